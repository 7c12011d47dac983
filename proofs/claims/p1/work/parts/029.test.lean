def tL : List Cond := (vx_atS RX6 181 "java/lang/IllegalArgumentException" ["java/lang/RuntimeException", "java/lang/Exception"]).filter (fun w => !goodWord w)
theorem t_castable : (tL.filter (fun w => match w with | .castable .. => true | _ => false)).length = 0 := by decide +kernel
theorem t_superclass : (tL.filter (fun w => match w with | .superclass .. => true | _ => false)).length = 0 := by decide +kernel
theorem t_native : (tL.filter (fun w => match w with | .native .. => true | _ => false)).length = 0 := by decide +kernel
theorem t_codeSync : (tL.filter (fun w => match w with | .codeSync .. => true | _ => false)).length = 0 := by decide +kernel
theorem t_laysStatic : (tL.filter (fun w => match w with | .laysStatic .. => true | _ => false)).length = 0 := by decide +kernel
theorem t_initialized : (tL.filter (fun w => match w with | .initialized .. => true | _ => false)).length = 0 := by decide +kernel
theorem t_instanceMethod : (tL.filter (fun w => match w with | .instanceMethod .. => true | _ => false)).length = 0 := by decide +kernel
theorem t_code : (tL.filter (fun w => match w with | .code .. => true | _ => false)).length = 0 := by decide +kernel
theorem t_fieldLink : (tL.filter (fun w => match w with | .fieldLink .. => true | _ => false)).length = 0 := by decide +kernel
theorem t_methodLink : (tL.filter (fun w => match w with | .methodLink .. => true | _ => false)).length = 0 := by decide +kernel
theorem t_lays : (tL.filter (fun w => match w with | .lays .. => true | _ => false)).length = 0 := by decide +kernel
theorem t_selects : (tL.filter (fun w => match w with | .selects .. => true | _ => false)).length = 0 := by decide +kernel
theorem t_instantiable : (tL.filter (fun w => match w with | .instantiable .. => true | _ => false)).length = 0 := by decide +kernel
theorem t_isRef : (tL.filter (fun w => match w with | .isRef .. => true | _ => false)).length = 0 := by decide +kernel
