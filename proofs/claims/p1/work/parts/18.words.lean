/-! the words of all contracts stand in the tables -/
set_option maxRecDepth 100000 in
theorem mb_0 : ∀ w ∈ (vx_atS RX6 181 "java/lang/IllegalArgumentException" ["java/lang/RuntimeException", "java/lang/Exception"]).filter goodWord, w ∈ lw_tbl := by decide +kernel
set_option maxRecDepth 100000 in
theorem mw_0 : (.initialized "java/lang/IllegalArgumentException" : Cond) ∈ lw_tbl := List.mem_of_getElem? (i := 102) (by decide +kernel)
set_option maxRecDepth 100000 in
theorem mw_1 : (.classLink RX6 177 "java/lang/IllegalArgumentException" : Cond) ∈ lw_tbl := List.mem_of_getElem? (i := 580) (by decide +kernel)
set_option maxRecDepth 100000 in
theorem mw_2 : (.code yX6_needRange cX6_needRange 3 none : Cond) ∈ lw_tbl := List.mem_of_getElem? (i := 579) (by decide +kernel)
theorem il_c_needRange : ∀ w ∈ us_c_needRange, w ∈ lw_tbl := List.forall_mem_cons.mpr ⟨mw_2, (List.forall_mem_append.mpr ⟨(List.forall_mem_cons.mpr ⟨mw_1, (List.forall_mem_cons.mpr ⟨mw_0, (fun _ h => nomatch h)⟩)⟩), (List.forall_mem_append.mpr ⟨mb_0, (fun _ h => nomatch h)⟩)⟩)⟩
theorem il_c_needRangeT : ∀ w ∈ us_c_needRangeT, w ∈ lw_tbl := List.forall_mem_cons.mpr ⟨mw_2, (List.forall_mem_append.mpr ⟨(List.forall_mem_cons.mpr ⟨mw_1, (List.forall_mem_cons.mpr ⟨mw_0, (fun _ h => nomatch h)⟩)⟩), (List.forall_mem_append.mpr ⟨mb_0, (fun _ h => nomatch h)⟩)⟩)⟩
set_option maxRecDepth 100000 in
theorem mb_1 : ∀ w ∈ (vx_atS RX6 447 "java/lang/IndexOutOfBoundsException" ["java/lang/RuntimeException", "java/lang/Exception"]).filter goodWord, w ∈ lw_tbl := by decide +kernel
set_option maxRecDepth 100000 in
theorem mw_3 : (.initialized "java/lang/IndexOutOfBoundsException" : Cond) ∈ lw_tbl := List.mem_of_getElem? (i := 103) (by decide +kernel)
set_option maxRecDepth 100000 in
theorem mw_4 : (.classLink RX6 443 "java/lang/IndexOutOfBoundsException" : Cond) ∈ lw_tbl := List.mem_of_getElem? (i := 690) (by decide +kernel)
set_option maxRecDepth 100000 in
theorem mw_5 : (.code yX6_needIndex cX6_needIndex 2 none : Cond) ∈ lw_tbl := List.mem_of_getElem? (i := 689) (by decide +kernel)
theorem il_c_needIndex : ∀ w ∈ us_c_needIndex, w ∈ lw_tbl := List.forall_mem_cons.mpr ⟨mw_5, (List.forall_mem_append.mpr ⟨(List.forall_mem_cons.mpr ⟨mw_4, (List.forall_mem_cons.mpr ⟨mw_3, (fun _ h => nomatch h)⟩)⟩), (List.forall_mem_append.mpr ⟨mb_1, (fun _ h => nomatch h)⟩)⟩)⟩
theorem il_c_needIndexT : ∀ w ∈ us_c_needIndexT, w ∈ lw_tbl := List.forall_mem_cons.mpr ⟨mw_5, (List.forall_mem_append.mpr ⟨(List.forall_mem_cons.mpr ⟨mw_4, (List.forall_mem_cons.mpr ⟨mw_3, (fun _ h => nomatch h)⟩)⟩), (List.forall_mem_append.mpr ⟨mb_1, (fun _ h => nomatch h)⟩)⟩)⟩
set_option maxRecDepth 100000 in
theorem mw_6 : (.code yX6_needKind cX6_needKind 1 none : Cond) ∈ lw_tbl := List.mem_of_getElem? (i := 705) (by decide +kernel)
theorem il_c_needKind : ∀ w ∈ us_c_needKind, w ∈ lw_tbl := List.forall_mem_cons.mpr ⟨mw_6, (List.forall_mem_append.mpr ⟨(List.forall_mem_cons.mpr ⟨mw_1, (List.forall_mem_cons.mpr ⟨mw_0, (fun _ h => nomatch h)⟩)⟩), (List.forall_mem_append.mpr ⟨mb_0, (fun _ h => nomatch h)⟩)⟩)⟩
set_option maxRecDepth 100000 in
theorem mb_2 : ∀ w ∈ wsX40, w ∈ lw_tbl := by decide +kernel
set_option maxRecDepth 100000 in
theorem mb_3 : ∀ w ∈ wsX60, w ∈ lw_tbl := by decide +kernel
set_option maxRecDepth 100000 in
theorem mw_7 : (.initialized RX6 : Cond) ∈ lw_tbl := List.mem_of_getElem? (i := 87) (by decide +kernel)
set_option maxRecDepth 100000 in
theorem mw_8 : (.static yX6_needIndex : Cond) ∈ lw_tbl := List.mem_of_getElem? (i := 688) (by decide +kernel)
set_option maxRecDepth 100000 in
theorem mw_9 : (.methodLink RX6 174 yX6_needIndex : Cond) ∈ lw_tbl := List.mem_of_getElem? (i := 687) (by decide +kernel)
set_option maxRecDepth 100000 in
theorem mw_10 : (.fieldLink RX6 88 "ControlWood$Terrain" "cells" "I" : Cond) ∈ lw_tbl := List.mem_of_getElem? (i := 147) (by decide +kernel)
set_option maxRecDepth 100000 in
theorem mw_11 : (.fieldLink RX6 12 "ControlWood" "ground" "LControlWood$Terrain;" : Cond) ∈ lw_tbl := List.mem_of_getElem? (i := 391) (by decide +kernel)
set_option maxRecDepth 100000 in
theorem mw_12 : (.code yX6_needCell cX6_needCell 2 none : Cond) ∈ lw_tbl := List.mem_of_getElem? (i := 686) (by decide +kernel)
theorem il_c_needCell : ∀ w ∈ us_c_needCell, w ∈ lw_tbl := List.forall_mem_cons.mpr ⟨mw_12, (List.forall_mem_append.mpr ⟨(List.forall_mem_cons.mpr ⟨mw_11, (List.forall_mem_cons.mpr ⟨mw_10, (List.forall_mem_cons.mpr ⟨mw_9, (List.forall_mem_cons.mpr ⟨mw_8, (List.forall_mem_cons.mpr ⟨mw_7, (fun _ h => nomatch h)⟩)⟩)⟩)⟩)⟩), (List.forall_mem_append.mpr ⟨mb_3, (List.forall_mem_append.mpr ⟨mb_2, (List.forall_mem_append.mpr ⟨il_c_needIndex, (fun _ h => nomatch h)⟩)⟩)⟩)⟩)⟩
theorem il_c_needCellT : ∀ w ∈ us_c_needCellT, w ∈ lw_tbl := List.forall_mem_cons.mpr ⟨mw_12, (List.forall_mem_append.mpr ⟨(List.forall_mem_cons.mpr ⟨mw_11, (List.forall_mem_cons.mpr ⟨mw_10, (List.forall_mem_cons.mpr ⟨mw_9, (List.forall_mem_cons.mpr ⟨mw_8, (List.forall_mem_cons.mpr ⟨mw_7, (fun _ h => nomatch h)⟩)⟩)⟩)⟩)⟩), (List.forall_mem_append.mpr ⟨mb_3, (List.forall_mem_append.mpr ⟨mb_2, (List.forall_mem_append.mpr ⟨il_c_needIndexT, (fun _ h => nomatch h)⟩)⟩)⟩)⟩)⟩
set_option maxRecDepth 100000 in
theorem mw_13 : (.fieldLink RX6 75 "ControlWood" "controlCount" "I" : Cond) ∈ lw_tbl := List.mem_of_getElem? (i := 393) (by decide +kernel)
set_option maxRecDepth 100000 in
theorem mw_14 : (.code yX6_needControl cX6_needControl 2 (some (.object "ControlWood$Post")) : Cond) ∈ lw_tbl := List.mem_of_getElem? (i := 816) (by decide +kernel)
theorem il_c_needControl : ∀ w ∈ us_c_needControl, w ∈ lw_tbl := List.forall_mem_cons.mpr ⟨mw_14, (List.forall_mem_append.mpr ⟨(List.forall_mem_cons.mpr ⟨mw_13, (List.forall_mem_cons.mpr ⟨mw_9, (List.forall_mem_cons.mpr ⟨mw_8, (List.forall_mem_cons.mpr ⟨mw_7, (fun _ h => nomatch h)⟩)⟩)⟩)⟩), (List.forall_mem_append.mpr ⟨mb_3, (List.forall_mem_append.mpr ⟨il_c_needIndexT, (fun _ h => nomatch h)⟩)⟩)⟩)⟩
set_option maxRecDepth 100000 in
theorem mw_15 : (.fieldLink RX6 79 "ControlWood" "courseCount" "I" : Cond) ∈ lw_tbl := List.mem_of_getElem? (i := 395) (by decide +kernel)
set_option maxRecDepth 100000 in
theorem mw_16 : (.code yX6_needCourse cX6_needCourse 2 (some (.object "ControlWood$Route")) : Cond) ∈ lw_tbl := List.mem_of_getElem? (i := 850) (by decide +kernel)
theorem il_c_needCourse : ∀ w ∈ us_c_needCourse, w ∈ lw_tbl := List.forall_mem_cons.mpr ⟨mw_16, (List.forall_mem_append.mpr ⟨(List.forall_mem_cons.mpr ⟨mw_15, (List.forall_mem_cons.mpr ⟨mw_9, (List.forall_mem_cons.mpr ⟨mw_8, (List.forall_mem_cons.mpr ⟨mw_7, (fun _ h => nomatch h)⟩)⟩)⟩)⟩), (List.forall_mem_append.mpr ⟨mb_3, (List.forall_mem_append.mpr ⟨il_c_needIndexT, (fun _ h => nomatch h)⟩)⟩)⟩)⟩
set_option maxRecDepth 100000 in
theorem mw_17 : (.fieldLink RX6 82 "ControlWood" "runnerCount" "I" : Cond) ∈ lw_tbl := List.mem_of_getElem? (i := 397) (by decide +kernel)
set_option maxRecDepth 100000 in
theorem mw_18 : (.code yX6_needRunner cX6_needRunner 2 (some (.object "ControlWood$Entrant")) : Cond) ∈ lw_tbl := List.mem_of_getElem? (i := 917) (by decide +kernel)
theorem il_c_needRunner : ∀ w ∈ us_c_needRunner, w ∈ lw_tbl := List.forall_mem_cons.mpr ⟨mw_18, (List.forall_mem_append.mpr ⟨(List.forall_mem_cons.mpr ⟨mw_17, (List.forall_mem_cons.mpr ⟨mw_9, (List.forall_mem_cons.mpr ⟨mw_8, (List.forall_mem_cons.mpr ⟨mw_7, (fun _ h => nomatch h)⟩)⟩)⟩)⟩), (List.forall_mem_append.mpr ⟨mb_3, (List.forall_mem_append.mpr ⟨il_c_needIndexT, (fun _ h => nomatch h)⟩)⟩)⟩)⟩
set_option maxRecDepth 100000 in
theorem mw_19 : (.fieldLink RX4 25 "ControlWood$Terrain" "shownKinds" "[C" : Cond) ∈ lw_tbl := List.mem_of_getElem? (i := 156) (by decide +kernel)
set_option maxRecDepth 100000 in
theorem mw_20 : (.fieldLink RX4 18 "ControlWood$Terrain" "kinds" "[C" : Cond) ∈ lw_tbl := List.mem_of_getElem? (i := 152) (by decide +kernel)
set_option maxRecDepth 100000 in
theorem mw_21 : (.code yX4_canEnter cX4_canEnter 3 (some .boolean) : Cond) ∈ lw_tbl := List.mem_of_getElem? (i := 544) (by decide +kernel)
theorem il_c_canEnter : ∀ w ∈ us_c_canEnter, w ∈ lw_tbl := List.forall_mem_cons.mpr ⟨mw_21, (List.forall_mem_append.mpr ⟨(List.forall_mem_cons.mpr ⟨mw_20, (List.forall_mem_cons.mpr ⟨mw_19, (fun _ h => nomatch h)⟩)⟩), (List.forall_mem_append.mpr ⟨mb_2, (fun _ h => nomatch h)⟩)⟩)⟩
set_option maxRecDepth 100000 in
theorem mw_22 : (.fieldLink RX4 22 "ControlWood$Terrain" "shownGrowths" "[I" : Cond) ∈ lw_tbl := List.mem_of_getElem? (i := 154) (by decide +kernel)
set_option maxRecDepth 100000 in
theorem mw_23 : (.code Lib.Math.max.name Lib.Math.max.code 2 (some .int) : Cond) ∈ lw_tbl := List.mem_of_getElem? (i := 551) (by decide +kernel)
set_option maxRecDepth 100000 in
theorem mw_24 : (.initialized "java/lang/Math" : Cond) ∈ lw_tbl := List.mem_of_getElem? (i := 106) (by decide +kernel)
set_option maxRecDepth 100000 in
theorem mw_25 : (.static Lib.Math.max.name : Cond) ∈ lw_tbl := List.mem_of_getElem? (i := 550) (by decide +kernel)
set_option maxRecDepth 100000 in
theorem mw_26 : (.methodLink RX4 83 Lib.Math.max.name : Cond) ∈ lw_tbl := List.mem_of_getElem? (i := 549) (by decide +kernel)
set_option maxRecDepth 100000 in
theorem mw_27 : (.fieldLink RX4 15 "ControlWood$Terrain" "heights" "[I" : Cond) ∈ lw_tbl := List.mem_of_getElem? (i := 150) (by decide +kernel)
set_option maxRecDepth 100000 in
theorem mw_28 : (.fieldLink RX4 9 "ControlWood$Terrain" "growths" "[I" : Cond) ∈ lw_tbl := List.mem_of_getElem? (i := 148) (by decide +kernel)
set_option maxRecDepth 100000 in
theorem mw_29 : (.code yX4_step cX4_step 6 (some .int) : Cond) ∈ lw_tbl := List.mem_of_getElem? (i := 548) (by decide +kernel)
theorem il_c_step : ∀ w ∈ us_c_step, w ∈ lw_tbl := List.forall_mem_cons.mpr ⟨mw_29, (List.forall_mem_append.mpr ⟨(List.forall_mem_cons.mpr ⟨mw_28, (List.forall_mem_cons.mpr ⟨mw_27, (List.forall_mem_cons.mpr ⟨mw_26, (List.forall_mem_cons.mpr ⟨mw_25, (List.forall_mem_cons.mpr ⟨mw_24, (List.forall_mem_cons.mpr ⟨mw_23, (List.forall_mem_cons.mpr ⟨mw_22, (fun _ h => nomatch h)⟩)⟩)⟩)⟩)⟩)⟩)⟩), (List.forall_mem_append.mpr ⟨mb_2, (fun _ h => nomatch h)⟩)⟩)⟩
set_option maxRecDepth 100000 in
theorem mw_30 : (.fieldLink RX4 40 "ControlWood$Terrain" "queue" "[I" : Cond) ∈ lw_tbl := List.mem_of_getElem? (i := 163) (by decide +kernel)
set_option maxRecDepth 100000 in
theorem mw_31 : (.fieldLink RX4 87 "ControlWood$Terrain" "head" "I" : Cond) ∈ lw_tbl := List.mem_of_getElem? (i := 165) (by decide +kernel)
set_option maxRecDepth 100000 in
theorem mw_32 : (.fieldLink RX4 90 "ControlWood$Terrain" "waiting" "I" : Cond) ∈ lw_tbl := List.mem_of_getElem? (i := 166) (by decide +kernel)
set_option maxRecDepth 100000 in
theorem mw_33 : (.fieldLink RX4 43 "ControlWood$Terrain" "isQueued" "[Z" : Cond) ∈ lw_tbl := List.mem_of_getElem? (i := 164) (by decide +kernel)
set_option maxRecDepth 100000 in
theorem mw_34 : (.fieldLink RX4 28 "ControlWood$Terrain" "ways" "[I" : Cond) ∈ lw_tbl := List.mem_of_getElem? (i := 158) (by decide +kernel)
set_option maxRecDepth 100000 in
theorem mw_35 : (.code yX4_reach cX4_reach 4 none : Cond) ∈ lw_tbl := List.mem_of_getElem? (i := 560) (by decide +kernel)
theorem il_c_reach : ∀ w ∈ us_c_reach, w ∈ lw_tbl := List.forall_mem_cons.mpr ⟨mw_35, (List.forall_mem_append.mpr ⟨(List.forall_mem_cons.mpr ⟨mw_34, (List.forall_mem_cons.mpr ⟨mw_33, (List.forall_mem_cons.mpr ⟨mw_32, (List.forall_mem_cons.mpr ⟨mw_31, (List.forall_mem_cons.mpr ⟨mw_30, (fun _ h => nomatch h)⟩)⟩)⟩)⟩)⟩), (List.forall_mem_append.mpr ⟨mb_2, (fun _ h => nomatch h)⟩)⟩)⟩
set_option maxRecDepth 100000 in
theorem mw_36 : (.code yX4_takeFirst cX4_takeFirst 2 (some .int) : Cond) ∈ lw_tbl := List.mem_of_getElem? (i := 564) (by decide +kernel)
theorem il_c_takeFirst : ∀ w ∈ us_c_takeFirst, w ∈ lw_tbl := List.forall_mem_cons.mpr ⟨mw_36, (List.forall_mem_append.mpr ⟨(List.forall_mem_cons.mpr ⟨mw_30, (List.forall_mem_cons.mpr ⟨mw_31, (List.forall_mem_cons.mpr ⟨mw_32, (List.forall_mem_cons.mpr ⟨mw_33, (fun _ h => nomatch h)⟩)⟩)⟩)⟩), (List.forall_mem_append.mpr ⟨mb_2, (fun _ h => nomatch h)⟩)⟩)⟩
set_option maxRecDepth 100000 in
theorem mw_37 : (.code yJ7_fill_53178 cJ7_fill_53178 4 none : Cond) ∈ lw_tbl := List.mem_of_getElem? (i := 386) (by decide +kernel)
theorem il_c_fillI : ∀ w ∈ us_c_fillI, w ∈ lw_tbl := List.forall_mem_cons.mpr ⟨mw_37, (List.forall_mem_append.mpr ⟨(fun _ h => nomatch h), (fun _ h => nomatch h)⟩)⟩
set_option maxRecDepth 100000 in
theorem mw_38 : (.selects RX4 yX4_reach yX4_reach : Cond) ∈ lw_tbl := List.mem_of_getElem? (i := 11) (by decide +kernel)
set_option maxRecDepth 100000 in
theorem mw_39 : (.instanceMethod yX4_reach : Cond) ∈ lw_tbl := List.mem_of_getElem? (i := 559) (by decide +kernel)
set_option maxRecDepth 100000 in
theorem mw_40 : (.methodLink RX4 93 yX4_reach : Cond) ∈ lw_tbl := List.mem_of_getElem? (i := 557) (by decide +kernel)
set_option maxRecDepth 100000 in
theorem mw_41 : (.selects RX4 yX4_step yX4_step : Cond) ∈ lw_tbl := List.mem_of_getElem? (i := 10) (by decide +kernel)
set_option maxRecDepth 100000 in
theorem mw_42 : (.instanceMethod yX4_step : Cond) ∈ lw_tbl := List.mem_of_getElem? (i := 547) (by decide +kernel)
set_option maxRecDepth 100000 in
theorem mw_43 : (.methodLink RX4 75 yX4_step : Cond) ∈ lw_tbl := List.mem_of_getElem? (i := 545) (by decide +kernel)
set_option maxRecDepth 100000 in
theorem mw_44 : (.initialized RX4 : Cond) ∈ lw_tbl := List.mem_of_getElem? (i := 88) (by decide +kernel)
set_option maxRecDepth 100000 in
theorem mw_45 : (.selects RX4 yX4_canEnter yX4_canEnter : Cond) ∈ lw_tbl := List.mem_of_getElem? (i := 9) (by decide +kernel)
set_option maxRecDepth 100000 in
theorem mw_46 : (.instanceMethod yX4_canEnter : Cond) ∈ lw_tbl := List.mem_of_getElem? (i := 543) (by decide +kernel)
set_option maxRecDepth 100000 in
theorem mw_47 : (.methodLink RX4 79 yX4_canEnter : Cond) ∈ lw_tbl := List.mem_of_getElem? (i := 541) (by decide +kernel)
set_option maxRecDepth 100000 in
theorem mw_48 : (.fieldLink RX4 37 "ControlWood$Terrain" "besides" "[I" : Cond) ∈ lw_tbl := List.mem_of_getElem? (i := 162) (by decide +kernel)
set_option maxRecDepth 100000 in
theorem mw_49 : (.code yX4_spreadFrom cX4_spreadFrom 6 none : Cond) ∈ lw_tbl := List.mem_of_getElem? (i := 568) (by decide +kernel)
theorem il_c_spreadFrom : ∀ w ∈ us_c_spreadFrom, w ∈ lw_tbl := List.forall_mem_cons.mpr ⟨mw_49, (List.forall_mem_append.mpr ⟨(List.forall_mem_cons.mpr ⟨mw_48, (List.forall_mem_cons.mpr ⟨mw_47, (List.forall_mem_cons.mpr ⟨mw_46, (List.forall_mem_cons.mpr ⟨mw_45, (List.forall_mem_cons.mpr ⟨mw_44, (List.forall_mem_cons.mpr ⟨mw_34, (List.forall_mem_cons.mpr ⟨mw_43, (List.forall_mem_cons.mpr ⟨mw_42, (List.forall_mem_cons.mpr ⟨mw_41, (List.forall_mem_cons.mpr ⟨mw_40, (List.forall_mem_cons.mpr ⟨mw_39, (List.forall_mem_cons.mpr ⟨mw_38, (fun _ h => nomatch h)⟩)⟩)⟩)⟩)⟩)⟩)⟩)⟩)⟩)⟩)⟩)⟩), (List.forall_mem_append.mpr ⟨mb_2, (List.forall_mem_append.mpr ⟨il_c_canEnter, (List.forall_mem_append.mpr ⟨il_c_step, (List.forall_mem_append.mpr ⟨il_c_reach, (fun _ h => nomatch h)⟩)⟩)⟩)⟩)⟩)⟩
set_option maxRecDepth 100000 in
theorem mw_50 : (.selects RX4 yX4_spreadFrom yX4_spreadFrom : Cond) ∈ lw_tbl := List.mem_of_getElem? (i := 13) (by decide +kernel)
set_option maxRecDepth 100000 in
theorem mw_51 : (.instanceMethod yX4_spreadFrom : Cond) ∈ lw_tbl := List.mem_of_getElem? (i := 567) (by decide +kernel)
set_option maxRecDepth 100000 in
theorem mw_52 : (.methodLink RX4 100 yX4_spreadFrom : Cond) ∈ lw_tbl := List.mem_of_getElem? (i := 565) (by decide +kernel)
set_option maxRecDepth 100000 in
theorem mw_53 : (.selects RX4 yX4_takeFirst yX4_takeFirst : Cond) ∈ lw_tbl := List.mem_of_getElem? (i := 12) (by decide +kernel)
set_option maxRecDepth 100000 in
theorem mw_54 : (.instanceMethod yX4_takeFirst : Cond) ∈ lw_tbl := List.mem_of_getElem? (i := 563) (by decide +kernel)
set_option maxRecDepth 100000 in
theorem mw_55 : (.methodLink RX4 97 yX4_takeFirst : Cond) ∈ lw_tbl := List.mem_of_getElem? (i := 561) (by decide +kernel)
set_option maxRecDepth 100000 in
theorem mw_56 : (.initialized RJ7 : Cond) ∈ lw_tbl := List.mem_of_getElem? (i := 94) (by decide +kernel)
set_option maxRecDepth 100000 in
theorem mw_57 : (.static yJ7_fill_53178 : Cond) ∈ lw_tbl := List.mem_of_getElem? (i := 385) (by decide +kernel)
set_option maxRecDepth 100000 in
theorem mw_58 : (.methodLink RX4 51 yJ7_fill_53178 : Cond) ∈ lw_tbl := List.mem_of_getElem? (i := 384) (by decide +kernel)
set_option maxRecDepth 100000 in
theorem mw_59 : (.constant RX4 67 (1000000) : Cond) ∈ lw_tbl := List.mem_of_getElem? (i := 556) (by decide +kernel)
set_option maxRecDepth 100000 in
theorem mw_60 : (.code yX4_spread cX4_spread 7 none : Cond) ∈ lw_tbl := List.mem_of_getElem? (i := 555) (by decide +kernel)
theorem il_c_spread : ∀ w ∈ us_c_spread, w ∈ lw_tbl := List.forall_mem_cons.mpr ⟨mw_60, (List.forall_mem_append.mpr ⟨(List.forall_mem_cons.mpr ⟨mw_34, (List.forall_mem_cons.mpr ⟨mw_59, (List.forall_mem_cons.mpr ⟨mw_58, (List.forall_mem_cons.mpr ⟨mw_57, (List.forall_mem_cons.mpr ⟨mw_56, (List.forall_mem_cons.mpr ⟨mw_31, (List.forall_mem_cons.mpr ⟨mw_32, (List.forall_mem_cons.mpr ⟨mw_40, (List.forall_mem_cons.mpr ⟨mw_39, (List.forall_mem_cons.mpr ⟨mw_38, (List.forall_mem_cons.mpr ⟨mw_44, (List.forall_mem_cons.mpr ⟨mw_55, (List.forall_mem_cons.mpr ⟨mw_54, (List.forall_mem_cons.mpr ⟨mw_53, (List.forall_mem_cons.mpr ⟨mw_52, (List.forall_mem_cons.mpr ⟨mw_51, (List.forall_mem_cons.mpr ⟨mw_50, (List.forall_mem_cons.mpr ⟨mw_47, (List.forall_mem_cons.mpr ⟨mw_46, (List.forall_mem_cons.mpr ⟨mw_45, (fun _ h => nomatch h)⟩)⟩)⟩)⟩)⟩)⟩)⟩)⟩)⟩)⟩)⟩)⟩)⟩)⟩)⟩)⟩)⟩)⟩)⟩)⟩), (List.forall_mem_append.mpr ⟨mb_2, (List.forall_mem_append.mpr ⟨il_c_fillI, (List.forall_mem_append.mpr ⟨il_c_reach, (List.forall_mem_append.mpr ⟨il_c_takeFirst, (List.forall_mem_append.mpr ⟨il_c_spreadFrom, (List.forall_mem_append.mpr ⟨il_c_canEnter, (fun _ h => nomatch h)⟩)⟩)⟩)⟩)⟩)⟩)⟩)⟩
set_option maxRecDepth 100000 in
theorem mw_61 : (.selects RX4 yX4_spread yX4_spread : Cond) ∈ lw_tbl := List.mem_of_getElem? (i := 554) (by decide +kernel)
set_option maxRecDepth 100000 in
theorem mw_62 : (.instanceMethod yX4_spread : Cond) ∈ lw_tbl := List.mem_of_getElem? (i := 553) (by decide +kernel)
set_option maxRecDepth 100000 in
theorem mw_63 : (.methodLink RX4 68 yX4_spread : Cond) ∈ lw_tbl := List.mem_of_getElem? (i := 552) (by decide +kernel)
set_option maxRecDepth 100000 in
theorem mw_64 : (.code yX4_bestCost cX4_bestCost 4 (some .int) : Cond) ∈ lw_tbl := List.mem_of_getElem? (i := 725) (by decide +kernel)
theorem il_c_bestCost : ∀ w ∈ us_c_bestCost, w ∈ lw_tbl := List.forall_mem_cons.mpr ⟨mw_64, (List.forall_mem_append.mpr ⟨(List.forall_mem_cons.mpr ⟨mw_59, (List.forall_mem_cons.mpr ⟨mw_63, (List.forall_mem_cons.mpr ⟨mw_62, (List.forall_mem_cons.mpr ⟨mw_61, (List.forall_mem_cons.mpr ⟨mw_44, (List.forall_mem_cons.mpr ⟨mw_34, (fun _ h => nomatch h)⟩)⟩)⟩)⟩)⟩)⟩), (List.forall_mem_append.mpr ⟨il_c_spread, (List.forall_mem_append.mpr ⟨mb_2, (fun _ h => nomatch h)⟩)⟩)⟩)⟩
set_option maxRecDepth 100000 in
theorem mw_65 : (.code yX4_nextOnMapWay cX4_nextOnMapWay 4 (some .int) : Cond) ∈ lw_tbl := List.mem_of_getElem? (i := 760) (by decide +kernel)
theorem il_c_nextOnMapWay : ∀ w ∈ us_c_nextOnMapWay, w ∈ lw_tbl := List.forall_mem_cons.mpr ⟨mw_65, (List.forall_mem_append.mpr ⟨(List.forall_mem_cons.mpr ⟨mw_48, (List.forall_mem_cons.mpr ⟨mw_47, (List.forall_mem_cons.mpr ⟨mw_46, (List.forall_mem_cons.mpr ⟨mw_45, (List.forall_mem_cons.mpr ⟨mw_44, (List.forall_mem_cons.mpr ⟨mw_34, (List.forall_mem_cons.mpr ⟨mw_43, (List.forall_mem_cons.mpr ⟨mw_42, (List.forall_mem_cons.mpr ⟨mw_41, (fun _ h => nomatch h)⟩)⟩)⟩)⟩)⟩)⟩)⟩)⟩)⟩), (List.forall_mem_append.mpr ⟨mb_2, (List.forall_mem_append.mpr ⟨il_c_canEnter, (List.forall_mem_append.mpr ⟨il_c_step, (fun _ h => nomatch h)⟩)⟩)⟩)⟩)⟩
set_option maxRecDepth 100000 in
theorem mw_66 : (.selects RX4 yX4_nextOnMapWay yX4_nextOnMapWay : Cond) ∈ lw_tbl := List.mem_of_getElem? (i := 16) (by decide +kernel)
set_option maxRecDepth 100000 in
theorem mw_67 : (.instanceMethod yX4_nextOnMapWay : Cond) ∈ lw_tbl := List.mem_of_getElem? (i := 759) (by decide +kernel)
set_option maxRecDepth 100000 in
theorem mw_68 : (.methodLink RX4 72 yX4_nextOnMapWay : Cond) ∈ lw_tbl := List.mem_of_getElem? (i := 757) (by decide +kernel)
set_option maxRecDepth 100000 in
theorem mw_69 : (.code yX4_costOfMapWay cX4_costOfMapWay 7 (some .int) : Cond) ∈ lw_tbl := List.mem_of_getElem? (i := 756) (by decide +kernel)
theorem il_c_costOfMapWay : ∀ w ∈ us_c_costOfMapWay, w ∈ lw_tbl := List.forall_mem_cons.mpr ⟨mw_69, (List.forall_mem_append.mpr ⟨(List.forall_mem_cons.mpr ⟨mw_59, (List.forall_mem_cons.mpr ⟨mw_63, (List.forall_mem_cons.mpr ⟨mw_62, (List.forall_mem_cons.mpr ⟨mw_61, (List.forall_mem_cons.mpr ⟨mw_44, (List.forall_mem_cons.mpr ⟨mw_34, (List.forall_mem_cons.mpr ⟨mw_68, (List.forall_mem_cons.mpr ⟨mw_67, (List.forall_mem_cons.mpr ⟨mw_66, (List.forall_mem_cons.mpr ⟨mw_20, (List.forall_mem_cons.mpr ⟨mw_43, (List.forall_mem_cons.mpr ⟨mw_42, (List.forall_mem_cons.mpr ⟨mw_41, (fun _ h => nomatch h)⟩)⟩)⟩)⟩)⟩)⟩)⟩)⟩)⟩)⟩)⟩)⟩)⟩), (List.forall_mem_append.mpr ⟨il_c_spread, (List.forall_mem_append.mpr ⟨mb_2, (List.forall_mem_append.mpr ⟨il_c_nextOnMapWay, (List.forall_mem_append.mpr ⟨il_c_step, (fun _ h => nomatch h)⟩)⟩)⟩)⟩)⟩)⟩
set_option maxRecDepth 100000 in
theorem mw_70 : (.code yX4_dearestStep cX4_dearestStep 5 (some .int) : Cond) ∈ lw_tbl := List.mem_of_getElem? (i := 540) (by decide +kernel)
theorem il_c_dearestStep : ∀ w ∈ us_c_dearestStep, w ∈ lw_tbl := List.forall_mem_cons.mpr ⟨mw_70, (List.forall_mem_append.mpr ⟨(List.forall_mem_cons.mpr ⟨mw_48, (List.forall_mem_cons.mpr ⟨mw_47, (List.forall_mem_cons.mpr ⟨mw_46, (List.forall_mem_cons.mpr ⟨mw_45, (List.forall_mem_cons.mpr ⟨mw_44, (List.forall_mem_cons.mpr ⟨mw_43, (List.forall_mem_cons.mpr ⟨mw_42, (List.forall_mem_cons.mpr ⟨mw_41, (List.forall_mem_cons.mpr ⟨mw_26, (List.forall_mem_cons.mpr ⟨mw_25, (List.forall_mem_cons.mpr ⟨mw_24, (List.forall_mem_cons.mpr ⟨mw_23, (fun _ h => nomatch h)⟩)⟩)⟩)⟩)⟩)⟩)⟩)⟩)⟩)⟩)⟩)⟩), (List.forall_mem_append.mpr ⟨mb_2, (List.forall_mem_append.mpr ⟨il_c_canEnter, (List.forall_mem_append.mpr ⟨il_c_step, (fun _ h => nomatch h)⟩)⟩)⟩)⟩)⟩
set_option maxRecDepth 100000 in
theorem mw_71 : (.selects RX4 yX4_dearestStep yX4_dearestStep : Cond) ∈ lw_tbl := List.mem_of_getElem? (i := 8) (by decide +kernel)
set_option maxRecDepth 100000 in
theorem mw_72 : (.instanceMethod yX4_dearestStep : Cond) ∈ lw_tbl := List.mem_of_getElem? (i := 539) (by decide +kernel)
set_option maxRecDepth 100000 in
theorem mw_73 : (.methodLink RX4 104 yX4_dearestStep : Cond) ∈ lw_tbl := List.mem_of_getElem? (i := 537) (by decide +kernel)
set_option maxRecDepth 100000 in
theorem mw_74 : (.fieldLink RX4 47 "ControlWood$Terrain" "cells" "I" : Cond) ∈ lw_tbl := List.mem_of_getElem? (i := 146) (by decide +kernel)
set_option maxRecDepth 100000 in
theorem mw_75 : (.code yX4_hasNoDearWay cX4_hasNoDearWay 4 (some .boolean) : Cond) ∈ lw_tbl := List.mem_of_getElem? (i := 536) (by decide +kernel)
theorem il_c_hasNoDearWay : ∀ w ∈ us_c_hasNoDearWay, w ∈ lw_tbl := List.forall_mem_cons.mpr ⟨mw_75, (List.forall_mem_append.mpr ⟨(List.forall_mem_cons.mpr ⟨mw_74, (List.forall_mem_cons.mpr ⟨mw_73, (List.forall_mem_cons.mpr ⟨mw_72, (List.forall_mem_cons.mpr ⟨mw_71, (List.forall_mem_cons.mpr ⟨mw_44, (List.forall_mem_cons.mpr ⟨mw_63, (List.forall_mem_cons.mpr ⟨mw_62, (List.forall_mem_cons.mpr ⟨mw_61, (List.forall_mem_cons.mpr ⟨mw_48, (List.forall_mem_cons.mpr ⟨mw_47, (List.forall_mem_cons.mpr ⟨mw_46, (List.forall_mem_cons.mpr ⟨mw_45, (List.forall_mem_cons.mpr ⟨mw_34, (List.forall_mem_cons.mpr ⟨mw_43, (List.forall_mem_cons.mpr ⟨mw_42, (List.forall_mem_cons.mpr ⟨mw_41, (fun _ h => nomatch h)⟩)⟩)⟩)⟩)⟩)⟩)⟩)⟩)⟩)⟩)⟩)⟩)⟩)⟩)⟩)⟩), (List.forall_mem_append.mpr ⟨mb_2, (List.forall_mem_append.mpr ⟨il_c_dearestStep, (List.forall_mem_append.mpr ⟨il_c_spread, (List.forall_mem_append.mpr ⟨il_c_canEnter, (List.forall_mem_append.mpr ⟨il_c_step, (fun _ h => nomatch h)⟩)⟩)⟩)⟩)⟩)⟩)⟩
set_option maxRecDepth 100000 in
theorem mw_76 : (.code yX4_printMap cX4_printMap 3 (some .int) : Cond) ∈ lw_tbl := List.mem_of_getElem? (i := 390) (by decide +kernel)
theorem il_c_printMap : ∀ w ∈ us_c_printMap, w ∈ lw_tbl := List.forall_mem_cons.mpr ⟨mw_76, (List.forall_mem_append.mpr ⟨(List.forall_mem_cons.mpr ⟨mw_74, (List.forall_mem_cons.mpr ⟨mw_22, (List.forall_mem_cons.mpr ⟨mw_28, (List.forall_mem_cons.mpr ⟨mw_19, (List.forall_mem_cons.mpr ⟨mw_20, (fun _ h => nomatch h)⟩)⟩)⟩)⟩)⟩), (List.forall_mem_append.mpr ⟨mb_2, (fun _ h => nomatch h)⟩)⟩)⟩
set_option maxRecDepth 100000 in
theorem mw_77 : (.fieldLink RX4 34 "ControlWood$Terrain" "rowOf" "[I" : Cond) ∈ lw_tbl := List.mem_of_getElem? (i := 161) (by decide +kernel)
set_option maxRecDepth 100000 in
theorem mw_78 : (.fieldLink RX4 31 "ControlWood$Terrain" "columnOf" "[I" : Cond) ∈ lw_tbl := List.mem_of_getElem? (i := 160) (by decide +kernel)
set_option maxRecDepth 100000 in
theorem mw_79 : (.selects RX4 yX4_printMap yX4_printMap : Cond) ∈ lw_tbl := List.mem_of_getElem? (i := 389) (by decide +kernel)
set_option maxRecDepth 100000 in
theorem mw_80 : (.instanceMethod yX4_printMap : Cond) ∈ lw_tbl := List.mem_of_getElem? (i := 388) (by decide +kernel)
set_option maxRecDepth 100000 in
theorem mw_81 : (.methodLink RX4 57 yX4_printMap : Cond) ∈ lw_tbl := List.mem_of_getElem? (i := 387) (by decide +kernel)
set_option maxRecDepth 100000 in
theorem mw_82 : (.code yX4_begin cX4_begin 6 none : Cond) ∈ lw_tbl := List.mem_of_getElem? (i := 383) (by decide +kernel)
theorem il_c_begin : ∀ w ∈ us_c_begin, w ∈ lw_tbl := List.forall_mem_cons.mpr ⟨mw_82, (List.forall_mem_append.mpr ⟨(List.forall_mem_cons.mpr ⟨mw_74, (List.forall_mem_cons.mpr ⟨mw_28, (List.forall_mem_cons.mpr ⟨mw_58, (List.forall_mem_cons.mpr ⟨mw_57, (List.forall_mem_cons.mpr ⟨mw_56, (List.forall_mem_cons.mpr ⟨mw_27, (List.forall_mem_cons.mpr ⟨mw_81, (List.forall_mem_cons.mpr ⟨mw_80, (List.forall_mem_cons.mpr ⟨mw_79, (List.forall_mem_cons.mpr ⟨mw_44, (List.forall_mem_cons.mpr ⟨mw_20, (List.forall_mem_cons.mpr ⟨mw_78, (List.forall_mem_cons.mpr ⟨mw_77, (List.forall_mem_cons.mpr ⟨mw_48, (fun _ h => nomatch h)⟩)⟩)⟩)⟩)⟩)⟩)⟩)⟩)⟩)⟩)⟩)⟩)⟩)⟩), (List.forall_mem_append.mpr ⟨mb_2, (List.forall_mem_append.mpr ⟨il_c_fillI, (List.forall_mem_append.mpr ⟨il_c_printMap, (fun _ h => nomatch h)⟩)⟩)⟩)⟩)⟩
set_option maxRecDepth 100000 in
theorem mw_83 : (.arrayClass .boolean : Cond) ∈ lw_tbl := List.mem_of_getElem? (i := 198) (by decide +kernel)
set_option maxRecDepth 100000 in
theorem mw_84 : (.arrayClass .char : Cond) ∈ lw_tbl := List.mem_of_getElem? (i := 197) (by decide +kernel)
set_option maxRecDepth 100000 in
theorem mw_85 : (.arrayClass .int : Cond) ∈ lw_tbl := List.mem_of_getElem? (i := 196) (by decide +kernel)
set_option maxRecDepth 100000 in
theorem mw_86 : (.code objectInit ⟨#[0xb1]⟩ 1 none : Cond) ∈ lw_tbl := List.mem_of_getElem? (i := 139) (by decide +kernel)
set_option maxRecDepth 100000 in
theorem mw_87 : (.instanceMethod objectInit : Cond) ∈ lw_tbl := List.mem_of_getElem? (i := 138) (by decide +kernel)
set_option maxRecDepth 100000 in
theorem mw_88 : (.methodLink RX4 3 objectInit : Cond) ∈ lw_tbl := List.mem_of_getElem? (i := 145) (by decide +kernel)
set_option maxRecDepth 100000 in
theorem mw_89 : (.code yX4_init cX4_init 1 none : Cond) ∈ lw_tbl := List.mem_of_getElem? (i := 144) (by decide +kernel)
theorem il_c_X4_init : ∀ w ∈ us_c_X4_init, w ∈ lw_tbl := List.forall_mem_cons.mpr ⟨mw_89, (List.forall_mem_append.mpr ⟨(List.forall_mem_cons.mpr ⟨mw_88, (List.forall_mem_cons.mpr ⟨mw_87, (List.forall_mem_cons.mpr ⟨mw_86, (List.forall_mem_cons.mpr ⟨mw_85, (List.forall_mem_cons.mpr ⟨mw_28, (List.forall_mem_cons.mpr ⟨mw_27, (List.forall_mem_cons.mpr ⟨mw_84, (List.forall_mem_cons.mpr ⟨mw_20, (List.forall_mem_cons.mpr ⟨mw_22, (List.forall_mem_cons.mpr ⟨mw_19, (List.forall_mem_cons.mpr ⟨mw_34, (List.forall_mem_cons.mpr ⟨mw_78, (List.forall_mem_cons.mpr ⟨mw_77, (List.forall_mem_cons.mpr ⟨mw_48, (List.forall_mem_cons.mpr ⟨mw_30, (List.forall_mem_cons.mpr ⟨mw_83, (List.forall_mem_cons.mpr ⟨mw_33, (fun _ h => nomatch h)⟩)⟩)⟩)⟩)⟩)⟩)⟩)⟩)⟩)⟩)⟩)⟩)⟩)⟩)⟩)⟩)⟩), (List.forall_mem_append.mpr ⟨mb_2, (fun _ h => nomatch h)⟩)⟩)⟩
set_option maxRecDepth 100000 in
theorem mb_4 : ∀ w ∈ wsX30, w ∈ lw_tbl := by decide +kernel
set_option maxRecDepth 100000 in
theorem mw_90 : (.fieldLink RX3 18 "ControlWood$Route" "voids" "[Z" : Cond) ∈ lw_tbl := List.mem_of_getElem? (i := 297) (by decide +kernel)
set_option maxRecDepth 100000 in
theorem mw_91 : (.fieldLink RX3 15 "ControlWood$Route" "others" "[I" : Cond) ∈ lw_tbl := List.mem_of_getElem? (i := 295) (by decide +kernel)
set_option maxRecDepth 100000 in
theorem mw_92 : (.fieldLink RX3 9 "ControlWood$Route" "controls" "[I" : Cond) ∈ lw_tbl := List.mem_of_getElem? (i := 293) (by decide +kernel)
set_option maxRecDepth 100000 in
theorem mw_93 : (.methodLink RX3 3 objectInit : Cond) ∈ lw_tbl := List.mem_of_getElem? (i := 287) (by decide +kernel)
set_option maxRecDepth 100000 in
theorem mw_94 : (.code yX3_init cX3_init 1 none : Cond) ∈ lw_tbl := List.mem_of_getElem? (i := 286) (by decide +kernel)
theorem il_c_X3_init : ∀ w ∈ us_c_X3_init, w ∈ lw_tbl := List.forall_mem_cons.mpr ⟨mw_94, (List.forall_mem_append.mpr ⟨(List.forall_mem_cons.mpr ⟨mw_93, (List.forall_mem_cons.mpr ⟨mw_87, (List.forall_mem_cons.mpr ⟨mw_86, (List.forall_mem_cons.mpr ⟨mw_85, (List.forall_mem_cons.mpr ⟨mw_92, (List.forall_mem_cons.mpr ⟨mw_91, (List.forall_mem_cons.mpr ⟨mw_83, (List.forall_mem_cons.mpr ⟨mw_90, (fun _ h => nomatch h)⟩)⟩)⟩)⟩)⟩)⟩)⟩)⟩), (List.forall_mem_append.mpr ⟨mb_4, (fun _ h => nomatch h)⟩)⟩)⟩
set_option maxRecDepth 100000 in
theorem mb_5 : ∀ w ∈ wsX00, w ∈ lw_tbl := by decide +kernel
set_option maxRecDepth 100000 in
theorem mw_95 : (.fieldLink RX0 27 "ControlWood$Entrant" "splits" "[I" : Cond) ∈ lw_tbl := List.mem_of_getElem? (i := 344) (by decide +kernel)
set_option maxRecDepth 100000 in
theorem mw_96 : (.fieldLink RX0 24 "ControlWood$Entrant" "found" "[I" : Cond) ∈ lw_tbl := List.mem_of_getElem? (i := 342) (by decide +kernel)
set_option maxRecDepth 100000 in
theorem mw_97 : (.fieldLink RX0 21 "ControlWood$Entrant" "fixSeconds" "[I" : Cond) ∈ lw_tbl := List.mem_of_getElem? (i := 338) (by decide +kernel)
set_option maxRecDepth 100000 in
theorem mw_98 : (.fieldLink RX0 18 "ControlWood$Entrant" "fixCells" "[I" : Cond) ∈ lw_tbl := List.mem_of_getElem? (i := 336) (by decide +kernel)
set_option maxRecDepth 100000 in
theorem mw_99 : (.fieldLink RX0 15 "ControlWood$Entrant" "punchSeconds" "[I" : Cond) ∈ lw_tbl := List.mem_of_getElem? (i := 332) (by decide +kernel)
set_option maxRecDepth 100000 in
theorem mw_100 : (.fieldLink RX0 9 "ControlWood$Entrant" "punchControls" "[I" : Cond) ∈ lw_tbl := List.mem_of_getElem? (i := 330) (by decide +kernel)
set_option maxRecDepth 100000 in
theorem mw_101 : (.methodLink RX0 3 objectInit : Cond) ∈ lw_tbl := List.mem_of_getElem? (i := 315) (by decide +kernel)
set_option maxRecDepth 100000 in
theorem mw_102 : (.code yX0_init cX0_init 1 none : Cond) ∈ lw_tbl := List.mem_of_getElem? (i := 314) (by decide +kernel)
theorem il_c_X0_init : ∀ w ∈ us_c_X0_init, w ∈ lw_tbl := List.forall_mem_cons.mpr ⟨mw_102, (List.forall_mem_append.mpr ⟨(List.forall_mem_cons.mpr ⟨mw_101, (List.forall_mem_cons.mpr ⟨mw_87, (List.forall_mem_cons.mpr ⟨mw_86, (List.forall_mem_cons.mpr ⟨mw_85, (List.forall_mem_cons.mpr ⟨mw_100, (List.forall_mem_cons.mpr ⟨mw_99, (List.forall_mem_cons.mpr ⟨mw_98, (List.forall_mem_cons.mpr ⟨mw_97, (List.forall_mem_cons.mpr ⟨mw_96, (List.forall_mem_cons.mpr ⟨mw_95, (fun _ h => nomatch h)⟩)⟩)⟩)⟩)⟩)⟩)⟩)⟩)⟩)⟩), (List.forall_mem_append.mpr ⟨mb_5, (fun _ h => nomatch h)⟩)⟩)⟩
set_option maxRecDepth 100000 in
theorem mb_6 : ∀ w ∈ wsX20, w ∈ lw_tbl := by decide +kernel
set_option maxRecDepth 100000 in
theorem mw_103 : (.fieldLink RX2 21 "ControlWood$Relay" "legCounts" "[I" : Cond) ∈ lw_tbl := List.mem_of_getElem? (i := 220) (by decide +kernel)
set_option maxRecDepth 100000 in
theorem mw_104 : (.fieldLink RX2 18 "ControlWood$Relay" "legs" "[I" : Cond) ∈ lw_tbl := List.mem_of_getElem? (i := 218) (by decide +kernel)
set_option maxRecDepth 100000 in
theorem mw_105 : (.fieldLink RX2 15 "ControlWood$Relay" "branches" "[I" : Cond) ∈ lw_tbl := List.mem_of_getElem? (i := 216) (by decide +kernel)
set_option maxRecDepth 100000 in
theorem mw_106 : (.fieldLink RX2 9 "ControlWood$Relay" "runs" "[I" : Cond) ∈ lw_tbl := List.mem_of_getElem? (i := 214) (by decide +kernel)
set_option maxRecDepth 100000 in
theorem mw_107 : (.methodLink RX2 3 objectInit : Cond) ∈ lw_tbl := List.mem_of_getElem? (i := 210) (by decide +kernel)
set_option maxRecDepth 100000 in
theorem mw_108 : (.code yX2_init cX2_init 1 none : Cond) ∈ lw_tbl := List.mem_of_getElem? (i := 209) (by decide +kernel)
theorem il_c_X2_init : ∀ w ∈ us_c_X2_init, w ∈ lw_tbl := List.forall_mem_cons.mpr ⟨mw_108, (List.forall_mem_append.mpr ⟨(List.forall_mem_cons.mpr ⟨mw_107, (List.forall_mem_cons.mpr ⟨mw_87, (List.forall_mem_cons.mpr ⟨mw_86, (List.forall_mem_cons.mpr ⟨mw_85, (List.forall_mem_cons.mpr ⟨mw_106, (List.forall_mem_cons.mpr ⟨mw_105, (List.forall_mem_cons.mpr ⟨mw_104, (List.forall_mem_cons.mpr ⟨mw_103, (fun _ h => nomatch h)⟩)⟩)⟩)⟩)⟩)⟩)⟩)⟩), (List.forall_mem_append.mpr ⟨mb_6, (fun _ h => nomatch h)⟩)⟩)⟩
set_option maxRecDepth 100000 in
theorem mb_7 : ∀ w ∈ wsX50, w ∈ lw_tbl := by decide +kernel
set_option maxRecDepth 100000 in
theorem mw_109 : (.fieldLink RX5 19 "ControlWood$Tour" "tourTimes" "[I" : Cond) ∈ lw_tbl := List.mem_of_getElem? (i := 245) (by decide +kernel)
set_option maxRecDepth 100000 in
theorem mw_110 : (.constant RX5 18 (49152) : Cond) ∈ lw_tbl := List.mem_of_getElem? (i := 241) (by decide +kernel)
set_option maxRecDepth 100000 in
theorem mw_111 : (.fieldLink RX5 15 "ControlWood$Tour" "wayTimes" "[I" : Cond) ∈ lw_tbl := List.mem_of_getElem? (i := 244) (by decide +kernel)
set_option maxRecDepth 100000 in
theorem mw_112 : (.fieldLink RX5 9 "ControlWood$Tour" "points" "[I" : Cond) ∈ lw_tbl := List.mem_of_getElem? (i := 242) (by decide +kernel)
set_option maxRecDepth 100000 in
theorem mw_113 : (.methodLink RX5 3 objectInit : Cond) ∈ lw_tbl := List.mem_of_getElem? (i := 240) (by decide +kernel)
set_option maxRecDepth 100000 in
theorem mw_114 : (.code yX5_init cX5_init 1 none : Cond) ∈ lw_tbl := List.mem_of_getElem? (i := 239) (by decide +kernel)
theorem il_c_X5_init : ∀ w ∈ us_c_X5_init, w ∈ lw_tbl := List.forall_mem_cons.mpr ⟨mw_114, (List.forall_mem_append.mpr ⟨(List.forall_mem_cons.mpr ⟨mw_113, (List.forall_mem_cons.mpr ⟨mw_87, (List.forall_mem_cons.mpr ⟨mw_86, (List.forall_mem_cons.mpr ⟨mw_85, (List.forall_mem_cons.mpr ⟨mw_112, (List.forall_mem_cons.mpr ⟨mw_111, (List.forall_mem_cons.mpr ⟨mw_110, (List.forall_mem_cons.mpr ⟨mw_109, (fun _ h => nomatch h)⟩)⟩)⟩)⟩)⟩)⟩)⟩)⟩), (List.forall_mem_append.mpr ⟨mb_7, (fun _ h => nomatch h)⟩)⟩)⟩
set_option maxRecDepth 100000 in
theorem mw_115 : (.methodLink RX1 3 objectInit : Cond) ∈ lw_tbl := List.mem_of_getElem? (i := 257) (by decide +kernel)
set_option maxRecDepth 100000 in
theorem mw_116 : (.code yX1_init cX1_init 1 none : Cond) ∈ lw_tbl := List.mem_of_getElem? (i := 256) (by decide +kernel)
theorem il_c_X1_init : ∀ w ∈ us_c_X1_init, w ∈ lw_tbl := List.forall_mem_cons.mpr ⟨mw_116, (List.forall_mem_append.mpr ⟨(List.forall_mem_cons.mpr ⟨mw_115, (List.forall_mem_cons.mpr ⟨mw_87, (List.forall_mem_cons.mpr ⟨mw_86, (fun _ h => nomatch h)⟩)⟩)⟩), (fun _ h => nomatch h)⟩)⟩
set_option maxRecDepth 100000 in
theorem mb_8 : ∀ w ∈ wsX10, w ∈ lw_tbl := by decide +kernel
set_option maxRecDepth 100000 in
theorem mw_117 : (.selects RX4 yX4_begin yX4_begin : Cond) ∈ lw_tbl := List.mem_of_getElem? (i := 382) (by decide +kernel)
set_option maxRecDepth 100000 in
theorem mw_118 : (.instanceMethod yX4_begin : Cond) ∈ lw_tbl := List.mem_of_getElem? (i := 381) (by decide +kernel)
set_option maxRecDepth 100000 in
theorem mw_119 : (.methodLink RX6 67 yX4_begin : Cond) ∈ lw_tbl := List.mem_of_getElem? (i := 380) (by decide +kernel)
set_option maxRecDepth 100000 in
theorem mw_120 : (.instanceMethod yX0_init : Cond) ∈ lw_tbl := List.mem_of_getElem? (i := 313) (by decide +kernel)
set_option maxRecDepth 100000 in
theorem mw_121 : (.initialized RX0 : Cond) ∈ lw_tbl := List.mem_of_getElem? (i := 93) (by decide +kernel)
set_option maxRecDepth 100000 in
theorem mw_122 : (.instantiable RX0 16 : Cond) ∈ lw_tbl := List.mem_of_getElem? (i := 311) (by decide +kernel)
set_option maxRecDepth 100000 in
theorem mw_123 : (.instanceMethod yX3_init : Cond) ∈ lw_tbl := List.mem_of_getElem? (i := 285) (by decide +kernel)
set_option maxRecDepth 100000 in
theorem mw_124 : (.initialized RX3 : Cond) ∈ lw_tbl := List.mem_of_getElem? (i := 92) (by decide +kernel)
set_option maxRecDepth 100000 in
theorem mw_125 : (.instantiable RX3 5 : Cond) ∈ lw_tbl := List.mem_of_getElem? (i := 283) (by decide +kernel)
set_option maxRecDepth 100000 in
theorem mw_126 : (.instanceMethod yX1_init : Cond) ∈ lw_tbl := List.mem_of_getElem? (i := 255) (by decide +kernel)
set_option maxRecDepth 100000 in
theorem mw_127 : (.initialized RX1 : Cond) ∈ lw_tbl := List.mem_of_getElem? (i := 91) (by decide +kernel)
set_option maxRecDepth 100000 in
theorem mw_128 : (.instantiable RX1 6 : Cond) ∈ lw_tbl := List.mem_of_getElem? (i := 253) (by decide +kernel)
set_option maxRecDepth 100000 in
theorem mw_129 : (.fieldLink RX6 61 "ControlWood" "costsTo" "[I" : Cond) ∈ lw_tbl := List.mem_of_getElem? (i := 404) (by decide +kernel)
set_option maxRecDepth 100000 in
theorem mw_130 : (.fieldLink RX6 58 "ControlWood" "rates" "[I" : Cond) ∈ lw_tbl := List.mem_of_getElem? (i := 403) (by decide +kernel)
set_option maxRecDepth 100000 in
theorem mw_131 : (.fieldLink RX6 55 "ControlWood" "sorted" "[I" : Cond) ∈ lw_tbl := List.mem_of_getElem? (i := 402) (by decide +kernel)
set_option maxRecDepth 100000 in
theorem mw_132 : (.fieldLink RX6 52 "ControlWood" "lots" "[I" : Cond) ∈ lw_tbl := List.mem_of_getElem? (i := 401) (by decide +kernel)
set_option maxRecDepth 100000 in
theorem mw_133 : (.fieldLink RX6 48 "ControlWood" "line" "[I" : Cond) ∈ lw_tbl := List.mem_of_getElem? (i := 400) (by decide +kernel)
set_option maxRecDepth 100000 in
theorem mw_134 : (.fieldLink RX6 44 "ControlWood" "tour" "LControlWood$Tour;" : Cond) ∈ lw_tbl := List.mem_of_getElem? (i := 399) (by decide +kernel)
set_option maxRecDepth 100000 in
theorem mw_135 : (.instanceMethod yX5_init : Cond) ∈ lw_tbl := List.mem_of_getElem? (i := 238) (by decide +kernel)
set_option maxRecDepth 100000 in
theorem mw_136 : (.initialized RX5 : Cond) ∈ lw_tbl := List.mem_of_getElem? (i := 90) (by decide +kernel)
set_option maxRecDepth 100000 in
theorem mw_137 : (.instantiable RX5 3 : Cond) ∈ lw_tbl := List.mem_of_getElem? (i := 236) (by decide +kernel)
set_option maxRecDepth 100000 in
theorem mw_138 : (.classLink RX6 41 RX5 : Cond) ∈ lw_tbl := List.mem_of_getElem? (i := 235) (by decide +kernel)
set_option maxRecDepth 100000 in
theorem mw_139 : (.fieldLink RX6 37 "ControlWood" "relay" "LControlWood$Relay;" : Cond) ∈ lw_tbl := List.mem_of_getElem? (i := 398) (by decide +kernel)
set_option maxRecDepth 100000 in
theorem mw_140 : (.instanceMethod yX2_init : Cond) ∈ lw_tbl := List.mem_of_getElem? (i := 208) (by decide +kernel)
set_option maxRecDepth 100000 in
theorem mw_141 : (.initialized RX2 : Cond) ∈ lw_tbl := List.mem_of_getElem? (i := 89) (by decide +kernel)
set_option maxRecDepth 100000 in
theorem mw_142 : (.instantiable RX2 6 : Cond) ∈ lw_tbl := List.mem_of_getElem? (i := 206) (by decide +kernel)
set_option maxRecDepth 100000 in
theorem mw_143 : (.classLink RX6 34 RX2 : Cond) ∈ lw_tbl := List.mem_of_getElem? (i := 205) (by decide +kernel)
set_option maxRecDepth 100000 in
theorem mw_144 : (.fieldLink RX6 30 "ControlWood" "runners" "[LControlWood$Entrant;" : Cond) ∈ lw_tbl := List.mem_of_getElem? (i := 396) (by decide +kernel)
set_option maxRecDepth 100000 in
theorem mw_145 : (.classLink RX6 28 RX0 : Cond) ∈ lw_tbl := List.mem_of_getElem? (i := 203) (by decide +kernel)
set_option maxRecDepth 100000 in
theorem mw_146 : (.fieldLink RX6 24 "ControlWood" "courses" "[LControlWood$Route;" : Cond) ∈ lw_tbl := List.mem_of_getElem? (i := 394) (by decide +kernel)
set_option maxRecDepth 100000 in
theorem mw_147 : (.classLink RX6 22 RX3 : Cond) ∈ lw_tbl := List.mem_of_getElem? (i := 201) (by decide +kernel)
set_option maxRecDepth 100000 in
theorem mw_148 : (.fieldLink RX6 18 "ControlWood" "controls" "[LControlWood$Post;" : Cond) ∈ lw_tbl := List.mem_of_getElem? (i := 392) (by decide +kernel)
set_option maxRecDepth 100000 in
theorem mw_149 : (.classLink RX6 16 RX1 : Cond) ∈ lw_tbl := List.mem_of_getElem? (i := 199) (by decide +kernel)
set_option maxRecDepth 100000 in
theorem mw_150 : (.instanceMethod yX4_init : Cond) ∈ lw_tbl := List.mem_of_getElem? (i := 143) (by decide +kernel)
set_option maxRecDepth 100000 in
theorem mw_151 : (.instantiable RX4 14 : Cond) ∈ lw_tbl := List.mem_of_getElem? (i := 141) (by decide +kernel)
set_option maxRecDepth 100000 in
theorem mw_152 : (.classLink RX6 9 RX4 : Cond) ∈ lw_tbl := List.mem_of_getElem? (i := 140) (by decide +kernel)
set_option maxRecDepth 100000 in
theorem mw_153 : (.methodLink RX6 3 objectInit : Cond) ∈ lw_tbl := List.mem_of_getElem? (i := 137) (by decide +kernel)
set_option maxRecDepth 100000 in
theorem mw_154 : (.code yX6_init cX6_init 2 none : Cond) ∈ lw_tbl := List.mem_of_getElem? (i := 136) (by decide +kernel)
theorem il_c_X6_init : ∀ w ∈ us_c_X6_init, w ∈ lw_tbl := List.forall_mem_cons.mpr ⟨mw_154, (List.forall_mem_append.mpr ⟨(List.forall_mem_cons.mpr ⟨mw_153, (List.forall_mem_cons.mpr ⟨mw_87, (List.forall_mem_cons.mpr ⟨mw_86, (List.forall_mem_cons.mpr ⟨mw_152, (List.forall_mem_cons.mpr ⟨mw_151, (List.forall_mem_cons.mpr ⟨mw_44, (List.forall_mem_cons.mpr ⟨mw_150, (List.forall_mem_cons.mpr ⟨mw_11, (List.forall_mem_cons.mpr ⟨mw_149, (List.forall_mem_cons.mpr ⟨mw_148, (List.forall_mem_cons.mpr ⟨mw_147, (List.forall_mem_cons.mpr ⟨mw_146, (List.forall_mem_cons.mpr ⟨mw_145, (List.forall_mem_cons.mpr ⟨mw_144, (List.forall_mem_cons.mpr ⟨mw_143, (List.forall_mem_cons.mpr ⟨mw_142, (List.forall_mem_cons.mpr ⟨mw_141, (List.forall_mem_cons.mpr ⟨mw_140, (List.forall_mem_cons.mpr ⟨mw_139, (List.forall_mem_cons.mpr ⟨mw_138, (List.forall_mem_cons.mpr ⟨mw_137, (List.forall_mem_cons.mpr ⟨mw_136, (List.forall_mem_cons.mpr ⟨mw_135, (List.forall_mem_cons.mpr ⟨mw_134, (List.forall_mem_cons.mpr ⟨mw_85, (List.forall_mem_cons.mpr ⟨mw_133, (List.forall_mem_cons.mpr ⟨mw_132, (List.forall_mem_cons.mpr ⟨mw_131, (List.forall_mem_cons.mpr ⟨mw_130, (List.forall_mem_cons.mpr ⟨mw_129, (List.forall_mem_cons.mpr ⟨mw_128, (List.forall_mem_cons.mpr ⟨mw_127, (List.forall_mem_cons.mpr ⟨mw_126, (List.forall_mem_cons.mpr ⟨mw_125, (List.forall_mem_cons.mpr ⟨mw_124, (List.forall_mem_cons.mpr ⟨mw_123, (List.forall_mem_cons.mpr ⟨mw_122, (List.forall_mem_cons.mpr ⟨mw_121, (List.forall_mem_cons.mpr ⟨mw_120, (List.forall_mem_cons.mpr ⟨mw_119, (List.forall_mem_cons.mpr ⟨mw_118, (List.forall_mem_cons.mpr ⟨mw_117, (fun _ h => nomatch h)⟩)⟩)⟩)⟩)⟩)⟩)⟩)⟩)⟩)⟩)⟩)⟩)⟩)⟩)⟩)⟩)⟩)⟩)⟩)⟩)⟩)⟩)⟩)⟩)⟩)⟩)⟩)⟩)⟩)⟩)⟩)⟩)⟩)⟩)⟩)⟩)⟩)⟩)⟩)⟩)⟩)⟩), (List.forall_mem_append.mpr ⟨mb_2, (List.forall_mem_append.mpr ⟨il_c_X4_init, (List.forall_mem_append.mpr ⟨mb_3, (List.forall_mem_append.mpr ⟨mb_6, (List.forall_mem_append.mpr ⟨il_c_X2_init, (List.forall_mem_append.mpr ⟨mb_7, (List.forall_mem_append.mpr ⟨il_c_X5_init, (List.forall_mem_append.mpr ⟨mb_8, (List.forall_mem_append.mpr ⟨il_c_X1_init, (List.forall_mem_append.mpr ⟨mb_4, (List.forall_mem_append.mpr ⟨il_c_X3_init, (List.forall_mem_append.mpr ⟨mb_5, (List.forall_mem_append.mpr ⟨il_c_X0_init, (List.forall_mem_append.mpr ⟨il_c_begin, (fun _ h => nomatch h)⟩)⟩)⟩)⟩)⟩)⟩)⟩)⟩)⟩)⟩)⟩)⟩)⟩)⟩)⟩)⟩
set_option maxRecDepth 100000 in
theorem mw_155 : (.selects RX6 yX6_needControl yX6_needControl : Cond) ∈ lw_tbl := List.mem_of_getElem? (i := 17) (by decide +kernel)
set_option maxRecDepth 100000 in
theorem mw_156 : (.instanceMethod yX6_needControl : Cond) ∈ lw_tbl := List.mem_of_getElem? (i := 815) (by decide +kernel)
set_option maxRecDepth 100000 in
theorem mw_157 : (.methodLink RX6 145 yX6_needControl : Cond) ∈ lw_tbl := List.mem_of_getElem? (i := 813) (by decide +kernel)
set_option maxRecDepth 100000 in
theorem mw_158 : (.code yX6_areNear cX6_areNear 4 (some .boolean) : Cond) ∈ lw_tbl := List.mem_of_getElem? (i := 812) (by decide +kernel)
theorem il_c_areNear : ∀ w ∈ us_c_areNear, w ∈ lw_tbl := List.forall_mem_cons.mpr ⟨mw_158, (List.forall_mem_append.mpr ⟨(List.forall_mem_cons.mpr ⟨mw_157, (List.forall_mem_cons.mpr ⟨mw_156, (List.forall_mem_cons.mpr ⟨mw_155, (List.forall_mem_cons.mpr ⟨mw_7, (fun _ h => nomatch h)⟩)⟩)⟩)⟩), (List.forall_mem_append.mpr ⟨il_c_needControl, (fun _ h => nomatch h)⟩)⟩)⟩
set_option maxRecDepth 100000 in
theorem mw_159 : (.selects RX6 yX6_needCourse yX6_needCourse : Cond) ∈ lw_tbl := List.mem_of_getElem? (i := 19) (by decide +kernel)
set_option maxRecDepth 100000 in
theorem mw_160 : (.instanceMethod yX6_needCourse : Cond) ∈ lw_tbl := List.mem_of_getElem? (i := 849) (by decide +kernel)
set_option maxRecDepth 100000 in
theorem mw_161 : (.methodLink RX6 157 yX6_needCourse : Cond) ∈ lw_tbl := List.mem_of_getElem? (i := 847) (by decide +kernel)
set_option maxRecDepth 100000 in
theorem mw_162 : (.code yX6_add cX6_add 4 (some .int) : Cond) ∈ lw_tbl := List.mem_of_getElem? (i := 846) (by decide +kernel)
theorem il_c_add : ∀ w ∈ us_c_add, w ∈ lw_tbl := List.forall_mem_cons.mpr ⟨mw_162, (List.forall_mem_append.mpr ⟨(List.forall_mem_cons.mpr ⟨mw_161, (List.forall_mem_cons.mpr ⟨mw_160, (List.forall_mem_cons.mpr ⟨mw_159, (List.forall_mem_cons.mpr ⟨mw_7, (fun _ h => nomatch h)⟩)⟩)⟩)⟩), (List.forall_mem_append.mpr ⟨il_c_needCourse, (fun _ h => nomatch h)⟩)⟩)⟩
set_option maxRecDepth 100000 in
theorem mw_163 : (.code yX6_fork cX6_fork 5 (some .int) : Cond) ∈ lw_tbl := List.mem_of_getElem? (i := 867) (by decide +kernel)
theorem il_c_fork : ∀ w ∈ us_c_fork, w ∈ lw_tbl := List.forall_mem_cons.mpr ⟨mw_163, (List.forall_mem_append.mpr ⟨(List.forall_mem_cons.mpr ⟨mw_161, (List.forall_mem_cons.mpr ⟨mw_160, (List.forall_mem_cons.mpr ⟨mw_159, (List.forall_mem_cons.mpr ⟨mw_7, (fun _ h => nomatch h)⟩)⟩)⟩)⟩), (List.forall_mem_append.mpr ⟨il_c_needCourse, (fun _ h => nomatch h)⟩)⟩)⟩
set_option maxRecDepth 100000 in
theorem mw_164 : (.code yX6_isLawful cX6_isLawful 3 (some .boolean) : Cond) ∈ lw_tbl := List.mem_of_getElem? (i := 875) (by decide +kernel)
theorem il_c_isLawful : ∀ w ∈ us_c_isLawful, w ∈ lw_tbl := List.forall_mem_cons.mpr ⟨mw_164, (List.forall_mem_append.mpr ⟨(List.forall_mem_cons.mpr ⟨mw_161, (List.forall_mem_cons.mpr ⟨mw_160, (List.forall_mem_cons.mpr ⟨mw_159, (List.forall_mem_cons.mpr ⟨mw_7, (fun _ h => nomatch h)⟩)⟩)⟩)⟩), (List.forall_mem_append.mpr ⟨il_c_needCourse, (fun _ h => nomatch h)⟩)⟩)⟩
set_option maxRecDepth 100000 in
theorem mw_165 : (.code yX6_lengthOf cX6_lengthOf 2 (some .int) : Cond) ∈ lw_tbl := List.mem_of_getElem? (i := 890) (by decide +kernel)
theorem il_c_lengthOf : ∀ w ∈ us_c_lengthOf, w ∈ lw_tbl := List.forall_mem_cons.mpr ⟨mw_165, (List.forall_mem_append.mpr ⟨(List.forall_mem_cons.mpr ⟨mw_161, (List.forall_mem_cons.mpr ⟨mw_160, (List.forall_mem_cons.mpr ⟨mw_159, (List.forall_mem_cons.mpr ⟨mw_7, (fun _ h => nomatch h)⟩)⟩)⟩)⟩), (List.forall_mem_append.mpr ⟨il_c_needCourse, (fun _ h => nomatch h)⟩)⟩)⟩
set_option maxRecDepth 100000 in
theorem mw_166 : (.selects RX6 yX6_needRunner yX6_needRunner : Cond) ∈ lw_tbl := List.mem_of_getElem? (i := 25) (by decide +kernel)
set_option maxRecDepth 100000 in
theorem mw_167 : (.instanceMethod yX6_needRunner : Cond) ∈ lw_tbl := List.mem_of_getElem? (i := 916) (by decide +kernel)
set_option maxRecDepth 100000 in
theorem mw_168 : (.methodLink RX6 200 yX6_needRunner : Cond) ∈ lw_tbl := List.mem_of_getElem? (i := 914) (by decide +kernel)
set_option maxRecDepth 100000 in
theorem mw_169 : (.code yX6_branches cX6_branches 5 (some .int) : Cond) ∈ lw_tbl := List.mem_of_getElem? (i := 913) (by decide +kernel)
theorem il_c_branches : ∀ w ∈ us_c_branches, w ∈ lw_tbl := List.forall_mem_cons.mpr ⟨mw_169, (List.forall_mem_append.mpr ⟨(List.forall_mem_cons.mpr ⟨mw_168, (List.forall_mem_cons.mpr ⟨mw_167, (List.forall_mem_cons.mpr ⟨mw_166, (List.forall_mem_cons.mpr ⟨mw_7, (fun _ h => nomatch h)⟩)⟩)⟩)⟩), (List.forall_mem_append.mpr ⟨il_c_needRunner, (fun _ h => nomatch h)⟩)⟩)⟩
set_option maxRecDepth 100000 in
theorem mw_170 : (.code yX6_start cX6_start 5 (some .int) : Cond) ∈ lw_tbl := List.mem_of_getElem? (i := 932) (by decide +kernel)
theorem il_c_start : ∀ w ∈ us_c_start, w ∈ lw_tbl := List.forall_mem_cons.mpr ⟨mw_170, (List.forall_mem_append.mpr ⟨(List.forall_mem_cons.mpr ⟨mw_168, (List.forall_mem_cons.mpr ⟨mw_167, (List.forall_mem_cons.mpr ⟨mw_166, (List.forall_mem_cons.mpr ⟨mw_7, (fun _ h => nomatch h)⟩)⟩)⟩)⟩), (List.forall_mem_append.mpr ⟨il_c_needRunner, (fun _ h => nomatch h)⟩)⟩)⟩
set_option maxRecDepth 100000 in
theorem mw_171 : (.code yX6_draw cX6_draw 6 (some .int) : Cond) ∈ lw_tbl := List.mem_of_getElem? (i := 940) (by decide +kernel)
theorem il_c_draw : ∀ w ∈ us_c_draw, w ∈ lw_tbl := List.forall_mem_cons.mpr ⟨mw_171, (List.forall_mem_append.mpr ⟨(List.forall_mem_cons.mpr ⟨mw_161, (List.forall_mem_cons.mpr ⟨mw_160, (List.forall_mem_cons.mpr ⟨mw_159, (List.forall_mem_cons.mpr ⟨mw_7, (fun _ h => nomatch h)⟩)⟩)⟩)⟩), (List.forall_mem_append.mpr ⟨il_c_needCourse, (fun _ h => nomatch h)⟩)⟩)⟩
set_option maxRecDepth 100000 in
theorem mw_172 : (.code yX6_startOf cX6_startOf 3 (some .int) : Cond) ∈ lw_tbl := List.mem_of_getElem? (i := 979) (by decide +kernel)
theorem il_c_startOf : ∀ w ∈ us_c_startOf, w ∈ lw_tbl := List.forall_mem_cons.mpr ⟨mw_172, (List.forall_mem_append.mpr ⟨(List.forall_mem_cons.mpr ⟨mw_168, (List.forall_mem_cons.mpr ⟨mw_167, (List.forall_mem_cons.mpr ⟨mw_166, (List.forall_mem_cons.mpr ⟨mw_7, (fun _ h => nomatch h)⟩)⟩)⟩)⟩), (List.forall_mem_append.mpr ⟨il_c_needRunner, (fun _ h => nomatch h)⟩)⟩)⟩
set_option maxRecDepth 100000 in
theorem mw_173 : (.code yX6_punch cX6_punch 6 (some .int) : Cond) ∈ lw_tbl := List.mem_of_getElem? (i := 987) (by decide +kernel)
theorem il_c_punch : ∀ w ∈ us_c_punch, w ∈ lw_tbl := List.forall_mem_cons.mpr ⟨mw_173, (List.forall_mem_append.mpr ⟨(List.forall_mem_cons.mpr ⟨mw_168, (List.forall_mem_cons.mpr ⟨mw_167, (List.forall_mem_cons.mpr ⟨mw_166, (List.forall_mem_cons.mpr ⟨mw_7, (fun _ h => nomatch h)⟩)⟩)⟩)⟩), (List.forall_mem_append.mpr ⟨il_c_needRunner, (fun _ h => nomatch h)⟩)⟩)⟩
set_option maxRecDepth 100000 in
theorem mw_174 : (.code yX6_finish cX6_finish 4 (some .int) : Cond) ∈ lw_tbl := List.mem_of_getElem? (i := 1011) (by decide +kernel)
theorem il_c_finish : ∀ w ∈ us_c_finish, w ∈ lw_tbl := List.forall_mem_cons.mpr ⟨mw_174, (List.forall_mem_append.mpr ⟨(List.forall_mem_cons.mpr ⟨mw_168, (List.forall_mem_cons.mpr ⟨mw_167, (List.forall_mem_cons.mpr ⟨mw_166, (List.forall_mem_cons.mpr ⟨mw_7, (fun _ h => nomatch h)⟩)⟩)⟩)⟩), (List.forall_mem_append.mpr ⟨il_c_needRunner, (fun _ h => nomatch h)⟩)⟩)⟩
set_option maxRecDepth 100000 in
theorem mw_175 : (.code yX6_dead cX6_dead 5 (some .int) : Cond) ∈ lw_tbl := List.mem_of_getElem? (i := 1018) (by decide +kernel)
theorem il_c_dead : ∀ w ∈ us_c_dead, w ∈ lw_tbl := List.forall_mem_cons.mpr ⟨mw_175, (List.forall_mem_append.mpr ⟨(List.forall_mem_cons.mpr ⟨mw_157, (List.forall_mem_cons.mpr ⟨mw_156, (List.forall_mem_cons.mpr ⟨mw_155, (List.forall_mem_cons.mpr ⟨mw_7, (fun _ h => nomatch h)⟩)⟩)⟩)⟩), (List.forall_mem_append.mpr ⟨il_c_needControl, (fun _ h => nomatch h)⟩)⟩)⟩
set_option maxRecDepth 100000 in
theorem mw_176 : (.code yX6_stolen cX6_stolen 5 (some .int) : Cond) ∈ lw_tbl := List.mem_of_getElem? (i := 1030) (by decide +kernel)
theorem il_c_stolen : ∀ w ∈ us_c_stolen, w ∈ lw_tbl := List.forall_mem_cons.mpr ⟨mw_176, (List.forall_mem_append.mpr ⟨(List.forall_mem_cons.mpr ⟨mw_157, (List.forall_mem_cons.mpr ⟨mw_156, (List.forall_mem_cons.mpr ⟨mw_155, (List.forall_mem_cons.mpr ⟨mw_7, (fun _ h => nomatch h)⟩)⟩)⟩)⟩), (List.forall_mem_append.mpr ⟨il_c_needControl, (fun _ h => nomatch h)⟩)⟩)⟩
set_option maxRecDepth 100000 in
theorem mw_177 : (.code yX6_voided cX6_voided 6 (some .boolean) : Cond) ∈ lw_tbl := List.mem_of_getElem? (i := 1038) (by decide +kernel)
theorem il_c_voided : ∀ w ∈ us_c_voided, w ∈ lw_tbl := List.forall_mem_cons.mpr ⟨mw_177, (List.forall_mem_append.mpr ⟨(List.forall_mem_cons.mpr ⟨mw_161, (List.forall_mem_cons.mpr ⟨mw_160, (List.forall_mem_cons.mpr ⟨mw_159, (List.forall_mem_cons.mpr ⟨mw_7, (fun _ h => nomatch h)⟩)⟩)⟩)⟩), (List.forall_mem_append.mpr ⟨il_c_needCourse, (fun _ h => nomatch h)⟩)⟩)⟩
set_option maxRecDepth 100000 in
theorem mw_178 : (.code yX6_rule cX6_rule 5 (some .int) : Cond) ∈ lw_tbl := List.mem_of_getElem? (i := 1048) (by decide +kernel)
theorem il_c_rule : ∀ w ∈ us_c_rule, w ∈ lw_tbl := List.forall_mem_cons.mpr ⟨mw_178, (List.forall_mem_append.mpr ⟨(List.forall_mem_cons.mpr ⟨mw_168, (List.forall_mem_cons.mpr ⟨mw_167, (List.forall_mem_cons.mpr ⟨mw_166, (List.forall_mem_cons.mpr ⟨mw_7, (fun _ h => nomatch h)⟩)⟩)⟩)⟩), (List.forall_mem_append.mpr ⟨il_c_needRunner, (fun _ h => nomatch h)⟩)⟩)⟩
set_option maxRecDepth 100000 in
theorem mw_179 : (.code yX6_state cX6_state 3 (some .char) : Cond) ∈ lw_tbl := List.mem_of_getElem? (i := 1056) (by decide +kernel)
theorem il_c_state : ∀ w ∈ us_c_state, w ∈ lw_tbl := List.forall_mem_cons.mpr ⟨mw_179, (List.forall_mem_append.mpr ⟨(List.forall_mem_cons.mpr ⟨mw_168, (List.forall_mem_cons.mpr ⟨mw_167, (List.forall_mem_cons.mpr ⟨mw_166, (List.forall_mem_cons.mpr ⟨mw_7, (fun _ h => nomatch h)⟩)⟩)⟩)⟩), (List.forall_mem_append.mpr ⟨il_c_needRunner, (fun _ h => nomatch h)⟩)⟩)⟩
set_option maxRecDepth 100000 in
theorem mw_180 : (.code yX6_time cX6_time 2 (some .int) : Cond) ∈ lw_tbl := List.mem_of_getElem? (i := 1063) (by decide +kernel)
theorem il_c_time : ∀ w ∈ us_c_time, w ∈ lw_tbl := List.forall_mem_cons.mpr ⟨mw_180, (List.forall_mem_append.mpr ⟨(List.forall_mem_cons.mpr ⟨mw_168, (List.forall_mem_cons.mpr ⟨mw_167, (List.forall_mem_cons.mpr ⟨mw_166, (List.forall_mem_cons.mpr ⟨mw_7, (fun _ h => nomatch h)⟩)⟩)⟩)⟩), (List.forall_mem_append.mpr ⟨il_c_needRunner, (fun _ h => nomatch h)⟩)⟩)⟩
set_option maxRecDepth 100000 in
theorem mw_181 : (.code yX6_split cX6_split 4 (some .int) : Cond) ∈ lw_tbl := List.mem_of_getElem? (i := 1076) (by decide +kernel)
theorem il_c_split : ∀ w ∈ us_c_split, w ∈ lw_tbl := List.forall_mem_cons.mpr ⟨mw_181, (List.forall_mem_append.mpr ⟨(List.forall_mem_cons.mpr ⟨mw_168, (List.forall_mem_cons.mpr ⟨mw_167, (List.forall_mem_cons.mpr ⟨mw_166, (List.forall_mem_cons.mpr ⟨mw_7, (fun _ h => nomatch h)⟩)⟩)⟩)⟩), (List.forall_mem_append.mpr ⟨il_c_needRunner, (fun _ h => nomatch h)⟩)⟩)⟩
set_option maxRecDepth 100000 in
theorem mw_182 : (.code yX6_place cX6_place 5 (some .int) : Cond) ∈ lw_tbl := List.mem_of_getElem? (i := 1087) (by decide +kernel)
theorem il_c_place : ∀ w ∈ us_c_place, w ∈ lw_tbl := List.forall_mem_cons.mpr ⟨mw_182, (List.forall_mem_append.mpr ⟨(List.forall_mem_cons.mpr ⟨mw_168, (List.forall_mem_cons.mpr ⟨mw_167, (List.forall_mem_cons.mpr ⟨mw_166, (List.forall_mem_cons.mpr ⟨mw_7, (fun _ h => nomatch h)⟩)⟩)⟩)⟩), (List.forall_mem_append.mpr ⟨il_c_needRunner, (fun _ h => nomatch h)⟩)⟩)⟩
set_option maxRecDepth 100000 in
theorem mw_183 : (.code yX6_reference cX6_reference 4 (some .int) : Cond) ∈ lw_tbl := List.mem_of_getElem? (i := 1101) (by decide +kernel)
theorem il_c_reference : ∀ w ∈ us_c_reference, w ∈ lw_tbl := List.forall_mem_cons.mpr ⟨mw_183, (List.forall_mem_append.mpr ⟨(List.forall_mem_cons.mpr ⟨mw_168, (List.forall_mem_cons.mpr ⟨mw_167, (List.forall_mem_cons.mpr ⟨mw_166, (List.forall_mem_cons.mpr ⟨mw_7, (fun _ h => nomatch h)⟩)⟩)⟩)⟩), (List.forall_mem_append.mpr ⟨il_c_needRunner, (fun _ h => nomatch h)⟩)⟩)⟩
set_option maxRecDepth 100000 in
theorem mw_184 : (.code yX6_pace cX6_pace 3 (some .int) : Cond) ∈ lw_tbl := List.mem_of_getElem? (i := 1120) (by decide +kernel)
theorem il_c_pace : ∀ w ∈ us_c_pace, w ∈ lw_tbl := List.forall_mem_cons.mpr ⟨mw_184, (List.forall_mem_append.mpr ⟨(List.forall_mem_cons.mpr ⟨mw_168, (List.forall_mem_cons.mpr ⟨mw_167, (List.forall_mem_cons.mpr ⟨mw_166, (List.forall_mem_cons.mpr ⟨mw_7, (fun _ h => nomatch h)⟩)⟩)⟩)⟩), (List.forall_mem_append.mpr ⟨il_c_needRunner, (fun _ h => nomatch h)⟩)⟩)⟩
set_option maxRecDepth 100000 in
theorem mw_185 : (.code yX6_loss cX6_loss 8 (some .int) : Cond) ∈ lw_tbl := List.mem_of_getElem? (i := 1131) (by decide +kernel)
theorem il_c_loss : ∀ w ∈ us_c_loss, w ∈ lw_tbl := List.forall_mem_cons.mpr ⟨mw_185, (List.forall_mem_append.mpr ⟨(List.forall_mem_cons.mpr ⟨mw_168, (List.forall_mem_cons.mpr ⟨mw_167, (List.forall_mem_cons.mpr ⟨mw_166, (List.forall_mem_cons.mpr ⟨mw_7, (fun _ h => nomatch h)⟩)⟩)⟩)⟩), (List.forall_mem_append.mpr ⟨il_c_needRunner, (fun _ h => nomatch h)⟩)⟩)⟩
set_option maxRecDepth 100000 in
theorem mw_186 : (.code yX6_points cX6_points 4 (some .int) : Cond) ∈ lw_tbl := List.mem_of_getElem? (i := 1142) (by decide +kernel)
theorem il_c_points : ∀ w ∈ us_c_points, w ∈ lw_tbl := List.forall_mem_cons.mpr ⟨mw_186, (List.forall_mem_append.mpr ⟨(List.forall_mem_cons.mpr ⟨mw_168, (List.forall_mem_cons.mpr ⟨mw_167, (List.forall_mem_cons.mpr ⟨mw_166, (List.forall_mem_cons.mpr ⟨mw_7, (fun _ h => nomatch h)⟩)⟩)⟩)⟩), (List.forall_mem_append.mpr ⟨il_c_needRunner, (fun _ h => nomatch h)⟩)⟩)⟩
set_option maxRecDepth 100000 in
theorem mw_187 : (.code yX6_team cX6_team 4 (some .int) : Cond) ∈ lw_tbl := List.mem_of_getElem? (i := 1154) (by decide +kernel)
theorem il_c_team : ∀ w ∈ us_c_team, w ∈ lw_tbl := List.forall_mem_cons.mpr ⟨mw_187, (List.forall_mem_append.mpr ⟨(List.forall_mem_cons.mpr ⟨mw_161, (List.forall_mem_cons.mpr ⟨mw_160, (List.forall_mem_cons.mpr ⟨mw_159, (List.forall_mem_cons.mpr ⟨mw_7, (fun _ h => nomatch h)⟩)⟩)⟩)⟩), (List.forall_mem_append.mpr ⟨il_c_needCourse, (fun _ h => nomatch h)⟩)⟩)⟩
set_option maxRecDepth 100000 in
theorem mw_188 : (.fieldLink RX6 85 "ControlWood$Relay" "teams" "I" : Cond) ∈ lw_tbl := List.mem_of_getElem? (i := 212) (by decide +kernel)
set_option maxRecDepth 100000 in
theorem mw_189 : (.code yX6_runs cX6_runs 5 (some .int) : Cond) ∈ lw_tbl := List.mem_of_getElem? (i := 1166) (by decide +kernel)
theorem il_c_runs : ∀ w ∈ us_c_runs, w ∈ lw_tbl := List.forall_mem_cons.mpr ⟨mw_189, (List.forall_mem_append.mpr ⟨(List.forall_mem_cons.mpr ⟨mw_139, (List.forall_mem_cons.mpr ⟨mw_188, (List.forall_mem_cons.mpr ⟨mw_9, (List.forall_mem_cons.mpr ⟨mw_8, (List.forall_mem_cons.mpr ⟨mw_7, (fun _ h => nomatch h)⟩)⟩)⟩)⟩)⟩), (List.forall_mem_append.mpr ⟨mb_3, (List.forall_mem_append.mpr ⟨mb_6, (List.forall_mem_append.mpr ⟨il_c_needIndexT, (fun _ h => nomatch h)⟩)⟩)⟩)⟩)⟩
set_option maxRecDepth 100000 in
theorem mw_190 : (.code yX6_chase cX6_chase 7 (some .int) : Cond) ∈ lw_tbl := List.mem_of_getElem? (i := 1196) (by decide +kernel)
theorem il_c_chase : ∀ w ∈ us_c_chase, w ∈ lw_tbl := List.forall_mem_cons.mpr ⟨mw_190, (List.forall_mem_append.mpr ⟨(List.forall_mem_cons.mpr ⟨mw_161, (List.forall_mem_cons.mpr ⟨mw_160, (List.forall_mem_cons.mpr ⟨mw_159, (List.forall_mem_cons.mpr ⟨mw_7, (fun _ h => nomatch h)⟩)⟩)⟩)⟩), (List.forall_mem_append.mpr ⟨il_c_needCourse, (fun _ h => nomatch h)⟩)⟩)⟩
set_option maxRecDepth 100000 in
theorem mw_191 : (.code yX6_fix cX6_fix 5 (some .int) : Cond) ∈ lw_tbl := List.mem_of_getElem? (i := 1250) (by decide +kernel)
theorem il_c_fix : ∀ w ∈ us_c_fix, w ∈ lw_tbl := List.forall_mem_cons.mpr ⟨mw_191, (List.forall_mem_append.mpr ⟨(List.forall_mem_cons.mpr ⟨mw_168, (List.forall_mem_cons.mpr ⟨mw_167, (List.forall_mem_cons.mpr ⟨mw_166, (List.forall_mem_cons.mpr ⟨mw_7, (fun _ h => nomatch h)⟩)⟩)⟩)⟩), (List.forall_mem_append.mpr ⟨il_c_needRunner, (fun _ h => nomatch h)⟩)⟩)⟩
set_option maxRecDepth 100000 in
theorem mw_192 : (.code yX6_mayHave cX6_mayHave 6 (some .boolean) : Cond) ∈ lw_tbl := List.mem_of_getElem? (i := 1259) (by decide +kernel)
theorem il_c_mayHave : ∀ w ∈ us_c_mayHave, w ∈ lw_tbl := List.forall_mem_cons.mpr ⟨mw_192, (List.forall_mem_append.mpr ⟨(List.forall_mem_cons.mpr ⟨mw_168, (List.forall_mem_cons.mpr ⟨mw_167, (List.forall_mem_cons.mpr ⟨mw_166, (List.forall_mem_cons.mpr ⟨mw_7, (fun _ h => nomatch h)⟩)⟩)⟩)⟩), (List.forall_mem_append.mpr ⟨il_c_needRunner, (fun _ h => nomatch h)⟩)⟩)⟩
set_option maxRecDepth 100000 in
theorem mw_193 : (.code yX6_okShare cX6_okShare 3 (some .float) : Cond) ∈ lw_tbl := List.mem_of_getElem? (i := 1284) (by decide +kernel)
theorem il_c_okShare : ∀ w ∈ us_c_okShare, w ∈ lw_tbl := List.forall_mem_cons.mpr ⟨mw_193, (List.forall_mem_append.mpr ⟨(List.forall_mem_cons.mpr ⟨mw_161, (List.forall_mem_cons.mpr ⟨mw_160, (List.forall_mem_cons.mpr ⟨mw_159, (List.forall_mem_cons.mpr ⟨mw_7, (fun _ h => nomatch h)⟩)⟩)⟩)⟩), (List.forall_mem_append.mpr ⟨il_c_needCourse, (fun _ h => nomatch h)⟩)⟩)⟩
set_option maxRecDepth 100000 in
theorem mw_194 : (.code yX6_meanTime cX6_meanTime 5 (some .double) : Cond) ∈ lw_tbl := List.mem_of_getElem? (i := 1298) (by decide +kernel)
theorem il_c_meanTime : ∀ w ∈ us_c_meanTime, w ∈ lw_tbl := List.forall_mem_cons.mpr ⟨mw_194, (List.forall_mem_append.mpr ⟨(List.forall_mem_cons.mpr ⟨mw_161, (List.forall_mem_cons.mpr ⟨mw_160, (List.forall_mem_cons.mpr ⟨mw_159, (List.forall_mem_cons.mpr ⟨mw_7, (fun _ h => nomatch h)⟩)⟩)⟩)⟩), (List.forall_mem_append.mpr ⟨il_c_needCourse, (fun _ h => nomatch h)⟩)⟩)⟩
set_option maxRecDepth 100000 in
theorem mw_195 : (.static yX6_needRange : Cond) ∈ lw_tbl := List.mem_of_getElem? (i := 578) (by decide +kernel)
set_option maxRecDepth 100000 in
theorem mw_196 : (.methodLink RX6 71 yX6_needRange : Cond) ∈ lw_tbl := List.mem_of_getElem? (i := 577) (by decide +kernel)
set_option maxRecDepth 100000 in
theorem mw_197 : (.code yX6_runner cX6_runner 3 (some .int) : Cond) ∈ lw_tbl := List.mem_of_getElem? (i := 897) (by decide +kernel)
theorem il_c_runner : ∀ w ∈ us_c_runner, w ∈ lw_tbl := List.forall_mem_cons.mpr ⟨mw_197, (List.forall_mem_append.mpr ⟨(List.forall_mem_cons.mpr ⟨mw_196, (List.forall_mem_cons.mpr ⟨mw_195, (List.forall_mem_cons.mpr ⟨mw_7, (List.forall_mem_cons.mpr ⟨mw_161, (List.forall_mem_cons.mpr ⟨mw_160, (List.forall_mem_cons.mpr ⟨mw_159, (fun _ h => nomatch h)⟩)⟩)⟩)⟩)⟩)⟩), (List.forall_mem_append.mpr ⟨il_c_needRange, (List.forall_mem_append.mpr ⟨il_c_needCourse, (fun _ h => nomatch h)⟩)⟩)⟩)⟩
set_option maxRecDepth 100000 in
theorem mw_198 : (.constant RX6 193 (1000000) : Cond) ∈ lw_tbl := List.mem_of_getElem? (i := 729) (by decide +kernel)
set_option maxRecDepth 100000 in
theorem mw_199 : (.code yX6_needWay cX6_needWay 1 (some .int) : Cond) ∈ lw_tbl := List.mem_of_getElem? (i := 728) (by decide +kernel)
theorem il_c_needWay : ∀ w ∈ us_c_needWay, w ∈ lw_tbl := List.forall_mem_cons.mpr ⟨mw_199, (List.forall_mem_append.mpr ⟨(List.forall_mem_cons.mpr ⟨mw_198, (fun _ h => nomatch h)⟩), (fun _ h => nomatch h)⟩)⟩
set_option maxRecDepth 100000 in
theorem mw_200 : (.fieldLink RX1 27 "ControlWood$Post" "stolenFrom" "I" : Cond) ∈ lw_tbl := List.mem_of_getElem? (i := 268) (by decide +kernel)
set_option maxRecDepth 100000 in
theorem mw_201 : (.fieldLink RX1 24 "ControlWood$Post" "deadTo" "I" : Cond) ∈ lw_tbl := List.mem_of_getElem? (i := 266) (by decide +kernel)
set_option maxRecDepth 100000 in
theorem mw_202 : (.fieldLink RX1 21 "ControlWood$Post" "deadFrom" "I" : Cond) ∈ lw_tbl := List.mem_of_getElem? (i := 264) (by decide +kernel)
set_option maxRecDepth 100000 in
theorem mw_203 : (.fieldLink RX1 18 "ControlWood$Post" "points" "I" : Cond) ∈ lw_tbl := List.mem_of_getElem? (i := 262) (by decide +kernel)
set_option maxRecDepth 100000 in
theorem mw_204 : (.fieldLink RX1 15 "ControlWood$Post" "site" "I" : Cond) ∈ lw_tbl := List.mem_of_getElem? (i := 260) (by decide +kernel)
set_option maxRecDepth 100000 in
theorem mw_205 : (.fieldLink RX1 9 "ControlWood$Post" "cell" "I" : Cond) ∈ lw_tbl := List.mem_of_getElem? (i := 258) (by decide +kernel)
set_option maxRecDepth 100000 in
theorem mw_206 : (.code yX1_begin cX1_begin 4 none : Cond) ∈ lw_tbl := List.mem_of_getElem? (i := 805) (by decide +kernel)
theorem il_c_postBegin : ∀ w ∈ us_c_postBegin, w ∈ lw_tbl := List.forall_mem_cons.mpr ⟨mw_206, (List.forall_mem_append.mpr ⟨(List.forall_mem_cons.mpr ⟨mw_205, (List.forall_mem_cons.mpr ⟨mw_204, (List.forall_mem_cons.mpr ⟨mw_203, (List.forall_mem_cons.mpr ⟨mw_202, (List.forall_mem_cons.mpr ⟨mw_201, (List.forall_mem_cons.mpr ⟨mw_200, (fun _ h => nomatch h)⟩)⟩)⟩)⟩)⟩)⟩), (List.forall_mem_append.mpr ⟨mb_8, (fun _ h => nomatch h)⟩)⟩)⟩
set_option maxRecDepth 100000 in
theorem mw_207 : (.fieldLink RX3 26 "ControlWood$Route" "places" "I" : Cond) ∈ lw_tbl := List.mem_of_getElem? (i := 290) (by decide +kernel)
set_option maxRecDepth 100000 in
theorem mw_208 : (.fieldLink RX3 22 "ControlWood$Route" "start" "I" : Cond) ∈ lw_tbl := List.mem_of_getElem? (i := 288) (by decide +kernel)
set_option maxRecDepth 100000 in
theorem mw_209 : (.code yX3_begin cX3_begin 3 none : Cond) ∈ lw_tbl := List.mem_of_getElem? (i := 839) (by decide +kernel)
theorem il_c_routeBegin : ∀ w ∈ us_c_routeBegin, w ∈ lw_tbl := List.forall_mem_cons.mpr ⟨mw_209, (List.forall_mem_append.mpr ⟨(List.forall_mem_cons.mpr ⟨mw_208, (List.forall_mem_cons.mpr ⟨mw_207, (List.forall_mem_cons.mpr ⟨mw_90, (fun _ h => nomatch h)⟩)⟩)⟩), (List.forall_mem_append.mpr ⟨mb_4, (fun _ h => nomatch h)⟩)⟩)⟩
set_option maxRecDepth 100000 in
theorem mw_210 : (.fieldLink RX6 105 "ControlWood$Terrain" "kinds" "[C" : Cond) ∈ lw_tbl := List.mem_of_getElem? (i := 153) (by decide +kernel)
set_option maxRecDepth 100000 in
theorem mw_211 : (.fieldLink RX6 102 "ControlWood$Terrain" "heights" "[I" : Cond) ∈ lw_tbl := List.mem_of_getElem? (i := 151) (by decide +kernel)
set_option maxRecDepth 100000 in
theorem mw_212 : (.fieldLink RX6 99 "ControlWood$Terrain" "growths" "[I" : Cond) ∈ lw_tbl := List.mem_of_getElem? (i := 149) (by decide +kernel)
set_option maxRecDepth 100000 in
theorem mw_213 : (.static yX6_needKind : Cond) ∈ lw_tbl := List.mem_of_getElem? (i := 704) (by decide +kernel)
set_option maxRecDepth 100000 in
theorem mw_214 : (.methodLink RX6 95 yX6_needKind : Cond) ∈ lw_tbl := List.mem_of_getElem? (i := 703) (by decide +kernel)
set_option maxRecDepth 100000 in
theorem mw_215 : (.selects RX6 yX6_needCell yX6_needCell : Cond) ∈ lw_tbl := List.mem_of_getElem? (i := 15) (by decide +kernel)
set_option maxRecDepth 100000 in
theorem mw_216 : (.instanceMethod yX6_needCell : Cond) ∈ lw_tbl := List.mem_of_getElem? (i := 685) (by decide +kernel)
set_option maxRecDepth 100000 in
theorem mw_217 : (.methodLink RX6 91 yX6_needCell : Cond) ∈ lw_tbl := List.mem_of_getElem? (i := 683) (by decide +kernel)
set_option maxRecDepth 100000 in
theorem mw_218 : (.code yX6_cell cX6_cell 6 (some .int) : Cond) ∈ lw_tbl := List.mem_of_getElem? (i := 682) (by decide +kernel)
theorem il_c_cell : ∀ w ∈ us_c_cell, w ∈ lw_tbl := List.forall_mem_cons.mpr ⟨mw_218, (List.forall_mem_append.mpr ⟨(List.forall_mem_cons.mpr ⟨mw_217, (List.forall_mem_cons.mpr ⟨mw_216, (List.forall_mem_cons.mpr ⟨mw_215, (List.forall_mem_cons.mpr ⟨mw_7, (List.forall_mem_cons.mpr ⟨mw_196, (List.forall_mem_cons.mpr ⟨mw_195, (List.forall_mem_cons.mpr ⟨mw_214, (List.forall_mem_cons.mpr ⟨mw_213, (List.forall_mem_cons.mpr ⟨mw_11, (List.forall_mem_cons.mpr ⟨mw_212, (List.forall_mem_cons.mpr ⟨mw_211, (List.forall_mem_cons.mpr ⟨mw_210, (fun _ h => nomatch h)⟩)⟩)⟩)⟩)⟩)⟩)⟩)⟩)⟩)⟩)⟩)⟩), (List.forall_mem_append.mpr ⟨il_c_needCell, (List.forall_mem_append.mpr ⟨il_c_needRange, (List.forall_mem_append.mpr ⟨il_c_needKind, (List.forall_mem_append.mpr ⟨mb_3, (List.forall_mem_append.mpr ⟨mb_2, (fun _ h => nomatch h)⟩)⟩)⟩)⟩)⟩)⟩)⟩
set_option maxRecDepth 100000 in
theorem mw_219 : (.fieldLink RX6 116 "ControlWood$Terrain" "shownKinds" "[C" : Cond) ∈ lw_tbl := List.mem_of_getElem? (i := 157) (by decide +kernel)
set_option maxRecDepth 100000 in
theorem mw_220 : (.fieldLink RX6 113 "ControlWood$Terrain" "shownGrowths" "[I" : Cond) ∈ lw_tbl := List.mem_of_getElem? (i := 155) (by decide +kernel)
set_option maxRecDepth 100000 in
theorem mw_221 : (.code yX6_show cX6_show 5 (some .int) : Cond) ∈ lw_tbl := List.mem_of_getElem? (i := 713) (by decide +kernel)
theorem il_c_show : ∀ w ∈ us_c_show, w ∈ lw_tbl := List.forall_mem_cons.mpr ⟨mw_221, (List.forall_mem_append.mpr ⟨(List.forall_mem_cons.mpr ⟨mw_217, (List.forall_mem_cons.mpr ⟨mw_216, (List.forall_mem_cons.mpr ⟨mw_215, (List.forall_mem_cons.mpr ⟨mw_7, (List.forall_mem_cons.mpr ⟨mw_196, (List.forall_mem_cons.mpr ⟨mw_195, (List.forall_mem_cons.mpr ⟨mw_214, (List.forall_mem_cons.mpr ⟨mw_213, (List.forall_mem_cons.mpr ⟨mw_11, (List.forall_mem_cons.mpr ⟨mw_220, (List.forall_mem_cons.mpr ⟨mw_219, (fun _ h => nomatch h)⟩)⟩)⟩)⟩)⟩)⟩)⟩)⟩)⟩)⟩)⟩), (List.forall_mem_append.mpr ⟨il_c_needCell, (List.forall_mem_append.mpr ⟨il_c_needRange, (List.forall_mem_append.mpr ⟨il_c_needKind, (List.forall_mem_append.mpr ⟨mb_3, (List.forall_mem_append.mpr ⟨mb_2, (fun _ h => nomatch h)⟩)⟩)⟩)⟩)⟩)⟩)⟩
set_option maxRecDepth 100000 in
theorem mw_222 : (.static yX6_needWay : Cond) ∈ lw_tbl := List.mem_of_getElem? (i := 727) (by decide +kernel)
set_option maxRecDepth 100000 in
theorem mw_223 : (.methodLink RX6 123 yX6_needWay : Cond) ∈ lw_tbl := List.mem_of_getElem? (i := 726) (by decide +kernel)
set_option maxRecDepth 100000 in
theorem mw_224 : (.selects RX4 yX4_bestCost yX4_bestCost : Cond) ∈ lw_tbl := List.mem_of_getElem? (i := 724) (by decide +kernel)
set_option maxRecDepth 100000 in
theorem mw_225 : (.instanceMethod yX4_bestCost : Cond) ∈ lw_tbl := List.mem_of_getElem? (i := 723) (by decide +kernel)
set_option maxRecDepth 100000 in
theorem mw_226 : (.methodLink RX6 119 yX4_bestCost : Cond) ∈ lw_tbl := List.mem_of_getElem? (i := 722) (by decide +kernel)
set_option maxRecDepth 100000 in
theorem mw_227 : (.code yX6_cost cX6_cost 4 (some .int) : Cond) ∈ lw_tbl := List.mem_of_getElem? (i := 721) (by decide +kernel)
theorem il_c_cost : ∀ w ∈ us_c_cost, w ∈ lw_tbl := List.forall_mem_cons.mpr ⟨mw_227, (List.forall_mem_append.mpr ⟨(List.forall_mem_cons.mpr ⟨mw_217, (List.forall_mem_cons.mpr ⟨mw_216, (List.forall_mem_cons.mpr ⟨mw_215, (List.forall_mem_cons.mpr ⟨mw_7, (List.forall_mem_cons.mpr ⟨mw_11, (List.forall_mem_cons.mpr ⟨mw_226, (List.forall_mem_cons.mpr ⟨mw_225, (List.forall_mem_cons.mpr ⟨mw_224, (List.forall_mem_cons.mpr ⟨mw_44, (List.forall_mem_cons.mpr ⟨mw_223, (List.forall_mem_cons.mpr ⟨mw_222, (fun _ h => nomatch h)⟩)⟩)⟩)⟩)⟩)⟩)⟩)⟩)⟩)⟩)⟩), (List.forall_mem_append.mpr ⟨il_c_needCell, (List.forall_mem_append.mpr ⟨mb_3, (List.forall_mem_append.mpr ⟨il_c_bestCost, (List.forall_mem_append.mpr ⟨il_c_needWay, (fun _ h => nomatch h)⟩)⟩)⟩)⟩)⟩)⟩
set_option maxRecDepth 100000 in
theorem mw_228 : (.selects RX4 yX4_costOfMapWay yX4_costOfMapWay : Cond) ∈ lw_tbl := List.mem_of_getElem? (i := 755) (by decide +kernel)
set_option maxRecDepth 100000 in
theorem mw_229 : (.instanceMethod yX4_costOfMapWay : Cond) ∈ lw_tbl := List.mem_of_getElem? (i := 754) (by decide +kernel)
set_option maxRecDepth 100000 in
theorem mw_230 : (.methodLink RX6 127 yX4_costOfMapWay : Cond) ∈ lw_tbl := List.mem_of_getElem? (i := 753) (by decide +kernel)
set_option maxRecDepth 100000 in
theorem mw_231 : (.code yX6_misled cX6_misled 3 (some .int) : Cond) ∈ lw_tbl := List.mem_of_getElem? (i := 752) (by decide +kernel)
theorem il_c_misled : ∀ w ∈ us_c_misled, w ∈ lw_tbl := List.forall_mem_cons.mpr ⟨mw_231, (List.forall_mem_append.mpr ⟨(List.forall_mem_cons.mpr ⟨mw_217, (List.forall_mem_cons.mpr ⟨mw_216, (List.forall_mem_cons.mpr ⟨mw_215, (List.forall_mem_cons.mpr ⟨mw_7, (List.forall_mem_cons.mpr ⟨mw_11, (List.forall_mem_cons.mpr ⟨mw_230, (List.forall_mem_cons.mpr ⟨mw_229, (List.forall_mem_cons.mpr ⟨mw_228, (List.forall_mem_cons.mpr ⟨mw_44, (List.forall_mem_cons.mpr ⟨mw_223, (List.forall_mem_cons.mpr ⟨mw_222, (fun _ h => nomatch h)⟩)⟩)⟩)⟩)⟩)⟩)⟩)⟩)⟩)⟩)⟩), (List.forall_mem_append.mpr ⟨il_c_needCell, (List.forall_mem_append.mpr ⟨mb_3, (List.forall_mem_append.mpr ⟨il_c_costOfMapWay, (List.forall_mem_append.mpr ⟨il_c_needWay, (fun _ h => nomatch h)⟩)⟩)⟩)⟩)⟩)⟩
set_option maxRecDepth 100000 in
theorem mw_232 : (.selects RX1 yX1_begin yX1_begin : Cond) ∈ lw_tbl := List.mem_of_getElem? (i := 804) (by decide +kernel)
set_option maxRecDepth 100000 in
theorem mw_233 : (.instanceMethod yX1_begin : Cond) ∈ lw_tbl := List.mem_of_getElem? (i := 803) (by decide +kernel)
set_option maxRecDepth 100000 in
theorem mw_234 : (.methodLink RX6 143 yX1_begin : Cond) ∈ lw_tbl := List.mem_of_getElem? (i := 802) (by decide +kernel)
set_option maxRecDepth 100000 in
theorem mw_235 : (.code yX6_control cX6_control 4 (some .int) : Cond) ∈ lw_tbl := List.mem_of_getElem? (i := 769) (by decide +kernel)
theorem il_c_control : ∀ w ∈ us_c_control, w ∈ lw_tbl := List.forall_mem_cons.mpr ⟨mw_235, (List.forall_mem_append.mpr ⟨(List.forall_mem_cons.mpr ⟨mw_217, (List.forall_mem_cons.mpr ⟨mw_216, (List.forall_mem_cons.mpr ⟨mw_215, (List.forall_mem_cons.mpr ⟨mw_7, (List.forall_mem_cons.mpr ⟨mw_196, (List.forall_mem_cons.mpr ⟨mw_195, (List.forall_mem_cons.mpr ⟨mw_11, (List.forall_mem_cons.mpr ⟨mw_210, (List.forall_mem_cons.mpr ⟨mw_13, (List.forall_mem_cons.mpr ⟨mw_148, (List.forall_mem_cons.mpr ⟨mw_234, (List.forall_mem_cons.mpr ⟨mw_233, (List.forall_mem_cons.mpr ⟨mw_232, (List.forall_mem_cons.mpr ⟨mw_127, (fun _ h => nomatch h)⟩)⟩)⟩)⟩)⟩)⟩)⟩)⟩)⟩)⟩)⟩)⟩)⟩)⟩), (List.forall_mem_append.mpr ⟨il_c_needCell, (List.forall_mem_append.mpr ⟨il_c_needRange, (List.forall_mem_append.mpr ⟨mb_3, (List.forall_mem_append.mpr ⟨mb_2, (List.forall_mem_append.mpr ⟨il_c_postBegin, (fun _ h => nomatch h)⟩)⟩)⟩)⟩)⟩)⟩)⟩
set_option maxRecDepth 100000 in
theorem mw_236 : (.selects RX3 yX3_begin yX3_begin : Cond) ∈ lw_tbl := List.mem_of_getElem? (i := 838) (by decide +kernel)
set_option maxRecDepth 100000 in
theorem mw_237 : (.instanceMethod yX3_begin : Cond) ∈ lw_tbl := List.mem_of_getElem? (i := 837) (by decide +kernel)
set_option maxRecDepth 100000 in
theorem mw_238 : (.methodLink RX6 155 yX3_begin : Cond) ∈ lw_tbl := List.mem_of_getElem? (i := 836) (by decide +kernel)
set_option maxRecDepth 100000 in
theorem mw_239 : (.code yX6_course cX6_course 2 (some .int) : Cond) ∈ lw_tbl := List.mem_of_getElem? (i := 834) (by decide +kernel)
theorem il_c_course : ∀ w ∈ us_c_course, w ∈ lw_tbl := List.forall_mem_cons.mpr ⟨mw_239, (List.forall_mem_append.mpr ⟨(List.forall_mem_cons.mpr ⟨mw_217, (List.forall_mem_cons.mpr ⟨mw_216, (List.forall_mem_cons.mpr ⟨mw_215, (List.forall_mem_cons.mpr ⟨mw_7, (List.forall_mem_cons.mpr ⟨mw_15, (List.forall_mem_cons.mpr ⟨mw_146, (List.forall_mem_cons.mpr ⟨mw_238, (List.forall_mem_cons.mpr ⟨mw_237, (List.forall_mem_cons.mpr ⟨mw_236, (List.forall_mem_cons.mpr ⟨mw_124, (fun _ h => nomatch h)⟩)⟩)⟩)⟩)⟩)⟩)⟩)⟩)⟩)⟩), (List.forall_mem_append.mpr ⟨il_c_needCell, (List.forall_mem_append.mpr ⟨mb_3, (List.forall_mem_append.mpr ⟨il_c_routeBegin, (fun _ h => nomatch h)⟩)⟩)⟩)⟩)⟩
set_option maxRecDepth 100000 in
theorem mw_240 : (.methodLink RX6 394 Lib.Math.max.name : Cond) ∈ lw_tbl := List.mem_of_getElem? (i := 961) (by decide +kernel)
set_option maxRecDepth 100000 in
theorem mw_241 : (.code yX6_late cX6_late 5 (some .int) : Cond) ∈ lw_tbl := List.mem_of_getElem? (i := 1243) (by decide +kernel)
theorem il_c_late : ∀ w ∈ us_c_late, w ∈ lw_tbl := List.forall_mem_cons.mpr ⟨mw_241, (List.forall_mem_append.mpr ⟨(List.forall_mem_cons.mpr ⟨mw_196, (List.forall_mem_cons.mpr ⟨mw_195, (List.forall_mem_cons.mpr ⟨mw_7, (List.forall_mem_cons.mpr ⟨mw_240, (List.forall_mem_cons.mpr ⟨mw_25, (List.forall_mem_cons.mpr ⟨mw_24, (List.forall_mem_cons.mpr ⟨mw_23, (fun _ h => nomatch h)⟩)⟩)⟩)⟩)⟩)⟩)⟩), (List.forall_mem_append.mpr ⟨il_c_needRange, (fun _ h => nomatch h)⟩)⟩)⟩
set_option maxRecDepth 100000 in
theorem mw_242 : (.code yX6_isFair cX6_isFair 3 (some .boolean) : Cond) ∈ lw_tbl := List.mem_of_getElem? (i := 442) (by decide +kernel)
theorem il_c_isFair : ∀ w ∈ us_c_isFair, w ∈ lw_tbl := List.forall_mem_cons.mpr ⟨mw_242, (List.forall_mem_append.mpr ⟨(List.forall_mem_cons.mpr ⟨mw_139, (List.forall_mem_cons.mpr ⟨mw_188, (fun _ h => nomatch h)⟩)⟩), (List.forall_mem_append.mpr ⟨mb_3, (List.forall_mem_append.mpr ⟨mb_6, (fun _ h => nomatch h)⟩)⟩)⟩)⟩
set_option maxRecDepth 100000 in
theorem mw_243 : (.code yX6_fairWays cX6_fairWays 3 (some .int) : Cond) ∈ lw_tbl := List.mem_of_getElem? (i := 1173) (by decide +kernel)
theorem il_c_fairWays : ∀ w ∈ us_c_fairWays, w ∈ lw_tbl := List.forall_mem_cons.mpr ⟨mw_243, (List.forall_mem_append.mpr ⟨(List.forall_mem_cons.mpr ⟨mw_139, (List.forall_mem_cons.mpr ⟨mw_188, (fun _ h => nomatch h)⟩)⟩), (List.forall_mem_append.mpr ⟨mb_3, (List.forall_mem_append.mpr ⟨mb_6, (fun _ h => nomatch h)⟩)⟩)⟩)⟩
set_option maxRecDepth 100000 in
theorem mw_244 : (.constantLong RX6 425 (7) : Cond) ∈ lw_tbl := List.mem_of_getElem? (i := 482) (by decide +kernel)
set_option maxRecDepth 100000 in
theorem mw_245 : (.code yX6_checksum cX6_checksum 6 (some .long) : Cond) ∈ lw_tbl := List.mem_of_getElem? (i := 481) (by decide +kernel)
theorem il_c_checksum : ∀ w ∈ us_c_checksum, w ∈ lw_tbl := List.forall_mem_cons.mpr ⟨mw_245, (List.forall_mem_append.mpr ⟨(List.forall_mem_cons.mpr ⟨mw_244, (List.forall_mem_cons.mpr ⟨mw_17, (fun _ h => nomatch h)⟩)⟩), (List.forall_mem_append.mpr ⟨mb_3, (fun _ h => nomatch h)⟩)⟩)⟩
set_option maxRecDepth 100000 in
theorem mw_246 : (.selects RX4 yX4_hasNoDearWay yX4_hasNoDearWay : Cond) ∈ lw_tbl := List.mem_of_getElem? (i := 535) (by decide +kernel)
set_option maxRecDepth 100000 in
theorem mw_247 : (.instanceMethod yX4_hasNoDearWay : Cond) ∈ lw_tbl := List.mem_of_getElem? (i := 534) (by decide +kernel)
set_option maxRecDepth 100000 in
theorem mw_248 : (.methodLink RX6 438 yX4_hasNoDearWay : Cond) ∈ lw_tbl := List.mem_of_getElem? (i := 533) (by decide +kernel)
set_option maxRecDepth 100000 in
theorem mw_249 : (.code yX6_isSound cX6_isSound 2 (some .boolean) : Cond) ∈ lw_tbl := List.mem_of_getElem? (i := 487) (by decide +kernel)
theorem il_c_isSound : ∀ w ∈ us_c_isSound, w ∈ lw_tbl := List.forall_mem_cons.mpr ⟨mw_249, (List.forall_mem_append.mpr ⟨(List.forall_mem_cons.mpr ⟨mw_17, (List.forall_mem_cons.mpr ⟨mw_11, (List.forall_mem_cons.mpr ⟨mw_248, (List.forall_mem_cons.mpr ⟨mw_247, (List.forall_mem_cons.mpr ⟨mw_246, (List.forall_mem_cons.mpr ⟨mw_44, (fun _ h => nomatch h)⟩)⟩)⟩)⟩)⟩)⟩), (List.forall_mem_append.mpr ⟨mb_3, (List.forall_mem_append.mpr ⟨il_c_hasNoDearWay, (fun _ h => nomatch h)⟩)⟩)⟩)⟩
set_option maxRecDepth 100000 in
theorem mw_250 : (.methodLink RX6 109 yX4_printMap : Cond) ∈ lw_tbl := List.mem_of_getElem? (i := 438) (by decide +kernel)
set_option maxRecDepth 100000 in
theorem mw_251 : (.code yX6_print cX6_print 1 (some .int) : Cond) ∈ lw_tbl := List.mem_of_getElem? (i := 437) (by decide +kernel)
theorem il_c_print : ∀ w ∈ us_c_print, w ∈ lw_tbl := List.forall_mem_cons.mpr ⟨mw_251, (List.forall_mem_append.mpr ⟨(List.forall_mem_cons.mpr ⟨mw_11, (List.forall_mem_cons.mpr ⟨mw_250, (List.forall_mem_cons.mpr ⟨mw_80, (List.forall_mem_cons.mpr ⟨mw_79, (List.forall_mem_cons.mpr ⟨mw_44, (fun _ h => nomatch h)⟩)⟩)⟩)⟩)⟩), (List.forall_mem_append.mpr ⟨mb_3, (List.forall_mem_append.mpr ⟨il_c_printMap, (fun _ h => nomatch h)⟩)⟩)⟩)⟩
set_option maxRecDepth 100000 in
theorem mw_252 : (.code yX6_land cX6_land 3 (some .int) : Cond) ∈ lw_tbl := List.mem_of_getElem? (i := 576) (by decide +kernel)
theorem il_c_land : ∀ w ∈ us_c_land, w ∈ lw_tbl := List.forall_mem_cons.mpr ⟨mw_252, (List.forall_mem_append.mpr ⟨(List.forall_mem_cons.mpr ⟨mw_196, (List.forall_mem_cons.mpr ⟨mw_195, (List.forall_mem_cons.mpr ⟨mw_7, (List.forall_mem_cons.mpr ⟨mw_11, (List.forall_mem_cons.mpr ⟨mw_119, (List.forall_mem_cons.mpr ⟨mw_118, (List.forall_mem_cons.mpr ⟨mw_117, (List.forall_mem_cons.mpr ⟨mw_44, (List.forall_mem_cons.mpr ⟨mw_13, (List.forall_mem_cons.mpr ⟨mw_15, (List.forall_mem_cons.mpr ⟨mw_17, (List.forall_mem_cons.mpr ⟨mw_139, (List.forall_mem_cons.mpr ⟨mw_188, (List.forall_mem_cons.mpr ⟨mw_10, (fun _ h => nomatch h)⟩)⟩)⟩)⟩)⟩)⟩)⟩)⟩)⟩)⟩)⟩)⟩)⟩)⟩), (List.forall_mem_append.mpr ⟨il_c_needRange, (List.forall_mem_append.mpr ⟨mb_3, (List.forall_mem_append.mpr ⟨il_c_begin, (List.forall_mem_append.mpr ⟨mb_6, (List.forall_mem_append.mpr ⟨mb_2, (fun _ h => nomatch h)⟩)⟩)⟩)⟩)⟩)⟩)⟩
set_option maxRecDepth 100000 in
theorem mw_253 : (.constant RX6 218 (99999) : Cond) ∈ lw_tbl := List.mem_of_getElem? (i := 933) (by decide +kernel)
set_option maxRecDepth 100000 in
theorem mw_254 : (.code yX6_changeover cX6_changeover 7 (some .int) : Cond) ∈ lw_tbl := List.mem_of_getElem? (i := 1189) (by decide +kernel)
theorem il_c_changeover : ∀ w ∈ us_c_changeover, w ∈ lw_tbl := List.forall_mem_cons.mpr ⟨mw_254, (List.forall_mem_append.mpr ⟨(List.forall_mem_cons.mpr ⟨mw_196, (List.forall_mem_cons.mpr ⟨mw_195, (List.forall_mem_cons.mpr ⟨mw_7, (List.forall_mem_cons.mpr ⟨mw_253, (fun _ h => nomatch h)⟩)⟩)⟩)⟩), (List.forall_mem_append.mpr ⟨il_c_needRange, (fun _ h => nomatch h)⟩)⟩)⟩
set_option maxRecDepth 100000 in
theorem mw_255 : (.constant RX5 22 (1000000) : Cond) ∈ lw_tbl := List.mem_of_getElem? (i := 1218) (by decide +kernel)
set_option maxRecDepth 100000 in
theorem mw_256 : (.code yX5_setWay cX5_setWay 5 none : Cond) ∈ lw_tbl := List.mem_of_getElem? (i := 1217) (by decide +kernel)
theorem il_c_setWay : ∀ w ∈ us_c_setWay, w ∈ lw_tbl := List.forall_mem_cons.mpr ⟨mw_256, (List.forall_mem_append.mpr ⟨(List.forall_mem_cons.mpr ⟨mw_111, (List.forall_mem_cons.mpr ⟨mw_255, (fun _ h => nomatch h)⟩)⟩), (List.forall_mem_append.mpr ⟨mb_7, (fun _ h => nomatch h)⟩)⟩)⟩
set_option maxRecDepth 100000 in
theorem mw_257 : (.code yX5_mostPoints cX5_mostPoints 5 (some .int) : Cond) ∈ lw_tbl := List.mem_of_getElem? (i := 1222) (by decide +kernel)
theorem il_c_mostPoints : ∀ w ∈ us_c_mostPoints, w ∈ lw_tbl := List.forall_mem_cons.mpr ⟨mw_257, (List.forall_mem_append.mpr ⟨(fun _ h => nomatch h), (fun _ h => nomatch h)⟩)⟩
set_option maxRecDepth 100000 in
theorem mw_258 : (.selects RX5 yX5_setWay yX5_setWay : Cond) ∈ lw_tbl := List.mem_of_getElem? (i := 1216) (by decide +kernel)
set_option maxRecDepth 100000 in
theorem mw_259 : (.instanceMethod yX5_setWay : Cond) ∈ lw_tbl := List.mem_of_getElem? (i := 1215) (by decide +kernel)
set_option maxRecDepth 100000 in
theorem mw_260 : (.methodLink RX6 542 yX5_setWay : Cond) ∈ lw_tbl := List.mem_of_getElem? (i := 1214) (by decide +kernel)
set_option maxRecDepth 100000 in
theorem mw_261 : (.fieldLink RX6 539 "ControlWood$Terrain" "ways" "[I" : Cond) ∈ lw_tbl := List.mem_of_getElem? (i := 159) (by decide +kernel)
set_option maxRecDepth 100000 in
theorem mw_262 : (.methodLink RX6 535 yX4_spread : Cond) ∈ lw_tbl := List.mem_of_getElem? (i := 1213) (by decide +kernel)
set_option maxRecDepth 100000 in
theorem mw_263 : (.code yX6_listWays cX6_listWays 6 none : Cond) ∈ lw_tbl := List.mem_of_getElem? (i := 1212) (by decide +kernel)
theorem il_c_listWays : ∀ w ∈ us_c_listWays, w ∈ lw_tbl := List.forall_mem_cons.mpr ⟨mw_263, (List.forall_mem_append.mpr ⟨(List.forall_mem_cons.mpr ⟨mw_11, (List.forall_mem_cons.mpr ⟨mw_198, (List.forall_mem_cons.mpr ⟨mw_262, (List.forall_mem_cons.mpr ⟨mw_62, (List.forall_mem_cons.mpr ⟨mw_61, (List.forall_mem_cons.mpr ⟨mw_44, (List.forall_mem_cons.mpr ⟨mw_13, (List.forall_mem_cons.mpr ⟨mw_134, (List.forall_mem_cons.mpr ⟨mw_261, (List.forall_mem_cons.mpr ⟨mw_260, (List.forall_mem_cons.mpr ⟨mw_259, (List.forall_mem_cons.mpr ⟨mw_258, (List.forall_mem_cons.mpr ⟨mw_136, (fun _ h => nomatch h)⟩)⟩)⟩)⟩)⟩)⟩)⟩)⟩)⟩)⟩)⟩)⟩)⟩), (List.forall_mem_append.mpr ⟨mb_3, (List.forall_mem_append.mpr ⟨il_c_spread, (List.forall_mem_append.mpr ⟨mb_2, (List.forall_mem_append.mpr ⟨il_c_setWay, (fun _ h => nomatch h)⟩)⟩)⟩)⟩)⟩)⟩
set_option maxRecDepth 100000 in
theorem mw_264 : (.selects RX5 yX5_mostPoints yX5_mostPoints : Cond) ∈ lw_tbl := List.mem_of_getElem? (i := 1221) (by decide +kernel)
set_option maxRecDepth 100000 in
theorem mw_265 : (.instanceMethod yX5_mostPoints : Cond) ∈ lw_tbl := List.mem_of_getElem? (i := 1220) (by decide +kernel)
set_option maxRecDepth 100000 in
theorem mw_266 : (.methodLink RX6 391 yX5_mostPoints : Cond) ∈ lw_tbl := List.mem_of_getElem? (i := 1219) (by decide +kernel)
set_option maxRecDepth 100000 in
theorem mw_267 : (.selects RX6 yX6_listWays yX6_listWays : Cond) ∈ lw_tbl := List.mem_of_getElem? (i := 41) (by decide +kernel)
set_option maxRecDepth 100000 in
theorem mw_268 : (.instanceMethod yX6_listWays : Cond) ∈ lw_tbl := List.mem_of_getElem? (i := 1211) (by decide +kernel)
set_option maxRecDepth 100000 in
theorem mw_269 : (.methodLink RX6 387 yX6_listWays : Cond) ∈ lw_tbl := List.mem_of_getElem? (i := 1209) (by decide +kernel)
set_option maxRecDepth 100000 in
theorem mw_270 : (.code yX6_score cX6_score 5 (some .int) : Cond) ∈ lw_tbl := List.mem_of_getElem? (i := 1208) (by decide +kernel)
theorem il_c_score : ∀ w ∈ us_c_score, w ∈ lw_tbl := List.forall_mem_cons.mpr ⟨mw_270, (List.forall_mem_append.mpr ⟨(List.forall_mem_cons.mpr ⟨mw_217, (List.forall_mem_cons.mpr ⟨mw_216, (List.forall_mem_cons.mpr ⟨mw_215, (List.forall_mem_cons.mpr ⟨mw_7, (List.forall_mem_cons.mpr ⟨mw_196, (List.forall_mem_cons.mpr ⟨mw_195, (List.forall_mem_cons.mpr ⟨mw_13, (List.forall_mem_cons.mpr ⟨mw_269, (List.forall_mem_cons.mpr ⟨mw_268, (List.forall_mem_cons.mpr ⟨mw_267, (List.forall_mem_cons.mpr ⟨mw_134, (List.forall_mem_cons.mpr ⟨mw_266, (List.forall_mem_cons.mpr ⟨mw_265, (List.forall_mem_cons.mpr ⟨mw_264, (List.forall_mem_cons.mpr ⟨mw_136, (fun _ h => nomatch h)⟩)⟩)⟩)⟩)⟩)⟩)⟩)⟩)⟩)⟩)⟩)⟩)⟩)⟩)⟩), (List.forall_mem_append.mpr ⟨il_c_needCell, (List.forall_mem_append.mpr ⟨il_c_needRange, (List.forall_mem_append.mpr ⟨mb_3, (List.forall_mem_append.mpr ⟨il_c_listWays, (List.forall_mem_append.mpr ⟨il_c_mostPoints, (fun _ h => nomatch h)⟩)⟩)⟩)⟩)⟩)⟩)⟩
set_option maxRecDepth 100000 in
theorem mw_271 : (.classLink RL 19 "java/lang/IndexOutOfBoundsException" : Cond) ∈ lw_tbl := List.mem_of_getElem? (i := 655) (by decide +kernel)
set_option maxRecDepth 100000 in
theorem mw_272 : (.selects RX6 yX6_add yX6_add : Cond) ∈ lw_tbl := List.mem_of_getElem? (i := 845) (by decide +kernel)
set_option maxRecDepth 100000 in
theorem mw_273 : (.instanceMethod yX6_add : Cond) ∈ lw_tbl := List.mem_of_getElem? (i := 844) (by decide +kernel)
set_option maxRecDepth 100000 in
theorem mw_274 : (.methodLink RL 50 yX6_add : Cond) ∈ lw_tbl := List.mem_of_getElem? (i := 843) (by decide +kernel)
set_option maxRecDepth 100000 in
theorem mw_275 : (.codeWith yL_add cL_add 5 (some .int) [(0, 10, 13, 19), (0, 10, 17, 38), (0, 10, 21, 40)] : Cond) ∈ lw_tbl := List.mem_of_getElem? (i := 842) (by decide +kernel)
theorem il_c_Ladd : ∀ w ∈ us_c_Ladd, w ∈ lw_tbl := List.forall_mem_cons.mpr ⟨mw_275, (List.forall_mem_append.mpr ⟨(List.forall_mem_cons.mpr ⟨mw_274, (List.forall_mem_cons.mpr ⟨mw_273, (List.forall_mem_cons.mpr ⟨mw_272, (List.forall_mem_cons.mpr ⟨mw_7, (List.forall_mem_cons.mpr ⟨mw_271, (fun _ h => nomatch h)⟩)⟩)⟩)⟩)⟩), (List.forall_mem_append.mpr ⟨il_c_add, (fun _ h => nomatch h)⟩)⟩)⟩
set_option maxRecDepth 100000 in
theorem mw_276 : (.selects RX6 yX6_areNear yX6_areNear : Cond) ∈ lw_tbl := List.mem_of_getElem? (i := 811) (by decide +kernel)
set_option maxRecDepth 100000 in
theorem mw_277 : (.instanceMethod yX6_areNear : Cond) ∈ lw_tbl := List.mem_of_getElem? (i := 810) (by decide +kernel)
set_option maxRecDepth 100000 in
theorem mw_278 : (.methodLink RL 42 yX6_areNear : Cond) ∈ lw_tbl := List.mem_of_getElem? (i := 809) (by decide +kernel)
set_option maxRecDepth 100000 in
theorem mw_279 : (.codeWith yL_areNear cL_areNear 5 (some .int) [(0, 17, 20, 19)] : Cond) ∈ lw_tbl := List.mem_of_getElem? (i := 808) (by decide +kernel)
theorem il_c_LareNear : ∀ w ∈ us_c_LareNear, w ∈ lw_tbl := List.forall_mem_cons.mpr ⟨mw_279, (List.forall_mem_append.mpr ⟨(List.forall_mem_cons.mpr ⟨mw_278, (List.forall_mem_cons.mpr ⟨mw_277, (List.forall_mem_cons.mpr ⟨mw_276, (List.forall_mem_cons.mpr ⟨mw_7, (List.forall_mem_cons.mpr ⟨mw_271, (fun _ h => nomatch h)⟩)⟩)⟩)⟩)⟩), (List.forall_mem_append.mpr ⟨il_c_areNear, (fun _ h => nomatch h)⟩)⟩)⟩
set_option maxRecDepth 100000 in
theorem mw_280 : (.selects RX6 yX6_branches yX6_branches : Cond) ∈ lw_tbl := List.mem_of_getElem? (i := 912) (by decide +kernel)
set_option maxRecDepth 100000 in
theorem mw_281 : (.instanceMethod yX6_branches : Cond) ∈ lw_tbl := List.mem_of_getElem? (i := 911) (by decide +kernel)
set_option maxRecDepth 100000 in
theorem mw_282 : (.methodLink RL 66 yX6_branches : Cond) ∈ lw_tbl := List.mem_of_getElem? (i := 910) (by decide +kernel)
set_option maxRecDepth 100000 in
theorem mw_283 : (.codeWith yL_branches cL_branches 5 (some .int) [(0, 10, 13, 19), (0, 10, 17, 13), (0, 10, 21, 38)] : Cond) ∈ lw_tbl := List.mem_of_getElem? (i := 909) (by decide +kernel)
theorem il_c_Lbranches : ∀ w ∈ us_c_Lbranches, w ∈ lw_tbl := List.forall_mem_cons.mpr ⟨mw_283, (List.forall_mem_append.mpr ⟨(List.forall_mem_cons.mpr ⟨mw_282, (List.forall_mem_cons.mpr ⟨mw_281, (List.forall_mem_cons.mpr ⟨mw_280, (List.forall_mem_cons.mpr ⟨mw_7, (List.forall_mem_cons.mpr ⟨mw_271, (fun _ h => nomatch h)⟩)⟩)⟩)⟩)⟩), (List.forall_mem_append.mpr ⟨il_c_branches, (fun _ h => nomatch h)⟩)⟩)⟩
set_option maxRecDepth 100000 in
theorem mw_284 : (.classLink RL 13 "java/lang/IllegalArgumentException" : Cond) ∈ lw_tbl := List.mem_of_getElem? (i := 572) (by decide +kernel)
set_option maxRecDepth 100000 in
theorem mw_285 : (.selects RX6 yX6_cell yX6_cell : Cond) ∈ lw_tbl := List.mem_of_getElem? (i := 681) (by decide +kernel)
set_option maxRecDepth 100000 in
theorem mw_286 : (.instanceMethod yX6_cell : Cond) ∈ lw_tbl := List.mem_of_getElem? (i := 680) (by decide +kernel)
set_option maxRecDepth 100000 in
theorem mw_287 : (.methodLink RL 15 yX6_cell : Cond) ∈ lw_tbl := List.mem_of_getElem? (i := 679) (by decide +kernel)
set_option maxRecDepth 100000 in
theorem mw_288 : (.codeWith yL_cell cL_cell 7 (some .int) [(0, 14, 17, 19), (0, 14, 21, 13)] : Cond) ∈ lw_tbl := List.mem_of_getElem? (i := 654) (by decide +kernel)
theorem il_c_Lcell : ∀ w ∈ us_c_Lcell, w ∈ lw_tbl := List.forall_mem_cons.mpr ⟨mw_288, (List.forall_mem_append.mpr ⟨(List.forall_mem_cons.mpr ⟨mw_287, (List.forall_mem_cons.mpr ⟨mw_286, (List.forall_mem_cons.mpr ⟨mw_285, (List.forall_mem_cons.mpr ⟨mw_7, (List.forall_mem_cons.mpr ⟨mw_271, (List.forall_mem_cons.mpr ⟨mw_284, (fun _ h => nomatch h)⟩)⟩)⟩)⟩)⟩)⟩), (List.forall_mem_append.mpr ⟨il_c_cell, (fun _ h => nomatch h)⟩)⟩)⟩
set_option maxRecDepth 100000 in
theorem mw_289 : (.selects RX6 yX6_changeover yX6_changeover : Cond) ∈ lw_tbl := List.mem_of_getElem? (i := 1188) (by decide +kernel)
set_option maxRecDepth 100000 in
theorem mw_290 : (.instanceMethod yX6_changeover : Cond) ∈ lw_tbl := List.mem_of_getElem? (i := 1187) (by decide +kernel)
set_option maxRecDepth 100000 in
theorem mw_291 : (.methodLink RL 133 yX6_changeover : Cond) ∈ lw_tbl := List.mem_of_getElem? (i := 1186) (by decide +kernel)
set_option maxRecDepth 100000 in
theorem mw_292 : (.codeWith yL_changeover cL_changeover 7 (some .int) [(0, 14, 17, 13)] : Cond) ∈ lw_tbl := List.mem_of_getElem? (i := 1185) (by decide +kernel)
theorem il_c_Lchangeover : ∀ w ∈ us_c_Lchangeover, w ∈ lw_tbl := List.forall_mem_cons.mpr ⟨mw_292, (List.forall_mem_append.mpr ⟨(List.forall_mem_cons.mpr ⟨mw_291, (List.forall_mem_cons.mpr ⟨mw_290, (List.forall_mem_cons.mpr ⟨mw_289, (List.forall_mem_cons.mpr ⟨mw_7, (List.forall_mem_cons.mpr ⟨mw_284, (fun _ h => nomatch h)⟩)⟩)⟩)⟩)⟩), (List.forall_mem_append.mpr ⟨il_c_changeover, (fun _ h => nomatch h)⟩)⟩)⟩
set_option maxRecDepth 100000 in
theorem mw_293 : (.selects RX6 yX6_chase yX6_chase : Cond) ∈ lw_tbl := List.mem_of_getElem? (i := 1195) (by decide +kernel)
set_option maxRecDepth 100000 in
theorem mw_294 : (.instanceMethod yX6_chase : Cond) ∈ lw_tbl := List.mem_of_getElem? (i := 1194) (by decide +kernel)
set_option maxRecDepth 100000 in
theorem mw_295 : (.methodLink RL 136 yX6_chase : Cond) ∈ lw_tbl := List.mem_of_getElem? (i := 1193) (by decide +kernel)
set_option maxRecDepth 100000 in
theorem mw_296 : (.codeWith yL_chase cL_chase 6 (some .int) [(0, 12, 15, 19), (0, 12, 19, 13), (0, 12, 23, 40)] : Cond) ∈ lw_tbl := List.mem_of_getElem? (i := 1192) (by decide +kernel)
theorem il_c_Lchase : ∀ w ∈ us_c_Lchase, w ∈ lw_tbl := List.forall_mem_cons.mpr ⟨mw_296, (List.forall_mem_append.mpr ⟨(List.forall_mem_cons.mpr ⟨mw_295, (List.forall_mem_cons.mpr ⟨mw_294, (List.forall_mem_cons.mpr ⟨mw_293, (List.forall_mem_cons.mpr ⟨mw_7, (List.forall_mem_cons.mpr ⟨mw_271, (fun _ h => nomatch h)⟩)⟩)⟩)⟩)⟩), (List.forall_mem_append.mpr ⟨il_c_chase, (fun _ h => nomatch h)⟩)⟩)⟩
set_option maxRecDepth 100000 in
theorem mw_297 : (.selects RX6 yX6_control yX6_control : Cond) ∈ lw_tbl := List.mem_of_getElem? (i := 768) (by decide +kernel)
set_option maxRecDepth 100000 in
theorem mw_298 : (.instanceMethod yX6_control : Cond) ∈ lw_tbl := List.mem_of_getElem? (i := 767) (by decide +kernel)
set_option maxRecDepth 100000 in
theorem mw_299 : (.methodLink RL 34 yX6_control : Cond) ∈ lw_tbl := List.mem_of_getElem? (i := 766) (by decide +kernel)
set_option maxRecDepth 100000 in
theorem mw_300 : (.codeWith yL_control cL_control 6 (some .int) [(0, 12, 15, 19), (0, 12, 19, 13), (0, 12, 23, 38), (0, 12, 27, 40)] : Cond) ∈ lw_tbl := List.mem_of_getElem? (i := 763) (by decide +kernel)
theorem il_c_Lcontrol : ∀ w ∈ us_c_Lcontrol, w ∈ lw_tbl := List.forall_mem_cons.mpr ⟨mw_300, (List.forall_mem_append.mpr ⟨(List.forall_mem_cons.mpr ⟨mw_299, (List.forall_mem_cons.mpr ⟨mw_298, (List.forall_mem_cons.mpr ⟨mw_297, (List.forall_mem_cons.mpr ⟨mw_7, (List.forall_mem_cons.mpr ⟨mw_271, (List.forall_mem_cons.mpr ⟨mw_284, (fun _ h => nomatch h)⟩)⟩)⟩)⟩)⟩)⟩), (List.forall_mem_append.mpr ⟨il_c_control, (fun _ h => nomatch h)⟩)⟩)⟩
set_option maxRecDepth 100000 in
theorem mw_301 : (.selects RX6 yX6_cost yX6_cost : Cond) ∈ lw_tbl := List.mem_of_getElem? (i := 720) (by decide +kernel)
set_option maxRecDepth 100000 in
theorem mw_302 : (.instanceMethod yX6_cost : Cond) ∈ lw_tbl := List.mem_of_getElem? (i := 719) (by decide +kernel)
set_option maxRecDepth 100000 in
theorem mw_303 : (.methodLink RL 25 yX6_cost : Cond) ∈ lw_tbl := List.mem_of_getElem? (i := 718) (by decide +kernel)
set_option maxRecDepth 100000 in
theorem mw_304 : (.codeWith yL_cost cL_cost 6 (some .int) [(0, 12, 15, 19), (0, 12, 19, 29)] : Cond) ∈ lw_tbl := List.mem_of_getElem? (i := 716) (by decide +kernel)
theorem il_c_Lcost : ∀ w ∈ us_c_Lcost, w ∈ lw_tbl := List.forall_mem_cons.mpr ⟨mw_304, (List.forall_mem_append.mpr ⟨(List.forall_mem_cons.mpr ⟨mw_303, (List.forall_mem_cons.mpr ⟨mw_302, (List.forall_mem_cons.mpr ⟨mw_301, (List.forall_mem_cons.mpr ⟨mw_7, (List.forall_mem_cons.mpr ⟨mw_271, (fun _ h => nomatch h)⟩)⟩)⟩)⟩)⟩), (List.forall_mem_append.mpr ⟨il_c_cost, (fun _ h => nomatch h)⟩)⟩)⟩
set_option maxRecDepth 100000 in
theorem mw_305 : (.selects RX6 yX6_course yX6_course : Cond) ∈ lw_tbl := List.mem_of_getElem? (i := 833) (by decide +kernel)
set_option maxRecDepth 100000 in
theorem mw_306 : (.instanceMethod yX6_course : Cond) ∈ lw_tbl := List.mem_of_getElem? (i := 832) (by decide +kernel)
set_option maxRecDepth 100000 in
theorem mw_307 : (.methodLink RL 46 yX6_course : Cond) ∈ lw_tbl := List.mem_of_getElem? (i := 831) (by decide +kernel)
set_option maxRecDepth 100000 in
theorem mw_308 : (.codeWith yL_course cL_course 4 (some .int) [(0, 9, 12, 19), (0, 9, 15, 40)] : Cond) ∈ lw_tbl := List.mem_of_getElem? (i := 830) (by decide +kernel)
theorem il_c_Lcourse : ∀ w ∈ us_c_Lcourse, w ∈ lw_tbl := List.forall_mem_cons.mpr ⟨mw_308, (List.forall_mem_append.mpr ⟨(List.forall_mem_cons.mpr ⟨mw_307, (List.forall_mem_cons.mpr ⟨mw_306, (List.forall_mem_cons.mpr ⟨mw_305, (List.forall_mem_cons.mpr ⟨mw_7, (List.forall_mem_cons.mpr ⟨mw_271, (fun _ h => nomatch h)⟩)⟩)⟩)⟩)⟩), (List.forall_mem_append.mpr ⟨il_c_course, (fun _ h => nomatch h)⟩)⟩)⟩
set_option maxRecDepth 100000 in
theorem mw_309 : (.selects RX6 yX6_dead yX6_dead : Cond) ∈ lw_tbl := List.mem_of_getElem? (i := 1017) (by decide +kernel)
set_option maxRecDepth 100000 in
theorem mw_310 : (.instanceMethod yX6_dead : Cond) ∈ lw_tbl := List.mem_of_getElem? (i := 1016) (by decide +kernel)
set_option maxRecDepth 100000 in
theorem mw_311 : (.methodLink RL 85 yX6_dead : Cond) ∈ lw_tbl := List.mem_of_getElem? (i := 1015) (by decide +kernel)
set_option maxRecDepth 100000 in
theorem mw_312 : (.codeWith yL_dead cL_dead 6 (some .int) [(0, 12, 15, 19), (0, 12, 19, 13)] : Cond) ∈ lw_tbl := List.mem_of_getElem? (i := 1014) (by decide +kernel)
theorem il_c_Ldead : ∀ w ∈ us_c_Ldead, w ∈ lw_tbl := List.forall_mem_cons.mpr ⟨mw_312, (List.forall_mem_append.mpr ⟨(List.forall_mem_cons.mpr ⟨mw_311, (List.forall_mem_cons.mpr ⟨mw_310, (List.forall_mem_cons.mpr ⟨mw_309, (List.forall_mem_cons.mpr ⟨mw_7, (List.forall_mem_cons.mpr ⟨mw_271, (fun _ h => nomatch h)⟩)⟩)⟩)⟩)⟩), (List.forall_mem_append.mpr ⟨il_c_dead, (fun _ h => nomatch h)⟩)⟩)⟩
set_option maxRecDepth 100000 in
theorem mw_313 : (.selects RX6 yX6_draw yX6_draw : Cond) ∈ lw_tbl := List.mem_of_getElem? (i := 939) (by decide +kernel)
set_option maxRecDepth 100000 in
theorem mw_314 : (.instanceMethod yX6_draw : Cond) ∈ lw_tbl := List.mem_of_getElem? (i := 938) (by decide +kernel)
set_option maxRecDepth 100000 in
theorem mw_315 : (.methodLink RL 72 yX6_draw : Cond) ∈ lw_tbl := List.mem_of_getElem? (i := 937) (by decide +kernel)
set_option maxRecDepth 100000 in
theorem mw_316 : (.codeWith yL_draw cL_draw 7 (some .int) [(0, 14, 17, 19), (0, 14, 21, 13), (0, 14, 25, 38)] : Cond) ∈ lw_tbl := List.mem_of_getElem? (i := 936) (by decide +kernel)
theorem il_c_Ldraw : ∀ w ∈ us_c_Ldraw, w ∈ lw_tbl := List.forall_mem_cons.mpr ⟨mw_316, (List.forall_mem_append.mpr ⟨(List.forall_mem_cons.mpr ⟨mw_315, (List.forall_mem_cons.mpr ⟨mw_314, (List.forall_mem_cons.mpr ⟨mw_313, (List.forall_mem_cons.mpr ⟨mw_7, (List.forall_mem_cons.mpr ⟨mw_271, (fun _ h => nomatch h)⟩)⟩)⟩)⟩)⟩), (List.forall_mem_append.mpr ⟨il_c_draw, (fun _ h => nomatch h)⟩)⟩)⟩
set_option maxRecDepth 100000 in
theorem mw_317 : (.selects RX6 yX6_fairWays yX6_fairWays : Cond) ∈ lw_tbl := List.mem_of_getElem? (i := 1172) (by decide +kernel)
set_option maxRecDepth 100000 in
theorem mw_318 : (.instanceMethod yX6_fairWays : Cond) ∈ lw_tbl := List.mem_of_getElem? (i := 1171) (by decide +kernel)
set_option maxRecDepth 100000 in
theorem mw_319 : (.methodLink RL 129 yX6_fairWays : Cond) ∈ lw_tbl := List.mem_of_getElem? (i := 1170) (by decide +kernel)
set_option maxRecDepth 100000 in
theorem mw_320 : (.codeWith yL_fairWays cL_fairWays 3 (some .int) [(0, 8, 11, 38)] : Cond) ∈ lw_tbl := List.mem_of_getElem? (i := 1169) (by decide +kernel)
theorem il_c_LfairWays : ∀ w ∈ us_c_LfairWays, w ∈ lw_tbl := List.forall_mem_cons.mpr ⟨mw_320, (List.forall_mem_append.mpr ⟨(List.forall_mem_cons.mpr ⟨mw_319, (List.forall_mem_cons.mpr ⟨mw_318, (List.forall_mem_cons.mpr ⟨mw_317, (List.forall_mem_cons.mpr ⟨mw_7, (fun _ h => nomatch h)⟩)⟩)⟩)⟩), (List.forall_mem_append.mpr ⟨il_c_fairWays, (fun _ h => nomatch h)⟩)⟩)⟩
set_option maxRecDepth 100000 in
theorem mw_321 : (.selects RX6 yX6_finish yX6_finish : Cond) ∈ lw_tbl := List.mem_of_getElem? (i := 1010) (by decide +kernel)
set_option maxRecDepth 100000 in
theorem mw_322 : (.instanceMethod yX6_finish : Cond) ∈ lw_tbl := List.mem_of_getElem? (i := 1009) (by decide +kernel)
set_option maxRecDepth 100000 in
theorem mw_323 : (.methodLink RL 82 yX6_finish : Cond) ∈ lw_tbl := List.mem_of_getElem? (i := 1008) (by decide +kernel)
set_option maxRecDepth 100000 in
theorem mw_324 : (.codeWith yL_finish cL_finish 5 (some .int) [(0, 10, 13, 19), (0, 10, 17, 38), (0, 10, 21, 13)] : Cond) ∈ lw_tbl := List.mem_of_getElem? (i := 1007) (by decide +kernel)
theorem il_c_Lfinish : ∀ w ∈ us_c_Lfinish, w ∈ lw_tbl := List.forall_mem_cons.mpr ⟨mw_324, (List.forall_mem_append.mpr ⟨(List.forall_mem_cons.mpr ⟨mw_323, (List.forall_mem_cons.mpr ⟨mw_322, (List.forall_mem_cons.mpr ⟨mw_321, (List.forall_mem_cons.mpr ⟨mw_7, (List.forall_mem_cons.mpr ⟨mw_271, (fun _ h => nomatch h)⟩)⟩)⟩)⟩)⟩), (List.forall_mem_append.mpr ⟨il_c_finish, (fun _ h => nomatch h)⟩)⟩)⟩
set_option maxRecDepth 100000 in
theorem mw_325 : (.selects RX6 yX6_fix yX6_fix : Cond) ∈ lw_tbl := List.mem_of_getElem? (i := 1249) (by decide +kernel)
set_option maxRecDepth 100000 in
theorem mw_326 : (.instanceMethod yX6_fix : Cond) ∈ lw_tbl := List.mem_of_getElem? (i := 1248) (by decide +kernel)
set_option maxRecDepth 100000 in
theorem mw_327 : (.methodLink RL 145 yX6_fix : Cond) ∈ lw_tbl := List.mem_of_getElem? (i := 1247) (by decide +kernel)
set_option maxRecDepth 100000 in
theorem mw_328 : (.codeWith yL_fix cL_fix 6 (some .int) [(0, 12, 15, 19), (0, 12, 19, 13), (0, 12, 23, 40)] : Cond) ∈ lw_tbl := List.mem_of_getElem? (i := 1246) (by decide +kernel)
theorem il_c_Lfix : ∀ w ∈ us_c_Lfix, w ∈ lw_tbl := List.forall_mem_cons.mpr ⟨mw_328, (List.forall_mem_append.mpr ⟨(List.forall_mem_cons.mpr ⟨mw_327, (List.forall_mem_cons.mpr ⟨mw_326, (List.forall_mem_cons.mpr ⟨mw_325, (List.forall_mem_cons.mpr ⟨mw_7, (List.forall_mem_cons.mpr ⟨mw_271, (fun _ h => nomatch h)⟩)⟩)⟩)⟩)⟩), (List.forall_mem_append.mpr ⟨il_c_fix, (fun _ h => nomatch h)⟩)⟩)⟩
set_option maxRecDepth 100000 in
theorem mw_329 : (.selects RX6 yX6_fork yX6_fork : Cond) ∈ lw_tbl := List.mem_of_getElem? (i := 866) (by decide +kernel)
set_option maxRecDepth 100000 in
theorem mw_330 : (.instanceMethod yX6_fork : Cond) ∈ lw_tbl := List.mem_of_getElem? (i := 865) (by decide +kernel)
set_option maxRecDepth 100000 in
theorem mw_331 : (.methodLink RL 53 yX6_fork : Cond) ∈ lw_tbl := List.mem_of_getElem? (i := 864) (by decide +kernel)
set_option maxRecDepth 100000 in
theorem mw_332 : (.codeWith yL_fork cL_fork 6 (some .int) [(0, 12, 15, 19), (0, 12, 19, 38), (0, 12, 23, 13)] : Cond) ∈ lw_tbl := List.mem_of_getElem? (i := 863) (by decide +kernel)
theorem il_c_Lfork : ∀ w ∈ us_c_Lfork, w ∈ lw_tbl := List.forall_mem_cons.mpr ⟨mw_332, (List.forall_mem_append.mpr ⟨(List.forall_mem_cons.mpr ⟨mw_331, (List.forall_mem_cons.mpr ⟨mw_330, (List.forall_mem_cons.mpr ⟨mw_329, (List.forall_mem_cons.mpr ⟨mw_7, (List.forall_mem_cons.mpr ⟨mw_271, (fun _ h => nomatch h)⟩)⟩)⟩)⟩)⟩), (List.forall_mem_append.mpr ⟨il_c_fork, (fun _ h => nomatch h)⟩)⟩)⟩
set_option maxRecDepth 100000 in
theorem mw_333 : (.selects RX6 yX6_isLawful yX6_isLawful : Cond) ∈ lw_tbl := List.mem_of_getElem? (i := 874) (by decide +kernel)
set_option maxRecDepth 100000 in
theorem mw_334 : (.instanceMethod yX6_isLawful : Cond) ∈ lw_tbl := List.mem_of_getElem? (i := 873) (by decide +kernel)
set_option maxRecDepth 100000 in
theorem mw_335 : (.methodLink RL 56 yX6_isLawful : Cond) ∈ lw_tbl := List.mem_of_getElem? (i := 872) (by decide +kernel)
set_option maxRecDepth 100000 in
theorem mw_336 : (.codeWith yL_isLawful cL_isLawful 4 (some .int) [(0, 16, 19, 19)] : Cond) ∈ lw_tbl := List.mem_of_getElem? (i := 871) (by decide +kernel)
theorem il_c_LisLawful : ∀ w ∈ us_c_LisLawful, w ∈ lw_tbl := List.forall_mem_cons.mpr ⟨mw_336, (List.forall_mem_append.mpr ⟨(List.forall_mem_cons.mpr ⟨mw_335, (List.forall_mem_cons.mpr ⟨mw_334, (List.forall_mem_cons.mpr ⟨mw_333, (List.forall_mem_cons.mpr ⟨mw_7, (List.forall_mem_cons.mpr ⟨mw_271, (fun _ h => nomatch h)⟩)⟩)⟩)⟩)⟩), (List.forall_mem_append.mpr ⟨il_c_isLawful, (fun _ h => nomatch h)⟩)⟩)⟩
set_option maxRecDepth 100000 in
theorem mw_337 : (.selects RX6 yX6_land yX6_land : Cond) ∈ lw_tbl := List.mem_of_getElem? (i := 575) (by decide +kernel)
set_option maxRecDepth 100000 in
theorem mw_338 : (.instanceMethod yX6_land : Cond) ∈ lw_tbl := List.mem_of_getElem? (i := 574) (by decide +kernel)
set_option maxRecDepth 100000 in
theorem mw_339 : (.methodLink RL 7 yX6_land : Cond) ∈ lw_tbl := List.mem_of_getElem? (i := 573) (by decide +kernel)
set_option maxRecDepth 100000 in
theorem mw_340 : (.codeWith yL_land cL_land 5 (some .int) [(0, 10, 13, 13)] : Cond) ∈ lw_tbl := List.mem_of_getElem? (i := 571) (by decide +kernel)
theorem il_c_Lland : ∀ w ∈ us_c_Lland, w ∈ lw_tbl := List.forall_mem_cons.mpr ⟨mw_340, (List.forall_mem_append.mpr ⟨(List.forall_mem_cons.mpr ⟨mw_339, (List.forall_mem_cons.mpr ⟨mw_338, (List.forall_mem_cons.mpr ⟨mw_337, (List.forall_mem_cons.mpr ⟨mw_7, (List.forall_mem_cons.mpr ⟨mw_284, (fun _ h => nomatch h)⟩)⟩)⟩)⟩)⟩), (List.forall_mem_append.mpr ⟨il_c_land, (fun _ h => nomatch h)⟩)⟩)⟩
set_option maxRecDepth 100000 in
theorem mw_341 : (.selects RX6 yX6_late yX6_late : Cond) ∈ lw_tbl := List.mem_of_getElem? (i := 1242) (by decide +kernel)
set_option maxRecDepth 100000 in
theorem mw_342 : (.instanceMethod yX6_late : Cond) ∈ lw_tbl := List.mem_of_getElem? (i := 1241) (by decide +kernel)
set_option maxRecDepth 100000 in
theorem mw_343 : (.methodLink RL 142 yX6_late : Cond) ∈ lw_tbl := List.mem_of_getElem? (i := 1240) (by decide +kernel)
set_option maxRecDepth 100000 in
theorem mw_344 : (.codeWith yL_late cL_late 6 (some .int) [(0, 12, 15, 13)] : Cond) ∈ lw_tbl := List.mem_of_getElem? (i := 1239) (by decide +kernel)
theorem il_c_Llate : ∀ w ∈ us_c_Llate, w ∈ lw_tbl := List.forall_mem_cons.mpr ⟨mw_344, (List.forall_mem_append.mpr ⟨(List.forall_mem_cons.mpr ⟨mw_343, (List.forall_mem_cons.mpr ⟨mw_342, (List.forall_mem_cons.mpr ⟨mw_341, (List.forall_mem_cons.mpr ⟨mw_7, (List.forall_mem_cons.mpr ⟨mw_284, (fun _ h => nomatch h)⟩)⟩)⟩)⟩)⟩), (List.forall_mem_append.mpr ⟨il_c_late, (fun _ h => nomatch h)⟩)⟩)⟩
set_option maxRecDepth 100000 in
theorem mw_345 : (.selects RX6 yX6_lengthOf yX6_lengthOf : Cond) ∈ lw_tbl := List.mem_of_getElem? (i := 889) (by decide +kernel)
set_option maxRecDepth 100000 in
theorem mw_346 : (.instanceMethod yX6_lengthOf : Cond) ∈ lw_tbl := List.mem_of_getElem? (i := 888) (by decide +kernel)
set_option maxRecDepth 100000 in
theorem mw_347 : (.methodLink RL 60 yX6_lengthOf : Cond) ∈ lw_tbl := List.mem_of_getElem? (i := 887) (by decide +kernel)
set_option maxRecDepth 100000 in
theorem mw_348 : (.codeWith yL_lengthOf cL_lengthOf 4 (some .int) [(0, 9, 12, 19), (0, 9, 15, 29)] : Cond) ∈ lw_tbl := List.mem_of_getElem? (i := 886) (by decide +kernel)
theorem il_c_LlengthOf : ∀ w ∈ us_c_LlengthOf, w ∈ lw_tbl := List.forall_mem_cons.mpr ⟨mw_348, (List.forall_mem_append.mpr ⟨(List.forall_mem_cons.mpr ⟨mw_347, (List.forall_mem_cons.mpr ⟨mw_346, (List.forall_mem_cons.mpr ⟨mw_345, (List.forall_mem_cons.mpr ⟨mw_7, (List.forall_mem_cons.mpr ⟨mw_271, (fun _ h => nomatch h)⟩)⟩)⟩)⟩)⟩), (List.forall_mem_append.mpr ⟨il_c_lengthOf, (fun _ h => nomatch h)⟩)⟩)⟩
set_option maxRecDepth 100000 in
theorem mw_349 : (.selects RX6 yX6_loss yX6_loss : Cond) ∈ lw_tbl := List.mem_of_getElem? (i := 1130) (by decide +kernel)
set_option maxRecDepth 100000 in
theorem mw_350 : (.instanceMethod yX6_loss : Cond) ∈ lw_tbl := List.mem_of_getElem? (i := 1129) (by decide +kernel)
set_option maxRecDepth 100000 in
theorem mw_351 : (.methodLink RL 117 yX6_loss : Cond) ∈ lw_tbl := List.mem_of_getElem? (i := 1128) (by decide +kernel)
set_option maxRecDepth 100000 in
theorem mw_352 : (.codeWith yL_loss cL_loss 5 (some .int) [(0, 10, 13, 19), (0, 10, 17, 29)] : Cond) ∈ lw_tbl := List.mem_of_getElem? (i := 1127) (by decide +kernel)
theorem il_c_Lloss : ∀ w ∈ us_c_Lloss, w ∈ lw_tbl := List.forall_mem_cons.mpr ⟨mw_352, (List.forall_mem_append.mpr ⟨(List.forall_mem_cons.mpr ⟨mw_351, (List.forall_mem_cons.mpr ⟨mw_350, (List.forall_mem_cons.mpr ⟨mw_349, (List.forall_mem_cons.mpr ⟨mw_7, (List.forall_mem_cons.mpr ⟨mw_271, (fun _ h => nomatch h)⟩)⟩)⟩)⟩)⟩), (List.forall_mem_append.mpr ⟨il_c_loss, (fun _ h => nomatch h)⟩)⟩)⟩
set_option maxRecDepth 100000 in
theorem mw_353 : (.selects RX6 yX6_mayHave yX6_mayHave : Cond) ∈ lw_tbl := List.mem_of_getElem? (i := 1258) (by decide +kernel)
set_option maxRecDepth 100000 in
theorem mw_354 : (.instanceMethod yX6_mayHave : Cond) ∈ lw_tbl := List.mem_of_getElem? (i := 1257) (by decide +kernel)
set_option maxRecDepth 100000 in
theorem mw_355 : (.methodLink RL 148 yX6_mayHave : Cond) ∈ lw_tbl := List.mem_of_getElem? (i := 1256) (by decide +kernel)
set_option maxRecDepth 100000 in
theorem mw_356 : (.codeWith yL_mayHave cL_mayHave 5 (some .int) [(0, 17, 20, 19)] : Cond) ∈ lw_tbl := List.mem_of_getElem? (i := 1255) (by decide +kernel)
theorem il_c_LmayHave : ∀ w ∈ us_c_LmayHave, w ∈ lw_tbl := List.forall_mem_cons.mpr ⟨mw_356, (List.forall_mem_append.mpr ⟨(List.forall_mem_cons.mpr ⟨mw_355, (List.forall_mem_cons.mpr ⟨mw_354, (List.forall_mem_cons.mpr ⟨mw_353, (List.forall_mem_cons.mpr ⟨mw_7, (List.forall_mem_cons.mpr ⟨mw_271, (fun _ h => nomatch h)⟩)⟩)⟩)⟩)⟩), (List.forall_mem_append.mpr ⟨il_c_mayHave, (fun _ h => nomatch h)⟩)⟩)⟩
set_option maxRecDepth 100000 in
theorem mw_357 : (.selects RX6 yX6_meanTime yX6_meanTime : Cond) ∈ lw_tbl := List.mem_of_getElem? (i := 1297) (by decide +kernel)
set_option maxRecDepth 100000 in
theorem mw_358 : (.instanceMethod yX6_meanTime : Cond) ∈ lw_tbl := List.mem_of_getElem? (i := 1296) (by decide +kernel)
set_option maxRecDepth 100000 in
theorem mw_359 : (.methodLink RL 157 yX6_meanTime : Cond) ∈ lw_tbl := List.mem_of_getElem? (i := 1295) (by decide +kernel)
set_option maxRecDepth 100000 in
theorem mw_360 : (.codeWith yL_meanTime cL_meanTime 4 (some .int) [(0, 8, 11, 19), (0, 8, 14, 155)] : Cond) ∈ lw_tbl := List.mem_of_getElem? (i := 1294) (by decide +kernel)
theorem il_c_LmeanTime : ∀ w ∈ us_c_LmeanTime, w ∈ lw_tbl := List.forall_mem_cons.mpr ⟨mw_360, (List.forall_mem_append.mpr ⟨(List.forall_mem_cons.mpr ⟨mw_359, (List.forall_mem_cons.mpr ⟨mw_358, (List.forall_mem_cons.mpr ⟨mw_357, (List.forall_mem_cons.mpr ⟨mw_7, (List.forall_mem_cons.mpr ⟨mw_271, (fun _ h => nomatch h)⟩)⟩)⟩)⟩)⟩), (List.forall_mem_append.mpr ⟨il_c_meanTime, (fun _ h => nomatch h)⟩)⟩)⟩
set_option maxRecDepth 100000 in
theorem mw_361 : (.selects RX6 yX6_misled yX6_misled : Cond) ∈ lw_tbl := List.mem_of_getElem? (i := 751) (by decide +kernel)
set_option maxRecDepth 100000 in
theorem mw_362 : (.instanceMethod yX6_misled : Cond) ∈ lw_tbl := List.mem_of_getElem? (i := 750) (by decide +kernel)
set_option maxRecDepth 100000 in
theorem mw_363 : (.methodLink RL 31 yX6_misled : Cond) ∈ lw_tbl := List.mem_of_getElem? (i := 749) (by decide +kernel)
set_option maxRecDepth 100000 in
theorem mw_364 : (.codeWith yL_misled cL_misled 5 (some .int) [(0, 10, 13, 19), (0, 10, 17, 29)] : Cond) ∈ lw_tbl := List.mem_of_getElem? (i := 748) (by decide +kernel)
theorem il_c_Lmisled : ∀ w ∈ us_c_Lmisled, w ∈ lw_tbl := List.forall_mem_cons.mpr ⟨mw_364, (List.forall_mem_append.mpr ⟨(List.forall_mem_cons.mpr ⟨mw_363, (List.forall_mem_cons.mpr ⟨mw_362, (List.forall_mem_cons.mpr ⟨mw_361, (List.forall_mem_cons.mpr ⟨mw_7, (List.forall_mem_cons.mpr ⟨mw_271, (fun _ h => nomatch h)⟩)⟩)⟩)⟩)⟩), (List.forall_mem_append.mpr ⟨il_c_misled, (fun _ h => nomatch h)⟩)⟩)⟩
set_option maxRecDepth 100000 in
theorem mw_365 : (.selects RX6 yX6_okShare yX6_okShare : Cond) ∈ lw_tbl := List.mem_of_getElem? (i := 1283) (by decide +kernel)
set_option maxRecDepth 100000 in
theorem mw_366 : (.instanceMethod yX6_okShare : Cond) ∈ lw_tbl := List.mem_of_getElem? (i := 1282) (by decide +kernel)
set_option maxRecDepth 100000 in
theorem mw_367 : (.methodLink RL 151 yX6_okShare : Cond) ∈ lw_tbl := List.mem_of_getElem? (i := 1281) (by decide +kernel)
set_option maxRecDepth 100000 in
theorem mw_368 : (.codeWith yL_okShare cL_okShare 4 (some .int) [(0, 9, 12, 19), (0, 9, 15, 155)] : Cond) ∈ lw_tbl := List.mem_of_getElem? (i := 1266) (by decide +kernel)
theorem il_c_LokShare : ∀ w ∈ us_c_LokShare, w ∈ lw_tbl := List.forall_mem_cons.mpr ⟨mw_368, (List.forall_mem_append.mpr ⟨(List.forall_mem_cons.mpr ⟨mw_367, (List.forall_mem_cons.mpr ⟨mw_366, (List.forall_mem_cons.mpr ⟨mw_365, (List.forall_mem_cons.mpr ⟨mw_7, (List.forall_mem_cons.mpr ⟨mw_271, (fun _ h => nomatch h)⟩)⟩)⟩)⟩)⟩), (List.forall_mem_append.mpr ⟨il_c_okShare, (fun _ h => nomatch h)⟩)⟩)⟩
set_option maxRecDepth 100000 in
theorem mw_369 : (.selects RX6 yX6_pace yX6_pace : Cond) ∈ lw_tbl := List.mem_of_getElem? (i := 1119) (by decide +kernel)
set_option maxRecDepth 100000 in
theorem mw_370 : (.instanceMethod yX6_pace : Cond) ∈ lw_tbl := List.mem_of_getElem? (i := 1118) (by decide +kernel)
set_option maxRecDepth 100000 in
theorem mw_371 : (.methodLink RL 114 yX6_pace : Cond) ∈ lw_tbl := List.mem_of_getElem? (i := 1117) (by decide +kernel)
set_option maxRecDepth 100000 in
theorem mw_372 : (.codeWith yL_pace cL_pace 4 (some .int) [(0, 9, 12, 19), (0, 9, 15, 29)] : Cond) ∈ lw_tbl := List.mem_of_getElem? (i := 1116) (by decide +kernel)
theorem il_c_Lpace : ∀ w ∈ us_c_Lpace, w ∈ lw_tbl := List.forall_mem_cons.mpr ⟨mw_372, (List.forall_mem_append.mpr ⟨(List.forall_mem_cons.mpr ⟨mw_371, (List.forall_mem_cons.mpr ⟨mw_370, (List.forall_mem_cons.mpr ⟨mw_369, (List.forall_mem_cons.mpr ⟨mw_7, (List.forall_mem_cons.mpr ⟨mw_271, (fun _ h => nomatch h)⟩)⟩)⟩)⟩)⟩), (List.forall_mem_append.mpr ⟨il_c_pace, (fun _ h => nomatch h)⟩)⟩)⟩
set_option maxRecDepth 100000 in
theorem mw_373 : (.selects RX6 yX6_place yX6_place : Cond) ∈ lw_tbl := List.mem_of_getElem? (i := 1086) (by decide +kernel)
set_option maxRecDepth 100000 in
theorem mw_374 : (.instanceMethod yX6_place : Cond) ∈ lw_tbl := List.mem_of_getElem? (i := 1085) (by decide +kernel)
set_option maxRecDepth 100000 in
theorem mw_375 : (.methodLink RL 108 yX6_place : Cond) ∈ lw_tbl := List.mem_of_getElem? (i := 1084) (by decide +kernel)
set_option maxRecDepth 100000 in
theorem mw_376 : (.codeWith yL_place cL_place 4 (some .int) [(0, 9, 12, 19), (0, 9, 15, 29)] : Cond) ∈ lw_tbl := List.mem_of_getElem? (i := 1083) (by decide +kernel)
theorem il_c_Lplace : ∀ w ∈ us_c_Lplace, w ∈ lw_tbl := List.forall_mem_cons.mpr ⟨mw_376, (List.forall_mem_append.mpr ⟨(List.forall_mem_cons.mpr ⟨mw_375, (List.forall_mem_cons.mpr ⟨mw_374, (List.forall_mem_cons.mpr ⟨mw_373, (List.forall_mem_cons.mpr ⟨mw_7, (List.forall_mem_cons.mpr ⟨mw_271, (fun _ h => nomatch h)⟩)⟩)⟩)⟩)⟩), (List.forall_mem_append.mpr ⟨il_c_place, (fun _ h => nomatch h)⟩)⟩)⟩
set_option maxRecDepth 100000 in
theorem mw_377 : (.selects RX6 yX6_points yX6_points : Cond) ∈ lw_tbl := List.mem_of_getElem? (i := 1141) (by decide +kernel)
set_option maxRecDepth 100000 in
theorem mw_378 : (.instanceMethod yX6_points : Cond) ∈ lw_tbl := List.mem_of_getElem? (i := 1140) (by decide +kernel)
set_option maxRecDepth 100000 in
theorem mw_379 : (.methodLink RL 120 yX6_points : Cond) ∈ lw_tbl := List.mem_of_getElem? (i := 1139) (by decide +kernel)
set_option maxRecDepth 100000 in
theorem mw_380 : (.codeWith yL_points cL_points 4 (some .int) [(0, 9, 12, 19), (0, 9, 15, 29)] : Cond) ∈ lw_tbl := List.mem_of_getElem? (i := 1138) (by decide +kernel)
theorem il_c_Lpoints : ∀ w ∈ us_c_Lpoints, w ∈ lw_tbl := List.forall_mem_cons.mpr ⟨mw_380, (List.forall_mem_append.mpr ⟨(List.forall_mem_cons.mpr ⟨mw_379, (List.forall_mem_cons.mpr ⟨mw_378, (List.forall_mem_cons.mpr ⟨mw_377, (List.forall_mem_cons.mpr ⟨mw_7, (List.forall_mem_cons.mpr ⟨mw_271, (fun _ h => nomatch h)⟩)⟩)⟩)⟩)⟩), (List.forall_mem_append.mpr ⟨il_c_points, (fun _ h => nomatch h)⟩)⟩)⟩
set_option maxRecDepth 100000 in
theorem mw_381 : (.selects RX6 yX6_punch yX6_punch : Cond) ∈ lw_tbl := List.mem_of_getElem? (i := 986) (by decide +kernel)
set_option maxRecDepth 100000 in
theorem mw_382 : (.instanceMethod yX6_punch : Cond) ∈ lw_tbl := List.mem_of_getElem? (i := 985) (by decide +kernel)
set_option maxRecDepth 100000 in
theorem mw_383 : (.methodLink RL 79 yX6_punch : Cond) ∈ lw_tbl := List.mem_of_getElem? (i := 984) (by decide +kernel)
set_option maxRecDepth 100000 in
theorem mw_384 : (.codeWith yL_punch cL_punch 6 (some .int) [(0, 12, 15, 19), (0, 12, 19, 38), (0, 12, 23, 13), (0, 12, 27, 40)] : Cond) ∈ lw_tbl := List.mem_of_getElem? (i := 983) (by decide +kernel)
theorem il_c_Lpunch : ∀ w ∈ us_c_Lpunch, w ∈ lw_tbl := List.forall_mem_cons.mpr ⟨mw_384, (List.forall_mem_append.mpr ⟨(List.forall_mem_cons.mpr ⟨mw_383, (List.forall_mem_cons.mpr ⟨mw_382, (List.forall_mem_cons.mpr ⟨mw_381, (List.forall_mem_cons.mpr ⟨mw_7, (List.forall_mem_cons.mpr ⟨mw_271, (fun _ h => nomatch h)⟩)⟩)⟩)⟩)⟩), (List.forall_mem_append.mpr ⟨il_c_punch, (fun _ h => nomatch h)⟩)⟩)⟩
set_option maxRecDepth 100000 in
theorem mw_385 : (.selects RX6 yX6_reference yX6_reference : Cond) ∈ lw_tbl := List.mem_of_getElem? (i := 1100) (by decide +kernel)
set_option maxRecDepth 100000 in
theorem mw_386 : (.instanceMethod yX6_reference : Cond) ∈ lw_tbl := List.mem_of_getElem? (i := 1099) (by decide +kernel)
set_option maxRecDepth 100000 in
theorem mw_387 : (.methodLink RL 111 yX6_reference : Cond) ∈ lw_tbl := List.mem_of_getElem? (i := 1098) (by decide +kernel)
set_option maxRecDepth 100000 in
theorem mw_388 : (.codeWith yL_reference cL_reference 5 (some .int) [(0, 10, 13, 19), (0, 10, 17, 29)] : Cond) ∈ lw_tbl := List.mem_of_getElem? (i := 1097) (by decide +kernel)
theorem il_c_Lreference : ∀ w ∈ us_c_Lreference, w ∈ lw_tbl := List.forall_mem_cons.mpr ⟨mw_388, (List.forall_mem_append.mpr ⟨(List.forall_mem_cons.mpr ⟨mw_387, (List.forall_mem_cons.mpr ⟨mw_386, (List.forall_mem_cons.mpr ⟨mw_385, (List.forall_mem_cons.mpr ⟨mw_7, (List.forall_mem_cons.mpr ⟨mw_271, (fun _ h => nomatch h)⟩)⟩)⟩)⟩)⟩), (List.forall_mem_append.mpr ⟨il_c_reference, (fun _ h => nomatch h)⟩)⟩)⟩
set_option maxRecDepth 100000 in
theorem mw_389 : (.selects RX6 yX6_rule yX6_rule : Cond) ∈ lw_tbl := List.mem_of_getElem? (i := 1047) (by decide +kernel)
set_option maxRecDepth 100000 in
theorem mw_390 : (.instanceMethod yX6_rule : Cond) ∈ lw_tbl := List.mem_of_getElem? (i := 1046) (by decide +kernel)
set_option maxRecDepth 100000 in
theorem mw_391 : (.methodLink RL 95 yX6_rule : Cond) ∈ lw_tbl := List.mem_of_getElem? (i := 1045) (by decide +kernel)
set_option maxRecDepth 100000 in
theorem mw_392 : (.codeWith yL_rule cL_rule 5 (some .int) [(0, 10, 13, 19), (0, 10, 17, 38), (0, 10, 21, 13)] : Cond) ∈ lw_tbl := List.mem_of_getElem? (i := 1044) (by decide +kernel)
theorem il_c_Lrule : ∀ w ∈ us_c_Lrule, w ∈ lw_tbl := List.forall_mem_cons.mpr ⟨mw_392, (List.forall_mem_append.mpr ⟨(List.forall_mem_cons.mpr ⟨mw_391, (List.forall_mem_cons.mpr ⟨mw_390, (List.forall_mem_cons.mpr ⟨mw_389, (List.forall_mem_cons.mpr ⟨mw_7, (List.forall_mem_cons.mpr ⟨mw_271, (fun _ h => nomatch h)⟩)⟩)⟩)⟩)⟩), (List.forall_mem_append.mpr ⟨il_c_rule, (fun _ h => nomatch h)⟩)⟩)⟩
set_option maxRecDepth 100000 in
theorem mw_393 : (.selects RX6 yX6_runner yX6_runner : Cond) ∈ lw_tbl := List.mem_of_getElem? (i := 896) (by decide +kernel)
set_option maxRecDepth 100000 in
theorem mw_394 : (.instanceMethod yX6_runner : Cond) ∈ lw_tbl := List.mem_of_getElem? (i := 895) (by decide +kernel)
set_option maxRecDepth 100000 in
theorem mw_395 : (.methodLink RL 63 yX6_runner : Cond) ∈ lw_tbl := List.mem_of_getElem? (i := 894) (by decide +kernel)
set_option maxRecDepth 100000 in
theorem mw_396 : (.codeWith yL_runner cL_runner 5 (some .int) [(0, 10, 13, 13), (0, 10, 17, 19), (0, 10, 21, 40)] : Cond) ∈ lw_tbl := List.mem_of_getElem? (i := 893) (by decide +kernel)
theorem il_c_Lrunner : ∀ w ∈ us_c_Lrunner, w ∈ lw_tbl := List.forall_mem_cons.mpr ⟨mw_396, (List.forall_mem_append.mpr ⟨(List.forall_mem_cons.mpr ⟨mw_395, (List.forall_mem_cons.mpr ⟨mw_394, (List.forall_mem_cons.mpr ⟨mw_393, (List.forall_mem_cons.mpr ⟨mw_7, (List.forall_mem_cons.mpr ⟨mw_284, (List.forall_mem_cons.mpr ⟨mw_271, (fun _ h => nomatch h)⟩)⟩)⟩)⟩)⟩)⟩), (List.forall_mem_append.mpr ⟨il_c_runner, (fun _ h => nomatch h)⟩)⟩)⟩
set_option maxRecDepth 100000 in
theorem mw_397 : (.selects RX6 yX6_runs yX6_runs : Cond) ∈ lw_tbl := List.mem_of_getElem? (i := 1165) (by decide +kernel)
set_option maxRecDepth 100000 in
theorem mw_398 : (.instanceMethod yX6_runs : Cond) ∈ lw_tbl := List.mem_of_getElem? (i := 1164) (by decide +kernel)
set_option maxRecDepth 100000 in
theorem mw_399 : (.methodLink RL 126 yX6_runs : Cond) ∈ lw_tbl := List.mem_of_getElem? (i := 1163) (by decide +kernel)
set_option maxRecDepth 100000 in
theorem mw_400 : (.codeWith yL_runs cL_runs 6 (some .int) [(0, 12, 15, 19), (0, 12, 19, 13)] : Cond) ∈ lw_tbl := List.mem_of_getElem? (i := 1162) (by decide +kernel)
theorem il_c_Lruns : ∀ w ∈ us_c_Lruns, w ∈ lw_tbl := List.forall_mem_cons.mpr ⟨mw_400, (List.forall_mem_append.mpr ⟨(List.forall_mem_cons.mpr ⟨mw_399, (List.forall_mem_cons.mpr ⟨mw_398, (List.forall_mem_cons.mpr ⟨mw_397, (List.forall_mem_cons.mpr ⟨mw_7, (List.forall_mem_cons.mpr ⟨mw_271, (fun _ h => nomatch h)⟩)⟩)⟩)⟩)⟩), (List.forall_mem_append.mpr ⟨il_c_runs, (fun _ h => nomatch h)⟩)⟩)⟩
set_option maxRecDepth 100000 in
theorem mw_401 : (.selects RX6 yX6_score yX6_score : Cond) ∈ lw_tbl := List.mem_of_getElem? (i := 1207) (by decide +kernel)
set_option maxRecDepth 100000 in
theorem mw_402 : (.instanceMethod yX6_score : Cond) ∈ lw_tbl := List.mem_of_getElem? (i := 1206) (by decide +kernel)
set_option maxRecDepth 100000 in
theorem mw_403 : (.methodLink RL 139 yX6_score : Cond) ∈ lw_tbl := List.mem_of_getElem? (i := 1205) (by decide +kernel)
set_option maxRecDepth 100000 in
theorem mw_404 : (.codeWith yL_score cL_score 6 (some .int) [(0, 12, 15, 19), (0, 12, 19, 13)] : Cond) ∈ lw_tbl := List.mem_of_getElem? (i := 1204) (by decide +kernel)
theorem il_c_Lscore : ∀ w ∈ us_c_Lscore, w ∈ lw_tbl := List.forall_mem_cons.mpr ⟨mw_404, (List.forall_mem_append.mpr ⟨(List.forall_mem_cons.mpr ⟨mw_403, (List.forall_mem_cons.mpr ⟨mw_402, (List.forall_mem_cons.mpr ⟨mw_401, (List.forall_mem_cons.mpr ⟨mw_7, (List.forall_mem_cons.mpr ⟨mw_271, (List.forall_mem_cons.mpr ⟨mw_284, (fun _ h => nomatch h)⟩)⟩)⟩)⟩)⟩)⟩), (List.forall_mem_append.mpr ⟨il_c_score, (fun _ h => nomatch h)⟩)⟩)⟩
set_option maxRecDepth 100000 in
theorem mw_405 : (.selects RX6 yX6_show yX6_show : Cond) ∈ lw_tbl := List.mem_of_getElem? (i := 712) (by decide +kernel)
set_option maxRecDepth 100000 in
theorem mw_406 : (.instanceMethod yX6_show : Cond) ∈ lw_tbl := List.mem_of_getElem? (i := 711) (by decide +kernel)
set_option maxRecDepth 100000 in
theorem mw_407 : (.methodLink RL 21 yX6_show : Cond) ∈ lw_tbl := List.mem_of_getElem? (i := 710) (by decide +kernel)
set_option maxRecDepth 100000 in
theorem mw_408 : (.codeWith yL_show cL_show 6 (some .int) [(0, 12, 15, 19), (0, 12, 19, 13)] : Cond) ∈ lw_tbl := List.mem_of_getElem? (i := 709) (by decide +kernel)
theorem il_c_Lshow : ∀ w ∈ us_c_Lshow, w ∈ lw_tbl := List.forall_mem_cons.mpr ⟨mw_408, (List.forall_mem_append.mpr ⟨(List.forall_mem_cons.mpr ⟨mw_407, (List.forall_mem_cons.mpr ⟨mw_406, (List.forall_mem_cons.mpr ⟨mw_405, (List.forall_mem_cons.mpr ⟨mw_7, (List.forall_mem_cons.mpr ⟨mw_271, (List.forall_mem_cons.mpr ⟨mw_284, (fun _ h => nomatch h)⟩)⟩)⟩)⟩)⟩)⟩), (List.forall_mem_append.mpr ⟨il_c_show, (fun _ h => nomatch h)⟩)⟩)⟩
set_option maxRecDepth 100000 in
theorem mw_409 : (.selects RX6 yX6_split yX6_split : Cond) ∈ lw_tbl := List.mem_of_getElem? (i := 1075) (by decide +kernel)
set_option maxRecDepth 100000 in
theorem mw_410 : (.instanceMethod yX6_split : Cond) ∈ lw_tbl := List.mem_of_getElem? (i := 1074) (by decide +kernel)
set_option maxRecDepth 100000 in
theorem mw_411 : (.methodLink RL 105 yX6_split : Cond) ∈ lw_tbl := List.mem_of_getElem? (i := 1073) (by decide +kernel)
set_option maxRecDepth 100000 in
theorem mw_412 : (.codeWith yL_split cL_split 5 (some .int) [(0, 10, 13, 19), (0, 10, 17, 29)] : Cond) ∈ lw_tbl := List.mem_of_getElem? (i := 1072) (by decide +kernel)
theorem il_c_Lsplit : ∀ w ∈ us_c_Lsplit, w ∈ lw_tbl := List.forall_mem_cons.mpr ⟨mw_412, (List.forall_mem_append.mpr ⟨(List.forall_mem_cons.mpr ⟨mw_411, (List.forall_mem_cons.mpr ⟨mw_410, (List.forall_mem_cons.mpr ⟨mw_409, (List.forall_mem_cons.mpr ⟨mw_7, (List.forall_mem_cons.mpr ⟨mw_271, (fun _ h => nomatch h)⟩)⟩)⟩)⟩)⟩), (List.forall_mem_append.mpr ⟨il_c_split, (fun _ h => nomatch h)⟩)⟩)⟩
set_option maxRecDepth 100000 in
theorem mw_413 : (.selects RX6 yX6_start yX6_start : Cond) ∈ lw_tbl := List.mem_of_getElem? (i := 931) (by decide +kernel)
set_option maxRecDepth 100000 in
theorem mw_414 : (.instanceMethod yX6_start : Cond) ∈ lw_tbl := List.mem_of_getElem? (i := 930) (by decide +kernel)
set_option maxRecDepth 100000 in
theorem mw_415 : (.methodLink RL 69 yX6_start : Cond) ∈ lw_tbl := List.mem_of_getElem? (i := 929) (by decide +kernel)
set_option maxRecDepth 100000 in
theorem mw_416 : (.codeWith yL_start cL_start 5 (some .int) [(0, 10, 13, 19), (0, 10, 17, 13), (0, 10, 21, 38)] : Cond) ∈ lw_tbl := List.mem_of_getElem? (i := 928) (by decide +kernel)
theorem il_c_Lstart : ∀ w ∈ us_c_Lstart, w ∈ lw_tbl := List.forall_mem_cons.mpr ⟨mw_416, (List.forall_mem_append.mpr ⟨(List.forall_mem_cons.mpr ⟨mw_415, (List.forall_mem_cons.mpr ⟨mw_414, (List.forall_mem_cons.mpr ⟨mw_413, (List.forall_mem_cons.mpr ⟨mw_7, (List.forall_mem_cons.mpr ⟨mw_271, (fun _ h => nomatch h)⟩)⟩)⟩)⟩)⟩), (List.forall_mem_append.mpr ⟨il_c_start, (fun _ h => nomatch h)⟩)⟩)⟩
set_option maxRecDepth 100000 in
theorem mw_417 : (.selects RX6 yX6_startOf yX6_startOf : Cond) ∈ lw_tbl := List.mem_of_getElem? (i := 978) (by decide +kernel)
set_option maxRecDepth 100000 in
theorem mw_418 : (.instanceMethod yX6_startOf : Cond) ∈ lw_tbl := List.mem_of_getElem? (i := 977) (by decide +kernel)
set_option maxRecDepth 100000 in
theorem mw_419 : (.methodLink RL 76 yX6_startOf : Cond) ∈ lw_tbl := List.mem_of_getElem? (i := 976) (by decide +kernel)
set_option maxRecDepth 100000 in
theorem mw_420 : (.codeWith yL_startOf cL_startOf 4 (some .int) [(0, 9, 12, 19), (0, 9, 15, 29)] : Cond) ∈ lw_tbl := List.mem_of_getElem? (i := 975) (by decide +kernel)
theorem il_c_LstartOf : ∀ w ∈ us_c_LstartOf, w ∈ lw_tbl := List.forall_mem_cons.mpr ⟨mw_420, (List.forall_mem_append.mpr ⟨(List.forall_mem_cons.mpr ⟨mw_419, (List.forall_mem_cons.mpr ⟨mw_418, (List.forall_mem_cons.mpr ⟨mw_417, (List.forall_mem_cons.mpr ⟨mw_7, (List.forall_mem_cons.mpr ⟨mw_271, (fun _ h => nomatch h)⟩)⟩)⟩)⟩)⟩), (List.forall_mem_append.mpr ⟨il_c_startOf, (fun _ h => nomatch h)⟩)⟩)⟩
set_option maxRecDepth 100000 in
theorem mw_421 : (.selects RX6 yX6_state yX6_state : Cond) ∈ lw_tbl := List.mem_of_getElem? (i := 1055) (by decide +kernel)
set_option maxRecDepth 100000 in
theorem mw_422 : (.instanceMethod yX6_state : Cond) ∈ lw_tbl := List.mem_of_getElem? (i := 1054) (by decide +kernel)
set_option maxRecDepth 100000 in
theorem mw_423 : (.methodLink RL 98 yX6_state : Cond) ∈ lw_tbl := List.mem_of_getElem? (i := 1053) (by decide +kernel)
set_option maxRecDepth 100000 in
theorem mw_424 : (.codeWith yL_state cL_state 4 (some .int) [(0, 9, 12, 19)] : Cond) ∈ lw_tbl := List.mem_of_getElem? (i := 1052) (by decide +kernel)
theorem il_c_Lstate : ∀ w ∈ us_c_Lstate, w ∈ lw_tbl := List.forall_mem_cons.mpr ⟨mw_424, (List.forall_mem_append.mpr ⟨(List.forall_mem_cons.mpr ⟨mw_423, (List.forall_mem_cons.mpr ⟨mw_422, (List.forall_mem_cons.mpr ⟨mw_421, (List.forall_mem_cons.mpr ⟨mw_7, (List.forall_mem_cons.mpr ⟨mw_271, (fun _ h => nomatch h)⟩)⟩)⟩)⟩)⟩), (List.forall_mem_append.mpr ⟨il_c_state, (fun _ h => nomatch h)⟩)⟩)⟩
set_option maxRecDepth 100000 in
theorem mw_425 : (.selects RX6 yX6_stolen yX6_stolen : Cond) ∈ lw_tbl := List.mem_of_getElem? (i := 1029) (by decide +kernel)
set_option maxRecDepth 100000 in
theorem mw_426 : (.instanceMethod yX6_stolen : Cond) ∈ lw_tbl := List.mem_of_getElem? (i := 1028) (by decide +kernel)
set_option maxRecDepth 100000 in
theorem mw_427 : (.methodLink RL 88 yX6_stolen : Cond) ∈ lw_tbl := List.mem_of_getElem? (i := 1027) (by decide +kernel)
set_option maxRecDepth 100000 in
theorem mw_428 : (.codeWith yL_stolen cL_stolen 5 (some .int) [(0, 10, 13, 19), (0, 10, 17, 13)] : Cond) ∈ lw_tbl := List.mem_of_getElem? (i := 1026) (by decide +kernel)
theorem il_c_Lstolen : ∀ w ∈ us_c_Lstolen, w ∈ lw_tbl := List.forall_mem_cons.mpr ⟨mw_428, (List.forall_mem_append.mpr ⟨(List.forall_mem_cons.mpr ⟨mw_427, (List.forall_mem_cons.mpr ⟨mw_426, (List.forall_mem_cons.mpr ⟨mw_425, (List.forall_mem_cons.mpr ⟨mw_7, (List.forall_mem_cons.mpr ⟨mw_271, (fun _ h => nomatch h)⟩)⟩)⟩)⟩)⟩), (List.forall_mem_append.mpr ⟨il_c_stolen, (fun _ h => nomatch h)⟩)⟩)⟩
set_option maxRecDepth 100000 in
theorem mw_429 : (.selects RX6 yX6_team yX6_team : Cond) ∈ lw_tbl := List.mem_of_getElem? (i := 1153) (by decide +kernel)
set_option maxRecDepth 100000 in
theorem mw_430 : (.instanceMethod yX6_team : Cond) ∈ lw_tbl := List.mem_of_getElem? (i := 1152) (by decide +kernel)
set_option maxRecDepth 100000 in
theorem mw_431 : (.methodLink RL 123 yX6_team : Cond) ∈ lw_tbl := List.mem_of_getElem? (i := 1151) (by decide +kernel)
set_option maxRecDepth 100000 in
theorem mw_432 : (.codeWith yL_team cL_team 5 (some .int) [(0, 10, 13, 19), (0, 10, 17, 13), (0, 10, 21, 40)] : Cond) ∈ lw_tbl := List.mem_of_getElem? (i := 1150) (by decide +kernel)
theorem il_c_Lteam : ∀ w ∈ us_c_Lteam, w ∈ lw_tbl := List.forall_mem_cons.mpr ⟨mw_432, (List.forall_mem_append.mpr ⟨(List.forall_mem_cons.mpr ⟨mw_431, (List.forall_mem_cons.mpr ⟨mw_430, (List.forall_mem_cons.mpr ⟨mw_429, (List.forall_mem_cons.mpr ⟨mw_7, (List.forall_mem_cons.mpr ⟨mw_271, (fun _ h => nomatch h)⟩)⟩)⟩)⟩)⟩), (List.forall_mem_append.mpr ⟨il_c_team, (fun _ h => nomatch h)⟩)⟩)⟩
set_option maxRecDepth 100000 in
theorem mw_433 : (.selects RX6 yX6_time yX6_time : Cond) ∈ lw_tbl := List.mem_of_getElem? (i := 1062) (by decide +kernel)
set_option maxRecDepth 100000 in
theorem mw_434 : (.instanceMethod yX6_time : Cond) ∈ lw_tbl := List.mem_of_getElem? (i := 1061) (by decide +kernel)
set_option maxRecDepth 100000 in
theorem mw_435 : (.methodLink RL 102 yX6_time : Cond) ∈ lw_tbl := List.mem_of_getElem? (i := 1060) (by decide +kernel)
set_option maxRecDepth 100000 in
theorem mw_436 : (.codeWith yL_time cL_time 4 (some .int) [(0, 9, 12, 19), (0, 9, 15, 29)] : Cond) ∈ lw_tbl := List.mem_of_getElem? (i := 1059) (by decide +kernel)
theorem il_c_Ltime : ∀ w ∈ us_c_Ltime, w ∈ lw_tbl := List.forall_mem_cons.mpr ⟨mw_436, (List.forall_mem_append.mpr ⟨(List.forall_mem_cons.mpr ⟨mw_435, (List.forall_mem_cons.mpr ⟨mw_434, (List.forall_mem_cons.mpr ⟨mw_433, (List.forall_mem_cons.mpr ⟨mw_7, (List.forall_mem_cons.mpr ⟨mw_271, (fun _ h => nomatch h)⟩)⟩)⟩)⟩)⟩), (List.forall_mem_append.mpr ⟨il_c_time, (fun _ h => nomatch h)⟩)⟩)⟩
set_option maxRecDepth 100000 in
theorem mw_437 : (.selects RX6 yX6_voided yX6_voided : Cond) ∈ lw_tbl := List.mem_of_getElem? (i := 1037) (by decide +kernel)
set_option maxRecDepth 100000 in
theorem mw_438 : (.instanceMethod yX6_voided : Cond) ∈ lw_tbl := List.mem_of_getElem? (i := 1036) (by decide +kernel)
set_option maxRecDepth 100000 in
theorem mw_439 : (.methodLink RL 91 yX6_voided : Cond) ∈ lw_tbl := List.mem_of_getElem? (i := 1035) (by decide +kernel)
set_option maxRecDepth 100000 in
theorem mw_440 : (.codeWith yL_voided cL_voided 6 (some .int) [(0, 19, 22, 19)] : Cond) ∈ lw_tbl := List.mem_of_getElem? (i := 1034) (by decide +kernel)
theorem il_c_Lvoided : ∀ w ∈ us_c_Lvoided, w ∈ lw_tbl := List.forall_mem_cons.mpr ⟨mw_440, (List.forall_mem_append.mpr ⟨(List.forall_mem_cons.mpr ⟨mw_439, (List.forall_mem_cons.mpr ⟨mw_438, (List.forall_mem_cons.mpr ⟨mw_437, (List.forall_mem_cons.mpr ⟨mw_7, (List.forall_mem_cons.mpr ⟨mw_271, (fun _ h => nomatch h)⟩)⟩)⟩)⟩)⟩), (List.forall_mem_append.mpr ⟨il_c_voided, (fun _ h => nomatch h)⟩)⟩)⟩
set_option maxRecDepth 100000 in
theorem mw_441 : (.methodLink RJxa1e45 1 objectInit : Cond) ∈ lw_tbl := List.mem_of_getElem? (i := 1317) (by decide +kernel)
set_option maxRecDepth 100000 in
theorem mw_442 : (.code yJxa1e45_init_da8c8 cJxa1e45_init_da8c8 1 none : Cond) ∈ lw_tbl := List.mem_of_getElem? (i := 1316) (by decide +kernel)
theorem il_c_acInit : ∀ w ∈ us_c_acInit, w ∈ lw_tbl := List.forall_mem_cons.mpr ⟨mw_442, (List.forall_mem_append.mpr ⟨(List.forall_mem_cons.mpr ⟨mw_441, (List.forall_mem_cons.mpr ⟨mw_87, (List.forall_mem_cons.mpr ⟨mw_86, (fun _ h => nomatch h)⟩)⟩)⟩), (fun _ h => nomatch h)⟩)⟩
set_option maxRecDepth 100000 in
theorem mb_9 : ∀ w ∈ wsJx4a65c0, w ∈ lw_tbl := by decide +kernel
set_option maxRecDepth 100000 in
theorem mw_443 : (.fieldLink RJxc12de 7 "java/util/AbstractList" "modCount" "I" : Cond) ∈ lw_tbl := List.mem_of_getElem? (i := 1324) (by decide +kernel)
set_option maxRecDepth 100000 in
theorem mw_444 : (.instanceMethod yJxa1e45_init_da8c8 : Cond) ∈ lw_tbl := List.mem_of_getElem? (i := 1315) (by decide +kernel)
set_option maxRecDepth 100000 in
theorem mw_445 : (.methodLink RJxc12de 1 yJxa1e45_init_da8c8 : Cond) ∈ lw_tbl := List.mem_of_getElem? (i := 1314) (by decide +kernel)
set_option maxRecDepth 100000 in
theorem mw_446 : (.initialized RJxa1e45 : Cond) ∈ lw_tbl := List.mem_of_getElem? (i := 96) (by decide +kernel)
set_option maxRecDepth 100000 in
theorem mw_447 : (.code yJxc12de_init_da8c8 cJxc12de_init_da8c8 1 none : Cond) ∈ lw_tbl := List.mem_of_getElem? (i := 1313) (by decide +kernel)
theorem il_c_aliInit : ∀ w ∈ us_c_aliInit, w ∈ lw_tbl := List.forall_mem_cons.mpr ⟨mw_447, (List.forall_mem_append.mpr ⟨(List.forall_mem_cons.mpr ⟨mw_446, (List.forall_mem_cons.mpr ⟨mw_445, (List.forall_mem_cons.mpr ⟨mw_444, (List.forall_mem_cons.mpr ⟨mw_443, (fun _ h => nomatch h)⟩)⟩)⟩)⟩), (List.forall_mem_append.mpr ⟨il_c_acInit, (List.forall_mem_append.mpr ⟨mb_9, (fun _ h => nomatch h)⟩)⟩)⟩)⟩
set_option maxRecDepth 100000 in
theorem mw_448 : (.fieldLink RJx4a65c 9 "java/util/ArrayList" "elementData" "[Ljava/lang/Object;" : Cond) ∈ lw_tbl := List.mem_of_getElem? (i := 1320) (by decide +kernel)
set_option maxRecDepth 100000 in
theorem mw_449 : (.fieldLink RJx4a65c 39 "java/util/ArrayList" "DEFAULTCAPACITY_EMPTY_ELEMENTDATA" "[Ljava/lang/Object;" : Cond) ∈ lw_tbl := List.mem_of_getElem? (i := 1318) (by decide +kernel)
set_option maxRecDepth 100000 in
theorem mw_450 : (.instanceMethod yJxc12de_init_da8c8 : Cond) ∈ lw_tbl := List.mem_of_getElem? (i := 1312) (by decide +kernel)
set_option maxRecDepth 100000 in
theorem mw_451 : (.methodLink RJx4a65c 1 yJxc12de_init_da8c8 : Cond) ∈ lw_tbl := List.mem_of_getElem? (i := 1311) (by decide +kernel)
set_option maxRecDepth 100000 in
theorem mw_452 : (.initialized RJxc12de : Cond) ∈ lw_tbl := List.mem_of_getElem? (i := 97) (by decide +kernel)
set_option maxRecDepth 100000 in
theorem mw_453 : (.code yJx4a65c_init_da8c8 cJx4a65c_init_da8c8 1 none : Cond) ∈ lw_tbl := List.mem_of_getElem? (i := 1310) (by decide +kernel)
theorem il_c_alInit : ∀ w ∈ us_c_alInit, w ∈ lw_tbl := List.forall_mem_cons.mpr ⟨mw_453, (List.forall_mem_append.mpr ⟨(List.forall_mem_cons.mpr ⟨mw_452, (List.forall_mem_cons.mpr ⟨mw_451, (List.forall_mem_cons.mpr ⟨mw_450, (List.forall_mem_cons.mpr ⟨mw_449, (List.forall_mem_cons.mpr ⟨mw_448, (fun _ h => nomatch h)⟩)⟩)⟩)⟩)⟩), (List.forall_mem_append.mpr ⟨il_c_aliInit, (List.forall_mem_append.mpr ⟨mb_9, (fun _ h => nomatch h)⟩)⟩)⟩)⟩
set_option maxRecDepth 100000 in
theorem mw_454 : (.fieldLink RJx4a65c 48 "java/util/ArrayList" "size" "I" : Cond) ∈ lw_tbl := List.mem_of_getElem? (i := 1323) (by decide +kernel)
set_option maxRecDepth 100000 in
theorem mw_455 : (.fieldLink RJx4a65c 63 "java/util/ArrayList" "modCount" "I" : Cond) ∈ lw_tbl := List.mem_of_getElem? (i := 1327) (by decide +kernel)
set_option maxRecDepth 100000 in
theorem mw_456 : (.sameField "java/util/ArrayList" "java/util/AbstractList" "modCount" "I" : Cond) ∈ lw_tbl := List.mem_of_getElem? (i := 1326) (by decide +kernel)
set_option maxRecDepth 100000 in
theorem mw_457 : (.code yJx4a65c_clear_da8c8 cJx4a65c_clear_da8c8 4 none : Cond) ∈ lw_tbl := List.mem_of_getElem? (i := 1345) (by decide +kernel)
theorem il_c_alClear : ∀ w ∈ us_c_alClear, w ∈ lw_tbl := List.forall_mem_cons.mpr ⟨mw_457, (List.forall_mem_append.mpr ⟨(List.forall_mem_cons.mpr ⟨mw_456, (List.forall_mem_cons.mpr ⟨mw_455, (List.forall_mem_cons.mpr ⟨mw_448, (List.forall_mem_cons.mpr ⟨mw_454, (fun _ h => nomatch h)⟩)⟩)⟩)⟩), (List.forall_mem_append.mpr ⟨mb_9, (fun _ h => nomatch h)⟩)⟩)⟩
set_option maxRecDepth 100000 in
theorem mw_458 : (.code yJx4a65c_size_8abf5 cJx4a65c_size_8abf5 1 (some .int) : Cond) ∈ lw_tbl := List.mem_of_getElem? (i := 1483) (by decide +kernel)
theorem il_c_alSize : ∀ w ∈ us_c_alSize, w ∈ lw_tbl := List.forall_mem_cons.mpr ⟨mw_458, (List.forall_mem_append.mpr ⟨(List.forall_mem_cons.mpr ⟨mw_454, (fun _ h => nomatch h)⟩), (List.forall_mem_append.mpr ⟨mb_9, (fun _ h => nomatch h)⟩)⟩)⟩
set_option maxRecDepth 100000 in
theorem mw_459 : (.code yJx4a65c_isEmpty_aae02 cJx4a65c_isEmpty_aae02 1 (some .boolean) : Cond) ∈ lw_tbl := List.mem_of_getElem? (i := 1717) (by decide +kernel)
theorem il_c_alIsEmpty : ∀ w ∈ us_c_alIsEmpty, w ∈ lw_tbl := List.forall_mem_cons.mpr ⟨mw_459, (List.forall_mem_append.mpr ⟨(List.forall_mem_cons.mpr ⟨mw_454, (fun _ h => nomatch h)⟩), (List.forall_mem_append.mpr ⟨mb_9, (fun _ h => nomatch h)⟩)⟩)⟩
set_option maxRecDepth 100000 in
theorem mb_10 : ∀ w ∈ wsJx354110, w ∈ lw_tbl := by decide +kernel
set_option maxRecDepth 100000 in
theorem mw_460 : (.fieldLink RJx35411 22 "java/util/ArrayList$Itr" "expectedModCount" "I" : Cond) ∈ lw_tbl := List.mem_of_getElem? (i := 1631) (by decide +kernel)
set_option maxRecDepth 100000 in
theorem mw_461 : (.fieldLink RJx35411 17 "java/util/ArrayList" "modCount" "I" : Cond) ∈ lw_tbl := List.mem_of_getElem? (i := 1325) (by decide +kernel)
set_option maxRecDepth 100000 in
theorem mw_462 : (.fieldLink RJx35411 13 "java/util/ArrayList$Itr" "lastRet" "I" : Cond) ∈ lw_tbl := List.mem_of_getElem? (i := 1630) (by decide +kernel)
set_option maxRecDepth 100000 in
theorem mw_463 : (.methodLink RJx35411 7 objectInit : Cond) ∈ lw_tbl := List.mem_of_getElem? (i := 1628) (by decide +kernel)
set_option maxRecDepth 100000 in
theorem mw_464 : (.fieldLink RJx35411 1 "java/util/ArrayList$Itr" "this$0" "Ljava/util/ArrayList;" : Cond) ∈ lw_tbl := List.mem_of_getElem? (i := 1632) (by decide +kernel)
set_option maxRecDepth 100000 in
theorem mw_465 : (.code yJx35411_init_45d68 cJx35411_init_45d68 2 none : Cond) ∈ lw_tbl := List.mem_of_getElem? (i := 1627) (by decide +kernel)
theorem il_c_itInit : ∀ w ∈ us_c_itInit, w ∈ lw_tbl := List.forall_mem_cons.mpr ⟨mw_465, (List.forall_mem_append.mpr ⟨(List.forall_mem_cons.mpr ⟨mw_464, (List.forall_mem_cons.mpr ⟨mw_463, (List.forall_mem_cons.mpr ⟨mw_87, (List.forall_mem_cons.mpr ⟨mw_86, (List.forall_mem_cons.mpr ⟨mw_462, (List.forall_mem_cons.mpr ⟨mw_456, (List.forall_mem_cons.mpr ⟨mw_461, (List.forall_mem_cons.mpr ⟨mw_460, (fun _ h => nomatch h)⟩)⟩)⟩)⟩)⟩)⟩)⟩)⟩), (List.forall_mem_append.mpr ⟨mb_10, (List.forall_mem_append.mpr ⟨mb_9, (fun _ h => nomatch h)⟩)⟩)⟩)⟩
set_option maxRecDepth 100000 in
theorem mw_466 : (.instanceMethod yJx35411_init_45d68 : Cond) ∈ lw_tbl := List.mem_of_getElem? (i := 1626) (by decide +kernel)
set_option maxRecDepth 100000 in
theorem mw_467 : (.methodLink RJx4a65c 269 yJx35411_init_45d68 : Cond) ∈ lw_tbl := List.mem_of_getElem? (i := 1625) (by decide +kernel)
set_option maxRecDepth 100000 in
theorem mw_468 : (.initialized RJx35411 : Cond) ∈ lw_tbl := List.mem_of_getElem? (i := 115) (by decide +kernel)
set_option maxRecDepth 100000 in
theorem mw_469 : (.instantiable RJx35411 4 : Cond) ∈ lw_tbl := List.mem_of_getElem? (i := 1624) (by decide +kernel)
set_option maxRecDepth 100000 in
theorem mw_470 : (.classLink RJx4a65c 267 RJx35411 : Cond) ∈ lw_tbl := List.mem_of_getElem? (i := 1623) (by decide +kernel)
set_option maxRecDepth 100000 in
theorem mw_471 : (.code yJx4a65c_iterator_32c93 cJx4a65c_iterator_32c93 1 (some (.object "java/util/Iterator")) : Cond) ∈ lw_tbl := List.mem_of_getElem? (i := 1622) (by decide +kernel)
theorem il_c_alIter : ∀ w ∈ us_c_alIter, w ∈ lw_tbl := List.forall_mem_cons.mpr ⟨mw_471, (List.forall_mem_append.mpr ⟨(List.forall_mem_cons.mpr ⟨mw_470, (List.forall_mem_cons.mpr ⟨mw_469, (List.forall_mem_cons.mpr ⟨mw_468, (List.forall_mem_cons.mpr ⟨mw_467, (List.forall_mem_cons.mpr ⟨mw_466, (fun _ h => nomatch h)⟩)⟩)⟩)⟩)⟩), (List.forall_mem_append.mpr ⟨mb_10, (List.forall_mem_append.mpr ⟨il_c_itInit, (fun _ h => nomatch h)⟩)⟩)⟩)⟩
set_option maxRecDepth 100000 in
theorem mw_472 : (.fieldLink RJx35411 25 "java/util/ArrayList$Itr" "cursor" "I" : Cond) ∈ lw_tbl := List.mem_of_getElem? (i := 1629) (by decide +kernel)
set_option maxRecDepth 100000 in
theorem mw_473 : (.code yJx35411_hasNext_aae02 cJx35411_hasNext_aae02 1 (some .boolean) : Cond) ∈ lw_tbl := List.mem_of_getElem? (i := 1651) (by decide +kernel)
theorem il_c_itHas : ∀ w ∈ us_c_itHas, w ∈ lw_tbl := List.forall_mem_cons.mpr ⟨mw_473, (List.forall_mem_append.mpr ⟨(List.forall_mem_cons.mpr ⟨mw_472, (List.forall_mem_cons.mpr ⟨mw_464, (fun _ h => nomatch h)⟩)⟩), (List.forall_mem_append.mpr ⟨mb_10, (List.forall_mem_append.mpr ⟨mb_9, (fun _ h => nomatch h)⟩)⟩)⟩)⟩
set_option maxRecDepth 100000 in
theorem mw_474 : (.code yJ7_fill_18040 cJ7_fill_18040 4 none : Cond) ∈ lw_tbl := List.mem_of_getElem? (i := 1341) (by decide +kernel)
theorem il_c_fillC : ∀ w ∈ us_c_fillC, w ∈ lw_tbl := List.forall_mem_cons.mpr ⟨mw_474, (List.forall_mem_append.mpr ⟨(fun _ h => nomatch h), (fun _ h => nomatch h)⟩)⟩
set_option maxRecDepth 100000 in
theorem mw_475 : (.code yX9_in cX9_in 6 (some .boolean) : Cond) ∈ lw_tbl := List.mem_of_getElem? (i := 1398) (by decide +kernel)
theorem il_c_in : ∀ w ∈ us_c_in, w ∈ lw_tbl := List.forall_mem_cons.mpr ⟨mw_475, (List.forall_mem_append.mpr ⟨(fun _ h => nomatch h), (fun _ h => nomatch h)⟩)⟩
set_option maxRecDepth 100000 in
theorem mb_11 : ∀ w ∈ wsX90, w ∈ lw_tbl := by decide +kernel
set_option maxRecDepth 100000 in
theorem mw_476 : (.fieldLink RX9 16 "ControlWoodModel" "thrown" "I" : Cond) ∈ lw_tbl := List.mem_of_getElem? (i := 1348) (by decide +kernel)
set_option maxRecDepth 100000 in
theorem mw_477 : (.code yX9_thrown cX9_thrown 1 (some .int) : Cond) ∈ lw_tbl := List.mem_of_getElem? (i := 1389) (by decide +kernel)
theorem il_c_thrown : ∀ w ∈ us_c_thrown, w ∈ lw_tbl := List.forall_mem_cons.mpr ⟨mw_477, (List.forall_mem_append.mpr ⟨(List.forall_mem_cons.mpr ⟨mw_476, (fun _ h => nomatch h)⟩), (List.forall_mem_append.mpr ⟨mb_11, (fun _ h => nomatch h)⟩)⟩)⟩
set_option maxRecDepth 100000 in
theorem mw_478 : (.code yX9_fails cX9_fails 2 (some .int) : Cond) ∈ lw_tbl := List.mem_of_getElem? (i := 1402) (by decide +kernel)
theorem il_c_fails : ∀ w ∈ us_c_fails, w ∈ lw_tbl := List.forall_mem_cons.mpr ⟨mw_478, (List.forall_mem_append.mpr ⟨(List.forall_mem_cons.mpr ⟨mw_476, (fun _ h => nomatch h)⟩), (List.forall_mem_append.mpr ⟨mb_11, (fun _ h => nomatch h)⟩)⟩)⟩
set_option maxRecDepth 100000 in
theorem mw_479 : (.code yX9_tells cX9_tells 2 (some .int) : Cond) ∈ lw_tbl := List.mem_of_getElem? (i := 1406) (by decide +kernel)
theorem il_c_tells : ∀ w ∈ us_c_tells, w ∈ lw_tbl := List.forall_mem_cons.mpr ⟨mw_479, (List.forall_mem_append.mpr ⟨(List.forall_mem_cons.mpr ⟨mw_476, (fun _ h => nomatch h)⟩), (List.forall_mem_append.mpr ⟨mb_11, (fun _ h => nomatch h)⟩)⟩)⟩
set_option maxRecDepth 100000 in
theorem mw_480 : (.code yX9_isKind cX9_isKind 1 (some .boolean) : Cond) ∈ lw_tbl := List.mem_of_getElem? (i := 1418) (by decide +kernel)
theorem il_c_isKind : ∀ w ∈ us_c_isKind, w ∈ lw_tbl := List.forall_mem_cons.mpr ⟨mw_480, (List.forall_mem_append.mpr ⟨(fun _ h => nomatch h), (fun _ h => nomatch h)⟩)⟩
set_option maxRecDepth 100000 in
theorem mw_481 : (.initialized RX9 : Cond) ∈ lw_tbl := List.mem_of_getElem? (i := 95) (by decide +kernel)
set_option maxRecDepth 100000 in
theorem mw_482 : (.static yX9_in : Cond) ∈ lw_tbl := List.mem_of_getElem? (i := 1397) (by decide +kernel)
set_option maxRecDepth 100000 in
theorem mw_483 : (.methodLink RX9 72 yX9_in : Cond) ∈ lw_tbl := List.mem_of_getElem? (i := 1396) (by decide +kernel)
set_option maxRecDepth 100000 in
theorem mw_484 : (.fieldLink RX9 19 "ControlWoodModel" "growth" "[I" : Cond) ∈ lw_tbl := List.mem_of_getElem? (i := 1349) (by decide +kernel)
set_option maxRecDepth 100000 in
theorem mw_485 : (.code yX9_isCell cX9_isCell 2 (some .boolean) : Cond) ∈ lw_tbl := List.mem_of_getElem? (i := 1414) (by decide +kernel)
theorem il_c_isCell : ∀ w ∈ us_c_isCell, w ∈ lw_tbl := List.forall_mem_cons.mpr ⟨mw_485, (List.forall_mem_append.mpr ⟨(List.forall_mem_cons.mpr ⟨mw_484, (List.forall_mem_cons.mpr ⟨mw_483, (List.forall_mem_cons.mpr ⟨mw_482, (List.forall_mem_cons.mpr ⟨mw_481, (fun _ h => nomatch h)⟩)⟩)⟩)⟩), (List.forall_mem_append.mpr ⟨mb_11, (List.forall_mem_append.mpr ⟨il_c_in, (fun _ h => nomatch h)⟩)⟩)⟩)⟩
set_option maxRecDepth 100000 in
theorem mw_486 : (.initialized RJx4a65c : Cond) ∈ lw_tbl := List.mem_of_getElem? (i := 98) (by decide +kernel)
set_option maxRecDepth 100000 in
theorem mw_487 : (.selects RJx4a65c yJx4a65c_size_8abf5 yJx4a65c_size_8abf5 : Cond) ∈ lw_tbl := List.mem_of_getElem? (i := 1482) (by decide +kernel)
set_option maxRecDepth 100000 in
theorem mw_488 : (.instanceMethod yJx4a65c_size_8abf5 : Cond) ∈ lw_tbl := List.mem_of_getElem? (i := 1481) (by decide +kernel)
set_option maxRecDepth 100000 in
theorem mw_489 : (.methodLink RX9 135 yJx4a65c_size_8abf5 : Cond) ∈ lw_tbl := List.mem_of_getElem? (i := 1480) (by decide +kernel)
set_option maxRecDepth 100000 in
theorem mw_490 : (.fieldLink RX9 39 "ControlWoodModel" "controls" "Ljava/util/ArrayList;" : Cond) ∈ lw_tbl := List.mem_of_getElem? (i := 1354) (by decide +kernel)
set_option maxRecDepth 100000 in
theorem mw_491 : (.code yX9_isControl cX9_isControl 2 (some .boolean) : Cond) ∈ lw_tbl := List.mem_of_getElem? (i := 1558) (by decide +kernel)
theorem il_c_isControl : ∀ w ∈ us_c_isControl, w ∈ lw_tbl := List.forall_mem_cons.mpr ⟨mw_491, (List.forall_mem_append.mpr ⟨(List.forall_mem_cons.mpr ⟨mw_490, (List.forall_mem_cons.mpr ⟨mw_489, (List.forall_mem_cons.mpr ⟨mw_488, (List.forall_mem_cons.mpr ⟨mw_487, (List.forall_mem_cons.mpr ⟨mw_486, (List.forall_mem_cons.mpr ⟨mw_483, (List.forall_mem_cons.mpr ⟨mw_482, (List.forall_mem_cons.mpr ⟨mw_481, (fun _ h => nomatch h)⟩)⟩)⟩)⟩)⟩)⟩)⟩)⟩), (List.forall_mem_append.mpr ⟨mb_11, (List.forall_mem_append.mpr ⟨il_c_alSize, (List.forall_mem_append.mpr ⟨il_c_in, (fun _ h => nomatch h)⟩)⟩)⟩)⟩)⟩
set_option maxRecDepth 100000 in
theorem mw_492 : (.fieldLink RX9 43 "ControlWoodModel" "courses" "Ljava/util/ArrayList;" : Cond) ∈ lw_tbl := List.mem_of_getElem? (i := 1355) (by decide +kernel)
set_option maxRecDepth 100000 in
theorem mw_493 : (.code yX9_isCourse cX9_isCourse 2 (some .boolean) : Cond) ∈ lw_tbl := List.mem_of_getElem? (i := 1614) (by decide +kernel)
theorem il_c_isCourse : ∀ w ∈ us_c_isCourse, w ∈ lw_tbl := List.forall_mem_cons.mpr ⟨mw_493, (List.forall_mem_append.mpr ⟨(List.forall_mem_cons.mpr ⟨mw_492, (List.forall_mem_cons.mpr ⟨mw_489, (List.forall_mem_cons.mpr ⟨mw_488, (List.forall_mem_cons.mpr ⟨mw_487, (List.forall_mem_cons.mpr ⟨mw_486, (List.forall_mem_cons.mpr ⟨mw_483, (List.forall_mem_cons.mpr ⟨mw_482, (List.forall_mem_cons.mpr ⟨mw_481, (fun _ h => nomatch h)⟩)⟩)⟩)⟩)⟩)⟩)⟩)⟩), (List.forall_mem_append.mpr ⟨mb_11, (List.forall_mem_append.mpr ⟨il_c_alSize, (List.forall_mem_append.mpr ⟨il_c_in, (fun _ h => nomatch h)⟩)⟩)⟩)⟩)⟩
set_option maxRecDepth 100000 in
theorem mw_494 : (.fieldLink RX9 46 "ControlWoodModel" "runners" "Ljava/util/ArrayList;" : Cond) ∈ lw_tbl := List.mem_of_getElem? (i := 1356) (by decide +kernel)
set_option maxRecDepth 100000 in
theorem mw_495 : (.code yX9_isRunner cX9_isRunner 2 (some .boolean) : Cond) ∈ lw_tbl := List.mem_of_getElem? (i := 1788) (by decide +kernel)
theorem il_c_isRunner : ∀ w ∈ us_c_isRunner, w ∈ lw_tbl := List.forall_mem_cons.mpr ⟨mw_495, (List.forall_mem_append.mpr ⟨(List.forall_mem_cons.mpr ⟨mw_494, (List.forall_mem_cons.mpr ⟨mw_489, (List.forall_mem_cons.mpr ⟨mw_488, (List.forall_mem_cons.mpr ⟨mw_487, (List.forall_mem_cons.mpr ⟨mw_486, (List.forall_mem_cons.mpr ⟨mw_483, (List.forall_mem_cons.mpr ⟨mw_482, (List.forall_mem_cons.mpr ⟨mw_481, (fun _ h => nomatch h)⟩)⟩)⟩)⟩)⟩)⟩)⟩)⟩), (List.forall_mem_append.mpr ⟨mb_11, (List.forall_mem_append.mpr ⟨il_c_alSize, (List.forall_mem_append.mpr ⟨il_c_in, (fun _ h => nomatch h)⟩)⟩)⟩)⟩)⟩
set_option maxRecDepth 100000 in
theorem mw_496 : (.selects RX9 yX9_isRunner yX9_isRunner : Cond) ∈ lw_tbl := List.mem_of_getElem? (i := 66) (by decide +kernel)
set_option maxRecDepth 100000 in
theorem mw_497 : (.instanceMethod yX9_isRunner : Cond) ∈ lw_tbl := List.mem_of_getElem? (i := 1787) (by decide +kernel)
set_option maxRecDepth 100000 in
theorem mw_498 : (.methodLink RX9 227 yX9_isRunner : Cond) ∈ lw_tbl := List.mem_of_getElem? (i := 1785) (by decide +kernel)
set_option maxRecDepth 100000 in
theorem mw_499 : (.code yX9_isLeg cX9_isLeg 3 (some .boolean) : Cond) ∈ lw_tbl := List.mem_of_getElem? (i := 1891) (by decide +kernel)
theorem il_c_isLeg : ∀ w ∈ us_c_isLeg, w ∈ lw_tbl := List.forall_mem_cons.mpr ⟨mw_499, (List.forall_mem_append.mpr ⟨(List.forall_mem_cons.mpr ⟨mw_498, (List.forall_mem_cons.mpr ⟨mw_497, (List.forall_mem_cons.mpr ⟨mw_496, (List.forall_mem_cons.mpr ⟨mw_481, (fun _ h => nomatch h)⟩)⟩)⟩)⟩), (List.forall_mem_append.mpr ⟨il_c_isRunner, (fun _ h => nomatch h)⟩)⟩)⟩
set_option maxRecDepth 100000 in
theorem mw_500 : (.selects RX9 yX9_isControl yX9_isControl : Cond) ∈ lw_tbl := List.mem_of_getElem? (i := 60) (by decide +kernel)
set_option maxRecDepth 100000 in
theorem mw_501 : (.instanceMethod yX9_isControl : Cond) ∈ lw_tbl := List.mem_of_getElem? (i := 1557) (by decide +kernel)
set_option maxRecDepth 100000 in
theorem mw_502 : (.methodLink RX9 149 yX9_isControl : Cond) ∈ lw_tbl := List.mem_of_getElem? (i := 1555) (by decide +kernel)
set_option maxRecDepth 100000 in
theorem mw_503 : (.code yX9_areNear cX9_areNear 3 (some .boolean) : Cond) ∈ lw_tbl := List.mem_of_getElem? (i := 1554) (by decide +kernel)
theorem il_c_mareNear : ∀ w ∈ us_c_mareNear, w ∈ lw_tbl := List.forall_mem_cons.mpr ⟨mw_503, (List.forall_mem_append.mpr ⟨(List.forall_mem_cons.mpr ⟨mw_502, (List.forall_mem_cons.mpr ⟨mw_501, (List.forall_mem_cons.mpr ⟨mw_500, (List.forall_mem_cons.mpr ⟨mw_481, (List.forall_mem_cons.mpr ⟨mw_476, (fun _ h => nomatch h)⟩)⟩)⟩)⟩)⟩), (List.forall_mem_append.mpr ⟨il_c_isControl, (List.forall_mem_append.mpr ⟨mb_11, (fun _ h => nomatch h)⟩)⟩)⟩)⟩
set_option maxRecDepth 100000 in
theorem mw_504 : (.selects RX9 yX9_fails yX9_fails : Cond) ∈ lw_tbl := List.mem_of_getElem? (i := 48) (by decide +kernel)
set_option maxRecDepth 100000 in
theorem mw_505 : (.instanceMethod yX9_fails : Cond) ∈ lw_tbl := List.mem_of_getElem? (i := 1401) (by decide +kernel)
set_option maxRecDepth 100000 in
theorem mw_506 : (.methodLink RX9 76 yX9_fails : Cond) ∈ lw_tbl := List.mem_of_getElem? (i := 1399) (by decide +kernel)
set_option maxRecDepth 100000 in
theorem mw_507 : (.selects RX9 yX9_isCourse yX9_isCourse : Cond) ∈ lw_tbl := List.mem_of_getElem? (i := 62) (by decide +kernel)
set_option maxRecDepth 100000 in
theorem mw_508 : (.instanceMethod yX9_isCourse : Cond) ∈ lw_tbl := List.mem_of_getElem? (i := 1613) (by decide +kernel)
set_option maxRecDepth 100000 in
theorem mw_509 : (.methodLink RX9 178 yX9_isCourse : Cond) ∈ lw_tbl := List.mem_of_getElem? (i := 1611) (by decide +kernel)
set_option maxRecDepth 100000 in
theorem mw_510 : (.code yX9_add cX9_add 3 (some .int) : Cond) ∈ lw_tbl := List.mem_of_getElem? (i := 1610) (by decide +kernel)
theorem il_c_madd : ∀ w ∈ us_c_madd, w ∈ lw_tbl := List.forall_mem_cons.mpr ⟨mw_510, (List.forall_mem_append.mpr ⟨(List.forall_mem_cons.mpr ⟨mw_509, (List.forall_mem_cons.mpr ⟨mw_508, (List.forall_mem_cons.mpr ⟨mw_507, (List.forall_mem_cons.mpr ⟨mw_481, (List.forall_mem_cons.mpr ⟨mw_506, (List.forall_mem_cons.mpr ⟨mw_505, (List.forall_mem_cons.mpr ⟨mw_504, (fun _ h => nomatch h)⟩)⟩)⟩)⟩)⟩)⟩)⟩), (List.forall_mem_append.mpr ⟨il_c_isCourse, (List.forall_mem_append.mpr ⟨il_c_fails, (fun _ h => nomatch h)⟩)⟩)⟩)⟩
set_option maxRecDepth 100000 in
theorem mw_511 : (.code yX9_fork cX9_fork 4 (some .int) : Cond) ∈ lw_tbl := List.mem_of_getElem? (i := 1700) (by decide +kernel)
theorem il_c_mfork : ∀ w ∈ us_c_mfork, w ∈ lw_tbl := List.forall_mem_cons.mpr ⟨mw_511, (List.forall_mem_append.mpr ⟨(List.forall_mem_cons.mpr ⟨mw_509, (List.forall_mem_cons.mpr ⟨mw_508, (List.forall_mem_cons.mpr ⟨mw_507, (List.forall_mem_cons.mpr ⟨mw_481, (List.forall_mem_cons.mpr ⟨mw_506, (List.forall_mem_cons.mpr ⟨mw_505, (List.forall_mem_cons.mpr ⟨mw_504, (fun _ h => nomatch h)⟩)⟩)⟩)⟩)⟩)⟩)⟩), (List.forall_mem_append.mpr ⟨il_c_isCourse, (List.forall_mem_append.mpr ⟨il_c_fails, (fun _ h => nomatch h)⟩)⟩)⟩)⟩
set_option maxRecDepth 100000 in
theorem mw_512 : (.code yX9_isLawful cX9_isLawful 6 (some .boolean) : Cond) ∈ lw_tbl := List.mem_of_getElem? (i := 1713) (by decide +kernel)
theorem il_c_misLawful : ∀ w ∈ us_c_misLawful, w ∈ lw_tbl := List.forall_mem_cons.mpr ⟨mw_512, (List.forall_mem_append.mpr ⟨(List.forall_mem_cons.mpr ⟨mw_509, (List.forall_mem_cons.mpr ⟨mw_508, (List.forall_mem_cons.mpr ⟨mw_507, (List.forall_mem_cons.mpr ⟨mw_481, (List.forall_mem_cons.mpr ⟨mw_476, (fun _ h => nomatch h)⟩)⟩)⟩)⟩)⟩), (List.forall_mem_append.mpr ⟨il_c_isCourse, (List.forall_mem_append.mpr ⟨mb_11, (fun _ h => nomatch h)⟩)⟩)⟩)⟩
set_option maxRecDepth 100000 in
theorem mw_513 : (.code yX9_lengthOf_ cX9_lengthOf_ 3 (some .int) : Cond) ∈ lw_tbl := List.mem_of_getElem? (i := 1736) (by decide +kernel)
theorem il_c_mlengthOf : ∀ w ∈ us_c_mlengthOf, w ∈ lw_tbl := List.forall_mem_cons.mpr ⟨mw_513, (List.forall_mem_append.mpr ⟨(List.forall_mem_cons.mpr ⟨mw_509, (List.forall_mem_cons.mpr ⟨mw_508, (List.forall_mem_cons.mpr ⟨mw_507, (List.forall_mem_cons.mpr ⟨mw_481, (List.forall_mem_cons.mpr ⟨mw_506, (List.forall_mem_cons.mpr ⟨mw_505, (List.forall_mem_cons.mpr ⟨mw_504, (fun _ h => nomatch h)⟩)⟩)⟩)⟩)⟩)⟩)⟩), (List.forall_mem_append.mpr ⟨il_c_isCourse, (List.forall_mem_append.mpr ⟨il_c_fails, (fun _ h => nomatch h)⟩)⟩)⟩)⟩
set_option maxRecDepth 100000 in
theorem mw_514 : (.code yX9_branches cX9_branches 5 (some .int) : Cond) ∈ lw_tbl := List.mem_of_getElem? (i := 1784) (by decide +kernel)
theorem il_c_mbranches : ∀ w ∈ us_c_mbranches, w ∈ lw_tbl := List.forall_mem_cons.mpr ⟨mw_514, (List.forall_mem_append.mpr ⟨(List.forall_mem_cons.mpr ⟨mw_498, (List.forall_mem_cons.mpr ⟨mw_497, (List.forall_mem_cons.mpr ⟨mw_496, (List.forall_mem_cons.mpr ⟨mw_481, (List.forall_mem_cons.mpr ⟨mw_506, (List.forall_mem_cons.mpr ⟨mw_505, (List.forall_mem_cons.mpr ⟨mw_504, (fun _ h => nomatch h)⟩)⟩)⟩)⟩)⟩)⟩)⟩), (List.forall_mem_append.mpr ⟨il_c_isRunner, (List.forall_mem_append.mpr ⟨il_c_fails, (fun _ h => nomatch h)⟩)⟩)⟩)⟩
set_option maxRecDepth 100000 in
theorem mw_515 : (.code yX9_start cX9_start 5 (some .int) : Cond) ∈ lw_tbl := List.mem_of_getElem? (i := 1795) (by decide +kernel)
theorem il_c_mstart : ∀ w ∈ us_c_mstart, w ∈ lw_tbl := List.forall_mem_cons.mpr ⟨mw_515, (List.forall_mem_append.mpr ⟨(List.forall_mem_cons.mpr ⟨mw_498, (List.forall_mem_cons.mpr ⟨mw_497, (List.forall_mem_cons.mpr ⟨mw_496, (List.forall_mem_cons.mpr ⟨mw_481, (List.forall_mem_cons.mpr ⟨mw_506, (List.forall_mem_cons.mpr ⟨mw_505, (List.forall_mem_cons.mpr ⟨mw_504, (fun _ h => nomatch h)⟩)⟩)⟩)⟩)⟩)⟩)⟩), (List.forall_mem_append.mpr ⟨il_c_isRunner, (List.forall_mem_append.mpr ⟨il_c_fails, (fun _ h => nomatch h)⟩)⟩)⟩)⟩
set_option maxRecDepth 100000 in
theorem mw_516 : (.code yX9_draw cX9_draw 14 (some .int) : Cond) ∈ lw_tbl := List.mem_of_getElem? (i := 1800) (by decide +kernel)
theorem il_c_mdraw : ∀ w ∈ us_c_mdraw, w ∈ lw_tbl := List.forall_mem_cons.mpr ⟨mw_516, (List.forall_mem_append.mpr ⟨(List.forall_mem_cons.mpr ⟨mw_509, (List.forall_mem_cons.mpr ⟨mw_508, (List.forall_mem_cons.mpr ⟨mw_507, (List.forall_mem_cons.mpr ⟨mw_481, (List.forall_mem_cons.mpr ⟨mw_506, (List.forall_mem_cons.mpr ⟨mw_505, (List.forall_mem_cons.mpr ⟨mw_504, (fun _ h => nomatch h)⟩)⟩)⟩)⟩)⟩)⟩)⟩), (List.forall_mem_append.mpr ⟨il_c_isCourse, (List.forall_mem_append.mpr ⟨il_c_fails, (fun _ h => nomatch h)⟩)⟩)⟩)⟩
set_option maxRecDepth 100000 in
theorem mw_517 : (.code yX9_startOf cX9_startOf 2 (some .int) : Cond) ∈ lw_tbl := List.mem_of_getElem? (i := 1819) (by decide +kernel)
theorem il_c_mstartOf : ∀ w ∈ us_c_mstartOf, w ∈ lw_tbl := List.forall_mem_cons.mpr ⟨mw_517, (List.forall_mem_append.mpr ⟨(List.forall_mem_cons.mpr ⟨mw_498, (List.forall_mem_cons.mpr ⟨mw_497, (List.forall_mem_cons.mpr ⟨mw_496, (List.forall_mem_cons.mpr ⟨mw_481, (List.forall_mem_cons.mpr ⟨mw_506, (List.forall_mem_cons.mpr ⟨mw_505, (List.forall_mem_cons.mpr ⟨mw_504, (fun _ h => nomatch h)⟩)⟩)⟩)⟩)⟩)⟩)⟩), (List.forall_mem_append.mpr ⟨il_c_isRunner, (List.forall_mem_append.mpr ⟨il_c_fails, (fun _ h => nomatch h)⟩)⟩)⟩)⟩
set_option maxRecDepth 100000 in
theorem mw_518 : (.code yX9_punch cX9_punch 7 (some .int) : Cond) ∈ lw_tbl := List.mem_of_getElem? (i := 1823) (by decide +kernel)
theorem il_c_mpunch : ∀ w ∈ us_c_mpunch, w ∈ lw_tbl := List.forall_mem_cons.mpr ⟨mw_518, (List.forall_mem_append.mpr ⟨(List.forall_mem_cons.mpr ⟨mw_498, (List.forall_mem_cons.mpr ⟨mw_497, (List.forall_mem_cons.mpr ⟨mw_496, (List.forall_mem_cons.mpr ⟨mw_481, (List.forall_mem_cons.mpr ⟨mw_506, (List.forall_mem_cons.mpr ⟨mw_505, (List.forall_mem_cons.mpr ⟨mw_504, (fun _ h => nomatch h)⟩)⟩)⟩)⟩)⟩)⟩)⟩), (List.forall_mem_append.mpr ⟨il_c_isRunner, (List.forall_mem_append.mpr ⟨il_c_fails, (fun _ h => nomatch h)⟩)⟩)⟩)⟩
set_option maxRecDepth 100000 in
theorem mw_519 : (.code yX9_finish cX9_finish 4 (some .int) : Cond) ∈ lw_tbl := List.mem_of_getElem? (i := 1835) (by decide +kernel)
theorem il_c_mfinish : ∀ w ∈ us_c_mfinish, w ∈ lw_tbl := List.forall_mem_cons.mpr ⟨mw_519, (List.forall_mem_append.mpr ⟨(List.forall_mem_cons.mpr ⟨mw_498, (List.forall_mem_cons.mpr ⟨mw_497, (List.forall_mem_cons.mpr ⟨mw_496, (List.forall_mem_cons.mpr ⟨mw_481, (List.forall_mem_cons.mpr ⟨mw_506, (List.forall_mem_cons.mpr ⟨mw_505, (List.forall_mem_cons.mpr ⟨mw_504, (fun _ h => nomatch h)⟩)⟩)⟩)⟩)⟩)⟩)⟩), (List.forall_mem_append.mpr ⟨il_c_isRunner, (List.forall_mem_append.mpr ⟨il_c_fails, (fun _ h => nomatch h)⟩)⟩)⟩)⟩
set_option maxRecDepth 100000 in
theorem mw_520 : (.code yX9_dead cX9_dead 9 (some .int) : Cond) ∈ lw_tbl := List.mem_of_getElem? (i := 1839) (by decide +kernel)
theorem il_c_mdead : ∀ w ∈ us_c_mdead, w ∈ lw_tbl := List.forall_mem_cons.mpr ⟨mw_520, (List.forall_mem_append.mpr ⟨(List.forall_mem_cons.mpr ⟨mw_502, (List.forall_mem_cons.mpr ⟨mw_501, (List.forall_mem_cons.mpr ⟨mw_500, (List.forall_mem_cons.mpr ⟨mw_481, (List.forall_mem_cons.mpr ⟨mw_506, (List.forall_mem_cons.mpr ⟨mw_505, (List.forall_mem_cons.mpr ⟨mw_504, (fun _ h => nomatch h)⟩)⟩)⟩)⟩)⟩)⟩)⟩), (List.forall_mem_append.mpr ⟨il_c_isControl, (List.forall_mem_append.mpr ⟨il_c_fails, (fun _ h => nomatch h)⟩)⟩)⟩)⟩
set_option maxRecDepth 100000 in
theorem mw_521 : (.code yX9_stolen cX9_stolen 4 (some .int) : Cond) ∈ lw_tbl := List.mem_of_getElem? (i := 1843) (by decide +kernel)
theorem il_c_mstolen : ∀ w ∈ us_c_mstolen, w ∈ lw_tbl := List.forall_mem_cons.mpr ⟨mw_521, (List.forall_mem_append.mpr ⟨(List.forall_mem_cons.mpr ⟨mw_502, (List.forall_mem_cons.mpr ⟨mw_501, (List.forall_mem_cons.mpr ⟨mw_500, (List.forall_mem_cons.mpr ⟨mw_481, (List.forall_mem_cons.mpr ⟨mw_506, (List.forall_mem_cons.mpr ⟨mw_505, (List.forall_mem_cons.mpr ⟨mw_504, (fun _ h => nomatch h)⟩)⟩)⟩)⟩)⟩)⟩)⟩), (List.forall_mem_append.mpr ⟨il_c_isControl, (List.forall_mem_append.mpr ⟨il_c_fails, (fun _ h => nomatch h)⟩)⟩)⟩)⟩
set_option maxRecDepth 100000 in
theorem mw_522 : (.code yX9_voided cX9_voided 5 (some .boolean) : Cond) ∈ lw_tbl := List.mem_of_getElem? (i := 1847) (by decide +kernel)
theorem il_c_mvoided : ∀ w ∈ us_c_mvoided, w ∈ lw_tbl := List.forall_mem_cons.mpr ⟨mw_522, (List.forall_mem_append.mpr ⟨(List.forall_mem_cons.mpr ⟨mw_509, (List.forall_mem_cons.mpr ⟨mw_508, (List.forall_mem_cons.mpr ⟨mw_507, (List.forall_mem_cons.mpr ⟨mw_481, (List.forall_mem_cons.mpr ⟨mw_476, (fun _ h => nomatch h)⟩)⟩)⟩)⟩)⟩), (List.forall_mem_append.mpr ⟨il_c_isCourse, (List.forall_mem_append.mpr ⟨mb_11, (fun _ h => nomatch h)⟩)⟩)⟩)⟩
set_option maxRecDepth 100000 in
theorem mw_523 : (.code yX9_rule cX9_rule 5 (some .int) : Cond) ∈ lw_tbl := List.mem_of_getElem? (i := 1851) (by decide +kernel)
theorem il_c_mrule : ∀ w ∈ us_c_mrule, w ∈ lw_tbl := List.forall_mem_cons.mpr ⟨mw_523, (List.forall_mem_append.mpr ⟨(List.forall_mem_cons.mpr ⟨mw_498, (List.forall_mem_cons.mpr ⟨mw_497, (List.forall_mem_cons.mpr ⟨mw_496, (List.forall_mem_cons.mpr ⟨mw_481, (List.forall_mem_cons.mpr ⟨mw_506, (List.forall_mem_cons.mpr ⟨mw_505, (List.forall_mem_cons.mpr ⟨mw_504, (fun _ h => nomatch h)⟩)⟩)⟩)⟩)⟩)⟩)⟩), (List.forall_mem_append.mpr ⟨il_c_isRunner, (List.forall_mem_append.mpr ⟨il_c_fails, (fun _ h => nomatch h)⟩)⟩)⟩)⟩
set_option maxRecDepth 100000 in
theorem mw_524 : (.code yX9_state cX9_state 2 (some .char) : Cond) ∈ lw_tbl := List.mem_of_getElem? (i := 1859) (by decide +kernel)
theorem il_c_mstate : ∀ w ∈ us_c_mstate, w ∈ lw_tbl := List.forall_mem_cons.mpr ⟨mw_524, (List.forall_mem_append.mpr ⟨(List.forall_mem_cons.mpr ⟨mw_498, (List.forall_mem_cons.mpr ⟨mw_497, (List.forall_mem_cons.mpr ⟨mw_496, (List.forall_mem_cons.mpr ⟨mw_481, (List.forall_mem_cons.mpr ⟨mw_476, (fun _ h => nomatch h)⟩)⟩)⟩)⟩)⟩), (List.forall_mem_append.mpr ⟨il_c_isRunner, (List.forall_mem_append.mpr ⟨mb_11, (fun _ h => nomatch h)⟩)⟩)⟩)⟩
set_option maxRecDepth 100000 in
theorem mw_525 : (.code yX9_time cX9_time 2 (some .int) : Cond) ∈ lw_tbl := List.mem_of_getElem? (i := 1871) (by decide +kernel)
theorem il_c_mtime : ∀ w ∈ us_c_mtime, w ∈ lw_tbl := List.forall_mem_cons.mpr ⟨mw_525, (List.forall_mem_append.mpr ⟨(List.forall_mem_cons.mpr ⟨mw_498, (List.forall_mem_cons.mpr ⟨mw_497, (List.forall_mem_cons.mpr ⟨mw_496, (List.forall_mem_cons.mpr ⟨mw_481, (List.forall_mem_cons.mpr ⟨mw_506, (List.forall_mem_cons.mpr ⟨mw_505, (List.forall_mem_cons.mpr ⟨mw_504, (fun _ h => nomatch h)⟩)⟩)⟩)⟩)⟩)⟩)⟩), (List.forall_mem_append.mpr ⟨il_c_isRunner, (List.forall_mem_append.mpr ⟨il_c_fails, (fun _ h => nomatch h)⟩)⟩)⟩)⟩
set_option maxRecDepth 100000 in
theorem mw_526 : (.selects RX9 yX9_isLeg yX9_isLeg : Cond) ∈ lw_tbl := List.mem_of_getElem? (i := 73) (by decide +kernel)
set_option maxRecDepth 100000 in
theorem mw_527 : (.instanceMethod yX9_isLeg : Cond) ∈ lw_tbl := List.mem_of_getElem? (i := 1890) (by decide +kernel)
set_option maxRecDepth 100000 in
theorem mw_528 : (.methodLink RX9 295 yX9_isLeg : Cond) ∈ lw_tbl := List.mem_of_getElem? (i := 1888) (by decide +kernel)
set_option maxRecDepth 100000 in
theorem mw_529 : (.code yX9_split cX9_split 4 (some .int) : Cond) ∈ lw_tbl := List.mem_of_getElem? (i := 1887) (by decide +kernel)
theorem il_c_msplit : ∀ w ∈ us_c_msplit, w ∈ lw_tbl := List.forall_mem_cons.mpr ⟨mw_529, (List.forall_mem_append.mpr ⟨(List.forall_mem_cons.mpr ⟨mw_528, (List.forall_mem_cons.mpr ⟨mw_527, (List.forall_mem_cons.mpr ⟨mw_526, (List.forall_mem_cons.mpr ⟨mw_481, (List.forall_mem_cons.mpr ⟨mw_506, (List.forall_mem_cons.mpr ⟨mw_505, (List.forall_mem_cons.mpr ⟨mw_504, (fun _ h => nomatch h)⟩)⟩)⟩)⟩)⟩)⟩)⟩), (List.forall_mem_append.mpr ⟨il_c_isLeg, (List.forall_mem_append.mpr ⟨il_c_fails, (fun _ h => nomatch h)⟩)⟩)⟩)⟩
set_option maxRecDepth 100000 in
theorem mw_530 : (.code yX9_place cX9_place 6 (some .int) : Cond) ∈ lw_tbl := List.mem_of_getElem? (i := 1895) (by decide +kernel)
theorem il_c_mplace : ∀ w ∈ us_c_mplace, w ∈ lw_tbl := List.forall_mem_cons.mpr ⟨mw_530, (List.forall_mem_append.mpr ⟨(List.forall_mem_cons.mpr ⟨mw_498, (List.forall_mem_cons.mpr ⟨mw_497, (List.forall_mem_cons.mpr ⟨mw_496, (List.forall_mem_cons.mpr ⟨mw_481, (List.forall_mem_cons.mpr ⟨mw_506, (List.forall_mem_cons.mpr ⟨mw_505, (List.forall_mem_cons.mpr ⟨mw_504, (fun _ h => nomatch h)⟩)⟩)⟩)⟩)⟩)⟩)⟩), (List.forall_mem_append.mpr ⟨il_c_isRunner, (List.forall_mem_append.mpr ⟨il_c_fails, (fun _ h => nomatch h)⟩)⟩)⟩)⟩
set_option maxRecDepth 100000 in
theorem mw_531 : (.code yX9_reference cX9_reference 4 (some .int) : Cond) ∈ lw_tbl := List.mem_of_getElem? (i := 1903) (by decide +kernel)
theorem il_c_mreference : ∀ w ∈ us_c_mreference, w ∈ lw_tbl := List.forall_mem_cons.mpr ⟨mw_531, (List.forall_mem_append.mpr ⟨(List.forall_mem_cons.mpr ⟨mw_528, (List.forall_mem_cons.mpr ⟨mw_527, (List.forall_mem_cons.mpr ⟨mw_526, (List.forall_mem_cons.mpr ⟨mw_481, (List.forall_mem_cons.mpr ⟨mw_506, (List.forall_mem_cons.mpr ⟨mw_505, (List.forall_mem_cons.mpr ⟨mw_504, (fun _ h => nomatch h)⟩)⟩)⟩)⟩)⟩)⟩)⟩), (List.forall_mem_append.mpr ⟨il_c_isLeg, (List.forall_mem_append.mpr ⟨il_c_fails, (fun _ h => nomatch h)⟩)⟩)⟩)⟩
set_option maxRecDepth 100000 in
theorem mw_532 : (.code yX9_pace cX9_pace 3 (some .int) : Cond) ∈ lw_tbl := List.mem_of_getElem? (i := 2462) (by decide +kernel)
theorem il_c_mpace : ∀ w ∈ us_c_mpace, w ∈ lw_tbl := List.forall_mem_cons.mpr ⟨mw_532, (List.forall_mem_append.mpr ⟨(List.forall_mem_cons.mpr ⟨mw_498, (List.forall_mem_cons.mpr ⟨mw_497, (List.forall_mem_cons.mpr ⟨mw_496, (List.forall_mem_cons.mpr ⟨mw_481, (List.forall_mem_cons.mpr ⟨mw_506, (List.forall_mem_cons.mpr ⟨mw_505, (List.forall_mem_cons.mpr ⟨mw_504, (fun _ h => nomatch h)⟩)⟩)⟩)⟩)⟩)⟩)⟩), (List.forall_mem_append.mpr ⟨il_c_isRunner, (List.forall_mem_append.mpr ⟨il_c_fails, (fun _ h => nomatch h)⟩)⟩)⟩)⟩
set_option maxRecDepth 100000 in
theorem mw_533 : (.code yX9_loss cX9_loss 6 (some .int) : Cond) ∈ lw_tbl := List.mem_of_getElem? (i := 2471) (by decide +kernel)
theorem il_c_mloss : ∀ w ∈ us_c_mloss, w ∈ lw_tbl := List.forall_mem_cons.mpr ⟨mw_533, (List.forall_mem_append.mpr ⟨(List.forall_mem_cons.mpr ⟨mw_528, (List.forall_mem_cons.mpr ⟨mw_527, (List.forall_mem_cons.mpr ⟨mw_526, (List.forall_mem_cons.mpr ⟨mw_481, (List.forall_mem_cons.mpr ⟨mw_506, (List.forall_mem_cons.mpr ⟨mw_505, (List.forall_mem_cons.mpr ⟨mw_504, (fun _ h => nomatch h)⟩)⟩)⟩)⟩)⟩)⟩)⟩), (List.forall_mem_append.mpr ⟨il_c_isLeg, (List.forall_mem_append.mpr ⟨il_c_fails, (fun _ h => nomatch h)⟩)⟩)⟩)⟩
set_option maxRecDepth 100000 in
theorem mw_534 : (.code yX9_points cX9_points 7 (some .int) : Cond) ∈ lw_tbl := List.mem_of_getElem? (i := 2476) (by decide +kernel)
theorem il_c_mpoints : ∀ w ∈ us_c_mpoints, w ∈ lw_tbl := List.forall_mem_cons.mpr ⟨mw_534, (List.forall_mem_append.mpr ⟨(List.forall_mem_cons.mpr ⟨mw_498, (List.forall_mem_cons.mpr ⟨mw_497, (List.forall_mem_cons.mpr ⟨mw_496, (List.forall_mem_cons.mpr ⟨mw_481, (List.forall_mem_cons.mpr ⟨mw_506, (List.forall_mem_cons.mpr ⟨mw_505, (List.forall_mem_cons.mpr ⟨mw_504, (fun _ h => nomatch h)⟩)⟩)⟩)⟩)⟩)⟩)⟩), (List.forall_mem_append.mpr ⟨il_c_isRunner, (List.forall_mem_append.mpr ⟨il_c_fails, (fun _ h => nomatch h)⟩)⟩)⟩)⟩
set_option maxRecDepth 100000 in
theorem mw_535 : (.code yX9_team cX9_team 3 (some .int) : Cond) ∈ lw_tbl := List.mem_of_getElem? (i := 2481) (by decide +kernel)
theorem il_c_mteam : ∀ w ∈ us_c_mteam, w ∈ lw_tbl := List.forall_mem_cons.mpr ⟨mw_535, (List.forall_mem_append.mpr ⟨(List.forall_mem_cons.mpr ⟨mw_509, (List.forall_mem_cons.mpr ⟨mw_508, (List.forall_mem_cons.mpr ⟨mw_507, (List.forall_mem_cons.mpr ⟨mw_481, (List.forall_mem_cons.mpr ⟨mw_506, (List.forall_mem_cons.mpr ⟨mw_505, (List.forall_mem_cons.mpr ⟨mw_504, (fun _ h => nomatch h)⟩)⟩)⟩)⟩)⟩)⟩)⟩), (List.forall_mem_append.mpr ⟨il_c_isCourse, (List.forall_mem_append.mpr ⟨il_c_fails, (fun _ h => nomatch h)⟩)⟩)⟩)⟩
set_option maxRecDepth 100000 in
theorem mw_536 : (.fieldLink RX9 52 "ControlWoodModel" "teams" "Ljava/util/ArrayList;" : Cond) ∈ lw_tbl := List.mem_of_getElem? (i := 1358) (by decide +kernel)
set_option maxRecDepth 100000 in
theorem mw_537 : (.code yX9_runs cX9_runs 5 (some .int) : Cond) ∈ lw_tbl := List.mem_of_getElem? (i := 2485) (by decide +kernel)
theorem il_c_mruns : ∀ w ∈ us_c_mruns, w ∈ lw_tbl := List.forall_mem_cons.mpr ⟨mw_537, (List.forall_mem_append.mpr ⟨(List.forall_mem_cons.mpr ⟨mw_536, (List.forall_mem_cons.mpr ⟨mw_489, (List.forall_mem_cons.mpr ⟨mw_488, (List.forall_mem_cons.mpr ⟨mw_487, (List.forall_mem_cons.mpr ⟨mw_486, (List.forall_mem_cons.mpr ⟨mw_483, (List.forall_mem_cons.mpr ⟨mw_482, (List.forall_mem_cons.mpr ⟨mw_481, (List.forall_mem_cons.mpr ⟨mw_506, (List.forall_mem_cons.mpr ⟨mw_505, (List.forall_mem_cons.mpr ⟨mw_504, (fun _ h => nomatch h)⟩)⟩)⟩)⟩)⟩)⟩)⟩)⟩)⟩)⟩)⟩), (List.forall_mem_append.mpr ⟨mb_11, (List.forall_mem_append.mpr ⟨il_c_alSize, (List.forall_mem_append.mpr ⟨il_c_in, (List.forall_mem_append.mpr ⟨il_c_fails, (fun _ h => nomatch h)⟩)⟩)⟩)⟩)⟩)⟩
set_option maxRecDepth 100000 in
theorem mw_538 : (.code yX9_chase cX9_chase 10 (some .int) : Cond) ∈ lw_tbl := List.mem_of_getElem? (i := 2577) (by decide +kernel)
theorem il_c_mchase : ∀ w ∈ us_c_mchase, w ∈ lw_tbl := List.forall_mem_cons.mpr ⟨mw_538, (List.forall_mem_append.mpr ⟨(List.forall_mem_cons.mpr ⟨mw_509, (List.forall_mem_cons.mpr ⟨mw_508, (List.forall_mem_cons.mpr ⟨mw_507, (List.forall_mem_cons.mpr ⟨mw_481, (List.forall_mem_cons.mpr ⟨mw_506, (List.forall_mem_cons.mpr ⟨mw_505, (List.forall_mem_cons.mpr ⟨mw_504, (fun _ h => nomatch h)⟩)⟩)⟩)⟩)⟩)⟩)⟩), (List.forall_mem_append.mpr ⟨il_c_isCourse, (List.forall_mem_append.mpr ⟨il_c_fails, (fun _ h => nomatch h)⟩)⟩)⟩)⟩
set_option maxRecDepth 100000 in
theorem mw_539 : (.code yX9_fix cX9_fix 5 (some .int) : Cond) ∈ lw_tbl := List.mem_of_getElem? (i := 2605) (by decide +kernel)
theorem il_c_mfix : ∀ w ∈ us_c_mfix, w ∈ lw_tbl := List.forall_mem_cons.mpr ⟨mw_539, (List.forall_mem_append.mpr ⟨(List.forall_mem_cons.mpr ⟨mw_498, (List.forall_mem_cons.mpr ⟨mw_497, (List.forall_mem_cons.mpr ⟨mw_496, (List.forall_mem_cons.mpr ⟨mw_481, (List.forall_mem_cons.mpr ⟨mw_506, (List.forall_mem_cons.mpr ⟨mw_505, (List.forall_mem_cons.mpr ⟨mw_504, (fun _ h => nomatch h)⟩)⟩)⟩)⟩)⟩)⟩)⟩), (List.forall_mem_append.mpr ⟨il_c_isRunner, (List.forall_mem_append.mpr ⟨il_c_fails, (fun _ h => nomatch h)⟩)⟩)⟩)⟩
set_option maxRecDepth 100000 in
theorem mw_540 : (.code yX9_mayHave cX9_mayHave 9 (some .boolean) : Cond) ∈ lw_tbl := List.mem_of_getElem? (i := 2609) (by decide +kernel)
theorem il_c_mmayHave : ∀ w ∈ us_c_mmayHave, w ∈ lw_tbl := List.forall_mem_cons.mpr ⟨mw_540, (List.forall_mem_append.mpr ⟨(List.forall_mem_cons.mpr ⟨mw_498, (List.forall_mem_cons.mpr ⟨mw_497, (List.forall_mem_cons.mpr ⟨mw_496, (List.forall_mem_cons.mpr ⟨mw_481, (List.forall_mem_cons.mpr ⟨mw_476, (fun _ h => nomatch h)⟩)⟩)⟩)⟩)⟩), (List.forall_mem_append.mpr ⟨il_c_isRunner, (List.forall_mem_append.mpr ⟨mb_11, (fun _ h => nomatch h)⟩)⟩)⟩)⟩
set_option maxRecDepth 100000 in
theorem mw_541 : (.instanceMethod yJx35411_hasNext_aae02 : Cond) ∈ lw_tbl := List.mem_of_getElem? (i := 1649) (by decide +kernel)
set_option maxRecDepth 100000 in
theorem mw_542 : (.selects RJx35411 ⟨"java/util/Iterator", "hasNext", "()Z"⟩ yJx35411_hasNext_aae02 : Cond) ∈ lw_tbl := List.mem_of_getElem? (i := 1647) (by decide +kernel)
set_option maxRecDepth 100000 in
theorem mw_543 : (.methodLink RX9 164 ⟨"java/util/Iterator", "hasNext", "()Z"⟩ : Cond) ∈ lw_tbl := List.mem_of_getElem? (i := 1643) (by decide +kernel)
set_option maxRecDepth 100000 in
theorem mw_544 : (.selects RJx4a65c yJx4a65c_iterator_32c93 yJx4a65c_iterator_32c93 : Cond) ∈ lw_tbl := List.mem_of_getElem? (i := 1621) (by decide +kernel)
set_option maxRecDepth 100000 in
theorem mw_545 : (.instanceMethod yJx4a65c_iterator_32c93 : Cond) ∈ lw_tbl := List.mem_of_getElem? (i := 1620) (by decide +kernel)
set_option maxRecDepth 100000 in
theorem mw_546 : (.methodLink RX9 160 yJx4a65c_iterator_32c93 : Cond) ∈ lw_tbl := List.mem_of_getElem? (i := 1619) (by decide +kernel)
set_option maxRecDepth 100000 in
theorem mw_547 : (.code yX9_okShare cX9_okShare 5 (some .float) : Cond) ∈ lw_tbl := List.mem_of_getElem? (i := 2613) (by decide +kernel)
theorem il_c_mokShare : ∀ w ∈ us_c_mokShare, w ∈ lw_tbl := List.forall_mem_cons.mpr ⟨mw_547, (List.forall_mem_append.mpr ⟨(List.forall_mem_cons.mpr ⟨mw_494, (List.forall_mem_cons.mpr ⟨mw_546, (List.forall_mem_cons.mpr ⟨mw_545, (List.forall_mem_cons.mpr ⟨mw_544, (List.forall_mem_cons.mpr ⟨mw_486, (List.forall_mem_cons.mpr ⟨mw_543, (List.forall_mem_cons.mpr ⟨mw_542, (List.forall_mem_cons.mpr ⟨mw_541, (List.forall_mem_cons.mpr ⟨mw_468, (List.forall_mem_cons.mpr ⟨mw_509, (List.forall_mem_cons.mpr ⟨mw_508, (List.forall_mem_cons.mpr ⟨mw_507, (List.forall_mem_cons.mpr ⟨mw_481, (List.forall_mem_cons.mpr ⟨mw_476, (fun _ h => nomatch h)⟩)⟩)⟩)⟩)⟩)⟩)⟩)⟩)⟩)⟩)⟩)⟩)⟩)⟩), (List.forall_mem_append.mpr ⟨mb_11, (List.forall_mem_append.mpr ⟨il_c_alIter, (List.forall_mem_append.mpr ⟨il_c_itHas, (List.forall_mem_append.mpr ⟨il_c_isCourse, (fun _ h => nomatch h)⟩)⟩)⟩)⟩)⟩)⟩
set_option maxRecDepth 100000 in
theorem mw_548 : (.code yX9_meanTime cX9_meanTime 5 (some .double) : Cond) ∈ lw_tbl := List.mem_of_getElem? (i := 2617) (by decide +kernel)
theorem il_c_mmeanTime : ∀ w ∈ us_c_mmeanTime, w ∈ lw_tbl := List.forall_mem_cons.mpr ⟨mw_548, (List.forall_mem_append.mpr ⟨(List.forall_mem_cons.mpr ⟨mw_509, (List.forall_mem_cons.mpr ⟨mw_508, (List.forall_mem_cons.mpr ⟨mw_507, (List.forall_mem_cons.mpr ⟨mw_481, (List.forall_mem_cons.mpr ⟨mw_476, (fun _ h => nomatch h)⟩)⟩)⟩)⟩)⟩), (List.forall_mem_append.mpr ⟨il_c_isCourse, (List.forall_mem_append.mpr ⟨mb_11, (fun _ h => nomatch h)⟩)⟩)⟩)⟩
set_option maxRecDepth 100000 in
theorem mw_549 : (.constantLong RX9 87 (9) : Cond) ∈ lw_tbl := List.mem_of_getElem? (i := 1415) (by decide +kernel)
set_option maxRecDepth 100000 in
theorem mw_550 : (.code yX9_runner cX9_runner 3 (some .int) : Cond) ∈ lw_tbl := List.mem_of_getElem? (i := 1740) (by decide +kernel)
theorem il_c_mrunner : ∀ w ∈ us_c_mrunner, w ∈ lw_tbl := List.forall_mem_cons.mpr ⟨mw_550, (List.forall_mem_append.mpr ⟨(List.forall_mem_cons.mpr ⟨mw_549, (List.forall_mem_cons.mpr ⟨mw_483, (List.forall_mem_cons.mpr ⟨mw_482, (List.forall_mem_cons.mpr ⟨mw_481, (List.forall_mem_cons.mpr ⟨mw_509, (List.forall_mem_cons.mpr ⟨mw_508, (List.forall_mem_cons.mpr ⟨mw_507, (List.forall_mem_cons.mpr ⟨mw_506, (List.forall_mem_cons.mpr ⟨mw_505, (List.forall_mem_cons.mpr ⟨mw_504, (fun _ h => nomatch h)⟩)⟩)⟩)⟩)⟩)⟩)⟩)⟩)⟩)⟩), (List.forall_mem_append.mpr ⟨il_c_in, (List.forall_mem_append.mpr ⟨il_c_isCourse, (List.forall_mem_append.mpr ⟨il_c_fails, (fun _ h => nomatch h)⟩)⟩)⟩)⟩)⟩
set_option maxRecDepth 100000 in
theorem mw_551 : (.selects RX9 yX9_tells yX9_tells : Cond) ∈ lw_tbl := List.mem_of_getElem? (i := 49) (by decide +kernel)
set_option maxRecDepth 100000 in
theorem mw_552 : (.instanceMethod yX9_tells : Cond) ∈ lw_tbl := List.mem_of_getElem? (i := 1405) (by decide +kernel)
set_option maxRecDepth 100000 in
theorem mw_553 : (.methodLink RX9 80 yX9_tells : Cond) ∈ lw_tbl := List.mem_of_getElem? (i := 1403) (by decide +kernel)
set_option maxRecDepth 100000 in
theorem mw_554 : (.fieldLink RX9 29 "ControlWoodModel" "kind" "[C" : Cond) ∈ lw_tbl := List.mem_of_getElem? (i := 1352) (by decide +kernel)
set_option maxRecDepth 100000 in
theorem mw_555 : (.fieldLink RX9 23 "ControlWoodModel" "height" "[I" : Cond) ∈ lw_tbl := List.mem_of_getElem? (i := 1350) (by decide +kernel)
set_option maxRecDepth 100000 in
theorem mw_556 : (.static yX9_isKind : Cond) ∈ lw_tbl := List.mem_of_getElem? (i := 1417) (by decide +kernel)
set_option maxRecDepth 100000 in
theorem mw_557 : (.methodLink RX9 89 yX9_isKind : Cond) ∈ lw_tbl := List.mem_of_getElem? (i := 1416) (by decide +kernel)
set_option maxRecDepth 100000 in
theorem mw_558 : (.selects RX9 yX9_isCell yX9_isCell : Cond) ∈ lw_tbl := List.mem_of_getElem? (i := 50) (by decide +kernel)
set_option maxRecDepth 100000 in
theorem mw_559 : (.instanceMethod yX9_isCell : Cond) ∈ lw_tbl := List.mem_of_getElem? (i := 1413) (by decide +kernel)
set_option maxRecDepth 100000 in
theorem mw_560 : (.methodLink RX9 83 yX9_isCell : Cond) ∈ lw_tbl := List.mem_of_getElem? (i := 1411) (by decide +kernel)
set_option maxRecDepth 100000 in
theorem mw_561 : (.code yX9_cell cX9_cell 6 (some .int) : Cond) ∈ lw_tbl := List.mem_of_getElem? (i := 1410) (by decide +kernel)
theorem il_c_mcell : ∀ w ∈ us_c_mcell, w ∈ lw_tbl := List.forall_mem_cons.mpr ⟨mw_561, (List.forall_mem_append.mpr ⟨(List.forall_mem_cons.mpr ⟨mw_560, (List.forall_mem_cons.mpr ⟨mw_559, (List.forall_mem_cons.mpr ⟨mw_558, (List.forall_mem_cons.mpr ⟨mw_481, (List.forall_mem_cons.mpr ⟨mw_549, (List.forall_mem_cons.mpr ⟨mw_483, (List.forall_mem_cons.mpr ⟨mw_482, (List.forall_mem_cons.mpr ⟨mw_506, (List.forall_mem_cons.mpr ⟨mw_505, (List.forall_mem_cons.mpr ⟨mw_504, (List.forall_mem_cons.mpr ⟨mw_557, (List.forall_mem_cons.mpr ⟨mw_556, (List.forall_mem_cons.mpr ⟨mw_484, (List.forall_mem_cons.mpr ⟨mw_555, (List.forall_mem_cons.mpr ⟨mw_554, (List.forall_mem_cons.mpr ⟨mw_553, (List.forall_mem_cons.mpr ⟨mw_552, (List.forall_mem_cons.mpr ⟨mw_551, (fun _ h => nomatch h)⟩)⟩)⟩)⟩)⟩)⟩)⟩)⟩)⟩)⟩)⟩)⟩)⟩)⟩)⟩)⟩)⟩)⟩), (List.forall_mem_append.mpr ⟨il_c_isCell, (List.forall_mem_append.mpr ⟨il_c_in, (List.forall_mem_append.mpr ⟨il_c_fails, (List.forall_mem_append.mpr ⟨il_c_isKind, (List.forall_mem_append.mpr ⟨mb_11, (List.forall_mem_append.mpr ⟨il_c_tells, (fun _ h => nomatch h)⟩)⟩)⟩)⟩)⟩)⟩)⟩)⟩
set_option maxRecDepth 100000 in
theorem mw_562 : (.methodLink RX9 105 Lib.Math.max.name : Cond) ∈ lw_tbl := List.mem_of_getElem? (i := 1470) (by decide +kernel)
set_option maxRecDepth 100000 in
theorem mw_563 : (.constantLong RX9 139 (99) : Cond) ∈ lw_tbl := List.mem_of_getElem? (i := 1479) (by decide +kernel)
set_option maxRecDepth 100000 in
theorem mw_564 : (.constantLong RX9 240 (9999) : Cond) ∈ lw_tbl := List.mem_of_getElem? (i := 1801) (by decide +kernel)
set_option maxRecDepth 100000 in
theorem mw_565 : (.code yX9_late cX9_late 4 (some .int) : Cond) ∈ lw_tbl := List.mem_of_getElem? (i := 2601) (by decide +kernel)
theorem il_c_mlate : ∀ w ∈ us_c_mlate, w ∈ lw_tbl := List.forall_mem_cons.mpr ⟨mw_565, (List.forall_mem_append.mpr ⟨(List.forall_mem_cons.mpr ⟨mw_564, (List.forall_mem_cons.mpr ⟨mw_483, (List.forall_mem_cons.mpr ⟨mw_482, (List.forall_mem_cons.mpr ⟨mw_481, (List.forall_mem_cons.mpr ⟨mw_506, (List.forall_mem_cons.mpr ⟨mw_505, (List.forall_mem_cons.mpr ⟨mw_504, (List.forall_mem_cons.mpr ⟨mw_563, (List.forall_mem_cons.mpr ⟨mw_562, (List.forall_mem_cons.mpr ⟨mw_25, (List.forall_mem_cons.mpr ⟨mw_24, (List.forall_mem_cons.mpr ⟨mw_23, (List.forall_mem_cons.mpr ⟨mw_553, (List.forall_mem_cons.mpr ⟨mw_552, (List.forall_mem_cons.mpr ⟨mw_551, (fun _ h => nomatch h)⟩)⟩)⟩)⟩)⟩)⟩)⟩)⟩)⟩)⟩)⟩)⟩)⟩)⟩)⟩), (List.forall_mem_append.mpr ⟨il_c_in, (List.forall_mem_append.mpr ⟨il_c_fails, (List.forall_mem_append.mpr ⟨il_c_tells, (fun _ h => nomatch h)⟩)⟩)⟩)⟩)⟩
set_option maxRecDepth 100000 in
theorem mw_566 : (.fieldLink RX9 33 "ControlWoodModel" "shownKind" "[C" : Cond) ∈ lw_tbl := List.mem_of_getElem? (i := 1353) (by decide +kernel)
set_option maxRecDepth 100000 in
theorem mw_567 : (.code yX9_canEnter cX9_canEnter 3 (some .boolean) : Cond) ∈ lw_tbl := List.mem_of_getElem? (i := 1465) (by decide +kernel)
theorem il_c_mcan : ∀ w ∈ us_c_mcan, w ∈ lw_tbl := List.forall_mem_cons.mpr ⟨mw_567, (List.forall_mem_append.mpr ⟨(List.forall_mem_cons.mpr ⟨mw_554, (List.forall_mem_cons.mpr ⟨mw_566, (fun _ h => nomatch h)⟩)⟩), (List.forall_mem_append.mpr ⟨mb_11, (fun _ h => nomatch h)⟩)⟩)⟩
set_option maxRecDepth 100000 in
theorem mw_568 : (.fieldLink RX9 26 "ControlWoodModel" "shown" "[I" : Cond) ∈ lw_tbl := List.mem_of_getElem? (i := 1351) (by decide +kernel)
set_option maxRecDepth 100000 in
theorem mw_569 : (.code yX9_step cX9_step 4 (some .int) : Cond) ∈ lw_tbl := List.mem_of_getElem? (i := 1469) (by decide +kernel)
theorem il_c_mstep : ∀ w ∈ us_c_mstep, w ∈ lw_tbl := List.forall_mem_cons.mpr ⟨mw_569, (List.forall_mem_append.mpr ⟨(List.forall_mem_cons.mpr ⟨mw_484, (List.forall_mem_cons.mpr ⟨mw_555, (List.forall_mem_cons.mpr ⟨mw_562, (List.forall_mem_cons.mpr ⟨mw_25, (List.forall_mem_cons.mpr ⟨mw_24, (List.forall_mem_cons.mpr ⟨mw_23, (List.forall_mem_cons.mpr ⟨mw_568, (fun _ h => nomatch h)⟩)⟩)⟩)⟩)⟩)⟩)⟩), (List.forall_mem_append.mpr ⟨mb_11, (fun _ h => nomatch h)⟩)⟩)⟩
set_option maxRecDepth 100000 in
theorem mw_570 : (.code Lib.Math.abs.name Lib.Math.abs.code 1 (some .int) : Cond) ∈ lw_tbl := List.mem_of_getElem? (i := 827) (by decide +kernel)
set_option maxRecDepth 100000 in
theorem mw_571 : (.static Lib.Math.abs.name : Cond) ∈ lw_tbl := List.mem_of_getElem? (i := 826) (by decide +kernel)
set_option maxRecDepth 100000 in
theorem mw_572 : (.methodLink RX9 100 Lib.Math.abs.name : Cond) ∈ lw_tbl := List.mem_of_getElem? (i := 1461) (by decide +kernel)
set_option maxRecDepth 100000 in
theorem mw_573 : (.fieldLink RX9 7 "ControlWoodModel" "columns" "I" : Cond) ∈ lw_tbl := List.mem_of_getElem? (i := 1346) (by decide +kernel)
set_option maxRecDepth 100000 in
theorem mw_574 : (.code yX9_areBeside cX9_areBeside 3 (some .boolean) : Cond) ∈ lw_tbl := List.mem_of_getElem? (i := 1460) (by decide +kernel)
theorem il_c_areBeside : ∀ w ∈ us_c_areBeside, w ∈ lw_tbl := List.forall_mem_cons.mpr ⟨mw_574, (List.forall_mem_append.mpr ⟨(List.forall_mem_cons.mpr ⟨mw_573, (List.forall_mem_cons.mpr ⟨mw_572, (List.forall_mem_cons.mpr ⟨mw_571, (List.forall_mem_cons.mpr ⟨mw_24, (List.forall_mem_cons.mpr ⟨mw_570, (fun _ h => nomatch h)⟩)⟩)⟩)⟩)⟩), (List.forall_mem_append.mpr ⟨mb_11, (fun _ h => nomatch h)⟩)⟩)⟩
set_option maxRecDepth 100000 in
theorem mw_575 : (.selects RX9 yX9_areBeside yX9_areBeside : Cond) ∈ lw_tbl := List.mem_of_getElem? (i := 54) (by decide +kernel)
set_option maxRecDepth 100000 in
theorem mw_576 : (.instanceMethod yX9_areBeside : Cond) ∈ lw_tbl := List.mem_of_getElem? (i := 1459) (by decide +kernel)
set_option maxRecDepth 100000 in
theorem mw_577 : (.methodLink RX9 109 yX9_areBeside : Cond) ∈ lw_tbl := List.mem_of_getElem? (i := 1457) (by decide +kernel)
set_option maxRecDepth 100000 in
theorem mw_578 : (.code yX9_beside cX9_beside 4 (some .int) : Cond) ∈ lw_tbl := List.mem_of_getElem? (i := 1456) (by decide +kernel)
theorem il_c_beside : ∀ w ∈ us_c_beside, w ∈ lw_tbl := List.forall_mem_cons.mpr ⟨mw_578, (List.forall_mem_append.mpr ⟨(List.forall_mem_cons.mpr ⟨mw_573, (List.forall_mem_cons.mpr ⟨mw_560, (List.forall_mem_cons.mpr ⟨mw_559, (List.forall_mem_cons.mpr ⟨mw_558, (List.forall_mem_cons.mpr ⟨mw_481, (List.forall_mem_cons.mpr ⟨mw_577, (List.forall_mem_cons.mpr ⟨mw_576, (List.forall_mem_cons.mpr ⟨mw_575, (fun _ h => nomatch h)⟩)⟩)⟩)⟩)⟩)⟩)⟩)⟩), (List.forall_mem_append.mpr ⟨mb_11, (List.forall_mem_append.mpr ⟨il_c_isCell, (List.forall_mem_append.mpr ⟨il_c_areBeside, (fun _ h => nomatch h)⟩)⟩)⟩)⟩)⟩
set_option maxRecDepth 100000 in
theorem mw_579 : (.selects RX9 yX9_step yX9_step : Cond) ∈ lw_tbl := List.mem_of_getElem? (i := 56) (by decide +kernel)
set_option maxRecDepth 100000 in
theorem mw_580 : (.instanceMethod yX9_step : Cond) ∈ lw_tbl := List.mem_of_getElem? (i := 1468) (by decide +kernel)
set_option maxRecDepth 100000 in
theorem mw_581 : (.methodLink RX9 124 yX9_step : Cond) ∈ lw_tbl := List.mem_of_getElem? (i := 1466) (by decide +kernel)
set_option maxRecDepth 100000 in
theorem mw_582 : (.selects RX9 yX9_canEnter yX9_canEnter : Cond) ∈ lw_tbl := List.mem_of_getElem? (i := 55) (by decide +kernel)
set_option maxRecDepth 100000 in
theorem mw_583 : (.instanceMethod yX9_canEnter : Cond) ∈ lw_tbl := List.mem_of_getElem? (i := 1464) (by decide +kernel)
set_option maxRecDepth 100000 in
theorem mw_584 : (.methodLink RX9 120 yX9_canEnter : Cond) ∈ lw_tbl := List.mem_of_getElem? (i := 1462) (by decide +kernel)
set_option maxRecDepth 100000 in
theorem mw_585 : (.selects RX9 yX9_beside yX9_beside : Cond) ∈ lw_tbl := List.mem_of_getElem? (i := 53) (by decide +kernel)
set_option maxRecDepth 100000 in
theorem mw_586 : (.instanceMethod yX9_beside : Cond) ∈ lw_tbl := List.mem_of_getElem? (i := 1455) (by decide +kernel)
set_option maxRecDepth 100000 in
theorem mw_587 : (.methodLink RX9 117 yX9_beside : Cond) ∈ lw_tbl := List.mem_of_getElem? (i := 1453) (by decide +kernel)
set_option maxRecDepth 100000 in
theorem mw_588 : (.methodLink RX9 114 yJ7_fill_53178 : Cond) ∈ lw_tbl := List.mem_of_getElem? (i := 1452) (by decide +kernel)
set_option maxRecDepth 100000 in
theorem mw_589 : (.constant RX9 113 (1000000000) : Cond) ∈ lw_tbl := List.mem_of_getElem? (i := 1451) (by decide +kernel)
set_option maxRecDepth 100000 in
theorem mw_590 : (.code yX9_costsTo cX9_costsTo 9 (some (.array .int)) : Cond) ∈ lw_tbl := List.mem_of_getElem? (i := 1450) (by decide +kernel)
theorem il_c_costsTo : ∀ w ∈ us_c_costsTo, w ∈ lw_tbl := List.forall_mem_cons.mpr ⟨mw_590, (List.forall_mem_append.mpr ⟨(List.forall_mem_cons.mpr ⟨mw_484, (List.forall_mem_cons.mpr ⟨mw_85, (List.forall_mem_cons.mpr ⟨mw_589, (List.forall_mem_cons.mpr ⟨mw_588, (List.forall_mem_cons.mpr ⟨mw_57, (List.forall_mem_cons.mpr ⟨mw_56, (List.forall_mem_cons.mpr ⟨mw_587, (List.forall_mem_cons.mpr ⟨mw_586, (List.forall_mem_cons.mpr ⟨mw_585, (List.forall_mem_cons.mpr ⟨mw_481, (List.forall_mem_cons.mpr ⟨mw_584, (List.forall_mem_cons.mpr ⟨mw_583, (List.forall_mem_cons.mpr ⟨mw_582, (List.forall_mem_cons.mpr ⟨mw_581, (List.forall_mem_cons.mpr ⟨mw_580, (List.forall_mem_cons.mpr ⟨mw_579, (fun _ h => nomatch h)⟩)⟩)⟩)⟩)⟩)⟩)⟩)⟩)⟩)⟩)⟩)⟩)⟩)⟩)⟩)⟩), (List.forall_mem_append.mpr ⟨mb_11, (List.forall_mem_append.mpr ⟨il_c_fillI, (List.forall_mem_append.mpr ⟨il_c_beside, (List.forall_mem_append.mpr ⟨il_c_mcan, (List.forall_mem_append.mpr ⟨il_c_mstep, (fun _ h => nomatch h)⟩)⟩)⟩)⟩)⟩)⟩)⟩
set_option maxRecDepth 100000 in
theorem mw_591 : (.selects RX9 yX9_costsTo yX9_costsTo : Cond) ∈ lw_tbl := List.mem_of_getElem? (i := 52) (by decide +kernel)
set_option maxRecDepth 100000 in
theorem mw_592 : (.instanceMethod yX9_costsTo : Cond) ∈ lw_tbl := List.mem_of_getElem? (i := 1449) (by decide +kernel)
set_option maxRecDepth 100000 in
theorem mw_593 : (.methodLink RX9 128 yX9_costsTo : Cond) ∈ lw_tbl := List.mem_of_getElem? (i := 1447) (by decide +kernel)
set_option maxRecDepth 100000 in
theorem mw_594 : (.code yX9_costOf cX9_costOf 4 (some .int) : Cond) ∈ lw_tbl := List.mem_of_getElem? (i := 1446) (by decide +kernel)
theorem il_c_costOf : ∀ w ∈ us_c_costOf, w ∈ lw_tbl := List.forall_mem_cons.mpr ⟨mw_594, (List.forall_mem_append.mpr ⟨(List.forall_mem_cons.mpr ⟨mw_593, (List.forall_mem_cons.mpr ⟨mw_592, (List.forall_mem_cons.mpr ⟨mw_591, (List.forall_mem_cons.mpr ⟨mw_481, (fun _ h => nomatch h)⟩)⟩)⟩)⟩), (List.forall_mem_append.mpr ⟨il_c_costsTo, (fun _ h => nomatch h)⟩)⟩)⟩
set_option maxRecDepth 100000 in
theorem mw_595 : (.selects RX9 yX9_costOf yX9_costOf : Cond) ∈ lw_tbl := List.mem_of_getElem? (i := 51) (by decide +kernel)
set_option maxRecDepth 100000 in
theorem mw_596 : (.instanceMethod yX9_costOf : Cond) ∈ lw_tbl := List.mem_of_getElem? (i := 1445) (by decide +kernel)
set_option maxRecDepth 100000 in
theorem mw_597 : (.methodLink RX9 132 yX9_costOf : Cond) ∈ lw_tbl := List.mem_of_getElem? (i := 1443) (by decide +kernel)
set_option maxRecDepth 100000 in
theorem mw_598 : (.code yX9_cost cX9_cost 5 (some .int) : Cond) ∈ lw_tbl := List.mem_of_getElem? (i := 1442) (by decide +kernel)
theorem il_c_mcost : ∀ w ∈ us_c_mcost, w ∈ lw_tbl := List.forall_mem_cons.mpr ⟨mw_598, (List.forall_mem_append.mpr ⟨(List.forall_mem_cons.mpr ⟨mw_560, (List.forall_mem_cons.mpr ⟨mw_559, (List.forall_mem_cons.mpr ⟨mw_558, (List.forall_mem_cons.mpr ⟨mw_481, (List.forall_mem_cons.mpr ⟨mw_506, (List.forall_mem_cons.mpr ⟨mw_505, (List.forall_mem_cons.mpr ⟨mw_504, (List.forall_mem_cons.mpr ⟨mw_597, (List.forall_mem_cons.mpr ⟨mw_596, (List.forall_mem_cons.mpr ⟨mw_595, (List.forall_mem_cons.mpr ⟨mw_589, (List.forall_mem_cons.mpr ⟨mw_553, (List.forall_mem_cons.mpr ⟨mw_552, (List.forall_mem_cons.mpr ⟨mw_551, (fun _ h => nomatch h)⟩)⟩)⟩)⟩)⟩)⟩)⟩)⟩)⟩)⟩)⟩)⟩)⟩)⟩), (List.forall_mem_append.mpr ⟨il_c_isCell, (List.forall_mem_append.mpr ⟨il_c_fails, (List.forall_mem_append.mpr ⟨il_c_costOf, (List.forall_mem_append.mpr ⟨il_c_tells, (fun _ h => nomatch h)⟩)⟩)⟩)⟩)⟩)⟩
set_option maxRecDepth 100000 in
theorem mw_599 : (.code yX9_misled cX9_misled 10 (some .int) : Cond) ∈ lw_tbl := List.mem_of_getElem? (i := 1474) (by decide +kernel)
theorem il_c_mmisled : ∀ w ∈ us_c_mmisled, w ∈ lw_tbl := List.forall_mem_cons.mpr ⟨mw_599, (List.forall_mem_append.mpr ⟨(List.forall_mem_cons.mpr ⟨mw_560, (List.forall_mem_cons.mpr ⟨mw_559, (List.forall_mem_cons.mpr ⟨mw_558, (List.forall_mem_cons.mpr ⟨mw_481, (List.forall_mem_cons.mpr ⟨mw_506, (List.forall_mem_cons.mpr ⟨mw_505, (List.forall_mem_cons.mpr ⟨mw_504, (List.forall_mem_cons.mpr ⟨mw_593, (List.forall_mem_cons.mpr ⟨mw_592, (List.forall_mem_cons.mpr ⟨mw_591, (List.forall_mem_cons.mpr ⟨mw_589, (List.forall_mem_cons.mpr ⟨mw_553, (List.forall_mem_cons.mpr ⟨mw_552, (List.forall_mem_cons.mpr ⟨mw_551, (List.forall_mem_cons.mpr ⟨mw_554, (List.forall_mem_cons.mpr ⟨mw_581, (List.forall_mem_cons.mpr ⟨mw_580, (List.forall_mem_cons.mpr ⟨mw_579, (List.forall_mem_cons.mpr ⟨mw_587, (List.forall_mem_cons.mpr ⟨mw_586, (List.forall_mem_cons.mpr ⟨mw_585, (List.forall_mem_cons.mpr ⟨mw_584, (List.forall_mem_cons.mpr ⟨mw_583, (List.forall_mem_cons.mpr ⟨mw_582, (fun _ h => nomatch h)⟩)⟩)⟩)⟩)⟩)⟩)⟩)⟩)⟩)⟩)⟩)⟩)⟩)⟩)⟩)⟩)⟩)⟩)⟩)⟩)⟩)⟩)⟩)⟩), (List.forall_mem_append.mpr ⟨il_c_isCell, (List.forall_mem_append.mpr ⟨il_c_fails, (List.forall_mem_append.mpr ⟨il_c_costsTo, (List.forall_mem_append.mpr ⟨il_c_tells, (List.forall_mem_append.mpr ⟨mb_11, (List.forall_mem_append.mpr ⟨il_c_mstep, (List.forall_mem_append.mpr ⟨il_c_beside, (List.forall_mem_append.mpr ⟨il_c_mcan, (fun _ h => nomatch h)⟩)⟩)⟩)⟩)⟩)⟩)⟩)⟩)⟩)⟩
set_option maxRecDepth 100000 in
theorem mw_600 : (.fieldLink RX9 49 "ControlWoodModel" "relay" "I" : Cond) ∈ lw_tbl := List.mem_of_getElem? (i := 1357) (by decide +kernel)
set_option maxRecDepth 100000 in
theorem mw_601 : (.selects RJx4a65c yJx4a65c_clear_da8c8 yJx4a65c_clear_da8c8 : Cond) ∈ lw_tbl := List.mem_of_getElem? (i := 1344) (by decide +kernel)
set_option maxRecDepth 100000 in
theorem mw_602 : (.instanceMethod yJx4a65c_clear_da8c8 : Cond) ∈ lw_tbl := List.mem_of_getElem? (i := 1343) (by decide +kernel)
set_option maxRecDepth 100000 in
theorem mw_603 : (.methodLink RX9 65 yJx4a65c_clear_da8c8 : Cond) ∈ lw_tbl := List.mem_of_getElem? (i := 1342) (by decide +kernel)
set_option maxRecDepth 100000 in
theorem mw_604 : (.static yJ7_fill_18040 : Cond) ∈ lw_tbl := List.mem_of_getElem? (i := 1340) (by decide +kernel)
set_option maxRecDepth 100000 in
theorem mw_605 : (.methodLink RX9 59 yJ7_fill_18040 : Cond) ∈ lw_tbl := List.mem_of_getElem? (i := 1339) (by decide +kernel)
set_option maxRecDepth 100000 in
theorem mw_606 : (.fieldLink RX9 13 "ControlWoodModel" "rows" "I" : Cond) ∈ lw_tbl := List.mem_of_getElem? (i := 1347) (by decide +kernel)
set_option maxRecDepth 100000 in
theorem mw_607 : (.code yX9_begins cX9_begins 4 none : Cond) ∈ lw_tbl := List.mem_of_getElem? (i := 1338) (by decide +kernel)
theorem il_c_begins : ∀ w ∈ us_c_begins, w ∈ lw_tbl := List.forall_mem_cons.mpr ⟨mw_607, (List.forall_mem_append.mpr ⟨(List.forall_mem_cons.mpr ⟨mw_573, (List.forall_mem_cons.mpr ⟨mw_606, (List.forall_mem_cons.mpr ⟨mw_85, (List.forall_mem_cons.mpr ⟨mw_484, (List.forall_mem_cons.mpr ⟨mw_555, (List.forall_mem_cons.mpr ⟨mw_568, (List.forall_mem_cons.mpr ⟨mw_84, (List.forall_mem_cons.mpr ⟨mw_554, (List.forall_mem_cons.mpr ⟨mw_566, (List.forall_mem_cons.mpr ⟨mw_605, (List.forall_mem_cons.mpr ⟨mw_604, (List.forall_mem_cons.mpr ⟨mw_56, (List.forall_mem_cons.mpr ⟨mw_490, (List.forall_mem_cons.mpr ⟨mw_603, (List.forall_mem_cons.mpr ⟨mw_602, (List.forall_mem_cons.mpr ⟨mw_601, (List.forall_mem_cons.mpr ⟨mw_486, (List.forall_mem_cons.mpr ⟨mw_492, (List.forall_mem_cons.mpr ⟨mw_494, (List.forall_mem_cons.mpr ⟨mw_536, (List.forall_mem_cons.mpr ⟨mw_600, (fun _ h => nomatch h)⟩)⟩)⟩)⟩)⟩)⟩)⟩)⟩)⟩)⟩)⟩)⟩)⟩)⟩)⟩)⟩)⟩)⟩)⟩)⟩)⟩), (List.forall_mem_append.mpr ⟨mb_11, (List.forall_mem_append.mpr ⟨il_c_fillC, (List.forall_mem_append.mpr ⟨il_c_alClear, (fun _ h => nomatch h)⟩)⟩)⟩)⟩)⟩
set_option maxRecDepth 100000 in
theorem mw_608 : (.selects RX9 yX9_begins yX9_begins : Cond) ∈ lw_tbl := List.mem_of_getElem? (i := 47) (by decide +kernel)
set_option maxRecDepth 100000 in
theorem mw_609 : (.instanceMethod yX9_begins : Cond) ∈ lw_tbl := List.mem_of_getElem? (i := 1337) (by decide +kernel)
set_option maxRecDepth 100000 in
theorem mw_610 : (.methodLink RX9 55 yX9_begins : Cond) ∈ lw_tbl := List.mem_of_getElem? (i := 1335) (by decide +kernel)
set_option maxRecDepth 100000 in
theorem mw_611 : (.instanceMethod yJx4a65c_init_da8c8 : Cond) ∈ lw_tbl := List.mem_of_getElem? (i := 1309) (by decide +kernel)
set_option maxRecDepth 100000 in
theorem mw_612 : (.methodLink RX9 38 yJx4a65c_init_da8c8 : Cond) ∈ lw_tbl := List.mem_of_getElem? (i := 1308) (by decide +kernel)
set_option maxRecDepth 100000 in
theorem mw_613 : (.instantiable RJx4a65c 3 : Cond) ∈ lw_tbl := List.mem_of_getElem? (i := 1307) (by decide +kernel)
set_option maxRecDepth 100000 in
theorem mw_614 : (.classLink RX9 36 RJx4a65c : Cond) ∈ lw_tbl := List.mem_of_getElem? (i := 1306) (by decide +kernel)
set_option maxRecDepth 100000 in
theorem mw_615 : (.methodLink RX9 1 objectInit : Cond) ∈ lw_tbl := List.mem_of_getElem? (i := 1305) (by decide +kernel)
set_option maxRecDepth 100000 in
theorem mw_616 : (.code yX9_init cX9_init 1 none : Cond) ∈ lw_tbl := List.mem_of_getElem? (i := 1304) (by decide +kernel)
theorem il_c_X9_init : ∀ w ∈ us_c_X9_init, w ∈ lw_tbl := List.forall_mem_cons.mpr ⟨mw_616, (List.forall_mem_append.mpr ⟨(List.forall_mem_cons.mpr ⟨mw_615, (List.forall_mem_cons.mpr ⟨mw_87, (List.forall_mem_cons.mpr ⟨mw_86, (List.forall_mem_cons.mpr ⟨mw_573, (List.forall_mem_cons.mpr ⟨mw_606, (List.forall_mem_cons.mpr ⟨mw_476, (List.forall_mem_cons.mpr ⟨mw_85, (List.forall_mem_cons.mpr ⟨mw_484, (List.forall_mem_cons.mpr ⟨mw_555, (List.forall_mem_cons.mpr ⟨mw_568, (List.forall_mem_cons.mpr ⟨mw_84, (List.forall_mem_cons.mpr ⟨mw_554, (List.forall_mem_cons.mpr ⟨mw_566, (List.forall_mem_cons.mpr ⟨mw_614, (List.forall_mem_cons.mpr ⟨mw_613, (List.forall_mem_cons.mpr ⟨mw_486, (List.forall_mem_cons.mpr ⟨mw_612, (List.forall_mem_cons.mpr ⟨mw_611, (List.forall_mem_cons.mpr ⟨mw_490, (List.forall_mem_cons.mpr ⟨mw_492, (List.forall_mem_cons.mpr ⟨mw_494, (List.forall_mem_cons.mpr ⟨mw_600, (List.forall_mem_cons.mpr ⟨mw_536, (List.forall_mem_cons.mpr ⟨mw_610, (List.forall_mem_cons.mpr ⟨mw_609, (List.forall_mem_cons.mpr ⟨mw_608, (List.forall_mem_cons.mpr ⟨mw_481, (fun _ h => nomatch h)⟩)⟩)⟩)⟩)⟩)⟩)⟩)⟩)⟩)⟩)⟩)⟩)⟩)⟩)⟩)⟩)⟩)⟩)⟩)⟩)⟩)⟩)⟩)⟩)⟩)⟩)⟩), (List.forall_mem_append.mpr ⟨mb_11, (List.forall_mem_append.mpr ⟨mb_9, (List.forall_mem_append.mpr ⟨il_c_alInit, (List.forall_mem_append.mpr ⟨il_c_begins, (fun _ h => nomatch h)⟩)⟩)⟩)⟩)⟩)⟩
set_option maxRecDepth 100000 in
theorem mw_617 : (.constantLong RX9 70 (12) : Cond) ∈ lw_tbl := List.mem_of_getElem? (i := 1395) (by decide +kernel)
set_option maxRecDepth 100000 in
theorem mw_618 : (.constantLong RX9 68 (3) : Cond) ∈ lw_tbl := List.mem_of_getElem? (i := 1394) (by decide +kernel)
set_option maxRecDepth 100000 in
theorem mw_619 : (.code yX9_land cX9_land 3 (some .int) : Cond) ∈ lw_tbl := List.mem_of_getElem? (i := 1393) (by decide +kernel)
theorem il_c_mland : ∀ w ∈ us_c_mland, w ∈ lw_tbl := List.forall_mem_cons.mpr ⟨mw_619, (List.forall_mem_append.mpr ⟨(List.forall_mem_cons.mpr ⟨mw_618, (List.forall_mem_cons.mpr ⟨mw_617, (List.forall_mem_cons.mpr ⟨mw_483, (List.forall_mem_cons.mpr ⟨mw_482, (List.forall_mem_cons.mpr ⟨mw_481, (List.forall_mem_cons.mpr ⟨mw_506, (List.forall_mem_cons.mpr ⟨mw_505, (List.forall_mem_cons.mpr ⟨mw_504, (List.forall_mem_cons.mpr ⟨mw_610, (List.forall_mem_cons.mpr ⟨mw_609, (List.forall_mem_cons.mpr ⟨mw_608, (List.forall_mem_cons.mpr ⟨mw_553, (List.forall_mem_cons.mpr ⟨mw_552, (List.forall_mem_cons.mpr ⟨mw_551, (fun _ h => nomatch h)⟩)⟩)⟩)⟩)⟩)⟩)⟩)⟩)⟩)⟩)⟩)⟩)⟩)⟩), (List.forall_mem_append.mpr ⟨il_c_in, (List.forall_mem_append.mpr ⟨il_c_fails, (List.forall_mem_append.mpr ⟨il_c_begins, (List.forall_mem_append.mpr ⟨il_c_tells, (fun _ h => nomatch h)⟩)⟩)⟩)⟩)⟩)⟩
set_option maxRecDepth 100000 in
theorem mw_620 : (.code yX9_show cX9_show 5 (some .int) : Cond) ∈ lw_tbl := List.mem_of_getElem? (i := 1438) (by decide +kernel)
theorem il_c_mshow : ∀ w ∈ us_c_mshow, w ∈ lw_tbl := List.forall_mem_cons.mpr ⟨mw_620, (List.forall_mem_append.mpr ⟨(List.forall_mem_cons.mpr ⟨mw_560, (List.forall_mem_cons.mpr ⟨mw_559, (List.forall_mem_cons.mpr ⟨mw_558, (List.forall_mem_cons.mpr ⟨mw_481, (List.forall_mem_cons.mpr ⟨mw_549, (List.forall_mem_cons.mpr ⟨mw_483, (List.forall_mem_cons.mpr ⟨mw_482, (List.forall_mem_cons.mpr ⟨mw_506, (List.forall_mem_cons.mpr ⟨mw_505, (List.forall_mem_cons.mpr ⟨mw_504, (List.forall_mem_cons.mpr ⟨mw_557, (List.forall_mem_cons.mpr ⟨mw_556, (List.forall_mem_cons.mpr ⟨mw_568, (List.forall_mem_cons.mpr ⟨mw_566, (List.forall_mem_cons.mpr ⟨mw_553, (List.forall_mem_cons.mpr ⟨mw_552, (List.forall_mem_cons.mpr ⟨mw_551, (fun _ h => nomatch h)⟩)⟩)⟩)⟩)⟩)⟩)⟩)⟩)⟩)⟩)⟩)⟩)⟩)⟩)⟩)⟩)⟩), (List.forall_mem_append.mpr ⟨il_c_isCell, (List.forall_mem_append.mpr ⟨il_c_in, (List.forall_mem_append.mpr ⟨il_c_fails, (List.forall_mem_append.mpr ⟨il_c_isKind, (List.forall_mem_append.mpr ⟨mb_11, (List.forall_mem_append.mpr ⟨il_c_tells, (fun _ h => nomatch h)⟩)⟩)⟩)⟩)⟩)⟩)⟩)⟩
set_option maxRecDepth 100000 in
theorem mw_621 : (.code Lib.Math.min.name Lib.Math.min.code 2 (some .int) : Cond) ∈ lw_tbl := List.mem_of_getElem? (i := 964) (by decide +kernel)
set_option maxRecDepth 100000 in
theorem mw_622 : (.static Lib.Math.min.name : Cond) ∈ lw_tbl := List.mem_of_getElem? (i := 963) (by decide +kernel)
set_option maxRecDepth 100000 in
theorem mw_623 : (.methodLink RX9 317 Lib.Math.min.name : Cond) ∈ lw_tbl := List.mem_of_getElem? (i := 2477) (by decide +kernel)
set_option maxRecDepth 100000 in
theorem mw_624 : (.constantLong RX9 268 (-1) : Cond) ∈ lw_tbl := List.mem_of_getElem? (i := 1852) (by decide +kernel)
set_option maxRecDepth 100000 in
theorem mw_625 : (.constantLong RX9 237 (99999) : Cond) ∈ lw_tbl := List.mem_of_getElem? (i := 1796) (by decide +kernel)
set_option maxRecDepth 100000 in
theorem mw_626 : (.constantLong RX9 341 (2) : Cond) ∈ lw_tbl := List.mem_of_getElem? (i := 2573) (by decide +kernel)
set_option maxRecDepth 100000 in
theorem mw_627 : (.code yX9_changeover cX9_changeover 7 (some .int) : Cond) ∈ lw_tbl := List.mem_of_getElem? (i := 2572) (by decide +kernel)
theorem il_c_mchangeover : ∀ w ∈ us_c_mchangeover, w ∈ lw_tbl := List.forall_mem_cons.mpr ⟨mw_627, (List.forall_mem_append.mpr ⟨(List.forall_mem_cons.mpr ⟨mw_626, (List.forall_mem_cons.mpr ⟨mw_483, (List.forall_mem_cons.mpr ⟨mw_482, (List.forall_mem_cons.mpr ⟨mw_481, (List.forall_mem_cons.mpr ⟨mw_506, (List.forall_mem_cons.mpr ⟨mw_505, (List.forall_mem_cons.mpr ⟨mw_504, (List.forall_mem_cons.mpr ⟨mw_625, (List.forall_mem_cons.mpr ⟨mw_624, (List.forall_mem_cons.mpr ⟨mw_553, (List.forall_mem_cons.mpr ⟨mw_552, (List.forall_mem_cons.mpr ⟨mw_551, (List.forall_mem_cons.mpr ⟨mw_623, (List.forall_mem_cons.mpr ⟨mw_622, (List.forall_mem_cons.mpr ⟨mw_24, (List.forall_mem_cons.mpr ⟨mw_621, (fun _ h => nomatch h)⟩)⟩)⟩)⟩)⟩)⟩)⟩)⟩)⟩)⟩)⟩)⟩)⟩)⟩)⟩)⟩), (List.forall_mem_append.mpr ⟨il_c_in, (List.forall_mem_append.mpr ⟨il_c_fails, (List.forall_mem_append.mpr ⟨il_c_tells, (fun _ h => nomatch h)⟩)⟩)⟩)⟩)⟩
set_option maxRecDepth 100000 in
theorem mw_628 : (.classLink RJx4a65c 7 "java/lang/Object" : Cond) ∈ lw_tbl := List.mem_of_getElem? (i := 1550) (by decide +kernel)
set_option maxRecDepth 100000 in
theorem mw_629 : (.methodLink RJx4a65c 79 Lib.Math.max.name : Cond) ∈ lw_tbl := List.mem_of_getElem? (i := 1549) (by decide +kernel)
set_option maxRecDepth 100000 in
theorem mw_630 : (.code yJx4a65c_grow_92f84 cJx4a65c_grow_92f84 4 (some (.array (.object "java/lang/Object"))) : Cond) ∈ lw_tbl := List.mem_of_getElem? (i := 1499) (by decide +kernel)
theorem il_c_alGrow : ∀ w ∈ us_c_alGrow, w ∈ lw_tbl := List.forall_mem_cons.mpr ⟨mw_630, (List.forall_mem_append.mpr ⟨(List.forall_mem_cons.mpr ⟨mw_448, (List.forall_mem_cons.mpr ⟨mw_449, (List.forall_mem_cons.mpr ⟨mw_629, (List.forall_mem_cons.mpr ⟨mw_25, (List.forall_mem_cons.mpr ⟨mw_24, (List.forall_mem_cons.mpr ⟨mw_23, (List.forall_mem_cons.mpr ⟨mw_628, (fun _ h => nomatch h)⟩)⟩)⟩)⟩)⟩)⟩)⟩), (List.forall_mem_append.mpr ⟨mb_9, (fun _ h => nomatch h)⟩)⟩)⟩
set_option maxRecDepth 100000 in
theorem mw_631 : (.selects RJx4a65c yJx4a65c_grow_92f84 yJx4a65c_grow_92f84 : Cond) ∈ lw_tbl := List.mem_of_getElem? (i := 59) (by decide +kernel)
set_option maxRecDepth 100000 in
theorem mw_632 : (.instanceMethod yJx4a65c_grow_92f84 : Cond) ∈ lw_tbl := List.mem_of_getElem? (i := 1498) (by decide +kernel)
set_option maxRecDepth 100000 in
theorem mw_633 : (.methodLink RJx4a65c 69 yJx4a65c_grow_92f84 : Cond) ∈ lw_tbl := List.mem_of_getElem? (i := 1496) (by decide +kernel)
set_option maxRecDepth 100000 in
theorem mw_634 : (.code yJx4a65c_grow_d5877 cJx4a65c_grow_d5877 1 (some (.array (.object "java/lang/Object"))) : Cond) ∈ lw_tbl := List.mem_of_getElem? (i := 1495) (by decide +kernel)
theorem il_c_alGrow0 : ∀ w ∈ us_c_alGrow0, w ∈ lw_tbl := List.forall_mem_cons.mpr ⟨mw_634, (List.forall_mem_append.mpr ⟨(List.forall_mem_cons.mpr ⟨mw_454, (List.forall_mem_cons.mpr ⟨mw_633, (List.forall_mem_cons.mpr ⟨mw_632, (List.forall_mem_cons.mpr ⟨mw_631, (List.forall_mem_cons.mpr ⟨mw_486, (fun _ h => nomatch h)⟩)⟩)⟩)⟩)⟩), (List.forall_mem_append.mpr ⟨mb_9, (List.forall_mem_append.mpr ⟨il_c_alGrow, (fun _ h => nomatch h)⟩)⟩)⟩)⟩
set_option maxRecDepth 100000 in
theorem mw_635 : (.selects RJx4a65c yJx4a65c_grow_d5877 yJx4a65c_grow_d5877 : Cond) ∈ lw_tbl := List.mem_of_getElem? (i := 58) (by decide +kernel)
set_option maxRecDepth 100000 in
theorem mw_636 : (.instanceMethod yJx4a65c_grow_d5877 : Cond) ∈ lw_tbl := List.mem_of_getElem? (i := 1494) (by decide +kernel)
set_option maxRecDepth 100000 in
theorem mw_637 : (.methodLink RJx4a65c 129 yJx4a65c_grow_d5877 : Cond) ∈ lw_tbl := List.mem_of_getElem? (i := 1492) (by decide +kernel)
set_option maxRecDepth 100000 in
theorem mw_638 : (.code yJx4a65c_add_72be8 cJx4a65c_add_72be8 4 none : Cond) ∈ lw_tbl := List.mem_of_getElem? (i := 1491) (by decide +kernel)
theorem il_c_alAdd3C : ∀ w ∈ us_c_alAdd3C, w ∈ lw_tbl := List.forall_mem_cons.mpr ⟨mw_638, (List.forall_mem_append.mpr ⟨(List.forall_mem_cons.mpr ⟨mw_637, (List.forall_mem_cons.mpr ⟨mw_636, (List.forall_mem_cons.mpr ⟨mw_635, (List.forall_mem_cons.mpr ⟨mw_486, (List.forall_mem_cons.mpr ⟨mw_454, (fun _ h => nomatch h)⟩)⟩)⟩)⟩)⟩), (List.forall_mem_append.mpr ⟨il_c_alGrow0, (List.forall_mem_append.mpr ⟨mb_9, (fun _ h => nomatch h)⟩)⟩)⟩)⟩
set_option maxRecDepth 100000 in
theorem mw_639 : (.selects RJx4a65c yJx4a65c_add_72be8 yJx4a65c_add_72be8 : Cond) ∈ lw_tbl := List.mem_of_getElem? (i := 57) (by decide +kernel)
set_option maxRecDepth 100000 in
theorem mw_640 : (.instanceMethod yJx4a65c_add_72be8 : Cond) ∈ lw_tbl := List.mem_of_getElem? (i := 1490) (by decide +kernel)
set_option maxRecDepth 100000 in
theorem mw_641 : (.methodLink RJx4a65c 131 yJx4a65c_add_72be8 : Cond) ∈ lw_tbl := List.mem_of_getElem? (i := 1488) (by decide +kernel)
set_option maxRecDepth 100000 in
theorem mw_642 : (.code yJx4a65c_add_9ea2d cJx4a65c_add_9ea2d 2 (some .boolean) : Cond) ∈ lw_tbl := List.mem_of_getElem? (i := 1487) (by decide +kernel)
theorem il_c_alAddC : ∀ w ∈ us_c_alAddC, w ∈ lw_tbl := List.forall_mem_cons.mpr ⟨mw_642, (List.forall_mem_append.mpr ⟨(List.forall_mem_cons.mpr ⟨mw_456, (List.forall_mem_cons.mpr ⟨mw_455, (List.forall_mem_cons.mpr ⟨mw_448, (List.forall_mem_cons.mpr ⟨mw_454, (List.forall_mem_cons.mpr ⟨mw_641, (List.forall_mem_cons.mpr ⟨mw_640, (List.forall_mem_cons.mpr ⟨mw_639, (List.forall_mem_cons.mpr ⟨mw_486, (fun _ h => nomatch h)⟩)⟩)⟩)⟩)⟩)⟩)⟩)⟩), (List.forall_mem_append.mpr ⟨mb_9, (List.forall_mem_append.mpr ⟨il_c_alAdd3C, (fun _ h => nomatch h)⟩)⟩)⟩)⟩
theorem il_c_alAdd3I : ∀ w ∈ us_c_alAdd3I, w ∈ lw_tbl := List.forall_mem_cons.mpr ⟨mw_638, (List.forall_mem_append.mpr ⟨(List.forall_mem_cons.mpr ⟨mw_637, (List.forall_mem_cons.mpr ⟨mw_636, (List.forall_mem_cons.mpr ⟨mw_635, (List.forall_mem_cons.mpr ⟨mw_486, (List.forall_mem_cons.mpr ⟨mw_454, (fun _ h => nomatch h)⟩)⟩)⟩)⟩)⟩), (List.forall_mem_append.mpr ⟨il_c_alGrow0, (List.forall_mem_append.mpr ⟨mb_9, (fun _ h => nomatch h)⟩)⟩)⟩)⟩
theorem il_c_alAddI : ∀ w ∈ us_c_alAddI, w ∈ lw_tbl := List.forall_mem_cons.mpr ⟨mw_642, (List.forall_mem_append.mpr ⟨(List.forall_mem_cons.mpr ⟨mw_456, (List.forall_mem_cons.mpr ⟨mw_455, (List.forall_mem_cons.mpr ⟨mw_448, (List.forall_mem_cons.mpr ⟨mw_454, (List.forall_mem_cons.mpr ⟨mw_641, (List.forall_mem_cons.mpr ⟨mw_640, (List.forall_mem_cons.mpr ⟨mw_639, (List.forall_mem_cons.mpr ⟨mw_486, (fun _ h => nomatch h)⟩)⟩)⟩)⟩)⟩)⟩)⟩)⟩), (List.forall_mem_append.mpr ⟨mb_9, (List.forall_mem_append.mpr ⟨il_c_alAdd3I, (fun _ h => nomatch h)⟩)⟩)⟩)⟩
set_option maxRecDepth 100000 in
theorem mb_12 : ∀ w ∈ wsX70, w ∈ lw_tbl := by decide +kernel
set_option maxRecDepth 100000 in
theorem mw_643 : (.methodLink RX7 30 yJ7_fill_53178 : Cond) ∈ lw_tbl := List.mem_of_getElem? (i := 1589) (by decide +kernel)
set_option maxRecDepth 100000 in
theorem mw_644 : (.fieldLink RX7 26 "ControlWoodModel$Course" "start" "I" : Cond) ∈ lw_tbl := List.mem_of_getElem? (i := 1590) (by decide +kernel)
set_option maxRecDepth 100000 in
theorem mw_645 : (.fieldLink RX7 22 "ControlWoodModel$Course" "isVoid" "[Z" : Cond) ∈ lw_tbl := List.mem_of_getElem? (i := 1596) (by decide +kernel)
set_option maxRecDepth 100000 in
theorem mw_646 : (.fieldLink RX7 18 "ControlWoodModel$Course" "forks" "[I" : Cond) ∈ lw_tbl := List.mem_of_getElem? (i := 1594) (by decide +kernel)
set_option maxRecDepth 100000 in
theorem mw_647 : (.fieldLink RX7 12 "ControlWoodModel$Course" "order" "Ljava/util/ArrayList;" : Cond) ∈ lw_tbl := List.mem_of_getElem? (i := 1592) (by decide +kernel)
set_option maxRecDepth 100000 in
theorem mw_648 : (.methodLink RX7 11 yJx4a65c_init_da8c8 : Cond) ∈ lw_tbl := List.mem_of_getElem? (i := 1588) (by decide +kernel)
set_option maxRecDepth 100000 in
theorem mw_649 : (.classLink RX7 9 RJx4a65c : Cond) ∈ lw_tbl := List.mem_of_getElem? (i := 1587) (by decide +kernel)
set_option maxRecDepth 100000 in
theorem mw_650 : (.methodLink RX7 3 objectInit : Cond) ∈ lw_tbl := List.mem_of_getElem? (i := 1586) (by decide +kernel)
set_option maxRecDepth 100000 in
theorem mw_651 : (.code yX7_init cX7_init 2 none : Cond) ∈ lw_tbl := List.mem_of_getElem? (i := 1585) (by decide +kernel)
theorem il_c_X7_init : ∀ w ∈ us_c_X7_init, w ∈ lw_tbl := List.forall_mem_cons.mpr ⟨mw_651, (List.forall_mem_append.mpr ⟨(List.forall_mem_cons.mpr ⟨mw_650, (List.forall_mem_cons.mpr ⟨mw_87, (List.forall_mem_cons.mpr ⟨mw_86, (List.forall_mem_cons.mpr ⟨mw_649, (List.forall_mem_cons.mpr ⟨mw_613, (List.forall_mem_cons.mpr ⟨mw_486, (List.forall_mem_cons.mpr ⟨mw_648, (List.forall_mem_cons.mpr ⟨mw_611, (List.forall_mem_cons.mpr ⟨mw_647, (List.forall_mem_cons.mpr ⟨mw_85, (List.forall_mem_cons.mpr ⟨mw_646, (List.forall_mem_cons.mpr ⟨mw_83, (List.forall_mem_cons.mpr ⟨mw_645, (List.forall_mem_cons.mpr ⟨mw_644, (List.forall_mem_cons.mpr ⟨mw_643, (List.forall_mem_cons.mpr ⟨mw_57, (List.forall_mem_cons.mpr ⟨mw_56, (fun _ h => nomatch h)⟩)⟩)⟩)⟩)⟩)⟩)⟩)⟩)⟩)⟩)⟩)⟩)⟩)⟩)⟩)⟩)⟩), (List.forall_mem_append.mpr ⟨mb_9, (List.forall_mem_append.mpr ⟨il_c_alInit, (List.forall_mem_append.mpr ⟨mb_12, (List.forall_mem_append.mpr ⟨il_c_fillI, (fun _ h => nomatch h)⟩)⟩)⟩)⟩)⟩)⟩
set_option maxRecDepth 100000 in
theorem mw_652 : (.selects RJx4a65c yJx4a65c_add_9ea2d yJx4a65c_add_9ea2d : Cond) ∈ lw_tbl := List.mem_of_getElem? (i := 1486) (by decide +kernel)
set_option maxRecDepth 100000 in
theorem mw_653 : (.instanceMethod yJx4a65c_add_9ea2d : Cond) ∈ lw_tbl := List.mem_of_getElem? (i := 1485) (by decide +kernel)
set_option maxRecDepth 100000 in
theorem mw_654 : (.methodLink RX9 141 yJx4a65c_add_9ea2d : Cond) ∈ lw_tbl := List.mem_of_getElem? (i := 1484) (by decide +kernel)
set_option maxRecDepth 100000 in
theorem mw_655 : (.instanceMethod yX7_init : Cond) ∈ lw_tbl := List.mem_of_getElem? (i := 1584) (by decide +kernel)
set_option maxRecDepth 100000 in
theorem mw_656 : (.methodLink RX9 157 yX7_init : Cond) ∈ lw_tbl := List.mem_of_getElem? (i := 1583) (by decide +kernel)
set_option maxRecDepth 100000 in
theorem mw_657 : (.initialized RX7 : Cond) ∈ lw_tbl := List.mem_of_getElem? (i := 114) (by decide +kernel)
set_option maxRecDepth 100000 in
theorem mw_658 : (.instantiable RX7 4 : Cond) ∈ lw_tbl := List.mem_of_getElem? (i := 1582) (by decide +kernel)
set_option maxRecDepth 100000 in
theorem mw_659 : (.classLink RX9 155 RX7 : Cond) ∈ lw_tbl := List.mem_of_getElem? (i := 1581) (by decide +kernel)
set_option maxRecDepth 100000 in
theorem mw_660 : (.code yX9_course cX9_course 2 (some .int) : Cond) ∈ lw_tbl := List.mem_of_getElem? (i := 1580) (by decide +kernel)
theorem il_c_mcourse : ∀ w ∈ us_c_mcourse, w ∈ lw_tbl := List.forall_mem_cons.mpr ⟨mw_660, (List.forall_mem_append.mpr ⟨(List.forall_mem_cons.mpr ⟨mw_560, (List.forall_mem_cons.mpr ⟨mw_559, (List.forall_mem_cons.mpr ⟨mw_558, (List.forall_mem_cons.mpr ⟨mw_481, (List.forall_mem_cons.mpr ⟨mw_492, (List.forall_mem_cons.mpr ⟨mw_489, (List.forall_mem_cons.mpr ⟨mw_488, (List.forall_mem_cons.mpr ⟨mw_487, (List.forall_mem_cons.mpr ⟨mw_486, (List.forall_mem_cons.mpr ⟨mw_659, (List.forall_mem_cons.mpr ⟨mw_658, (List.forall_mem_cons.mpr ⟨mw_657, (List.forall_mem_cons.mpr ⟨mw_656, (List.forall_mem_cons.mpr ⟨mw_655, (List.forall_mem_cons.mpr ⟨mw_654, (List.forall_mem_cons.mpr ⟨mw_653, (List.forall_mem_cons.mpr ⟨mw_652, (List.forall_mem_cons.mpr ⟨mw_553, (List.forall_mem_cons.mpr ⟨mw_552, (List.forall_mem_cons.mpr ⟨mw_551, (List.forall_mem_cons.mpr ⟨mw_506, (List.forall_mem_cons.mpr ⟨mw_505, (List.forall_mem_cons.mpr ⟨mw_504, (fun _ h => nomatch h)⟩)⟩)⟩)⟩)⟩)⟩)⟩)⟩)⟩)⟩)⟩)⟩)⟩)⟩)⟩)⟩)⟩)⟩)⟩)⟩)⟩)⟩)⟩), (List.forall_mem_append.mpr ⟨il_c_isCell, (List.forall_mem_append.mpr ⟨mb_11, (List.forall_mem_append.mpr ⟨il_c_alSize, (List.forall_mem_append.mpr ⟨mb_12, (List.forall_mem_append.mpr ⟨il_c_X7_init, (List.forall_mem_append.mpr ⟨il_c_alAddC, (List.forall_mem_append.mpr ⟨il_c_tells, (List.forall_mem_append.mpr ⟨il_c_fails, (fun _ h => nomatch h)⟩)⟩)⟩)⟩)⟩)⟩)⟩)⟩)⟩)⟩
set_option maxRecDepth 100000 in
theorem mw_661 : (.code yX9_control cX9_control 4 (some .int) : Cond) ∈ lw_tbl := List.mem_of_getElem? (i := 1478) (by decide +kernel)
theorem il_c_mcontrol : ∀ w ∈ us_c_mcontrol, w ∈ lw_tbl := List.forall_mem_cons.mpr ⟨mw_661, (List.forall_mem_append.mpr ⟨(List.forall_mem_cons.mpr ⟨mw_560, (List.forall_mem_cons.mpr ⟨mw_559, (List.forall_mem_cons.mpr ⟨mw_558, (List.forall_mem_cons.mpr ⟨mw_481, (List.forall_mem_cons.mpr ⟨mw_618, (List.forall_mem_cons.mpr ⟨mw_483, (List.forall_mem_cons.mpr ⟨mw_482, (List.forall_mem_cons.mpr ⟨mw_506, (List.forall_mem_cons.mpr ⟨mw_505, (List.forall_mem_cons.mpr ⟨mw_504, (List.forall_mem_cons.mpr ⟨mw_563, (List.forall_mem_cons.mpr ⟨mw_554, (List.forall_mem_cons.mpr ⟨mw_490, (List.forall_mem_cons.mpr ⟨mw_489, (List.forall_mem_cons.mpr ⟨mw_488, (List.forall_mem_cons.mpr ⟨mw_487, (List.forall_mem_cons.mpr ⟨mw_486, (List.forall_mem_cons.mpr ⟨mw_85, (List.forall_mem_cons.mpr ⟨mw_654, (List.forall_mem_cons.mpr ⟨mw_653, (List.forall_mem_cons.mpr ⟨mw_652, (List.forall_mem_cons.mpr ⟨mw_553, (List.forall_mem_cons.mpr ⟨mw_552, (List.forall_mem_cons.mpr ⟨mw_551, (fun _ h => nomatch h)⟩)⟩)⟩)⟩)⟩)⟩)⟩)⟩)⟩)⟩)⟩)⟩)⟩)⟩)⟩)⟩)⟩)⟩)⟩)⟩)⟩)⟩)⟩)⟩), (List.forall_mem_append.mpr ⟨il_c_isCell, (List.forall_mem_append.mpr ⟨il_c_in, (List.forall_mem_append.mpr ⟨il_c_fails, (List.forall_mem_append.mpr ⟨mb_11, (List.forall_mem_append.mpr ⟨il_c_alSize, (List.forall_mem_append.mpr ⟨il_c_alAddI, (List.forall_mem_append.mpr ⟨il_c_tells, (fun _ h => nomatch h)⟩)⟩)⟩)⟩)⟩)⟩)⟩)⟩)⟩
set_option maxRecDepth 100000 in
theorem mw_662 : (.code yX9_isSound cX9_isSound 1 (some .boolean) : Cond) ∈ lw_tbl := List.mem_of_getElem? (i := 2627) (by decide +kernel)
theorem il_c_misSound : ∀ w ∈ us_c_misSound, w ∈ lw_tbl := List.forall_mem_cons.mpr ⟨mw_662, (List.forall_mem_append.mpr ⟨(List.forall_mem_cons.mpr ⟨mw_476, (fun _ h => nomatch h)⟩), (List.forall_mem_append.mpr ⟨mb_11, (fun _ h => nomatch h)⟩)⟩)⟩
set_option maxRecDepth 100000 in
theorem mw_663 : (.constantLong RX9 361 (7) : Cond) ∈ lw_tbl := List.mem_of_getElem? (i := 2622) (by decide +kernel)
set_option maxRecDepth 100000 in
theorem mw_664 : (.code yX9_checksum cX9_checksum 7 (some .long) : Cond) ∈ lw_tbl := List.mem_of_getElem? (i := 2621) (by decide +kernel)
theorem il_c_mchecksum : ∀ w ∈ us_c_mchecksum, w ∈ lw_tbl := List.forall_mem_cons.mpr ⟨mw_664, (List.forall_mem_append.mpr ⟨(List.forall_mem_cons.mpr ⟨mw_476, (List.forall_mem_cons.mpr ⟨mw_663, (List.forall_mem_cons.mpr ⟨mw_494, (List.forall_mem_cons.mpr ⟨mw_546, (List.forall_mem_cons.mpr ⟨mw_545, (List.forall_mem_cons.mpr ⟨mw_544, (List.forall_mem_cons.mpr ⟨mw_486, (List.forall_mem_cons.mpr ⟨mw_543, (List.forall_mem_cons.mpr ⟨mw_542, (List.forall_mem_cons.mpr ⟨mw_541, (List.forall_mem_cons.mpr ⟨mw_468, (fun _ h => nomatch h)⟩)⟩)⟩)⟩)⟩)⟩)⟩)⟩)⟩)⟩)⟩), (List.forall_mem_append.mpr ⟨mb_11, (List.forall_mem_append.mpr ⟨il_c_alIter, (List.forall_mem_append.mpr ⟨il_c_itHas, (fun _ h => nomatch h)⟩)⟩)⟩)⟩)⟩
set_option maxRecDepth 100000 in
theorem mw_665 : (.code yX9_isFairOf cX9_isFairOf 3 (some .boolean) : Cond) ∈ lw_tbl := List.mem_of_getElem? (i := 2493) (by decide +kernel)
theorem il_c_misFairOf : ∀ w ∈ us_c_misFairOf, w ∈ lw_tbl := List.forall_mem_cons.mpr ⟨mw_665, (List.forall_mem_append.mpr ⟨(List.forall_mem_cons.mpr ⟨mw_536, (List.forall_mem_cons.mpr ⟨mw_546, (List.forall_mem_cons.mpr ⟨mw_545, (List.forall_mem_cons.mpr ⟨mw_544, (List.forall_mem_cons.mpr ⟨mw_486, (List.forall_mem_cons.mpr ⟨mw_543, (List.forall_mem_cons.mpr ⟨mw_542, (List.forall_mem_cons.mpr ⟨mw_541, (List.forall_mem_cons.mpr ⟨mw_468, (fun _ h => nomatch h)⟩)⟩)⟩)⟩)⟩)⟩)⟩)⟩)⟩), (List.forall_mem_append.mpr ⟨mb_11, (List.forall_mem_append.mpr ⟨il_c_alIter, (List.forall_mem_append.mpr ⟨il_c_itHas, (fun _ h => nomatch h)⟩)⟩)⟩)⟩)⟩
set_option maxRecDepth 100000 in
theorem mw_666 : (.selects RX9 yX9_isFairOf yX9_isFairOf : Cond) ∈ lw_tbl := List.mem_of_getElem? (i := 84) (by decide +kernel)
set_option maxRecDepth 100000 in
theorem mw_667 : (.instanceMethod yX9_isFairOf : Cond) ∈ lw_tbl := List.mem_of_getElem? (i := 2492) (by decide +kernel)
set_option maxRecDepth 100000 in
theorem mw_668 : (.methodLink RX9 331 yX9_isFairOf : Cond) ∈ lw_tbl := List.mem_of_getElem? (i := 2490) (by decide +kernel)
set_option maxRecDepth 100000 in
theorem mw_669 : (.code yX9_isFair cX9_isFair 1 (some .boolean) : Cond) ∈ lw_tbl := List.mem_of_getElem? (i := 2489) (by decide +kernel)
theorem il_c_misFair : ∀ w ∈ us_c_misFair, w ∈ lw_tbl := List.forall_mem_cons.mpr ⟨mw_669, (List.forall_mem_append.mpr ⟨(List.forall_mem_cons.mpr ⟨mw_476, (List.forall_mem_cons.mpr ⟨mw_668, (List.forall_mem_cons.mpr ⟨mw_667, (List.forall_mem_cons.mpr ⟨mw_666, (List.forall_mem_cons.mpr ⟨mw_481, (fun _ h => nomatch h)⟩)⟩)⟩)⟩)⟩), (List.forall_mem_append.mpr ⟨mb_11, (List.forall_mem_append.mpr ⟨il_c_misFairOf, (fun _ h => nomatch h)⟩)⟩)⟩)⟩
set_option maxRecDepth 100000 in
theorem mw_670 : (.classLink RX9 99 "[C" : Cond) ∈ lw_tbl := List.mem_of_getElem? (i := 1434) (by decide +kernel)
set_option maxRecDepth 100000 in
theorem mw_671 : (.selects "[C" ⟨"[C", "clone", "()Ljava/lang/Object;"⟩ ⟨"java/lang/Object", "clone", "()Ljava/lang/Object;"⟩ : Cond) ∈ lw_tbl := List.mem_of_getElem? (i := 1432) (by decide +kernel)
set_option maxRecDepth 100000 in
theorem mw_672 : (.sameMethod "[C" "java/lang/Object" "clone" "()Ljava/lang/Object;" : Cond) ∈ lw_tbl := List.mem_of_getElem? (i := 1431) (by decide +kernel)
set_option maxRecDepth 100000 in
theorem mw_673 : (.methodLink RX9 98 ⟨"[C", "clone", "()Ljava/lang/Object;"⟩ : Cond) ∈ lw_tbl := List.mem_of_getElem? (i := 1430) (by decide +kernel)
set_option maxRecDepth 100000 in
theorem mw_674 : (.classLink RX9 94 "[I" : Cond) ∈ lw_tbl := List.mem_of_getElem? (i := 1429) (by decide +kernel)
set_option maxRecDepth 100000 in
theorem mw_675 : (.selects "[I" ⟨"[I", "clone", "()Ljava/lang/Object;"⟩ ⟨"java/lang/Object", "clone", "()Ljava/lang/Object;"⟩ : Cond) ∈ lw_tbl := List.mem_of_getElem? (i := 1427) (by decide +kernel)
set_option maxRecDepth 100000 in
theorem mw_676 : (.instanceMethod ⟨"java/lang/Object", "clone", "()Ljava/lang/Object;"⟩ : Cond) ∈ lw_tbl := List.mem_of_getElem? (i := 1426) (by decide +kernel)
set_option maxRecDepth 100000 in
theorem mw_677 : (.native ⟨"java/lang/Object", "clone", "()Ljava/lang/Object;"⟩ : Cond) ∈ lw_tbl := List.mem_of_getElem? (i := 1425) (by decide +kernel)
set_option maxRecDepth 100000 in
theorem mw_678 : (.sameMethod "[I" "java/lang/Object" "clone" "()Ljava/lang/Object;" : Cond) ∈ lw_tbl := List.mem_of_getElem? (i := 1424) (by decide +kernel)
set_option maxRecDepth 100000 in
theorem mw_679 : (.methodLink RX9 93 ⟨"[I", "clone", "()Ljava/lang/Object;"⟩ : Cond) ∈ lw_tbl := List.mem_of_getElem? (i := 1423) (by decide +kernel)
set_option maxRecDepth 100000 in
theorem mw_680 : (.code yX9_print cX9_print 3 (some .int) : Cond) ∈ lw_tbl := List.mem_of_getElem? (i := 1422) (by decide +kernel)
theorem il_c_mprint : ∀ w ∈ us_c_mprint, w ∈ lw_tbl := List.forall_mem_cons.mpr ⟨mw_680, (List.forall_mem_append.mpr ⟨(List.forall_mem_cons.mpr ⟨mw_484, (List.forall_mem_cons.mpr ⟨mw_679, (List.forall_mem_cons.mpr ⟨mw_678, (List.forall_mem_cons.mpr ⟨mw_677, (List.forall_mem_cons.mpr ⟨mw_676, (List.forall_mem_cons.mpr ⟨mw_675, (List.forall_mem_cons.mpr ⟨mw_674, (List.forall_mem_cons.mpr ⟨mw_568, (List.forall_mem_cons.mpr ⟨mw_554, (List.forall_mem_cons.mpr ⟨mw_673, (List.forall_mem_cons.mpr ⟨mw_672, (List.forall_mem_cons.mpr ⟨mw_671, (List.forall_mem_cons.mpr ⟨mw_670, (List.forall_mem_cons.mpr ⟨mw_566, (List.forall_mem_cons.mpr ⟨mw_553, (List.forall_mem_cons.mpr ⟨mw_552, (List.forall_mem_cons.mpr ⟨mw_551, (List.forall_mem_cons.mpr ⟨mw_481, (fun _ h => nomatch h)⟩)⟩)⟩)⟩)⟩)⟩)⟩)⟩)⟩)⟩)⟩)⟩)⟩)⟩)⟩)⟩)⟩)⟩), (List.forall_mem_append.mpr ⟨mb_11, (List.forall_mem_append.mpr ⟨il_c_tells, (fun _ h => nomatch h)⟩)⟩)⟩)⟩
set_option maxRecDepth 100000 in
theorem mw_681 : (.initialized "java/lang/System" : Cond) ∈ lw_tbl := List.mem_of_getElem? (i := 111) (by decide +kernel)
set_option maxRecDepth 100000 in
theorem mw_682 : (.static arraycopyName : Cond) ∈ lw_tbl := List.mem_of_getElem? (i := 1547) (by decide +kernel)
set_option maxRecDepth 100000 in
theorem mw_683 : (.native arraycopyName : Cond) ∈ lw_tbl := List.mem_of_getElem? (i := 1548) (by decide +kernel)
set_option maxRecDepth 100000 in
theorem mw_684 : (.methodLink RJ7 150 arraycopyName : Cond) ∈ lw_tbl := List.mem_of_getElem? (i := 1546) (by decide +kernel)
set_option maxRecDepth 100000 in
theorem mw_685 : (.methodLink RJ7 304 Lib.Math.min.name : Cond) ∈ lw_tbl := List.mem_of_getElem? (i := 1545) (by decide +kernel)
set_option maxRecDepth 100000 in
theorem mw_686 : (.classLink RJ7 2 "java/lang/Object" : Cond) ∈ lw_tbl := List.mem_of_getElem? (i := 1544) (by decide +kernel)
set_option maxRecDepth 100000 in
theorem mw_687 : (.classLink RJ7 110 "[Ljava/lang/Object;" : Cond) ∈ lw_tbl := List.mem_of_getElem? (i := 1542) (by decide +kernel)
set_option maxRecDepth 100000 in
theorem mw_688 : (.code yJ7_copyOf_6403c cJ7_copyOf_6403c 4 (some (.array (.object "java/lang/Object"))) : Cond) ∈ lw_tbl := List.mem_of_getElem? (i := 1541) (by decide +kernel)
theorem il_c_copyOf3 : ∀ w ∈ us_c_copyOf3, w ∈ lw_tbl := List.forall_mem_cons.mpr ⟨mw_688, (List.forall_mem_append.mpr ⟨(List.forall_mem_cons.mpr ⟨mw_687, (List.forall_mem_cons.mpr ⟨mw_686, (List.forall_mem_cons.mpr ⟨mw_685, (List.forall_mem_cons.mpr ⟨mw_622, (List.forall_mem_cons.mpr ⟨mw_24, (List.forall_mem_cons.mpr ⟨mw_621, (List.forall_mem_cons.mpr ⟨mw_684, (List.forall_mem_cons.mpr ⟨mw_683, (List.forall_mem_cons.mpr ⟨mw_682, (List.forall_mem_cons.mpr ⟨mw_681, (fun _ h => nomatch h)⟩)⟩)⟩)⟩)⟩)⟩)⟩)⟩)⟩)⟩), (fun _ h => nomatch h)⟩)⟩
set_option maxRecDepth 100000 in
theorem mw_689 : (.static yJ7_copyOf_6403c : Cond) ∈ lw_tbl := List.mem_of_getElem? (i := 1540) (by decide +kernel)
set_option maxRecDepth 100000 in
theorem mw_690 : (.methodLink RJ7 300 yJ7_copyOf_6403c : Cond) ∈ lw_tbl := List.mem_of_getElem? (i := 1539) (by decide +kernel)
set_option maxRecDepth 100000 in
theorem mw_691 : (.native ⟨"java/lang/Object", "getClass", "()Ljava/lang/Class;"⟩ : Cond) ∈ lw_tbl := List.mem_of_getElem? (i := 1538) (by decide +kernel)
set_option maxRecDepth 100000 in
theorem mw_692 : (.instanceMethod ⟨"java/lang/Object", "getClass", "()Ljava/lang/Class;"⟩ : Cond) ∈ lw_tbl := List.mem_of_getElem? (i := 1512) (by decide +kernel)
set_option maxRecDepth 100000 in
theorem mw_693 : (.selects "[Ljava/lang/Object;" ⟨"java/lang/Object", "getClass", "()Ljava/lang/Class;"⟩ ⟨"java/lang/Object", "getClass", "()Ljava/lang/Class;"⟩ : Cond) ∈ lw_tbl := List.mem_of_getElem? (i := 2666) (by decide +kernel)
set_option maxRecDepth 100000 in
theorem mw_694 : (.methodLink RJ7 86 ⟨"java/lang/Object", "getClass", "()Ljava/lang/Class;"⟩ : Cond) ∈ lw_tbl := List.mem_of_getElem? (i := 1511) (by decide +kernel)
set_option maxRecDepth 100000 in
theorem mw_695 : (.code yJ7_copyOf_1904c cJ7_copyOf_1904c 2 (some (.array (.object "java/lang/Object"))) : Cond) ∈ lw_tbl := List.mem_of_getElem? (i := 1510) (by decide +kernel)
theorem il_c_copyOf2 : ∀ w ∈ us_c_copyOf2, w ∈ lw_tbl := List.forall_mem_cons.mpr ⟨mw_695, (List.forall_mem_append.mpr ⟨(List.forall_mem_cons.mpr ⟨mw_694, (List.forall_mem_cons.mpr ⟨mw_693, (List.forall_mem_cons.mpr ⟨mw_692, (List.forall_mem_cons.mpr ⟨mw_691, (List.forall_mem_cons.mpr ⟨mw_690, (List.forall_mem_cons.mpr ⟨mw_689, (List.forall_mem_cons.mpr ⟨mw_56, (fun _ h => nomatch h)⟩)⟩)⟩)⟩)⟩)⟩)⟩), (List.forall_mem_append.mpr ⟨il_c_copyOf3, (fun _ h => nomatch h)⟩)⟩)⟩
set_option maxRecDepth 100000 in
theorem mw_696 : (.static yJ7_copyOf_1904c : Cond) ∈ lw_tbl := List.mem_of_getElem? (i := 1509) (by decide +kernel)
set_option maxRecDepth 100000 in
theorem mw_697 : (.methodLink RJx4a65c 66 yJ7_copyOf_1904c : Cond) ∈ lw_tbl := List.mem_of_getElem? (i := 1508) (by decide +kernel)
set_option maxRecDepth 100000 in
theorem mw_698 : (.code yJx4a65c_toArray_d5877 cJx4a65c_toArray_d5877 1 (some (.array (.object "java/lang/Object"))) : Cond) ∈ lw_tbl := List.mem_of_getElem? (i := 2553) (by decide +kernel)
theorem il_c_toArray : ∀ w ∈ us_c_toArray, w ∈ lw_tbl := List.forall_mem_cons.mpr ⟨mw_698, (List.forall_mem_append.mpr ⟨(List.forall_mem_cons.mpr ⟨mw_448, (List.forall_mem_cons.mpr ⟨mw_454, (List.forall_mem_cons.mpr ⟨mw_697, (List.forall_mem_cons.mpr ⟨mw_696, (List.forall_mem_cons.mpr ⟨mw_56, (fun _ h => nomatch h)⟩)⟩)⟩)⟩)⟩), (List.forall_mem_append.mpr ⟨mb_9, (List.forall_mem_append.mpr ⟨il_c_copyOf2, (fun _ h => nomatch h)⟩)⟩)⟩)⟩
set_option maxRecDepth 100000 in
theorem mw_699 : (.fieldLink RJx4a65c 15 "java/util/ArrayList" "EMPTY_ELEMENTDATA" "[Ljava/lang/Object;" : Cond) ∈ lw_tbl := List.mem_of_getElem? (i := 2563) (by decide +kernel)
set_option maxRecDepth 100000 in
theorem mw_700 : (.instanceMethod yJx4a65c_toArray_d5877 : Cond) ∈ lw_tbl := List.mem_of_getElem? (i := 2551) (by decide +kernel)
set_option maxRecDepth 100000 in
theorem mw_701 : (.selects RJx4a65c ⟨"java/util/Collection", "toArray", "()[Ljava/lang/Object;"⟩ yJx4a65c_toArray_d5877 : Cond) ∈ lw_tbl := List.mem_of_getElem? (i := 2549) (by decide +kernel)
set_option maxRecDepth 100000 in
theorem mw_702 : (.methodLink RJx4a65c 42 ⟨"java/util/Collection", "toArray", "()[Ljava/lang/Object;"⟩ : Cond) ∈ lw_tbl := List.mem_of_getElem? (i := 2545) (by decide +kernel)
set_option maxRecDepth 100000 in
theorem mw_703 : (.code yJx4a65c_init_4bcb3 cJx4a65c_init_4bcb3 3 none : Cond) ∈ lw_tbl := List.mem_of_getElem? (i := 2543) (by decide +kernel)
theorem il_c_alInitC : ∀ w ∈ us_c_alInitC, w ∈ lw_tbl := List.forall_mem_cons.mpr ⟨mw_703, (List.forall_mem_append.mpr ⟨(List.forall_mem_cons.mpr ⟨mw_452, (List.forall_mem_cons.mpr ⟨mw_451, (List.forall_mem_cons.mpr ⟨mw_450, (List.forall_mem_cons.mpr ⟨mw_702, (List.forall_mem_cons.mpr ⟨mw_701, (List.forall_mem_cons.mpr ⟨mw_700, (List.forall_mem_cons.mpr ⟨mw_486, (List.forall_mem_cons.mpr ⟨mw_454, (List.forall_mem_cons.mpr ⟨mw_699, (List.forall_mem_cons.mpr ⟨mw_448, (fun _ h => nomatch h)⟩)⟩)⟩)⟩)⟩)⟩)⟩)⟩)⟩)⟩), (List.forall_mem_append.mpr ⟨il_c_aliInit, (List.forall_mem_append.mpr ⟨il_c_toArray, (List.forall_mem_append.mpr ⟨mb_9, (fun _ h => nomatch h)⟩)⟩)⟩)⟩)⟩
theorem il_c_misFairK : ∀ w ∈ us_c_misFairK, w ∈ lw_tbl := List.forall_mem_cons.mpr ⟨mw_665, (List.forall_mem_append.mpr ⟨(List.forall_mem_cons.mpr ⟨mw_536, (List.forall_mem_cons.mpr ⟨mw_546, (List.forall_mem_cons.mpr ⟨mw_545, (List.forall_mem_cons.mpr ⟨mw_544, (List.forall_mem_cons.mpr ⟨mw_486, (List.forall_mem_cons.mpr ⟨mw_543, (List.forall_mem_cons.mpr ⟨mw_542, (List.forall_mem_cons.mpr ⟨mw_541, (List.forall_mem_cons.mpr ⟨mw_468, (fun _ h => nomatch h)⟩)⟩)⟩)⟩)⟩)⟩)⟩)⟩)⟩), (List.forall_mem_append.mpr ⟨mb_11, (List.forall_mem_append.mpr ⟨il_c_alIter, (List.forall_mem_append.mpr ⟨il_c_itHas, (fun _ h => nomatch h)⟩)⟩)⟩)⟩)⟩
set_option maxRecDepth 100000 in
theorem mw_704 : (.instanceMethod yJx4a65c_init_4bcb3 : Cond) ∈ lw_tbl := List.mem_of_getElem? (i := 2542) (by decide +kernel)
set_option maxRecDepth 100000 in
theorem mw_705 : (.methodLink RX9 334 yJx4a65c_init_4bcb3 : Cond) ∈ lw_tbl := List.mem_of_getElem? (i := 2541) (by decide +kernel)
set_option maxRecDepth 100000 in
theorem mw_706 : (.code yX9_fairWays cX9_fairWays 10 (some .int) : Cond) ∈ lw_tbl := List.mem_of_getElem? (i := 2540) (by decide +kernel)
theorem il_c_mfairWays : ∀ w ∈ us_c_mfairWays, w ∈ lw_tbl := List.forall_mem_cons.mpr ⟨mw_706, (List.forall_mem_append.mpr ⟨(List.forall_mem_cons.mpr ⟨mw_536, (List.forall_mem_cons.mpr ⟨mw_546, (List.forall_mem_cons.mpr ⟨mw_545, (List.forall_mem_cons.mpr ⟨mw_544, (List.forall_mem_cons.mpr ⟨mw_486, (List.forall_mem_cons.mpr ⟨mw_543, (List.forall_mem_cons.mpr ⟨mw_542, (List.forall_mem_cons.mpr ⟨mw_541, (List.forall_mem_cons.mpr ⟨mw_468, (List.forall_mem_cons.mpr ⟨mw_600, (List.forall_mem_cons.mpr ⟨mw_614, (List.forall_mem_cons.mpr ⟨mw_613, (List.forall_mem_cons.mpr ⟨mw_705, (List.forall_mem_cons.mpr ⟨mw_704, (List.forall_mem_cons.mpr ⟨mw_489, (List.forall_mem_cons.mpr ⟨mw_488, (List.forall_mem_cons.mpr ⟨mw_487, (List.forall_mem_cons.mpr ⟨mw_668, (List.forall_mem_cons.mpr ⟨mw_667, (List.forall_mem_cons.mpr ⟨mw_666, (List.forall_mem_cons.mpr ⟨mw_481, (List.forall_mem_cons.mpr ⟨mw_553, (List.forall_mem_cons.mpr ⟨mw_552, (List.forall_mem_cons.mpr ⟨mw_551, (fun _ h => nomatch h)⟩)⟩)⟩)⟩)⟩)⟩)⟩)⟩)⟩)⟩)⟩)⟩)⟩)⟩)⟩)⟩)⟩)⟩)⟩)⟩)⟩)⟩)⟩)⟩), (List.forall_mem_append.mpr ⟨mb_11, (List.forall_mem_append.mpr ⟨il_c_alIter, (List.forall_mem_append.mpr ⟨il_c_itHas, (List.forall_mem_append.mpr ⟨mb_9, (List.forall_mem_append.mpr ⟨il_c_alInitC, (List.forall_mem_append.mpr ⟨il_c_alSize, (List.forall_mem_append.mpr ⟨il_c_misFairK, (List.forall_mem_append.mpr ⟨il_c_tells, (fun _ h => nomatch h)⟩)⟩)⟩)⟩)⟩)⟩)⟩)⟩)⟩)⟩
set_option maxRecDepth 100000 in
theorem mw_707 : (.code yJ7_fill_d0a16 cJ7_fill_d0a16 5 none : Cond) ∈ lw_tbl := List.mem_of_getElem? (i := 2593) (by decide +kernel)
theorem il_c_fillL : ∀ w ∈ us_c_fillL, w ∈ lw_tbl := List.forall_mem_cons.mpr ⟨mw_707, (List.forall_mem_append.mpr ⟨(fun _ h => nomatch h), (fun _ h => nomatch h)⟩)⟩
set_option maxRecDepth 100000 in
theorem mw_708 : (.static yJ7_fill_d0a16 : Cond) ∈ lw_tbl := List.mem_of_getElem? (i := 2592) (by decide +kernel)
set_option maxRecDepth 100000 in
theorem mw_709 : (.methodLink RX9 356 yJ7_fill_d0a16 : Cond) ∈ lw_tbl := List.mem_of_getElem? (i := 2591) (by decide +kernel)
set_option maxRecDepth 100000 in
theorem mw_710 : (.constantLong RX9 354 (9223372036854775807) : Cond) ∈ lw_tbl := List.mem_of_getElem? (i := 2590) (by decide +kernel)
set_option maxRecDepth 100000 in
theorem mw_711 : (.constantLong RX9 309 (1000) : Cond) ∈ lw_tbl := List.mem_of_getElem? (i := 2467) (by decide +kernel)
set_option maxRecDepth 100000 in
theorem mw_712 : (.arrayClass .long : Cond) ∈ lw_tbl := List.mem_of_getElem? (i := 2597) (by decide +kernel)
set_option maxRecDepth 100000 in
theorem mw_713 : (.classLink RX9 348 "[[J" : Cond) ∈ lw_tbl := List.mem_of_getElem? (i := 2587) (by decide +kernel)
set_option maxRecDepth 100000 in
theorem mw_714 : (.code yX9_score cX9_score 15 (some .int) : Cond) ∈ lw_tbl := List.mem_of_getElem? (i := 2586) (by decide +kernel)
theorem il_c_mscore : ∀ w ∈ us_c_mscore, w ∈ lw_tbl := List.forall_mem_cons.mpr ⟨mw_714, (List.forall_mem_append.mpr ⟨(List.forall_mem_cons.mpr ⟨mw_560, (List.forall_mem_cons.mpr ⟨mw_559, (List.forall_mem_cons.mpr ⟨mw_558, (List.forall_mem_cons.mpr ⟨mw_481, (List.forall_mem_cons.mpr ⟨mw_564, (List.forall_mem_cons.mpr ⟨mw_483, (List.forall_mem_cons.mpr ⟨mw_482, (List.forall_mem_cons.mpr ⟨mw_506, (List.forall_mem_cons.mpr ⟨mw_505, (List.forall_mem_cons.mpr ⟨mw_504, (List.forall_mem_cons.mpr ⟨mw_490, (List.forall_mem_cons.mpr ⟨mw_489, (List.forall_mem_cons.mpr ⟨mw_488, (List.forall_mem_cons.mpr ⟨mw_487, (List.forall_mem_cons.mpr ⟨mw_486, (List.forall_mem_cons.mpr ⟨mw_713, (List.forall_mem_cons.mpr ⟨mw_712, (List.forall_mem_cons.mpr ⟨mw_593, (List.forall_mem_cons.mpr ⟨mw_592, (List.forall_mem_cons.mpr ⟨mw_591, (List.forall_mem_cons.mpr ⟨mw_589, (List.forall_mem_cons.mpr ⟨mw_711, (List.forall_mem_cons.mpr ⟨mw_562, (List.forall_mem_cons.mpr ⟨mw_25, (List.forall_mem_cons.mpr ⟨mw_24, (List.forall_mem_cons.mpr ⟨mw_23, (List.forall_mem_cons.mpr ⟨mw_710, (List.forall_mem_cons.mpr ⟨mw_709, (List.forall_mem_cons.mpr ⟨mw_708, (List.forall_mem_cons.mpr ⟨mw_56, (List.forall_mem_cons.mpr ⟨mw_553, (List.forall_mem_cons.mpr ⟨mw_552, (List.forall_mem_cons.mpr ⟨mw_551, (fun _ h => nomatch h)⟩)⟩)⟩)⟩)⟩)⟩)⟩)⟩)⟩)⟩)⟩)⟩)⟩)⟩)⟩)⟩)⟩)⟩)⟩)⟩)⟩)⟩)⟩)⟩)⟩)⟩)⟩)⟩)⟩)⟩)⟩)⟩)⟩), (List.forall_mem_append.mpr ⟨il_c_isCell, (List.forall_mem_append.mpr ⟨il_c_in, (List.forall_mem_append.mpr ⟨il_c_fails, (List.forall_mem_append.mpr ⟨mb_11, (List.forall_mem_append.mpr ⟨il_c_alSize, (List.forall_mem_append.mpr ⟨il_c_costsTo, (List.forall_mem_append.mpr ⟨il_c_fillL, (List.forall_mem_append.mpr ⟨il_c_tells, (fun _ h => nomatch h)⟩)⟩)⟩)⟩)⟩)⟩)⟩)⟩)⟩)⟩
