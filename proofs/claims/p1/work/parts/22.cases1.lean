/-! the law, cases -/
set_option maxHeartbeats 4000000 in
set_option maxRecDepth 100000 in
/-- case 12: lengthOf -/
theorem lc_12 (l : Launch) (hst : l.stackTraces = false) (D : va_G) {p : Program} {e : Env} {s : State} {m : MethodId} {below : List Frame} {meth : Method} {c : Code} {b : Nat} {xs : Nat → Int32} {Q : State → Prop} (hx : p.tables.exec = Jvm.exec) (hb : c.code = code) (hml : c.maxLocals = 9) (hown : s.vm.findClass RL = some m.cls) (hts : ∀ w ∈ lw_tbl, w.before #[Value.ref b] s = true) (hX : va_X b 5 xs s s.heap) (hbl : b < s.heap.size) (hE : ex_E D (lw_A s) s s.heap) (hend : lw_End p l e s m below meth c b Q) (x : Nat) (g : Nat) (ca : Nat) (co : Nat) (ra : Nat) (rl : Nat) (tr : Nat) (f9 : Nat) (f10 : Nat) (f11 : Nat) (f12 : Nat) (f13 : Nat) (oo : Nat) (coo : ClassId) (f0 : Nat → Int64) (mo : Nat) (th : Int32) (m1 : Nat) (m2 : Nat) (m3 : Nat) (m4 : Nat) (m5 : Nat) (l1 : Nat) (l2 : Nat) (l3 : Nat) (l4 : Nat) (od : Nat)  {H : Heap} {locs : List Loc} {ls : Array Slot} (hl : lv_has ls 9 [(5, .int 0), (4, .ref od), (3, .ref oo), (2, .ref mo), (1, .ref x), (0, .ref b)]) (hP : va_P D vwCl [(x, .inr (13, [.ref g, .ref ca, .int 0, .ref co, .int 0, .ref ra, .int 0, .ref rl, .ref tr, .ref f9, .ref f10, .ref f11, .ref f12, .ref f13])), (oo, .inl (coo, 1, .inr (.inl f0))), (mo, .inr (16, [.int 5, .int 5, .int th, .ref m1, .ref m2, .ref m3, .ref m4, .ref m5, .ref l1, .ref l2, .ref l3, .int (-1), .ref l4])), (l2, .inr (5, [.int 1, .ref (D.1 1000), .int 0]))] H) (hD : va_D (lw_A s) [(x, .inr (13, [.ref g, .ref ca, .int 0, .ref co, .int 0, .ref ra, .int 0, .ref rl, .ref tr, .ref f9, .ref f10, .ref f11, .ref f12, .ref f13])), (oo, .inl (coo, 1, .inr (.inl f0))), (mo, .inr (16, [.int 5, .int 5, .int th, .ref m1, .ref m2, .ref m3, .ref m4, .ref m5, .ref l1, .ref l2, .ref l3, .int (-1), .ref l4])), (l2, .inr (5, [.int 1, .ref (D.1 1000), .int 0]))]) (hK : va_K D vwCl [(coo, .long)] s) (hS : va_S (lw_A s) s.heap H locs) : W p l e room_1 s m #[Value.ref b] below meth c H locs 167 55824 Q (F0 m 1087 ls []) := by
  have hA : ∀ q : Nat, s.heap.size ≤ q → lw_A s q := fun _ h => h
  have hbA : ¬ lw_A s b := Nat.not_le.mpr hbl
  refine lv_aload_n hx hb dL_law_1087 rfl (lv_at hl 4 rfl) ?_
  refine lv_aload_n hx hb dL_law_1088 rfl (lv_at hl 5 rfl) ?_
  refine lv_iload hx hb dL_law_1089 (lv_at hl 0 rfl) ?_
  refine lv_iconst (v := 1) hx hb dL_law_1091 (by decide) ?_
  refine lv_iadd hx hb dL_law_1092 ?_
  refine lv_topi (fun x1 e1 => ?_)
  obtain rfl : x1 = 1 := e1.trans (by decide)
  refine va_sld hx hb hX hbl hbA hS (vp_in_nI (n := 1) (by decide) (by decide)) dL_law_1093 ?_
  refine lv_topi (fun x2 e2 => ?_)
  obtain rfl : x2 = xs 1 := e2
  refine lv_aload_n hx hb dL_law_1094 rfl (lv_at hl 2 rfl) ?_
  refine mc_i (wr := [(mo, .inr (16, [.int 5, .int 5, .int th, .ref m1, .ref m2, .ref m3, .ref m4, .ref m5, .ref l1, .ref l2, .ref l3, .int (-1), .ref l4])), (l2, .inr (5, [.int 1, .ref (D.1 1000), .int 0]))]) (vx_runSW (As := [.ref x, .int (xs 1), .ref oo]) (rest := []) ⟨hx, hb, hml, hown, hts⟩ (c_LlengthOf l hst D x g ca co ra rl tr f9 f10 f11 f12 f13 (xs 1) oo coo f0 H.size) (vx_cwSW 3 hts (gi_c mw_829 rfl (gi_c mw_830 rfl (gi_c mw_766 rfl (goodIn_sub il_c_LlengthOf (List.all_eq_true.mpr gw_c_LlengthOf))))) rfl rfl rfl (by decide +kernel) ⟨Nat.le_of_ble_eq_true rfl, Nat.le_of_ble_eq_true rfl⟩) (pr_S (As := [.ref x, .int (xs 1), .ref oo]) hP hD hK hS hA hE [0, 1] [0] rfl rfl rfl) rfl rfl hl.1 rfl (lv_room (Nat.le_of_ble_eq_true rfl)) dL_law_1095 ⟨Nat.le_of_ble_eq_true rfl, Nat.le_of_ble_eq_true rfl⟩) hP hD hK hS hA [0, 1] [2, 3] rfl rfl (by decide) (by decide) (fun r5 u3 H locs w4 hP hD hK hS => ?_)
  have hP : va_P D vwCl [(mo, .inr (16, [.int 5, .int 5, .int th, .ref m1, .ref m2, .ref m3, .ref m4, .ref m5, .ref l1, .ref l2, .ref l3, .int (-1), .ref l4])), (l2, .inr (5, [.int 1, .ref (D.1 1000), .int 0])), (oo, .inl (coo, 1, .inr (.inl u3)))] H := hP
  have hD : va_D (lw_A s) [(mo, .inr (16, [.int 5, .int 5, .int th, .ref m1, .ref m2, .ref m3, .ref m4, .ref m5, .ref l1, .ref l2, .ref l3, .int (-1), .ref l4])), (l2, .inr (5, [.int 1, .ref (D.1 1000), .int 0])), (oo, .inl (coo, 1, .inr (.inl u3)))] := hD
  have hK : va_K D vwCl [(coo, .long)] s := hK
  refine lv_istore (lv' := [(6, .int r5), (5, .int 0), (4, .ref od), (3, .ref oo), (2, .ref mo), (1, .ref x), (0, .ref b)]) hx hb dL_law_1098 hl (by decide) rfl (fun ls hl => ?_)
  refine lv_aload_n hx hb dL_law_1100 rfl (lv_at hl 4 rfl) ?_
  refine lv_aload_n hx hb dL_law_1101 rfl (lv_at hl 6 rfl) ?_
  refine lv_iload hx hb dL_law_1102 (lv_at hl 1 rfl) ?_
  refine lv_iconst (v := 1) hx hb dL_law_1104 (by decide) ?_
  refine lv_iadd hx hb dL_law_1105 ?_
  refine lv_topi (fun x6 e6 => ?_)
  obtain rfl : x6 = 1 := e6.trans (by decide)
  refine va_sld hx hb hX hbl hbA hS (vp_in_nI (n := 1) (by decide) (by decide)) dL_law_1106 ?_
  refine lv_topi (fun x7 e7 => ?_)
  obtain rfl : x7 = xs 1 := e7
  refine mc_i (wr := [(oo, .inl (coo, 1, .inr (.inl u3)))]) (va_runV (As := [.int (xs 1)]) (rest := []) ⟨hx, hb, hml, hown, hts⟩ (c_mlengthOf l hst D mo th m1 m2 m3 m4 m5 l1 l2 l3 l4 (xs 1) H.size) (cwV 1 hts (gi_c mw_831 rfl (gi_c mw_832 rfl (gi_c mw_833 rfl (gi_c mw_481 rfl (goodIn_sub il_c_mlengthOf (List.all_eq_true.mpr gw_c_mlengthOf)))))) rfl rfl rfl (by decide +kernel) ⟨Nat.le_of_ble_eq_true rfl, Nat.le_of_ble_eq_true rfl⟩) (pr_V (As := [.int (xs 1)]) (b := mo) (C := RX9) hP hD hK hS hA hE [0, 1] [] rfl rfl rfl 0 16 rfl rfl rfl) rfl rfl hl.1 rfl (lv_room (Nat.le_of_ble_eq_true rfl)) dL_law_1107 ⟨Nat.le_of_ble_eq_true rfl, Nat.le_of_ble_eq_true rfl⟩) hP hD hK hS hA [0, 1] [2] rfl rfl (by decide) (by decide) (fun r10 u8 H locs w9 hP hD hK hS => ?_)
  have hP : va_P D vwCl [(oo, .inl (coo, 1, .inr (.inl u3))), (mo, .inr (16, [.int (u8.2.2 0), .int (u8.2.2 1), .int u8.1, .ref (u8.2.1 0), .ref (u8.2.1 1), .ref (u8.2.1 2), .ref (u8.2.1 3), .ref (u8.2.1 4), .ref (u8.2.1 5), .ref (u8.2.1 6), .ref (u8.2.1 7), .int (u8.2.2 2), .ref (u8.2.1 8)]))] H := hP
  have hD : va_D (lw_A s) [(oo, .inl (coo, 1, .inr (.inl u3))), (mo, .inr (16, [.int (u8.2.2 0), .int (u8.2.2 1), .int u8.1, .ref (u8.2.1 0), .ref (u8.2.1 1), .ref (u8.2.1 2), .ref (u8.2.1 3), .ref (u8.2.1 4), .ref (u8.2.1 5), .ref (u8.2.1 6), .ref (u8.2.1 7), .int (u8.2.2 2), .ref (u8.2.1 8)]))] := hD
  have hK : va_K D vwCl [(coo, .long)] s := hK
  refine lv_istore (lv' := [(7, .int r10), (6, .int r5), (5, .int 0), (4, .ref od), (3, .ref oo), (2, .ref mo), (1, .ref x), (0, .ref b)]) hx hb dL_law_1110 hl (by decide) rfl (fun ls hl => ?_)
  refine lv_aload_n hx hb dL_law_1112 rfl (lv_at hl 5 rfl) ?_
  refine mc_i (wr := [(oo, .inl (coo, 1, .inr (.inl u3)))]) (va_runV (As := []) (rest := []) ⟨hx, hb, hml, hown, hts⟩ (c_thrown l hst D mo (u8.2.2 0) (u8.2.2 1) u8.1 (u8.2.1 0) (u8.2.1 1) (u8.2.1 2) (u8.2.1 3) (u8.2.1 4) (u8.2.1 5) (u8.2.1 6) (u8.2.1 7) (u8.2.2 2) (u8.2.1 8) H.size) (cwV 0 hts (gi_c mw_770 rfl (gi_c mw_771 rfl (gi_c mw_772 rfl (gi_c mw_481 rfl (goodIn_sub il_c_thrown (List.all_eq_true.mpr gw_c_thrown)))))) rfl rfl rfl (by decide +kernel) ⟨Nat.le_of_ble_eq_true rfl, Nat.le_of_ble_eq_true rfl⟩) (pr_V (As := []) (b := mo) (C := RX9) hP hD hK hS hA hE [1] [] rfl rfl rfl 1 16 rfl rfl rfl) rfl rfl hl.1 rfl (lv_room (Nat.le_of_ble_eq_true rfl)) dL_law_1113 ⟨Nat.le_of_ble_eq_true rfl, Nat.le_of_ble_eq_true rfl⟩) hP hD hK hS hA [1] [0] rfl rfl (by decide) (by decide) (fun r12 _ H locs w11 hP hD hK hS => ?_)
  have hP : va_P D vwCl [(oo, .inl (coo, 1, .inr (.inl u3))), (mo, .inr (16, [.int (u8.2.2 0), .int (u8.2.2 1), .int u8.1, .ref (u8.2.1 0), .ref (u8.2.1 1), .ref (u8.2.1 2), .ref (u8.2.1 3), .ref (u8.2.1 4), .ref (u8.2.1 5), .ref (u8.2.1 6), .ref (u8.2.1 7), .int (u8.2.2 2), .ref (u8.2.1 8)]))] H := hP
  have hD : va_D (lw_A s) [(oo, .inl (coo, 1, .inr (.inl u3))), (mo, .inr (16, [.int (u8.2.2 0), .int (u8.2.2 1), .int u8.1, .ref (u8.2.1 0), .ref (u8.2.1 1), .ref (u8.2.1 2), .ref (u8.2.1 3), .ref (u8.2.1 4), .ref (u8.2.1 5), .ref (u8.2.1 6), .ref (u8.2.1 7), .int (u8.2.2 2), .ref (u8.2.1 8)]))] := hD
  have hK : va_K D vwCl [(coo, .long)] s := hK
  obtain rfl : r12 = u8.1 := w11
  refine lv_iload hx hb dL_law_1116 (lv_at hl 1 rfl) ?_
  refine lv_icmp_eq (tgt := 1123) hx hb dL_law_1118 (by decide) (fun h13 => ?_) (fun h13 => absurd (by exact (w9).trans w4.1.symm) h13)
  refine lv_iload hx hb dL_law_1123 (lv_at hl 1 rfl) ?_
  refine lv_if_ne (tgt := 1140) hx hb dL_law_1125 (by decide) (fun h14 => ?_) (fun h14 => absurd h14 (by exact fun q9 => absurd (show (1 : Int32) = 0 from w4.1.symm.trans q9) (by decide)))
  refine lv_goto (tgt := 3320) hx hb dL_law_1140 (by decide) ?_
  refine W.widen (k := 600006) (n := 7302040) (Nat.le_of_ble_eq_true rfl) (Nat.le_of_ble_eq_true rfl) ?_
  exact hend _ _ _ (lv_sub hl [2, 7] rfl) hS

set_option maxHeartbeats 4000000 in
set_option maxRecDepth 100000 in
/-- case 13: runner -/
theorem lc_13 (l : Launch) (hst : l.stackTraces = false) (D : va_G) {p : Program} {e : Env} {s : State} {m : MethodId} {below : List Frame} {meth : Method} {c : Code} {b : Nat} {xs : Nat → Int32} {Q : State → Prop} (hx : p.tables.exec = Jvm.exec) (hb : c.code = code) (hml : c.maxLocals = 9) (hown : s.vm.findClass RL = some m.cls) (hts : ∀ w ∈ lw_tbl, w.before #[Value.ref b] s = true) (hX : va_X b 5 xs s s.heap) (hbl : b < s.heap.size) (hE : ex_E D (lw_A s) s s.heap) (hend : lw_End p l e s m below meth c b Q) (x : Nat) (g : Nat) (ca : Nat) (co : Nat) (ra : Nat) (rl : Nat) (tr : Nat) (f9 : Nat) (f10 : Nat) (f11 : Nat) (f12 : Nat) (f13 : Nat) (oo : Nat) (coo : ClassId) (f0 : Nat → Int64) (mo : Nat) (th : Int32) (m1 : Nat) (m2 : Nat) (m3 : Nat) (m4 : Nat) (m5 : Nat) (l1 : Nat) (l2 : Nat) (l3 : Nat) (l4 : Nat) (od : Nat)  {H : Heap} {locs : List Loc} {ls : Array Slot} (hl : lv_has ls 9 [(5, .int 0), (4, .ref od), (3, .ref oo), (2, .ref mo), (1, .ref x), (0, .ref b)]) (hP : va_P D vwCl [(x, .inr (13, [.ref g, .ref ca, .int 0, .ref co, .int 0, .ref ra, .int 0, .ref rl, .ref tr, .ref f9, .ref f10, .ref f11, .ref f12, .ref f13])), (oo, .inl (coo, 1, .inr (.inl f0))), (mo, .inr (16, [.int 5, .int 5, .int th, .ref m1, .ref m2, .ref m3, .ref m4, .ref m5, .ref l1, .ref l2, .ref l3, .int (-1), .ref l4])), (l2, .inr (5, [.int 1, .ref (D.1 1000), .int 0]))] H) (hD : va_D (lw_A s) [(x, .inr (13, [.ref g, .ref ca, .int 0, .ref co, .int 0, .ref ra, .int 0, .ref rl, .ref tr, .ref f9, .ref f10, .ref f11, .ref f12, .ref f13])), (oo, .inl (coo, 1, .inr (.inl f0))), (mo, .inr (16, [.int 5, .int 5, .int th, .ref m1, .ref m2, .ref m3, .ref m4, .ref m5, .ref l1, .ref l2, .ref l3, .int (-1), .ref l4])), (l2, .inr (5, [.int 1, .ref (D.1 1000), .int 0]))]) (hK : va_K D vwCl [(coo, .long)] s) (hS : va_S (lw_A s) s.heap H locs) : W p l e room_1 s m #[Value.ref b] below meth c H locs 167 55824 Q (F0 m 1143 ls []) := by
  have hA : ∀ q : Nat, s.heap.size ≤ q → lw_A s q := fun _ h => h
  have hbA : ¬ lw_A s b := Nat.not_le.mpr hbl
  refine lv_aload_n hx hb dL_law_1143 rfl (lv_at hl 4 rfl) ?_
  refine lv_aload_n hx hb dL_law_1144 rfl (lv_at hl 5 rfl) ?_
  refine lv_iload hx hb dL_law_1145 (lv_at hl 0 rfl) ?_
  refine lv_iconst (v := 1) hx hb dL_law_1147 (by decide) ?_
  refine lv_iadd hx hb dL_law_1148 ?_
  refine lv_topi (fun x1 e1 => ?_)
  obtain rfl : x1 = 1 := e1.trans (by decide)
  refine va_sld hx hb hX hbl hbA hS (vp_in_nI (n := 1) (by decide) (by decide)) dL_law_1149 ?_
  refine lv_topi (fun x2 e2 => ?_)
  obtain rfl : x2 = xs 1 := e2
  refine lv_aload_n hx hb dL_law_1150 rfl (lv_at hl 5 rfl) ?_
  refine lv_iload hx hb dL_law_1151 (lv_at hl 0 rfl) ?_
  refine lv_iconst (v := 2) hx hb dL_law_1153 (by decide) ?_
  refine lv_iadd hx hb dL_law_1154 ?_
  refine lv_topi (fun x3 e3 => ?_)
  obtain rfl : x3 = 2 := e3.trans (by decide)
  refine va_sld hx hb hX hbl hbA hS (vp_in_nI (n := 2) (by decide) (by decide)) dL_law_1155 ?_
  refine lv_topi (fun x4 e4 => ?_)
  obtain rfl : x4 = xs 2 := e4
  refine lv_aload_n hx hb dL_law_1156 rfl (lv_at hl 2 rfl) ?_
  refine mc_i (wr := [(mo, .inr (16, [.int 5, .int 5, .int th, .ref m1, .ref m2, .ref m3, .ref m4, .ref m5, .ref l1, .ref l2, .ref l3, .int (-1), .ref l4])), (l2, .inr (5, [.int 1, .ref (D.1 1000), .int 0]))]) (vx_runSW (As := [.ref x, .int (xs 1), .int (xs 2), .ref oo]) (rest := []) ⟨hx, hb, hml, hown, hts⟩ (c_Lrunner l hst D x g ca co ra rl tr f9 f10 f11 f12 f13 (xs 1) (xs 2) oo coo f0 H.size) (vx_cwSW 4 hts (gi_c mw_834 rfl (gi_c mw_835 rfl (gi_c mw_766 rfl (goodIn_sub il_c_Lrunner (List.all_eq_true.mpr gw_c_Lrunner))))) rfl rfl rfl (by decide +kernel) ⟨Nat.le_of_ble_eq_true rfl, Nat.le_of_ble_eq_true rfl⟩) (pr_S (As := [.ref x, .int (xs 1), .int (xs 2), .ref oo]) hP hD hK hS hA hE [0, 1] [0] rfl rfl rfl) rfl rfl hl.1 rfl (lv_room (Nat.le_of_ble_eq_true rfl)) dL_law_1157 ⟨Nat.le_of_ble_eq_true rfl, Nat.le_of_ble_eq_true rfl⟩) hP hD hK hS hA [0, 1] [2, 3] rfl rfl (by decide) (by decide) (fun r7 u5 H locs w6 hP hD hK hS => ?_)
  have hP : va_P D vwCl [(mo, .inr (16, [.int 5, .int 5, .int th, .ref m1, .ref m2, .ref m3, .ref m4, .ref m5, .ref l1, .ref l2, .ref l3, .int (-1), .ref l4])), (l2, .inr (5, [.int 1, .ref (D.1 1000), .int 0])), (oo, .inl (coo, 1, .inr (.inl u5)))] H := hP
  have hD : va_D (lw_A s) [(mo, .inr (16, [.int 5, .int 5, .int th, .ref m1, .ref m2, .ref m3, .ref m4, .ref m5, .ref l1, .ref l2, .ref l3, .int (-1), .ref l4])), (l2, .inr (5, [.int 1, .ref (D.1 1000), .int 0])), (oo, .inl (coo, 1, .inr (.inl u5)))] := hD
  have hK : va_K D vwCl [(coo, .long)] s := hK
  refine lv_istore (lv' := [(6, .int r7), (5, .int 0), (4, .ref od), (3, .ref oo), (2, .ref mo), (1, .ref x), (0, .ref b)]) hx hb dL_law_1160 hl (by decide) rfl (fun ls hl => ?_)
  refine lv_aload_n hx hb dL_law_1162 rfl (lv_at hl 4 rfl) ?_
  refine lv_aload_n hx hb dL_law_1163 rfl (lv_at hl 6 rfl) ?_
  refine lv_iload hx hb dL_law_1164 (lv_at hl 1 rfl) ?_
  refine lv_iconst (v := 1) hx hb dL_law_1166 (by decide) ?_
  refine lv_iadd hx hb dL_law_1167 ?_
  refine lv_topi (fun x8 e8 => ?_)
  obtain rfl : x8 = 1 := e8.trans (by decide)
  refine va_sld hx hb hX hbl hbA hS (vp_in_nI (n := 1) (by decide) (by decide)) dL_law_1168 ?_
  refine lv_topi (fun x9 e9 => ?_)
  obtain rfl : x9 = xs 1 := e9
  refine lv_aload_n hx hb dL_law_1169 rfl (lv_at hl 6 rfl) ?_
  refine lv_iload hx hb dL_law_1170 (lv_at hl 1 rfl) ?_
  refine lv_iconst (v := 2) hx hb dL_law_1172 (by decide) ?_
  refine lv_iadd hx hb dL_law_1173 ?_
  refine lv_topi (fun x10 e10 => ?_)
  obtain rfl : x10 = 2 := e10.trans (by decide)
  refine va_sld hx hb hX hbl hbA hS (vp_in_nI (n := 2) (by decide) (by decide)) dL_law_1174 ?_
  refine lv_topi (fun x11 e11 => ?_)
  obtain rfl : x11 = xs 2 := e11
  refine mc_i (wr := [(oo, .inl (coo, 1, .inr (.inl u5)))]) (va_runV (As := [.int (xs 1), .int (xs 2)]) (rest := []) ⟨hx, hb, hml, hown, hts⟩ (c_mrunner l hst D mo th m1 m2 m3 m4 m5 l1 l2 l3 l4 (xs 1) (xs 2) H.size) (cwV 2 hts (gi_c mw_836 rfl (gi_c mw_837 rfl (gi_c mw_838 rfl (gi_c mw_481 rfl (goodIn_sub il_c_mrunner (List.all_eq_true.mpr gw_c_mrunner)))))) rfl rfl rfl (by decide +kernel) ⟨Nat.le_of_ble_eq_true rfl, Nat.le_of_ble_eq_true rfl⟩) (pr_V (As := [.int (xs 1), .int (xs 2)]) (b := mo) (C := RX9) hP hD hK hS hA hE [0, 1] [] rfl rfl rfl 0 16 rfl rfl rfl) rfl rfl hl.1 rfl (lv_room (Nat.le_of_ble_eq_true rfl)) dL_law_1175 ⟨Nat.le_of_ble_eq_true rfl, Nat.le_of_ble_eq_true rfl⟩) hP hD hK hS hA [0, 1] [2] rfl rfl (by decide) (by decide) (fun r14 u12 H locs w13 hP hD hK hS => ?_)
  have hP : va_P D vwCl [(oo, .inl (coo, 1, .inr (.inl u5))), (mo, .inr (16, [.int (u12.2.2 0), .int (u12.2.2 1), .int u12.1, .ref (u12.2.1 0), .ref (u12.2.1 1), .ref (u12.2.1 2), .ref (u12.2.1 3), .ref (u12.2.1 4), .ref (u12.2.1 5), .ref (u12.2.1 6), .ref (u12.2.1 7), .int (u12.2.2 2), .ref (u12.2.1 8)]))] H := hP
  have hD : va_D (lw_A s) [(oo, .inl (coo, 1, .inr (.inl u5))), (mo, .inr (16, [.int (u12.2.2 0), .int (u12.2.2 1), .int u12.1, .ref (u12.2.1 0), .ref (u12.2.1 1), .ref (u12.2.1 2), .ref (u12.2.1 3), .ref (u12.2.1 4), .ref (u12.2.1 5), .ref (u12.2.1 6), .ref (u12.2.1 7), .int (u12.2.2 2), .ref (u12.2.1 8)]))] := hD
  have hK : va_K D vwCl [(coo, .long)] s := hK
  refine lv_istore (lv' := [(7, .int r14), (6, .int r7), (5, .int 0), (4, .ref od), (3, .ref oo), (2, .ref mo), (1, .ref x), (0, .ref b)]) hx hb dL_law_1178 hl (by decide) rfl (fun ls hl => ?_)
  refine lv_aload_n hx hb dL_law_1180 rfl (lv_at hl 5 rfl) ?_
  refine mc_i (wr := [(oo, .inl (coo, 1, .inr (.inl u5)))]) (va_runV (As := []) (rest := []) ⟨hx, hb, hml, hown, hts⟩ (c_thrown l hst D mo (u12.2.2 0) (u12.2.2 1) u12.1 (u12.2.1 0) (u12.2.1 1) (u12.2.1 2) (u12.2.1 3) (u12.2.1 4) (u12.2.1 5) (u12.2.1 6) (u12.2.1 7) (u12.2.2 2) (u12.2.1 8) H.size) (cwV 0 hts (gi_c mw_770 rfl (gi_c mw_771 rfl (gi_c mw_772 rfl (gi_c mw_481 rfl (goodIn_sub il_c_thrown (List.all_eq_true.mpr gw_c_thrown)))))) rfl rfl rfl (by decide +kernel) ⟨Nat.le_of_ble_eq_true rfl, Nat.le_of_ble_eq_true rfl⟩) (pr_V (As := []) (b := mo) (C := RX9) hP hD hK hS hA hE [1] [] rfl rfl rfl 1 16 rfl rfl rfl) rfl rfl hl.1 rfl (lv_room (Nat.le_of_ble_eq_true rfl)) dL_law_1181 ⟨Nat.le_of_ble_eq_true rfl, Nat.le_of_ble_eq_true rfl⟩) hP hD hK hS hA [1] [0] rfl rfl (by decide) (by decide) (fun r16 _ H locs w15 hP hD hK hS => ?_)
  have hP : va_P D vwCl [(oo, .inl (coo, 1, .inr (.inl u5))), (mo, .inr (16, [.int (u12.2.2 0), .int (u12.2.2 1), .int u12.1, .ref (u12.2.1 0), .ref (u12.2.1 1), .ref (u12.2.1 2), .ref (u12.2.1 3), .ref (u12.2.1 4), .ref (u12.2.1 5), .ref (u12.2.1 6), .ref (u12.2.1 7), .int (u12.2.2 2), .ref (u12.2.1 8)]))] H := hP
  have hD : va_D (lw_A s) [(oo, .inl (coo, 1, .inr (.inl u5))), (mo, .inr (16, [.int (u12.2.2 0), .int (u12.2.2 1), .int u12.1, .ref (u12.2.1 0), .ref (u12.2.1 1), .ref (u12.2.1 2), .ref (u12.2.1 3), .ref (u12.2.1 4), .ref (u12.2.1 5), .ref (u12.2.1 6), .ref (u12.2.1 7), .int (u12.2.2 2), .ref (u12.2.1 8)]))] := hD
  have hK : va_K D vwCl [(coo, .long)] s := hK
  obtain rfl : r16 = u12.1 := w15
  refine lv_iload hx hb dL_law_1184 (lv_at hl 1 rfl) ?_
  refine lv_icmp_eq (tgt := 1191) hx hb dL_law_1186 (by decide) (fun h17 => ?_) (fun h17 => absurd (by exact (w13.1).trans w6.1.symm) h17)
  refine lv_iload hx hb dL_law_1191 (lv_at hl 1 rfl) ?_
  refine lv_if_ne (tgt := 1208) hx hb dL_law_1193 (by decide) (fun h18 => ?_) (fun h18 => ?_)
  · refine lv_goto (tgt := 3320) hx hb dL_law_1208 (by decide) ?_
    refine W.widen (k := 600006) (n := 7302040) (Nat.le_of_ble_eq_true rfl) (Nat.le_of_ble_eq_true rfl) ?_
    exact hend _ _ _ (lv_sub hl [2, 7] rfl) hS
  · refine lv_aload_n hx hb dL_law_1196 rfl (lv_at hl 4 rfl) ?_
    refine lv_iconst (v := 0) hx hb dL_law_1197 (by decide) ?_
    refine va_lald hx hb hK hP 0 0 rfl rfl (vp_in_nI (n := 0) (by decide) (by decide)) dL_law_1198 ?_
    refine lv_topl (fun x19 e19 => ?_)
    refine lv_iload hx hb dL_law_1199 (lv_at hl 0 rfl) ?_
    refine lv_i2l hx hb dL_law_1201 rfl ?_
    refine lv_topl (fun x20 e20 => ?_)
    refine W.lcmp hx hb dL_law_1202 ?_
    refine lv_topi (fun x21 e21 => ?_)
    refine lv_if_eq (tgt := 1208) hx hb dL_law_1203 (by decide) (fun h22 => ?_) (fun h22 => absurd (by exact e21.trans ((lg_cmp_eq _ _).mpr (e19.trans ((w6.2 (w6.1.symm.trans h18)).trans (e20.trans (congrArg Int32.toInt64 (w13.2 (w6.1.symm.trans h18)))).symm)))) h22)
    refine lv_goto (tgt := 3320) hx hb dL_law_1208 (by decide) ?_
    refine W.widen (k := 600006) (n := 7302040) (Nat.le_of_ble_eq_true rfl) (Nat.le_of_ble_eq_true rfl) ?_
    exact hend _ _ _ (lv_sub hl [2, 7] rfl) hS

set_option maxHeartbeats 4000000 in
set_option maxRecDepth 100000 in
/-- case 14: branches -/
theorem lc_14 (l : Launch) (hst : l.stackTraces = false) (D : va_G) {p : Program} {e : Env} {s : State} {m : MethodId} {below : List Frame} {meth : Method} {c : Code} {b : Nat} {xs : Nat → Int32} {Q : State → Prop} (hx : p.tables.exec = Jvm.exec) (hb : c.code = code) (hml : c.maxLocals = 9) (hown : s.vm.findClass RL = some m.cls) (hts : ∀ w ∈ lw_tbl, w.before #[Value.ref b] s = true) (hX : va_X b 5 xs s s.heap) (hbl : b < s.heap.size) (hE : ex_E D (lw_A s) s s.heap) (hend : lw_End p l e s m below meth c b Q) (x : Nat) (g : Nat) (ca : Nat) (co : Nat) (ra : Nat) (rl : Nat) (tr : Nat) (f9 : Nat) (f10 : Nat) (f11 : Nat) (f12 : Nat) (f13 : Nat) (oo : Nat) (coo : ClassId) (f0 : Nat → Int64) (mo : Nat) (th : Int32) (m1 : Nat) (m2 : Nat) (m3 : Nat) (m4 : Nat) (m5 : Nat) (l1 : Nat) (l2 : Nat) (l3 : Nat) (l4 : Nat) (od : Nat)  {H : Heap} {locs : List Loc} {ls : Array Slot} (hl : lv_has ls 9 [(5, .int 0), (4, .ref od), (3, .ref oo), (2, .ref mo), (1, .ref x), (0, .ref b)]) (hP : va_P D vwCl [(x, .inr (13, [.ref g, .ref ca, .int 0, .ref co, .int 0, .ref ra, .int 0, .ref rl, .ref tr, .ref f9, .ref f10, .ref f11, .ref f12, .ref f13])), (oo, .inl (coo, 1, .inr (.inl f0))), (mo, .inr (16, [.int 5, .int 5, .int th, .ref m1, .ref m2, .ref m3, .ref m4, .ref m5, .ref l1, .ref l2, .ref l3, .int (-1), .ref l4])), (l3, .inr (5, [.int 1, .ref (D.1 1000), .int 0]))] H) (hD : va_D (lw_A s) [(x, .inr (13, [.ref g, .ref ca, .int 0, .ref co, .int 0, .ref ra, .int 0, .ref rl, .ref tr, .ref f9, .ref f10, .ref f11, .ref f12, .ref f13])), (oo, .inl (coo, 1, .inr (.inl f0))), (mo, .inr (16, [.int 5, .int 5, .int th, .ref m1, .ref m2, .ref m3, .ref m4, .ref m5, .ref l1, .ref l2, .ref l3, .int (-1), .ref l4])), (l3, .inr (5, [.int 1, .ref (D.1 1000), .int 0]))]) (hK : va_K D vwCl [(coo, .long)] s) (hS : va_S (lw_A s) s.heap H locs) : W p l e room_1 s m #[Value.ref b] below meth c H locs 167 55824 Q (F0 m 1211 ls []) := by
  have hA : ∀ q : Nat, s.heap.size ≤ q → lw_A s q := fun _ h => h
  have hbA : ¬ lw_A s b := Nat.not_le.mpr hbl
  refine lv_aload_n hx hb dL_law_1211 rfl (lv_at hl 4 rfl) ?_
  refine lv_aload_n hx hb dL_law_1212 rfl (lv_at hl 5 rfl) ?_
  refine lv_iload hx hb dL_law_1213 (lv_at hl 0 rfl) ?_
  refine lv_iconst (v := 1) hx hb dL_law_1215 (by decide) ?_
  refine lv_iadd hx hb dL_law_1216 ?_
  refine lv_topi (fun x1 e1 => ?_)
  obtain rfl : x1 = 1 := e1.trans (by decide)
  refine va_sld hx hb hX hbl hbA hS (vp_in_nI (n := 1) (by decide) (by decide)) dL_law_1217 ?_
  refine lv_topi (fun x2 e2 => ?_)
  obtain rfl : x2 = xs 1 := e2
  refine lv_aload_n hx hb dL_law_1218 rfl (lv_at hl 5 rfl) ?_
  refine lv_iload hx hb dL_law_1219 (lv_at hl 0 rfl) ?_
  refine lv_iconst (v := 2) hx hb dL_law_1221 (by decide) ?_
  refine lv_iadd hx hb dL_law_1222 ?_
  refine lv_topi (fun x3 e3 => ?_)
  obtain rfl : x3 = 2 := e3.trans (by decide)
  refine va_sld hx hb hX hbl hbA hS (vp_in_nI (n := 2) (by decide) (by decide)) dL_law_1223 ?_
  refine lv_topi (fun x4 e4 => ?_)
  obtain rfl : x4 = xs 2 := e4
  refine lv_aload_n hx hb dL_law_1224 rfl (lv_at hl 2 rfl) ?_
  refine mc_i (wr := [(mo, .inr (16, [.int 5, .int 5, .int th, .ref m1, .ref m2, .ref m3, .ref m4, .ref m5, .ref l1, .ref l2, .ref l3, .int (-1), .ref l4])), (l3, .inr (5, [.int 1, .ref (D.1 1000), .int 0]))]) (vx_runSW (As := [.ref x, .int (xs 1), .int (xs 2), .ref oo]) (rest := []) ⟨hx, hb, hml, hown, hts⟩ (c_Lbranches l hst D x g ca co ra rl tr f9 f10 f11 f12 f13 (xs 1) (xs 2) oo coo f0 H.size) (vx_cwSW 4 hts (gi_c mw_839 rfl (gi_c mw_840 rfl (gi_c mw_766 rfl (goodIn_sub il_c_Lbranches (List.all_eq_true.mpr gw_c_Lbranches))))) rfl rfl rfl (by decide +kernel) ⟨Nat.le_of_ble_eq_true rfl, Nat.le_of_ble_eq_true rfl⟩) (pr_S (As := [.ref x, .int (xs 1), .int (xs 2), .ref oo]) hP hD hK hS hA hE [0, 1] [0] rfl rfl rfl) rfl rfl hl.1 rfl (lv_room (Nat.le_of_ble_eq_true rfl)) dL_law_1225 ⟨Nat.le_of_ble_eq_true rfl, Nat.le_of_ble_eq_true rfl⟩) hP hD hK hS hA [0, 1] [2, 3] rfl rfl (by decide) (by decide) (fun r7 u5 H locs w6 hP hD hK hS => ?_)
  have hP : va_P D vwCl [(mo, .inr (16, [.int 5, .int 5, .int th, .ref m1, .ref m2, .ref m3, .ref m4, .ref m5, .ref l1, .ref l2, .ref l3, .int (-1), .ref l4])), (l3, .inr (5, [.int 1, .ref (D.1 1000), .int 0])), (oo, .inl (coo, 1, .inr (.inl u5)))] H := hP
  have hD : va_D (lw_A s) [(mo, .inr (16, [.int 5, .int 5, .int th, .ref m1, .ref m2, .ref m3, .ref m4, .ref m5, .ref l1, .ref l2, .ref l3, .int (-1), .ref l4])), (l3, .inr (5, [.int 1, .ref (D.1 1000), .int 0])), (oo, .inl (coo, 1, .inr (.inl u5)))] := hD
  have hK : va_K D vwCl [(coo, .long)] s := hK
  refine lv_istore (lv' := [(6, .int r7), (5, .int 0), (4, .ref od), (3, .ref oo), (2, .ref mo), (1, .ref x), (0, .ref b)]) hx hb dL_law_1228 hl (by decide) rfl (fun ls hl => ?_)
  refine lv_aload_n hx hb dL_law_1230 rfl (lv_at hl 4 rfl) ?_
  refine lv_aload_n hx hb dL_law_1231 rfl (lv_at hl 6 rfl) ?_
  refine lv_iload hx hb dL_law_1232 (lv_at hl 1 rfl) ?_
  refine lv_iconst (v := 1) hx hb dL_law_1234 (by decide) ?_
  refine lv_iadd hx hb dL_law_1235 ?_
  refine lv_topi (fun x8 e8 => ?_)
  obtain rfl : x8 = 1 := e8.trans (by decide)
  refine va_sld hx hb hX hbl hbA hS (vp_in_nI (n := 1) (by decide) (by decide)) dL_law_1236 ?_
  refine lv_topi (fun x9 e9 => ?_)
  obtain rfl : x9 = xs 1 := e9
  refine lv_aload_n hx hb dL_law_1237 rfl (lv_at hl 6 rfl) ?_
  refine lv_iload hx hb dL_law_1238 (lv_at hl 1 rfl) ?_
  refine lv_iconst (v := 2) hx hb dL_law_1240 (by decide) ?_
  refine lv_iadd hx hb dL_law_1241 ?_
  refine lv_topi (fun x10 e10 => ?_)
  obtain rfl : x10 = 2 := e10.trans (by decide)
  refine va_sld hx hb hX hbl hbA hS (vp_in_nI (n := 2) (by decide) (by decide)) dL_law_1242 ?_
  refine lv_topi (fun x11 e11 => ?_)
  obtain rfl : x11 = xs 2 := e11
  refine mc_i (wr := [(oo, .inl (coo, 1, .inr (.inl u5)))]) (va_runV (As := [.int (xs 1), .int (xs 2)]) (rest := []) ⟨hx, hb, hml, hown, hts⟩ (c_mbranches l hst D mo th m1 m2 m3 m4 m5 l1 l2 l3 l4 (xs 1) (xs 2) H.size) (cwV 2 hts (gi_c mw_841 rfl (gi_c mw_842 rfl (gi_c mw_843 rfl (gi_c mw_481 rfl (goodIn_sub il_c_mbranches (List.all_eq_true.mpr gw_c_mbranches)))))) rfl rfl rfl (by decide +kernel) ⟨Nat.le_of_ble_eq_true rfl, Nat.le_of_ble_eq_true rfl⟩) (pr_V (As := [.int (xs 1), .int (xs 2)]) (b := mo) (C := RX9) hP hD hK hS hA hE [0, 1] [] rfl rfl rfl 0 16 rfl rfl rfl) rfl rfl hl.1 rfl (lv_room (Nat.le_of_ble_eq_true rfl)) dL_law_1243 ⟨Nat.le_of_ble_eq_true rfl, Nat.le_of_ble_eq_true rfl⟩) hP hD hK hS hA [0, 1] [2] rfl rfl (by decide) (by decide) (fun r14 u12 H locs w13 hP hD hK hS => ?_)
  have hP : va_P D vwCl [(oo, .inl (coo, 1, .inr (.inl u5))), (mo, .inr (16, [.int (u12.2.2 0), .int (u12.2.2 1), .int u12.1, .ref (u12.2.1 0), .ref (u12.2.1 1), .ref (u12.2.1 2), .ref (u12.2.1 3), .ref (u12.2.1 4), .ref (u12.2.1 5), .ref (u12.2.1 6), .ref (u12.2.1 7), .int (u12.2.2 2), .ref (u12.2.1 8)]))] H := hP
  have hD : va_D (lw_A s) [(oo, .inl (coo, 1, .inr (.inl u5))), (mo, .inr (16, [.int (u12.2.2 0), .int (u12.2.2 1), .int u12.1, .ref (u12.2.1 0), .ref (u12.2.1 1), .ref (u12.2.1 2), .ref (u12.2.1 3), .ref (u12.2.1 4), .ref (u12.2.1 5), .ref (u12.2.1 6), .ref (u12.2.1 7), .int (u12.2.2 2), .ref (u12.2.1 8)]))] := hD
  have hK : va_K D vwCl [(coo, .long)] s := hK
  refine lv_istore (lv' := [(7, .int r14), (6, .int r7), (5, .int 0), (4, .ref od), (3, .ref oo), (2, .ref mo), (1, .ref x), (0, .ref b)]) hx hb dL_law_1246 hl (by decide) rfl (fun ls hl => ?_)
  refine lv_aload_n hx hb dL_law_1248 rfl (lv_at hl 5 rfl) ?_
  refine mc_i (wr := [(oo, .inl (coo, 1, .inr (.inl u5)))]) (va_runV (As := []) (rest := []) ⟨hx, hb, hml, hown, hts⟩ (c_thrown l hst D mo (u12.2.2 0) (u12.2.2 1) u12.1 (u12.2.1 0) (u12.2.1 1) (u12.2.1 2) (u12.2.1 3) (u12.2.1 4) (u12.2.1 5) (u12.2.1 6) (u12.2.1 7) (u12.2.2 2) (u12.2.1 8) H.size) (cwV 0 hts (gi_c mw_770 rfl (gi_c mw_771 rfl (gi_c mw_772 rfl (gi_c mw_481 rfl (goodIn_sub il_c_thrown (List.all_eq_true.mpr gw_c_thrown)))))) rfl rfl rfl (by decide +kernel) ⟨Nat.le_of_ble_eq_true rfl, Nat.le_of_ble_eq_true rfl⟩) (pr_V (As := []) (b := mo) (C := RX9) hP hD hK hS hA hE [1] [] rfl rfl rfl 1 16 rfl rfl rfl) rfl rfl hl.1 rfl (lv_room (Nat.le_of_ble_eq_true rfl)) dL_law_1249 ⟨Nat.le_of_ble_eq_true rfl, Nat.le_of_ble_eq_true rfl⟩) hP hD hK hS hA [1] [0] rfl rfl (by decide) (by decide) (fun r16 _ H locs w15 hP hD hK hS => ?_)
  have hP : va_P D vwCl [(oo, .inl (coo, 1, .inr (.inl u5))), (mo, .inr (16, [.int (u12.2.2 0), .int (u12.2.2 1), .int u12.1, .ref (u12.2.1 0), .ref (u12.2.1 1), .ref (u12.2.1 2), .ref (u12.2.1 3), .ref (u12.2.1 4), .ref (u12.2.1 5), .ref (u12.2.1 6), .ref (u12.2.1 7), .int (u12.2.2 2), .ref (u12.2.1 8)]))] H := hP
  have hD : va_D (lw_A s) [(oo, .inl (coo, 1, .inr (.inl u5))), (mo, .inr (16, [.int (u12.2.2 0), .int (u12.2.2 1), .int u12.1, .ref (u12.2.1 0), .ref (u12.2.1 1), .ref (u12.2.1 2), .ref (u12.2.1 3), .ref (u12.2.1 4), .ref (u12.2.1 5), .ref (u12.2.1 6), .ref (u12.2.1 7), .int (u12.2.2 2), .ref (u12.2.1 8)]))] := hD
  have hK : va_K D vwCl [(coo, .long)] s := hK
  obtain rfl : r16 = u12.1 := w15
  refine lv_iload hx hb dL_law_1252 (lv_at hl 1 rfl) ?_
  refine lv_icmp_eq (tgt := 1259) hx hb dL_law_1254 (by decide) (fun h17 => ?_) (fun h17 => absurd (by exact (w13).trans w6.1.symm) h17)
  refine lv_iload hx hb dL_law_1259 (lv_at hl 1 rfl) ?_
  refine lv_if_ne (tgt := 1276) hx hb dL_law_1261 (by decide) (fun h18 => ?_) (fun h18 => absurd h18 (by exact fun q9 => absurd (show (1 : Int32) = 0 from w6.1.symm.trans q9) (by decide)))
  refine lv_goto (tgt := 3320) hx hb dL_law_1276 (by decide) ?_
  refine W.widen (k := 600006) (n := 7302040) (Nat.le_of_ble_eq_true rfl) (Nat.le_of_ble_eq_true rfl) ?_
  exact hend _ _ _ (lv_sub hl [2, 7] rfl) hS

set_option maxHeartbeats 4000000 in
set_option maxRecDepth 100000 in
/-- case 15: start -/
theorem lc_15 (l : Launch) (hst : l.stackTraces = false) (D : va_G) {p : Program} {e : Env} {s : State} {m : MethodId} {below : List Frame} {meth : Method} {c : Code} {b : Nat} {xs : Nat → Int32} {Q : State → Prop} (hx : p.tables.exec = Jvm.exec) (hb : c.code = code) (hml : c.maxLocals = 9) (hown : s.vm.findClass RL = some m.cls) (hts : ∀ w ∈ lw_tbl, w.before #[Value.ref b] s = true) (hX : va_X b 5 xs s s.heap) (hbl : b < s.heap.size) (hE : ex_E D (lw_A s) s s.heap) (hend : lw_End p l e s m below meth c b Q) (x : Nat) (g : Nat) (ca : Nat) (co : Nat) (ra : Nat) (rl : Nat) (tr : Nat) (f9 : Nat) (f10 : Nat) (f11 : Nat) (f12 : Nat) (f13 : Nat) (oo : Nat) (coo : ClassId) (f0 : Nat → Int64) (mo : Nat) (th : Int32) (m1 : Nat) (m2 : Nat) (m3 : Nat) (m4 : Nat) (m5 : Nat) (l1 : Nat) (l2 : Nat) (l3 : Nat) (l4 : Nat) (od : Nat)  {H : Heap} {locs : List Loc} {ls : Array Slot} (hl : lv_has ls 9 [(5, .int 0), (4, .ref od), (3, .ref oo), (2, .ref mo), (1, .ref x), (0, .ref b)]) (hP : va_P D vwCl [(x, .inr (13, [.ref g, .ref ca, .int 0, .ref co, .int 0, .ref ra, .int 0, .ref rl, .ref tr, .ref f9, .ref f10, .ref f11, .ref f12, .ref f13])), (oo, .inl (coo, 1, .inr (.inl f0))), (mo, .inr (16, [.int 5, .int 5, .int th, .ref m1, .ref m2, .ref m3, .ref m4, .ref m5, .ref l1, .ref l2, .ref l3, .int (-1), .ref l4])), (l3, .inr (5, [.int 1, .ref (D.1 1000), .int 0]))] H) (hD : va_D (lw_A s) [(x, .inr (13, [.ref g, .ref ca, .int 0, .ref co, .int 0, .ref ra, .int 0, .ref rl, .ref tr, .ref f9, .ref f10, .ref f11, .ref f12, .ref f13])), (oo, .inl (coo, 1, .inr (.inl f0))), (mo, .inr (16, [.int 5, .int 5, .int th, .ref m1, .ref m2, .ref m3, .ref m4, .ref m5, .ref l1, .ref l2, .ref l3, .int (-1), .ref l4])), (l3, .inr (5, [.int 1, .ref (D.1 1000), .int 0]))]) (hK : va_K D vwCl [(coo, .long)] s) (hS : va_S (lw_A s) s.heap H locs) : W p l e room_1 s m #[Value.ref b] below meth c H locs 167 55824 Q (F0 m 1279 ls []) := by
  have hA : ∀ q : Nat, s.heap.size ≤ q → lw_A s q := fun _ h => h
  have hbA : ¬ lw_A s b := Nat.not_le.mpr hbl
  refine lv_aload_n hx hb dL_law_1279 rfl (lv_at hl 4 rfl) ?_
  refine lv_aload_n hx hb dL_law_1280 rfl (lv_at hl 5 rfl) ?_
  refine lv_iload hx hb dL_law_1281 (lv_at hl 0 rfl) ?_
  refine lv_iconst (v := 1) hx hb dL_law_1283 (by decide) ?_
  refine lv_iadd hx hb dL_law_1284 ?_
  refine lv_topi (fun x1 e1 => ?_)
  obtain rfl : x1 = 1 := e1.trans (by decide)
  refine va_sld hx hb hX hbl hbA hS (vp_in_nI (n := 1) (by decide) (by decide)) dL_law_1285 ?_
  refine lv_topi (fun x2 e2 => ?_)
  obtain rfl : x2 = xs 1 := e2
  refine lv_aload_n hx hb dL_law_1286 rfl (lv_at hl 5 rfl) ?_
  refine lv_iload hx hb dL_law_1287 (lv_at hl 0 rfl) ?_
  refine lv_iconst (v := 2) hx hb dL_law_1289 (by decide) ?_
  refine lv_iadd hx hb dL_law_1290 ?_
  refine lv_topi (fun x3 e3 => ?_)
  obtain rfl : x3 = 2 := e3.trans (by decide)
  refine va_sld hx hb hX hbl hbA hS (vp_in_nI (n := 2) (by decide) (by decide)) dL_law_1291 ?_
  refine lv_topi (fun x4 e4 => ?_)
  obtain rfl : x4 = xs 2 := e4
  refine lv_aload_n hx hb dL_law_1292 rfl (lv_at hl 2 rfl) ?_
  refine mc_i (wr := [(mo, .inr (16, [.int 5, .int 5, .int th, .ref m1, .ref m2, .ref m3, .ref m4, .ref m5, .ref l1, .ref l2, .ref l3, .int (-1), .ref l4])), (l3, .inr (5, [.int 1, .ref (D.1 1000), .int 0]))]) (vx_runSW (As := [.ref x, .int (xs 1), .int (xs 2), .ref oo]) (rest := []) ⟨hx, hb, hml, hown, hts⟩ (c_Lstart l hst D x g ca co ra rl tr f9 f10 f11 f12 f13 (xs 1) (xs 2) oo coo f0 H.size) (vx_cwSW 4 hts (gi_c mw_844 rfl (gi_c mw_845 rfl (gi_c mw_766 rfl (goodIn_sub il_c_Lstart (List.all_eq_true.mpr gw_c_Lstart))))) rfl rfl rfl (by decide +kernel) ⟨Nat.le_of_ble_eq_true rfl, Nat.le_of_ble_eq_true rfl⟩) (pr_S (As := [.ref x, .int (xs 1), .int (xs 2), .ref oo]) hP hD hK hS hA hE [0, 1] [0] rfl rfl rfl) rfl rfl hl.1 rfl (lv_room (Nat.le_of_ble_eq_true rfl)) dL_law_1293 ⟨Nat.le_of_ble_eq_true rfl, Nat.le_of_ble_eq_true rfl⟩) hP hD hK hS hA [0, 1] [2, 3] rfl rfl (by decide) (by decide) (fun r7 u5 H locs w6 hP hD hK hS => ?_)
  have hP : va_P D vwCl [(mo, .inr (16, [.int 5, .int 5, .int th, .ref m1, .ref m2, .ref m3, .ref m4, .ref m5, .ref l1, .ref l2, .ref l3, .int (-1), .ref l4])), (l3, .inr (5, [.int 1, .ref (D.1 1000), .int 0])), (oo, .inl (coo, 1, .inr (.inl u5)))] H := hP
  have hD : va_D (lw_A s) [(mo, .inr (16, [.int 5, .int 5, .int th, .ref m1, .ref m2, .ref m3, .ref m4, .ref m5, .ref l1, .ref l2, .ref l3, .int (-1), .ref l4])), (l3, .inr (5, [.int 1, .ref (D.1 1000), .int 0])), (oo, .inl (coo, 1, .inr (.inl u5)))] := hD
  have hK : va_K D vwCl [(coo, .long)] s := hK
  refine lv_istore (lv' := [(6, .int r7), (5, .int 0), (4, .ref od), (3, .ref oo), (2, .ref mo), (1, .ref x), (0, .ref b)]) hx hb dL_law_1296 hl (by decide) rfl (fun ls hl => ?_)
  refine lv_aload_n hx hb dL_law_1298 rfl (lv_at hl 4 rfl) ?_
  refine lv_aload_n hx hb dL_law_1299 rfl (lv_at hl 6 rfl) ?_
  refine lv_iload hx hb dL_law_1300 (lv_at hl 1 rfl) ?_
  refine lv_iconst (v := 1) hx hb dL_law_1302 (by decide) ?_
  refine lv_iadd hx hb dL_law_1303 ?_
  refine lv_topi (fun x8 e8 => ?_)
  obtain rfl : x8 = 1 := e8.trans (by decide)
  refine va_sld hx hb hX hbl hbA hS (vp_in_nI (n := 1) (by decide) (by decide)) dL_law_1304 ?_
  refine lv_topi (fun x9 e9 => ?_)
  obtain rfl : x9 = xs 1 := e9
  refine lv_aload_n hx hb dL_law_1305 rfl (lv_at hl 6 rfl) ?_
  refine lv_iload hx hb dL_law_1306 (lv_at hl 1 rfl) ?_
  refine lv_iconst (v := 2) hx hb dL_law_1308 (by decide) ?_
  refine lv_iadd hx hb dL_law_1309 ?_
  refine lv_topi (fun x10 e10 => ?_)
  obtain rfl : x10 = 2 := e10.trans (by decide)
  refine va_sld hx hb hX hbl hbA hS (vp_in_nI (n := 2) (by decide) (by decide)) dL_law_1310 ?_
  refine lv_topi (fun x11 e11 => ?_)
  obtain rfl : x11 = xs 2 := e11
  refine mc_i (wr := [(oo, .inl (coo, 1, .inr (.inl u5)))]) (va_runV (As := [.int (xs 1), .int (xs 2)]) (rest := []) ⟨hx, hb, hml, hown, hts⟩ (c_mstart l hst D mo th m1 m2 m3 m4 m5 l1 l2 l3 l4 (xs 1) (xs 2) H.size) (cwV 2 hts (gi_c mw_846 rfl (gi_c mw_847 rfl (gi_c mw_848 rfl (gi_c mw_481 rfl (goodIn_sub il_c_mstart (List.all_eq_true.mpr gw_c_mstart)))))) rfl rfl rfl (by decide +kernel) ⟨Nat.le_of_ble_eq_true rfl, Nat.le_of_ble_eq_true rfl⟩) (pr_V (As := [.int (xs 1), .int (xs 2)]) (b := mo) (C := RX9) hP hD hK hS hA hE [0, 1] [] rfl rfl rfl 0 16 rfl rfl rfl) rfl rfl hl.1 rfl (lv_room (Nat.le_of_ble_eq_true rfl)) dL_law_1311 ⟨Nat.le_of_ble_eq_true rfl, Nat.le_of_ble_eq_true rfl⟩) hP hD hK hS hA [0, 1] [2] rfl rfl (by decide) (by decide) (fun r14 u12 H locs w13 hP hD hK hS => ?_)
  have hP : va_P D vwCl [(oo, .inl (coo, 1, .inr (.inl u5))), (mo, .inr (16, [.int (u12.2.2 0), .int (u12.2.2 1), .int u12.1, .ref (u12.2.1 0), .ref (u12.2.1 1), .ref (u12.2.1 2), .ref (u12.2.1 3), .ref (u12.2.1 4), .ref (u12.2.1 5), .ref (u12.2.1 6), .ref (u12.2.1 7), .int (u12.2.2 2), .ref (u12.2.1 8)]))] H := hP
  have hD : va_D (lw_A s) [(oo, .inl (coo, 1, .inr (.inl u5))), (mo, .inr (16, [.int (u12.2.2 0), .int (u12.2.2 1), .int u12.1, .ref (u12.2.1 0), .ref (u12.2.1 1), .ref (u12.2.1 2), .ref (u12.2.1 3), .ref (u12.2.1 4), .ref (u12.2.1 5), .ref (u12.2.1 6), .ref (u12.2.1 7), .int (u12.2.2 2), .ref (u12.2.1 8)]))] := hD
  have hK : va_K D vwCl [(coo, .long)] s := hK
  refine lv_istore (lv' := [(7, .int r14), (6, .int r7), (5, .int 0), (4, .ref od), (3, .ref oo), (2, .ref mo), (1, .ref x), (0, .ref b)]) hx hb dL_law_1314 hl (by decide) rfl (fun ls hl => ?_)
  refine lv_aload_n hx hb dL_law_1316 rfl (lv_at hl 5 rfl) ?_
  refine mc_i (wr := [(oo, .inl (coo, 1, .inr (.inl u5)))]) (va_runV (As := []) (rest := []) ⟨hx, hb, hml, hown, hts⟩ (c_thrown l hst D mo (u12.2.2 0) (u12.2.2 1) u12.1 (u12.2.1 0) (u12.2.1 1) (u12.2.1 2) (u12.2.1 3) (u12.2.1 4) (u12.2.1 5) (u12.2.1 6) (u12.2.1 7) (u12.2.2 2) (u12.2.1 8) H.size) (cwV 0 hts (gi_c mw_770 rfl (gi_c mw_771 rfl (gi_c mw_772 rfl (gi_c mw_481 rfl (goodIn_sub il_c_thrown (List.all_eq_true.mpr gw_c_thrown)))))) rfl rfl rfl (by decide +kernel) ⟨Nat.le_of_ble_eq_true rfl, Nat.le_of_ble_eq_true rfl⟩) (pr_V (As := []) (b := mo) (C := RX9) hP hD hK hS hA hE [1] [] rfl rfl rfl 1 16 rfl rfl rfl) rfl rfl hl.1 rfl (lv_room (Nat.le_of_ble_eq_true rfl)) dL_law_1317 ⟨Nat.le_of_ble_eq_true rfl, Nat.le_of_ble_eq_true rfl⟩) hP hD hK hS hA [1] [0] rfl rfl (by decide) (by decide) (fun r16 _ H locs w15 hP hD hK hS => ?_)
  have hP : va_P D vwCl [(oo, .inl (coo, 1, .inr (.inl u5))), (mo, .inr (16, [.int (u12.2.2 0), .int (u12.2.2 1), .int u12.1, .ref (u12.2.1 0), .ref (u12.2.1 1), .ref (u12.2.1 2), .ref (u12.2.1 3), .ref (u12.2.1 4), .ref (u12.2.1 5), .ref (u12.2.1 6), .ref (u12.2.1 7), .int (u12.2.2 2), .ref (u12.2.1 8)]))] H := hP
  have hD : va_D (lw_A s) [(oo, .inl (coo, 1, .inr (.inl u5))), (mo, .inr (16, [.int (u12.2.2 0), .int (u12.2.2 1), .int u12.1, .ref (u12.2.1 0), .ref (u12.2.1 1), .ref (u12.2.1 2), .ref (u12.2.1 3), .ref (u12.2.1 4), .ref (u12.2.1 5), .ref (u12.2.1 6), .ref (u12.2.1 7), .int (u12.2.2 2), .ref (u12.2.1 8)]))] := hD
  have hK : va_K D vwCl [(coo, .long)] s := hK
  obtain rfl : r16 = u12.1 := w15
  refine lv_iload hx hb dL_law_1320 (lv_at hl 1 rfl) ?_
  refine lv_icmp_eq (tgt := 1327) hx hb dL_law_1322 (by decide) (fun h17 => ?_) (fun h17 => absurd (by exact (w13).trans w6.1.symm) h17)
  refine lv_iload hx hb dL_law_1327 (lv_at hl 1 rfl) ?_
  refine lv_if_ne (tgt := 1344) hx hb dL_law_1329 (by decide) (fun h18 => ?_) (fun h18 => absurd h18 (by exact fun q9 => absurd (show (1 : Int32) = 0 from w6.1.symm.trans q9) (by decide)))
  refine lv_goto (tgt := 3320) hx hb dL_law_1344 (by decide) ?_
  refine W.widen (k := 600006) (n := 7302040) (Nat.le_of_ble_eq_true rfl) (Nat.le_of_ble_eq_true rfl) ?_
  exact hend _ _ _ (lv_sub hl [2, 7] rfl) hS

set_option maxHeartbeats 4000000 in
set_option maxRecDepth 100000 in
/-- case 16: draw -/
theorem lc_16 (l : Launch) (hst : l.stackTraces = false) (D : va_G) {p : Program} {e : Env} {s : State} {m : MethodId} {below : List Frame} {meth : Method} {c : Code} {b : Nat} {xs : Nat → Int32} {Q : State → Prop} (hx : p.tables.exec = Jvm.exec) (hb : c.code = code) (hml : c.maxLocals = 9) (hown : s.vm.findClass RL = some m.cls) (hts : ∀ w ∈ lw_tbl, w.before #[Value.ref b] s = true) (hX : va_X b 5 xs s s.heap) (hbl : b < s.heap.size) (hE : ex_E D (lw_A s) s s.heap) (hend : lw_End p l e s m below meth c b Q) (x : Nat) (g : Nat) (ca : Nat) (co : Nat) (ra : Nat) (rl : Nat) (tr : Nat) (f9 : Nat) (f10 : Nat) (f11 : Nat) (f12 : Nat) (f13 : Nat) (oo : Nat) (coo : ClassId) (f0 : Nat → Int64) (mo : Nat) (th : Int32) (m1 : Nat) (m2 : Nat) (m3 : Nat) (m4 : Nat) (m5 : Nat) (l1 : Nat) (l2 : Nat) (l3 : Nat) (l4 : Nat) (od : Nat)  {H : Heap} {locs : List Loc} {ls : Array Slot} (hl : lv_has ls 9 [(5, .int 0), (4, .ref od), (3, .ref oo), (2, .ref mo), (1, .ref x), (0, .ref b)]) (hP : va_P D vwCl [(x, .inr (13, [.ref g, .ref ca, .int 0, .ref co, .int 0, .ref ra, .int 0, .ref rl, .ref tr, .ref f9, .ref f10, .ref f11, .ref f12, .ref f13])), (oo, .inl (coo, 1, .inr (.inl f0))), (mo, .inr (16, [.int 5, .int 5, .int th, .ref m1, .ref m2, .ref m3, .ref m4, .ref m5, .ref l1, .ref l2, .ref l3, .int (-1), .ref l4])), (l2, .inr (5, [.int 1, .ref (D.1 1000), .int 0]))] H) (hD : va_D (lw_A s) [(x, .inr (13, [.ref g, .ref ca, .int 0, .ref co, .int 0, .ref ra, .int 0, .ref rl, .ref tr, .ref f9, .ref f10, .ref f11, .ref f12, .ref f13])), (oo, .inl (coo, 1, .inr (.inl f0))), (mo, .inr (16, [.int 5, .int 5, .int th, .ref m1, .ref m2, .ref m3, .ref m4, .ref m5, .ref l1, .ref l2, .ref l3, .int (-1), .ref l4])), (l2, .inr (5, [.int 1, .ref (D.1 1000), .int 0]))]) (hK : va_K D vwCl [(coo, .long)] s) (hS : va_S (lw_A s) s.heap H locs) : W p l e room_1 s m #[Value.ref b] below meth c H locs 167 55824 Q (F0 m 1347 ls []) := by
  have hA : ∀ q : Nat, s.heap.size ≤ q → lw_A s q := fun _ h => h
  have hbA : ¬ lw_A s b := Nat.not_le.mpr hbl
  refine lv_aload_n hx hb dL_law_1347 rfl (lv_at hl 4 rfl) ?_
  refine lv_aload_n hx hb dL_law_1348 rfl (lv_at hl 5 rfl) ?_
  refine lv_iload hx hb dL_law_1349 (lv_at hl 0 rfl) ?_
  refine lv_iconst (v := 1) hx hb dL_law_1351 (by decide) ?_
  refine lv_iadd hx hb dL_law_1352 ?_
  refine lv_topi (fun x1 e1 => ?_)
  obtain rfl : x1 = 1 := e1.trans (by decide)
  refine va_sld hx hb hX hbl hbA hS (vp_in_nI (n := 1) (by decide) (by decide)) dL_law_1353 ?_
  refine lv_topi (fun x2 e2 => ?_)
  obtain rfl : x2 = xs 1 := e2
  refine lv_aload_n hx hb dL_law_1354 rfl (lv_at hl 5 rfl) ?_
  refine lv_iload hx hb dL_law_1355 (lv_at hl 0 rfl) ?_
  refine lv_iconst (v := 2) hx hb dL_law_1357 (by decide) ?_
  refine lv_iadd hx hb dL_law_1358 ?_
  refine lv_topi (fun x3 e3 => ?_)
  obtain rfl : x3 = 2 := e3.trans (by decide)
  refine va_sld hx hb hX hbl hbA hS (vp_in_nI (n := 2) (by decide) (by decide)) dL_law_1359 ?_
  refine lv_topi (fun x4 e4 => ?_)
  obtain rfl : x4 = xs 2 := e4
  refine lv_aload_n hx hb dL_law_1360 rfl (lv_at hl 5 rfl) ?_
  refine lv_iload hx hb dL_law_1361 (lv_at hl 0 rfl) ?_
  refine lv_iconst (v := 3) hx hb dL_law_1363 (by decide) ?_
  refine lv_iadd hx hb dL_law_1364 ?_
  refine lv_topi (fun x5 e5 => ?_)
  obtain rfl : x5 = 3 := e5.trans (by decide)
  refine va_sld hx hb hX hbl hbA hS (vp_in_nI (n := 3) (by decide) (by decide)) dL_law_1365 ?_
  refine lv_topi (fun x6 e6 => ?_)
  obtain rfl : x6 = xs 3 := e6
  refine lv_aload_n hx hb dL_law_1366 rfl (lv_at hl 5 rfl) ?_
  refine lv_iload hx hb dL_law_1367 (lv_at hl 0 rfl) ?_
  refine lv_iconst (v := 4) hx hb dL_law_1369 (by decide) ?_
  refine lv_iadd hx hb dL_law_1370 ?_
  refine lv_topi (fun x7 e7 => ?_)
  obtain rfl : x7 = 4 := e7.trans (by decide)
  refine va_sld hx hb hX hbl hbA hS (vp_in_nI (n := 4) (by decide) (by decide)) dL_law_1371 ?_
  refine lv_topi (fun x8 e8 => ?_)
  obtain rfl : x8 = xs 4 := e8
  refine lv_aload_n hx hb dL_law_1372 rfl (lv_at hl 2 rfl) ?_
  refine mc_i (wr := [(mo, .inr (16, [.int 5, .int 5, .int th, .ref m1, .ref m2, .ref m3, .ref m4, .ref m5, .ref l1, .ref l2, .ref l3, .int (-1), .ref l4])), (l2, .inr (5, [.int 1, .ref (D.1 1000), .int 0]))]) (vx_runSW (As := [.ref x, .int (xs 1), .int (xs 2), .int (xs 3), .int (xs 4), .ref oo]) (rest := []) ⟨hx, hb, hml, hown, hts⟩ (c_Ldraw l hst D x g ca co ra rl tr f9 f10 f11 f12 f13 (xs 1) (xs 2) (xs 3) (xs 4) oo coo f0 H.size) (vx_cwSW 6 hts (gi_c mw_849 rfl (gi_c mw_850 rfl (gi_c mw_766 rfl (goodIn_sub il_c_Ldraw (List.all_eq_true.mpr gw_c_Ldraw))))) rfl rfl rfl (by decide +kernel) ⟨Nat.le_of_ble_eq_true rfl, Nat.le_of_ble_eq_true rfl⟩) (pr_S (As := [.ref x, .int (xs 1), .int (xs 2), .int (xs 3), .int (xs 4), .ref oo]) hP hD hK hS hA hE [0, 1] [0] rfl rfl rfl) rfl rfl hl.1 rfl (lv_room (Nat.le_of_ble_eq_true rfl)) dL_law_1373 ⟨Nat.le_of_ble_eq_true rfl, Nat.le_of_ble_eq_true rfl⟩) hP hD hK hS hA [0, 1] [2, 3] rfl rfl (by decide) (by decide) (fun r11 u9 H locs w10 hP hD hK hS => ?_)
  have hP : va_P D vwCl [(mo, .inr (16, [.int 5, .int 5, .int th, .ref m1, .ref m2, .ref m3, .ref m4, .ref m5, .ref l1, .ref l2, .ref l3, .int (-1), .ref l4])), (l2, .inr (5, [.int 1, .ref (D.1 1000), .int 0])), (oo, .inl (coo, 1, .inr (.inl u9)))] H := hP
  have hD : va_D (lw_A s) [(mo, .inr (16, [.int 5, .int 5, .int th, .ref m1, .ref m2, .ref m3, .ref m4, .ref m5, .ref l1, .ref l2, .ref l3, .int (-1), .ref l4])), (l2, .inr (5, [.int 1, .ref (D.1 1000), .int 0])), (oo, .inl (coo, 1, .inr (.inl u9)))] := hD
  have hK : va_K D vwCl [(coo, .long)] s := hK
  refine lv_istore (lv' := [(6, .int r11), (5, .int 0), (4, .ref od), (3, .ref oo), (2, .ref mo), (1, .ref x), (0, .ref b)]) hx hb dL_law_1376 hl (by decide) rfl (fun ls hl => ?_)
  refine lv_aload_n hx hb dL_law_1378 rfl (lv_at hl 4 rfl) ?_
  refine lv_aload_n hx hb dL_law_1379 rfl (lv_at hl 6 rfl) ?_
  refine lv_iload hx hb dL_law_1380 (lv_at hl 1 rfl) ?_
  refine lv_iconst (v := 1) hx hb dL_law_1382 (by decide) ?_
  refine lv_iadd hx hb dL_law_1383 ?_
  refine lv_topi (fun x12 e12 => ?_)
  obtain rfl : x12 = 1 := e12.trans (by decide)
  refine va_sld hx hb hX hbl hbA hS (vp_in_nI (n := 1) (by decide) (by decide)) dL_law_1384 ?_
  refine lv_topi (fun x13 e13 => ?_)
  obtain rfl : x13 = xs 1 := e13
  refine lv_aload_n hx hb dL_law_1385 rfl (lv_at hl 6 rfl) ?_
  refine lv_iload hx hb dL_law_1386 (lv_at hl 1 rfl) ?_
  refine lv_iconst (v := 2) hx hb dL_law_1388 (by decide) ?_
  refine lv_iadd hx hb dL_law_1389 ?_
  refine lv_topi (fun x14 e14 => ?_)
  obtain rfl : x14 = 2 := e14.trans (by decide)
  refine va_sld hx hb hX hbl hbA hS (vp_in_nI (n := 2) (by decide) (by decide)) dL_law_1390 ?_
  refine lv_topi (fun x15 e15 => ?_)
  obtain rfl : x15 = xs 2 := e15
  refine lv_aload_n hx hb dL_law_1391 rfl (lv_at hl 6 rfl) ?_
  refine lv_iload hx hb dL_law_1392 (lv_at hl 1 rfl) ?_
  refine lv_iconst (v := 3) hx hb dL_law_1394 (by decide) ?_
  refine lv_iadd hx hb dL_law_1395 ?_
  refine lv_topi (fun x16 e16 => ?_)
  obtain rfl : x16 = 3 := e16.trans (by decide)
  refine va_sld hx hb hX hbl hbA hS (vp_in_nI (n := 3) (by decide) (by decide)) dL_law_1396 ?_
  refine lv_topi (fun x17 e17 => ?_)
  obtain rfl : x17 = xs 3 := e17
  refine lv_aload_n hx hb dL_law_1397 rfl (lv_at hl 6 rfl) ?_
  refine lv_iload hx hb dL_law_1398 (lv_at hl 1 rfl) ?_
  refine lv_iconst (v := 4) hx hb dL_law_1400 (by decide) ?_
  refine lv_iadd hx hb dL_law_1401 ?_
  refine lv_topi (fun x18 e18 => ?_)
  obtain rfl : x18 = 4 := e18.trans (by decide)
  refine va_sld hx hb hX hbl hbA hS (vp_in_nI (n := 4) (by decide) (by decide)) dL_law_1402 ?_
  refine lv_topi (fun x19 e19 => ?_)
  obtain rfl : x19 = xs 4 := e19
  refine mc_i (wr := [(oo, .inl (coo, 1, .inr (.inl u9)))]) (va_runV (As := [.int (xs 1), .int (xs 2), .int (xs 3), .int (xs 4)]) (rest := []) ⟨hx, hb, hml, hown, hts⟩ (c_mdraw l hst D mo th m1 m2 m3 m4 m5 l1 l2 l3 l4 (xs 1) (xs 2) (xs 3) (xs 4) H.size) (cwV 4 hts (gi_c mw_851 rfl (gi_c mw_852 rfl (gi_c mw_853 rfl (gi_c mw_481 rfl (goodIn_sub il_c_mdraw (List.all_eq_true.mpr gw_c_mdraw)))))) rfl rfl rfl (by decide +kernel) ⟨Nat.le_of_ble_eq_true rfl, Nat.le_of_ble_eq_true rfl⟩) (pr_V (As := [.int (xs 1), .int (xs 2), .int (xs 3), .int (xs 4)]) (b := mo) (C := RX9) hP hD hK hS hA hE [0, 1] [] rfl rfl rfl 0 16 rfl rfl rfl) rfl rfl hl.1 rfl (lv_room (Nat.le_of_ble_eq_true rfl)) dL_law_1403 ⟨Nat.le_of_ble_eq_true rfl, Nat.le_of_ble_eq_true rfl⟩) hP hD hK hS hA [0, 1] [2] rfl rfl (by decide) (by decide) (fun r22 u20 H locs w21 hP hD hK hS => ?_)
  have hP : va_P D vwCl [(oo, .inl (coo, 1, .inr (.inl u9))), (mo, .inr (16, [.int (u20.2.2 0), .int (u20.2.2 1), .int u20.1, .ref (u20.2.1 0), .ref (u20.2.1 1), .ref (u20.2.1 2), .ref (u20.2.1 3), .ref (u20.2.1 4), .ref (u20.2.1 5), .ref (u20.2.1 6), .ref (u20.2.1 7), .int (u20.2.2 2), .ref (u20.2.1 8)]))] H := hP
  have hD : va_D (lw_A s) [(oo, .inl (coo, 1, .inr (.inl u9))), (mo, .inr (16, [.int (u20.2.2 0), .int (u20.2.2 1), .int u20.1, .ref (u20.2.1 0), .ref (u20.2.1 1), .ref (u20.2.1 2), .ref (u20.2.1 3), .ref (u20.2.1 4), .ref (u20.2.1 5), .ref (u20.2.1 6), .ref (u20.2.1 7), .int (u20.2.2 2), .ref (u20.2.1 8)]))] := hD
  have hK : va_K D vwCl [(coo, .long)] s := hK
  refine lv_istore (lv' := [(7, .int r22), (6, .int r11), (5, .int 0), (4, .ref od), (3, .ref oo), (2, .ref mo), (1, .ref x), (0, .ref b)]) hx hb dL_law_1406 hl (by decide) rfl (fun ls hl => ?_)
  refine lv_aload_n hx hb dL_law_1408 rfl (lv_at hl 5 rfl) ?_
  refine mc_i (wr := [(oo, .inl (coo, 1, .inr (.inl u9)))]) (va_runV (As := []) (rest := []) ⟨hx, hb, hml, hown, hts⟩ (c_thrown l hst D mo (u20.2.2 0) (u20.2.2 1) u20.1 (u20.2.1 0) (u20.2.1 1) (u20.2.1 2) (u20.2.1 3) (u20.2.1 4) (u20.2.1 5) (u20.2.1 6) (u20.2.1 7) (u20.2.2 2) (u20.2.1 8) H.size) (cwV 0 hts (gi_c mw_770 rfl (gi_c mw_771 rfl (gi_c mw_772 rfl (gi_c mw_481 rfl (goodIn_sub il_c_thrown (List.all_eq_true.mpr gw_c_thrown)))))) rfl rfl rfl (by decide +kernel) ⟨Nat.le_of_ble_eq_true rfl, Nat.le_of_ble_eq_true rfl⟩) (pr_V (As := []) (b := mo) (C := RX9) hP hD hK hS hA hE [1] [] rfl rfl rfl 1 16 rfl rfl rfl) rfl rfl hl.1 rfl (lv_room (Nat.le_of_ble_eq_true rfl)) dL_law_1409 ⟨Nat.le_of_ble_eq_true rfl, Nat.le_of_ble_eq_true rfl⟩) hP hD hK hS hA [1] [0] rfl rfl (by decide) (by decide) (fun r24 _ H locs w23 hP hD hK hS => ?_)
  have hP : va_P D vwCl [(oo, .inl (coo, 1, .inr (.inl u9))), (mo, .inr (16, [.int (u20.2.2 0), .int (u20.2.2 1), .int u20.1, .ref (u20.2.1 0), .ref (u20.2.1 1), .ref (u20.2.1 2), .ref (u20.2.1 3), .ref (u20.2.1 4), .ref (u20.2.1 5), .ref (u20.2.1 6), .ref (u20.2.1 7), .int (u20.2.2 2), .ref (u20.2.1 8)]))] H := hP
  have hD : va_D (lw_A s) [(oo, .inl (coo, 1, .inr (.inl u9))), (mo, .inr (16, [.int (u20.2.2 0), .int (u20.2.2 1), .int u20.1, .ref (u20.2.1 0), .ref (u20.2.1 1), .ref (u20.2.1 2), .ref (u20.2.1 3), .ref (u20.2.1 4), .ref (u20.2.1 5), .ref (u20.2.1 6), .ref (u20.2.1 7), .int (u20.2.2 2), .ref (u20.2.1 8)]))] := hD
  have hK : va_K D vwCl [(coo, .long)] s := hK
  obtain rfl : r24 = u20.1 := w23
  refine lv_iload hx hb dL_law_1412 (lv_at hl 1 rfl) ?_
  refine lv_icmp_eq (tgt := 1419) hx hb dL_law_1414 (by decide) (fun h25 => ?_) (fun h25 => absurd (by exact (w21).trans w10.1.symm) h25)
  refine lv_iload hx hb dL_law_1419 (lv_at hl 1 rfl) ?_
  refine lv_if_ne (tgt := 1436) hx hb dL_law_1421 (by decide) (fun h26 => ?_) (fun h26 => absurd h26 (by exact fun q9 => absurd (show (1 : Int32) = 0 from w10.1.symm.trans q9) (by decide)))
  refine lv_goto (tgt := 3320) hx hb dL_law_1436 (by decide) ?_
  refine W.widen (k := 600006) (n := 7302040) (Nat.le_of_ble_eq_true rfl) (Nat.le_of_ble_eq_true rfl) ?_
  exact hend _ _ _ (lv_sub hl [2, 7] rfl) hS

set_option maxHeartbeats 4000000 in
set_option maxRecDepth 100000 in
/-- case 17: startOf -/
theorem lc_17 (l : Launch) (hst : l.stackTraces = false) (D : va_G) {p : Program} {e : Env} {s : State} {m : MethodId} {below : List Frame} {meth : Method} {c : Code} {b : Nat} {xs : Nat → Int32} {Q : State → Prop} (hx : p.tables.exec = Jvm.exec) (hb : c.code = code) (hml : c.maxLocals = 9) (hown : s.vm.findClass RL = some m.cls) (hts : ∀ w ∈ lw_tbl, w.before #[Value.ref b] s = true) (hX : va_X b 5 xs s s.heap) (hbl : b < s.heap.size) (hE : ex_E D (lw_A s) s s.heap) (hend : lw_End p l e s m below meth c b Q) (x : Nat) (g : Nat) (ca : Nat) (co : Nat) (ra : Nat) (rl : Nat) (tr : Nat) (f9 : Nat) (f10 : Nat) (f11 : Nat) (f12 : Nat) (f13 : Nat) (oo : Nat) (coo : ClassId) (f0 : Nat → Int64) (mo : Nat) (th : Int32) (m1 : Nat) (m2 : Nat) (m3 : Nat) (m4 : Nat) (m5 : Nat) (l1 : Nat) (l2 : Nat) (l3 : Nat) (l4 : Nat) (od : Nat)  {H : Heap} {locs : List Loc} {ls : Array Slot} (hl : lv_has ls 9 [(5, .int 0), (4, .ref od), (3, .ref oo), (2, .ref mo), (1, .ref x), (0, .ref b)]) (hP : va_P D vwCl [(x, .inr (13, [.ref g, .ref ca, .int 0, .ref co, .int 0, .ref ra, .int 0, .ref rl, .ref tr, .ref f9, .ref f10, .ref f11, .ref f12, .ref f13])), (oo, .inl (coo, 1, .inr (.inl f0))), (mo, .inr (16, [.int 5, .int 5, .int th, .ref m1, .ref m2, .ref m3, .ref m4, .ref m5, .ref l1, .ref l2, .ref l3, .int (-1), .ref l4])), (l3, .inr (5, [.int 1, .ref (D.1 1000), .int 0]))] H) (hD : va_D (lw_A s) [(x, .inr (13, [.ref g, .ref ca, .int 0, .ref co, .int 0, .ref ra, .int 0, .ref rl, .ref tr, .ref f9, .ref f10, .ref f11, .ref f12, .ref f13])), (oo, .inl (coo, 1, .inr (.inl f0))), (mo, .inr (16, [.int 5, .int 5, .int th, .ref m1, .ref m2, .ref m3, .ref m4, .ref m5, .ref l1, .ref l2, .ref l3, .int (-1), .ref l4])), (l3, .inr (5, [.int 1, .ref (D.1 1000), .int 0]))]) (hK : va_K D vwCl [(coo, .long)] s) (hS : va_S (lw_A s) s.heap H locs) : W p l e room_1 s m #[Value.ref b] below meth c H locs 167 55824 Q (F0 m 1439 ls []) := by
  have hA : ∀ q : Nat, s.heap.size ≤ q → lw_A s q := fun _ h => h
  have hbA : ¬ lw_A s b := Nat.not_le.mpr hbl
  refine lv_aload_n hx hb dL_law_1439 rfl (lv_at hl 4 rfl) ?_
  refine lv_aload_n hx hb dL_law_1440 rfl (lv_at hl 5 rfl) ?_
  refine lv_iload hx hb dL_law_1441 (lv_at hl 0 rfl) ?_
  refine lv_iconst (v := 1) hx hb dL_law_1443 (by decide) ?_
  refine lv_iadd hx hb dL_law_1444 ?_
  refine lv_topi (fun x1 e1 => ?_)
  obtain rfl : x1 = 1 := e1.trans (by decide)
  refine va_sld hx hb hX hbl hbA hS (vp_in_nI (n := 1) (by decide) (by decide)) dL_law_1445 ?_
  refine lv_topi (fun x2 e2 => ?_)
  obtain rfl : x2 = xs 1 := e2
  refine lv_aload_n hx hb dL_law_1446 rfl (lv_at hl 2 rfl) ?_
  refine mc_i (wr := [(mo, .inr (16, [.int 5, .int 5, .int th, .ref m1, .ref m2, .ref m3, .ref m4, .ref m5, .ref l1, .ref l2, .ref l3, .int (-1), .ref l4])), (l3, .inr (5, [.int 1, .ref (D.1 1000), .int 0]))]) (vx_runSW (As := [.ref x, .int (xs 1), .ref oo]) (rest := []) ⟨hx, hb, hml, hown, hts⟩ (c_LstartOf l hst D x g ca co ra rl tr f9 f10 f11 f12 f13 (xs 1) oo coo f0 H.size) (vx_cwSW 3 hts (gi_c mw_854 rfl (gi_c mw_855 rfl (gi_c mw_766 rfl (goodIn_sub il_c_LstartOf (List.all_eq_true.mpr gw_c_LstartOf))))) rfl rfl rfl (by decide +kernel) ⟨Nat.le_of_ble_eq_true rfl, Nat.le_of_ble_eq_true rfl⟩) (pr_S (As := [.ref x, .int (xs 1), .ref oo]) hP hD hK hS hA hE [0, 1] [0] rfl rfl rfl) rfl rfl hl.1 rfl (lv_room (Nat.le_of_ble_eq_true rfl)) dL_law_1447 ⟨Nat.le_of_ble_eq_true rfl, Nat.le_of_ble_eq_true rfl⟩) hP hD hK hS hA [0, 1] [2, 3] rfl rfl (by decide) (by decide) (fun r5 u3 H locs w4 hP hD hK hS => ?_)
  have hP : va_P D vwCl [(mo, .inr (16, [.int 5, .int 5, .int th, .ref m1, .ref m2, .ref m3, .ref m4, .ref m5, .ref l1, .ref l2, .ref l3, .int (-1), .ref l4])), (l3, .inr (5, [.int 1, .ref (D.1 1000), .int 0])), (oo, .inl (coo, 1, .inr (.inl u3)))] H := hP
  have hD : va_D (lw_A s) [(mo, .inr (16, [.int 5, .int 5, .int th, .ref m1, .ref m2, .ref m3, .ref m4, .ref m5, .ref l1, .ref l2, .ref l3, .int (-1), .ref l4])), (l3, .inr (5, [.int 1, .ref (D.1 1000), .int 0])), (oo, .inl (coo, 1, .inr (.inl u3)))] := hD
  have hK : va_K D vwCl [(coo, .long)] s := hK
  refine lv_istore (lv' := [(6, .int r5), (5, .int 0), (4, .ref od), (3, .ref oo), (2, .ref mo), (1, .ref x), (0, .ref b)]) hx hb dL_law_1450 hl (by decide) rfl (fun ls hl => ?_)
  refine lv_aload_n hx hb dL_law_1452 rfl (lv_at hl 4 rfl) ?_
  refine lv_aload_n hx hb dL_law_1453 rfl (lv_at hl 6 rfl) ?_
  refine lv_iload hx hb dL_law_1454 (lv_at hl 1 rfl) ?_
  refine lv_iconst (v := 1) hx hb dL_law_1456 (by decide) ?_
  refine lv_iadd hx hb dL_law_1457 ?_
  refine lv_topi (fun x6 e6 => ?_)
  obtain rfl : x6 = 1 := e6.trans (by decide)
  refine va_sld hx hb hX hbl hbA hS (vp_in_nI (n := 1) (by decide) (by decide)) dL_law_1458 ?_
  refine lv_topi (fun x7 e7 => ?_)
  obtain rfl : x7 = xs 1 := e7
  refine mc_i (wr := [(oo, .inl (coo, 1, .inr (.inl u3)))]) (va_runV (As := [.int (xs 1)]) (rest := []) ⟨hx, hb, hml, hown, hts⟩ (c_mstartOf l hst D mo th m1 m2 m3 m4 m5 l1 l2 l3 l4 (xs 1) H.size) (cwV 1 hts (gi_c mw_856 rfl (gi_c mw_857 rfl (gi_c mw_858 rfl (gi_c mw_481 rfl (goodIn_sub il_c_mstartOf (List.all_eq_true.mpr gw_c_mstartOf)))))) rfl rfl rfl (by decide +kernel) ⟨Nat.le_of_ble_eq_true rfl, Nat.le_of_ble_eq_true rfl⟩) (pr_V (As := [.int (xs 1)]) (b := mo) (C := RX9) hP hD hK hS hA hE [0, 1] [] rfl rfl rfl 0 16 rfl rfl rfl) rfl rfl hl.1 rfl (lv_room (Nat.le_of_ble_eq_true rfl)) dL_law_1459 ⟨Nat.le_of_ble_eq_true rfl, Nat.le_of_ble_eq_true rfl⟩) hP hD hK hS hA [0, 1] [2] rfl rfl (by decide) (by decide) (fun r10 u8 H locs w9 hP hD hK hS => ?_)
  have hP : va_P D vwCl [(oo, .inl (coo, 1, .inr (.inl u3))), (mo, .inr (16, [.int (u8.2.2 0), .int (u8.2.2 1), .int u8.1, .ref (u8.2.1 0), .ref (u8.2.1 1), .ref (u8.2.1 2), .ref (u8.2.1 3), .ref (u8.2.1 4), .ref (u8.2.1 5), .ref (u8.2.1 6), .ref (u8.2.1 7), .int (u8.2.2 2), .ref (u8.2.1 8)]))] H := hP
  have hD : va_D (lw_A s) [(oo, .inl (coo, 1, .inr (.inl u3))), (mo, .inr (16, [.int (u8.2.2 0), .int (u8.2.2 1), .int u8.1, .ref (u8.2.1 0), .ref (u8.2.1 1), .ref (u8.2.1 2), .ref (u8.2.1 3), .ref (u8.2.1 4), .ref (u8.2.1 5), .ref (u8.2.1 6), .ref (u8.2.1 7), .int (u8.2.2 2), .ref (u8.2.1 8)]))] := hD
  have hK : va_K D vwCl [(coo, .long)] s := hK
  refine lv_istore (lv' := [(7, .int r10), (6, .int r5), (5, .int 0), (4, .ref od), (3, .ref oo), (2, .ref mo), (1, .ref x), (0, .ref b)]) hx hb dL_law_1462 hl (by decide) rfl (fun ls hl => ?_)
  refine lv_aload_n hx hb dL_law_1464 rfl (lv_at hl 5 rfl) ?_
  refine mc_i (wr := [(oo, .inl (coo, 1, .inr (.inl u3)))]) (va_runV (As := []) (rest := []) ⟨hx, hb, hml, hown, hts⟩ (c_thrown l hst D mo (u8.2.2 0) (u8.2.2 1) u8.1 (u8.2.1 0) (u8.2.1 1) (u8.2.1 2) (u8.2.1 3) (u8.2.1 4) (u8.2.1 5) (u8.2.1 6) (u8.2.1 7) (u8.2.2 2) (u8.2.1 8) H.size) (cwV 0 hts (gi_c mw_770 rfl (gi_c mw_771 rfl (gi_c mw_772 rfl (gi_c mw_481 rfl (goodIn_sub il_c_thrown (List.all_eq_true.mpr gw_c_thrown)))))) rfl rfl rfl (by decide +kernel) ⟨Nat.le_of_ble_eq_true rfl, Nat.le_of_ble_eq_true rfl⟩) (pr_V (As := []) (b := mo) (C := RX9) hP hD hK hS hA hE [1] [] rfl rfl rfl 1 16 rfl rfl rfl) rfl rfl hl.1 rfl (lv_room (Nat.le_of_ble_eq_true rfl)) dL_law_1465 ⟨Nat.le_of_ble_eq_true rfl, Nat.le_of_ble_eq_true rfl⟩) hP hD hK hS hA [1] [0] rfl rfl (by decide) (by decide) (fun r12 _ H locs w11 hP hD hK hS => ?_)
  have hP : va_P D vwCl [(oo, .inl (coo, 1, .inr (.inl u3))), (mo, .inr (16, [.int (u8.2.2 0), .int (u8.2.2 1), .int u8.1, .ref (u8.2.1 0), .ref (u8.2.1 1), .ref (u8.2.1 2), .ref (u8.2.1 3), .ref (u8.2.1 4), .ref (u8.2.1 5), .ref (u8.2.1 6), .ref (u8.2.1 7), .int (u8.2.2 2), .ref (u8.2.1 8)]))] H := hP
  have hD : va_D (lw_A s) [(oo, .inl (coo, 1, .inr (.inl u3))), (mo, .inr (16, [.int (u8.2.2 0), .int (u8.2.2 1), .int u8.1, .ref (u8.2.1 0), .ref (u8.2.1 1), .ref (u8.2.1 2), .ref (u8.2.1 3), .ref (u8.2.1 4), .ref (u8.2.1 5), .ref (u8.2.1 6), .ref (u8.2.1 7), .int (u8.2.2 2), .ref (u8.2.1 8)]))] := hD
  have hK : va_K D vwCl [(coo, .long)] s := hK
  obtain rfl : r12 = u8.1 := w11
  refine lv_iload hx hb dL_law_1468 (lv_at hl 1 rfl) ?_
  refine lv_icmp_eq (tgt := 1475) hx hb dL_law_1470 (by decide) (fun h13 => ?_) (fun h13 => absurd (by exact (w9).trans w4.1.symm) h13)
  refine lv_iload hx hb dL_law_1475 (lv_at hl 1 rfl) ?_
  refine lv_if_ne (tgt := 1492) hx hb dL_law_1477 (by decide) (fun h14 => ?_) (fun h14 => absurd h14 (by exact fun q9 => absurd (show (1 : Int32) = 0 from w4.1.symm.trans q9) (by decide)))
  refine lv_goto (tgt := 3320) hx hb dL_law_1492 (by decide) ?_
  refine W.widen (k := 600006) (n := 7302040) (Nat.le_of_ble_eq_true rfl) (Nat.le_of_ble_eq_true rfl) ?_
  exact hend _ _ _ (lv_sub hl [2, 7] rfl) hS

set_option maxHeartbeats 4000000 in
set_option maxRecDepth 100000 in
/-- case 18: punch -/
theorem lc_18 (l : Launch) (hst : l.stackTraces = false) (D : va_G) {p : Program} {e : Env} {s : State} {m : MethodId} {below : List Frame} {meth : Method} {c : Code} {b : Nat} {xs : Nat → Int32} {Q : State → Prop} (hx : p.tables.exec = Jvm.exec) (hb : c.code = code) (hml : c.maxLocals = 9) (hown : s.vm.findClass RL = some m.cls) (hts : ∀ w ∈ lw_tbl, w.before #[Value.ref b] s = true) (hX : va_X b 5 xs s s.heap) (hbl : b < s.heap.size) (hE : ex_E D (lw_A s) s s.heap) (hend : lw_End p l e s m below meth c b Q) (x : Nat) (g : Nat) (ca : Nat) (co : Nat) (ra : Nat) (rl : Nat) (tr : Nat) (f9 : Nat) (f10 : Nat) (f11 : Nat) (f12 : Nat) (f13 : Nat) (oo : Nat) (coo : ClassId) (f0 : Nat → Int64) (mo : Nat) (th : Int32) (m1 : Nat) (m2 : Nat) (m3 : Nat) (m4 : Nat) (m5 : Nat) (l1 : Nat) (l2 : Nat) (l3 : Nat) (l4 : Nat) (od : Nat)  {H : Heap} {locs : List Loc} {ls : Array Slot} (hl : lv_has ls 9 [(5, .int 0), (4, .ref od), (3, .ref oo), (2, .ref mo), (1, .ref x), (0, .ref b)]) (hP : va_P D vwCl [(x, .inr (13, [.ref g, .ref ca, .int 0, .ref co, .int 0, .ref ra, .int 0, .ref rl, .ref tr, .ref f9, .ref f10, .ref f11, .ref f12, .ref f13])), (oo, .inl (coo, 1, .inr (.inl f0))), (mo, .inr (16, [.int 5, .int 5, .int th, .ref m1, .ref m2, .ref m3, .ref m4, .ref m5, .ref l1, .ref l2, .ref l3, .int (-1), .ref l4])), (l3, .inr (5, [.int 1, .ref (D.1 1000), .int 0]))] H) (hD : va_D (lw_A s) [(x, .inr (13, [.ref g, .ref ca, .int 0, .ref co, .int 0, .ref ra, .int 0, .ref rl, .ref tr, .ref f9, .ref f10, .ref f11, .ref f12, .ref f13])), (oo, .inl (coo, 1, .inr (.inl f0))), (mo, .inr (16, [.int 5, .int 5, .int th, .ref m1, .ref m2, .ref m3, .ref m4, .ref m5, .ref l1, .ref l2, .ref l3, .int (-1), .ref l4])), (l3, .inr (5, [.int 1, .ref (D.1 1000), .int 0]))]) (hK : va_K D vwCl [(coo, .long)] s) (hS : va_S (lw_A s) s.heap H locs) : W p l e room_1 s m #[Value.ref b] below meth c H locs 167 55824 Q (F0 m 1495 ls []) := by
  have hA : ∀ q : Nat, s.heap.size ≤ q → lw_A s q := fun _ h => h
  have hbA : ¬ lw_A s b := Nat.not_le.mpr hbl
  refine lv_aload_n hx hb dL_law_1495 rfl (lv_at hl 4 rfl) ?_
  refine lv_aload_n hx hb dL_law_1496 rfl (lv_at hl 5 rfl) ?_
  refine lv_iload hx hb dL_law_1497 (lv_at hl 0 rfl) ?_
  refine lv_iconst (v := 1) hx hb dL_law_1499 (by decide) ?_
  refine lv_iadd hx hb dL_law_1500 ?_
  refine lv_topi (fun x1 e1 => ?_)
  obtain rfl : x1 = 1 := e1.trans (by decide)
  refine va_sld hx hb hX hbl hbA hS (vp_in_nI (n := 1) (by decide) (by decide)) dL_law_1501 ?_
  refine lv_topi (fun x2 e2 => ?_)
  obtain rfl : x2 = xs 1 := e2
  refine lv_aload_n hx hb dL_law_1502 rfl (lv_at hl 5 rfl) ?_
  refine lv_iload hx hb dL_law_1503 (lv_at hl 0 rfl) ?_
  refine lv_iconst (v := 2) hx hb dL_law_1505 (by decide) ?_
  refine lv_iadd hx hb dL_law_1506 ?_
  refine lv_topi (fun x3 e3 => ?_)
  obtain rfl : x3 = 2 := e3.trans (by decide)
  refine va_sld hx hb hX hbl hbA hS (vp_in_nI (n := 2) (by decide) (by decide)) dL_law_1507 ?_
  refine lv_topi (fun x4 e4 => ?_)
  obtain rfl : x4 = xs 2 := e4
  refine lv_aload_n hx hb dL_law_1508 rfl (lv_at hl 5 rfl) ?_
  refine lv_iload hx hb dL_law_1509 (lv_at hl 0 rfl) ?_
  refine lv_iconst (v := 3) hx hb dL_law_1511 (by decide) ?_
  refine lv_iadd hx hb dL_law_1512 ?_
  refine lv_topi (fun x5 e5 => ?_)
  obtain rfl : x5 = 3 := e5.trans (by decide)
  refine va_sld hx hb hX hbl hbA hS (vp_in_nI (n := 3) (by decide) (by decide)) dL_law_1513 ?_
  refine lv_topi (fun x6 e6 => ?_)
  obtain rfl : x6 = xs 3 := e6
  refine lv_aload_n hx hb dL_law_1514 rfl (lv_at hl 2 rfl) ?_
  refine mc_i (wr := [(mo, .inr (16, [.int 5, .int 5, .int th, .ref m1, .ref m2, .ref m3, .ref m4, .ref m5, .ref l1, .ref l2, .ref l3, .int (-1), .ref l4])), (l3, .inr (5, [.int 1, .ref (D.1 1000), .int 0]))]) (vx_runSW (As := [.ref x, .int (xs 1), .int (xs 2), .int (xs 3), .ref oo]) (rest := []) ⟨hx, hb, hml, hown, hts⟩ (c_Lpunch l hst D x g ca co ra rl tr f9 f10 f11 f12 f13 (xs 1) (xs 2) (xs 3) oo coo f0 H.size) (vx_cwSW 5 hts (gi_c mw_859 rfl (gi_c mw_860 rfl (gi_c mw_766 rfl (goodIn_sub il_c_Lpunch (List.all_eq_true.mpr gw_c_Lpunch))))) rfl rfl rfl (by decide +kernel) ⟨Nat.le_of_ble_eq_true rfl, Nat.le_of_ble_eq_true rfl⟩) (pr_S (As := [.ref x, .int (xs 1), .int (xs 2), .int (xs 3), .ref oo]) hP hD hK hS hA hE [0, 1] [0] rfl rfl rfl) rfl rfl hl.1 rfl (lv_room (Nat.le_of_ble_eq_true rfl)) dL_law_1515 ⟨Nat.le_of_ble_eq_true rfl, Nat.le_of_ble_eq_true rfl⟩) hP hD hK hS hA [0, 1] [2, 3] rfl rfl (by decide) (by decide) (fun r9 u7 H locs w8 hP hD hK hS => ?_)
  have hP : va_P D vwCl [(mo, .inr (16, [.int 5, .int 5, .int th, .ref m1, .ref m2, .ref m3, .ref m4, .ref m5, .ref l1, .ref l2, .ref l3, .int (-1), .ref l4])), (l3, .inr (5, [.int 1, .ref (D.1 1000), .int 0])), (oo, .inl (coo, 1, .inr (.inl u7)))] H := hP
  have hD : va_D (lw_A s) [(mo, .inr (16, [.int 5, .int 5, .int th, .ref m1, .ref m2, .ref m3, .ref m4, .ref m5, .ref l1, .ref l2, .ref l3, .int (-1), .ref l4])), (l3, .inr (5, [.int 1, .ref (D.1 1000), .int 0])), (oo, .inl (coo, 1, .inr (.inl u7)))] := hD
  have hK : va_K D vwCl [(coo, .long)] s := hK
  refine lv_istore (lv' := [(6, .int r9), (5, .int 0), (4, .ref od), (3, .ref oo), (2, .ref mo), (1, .ref x), (0, .ref b)]) hx hb dL_law_1518 hl (by decide) rfl (fun ls hl => ?_)
  refine lv_aload_n hx hb dL_law_1520 rfl (lv_at hl 4 rfl) ?_
  refine lv_aload_n hx hb dL_law_1521 rfl (lv_at hl 6 rfl) ?_
  refine lv_iload hx hb dL_law_1522 (lv_at hl 1 rfl) ?_
  refine lv_iconst (v := 1) hx hb dL_law_1524 (by decide) ?_
  refine lv_iadd hx hb dL_law_1525 ?_
  refine lv_topi (fun x10 e10 => ?_)
  obtain rfl : x10 = 1 := e10.trans (by decide)
  refine va_sld hx hb hX hbl hbA hS (vp_in_nI (n := 1) (by decide) (by decide)) dL_law_1526 ?_
  refine lv_topi (fun x11 e11 => ?_)
  obtain rfl : x11 = xs 1 := e11
  refine lv_aload_n hx hb dL_law_1527 rfl (lv_at hl 6 rfl) ?_
  refine lv_iload hx hb dL_law_1528 (lv_at hl 1 rfl) ?_
  refine lv_iconst (v := 2) hx hb dL_law_1530 (by decide) ?_
  refine lv_iadd hx hb dL_law_1531 ?_
  refine lv_topi (fun x12 e12 => ?_)
  obtain rfl : x12 = 2 := e12.trans (by decide)
  refine va_sld hx hb hX hbl hbA hS (vp_in_nI (n := 2) (by decide) (by decide)) dL_law_1532 ?_
  refine lv_topi (fun x13 e13 => ?_)
  obtain rfl : x13 = xs 2 := e13
  refine lv_aload_n hx hb dL_law_1533 rfl (lv_at hl 6 rfl) ?_
  refine lv_iload hx hb dL_law_1534 (lv_at hl 1 rfl) ?_
  refine lv_iconst (v := 3) hx hb dL_law_1536 (by decide) ?_
  refine lv_iadd hx hb dL_law_1537 ?_
  refine lv_topi (fun x14 e14 => ?_)
  obtain rfl : x14 = 3 := e14.trans (by decide)
  refine va_sld hx hb hX hbl hbA hS (vp_in_nI (n := 3) (by decide) (by decide)) dL_law_1538 ?_
  refine lv_topi (fun x15 e15 => ?_)
  obtain rfl : x15 = xs 3 := e15
  refine mc_i (wr := [(oo, .inl (coo, 1, .inr (.inl u7)))]) (va_runV (As := [.int (xs 1), .int (xs 2), .int (xs 3)]) (rest := []) ⟨hx, hb, hml, hown, hts⟩ (c_mpunch l hst D mo th m1 m2 m3 m4 m5 l1 l2 l3 l4 (xs 1) (xs 2) (xs 3) H.size) (cwV 3 hts (gi_c mw_861 rfl (gi_c mw_862 rfl (gi_c mw_863 rfl (gi_c mw_481 rfl (goodIn_sub il_c_mpunch (List.all_eq_true.mpr gw_c_mpunch)))))) rfl rfl rfl (by decide +kernel) ⟨Nat.le_of_ble_eq_true rfl, Nat.le_of_ble_eq_true rfl⟩) (pr_V (As := [.int (xs 1), .int (xs 2), .int (xs 3)]) (b := mo) (C := RX9) hP hD hK hS hA hE [0, 1] [] rfl rfl rfl 0 16 rfl rfl rfl) rfl rfl hl.1 rfl (lv_room (Nat.le_of_ble_eq_true rfl)) dL_law_1539 ⟨Nat.le_of_ble_eq_true rfl, Nat.le_of_ble_eq_true rfl⟩) hP hD hK hS hA [0, 1] [2] rfl rfl (by decide) (by decide) (fun r18 u16 H locs w17 hP hD hK hS => ?_)
  have hP : va_P D vwCl [(oo, .inl (coo, 1, .inr (.inl u7))), (mo, .inr (16, [.int (u16.2.2 0), .int (u16.2.2 1), .int u16.1, .ref (u16.2.1 0), .ref (u16.2.1 1), .ref (u16.2.1 2), .ref (u16.2.1 3), .ref (u16.2.1 4), .ref (u16.2.1 5), .ref (u16.2.1 6), .ref (u16.2.1 7), .int (u16.2.2 2), .ref (u16.2.1 8)]))] H := hP
  have hD : va_D (lw_A s) [(oo, .inl (coo, 1, .inr (.inl u7))), (mo, .inr (16, [.int (u16.2.2 0), .int (u16.2.2 1), .int u16.1, .ref (u16.2.1 0), .ref (u16.2.1 1), .ref (u16.2.1 2), .ref (u16.2.1 3), .ref (u16.2.1 4), .ref (u16.2.1 5), .ref (u16.2.1 6), .ref (u16.2.1 7), .int (u16.2.2 2), .ref (u16.2.1 8)]))] := hD
  have hK : va_K D vwCl [(coo, .long)] s := hK
  refine lv_istore (lv' := [(7, .int r18), (6, .int r9), (5, .int 0), (4, .ref od), (3, .ref oo), (2, .ref mo), (1, .ref x), (0, .ref b)]) hx hb dL_law_1542 hl (by decide) rfl (fun ls hl => ?_)
  refine lv_aload_n hx hb dL_law_1544 rfl (lv_at hl 5 rfl) ?_
  refine mc_i (wr := [(oo, .inl (coo, 1, .inr (.inl u7)))]) (va_runV (As := []) (rest := []) ⟨hx, hb, hml, hown, hts⟩ (c_thrown l hst D mo (u16.2.2 0) (u16.2.2 1) u16.1 (u16.2.1 0) (u16.2.1 1) (u16.2.1 2) (u16.2.1 3) (u16.2.1 4) (u16.2.1 5) (u16.2.1 6) (u16.2.1 7) (u16.2.2 2) (u16.2.1 8) H.size) (cwV 0 hts (gi_c mw_770 rfl (gi_c mw_771 rfl (gi_c mw_772 rfl (gi_c mw_481 rfl (goodIn_sub il_c_thrown (List.all_eq_true.mpr gw_c_thrown)))))) rfl rfl rfl (by decide +kernel) ⟨Nat.le_of_ble_eq_true rfl, Nat.le_of_ble_eq_true rfl⟩) (pr_V (As := []) (b := mo) (C := RX9) hP hD hK hS hA hE [1] [] rfl rfl rfl 1 16 rfl rfl rfl) rfl rfl hl.1 rfl (lv_room (Nat.le_of_ble_eq_true rfl)) dL_law_1545 ⟨Nat.le_of_ble_eq_true rfl, Nat.le_of_ble_eq_true rfl⟩) hP hD hK hS hA [1] [0] rfl rfl (by decide) (by decide) (fun r20 _ H locs w19 hP hD hK hS => ?_)
  have hP : va_P D vwCl [(oo, .inl (coo, 1, .inr (.inl u7))), (mo, .inr (16, [.int (u16.2.2 0), .int (u16.2.2 1), .int u16.1, .ref (u16.2.1 0), .ref (u16.2.1 1), .ref (u16.2.1 2), .ref (u16.2.1 3), .ref (u16.2.1 4), .ref (u16.2.1 5), .ref (u16.2.1 6), .ref (u16.2.1 7), .int (u16.2.2 2), .ref (u16.2.1 8)]))] H := hP
  have hD : va_D (lw_A s) [(oo, .inl (coo, 1, .inr (.inl u7))), (mo, .inr (16, [.int (u16.2.2 0), .int (u16.2.2 1), .int u16.1, .ref (u16.2.1 0), .ref (u16.2.1 1), .ref (u16.2.1 2), .ref (u16.2.1 3), .ref (u16.2.1 4), .ref (u16.2.1 5), .ref (u16.2.1 6), .ref (u16.2.1 7), .int (u16.2.2 2), .ref (u16.2.1 8)]))] := hD
  have hK : va_K D vwCl [(coo, .long)] s := hK
  obtain rfl : r20 = u16.1 := w19
  refine lv_iload hx hb dL_law_1548 (lv_at hl 1 rfl) ?_
  refine lv_icmp_eq (tgt := 1555) hx hb dL_law_1550 (by decide) (fun h21 => ?_) (fun h21 => absurd (by exact (w17).trans w8.1.symm) h21)
  refine lv_iload hx hb dL_law_1555 (lv_at hl 1 rfl) ?_
  refine lv_if_ne (tgt := 1572) hx hb dL_law_1557 (by decide) (fun h22 => ?_) (fun h22 => absurd h22 (by exact fun q9 => absurd (show (1 : Int32) = 0 from w8.1.symm.trans q9) (by decide)))
  refine lv_goto (tgt := 3320) hx hb dL_law_1572 (by decide) ?_
  refine W.widen (k := 600006) (n := 7302040) (Nat.le_of_ble_eq_true rfl) (Nat.le_of_ble_eq_true rfl) ?_
  exact hend _ _ _ (lv_sub hl [2, 7] rfl) hS

set_option maxHeartbeats 4000000 in
set_option maxRecDepth 100000 in
/-- case 19: finish -/
theorem lc_19 (l : Launch) (hst : l.stackTraces = false) (D : va_G) {p : Program} {e : Env} {s : State} {m : MethodId} {below : List Frame} {meth : Method} {c : Code} {b : Nat} {xs : Nat → Int32} {Q : State → Prop} (hx : p.tables.exec = Jvm.exec) (hb : c.code = code) (hml : c.maxLocals = 9) (hown : s.vm.findClass RL = some m.cls) (hts : ∀ w ∈ lw_tbl, w.before #[Value.ref b] s = true) (hX : va_X b 5 xs s s.heap) (hbl : b < s.heap.size) (hE : ex_E D (lw_A s) s s.heap) (hend : lw_End p l e s m below meth c b Q) (x : Nat) (g : Nat) (ca : Nat) (co : Nat) (ra : Nat) (rl : Nat) (tr : Nat) (f9 : Nat) (f10 : Nat) (f11 : Nat) (f12 : Nat) (f13 : Nat) (oo : Nat) (coo : ClassId) (f0 : Nat → Int64) (mo : Nat) (th : Int32) (m1 : Nat) (m2 : Nat) (m3 : Nat) (m4 : Nat) (m5 : Nat) (l1 : Nat) (l2 : Nat) (l3 : Nat) (l4 : Nat) (od : Nat)  {H : Heap} {locs : List Loc} {ls : Array Slot} (hl : lv_has ls 9 [(5, .int 0), (4, .ref od), (3, .ref oo), (2, .ref mo), (1, .ref x), (0, .ref b)]) (hP : va_P D vwCl [(x, .inr (13, [.ref g, .ref ca, .int 0, .ref co, .int 0, .ref ra, .int 0, .ref rl, .ref tr, .ref f9, .ref f10, .ref f11, .ref f12, .ref f13])), (oo, .inl (coo, 1, .inr (.inl f0))), (mo, .inr (16, [.int 5, .int 5, .int th, .ref m1, .ref m2, .ref m3, .ref m4, .ref m5, .ref l1, .ref l2, .ref l3, .int (-1), .ref l4])), (l3, .inr (5, [.int 1, .ref (D.1 1000), .int 0]))] H) (hD : va_D (lw_A s) [(x, .inr (13, [.ref g, .ref ca, .int 0, .ref co, .int 0, .ref ra, .int 0, .ref rl, .ref tr, .ref f9, .ref f10, .ref f11, .ref f12, .ref f13])), (oo, .inl (coo, 1, .inr (.inl f0))), (mo, .inr (16, [.int 5, .int 5, .int th, .ref m1, .ref m2, .ref m3, .ref m4, .ref m5, .ref l1, .ref l2, .ref l3, .int (-1), .ref l4])), (l3, .inr (5, [.int 1, .ref (D.1 1000), .int 0]))]) (hK : va_K D vwCl [(coo, .long)] s) (hS : va_S (lw_A s) s.heap H locs) : W p l e room_1 s m #[Value.ref b] below meth c H locs 167 55824 Q (F0 m 1575 ls []) := by
  have hA : ∀ q : Nat, s.heap.size ≤ q → lw_A s q := fun _ h => h
  have hbA : ¬ lw_A s b := Nat.not_le.mpr hbl
  refine lv_aload_n hx hb dL_law_1575 rfl (lv_at hl 4 rfl) ?_
  refine lv_aload_n hx hb dL_law_1576 rfl (lv_at hl 5 rfl) ?_
  refine lv_iload hx hb dL_law_1577 (lv_at hl 0 rfl) ?_
  refine lv_iconst (v := 1) hx hb dL_law_1579 (by decide) ?_
  refine lv_iadd hx hb dL_law_1580 ?_
  refine lv_topi (fun x1 e1 => ?_)
  obtain rfl : x1 = 1 := e1.trans (by decide)
  refine va_sld hx hb hX hbl hbA hS (vp_in_nI (n := 1) (by decide) (by decide)) dL_law_1581 ?_
  refine lv_topi (fun x2 e2 => ?_)
  obtain rfl : x2 = xs 1 := e2
  refine lv_aload_n hx hb dL_law_1582 rfl (lv_at hl 5 rfl) ?_
  refine lv_iload hx hb dL_law_1583 (lv_at hl 0 rfl) ?_
  refine lv_iconst (v := 2) hx hb dL_law_1585 (by decide) ?_
  refine lv_iadd hx hb dL_law_1586 ?_
  refine lv_topi (fun x3 e3 => ?_)
  obtain rfl : x3 = 2 := e3.trans (by decide)
  refine va_sld hx hb hX hbl hbA hS (vp_in_nI (n := 2) (by decide) (by decide)) dL_law_1587 ?_
  refine lv_topi (fun x4 e4 => ?_)
  obtain rfl : x4 = xs 2 := e4
  refine lv_aload_n hx hb dL_law_1588 rfl (lv_at hl 2 rfl) ?_
  refine mc_i (wr := [(mo, .inr (16, [.int 5, .int 5, .int th, .ref m1, .ref m2, .ref m3, .ref m4, .ref m5, .ref l1, .ref l2, .ref l3, .int (-1), .ref l4])), (l3, .inr (5, [.int 1, .ref (D.1 1000), .int 0]))]) (vx_runSW (As := [.ref x, .int (xs 1), .int (xs 2), .ref oo]) (rest := []) ⟨hx, hb, hml, hown, hts⟩ (c_Lfinish l hst D x g ca co ra rl tr f9 f10 f11 f12 f13 (xs 1) (xs 2) oo coo f0 H.size) (vx_cwSW 4 hts (gi_c mw_864 rfl (gi_c mw_865 rfl (gi_c mw_766 rfl (goodIn_sub il_c_Lfinish (List.all_eq_true.mpr gw_c_Lfinish))))) rfl rfl rfl (by decide +kernel) ⟨Nat.le_of_ble_eq_true rfl, Nat.le_of_ble_eq_true rfl⟩) (pr_S (As := [.ref x, .int (xs 1), .int (xs 2), .ref oo]) hP hD hK hS hA hE [0, 1] [0] rfl rfl rfl) rfl rfl hl.1 rfl (lv_room (Nat.le_of_ble_eq_true rfl)) dL_law_1589 ⟨Nat.le_of_ble_eq_true rfl, Nat.le_of_ble_eq_true rfl⟩) hP hD hK hS hA [0, 1] [2, 3] rfl rfl (by decide) (by decide) (fun r7 u5 H locs w6 hP hD hK hS => ?_)
  have hP : va_P D vwCl [(mo, .inr (16, [.int 5, .int 5, .int th, .ref m1, .ref m2, .ref m3, .ref m4, .ref m5, .ref l1, .ref l2, .ref l3, .int (-1), .ref l4])), (l3, .inr (5, [.int 1, .ref (D.1 1000), .int 0])), (oo, .inl (coo, 1, .inr (.inl u5)))] H := hP
  have hD : va_D (lw_A s) [(mo, .inr (16, [.int 5, .int 5, .int th, .ref m1, .ref m2, .ref m3, .ref m4, .ref m5, .ref l1, .ref l2, .ref l3, .int (-1), .ref l4])), (l3, .inr (5, [.int 1, .ref (D.1 1000), .int 0])), (oo, .inl (coo, 1, .inr (.inl u5)))] := hD
  have hK : va_K D vwCl [(coo, .long)] s := hK
  refine lv_istore (lv' := [(6, .int r7), (5, .int 0), (4, .ref od), (3, .ref oo), (2, .ref mo), (1, .ref x), (0, .ref b)]) hx hb dL_law_1592 hl (by decide) rfl (fun ls hl => ?_)
  refine lv_aload_n hx hb dL_law_1594 rfl (lv_at hl 4 rfl) ?_
  refine lv_aload_n hx hb dL_law_1595 rfl (lv_at hl 6 rfl) ?_
  refine lv_iload hx hb dL_law_1596 (lv_at hl 1 rfl) ?_
  refine lv_iconst (v := 1) hx hb dL_law_1598 (by decide) ?_
  refine lv_iadd hx hb dL_law_1599 ?_
  refine lv_topi (fun x8 e8 => ?_)
  obtain rfl : x8 = 1 := e8.trans (by decide)
  refine va_sld hx hb hX hbl hbA hS (vp_in_nI (n := 1) (by decide) (by decide)) dL_law_1600 ?_
  refine lv_topi (fun x9 e9 => ?_)
  obtain rfl : x9 = xs 1 := e9
  refine lv_aload_n hx hb dL_law_1601 rfl (lv_at hl 6 rfl) ?_
  refine lv_iload hx hb dL_law_1602 (lv_at hl 1 rfl) ?_
  refine lv_iconst (v := 2) hx hb dL_law_1604 (by decide) ?_
  refine lv_iadd hx hb dL_law_1605 ?_
  refine lv_topi (fun x10 e10 => ?_)
  obtain rfl : x10 = 2 := e10.trans (by decide)
  refine va_sld hx hb hX hbl hbA hS (vp_in_nI (n := 2) (by decide) (by decide)) dL_law_1606 ?_
  refine lv_topi (fun x11 e11 => ?_)
  obtain rfl : x11 = xs 2 := e11
  refine mc_i (wr := [(oo, .inl (coo, 1, .inr (.inl u5)))]) (va_runV (As := [.int (xs 1), .int (xs 2)]) (rest := []) ⟨hx, hb, hml, hown, hts⟩ (c_mfinish l hst D mo th m1 m2 m3 m4 m5 l1 l2 l3 l4 (xs 1) (xs 2) H.size) (cwV 2 hts (gi_c mw_866 rfl (gi_c mw_867 rfl (gi_c mw_868 rfl (gi_c mw_481 rfl (goodIn_sub il_c_mfinish (List.all_eq_true.mpr gw_c_mfinish)))))) rfl rfl rfl (by decide +kernel) ⟨Nat.le_of_ble_eq_true rfl, Nat.le_of_ble_eq_true rfl⟩) (pr_V (As := [.int (xs 1), .int (xs 2)]) (b := mo) (C := RX9) hP hD hK hS hA hE [0, 1] [] rfl rfl rfl 0 16 rfl rfl rfl) rfl rfl hl.1 rfl (lv_room (Nat.le_of_ble_eq_true rfl)) dL_law_1607 ⟨Nat.le_of_ble_eq_true rfl, Nat.le_of_ble_eq_true rfl⟩) hP hD hK hS hA [0, 1] [2] rfl rfl (by decide) (by decide) (fun r14 u12 H locs w13 hP hD hK hS => ?_)
  have hP : va_P D vwCl [(oo, .inl (coo, 1, .inr (.inl u5))), (mo, .inr (16, [.int (u12.2.2 0), .int (u12.2.2 1), .int u12.1, .ref (u12.2.1 0), .ref (u12.2.1 1), .ref (u12.2.1 2), .ref (u12.2.1 3), .ref (u12.2.1 4), .ref (u12.2.1 5), .ref (u12.2.1 6), .ref (u12.2.1 7), .int (u12.2.2 2), .ref (u12.2.1 8)]))] H := hP
  have hD : va_D (lw_A s) [(oo, .inl (coo, 1, .inr (.inl u5))), (mo, .inr (16, [.int (u12.2.2 0), .int (u12.2.2 1), .int u12.1, .ref (u12.2.1 0), .ref (u12.2.1 1), .ref (u12.2.1 2), .ref (u12.2.1 3), .ref (u12.2.1 4), .ref (u12.2.1 5), .ref (u12.2.1 6), .ref (u12.2.1 7), .int (u12.2.2 2), .ref (u12.2.1 8)]))] := hD
  have hK : va_K D vwCl [(coo, .long)] s := hK
  refine lv_istore (lv' := [(7, .int r14), (6, .int r7), (5, .int 0), (4, .ref od), (3, .ref oo), (2, .ref mo), (1, .ref x), (0, .ref b)]) hx hb dL_law_1610 hl (by decide) rfl (fun ls hl => ?_)
  refine lv_aload_n hx hb dL_law_1612 rfl (lv_at hl 5 rfl) ?_
  refine mc_i (wr := [(oo, .inl (coo, 1, .inr (.inl u5)))]) (va_runV (As := []) (rest := []) ⟨hx, hb, hml, hown, hts⟩ (c_thrown l hst D mo (u12.2.2 0) (u12.2.2 1) u12.1 (u12.2.1 0) (u12.2.1 1) (u12.2.1 2) (u12.2.1 3) (u12.2.1 4) (u12.2.1 5) (u12.2.1 6) (u12.2.1 7) (u12.2.2 2) (u12.2.1 8) H.size) (cwV 0 hts (gi_c mw_770 rfl (gi_c mw_771 rfl (gi_c mw_772 rfl (gi_c mw_481 rfl (goodIn_sub il_c_thrown (List.all_eq_true.mpr gw_c_thrown)))))) rfl rfl rfl (by decide +kernel) ⟨Nat.le_of_ble_eq_true rfl, Nat.le_of_ble_eq_true rfl⟩) (pr_V (As := []) (b := mo) (C := RX9) hP hD hK hS hA hE [1] [] rfl rfl rfl 1 16 rfl rfl rfl) rfl rfl hl.1 rfl (lv_room (Nat.le_of_ble_eq_true rfl)) dL_law_1613 ⟨Nat.le_of_ble_eq_true rfl, Nat.le_of_ble_eq_true rfl⟩) hP hD hK hS hA [1] [0] rfl rfl (by decide) (by decide) (fun r16 _ H locs w15 hP hD hK hS => ?_)
  have hP : va_P D vwCl [(oo, .inl (coo, 1, .inr (.inl u5))), (mo, .inr (16, [.int (u12.2.2 0), .int (u12.2.2 1), .int u12.1, .ref (u12.2.1 0), .ref (u12.2.1 1), .ref (u12.2.1 2), .ref (u12.2.1 3), .ref (u12.2.1 4), .ref (u12.2.1 5), .ref (u12.2.1 6), .ref (u12.2.1 7), .int (u12.2.2 2), .ref (u12.2.1 8)]))] H := hP
  have hD : va_D (lw_A s) [(oo, .inl (coo, 1, .inr (.inl u5))), (mo, .inr (16, [.int (u12.2.2 0), .int (u12.2.2 1), .int u12.1, .ref (u12.2.1 0), .ref (u12.2.1 1), .ref (u12.2.1 2), .ref (u12.2.1 3), .ref (u12.2.1 4), .ref (u12.2.1 5), .ref (u12.2.1 6), .ref (u12.2.1 7), .int (u12.2.2 2), .ref (u12.2.1 8)]))] := hD
  have hK : va_K D vwCl [(coo, .long)] s := hK
  obtain rfl : r16 = u12.1 := w15
  refine lv_iload hx hb dL_law_1616 (lv_at hl 1 rfl) ?_
  refine lv_icmp_eq (tgt := 1623) hx hb dL_law_1618 (by decide) (fun h17 => ?_) (fun h17 => absurd (by exact (w13).trans w6.1.symm) h17)
  refine lv_iload hx hb dL_law_1623 (lv_at hl 1 rfl) ?_
  refine lv_if_ne (tgt := 1640) hx hb dL_law_1625 (by decide) (fun h18 => ?_) (fun h18 => absurd h18 (by exact fun q9 => absurd (show (1 : Int32) = 0 from w6.1.symm.trans q9) (by decide)))
  refine lv_goto (tgt := 3320) hx hb dL_law_1640 (by decide) ?_
  refine W.widen (k := 600006) (n := 7302040) (Nat.le_of_ble_eq_true rfl) (Nat.le_of_ble_eq_true rfl) ?_
  exact hend _ _ _ (lv_sub hl [2, 7] rfl) hS

set_option maxHeartbeats 4000000 in
set_option maxRecDepth 100000 in
/-- case 20: dead -/
theorem lc_20 (l : Launch) (hst : l.stackTraces = false) (D : va_G) {p : Program} {e : Env} {s : State} {m : MethodId} {below : List Frame} {meth : Method} {c : Code} {b : Nat} {xs : Nat → Int32} {Q : State → Prop} (hx : p.tables.exec = Jvm.exec) (hb : c.code = code) (hml : c.maxLocals = 9) (hown : s.vm.findClass RL = some m.cls) (hts : ∀ w ∈ lw_tbl, w.before #[Value.ref b] s = true) (hX : va_X b 5 xs s s.heap) (hbl : b < s.heap.size) (hE : ex_E D (lw_A s) s s.heap) (hend : lw_End p l e s m below meth c b Q) (x : Nat) (g : Nat) (ca : Nat) (co : Nat) (ra : Nat) (rl : Nat) (tr : Nat) (f9 : Nat) (f10 : Nat) (f11 : Nat) (f12 : Nat) (f13 : Nat) (oo : Nat) (coo : ClassId) (f0 : Nat → Int64) (mo : Nat) (th : Int32) (m1 : Nat) (m2 : Nat) (m3 : Nat) (m4 : Nat) (m5 : Nat) (l1 : Nat) (l2 : Nat) (l3 : Nat) (l4 : Nat) (od : Nat)  {H : Heap} {locs : List Loc} {ls : Array Slot} (hl : lv_has ls 9 [(5, .int 0), (4, .ref od), (3, .ref oo), (2, .ref mo), (1, .ref x), (0, .ref b)]) (hP : va_P D vwCl [(x, .inr (13, [.ref g, .ref ca, .int 0, .ref co, .int 0, .ref ra, .int 0, .ref rl, .ref tr, .ref f9, .ref f10, .ref f11, .ref f12, .ref f13])), (oo, .inl (coo, 1, .inr (.inl f0))), (mo, .inr (16, [.int 5, .int 5, .int th, .ref m1, .ref m2, .ref m3, .ref m4, .ref m5, .ref l1, .ref l2, .ref l3, .int (-1), .ref l4])), (l1, .inr (5, [.int 1, .ref (D.1 1000), .int 0]))] H) (hD : va_D (lw_A s) [(x, .inr (13, [.ref g, .ref ca, .int 0, .ref co, .int 0, .ref ra, .int 0, .ref rl, .ref tr, .ref f9, .ref f10, .ref f11, .ref f12, .ref f13])), (oo, .inl (coo, 1, .inr (.inl f0))), (mo, .inr (16, [.int 5, .int 5, .int th, .ref m1, .ref m2, .ref m3, .ref m4, .ref m5, .ref l1, .ref l2, .ref l3, .int (-1), .ref l4])), (l1, .inr (5, [.int 1, .ref (D.1 1000), .int 0]))]) (hK : va_K D vwCl [(coo, .long)] s) (hS : va_S (lw_A s) s.heap H locs) : W p l e room_1 s m #[Value.ref b] below meth c H locs 167 55824 Q (F0 m 1643 ls []) := by
  have hA : ∀ q : Nat, s.heap.size ≤ q → lw_A s q := fun _ h => h
  have hbA : ¬ lw_A s b := Nat.not_le.mpr hbl
  refine lv_aload_n hx hb dL_law_1643 rfl (lv_at hl 4 rfl) ?_
  refine lv_aload_n hx hb dL_law_1644 rfl (lv_at hl 5 rfl) ?_
  refine lv_iload hx hb dL_law_1645 (lv_at hl 0 rfl) ?_
  refine lv_iconst (v := 1) hx hb dL_law_1647 (by decide) ?_
  refine lv_iadd hx hb dL_law_1648 ?_
  refine lv_topi (fun x1 e1 => ?_)
  obtain rfl : x1 = 1 := e1.trans (by decide)
  refine va_sld hx hb hX hbl hbA hS (vp_in_nI (n := 1) (by decide) (by decide)) dL_law_1649 ?_
  refine lv_topi (fun x2 e2 => ?_)
  obtain rfl : x2 = xs 1 := e2
  refine lv_aload_n hx hb dL_law_1650 rfl (lv_at hl 5 rfl) ?_
  refine lv_iload hx hb dL_law_1651 (lv_at hl 0 rfl) ?_
  refine lv_iconst (v := 2) hx hb dL_law_1653 (by decide) ?_
  refine lv_iadd hx hb dL_law_1654 ?_
  refine lv_topi (fun x3 e3 => ?_)
  obtain rfl : x3 = 2 := e3.trans (by decide)
  refine va_sld hx hb hX hbl hbA hS (vp_in_nI (n := 2) (by decide) (by decide)) dL_law_1655 ?_
  refine lv_topi (fun x4 e4 => ?_)
  obtain rfl : x4 = xs 2 := e4
  refine lv_aload_n hx hb dL_law_1656 rfl (lv_at hl 5 rfl) ?_
  refine lv_iload hx hb dL_law_1657 (lv_at hl 0 rfl) ?_
  refine lv_iconst (v := 3) hx hb dL_law_1659 (by decide) ?_
  refine lv_iadd hx hb dL_law_1660 ?_
  refine lv_topi (fun x5 e5 => ?_)
  obtain rfl : x5 = 3 := e5.trans (by decide)
  refine va_sld hx hb hX hbl hbA hS (vp_in_nI (n := 3) (by decide) (by decide)) dL_law_1661 ?_
  refine lv_topi (fun x6 e6 => ?_)
  obtain rfl : x6 = xs 3 := e6
  refine lv_aload_n hx hb dL_law_1662 rfl (lv_at hl 2 rfl) ?_
  refine mc_i (wr := [(mo, .inr (16, [.int 5, .int 5, .int th, .ref m1, .ref m2, .ref m3, .ref m4, .ref m5, .ref l1, .ref l2, .ref l3, .int (-1), .ref l4])), (l1, .inr (5, [.int 1, .ref (D.1 1000), .int 0]))]) (vx_runSW (As := [.ref x, .int (xs 1), .int (xs 2), .int (xs 3), .ref oo]) (rest := []) ⟨hx, hb, hml, hown, hts⟩ (c_Ldead l hst D x g ca co ra rl tr f9 f10 f11 f12 f13 (xs 1) (xs 2) (xs 3) oo coo f0 H.size) (vx_cwSW 5 hts (gi_c mw_869 rfl (gi_c mw_870 rfl (gi_c mw_766 rfl (goodIn_sub il_c_Ldead (List.all_eq_true.mpr gw_c_Ldead))))) rfl rfl rfl (by decide +kernel) ⟨Nat.le_of_ble_eq_true rfl, Nat.le_of_ble_eq_true rfl⟩) (pr_S (As := [.ref x, .int (xs 1), .int (xs 2), .int (xs 3), .ref oo]) hP hD hK hS hA hE [0, 1] [0] rfl rfl rfl) rfl rfl hl.1 rfl (lv_room (Nat.le_of_ble_eq_true rfl)) dL_law_1663 ⟨Nat.le_of_ble_eq_true rfl, Nat.le_of_ble_eq_true rfl⟩) hP hD hK hS hA [0, 1] [2, 3] rfl rfl (by decide) (by decide) (fun r9 u7 H locs w8 hP hD hK hS => ?_)
  have hP : va_P D vwCl [(mo, .inr (16, [.int 5, .int 5, .int th, .ref m1, .ref m2, .ref m3, .ref m4, .ref m5, .ref l1, .ref l2, .ref l3, .int (-1), .ref l4])), (l1, .inr (5, [.int 1, .ref (D.1 1000), .int 0])), (oo, .inl (coo, 1, .inr (.inl u7)))] H := hP
  have hD : va_D (lw_A s) [(mo, .inr (16, [.int 5, .int 5, .int th, .ref m1, .ref m2, .ref m3, .ref m4, .ref m5, .ref l1, .ref l2, .ref l3, .int (-1), .ref l4])), (l1, .inr (5, [.int 1, .ref (D.1 1000), .int 0])), (oo, .inl (coo, 1, .inr (.inl u7)))] := hD
  have hK : va_K D vwCl [(coo, .long)] s := hK
  refine lv_istore (lv' := [(6, .int r9), (5, .int 0), (4, .ref od), (3, .ref oo), (2, .ref mo), (1, .ref x), (0, .ref b)]) hx hb dL_law_1666 hl (by decide) rfl (fun ls hl => ?_)
  refine lv_aload_n hx hb dL_law_1668 rfl (lv_at hl 4 rfl) ?_
  refine lv_aload_n hx hb dL_law_1669 rfl (lv_at hl 6 rfl) ?_
  refine lv_iload hx hb dL_law_1670 (lv_at hl 1 rfl) ?_
  refine lv_iconst (v := 1) hx hb dL_law_1672 (by decide) ?_
  refine lv_iadd hx hb dL_law_1673 ?_
  refine lv_topi (fun x10 e10 => ?_)
  obtain rfl : x10 = 1 := e10.trans (by decide)
  refine va_sld hx hb hX hbl hbA hS (vp_in_nI (n := 1) (by decide) (by decide)) dL_law_1674 ?_
  refine lv_topi (fun x11 e11 => ?_)
  obtain rfl : x11 = xs 1 := e11
  refine lv_aload_n hx hb dL_law_1675 rfl (lv_at hl 6 rfl) ?_
  refine lv_iload hx hb dL_law_1676 (lv_at hl 1 rfl) ?_
  refine lv_iconst (v := 2) hx hb dL_law_1678 (by decide) ?_
  refine lv_iadd hx hb dL_law_1679 ?_
  refine lv_topi (fun x12 e12 => ?_)
  obtain rfl : x12 = 2 := e12.trans (by decide)
  refine va_sld hx hb hX hbl hbA hS (vp_in_nI (n := 2) (by decide) (by decide)) dL_law_1680 ?_
  refine lv_topi (fun x13 e13 => ?_)
  obtain rfl : x13 = xs 2 := e13
  refine lv_aload_n hx hb dL_law_1681 rfl (lv_at hl 6 rfl) ?_
  refine lv_iload hx hb dL_law_1682 (lv_at hl 1 rfl) ?_
  refine lv_iconst (v := 3) hx hb dL_law_1684 (by decide) ?_
  refine lv_iadd hx hb dL_law_1685 ?_
  refine lv_topi (fun x14 e14 => ?_)
  obtain rfl : x14 = 3 := e14.trans (by decide)
  refine va_sld hx hb hX hbl hbA hS (vp_in_nI (n := 3) (by decide) (by decide)) dL_law_1686 ?_
  refine lv_topi (fun x15 e15 => ?_)
  obtain rfl : x15 = xs 3 := e15
  refine mc_i (wr := [(oo, .inl (coo, 1, .inr (.inl u7)))]) (va_runV (As := [.int (xs 1), .int (xs 2), .int (xs 3)]) (rest := []) ⟨hx, hb, hml, hown, hts⟩ (c_mdead l hst D mo th m1 m2 m3 m4 m5 l1 l2 l3 l4 (xs 1) (xs 2) (xs 3) H.size) (cwV 3 hts (gi_c mw_871 rfl (gi_c mw_872 rfl (gi_c mw_873 rfl (gi_c mw_481 rfl (goodIn_sub il_c_mdead (List.all_eq_true.mpr gw_c_mdead)))))) rfl rfl rfl (by decide +kernel) ⟨Nat.le_of_ble_eq_true rfl, Nat.le_of_ble_eq_true rfl⟩) (pr_V (As := [.int (xs 1), .int (xs 2), .int (xs 3)]) (b := mo) (C := RX9) hP hD hK hS hA hE [0, 1] [] rfl rfl rfl 0 16 rfl rfl rfl) rfl rfl hl.1 rfl (lv_room (Nat.le_of_ble_eq_true rfl)) dL_law_1687 ⟨Nat.le_of_ble_eq_true rfl, Nat.le_of_ble_eq_true rfl⟩) hP hD hK hS hA [0, 1] [2] rfl rfl (by decide) (by decide) (fun r18 u16 H locs w17 hP hD hK hS => ?_)
  have hP : va_P D vwCl [(oo, .inl (coo, 1, .inr (.inl u7))), (mo, .inr (16, [.int (u16.2.2 0), .int (u16.2.2 1), .int u16.1, .ref (u16.2.1 0), .ref (u16.2.1 1), .ref (u16.2.1 2), .ref (u16.2.1 3), .ref (u16.2.1 4), .ref (u16.2.1 5), .ref (u16.2.1 6), .ref (u16.2.1 7), .int (u16.2.2 2), .ref (u16.2.1 8)]))] H := hP
  have hD : va_D (lw_A s) [(oo, .inl (coo, 1, .inr (.inl u7))), (mo, .inr (16, [.int (u16.2.2 0), .int (u16.2.2 1), .int u16.1, .ref (u16.2.1 0), .ref (u16.2.1 1), .ref (u16.2.1 2), .ref (u16.2.1 3), .ref (u16.2.1 4), .ref (u16.2.1 5), .ref (u16.2.1 6), .ref (u16.2.1 7), .int (u16.2.2 2), .ref (u16.2.1 8)]))] := hD
  have hK : va_K D vwCl [(coo, .long)] s := hK
  refine lv_istore (lv' := [(7, .int r18), (6, .int r9), (5, .int 0), (4, .ref od), (3, .ref oo), (2, .ref mo), (1, .ref x), (0, .ref b)]) hx hb dL_law_1690 hl (by decide) rfl (fun ls hl => ?_)
  refine lv_aload_n hx hb dL_law_1692 rfl (lv_at hl 5 rfl) ?_
  refine mc_i (wr := [(oo, .inl (coo, 1, .inr (.inl u7)))]) (va_runV (As := []) (rest := []) ⟨hx, hb, hml, hown, hts⟩ (c_thrown l hst D mo (u16.2.2 0) (u16.2.2 1) u16.1 (u16.2.1 0) (u16.2.1 1) (u16.2.1 2) (u16.2.1 3) (u16.2.1 4) (u16.2.1 5) (u16.2.1 6) (u16.2.1 7) (u16.2.2 2) (u16.2.1 8) H.size) (cwV 0 hts (gi_c mw_770 rfl (gi_c mw_771 rfl (gi_c mw_772 rfl (gi_c mw_481 rfl (goodIn_sub il_c_thrown (List.all_eq_true.mpr gw_c_thrown)))))) rfl rfl rfl (by decide +kernel) ⟨Nat.le_of_ble_eq_true rfl, Nat.le_of_ble_eq_true rfl⟩) (pr_V (As := []) (b := mo) (C := RX9) hP hD hK hS hA hE [1] [] rfl rfl rfl 1 16 rfl rfl rfl) rfl rfl hl.1 rfl (lv_room (Nat.le_of_ble_eq_true rfl)) dL_law_1693 ⟨Nat.le_of_ble_eq_true rfl, Nat.le_of_ble_eq_true rfl⟩) hP hD hK hS hA [1] [0] rfl rfl (by decide) (by decide) (fun r20 _ H locs w19 hP hD hK hS => ?_)
  have hP : va_P D vwCl [(oo, .inl (coo, 1, .inr (.inl u7))), (mo, .inr (16, [.int (u16.2.2 0), .int (u16.2.2 1), .int u16.1, .ref (u16.2.1 0), .ref (u16.2.1 1), .ref (u16.2.1 2), .ref (u16.2.1 3), .ref (u16.2.1 4), .ref (u16.2.1 5), .ref (u16.2.1 6), .ref (u16.2.1 7), .int (u16.2.2 2), .ref (u16.2.1 8)]))] H := hP
  have hD : va_D (lw_A s) [(oo, .inl (coo, 1, .inr (.inl u7))), (mo, .inr (16, [.int (u16.2.2 0), .int (u16.2.2 1), .int u16.1, .ref (u16.2.1 0), .ref (u16.2.1 1), .ref (u16.2.1 2), .ref (u16.2.1 3), .ref (u16.2.1 4), .ref (u16.2.1 5), .ref (u16.2.1 6), .ref (u16.2.1 7), .int (u16.2.2 2), .ref (u16.2.1 8)]))] := hD
  have hK : va_K D vwCl [(coo, .long)] s := hK
  obtain rfl : r20 = u16.1 := w19
  refine lv_iload hx hb dL_law_1696 (lv_at hl 1 rfl) ?_
  refine lv_icmp_eq (tgt := 1703) hx hb dL_law_1698 (by decide) (fun h21 => ?_) (fun h21 => absurd (by exact (w17).trans w8.1.symm) h21)
  refine lv_iload hx hb dL_law_1703 (lv_at hl 1 rfl) ?_
  refine lv_if_ne (tgt := 1720) hx hb dL_law_1705 (by decide) (fun h22 => ?_) (fun h22 => absurd h22 (by exact fun q9 => absurd (show (1 : Int32) = 0 from w8.1.symm.trans q9) (by decide)))
  refine lv_goto (tgt := 3320) hx hb dL_law_1720 (by decide) ?_
  refine W.widen (k := 600006) (n := 7302040) (Nat.le_of_ble_eq_true rfl) (Nat.le_of_ble_eq_true rfl) ?_
  exact hend _ _ _ (lv_sub hl [2, 7] rfl) hS

set_option maxHeartbeats 4000000 in
set_option maxRecDepth 100000 in
/-- case 21: stolen -/
theorem lc_21 (l : Launch) (hst : l.stackTraces = false) (D : va_G) {p : Program} {e : Env} {s : State} {m : MethodId} {below : List Frame} {meth : Method} {c : Code} {b : Nat} {xs : Nat → Int32} {Q : State → Prop} (hx : p.tables.exec = Jvm.exec) (hb : c.code = code) (hml : c.maxLocals = 9) (hown : s.vm.findClass RL = some m.cls) (hts : ∀ w ∈ lw_tbl, w.before #[Value.ref b] s = true) (hX : va_X b 5 xs s s.heap) (hbl : b < s.heap.size) (hE : ex_E D (lw_A s) s s.heap) (hend : lw_End p l e s m below meth c b Q) (x : Nat) (g : Nat) (ca : Nat) (co : Nat) (ra : Nat) (rl : Nat) (tr : Nat) (f9 : Nat) (f10 : Nat) (f11 : Nat) (f12 : Nat) (f13 : Nat) (oo : Nat) (coo : ClassId) (f0 : Nat → Int64) (mo : Nat) (th : Int32) (m1 : Nat) (m2 : Nat) (m3 : Nat) (m4 : Nat) (m5 : Nat) (l1 : Nat) (l2 : Nat) (l3 : Nat) (l4 : Nat) (od : Nat)  {H : Heap} {locs : List Loc} {ls : Array Slot} (hl : lv_has ls 9 [(5, .int 0), (4, .ref od), (3, .ref oo), (2, .ref mo), (1, .ref x), (0, .ref b)]) (hP : va_P D vwCl [(x, .inr (13, [.ref g, .ref ca, .int 0, .ref co, .int 0, .ref ra, .int 0, .ref rl, .ref tr, .ref f9, .ref f10, .ref f11, .ref f12, .ref f13])), (oo, .inl (coo, 1, .inr (.inl f0))), (mo, .inr (16, [.int 5, .int 5, .int th, .ref m1, .ref m2, .ref m3, .ref m4, .ref m5, .ref l1, .ref l2, .ref l3, .int (-1), .ref l4])), (l1, .inr (5, [.int 1, .ref (D.1 1000), .int 0]))] H) (hD : va_D (lw_A s) [(x, .inr (13, [.ref g, .ref ca, .int 0, .ref co, .int 0, .ref ra, .int 0, .ref rl, .ref tr, .ref f9, .ref f10, .ref f11, .ref f12, .ref f13])), (oo, .inl (coo, 1, .inr (.inl f0))), (mo, .inr (16, [.int 5, .int 5, .int th, .ref m1, .ref m2, .ref m3, .ref m4, .ref m5, .ref l1, .ref l2, .ref l3, .int (-1), .ref l4])), (l1, .inr (5, [.int 1, .ref (D.1 1000), .int 0]))]) (hK : va_K D vwCl [(coo, .long)] s) (hS : va_S (lw_A s) s.heap H locs) : W p l e room_1 s m #[Value.ref b] below meth c H locs 167 55824 Q (F0 m 1723 ls []) := by
  have hA : ∀ q : Nat, s.heap.size ≤ q → lw_A s q := fun _ h => h
  have hbA : ¬ lw_A s b := Nat.not_le.mpr hbl
  refine lv_aload_n hx hb dL_law_1723 rfl (lv_at hl 4 rfl) ?_
  refine lv_aload_n hx hb dL_law_1724 rfl (lv_at hl 5 rfl) ?_
  refine lv_iload hx hb dL_law_1725 (lv_at hl 0 rfl) ?_
  refine lv_iconst (v := 1) hx hb dL_law_1727 (by decide) ?_
  refine lv_iadd hx hb dL_law_1728 ?_
  refine lv_topi (fun x1 e1 => ?_)
  obtain rfl : x1 = 1 := e1.trans (by decide)
  refine va_sld hx hb hX hbl hbA hS (vp_in_nI (n := 1) (by decide) (by decide)) dL_law_1729 ?_
  refine lv_topi (fun x2 e2 => ?_)
  obtain rfl : x2 = xs 1 := e2
  refine lv_aload_n hx hb dL_law_1730 rfl (lv_at hl 5 rfl) ?_
  refine lv_iload hx hb dL_law_1731 (lv_at hl 0 rfl) ?_
  refine lv_iconst (v := 2) hx hb dL_law_1733 (by decide) ?_
  refine lv_iadd hx hb dL_law_1734 ?_
  refine lv_topi (fun x3 e3 => ?_)
  obtain rfl : x3 = 2 := e3.trans (by decide)
  refine va_sld hx hb hX hbl hbA hS (vp_in_nI (n := 2) (by decide) (by decide)) dL_law_1735 ?_
  refine lv_topi (fun x4 e4 => ?_)
  obtain rfl : x4 = xs 2 := e4
  refine lv_aload_n hx hb dL_law_1736 rfl (lv_at hl 2 rfl) ?_
  refine mc_i (wr := [(mo, .inr (16, [.int 5, .int 5, .int th, .ref m1, .ref m2, .ref m3, .ref m4, .ref m5, .ref l1, .ref l2, .ref l3, .int (-1), .ref l4])), (l1, .inr (5, [.int 1, .ref (D.1 1000), .int 0]))]) (vx_runSW (As := [.ref x, .int (xs 1), .int (xs 2), .ref oo]) (rest := []) ⟨hx, hb, hml, hown, hts⟩ (c_Lstolen l hst D x g ca co ra rl tr f9 f10 f11 f12 f13 (xs 1) (xs 2) oo coo f0 H.size) (vx_cwSW 4 hts (gi_c mw_874 rfl (gi_c mw_875 rfl (gi_c mw_766 rfl (goodIn_sub il_c_Lstolen (List.all_eq_true.mpr gw_c_Lstolen))))) rfl rfl rfl (by decide +kernel) ⟨Nat.le_of_ble_eq_true rfl, Nat.le_of_ble_eq_true rfl⟩) (pr_S (As := [.ref x, .int (xs 1), .int (xs 2), .ref oo]) hP hD hK hS hA hE [0, 1] [0] rfl rfl rfl) rfl rfl hl.1 rfl (lv_room (Nat.le_of_ble_eq_true rfl)) dL_law_1737 ⟨Nat.le_of_ble_eq_true rfl, Nat.le_of_ble_eq_true rfl⟩) hP hD hK hS hA [0, 1] [2, 3] rfl rfl (by decide) (by decide) (fun r7 u5 H locs w6 hP hD hK hS => ?_)
  have hP : va_P D vwCl [(mo, .inr (16, [.int 5, .int 5, .int th, .ref m1, .ref m2, .ref m3, .ref m4, .ref m5, .ref l1, .ref l2, .ref l3, .int (-1), .ref l4])), (l1, .inr (5, [.int 1, .ref (D.1 1000), .int 0])), (oo, .inl (coo, 1, .inr (.inl u5)))] H := hP
  have hD : va_D (lw_A s) [(mo, .inr (16, [.int 5, .int 5, .int th, .ref m1, .ref m2, .ref m3, .ref m4, .ref m5, .ref l1, .ref l2, .ref l3, .int (-1), .ref l4])), (l1, .inr (5, [.int 1, .ref (D.1 1000), .int 0])), (oo, .inl (coo, 1, .inr (.inl u5)))] := hD
  have hK : va_K D vwCl [(coo, .long)] s := hK
  refine lv_istore (lv' := [(6, .int r7), (5, .int 0), (4, .ref od), (3, .ref oo), (2, .ref mo), (1, .ref x), (0, .ref b)]) hx hb dL_law_1740 hl (by decide) rfl (fun ls hl => ?_)
  refine lv_aload_n hx hb dL_law_1742 rfl (lv_at hl 4 rfl) ?_
  refine lv_aload_n hx hb dL_law_1743 rfl (lv_at hl 6 rfl) ?_
  refine lv_iload hx hb dL_law_1744 (lv_at hl 1 rfl) ?_
  refine lv_iconst (v := 1) hx hb dL_law_1746 (by decide) ?_
  refine lv_iadd hx hb dL_law_1747 ?_
  refine lv_topi (fun x8 e8 => ?_)
  obtain rfl : x8 = 1 := e8.trans (by decide)
  refine va_sld hx hb hX hbl hbA hS (vp_in_nI (n := 1) (by decide) (by decide)) dL_law_1748 ?_
  refine lv_topi (fun x9 e9 => ?_)
  obtain rfl : x9 = xs 1 := e9
  refine lv_aload_n hx hb dL_law_1749 rfl (lv_at hl 6 rfl) ?_
  refine lv_iload hx hb dL_law_1750 (lv_at hl 1 rfl) ?_
  refine lv_iconst (v := 2) hx hb dL_law_1752 (by decide) ?_
  refine lv_iadd hx hb dL_law_1753 ?_
  refine lv_topi (fun x10 e10 => ?_)
  obtain rfl : x10 = 2 := e10.trans (by decide)
  refine va_sld hx hb hX hbl hbA hS (vp_in_nI (n := 2) (by decide) (by decide)) dL_law_1754 ?_
  refine lv_topi (fun x11 e11 => ?_)
  obtain rfl : x11 = xs 2 := e11
  refine mc_i (wr := [(oo, .inl (coo, 1, .inr (.inl u5)))]) (va_runV (As := [.int (xs 1), .int (xs 2)]) (rest := []) ⟨hx, hb, hml, hown, hts⟩ (c_mstolen l hst D mo th m1 m2 m3 m4 m5 l1 l2 l3 l4 (xs 1) (xs 2) H.size) (cwV 2 hts (gi_c mw_876 rfl (gi_c mw_877 rfl (gi_c mw_878 rfl (gi_c mw_481 rfl (goodIn_sub il_c_mstolen (List.all_eq_true.mpr gw_c_mstolen)))))) rfl rfl rfl (by decide +kernel) ⟨Nat.le_of_ble_eq_true rfl, Nat.le_of_ble_eq_true rfl⟩) (pr_V (As := [.int (xs 1), .int (xs 2)]) (b := mo) (C := RX9) hP hD hK hS hA hE [0, 1] [] rfl rfl rfl 0 16 rfl rfl rfl) rfl rfl hl.1 rfl (lv_room (Nat.le_of_ble_eq_true rfl)) dL_law_1755 ⟨Nat.le_of_ble_eq_true rfl, Nat.le_of_ble_eq_true rfl⟩) hP hD hK hS hA [0, 1] [2] rfl rfl (by decide) (by decide) (fun r14 u12 H locs w13 hP hD hK hS => ?_)
  have hP : va_P D vwCl [(oo, .inl (coo, 1, .inr (.inl u5))), (mo, .inr (16, [.int (u12.2.2 0), .int (u12.2.2 1), .int u12.1, .ref (u12.2.1 0), .ref (u12.2.1 1), .ref (u12.2.1 2), .ref (u12.2.1 3), .ref (u12.2.1 4), .ref (u12.2.1 5), .ref (u12.2.1 6), .ref (u12.2.1 7), .int (u12.2.2 2), .ref (u12.2.1 8)]))] H := hP
  have hD : va_D (lw_A s) [(oo, .inl (coo, 1, .inr (.inl u5))), (mo, .inr (16, [.int (u12.2.2 0), .int (u12.2.2 1), .int u12.1, .ref (u12.2.1 0), .ref (u12.2.1 1), .ref (u12.2.1 2), .ref (u12.2.1 3), .ref (u12.2.1 4), .ref (u12.2.1 5), .ref (u12.2.1 6), .ref (u12.2.1 7), .int (u12.2.2 2), .ref (u12.2.1 8)]))] := hD
  have hK : va_K D vwCl [(coo, .long)] s := hK
  refine lv_istore (lv' := [(7, .int r14), (6, .int r7), (5, .int 0), (4, .ref od), (3, .ref oo), (2, .ref mo), (1, .ref x), (0, .ref b)]) hx hb dL_law_1758 hl (by decide) rfl (fun ls hl => ?_)
  refine lv_aload_n hx hb dL_law_1760 rfl (lv_at hl 5 rfl) ?_
  refine mc_i (wr := [(oo, .inl (coo, 1, .inr (.inl u5)))]) (va_runV (As := []) (rest := []) ⟨hx, hb, hml, hown, hts⟩ (c_thrown l hst D mo (u12.2.2 0) (u12.2.2 1) u12.1 (u12.2.1 0) (u12.2.1 1) (u12.2.1 2) (u12.2.1 3) (u12.2.1 4) (u12.2.1 5) (u12.2.1 6) (u12.2.1 7) (u12.2.2 2) (u12.2.1 8) H.size) (cwV 0 hts (gi_c mw_770 rfl (gi_c mw_771 rfl (gi_c mw_772 rfl (gi_c mw_481 rfl (goodIn_sub il_c_thrown (List.all_eq_true.mpr gw_c_thrown)))))) rfl rfl rfl (by decide +kernel) ⟨Nat.le_of_ble_eq_true rfl, Nat.le_of_ble_eq_true rfl⟩) (pr_V (As := []) (b := mo) (C := RX9) hP hD hK hS hA hE [1] [] rfl rfl rfl 1 16 rfl rfl rfl) rfl rfl hl.1 rfl (lv_room (Nat.le_of_ble_eq_true rfl)) dL_law_1761 ⟨Nat.le_of_ble_eq_true rfl, Nat.le_of_ble_eq_true rfl⟩) hP hD hK hS hA [1] [0] rfl rfl (by decide) (by decide) (fun r16 _ H locs w15 hP hD hK hS => ?_)
  have hP : va_P D vwCl [(oo, .inl (coo, 1, .inr (.inl u5))), (mo, .inr (16, [.int (u12.2.2 0), .int (u12.2.2 1), .int u12.1, .ref (u12.2.1 0), .ref (u12.2.1 1), .ref (u12.2.1 2), .ref (u12.2.1 3), .ref (u12.2.1 4), .ref (u12.2.1 5), .ref (u12.2.1 6), .ref (u12.2.1 7), .int (u12.2.2 2), .ref (u12.2.1 8)]))] H := hP
  have hD : va_D (lw_A s) [(oo, .inl (coo, 1, .inr (.inl u5))), (mo, .inr (16, [.int (u12.2.2 0), .int (u12.2.2 1), .int u12.1, .ref (u12.2.1 0), .ref (u12.2.1 1), .ref (u12.2.1 2), .ref (u12.2.1 3), .ref (u12.2.1 4), .ref (u12.2.1 5), .ref (u12.2.1 6), .ref (u12.2.1 7), .int (u12.2.2 2), .ref (u12.2.1 8)]))] := hD
  have hK : va_K D vwCl [(coo, .long)] s := hK
  obtain rfl : r16 = u12.1 := w15
  refine lv_iload hx hb dL_law_1764 (lv_at hl 1 rfl) ?_
  refine lv_icmp_eq (tgt := 1771) hx hb dL_law_1766 (by decide) (fun h17 => ?_) (fun h17 => absurd (by exact (w13).trans w6.1.symm) h17)
  refine lv_iload hx hb dL_law_1771 (lv_at hl 1 rfl) ?_
  refine lv_if_ne (tgt := 1788) hx hb dL_law_1773 (by decide) (fun h18 => ?_) (fun h18 => absurd h18 (by exact fun q9 => absurd (show (1 : Int32) = 0 from w6.1.symm.trans q9) (by decide)))
  refine lv_goto (tgt := 3320) hx hb dL_law_1788 (by decide) ?_
  refine W.widen (k := 600006) (n := 7302040) (Nat.le_of_ble_eq_true rfl) (Nat.le_of_ble_eq_true rfl) ?_
  exact hend _ _ _ (lv_sub hl [2, 7] rfl) hS

set_option maxHeartbeats 4000000 in
set_option maxRecDepth 100000 in
/-- case 22: voided -/
theorem lc_22 (l : Launch) (hst : l.stackTraces = false) (D : va_G) {p : Program} {e : Env} {s : State} {m : MethodId} {below : List Frame} {meth : Method} {c : Code} {b : Nat} {xs : Nat → Int32} {Q : State → Prop} (hx : p.tables.exec = Jvm.exec) (hb : c.code = code) (hml : c.maxLocals = 9) (hown : s.vm.findClass RL = some m.cls) (hts : ∀ w ∈ lw_tbl, w.before #[Value.ref b] s = true) (hX : va_X b 5 xs s s.heap) (hbl : b < s.heap.size) (hE : ex_E D (lw_A s) s s.heap) (hend : lw_End p l e s m below meth c b Q) (x : Nat) (g : Nat) (ca : Nat) (co : Nat) (ra : Nat) (rl : Nat) (tr : Nat) (f9 : Nat) (f10 : Nat) (f11 : Nat) (f12 : Nat) (f13 : Nat) (oo : Nat) (coo : ClassId) (f0 : Nat → Int64) (mo : Nat) (th : Int32) (m1 : Nat) (m2 : Nat) (m3 : Nat) (m4 : Nat) (m5 : Nat) (l1 : Nat) (l2 : Nat) (l3 : Nat) (l4 : Nat) (od : Nat)  {H : Heap} {locs : List Loc} {ls : Array Slot} (hl : lv_has ls 9 [(5, .int 0), (4, .ref od), (3, .ref oo), (2, .ref mo), (1, .ref x), (0, .ref b)]) (hP : va_P D vwCl [(x, .inr (13, [.ref g, .ref ca, .int 0, .ref co, .int 0, .ref ra, .int 0, .ref rl, .ref tr, .ref f9, .ref f10, .ref f11, .ref f12, .ref f13])), (oo, .inl (coo, 1, .inr (.inl f0))), (mo, .inr (16, [.int 5, .int 5, .int th, .ref m1, .ref m2, .ref m3, .ref m4, .ref m5, .ref l1, .ref l2, .ref l3, .int (-1), .ref l4])), (l2, .inr (5, [.int 1, .ref (D.1 1000), .int 0]))] H) (hD : va_D (lw_A s) [(x, .inr (13, [.ref g, .ref ca, .int 0, .ref co, .int 0, .ref ra, .int 0, .ref rl, .ref tr, .ref f9, .ref f10, .ref f11, .ref f12, .ref f13])), (oo, .inl (coo, 1, .inr (.inl f0))), (mo, .inr (16, [.int 5, .int 5, .int th, .ref m1, .ref m2, .ref m3, .ref m4, .ref m5, .ref l1, .ref l2, .ref l3, .int (-1), .ref l4])), (l2, .inr (5, [.int 1, .ref (D.1 1000), .int 0]))]) (hK : va_K D vwCl [(coo, .long)] s) (hS : va_S (lw_A s) s.heap H locs) : W p l e room_1 s m #[Value.ref b] below meth c H locs 167 55824 Q (F0 m 1791 ls []) := by
  have hA : ∀ q : Nat, s.heap.size ≤ q → lw_A s q := fun _ h => h
  have hbA : ¬ lw_A s b := Nat.not_le.mpr hbl
  refine lv_aload_n hx hb dL_law_1791 rfl (lv_at hl 4 rfl) ?_
  refine lv_aload_n hx hb dL_law_1792 rfl (lv_at hl 5 rfl) ?_
  refine lv_iload hx hb dL_law_1793 (lv_at hl 0 rfl) ?_
  refine lv_iconst (v := 1) hx hb dL_law_1795 (by decide) ?_
  refine lv_iadd hx hb dL_law_1796 ?_
  refine lv_topi (fun x1 e1 => ?_)
  obtain rfl : x1 = 1 := e1.trans (by decide)
  refine va_sld hx hb hX hbl hbA hS (vp_in_nI (n := 1) (by decide) (by decide)) dL_law_1797 ?_
  refine lv_topi (fun x2 e2 => ?_)
  obtain rfl : x2 = xs 1 := e2
  refine lv_aload_n hx hb dL_law_1798 rfl (lv_at hl 5 rfl) ?_
  refine lv_iload hx hb dL_law_1799 (lv_at hl 0 rfl) ?_
  refine lv_iconst (v := 2) hx hb dL_law_1801 (by decide) ?_
  refine lv_iadd hx hb dL_law_1802 ?_
  refine lv_topi (fun x3 e3 => ?_)
  obtain rfl : x3 = 2 := e3.trans (by decide)
  refine va_sld hx hb hX hbl hbA hS (vp_in_nI (n := 2) (by decide) (by decide)) dL_law_1803 ?_
  refine lv_topi (fun x4 e4 => ?_)
  obtain rfl : x4 = xs 2 := e4
  refine lv_aload_n hx hb dL_law_1804 rfl (lv_at hl 5 rfl) ?_
  refine lv_iload hx hb dL_law_1805 (lv_at hl 0 rfl) ?_
  refine lv_iconst (v := 3) hx hb dL_law_1807 (by decide) ?_
  refine lv_iadd hx hb dL_law_1808 ?_
  refine lv_topi (fun x5 e5 => ?_)
  obtain rfl : x5 = 3 := e5.trans (by decide)
  refine va_sld hx hb hX hbl hbA hS (vp_in_nI (n := 3) (by decide) (by decide)) dL_law_1809 ?_
  refine lv_topi (fun x6 e6 => ?_)
  obtain rfl : x6 = xs 3 := e6
  refine lv_if_eq (tgt := 1817) hx hb dL_law_1810 (by decide) (fun h7 => ?_) (fun h7 => ?_)
  · refine lv_iconst (v := 0) hx hb dL_law_1817 (by decide) ?_
    refine lv_aload_n hx hb dL_law_1818 rfl (lv_at hl 2 rfl) ?_
    refine mc_i (wr := [(mo, .inr (16, [.int 5, .int 5, .int th, .ref m1, .ref m2, .ref m3, .ref m4, .ref m5, .ref l1, .ref l2, .ref l3, .int (-1), .ref l4])), (l2, .inr (5, [.int 1, .ref (D.1 1000), .int 0]))]) (vx_runSW (As := [.ref x, .int (xs 1), .int (xs 2), .int 0, .ref oo]) (rest := []) ⟨hx, hb, hml, hown, hts⟩ (c_Lvoided l hst D x g ca co ra rl tr f9 f10 f11 f12 f13 (xs 1) (xs 2) 0 oo coo f0 H.size) (vx_cwSW 5 hts (gi_c mw_879 rfl (gi_c mw_880 rfl (gi_c mw_766 rfl (goodIn_sub il_c_Lvoided (List.all_eq_true.mpr gw_c_Lvoided))))) rfl rfl rfl (by decide +kernel) ⟨Nat.le_of_ble_eq_true rfl, Nat.le_of_ble_eq_true rfl⟩) (pr_S (As := [.ref x, .int (xs 1), .int (xs 2), .int 0, .ref oo]) hP hD hK hS hA hE [0, 1] [0] rfl rfl rfl) rfl rfl hl.1 rfl (lv_room (Nat.le_of_ble_eq_true rfl)) dL_law_1819 ⟨Nat.le_of_ble_eq_true rfl, Nat.le_of_ble_eq_true rfl⟩) hP hD hK hS hA [0, 1] [2, 3] rfl rfl (by decide) (by decide) (fun r10 u8 H locs w9 hP hD hK hS => ?_)
    have hP : va_P D vwCl [(mo, .inr (16, [.int 5, .int 5, .int th, .ref m1, .ref m2, .ref m3, .ref m4, .ref m5, .ref l1, .ref l2, .ref l3, .int (-1), .ref l4])), (l2, .inr (5, [.int 1, .ref (D.1 1000), .int 0])), (oo, .inl (coo, 1, .inr (.inl u8)))] H := hP
    have hD : va_D (lw_A s) [(mo, .inr (16, [.int 5, .int 5, .int th, .ref m1, .ref m2, .ref m3, .ref m4, .ref m5, .ref l1, .ref l2, .ref l3, .int (-1), .ref l4])), (l2, .inr (5, [.int 1, .ref (D.1 1000), .int 0])), (oo, .inl (coo, 1, .inr (.inl u8)))] := hD
    have hK : va_K D vwCl [(coo, .long)] s := hK
    refine lv_istore (lv' := [(6, .int r10), (5, .int 0), (4, .ref od), (3, .ref oo), (2, .ref mo), (1, .ref x), (0, .ref b)]) hx hb dL_law_1822 hl (by decide) rfl (fun ls hl => ?_)
    refine lv_aload_n hx hb dL_law_1824 rfl (lv_at hl 4 rfl) ?_
    refine lv_aload_n hx hb dL_law_1825 rfl (lv_at hl 6 rfl) ?_
    refine lv_iload hx hb dL_law_1826 (lv_at hl 1 rfl) ?_
    refine lv_iconst (v := 1) hx hb dL_law_1828 (by decide) ?_
    refine lv_iadd hx hb dL_law_1829 ?_
    refine lv_topi (fun x11 e11 => ?_)
    obtain rfl : x11 = 1 := e11.trans (by decide)
    refine va_sld hx hb hX hbl hbA hS (vp_in_nI (n := 1) (by decide) (by decide)) dL_law_1830 ?_
    refine lv_topi (fun x12 e12 => ?_)
    obtain rfl : x12 = xs 1 := e12
    refine lv_aload_n hx hb dL_law_1831 rfl (lv_at hl 6 rfl) ?_
    refine lv_iload hx hb dL_law_1832 (lv_at hl 1 rfl) ?_
    refine lv_iconst (v := 2) hx hb dL_law_1834 (by decide) ?_
    refine lv_iadd hx hb dL_law_1835 ?_
    refine lv_topi (fun x13 e13 => ?_)
    obtain rfl : x13 = 2 := e13.trans (by decide)
    refine va_sld hx hb hX hbl hbA hS (vp_in_nI (n := 2) (by decide) (by decide)) dL_law_1836 ?_
    refine lv_topi (fun x14 e14 => ?_)
    obtain rfl : x14 = xs 2 := e14
    refine lv_aload_n hx hb dL_law_1837 rfl (lv_at hl 6 rfl) ?_
    refine lv_iload hx hb dL_law_1838 (lv_at hl 1 rfl) ?_
    refine lv_iconst (v := 3) hx hb dL_law_1840 (by decide) ?_
    refine lv_iadd hx hb dL_law_1841 ?_
    refine lv_topi (fun x15 e15 => ?_)
    obtain rfl : x15 = 3 := e15.trans (by decide)
    refine va_sld hx hb hX hbl hbA hS (vp_in_nI (n := 3) (by decide) (by decide)) dL_law_1842 ?_
    refine lv_topi (fun x16 e16 => ?_)
    obtain rfl : x16 = xs 3 := e16
    refine lv_if_eq (tgt := 1850) hx hb dL_law_1843 (by decide) (fun h17 => ?_) (fun h17 => absurd (by exact h7) h17)
    refine lv_iconst (v := 0) hx hb dL_law_1850 (by decide) ?_
    refine mc_i (wr := [(oo, .inl (coo, 1, .inr (.inl u8)))]) (va_runV (As := [.int (xs 1), .int (xs 2), .int 0]) (rest := []) ⟨hx, hb, hml, hown, hts⟩ (c_mvoided l hst D mo th m1 m2 m3 m4 m5 l1 l2 l3 l4 (xs 1) (xs 2) 0 H.size) (cwV 3 hts (gi_c mw_881 rfl (gi_c mw_882 rfl (gi_c mw_883 rfl (gi_c mw_481 rfl (goodIn_sub il_c_mvoided (List.all_eq_true.mpr gw_c_mvoided)))))) rfl rfl rfl (by decide +kernel) ⟨Nat.le_of_ble_eq_true rfl, Nat.le_of_ble_eq_true rfl⟩) (pr_V (As := [.int (xs 1), .int (xs 2), .int 0]) (b := mo) (C := RX9) hP hD hK hS hA hE [0, 1] [] rfl rfl rfl 0 16 rfl rfl rfl) rfl rfl hl.1 rfl (lv_room (Nat.le_of_ble_eq_true rfl)) dL_law_1851 ⟨Nat.le_of_ble_eq_true rfl, Nat.le_of_ble_eq_true rfl⟩) hP hD hK hS hA [0, 1] [2] rfl rfl (by decide) (by decide) (fun r20 u18 H locs w19 hP hD hK hS => ?_)
    have hP : va_P D vwCl [(oo, .inl (coo, 1, .inr (.inl u8))), (mo, .inr (16, [.int (u18.2.2 0), .int (u18.2.2 1), .int u18.1, .ref (u18.2.1 0), .ref (u18.2.1 1), .ref (u18.2.1 2), .ref (u18.2.1 3), .ref (u18.2.1 4), .ref (u18.2.1 5), .ref (u18.2.1 6), .ref (u18.2.1 7), .int (u18.2.2 2), .ref (u18.2.1 8)]))] H := hP
    have hD : va_D (lw_A s) [(oo, .inl (coo, 1, .inr (.inl u8))), (mo, .inr (16, [.int (u18.2.2 0), .int (u18.2.2 1), .int u18.1, .ref (u18.2.1 0), .ref (u18.2.1 1), .ref (u18.2.1 2), .ref (u18.2.1 3), .ref (u18.2.1 4), .ref (u18.2.1 5), .ref (u18.2.1 6), .ref (u18.2.1 7), .int (u18.2.2 2), .ref (u18.2.1 8)]))] := hD
    have hK : va_K D vwCl [(coo, .long)] s := hK
    refine lv_istore (lv' := [(7, .int r20), (6, .int r10), (5, .int 0), (4, .ref od), (3, .ref oo), (2, .ref mo), (1, .ref x), (0, .ref b)]) hx hb dL_law_1854 hl (by decide) rfl (fun ls hl => ?_)
    refine lv_aload_n hx hb dL_law_1856 rfl (lv_at hl 5 rfl) ?_
    refine mc_i (wr := [(oo, .inl (coo, 1, .inr (.inl u8)))]) (va_runV (As := []) (rest := []) ⟨hx, hb, hml, hown, hts⟩ (c_thrown l hst D mo (u18.2.2 0) (u18.2.2 1) u18.1 (u18.2.1 0) (u18.2.1 1) (u18.2.1 2) (u18.2.1 3) (u18.2.1 4) (u18.2.1 5) (u18.2.1 6) (u18.2.1 7) (u18.2.2 2) (u18.2.1 8) H.size) (cwV 0 hts (gi_c mw_770 rfl (gi_c mw_771 rfl (gi_c mw_772 rfl (gi_c mw_481 rfl (goodIn_sub il_c_thrown (List.all_eq_true.mpr gw_c_thrown)))))) rfl rfl rfl (by decide +kernel) ⟨Nat.le_of_ble_eq_true rfl, Nat.le_of_ble_eq_true rfl⟩) (pr_V (As := []) (b := mo) (C := RX9) hP hD hK hS hA hE [1] [] rfl rfl rfl 1 16 rfl rfl rfl) rfl rfl hl.1 rfl (lv_room (Nat.le_of_ble_eq_true rfl)) dL_law_1857 ⟨Nat.le_of_ble_eq_true rfl, Nat.le_of_ble_eq_true rfl⟩) hP hD hK hS hA [1] [0] rfl rfl (by decide) (by decide) (fun r22 _ H locs w21 hP hD hK hS => ?_)
    have hP : va_P D vwCl [(oo, .inl (coo, 1, .inr (.inl u8))), (mo, .inr (16, [.int (u18.2.2 0), .int (u18.2.2 1), .int u18.1, .ref (u18.2.1 0), .ref (u18.2.1 1), .ref (u18.2.1 2), .ref (u18.2.1 3), .ref (u18.2.1 4), .ref (u18.2.1 5), .ref (u18.2.1 6), .ref (u18.2.1 7), .int (u18.2.2 2), .ref (u18.2.1 8)]))] H := hP
    have hD : va_D (lw_A s) [(oo, .inl (coo, 1, .inr (.inl u8))), (mo, .inr (16, [.int (u18.2.2 0), .int (u18.2.2 1), .int u18.1, .ref (u18.2.1 0), .ref (u18.2.1 1), .ref (u18.2.1 2), .ref (u18.2.1 3), .ref (u18.2.1 4), .ref (u18.2.1 5), .ref (u18.2.1 6), .ref (u18.2.1 7), .int (u18.2.2 2), .ref (u18.2.1 8)]))] := hD
    have hK : va_K D vwCl [(coo, .long)] s := hK
    obtain rfl : r22 = u18.1 := w21
    refine lv_iload hx hb dL_law_1860 (lv_at hl 1 rfl) ?_
    refine lv_icmp_eq (tgt := 1867) hx hb dL_law_1862 (by decide) (fun h23 => ?_) (fun h23 => absurd (by exact (w19).trans w9.1.symm) h23)
    refine lv_iload hx hb dL_law_1867 (lv_at hl 1 rfl) ?_
    refine lv_if_ne (tgt := 1891) hx hb dL_law_1869 (by decide) (fun h24 => ?_) (fun h24 => absurd h24 (by exact fun q9 => absurd (show (1 : Int32) = 0 from w9.1.symm.trans q9) (by decide)))
    refine lv_goto (tgt := 3320) hx hb dL_law_1891 (by decide) ?_
    refine W.widen (k := 600006) (n := 7302040) (Nat.le_of_ble_eq_true rfl) (Nat.le_of_ble_eq_true rfl) ?_
    exact hend _ _ _ (lv_sub hl [2, 7] rfl) hS
  · refine lv_iconst (v := 1) hx hb dL_law_1813 (by decide) ?_
    refine lv_goto (tgt := 1818) hx hb dL_law_1814 (by decide) ?_
    refine lv_aload_n hx hb dL_law_1818 rfl (lv_at hl 2 rfl) ?_
    refine mc_i (wr := [(mo, .inr (16, [.int 5, .int 5, .int th, .ref m1, .ref m2, .ref m3, .ref m4, .ref m5, .ref l1, .ref l2, .ref l3, .int (-1), .ref l4])), (l2, .inr (5, [.int 1, .ref (D.1 1000), .int 0]))]) (vx_runSW (As := [.ref x, .int (xs 1), .int (xs 2), .int 1, .ref oo]) (rest := []) ⟨hx, hb, hml, hown, hts⟩ (c_Lvoided l hst D x g ca co ra rl tr f9 f10 f11 f12 f13 (xs 1) (xs 2) 1 oo coo f0 H.size) (vx_cwSW 5 hts (gi_c mw_879 rfl (gi_c mw_880 rfl (gi_c mw_766 rfl (goodIn_sub il_c_Lvoided (List.all_eq_true.mpr gw_c_Lvoided))))) rfl rfl rfl (by decide +kernel) ⟨Nat.le_of_ble_eq_true rfl, Nat.le_of_ble_eq_true rfl⟩) (pr_S (As := [.ref x, .int (xs 1), .int (xs 2), .int 1, .ref oo]) hP hD hK hS hA hE [0, 1] [0] rfl rfl rfl) rfl rfl hl.1 rfl (lv_room (Nat.le_of_ble_eq_true rfl)) dL_law_1819 ⟨Nat.le_of_ble_eq_true rfl, Nat.le_of_ble_eq_true rfl⟩) hP hD hK hS hA [0, 1] [2, 3] rfl rfl (by decide) (by decide) (fun r27 u25 H locs w26 hP hD hK hS => ?_)
    have hP : va_P D vwCl [(mo, .inr (16, [.int 5, .int 5, .int th, .ref m1, .ref m2, .ref m3, .ref m4, .ref m5, .ref l1, .ref l2, .ref l3, .int (-1), .ref l4])), (l2, .inr (5, [.int 1, .ref (D.1 1000), .int 0])), (oo, .inl (coo, 1, .inr (.inl u25)))] H := hP
    have hD : va_D (lw_A s) [(mo, .inr (16, [.int 5, .int 5, .int th, .ref m1, .ref m2, .ref m3, .ref m4, .ref m5, .ref l1, .ref l2, .ref l3, .int (-1), .ref l4])), (l2, .inr (5, [.int 1, .ref (D.1 1000), .int 0])), (oo, .inl (coo, 1, .inr (.inl u25)))] := hD
    have hK : va_K D vwCl [(coo, .long)] s := hK
    refine lv_istore (lv' := [(6, .int r27), (5, .int 0), (4, .ref od), (3, .ref oo), (2, .ref mo), (1, .ref x), (0, .ref b)]) hx hb dL_law_1822 hl (by decide) rfl (fun ls hl => ?_)
    refine lv_aload_n hx hb dL_law_1824 rfl (lv_at hl 4 rfl) ?_
    refine lv_aload_n hx hb dL_law_1825 rfl (lv_at hl 6 rfl) ?_
    refine lv_iload hx hb dL_law_1826 (lv_at hl 1 rfl) ?_
    refine lv_iconst (v := 1) hx hb dL_law_1828 (by decide) ?_
    refine lv_iadd hx hb dL_law_1829 ?_
    refine lv_topi (fun x28 e28 => ?_)
    obtain rfl : x28 = 1 := e28.trans (by decide)
    refine va_sld hx hb hX hbl hbA hS (vp_in_nI (n := 1) (by decide) (by decide)) dL_law_1830 ?_
    refine lv_topi (fun x29 e29 => ?_)
    obtain rfl : x29 = xs 1 := e29
    refine lv_aload_n hx hb dL_law_1831 rfl (lv_at hl 6 rfl) ?_
    refine lv_iload hx hb dL_law_1832 (lv_at hl 1 rfl) ?_
    refine lv_iconst (v := 2) hx hb dL_law_1834 (by decide) ?_
    refine lv_iadd hx hb dL_law_1835 ?_
    refine lv_topi (fun x30 e30 => ?_)
    obtain rfl : x30 = 2 := e30.trans (by decide)
    refine va_sld hx hb hX hbl hbA hS (vp_in_nI (n := 2) (by decide) (by decide)) dL_law_1836 ?_
    refine lv_topi (fun x31 e31 => ?_)
    obtain rfl : x31 = xs 2 := e31
    refine lv_aload_n hx hb dL_law_1837 rfl (lv_at hl 6 rfl) ?_
    refine lv_iload hx hb dL_law_1838 (lv_at hl 1 rfl) ?_
    refine lv_iconst (v := 3) hx hb dL_law_1840 (by decide) ?_
    refine lv_iadd hx hb dL_law_1841 ?_
    refine lv_topi (fun x32 e32 => ?_)
    obtain rfl : x32 = 3 := e32.trans (by decide)
    refine va_sld hx hb hX hbl hbA hS (vp_in_nI (n := 3) (by decide) (by decide)) dL_law_1842 ?_
    refine lv_topi (fun x33 e33 => ?_)
    obtain rfl : x33 = xs 3 := e33
    refine lv_if_eq (tgt := 1850) hx hb dL_law_1843 (by decide) (fun h34 => absurd h34 (by exact h7)) (fun h34 => ?_)
    refine lv_iconst (v := 1) hx hb dL_law_1846 (by decide) ?_
    refine lv_goto (tgt := 1851) hx hb dL_law_1847 (by decide) ?_
    refine mc_i (wr := [(oo, .inl (coo, 1, .inr (.inl u25)))]) (va_runV (As := [.int (xs 1), .int (xs 2), .int 1]) (rest := []) ⟨hx, hb, hml, hown, hts⟩ (c_mvoided l hst D mo th m1 m2 m3 m4 m5 l1 l2 l3 l4 (xs 1) (xs 2) 1 H.size) (cwV 3 hts (gi_c mw_881 rfl (gi_c mw_882 rfl (gi_c mw_883 rfl (gi_c mw_481 rfl (goodIn_sub il_c_mvoided (List.all_eq_true.mpr gw_c_mvoided)))))) rfl rfl rfl (by decide +kernel) ⟨Nat.le_of_ble_eq_true rfl, Nat.le_of_ble_eq_true rfl⟩) (pr_V (As := [.int (xs 1), .int (xs 2), .int 1]) (b := mo) (C := RX9) hP hD hK hS hA hE [0, 1] [] rfl rfl rfl 0 16 rfl rfl rfl) rfl rfl hl.1 rfl (lv_room (Nat.le_of_ble_eq_true rfl)) dL_law_1851 ⟨Nat.le_of_ble_eq_true rfl, Nat.le_of_ble_eq_true rfl⟩) hP hD hK hS hA [0, 1] [2] rfl rfl (by decide) (by decide) (fun r37 u35 H locs w36 hP hD hK hS => ?_)
    have hP : va_P D vwCl [(oo, .inl (coo, 1, .inr (.inl u25))), (mo, .inr (16, [.int (u35.2.2 0), .int (u35.2.2 1), .int u35.1, .ref (u35.2.1 0), .ref (u35.2.1 1), .ref (u35.2.1 2), .ref (u35.2.1 3), .ref (u35.2.1 4), .ref (u35.2.1 5), .ref (u35.2.1 6), .ref (u35.2.1 7), .int (u35.2.2 2), .ref (u35.2.1 8)]))] H := hP
    have hD : va_D (lw_A s) [(oo, .inl (coo, 1, .inr (.inl u25))), (mo, .inr (16, [.int (u35.2.2 0), .int (u35.2.2 1), .int u35.1, .ref (u35.2.1 0), .ref (u35.2.1 1), .ref (u35.2.1 2), .ref (u35.2.1 3), .ref (u35.2.1 4), .ref (u35.2.1 5), .ref (u35.2.1 6), .ref (u35.2.1 7), .int (u35.2.2 2), .ref (u35.2.1 8)]))] := hD
    have hK : va_K D vwCl [(coo, .long)] s := hK
    refine lv_istore (lv' := [(7, .int r37), (6, .int r27), (5, .int 0), (4, .ref od), (3, .ref oo), (2, .ref mo), (1, .ref x), (0, .ref b)]) hx hb dL_law_1854 hl (by decide) rfl (fun ls hl => ?_)
    refine lv_aload_n hx hb dL_law_1856 rfl (lv_at hl 5 rfl) ?_
    refine mc_i (wr := [(oo, .inl (coo, 1, .inr (.inl u25)))]) (va_runV (As := []) (rest := []) ⟨hx, hb, hml, hown, hts⟩ (c_thrown l hst D mo (u35.2.2 0) (u35.2.2 1) u35.1 (u35.2.1 0) (u35.2.1 1) (u35.2.1 2) (u35.2.1 3) (u35.2.1 4) (u35.2.1 5) (u35.2.1 6) (u35.2.1 7) (u35.2.2 2) (u35.2.1 8) H.size) (cwV 0 hts (gi_c mw_770 rfl (gi_c mw_771 rfl (gi_c mw_772 rfl (gi_c mw_481 rfl (goodIn_sub il_c_thrown (List.all_eq_true.mpr gw_c_thrown)))))) rfl rfl rfl (by decide +kernel) ⟨Nat.le_of_ble_eq_true rfl, Nat.le_of_ble_eq_true rfl⟩) (pr_V (As := []) (b := mo) (C := RX9) hP hD hK hS hA hE [1] [] rfl rfl rfl 1 16 rfl rfl rfl) rfl rfl hl.1 rfl (lv_room (Nat.le_of_ble_eq_true rfl)) dL_law_1857 ⟨Nat.le_of_ble_eq_true rfl, Nat.le_of_ble_eq_true rfl⟩) hP hD hK hS hA [1] [0] rfl rfl (by decide) (by decide) (fun r39 _ H locs w38 hP hD hK hS => ?_)
    have hP : va_P D vwCl [(oo, .inl (coo, 1, .inr (.inl u25))), (mo, .inr (16, [.int (u35.2.2 0), .int (u35.2.2 1), .int u35.1, .ref (u35.2.1 0), .ref (u35.2.1 1), .ref (u35.2.1 2), .ref (u35.2.1 3), .ref (u35.2.1 4), .ref (u35.2.1 5), .ref (u35.2.1 6), .ref (u35.2.1 7), .int (u35.2.2 2), .ref (u35.2.1 8)]))] H := hP
    have hD : va_D (lw_A s) [(oo, .inl (coo, 1, .inr (.inl u25))), (mo, .inr (16, [.int (u35.2.2 0), .int (u35.2.2 1), .int u35.1, .ref (u35.2.1 0), .ref (u35.2.1 1), .ref (u35.2.1 2), .ref (u35.2.1 3), .ref (u35.2.1 4), .ref (u35.2.1 5), .ref (u35.2.1 6), .ref (u35.2.1 7), .int (u35.2.2 2), .ref (u35.2.1 8)]))] := hD
    have hK : va_K D vwCl [(coo, .long)] s := hK
    obtain rfl : r39 = u35.1 := w38
    refine lv_iload hx hb dL_law_1860 (lv_at hl 1 rfl) ?_
    refine lv_icmp_eq (tgt := 1867) hx hb dL_law_1862 (by decide) (fun h40 => ?_) (fun h40 => absurd (by exact (w36).trans w26.1.symm) h40)
    refine lv_iload hx hb dL_law_1867 (lv_at hl 1 rfl) ?_
    refine lv_if_ne (tgt := 1891) hx hb dL_law_1869 (by decide) (fun h41 => ?_) (fun h41 => absurd h41 (by exact fun q9 => absurd (show (1 : Int32) = 0 from w26.1.symm.trans q9) (by decide)))
    refine lv_goto (tgt := 3320) hx hb dL_law_1891 (by decide) ?_
    refine W.widen (k := 600006) (n := 7302040) (Nat.le_of_ble_eq_true rfl) (Nat.le_of_ble_eq_true rfl) ?_
    exact hend _ _ _ (lv_sub hl [2, 7] rfl) hS

set_option maxHeartbeats 4000000 in
set_option maxRecDepth 100000 in
/-- case 23: rule -/
theorem lc_23 (l : Launch) (hst : l.stackTraces = false) (D : va_G) {p : Program} {e : Env} {s : State} {m : MethodId} {below : List Frame} {meth : Method} {c : Code} {b : Nat} {xs : Nat → Int32} {Q : State → Prop} (hx : p.tables.exec = Jvm.exec) (hb : c.code = code) (hml : c.maxLocals = 9) (hown : s.vm.findClass RL = some m.cls) (hts : ∀ w ∈ lw_tbl, w.before #[Value.ref b] s = true) (hX : va_X b 5 xs s s.heap) (hbl : b < s.heap.size) (hE : ex_E D (lw_A s) s s.heap) (hend : lw_End p l e s m below meth c b Q) (x : Nat) (g : Nat) (ca : Nat) (co : Nat) (ra : Nat) (rl : Nat) (tr : Nat) (f9 : Nat) (f10 : Nat) (f11 : Nat) (f12 : Nat) (f13 : Nat) (oo : Nat) (coo : ClassId) (f0 : Nat → Int64) (mo : Nat) (th : Int32) (m1 : Nat) (m2 : Nat) (m3 : Nat) (m4 : Nat) (m5 : Nat) (l1 : Nat) (l2 : Nat) (l3 : Nat) (l4 : Nat) (od : Nat)  {H : Heap} {locs : List Loc} {ls : Array Slot} (hl : lv_has ls 9 [(5, .int 0), (4, .ref od), (3, .ref oo), (2, .ref mo), (1, .ref x), (0, .ref b)]) (hP : va_P D vwCl [(x, .inr (13, [.ref g, .ref ca, .int 0, .ref co, .int 0, .ref ra, .int 0, .ref rl, .ref tr, .ref f9, .ref f10, .ref f11, .ref f12, .ref f13])), (oo, .inl (coo, 1, .inr (.inl f0))), (mo, .inr (16, [.int 5, .int 5, .int th, .ref m1, .ref m2, .ref m3, .ref m4, .ref m5, .ref l1, .ref l2, .ref l3, .int (-1), .ref l4])), (l3, .inr (5, [.int 1, .ref (D.1 1000), .int 0]))] H) (hD : va_D (lw_A s) [(x, .inr (13, [.ref g, .ref ca, .int 0, .ref co, .int 0, .ref ra, .int 0, .ref rl, .ref tr, .ref f9, .ref f10, .ref f11, .ref f12, .ref f13])), (oo, .inl (coo, 1, .inr (.inl f0))), (mo, .inr (16, [.int 5, .int 5, .int th, .ref m1, .ref m2, .ref m3, .ref m4, .ref m5, .ref l1, .ref l2, .ref l3, .int (-1), .ref l4])), (l3, .inr (5, [.int 1, .ref (D.1 1000), .int 0]))]) (hK : va_K D vwCl [(coo, .long)] s) (hS : va_S (lw_A s) s.heap H locs) : W p l e room_1 s m #[Value.ref b] below meth c H locs 167 55824 Q (F0 m 1894 ls []) := by
  have hA : ∀ q : Nat, s.heap.size ≤ q → lw_A s q := fun _ h => h
  have hbA : ¬ lw_A s b := Nat.not_le.mpr hbl
  refine lv_aload_n hx hb dL_law_1894 rfl (lv_at hl 4 rfl) ?_
  refine lv_aload_n hx hb dL_law_1895 rfl (lv_at hl 5 rfl) ?_
  refine lv_iload hx hb dL_law_1896 (lv_at hl 0 rfl) ?_
  refine lv_iconst (v := 1) hx hb dL_law_1898 (by decide) ?_
  refine lv_iadd hx hb dL_law_1899 ?_
  refine lv_topi (fun x1 e1 => ?_)
  obtain rfl : x1 = 1 := e1.trans (by decide)
  refine va_sld hx hb hX hbl hbA hS (vp_in_nI (n := 1) (by decide) (by decide)) dL_law_1900 ?_
  refine lv_topi (fun x2 e2 => ?_)
  obtain rfl : x2 = xs 1 := e2
  refine lv_aload_n hx hb dL_law_1901 rfl (lv_at hl 5 rfl) ?_
  refine lv_iload hx hb dL_law_1902 (lv_at hl 0 rfl) ?_
  refine lv_iconst (v := 2) hx hb dL_law_1904 (by decide) ?_
  refine lv_iadd hx hb dL_law_1905 ?_
  refine lv_topi (fun x3 e3 => ?_)
  obtain rfl : x3 = 2 := e3.trans (by decide)
  refine va_sld hx hb hX hbl hbA hS (vp_in_nI (n := 2) (by decide) (by decide)) dL_law_1906 ?_
  refine lv_topi (fun x4 e4 => ?_)
  obtain rfl : x4 = xs 2 := e4
  refine lv_aload_n hx hb dL_law_1907 rfl (lv_at hl 2 rfl) ?_
  refine mc_i (wr := [(mo, .inr (16, [.int 5, .int 5, .int th, .ref m1, .ref m2, .ref m3, .ref m4, .ref m5, .ref l1, .ref l2, .ref l3, .int (-1), .ref l4])), (l3, .inr (5, [.int 1, .ref (D.1 1000), .int 0]))]) (vx_runSW (As := [.ref x, .int (xs 1), .int (xs 2), .ref oo]) (rest := []) ⟨hx, hb, hml, hown, hts⟩ (c_Lrule l hst D x g ca co ra rl tr f9 f10 f11 f12 f13 (xs 1) (xs 2) oo coo f0 H.size) (vx_cwSW 4 hts (gi_c mw_884 rfl (gi_c mw_885 rfl (gi_c mw_766 rfl (goodIn_sub il_c_Lrule (List.all_eq_true.mpr gw_c_Lrule))))) rfl rfl rfl (by decide +kernel) ⟨Nat.le_of_ble_eq_true rfl, Nat.le_of_ble_eq_true rfl⟩) (pr_S (As := [.ref x, .int (xs 1), .int (xs 2), .ref oo]) hP hD hK hS hA hE [0, 1] [0] rfl rfl rfl) rfl rfl hl.1 rfl (lv_room (Nat.le_of_ble_eq_true rfl)) dL_law_1908 ⟨Nat.le_of_ble_eq_true rfl, Nat.le_of_ble_eq_true rfl⟩) hP hD hK hS hA [0, 1] [2, 3] rfl rfl (by decide) (by decide) (fun r7 u5 H locs w6 hP hD hK hS => ?_)
  have hP : va_P D vwCl [(mo, .inr (16, [.int 5, .int 5, .int th, .ref m1, .ref m2, .ref m3, .ref m4, .ref m5, .ref l1, .ref l2, .ref l3, .int (-1), .ref l4])), (l3, .inr (5, [.int 1, .ref (D.1 1000), .int 0])), (oo, .inl (coo, 1, .inr (.inl u5)))] H := hP
  have hD : va_D (lw_A s) [(mo, .inr (16, [.int 5, .int 5, .int th, .ref m1, .ref m2, .ref m3, .ref m4, .ref m5, .ref l1, .ref l2, .ref l3, .int (-1), .ref l4])), (l3, .inr (5, [.int 1, .ref (D.1 1000), .int 0])), (oo, .inl (coo, 1, .inr (.inl u5)))] := hD
  have hK : va_K D vwCl [(coo, .long)] s := hK
  refine lv_istore (lv' := [(6, .int r7), (5, .int 0), (4, .ref od), (3, .ref oo), (2, .ref mo), (1, .ref x), (0, .ref b)]) hx hb dL_law_1911 hl (by decide) rfl (fun ls hl => ?_)
  refine lv_aload_n hx hb dL_law_1913 rfl (lv_at hl 4 rfl) ?_
  refine lv_aload_n hx hb dL_law_1914 rfl (lv_at hl 6 rfl) ?_
  refine lv_iload hx hb dL_law_1915 (lv_at hl 1 rfl) ?_
  refine lv_iconst (v := 1) hx hb dL_law_1917 (by decide) ?_
  refine lv_iadd hx hb dL_law_1918 ?_
  refine lv_topi (fun x8 e8 => ?_)
  obtain rfl : x8 = 1 := e8.trans (by decide)
  refine va_sld hx hb hX hbl hbA hS (vp_in_nI (n := 1) (by decide) (by decide)) dL_law_1919 ?_
  refine lv_topi (fun x9 e9 => ?_)
  obtain rfl : x9 = xs 1 := e9
  refine lv_aload_n hx hb dL_law_1920 rfl (lv_at hl 6 rfl) ?_
  refine lv_iload hx hb dL_law_1921 (lv_at hl 1 rfl) ?_
  refine lv_iconst (v := 2) hx hb dL_law_1923 (by decide) ?_
  refine lv_iadd hx hb dL_law_1924 ?_
  refine lv_topi (fun x10 e10 => ?_)
  obtain rfl : x10 = 2 := e10.trans (by decide)
  refine va_sld hx hb hX hbl hbA hS (vp_in_nI (n := 2) (by decide) (by decide)) dL_law_1925 ?_
  refine lv_topi (fun x11 e11 => ?_)
  obtain rfl : x11 = xs 2 := e11
  refine mc_i (wr := [(oo, .inl (coo, 1, .inr (.inl u5)))]) (va_runV (As := [.int (xs 1), .int (xs 2)]) (rest := []) ⟨hx, hb, hml, hown, hts⟩ (c_mrule l hst D mo th m1 m2 m3 m4 m5 l1 l2 l3 l4 (xs 1) (xs 2) H.size) (cwV 2 hts (gi_c mw_886 rfl (gi_c mw_887 rfl (gi_c mw_888 rfl (gi_c mw_481 rfl (goodIn_sub il_c_mrule (List.all_eq_true.mpr gw_c_mrule)))))) rfl rfl rfl (by decide +kernel) ⟨Nat.le_of_ble_eq_true rfl, Nat.le_of_ble_eq_true rfl⟩) (pr_V (As := [.int (xs 1), .int (xs 2)]) (b := mo) (C := RX9) hP hD hK hS hA hE [0, 1] [] rfl rfl rfl 0 16 rfl rfl rfl) rfl rfl hl.1 rfl (lv_room (Nat.le_of_ble_eq_true rfl)) dL_law_1926 ⟨Nat.le_of_ble_eq_true rfl, Nat.le_of_ble_eq_true rfl⟩) hP hD hK hS hA [0, 1] [2] rfl rfl (by decide) (by decide) (fun r14 u12 H locs w13 hP hD hK hS => ?_)
  have hP : va_P D vwCl [(oo, .inl (coo, 1, .inr (.inl u5))), (mo, .inr (16, [.int (u12.2.2 0), .int (u12.2.2 1), .int u12.1, .ref (u12.2.1 0), .ref (u12.2.1 1), .ref (u12.2.1 2), .ref (u12.2.1 3), .ref (u12.2.1 4), .ref (u12.2.1 5), .ref (u12.2.1 6), .ref (u12.2.1 7), .int (u12.2.2 2), .ref (u12.2.1 8)]))] H := hP
  have hD : va_D (lw_A s) [(oo, .inl (coo, 1, .inr (.inl u5))), (mo, .inr (16, [.int (u12.2.2 0), .int (u12.2.2 1), .int u12.1, .ref (u12.2.1 0), .ref (u12.2.1 1), .ref (u12.2.1 2), .ref (u12.2.1 3), .ref (u12.2.1 4), .ref (u12.2.1 5), .ref (u12.2.1 6), .ref (u12.2.1 7), .int (u12.2.2 2), .ref (u12.2.1 8)]))] := hD
  have hK : va_K D vwCl [(coo, .long)] s := hK
  refine lv_istore (lv' := [(7, .int r14), (6, .int r7), (5, .int 0), (4, .ref od), (3, .ref oo), (2, .ref mo), (1, .ref x), (0, .ref b)]) hx hb dL_law_1929 hl (by decide) rfl (fun ls hl => ?_)
  refine lv_aload_n hx hb dL_law_1931 rfl (lv_at hl 5 rfl) ?_
  refine mc_i (wr := [(oo, .inl (coo, 1, .inr (.inl u5)))]) (va_runV (As := []) (rest := []) ⟨hx, hb, hml, hown, hts⟩ (c_thrown l hst D mo (u12.2.2 0) (u12.2.2 1) u12.1 (u12.2.1 0) (u12.2.1 1) (u12.2.1 2) (u12.2.1 3) (u12.2.1 4) (u12.2.1 5) (u12.2.1 6) (u12.2.1 7) (u12.2.2 2) (u12.2.1 8) H.size) (cwV 0 hts (gi_c mw_770 rfl (gi_c mw_771 rfl (gi_c mw_772 rfl (gi_c mw_481 rfl (goodIn_sub il_c_thrown (List.all_eq_true.mpr gw_c_thrown)))))) rfl rfl rfl (by decide +kernel) ⟨Nat.le_of_ble_eq_true rfl, Nat.le_of_ble_eq_true rfl⟩) (pr_V (As := []) (b := mo) (C := RX9) hP hD hK hS hA hE [1] [] rfl rfl rfl 1 16 rfl rfl rfl) rfl rfl hl.1 rfl (lv_room (Nat.le_of_ble_eq_true rfl)) dL_law_1932 ⟨Nat.le_of_ble_eq_true rfl, Nat.le_of_ble_eq_true rfl⟩) hP hD hK hS hA [1] [0] rfl rfl (by decide) (by decide) (fun r16 _ H locs w15 hP hD hK hS => ?_)
  have hP : va_P D vwCl [(oo, .inl (coo, 1, .inr (.inl u5))), (mo, .inr (16, [.int (u12.2.2 0), .int (u12.2.2 1), .int u12.1, .ref (u12.2.1 0), .ref (u12.2.1 1), .ref (u12.2.1 2), .ref (u12.2.1 3), .ref (u12.2.1 4), .ref (u12.2.1 5), .ref (u12.2.1 6), .ref (u12.2.1 7), .int (u12.2.2 2), .ref (u12.2.1 8)]))] H := hP
  have hD : va_D (lw_A s) [(oo, .inl (coo, 1, .inr (.inl u5))), (mo, .inr (16, [.int (u12.2.2 0), .int (u12.2.2 1), .int u12.1, .ref (u12.2.1 0), .ref (u12.2.1 1), .ref (u12.2.1 2), .ref (u12.2.1 3), .ref (u12.2.1 4), .ref (u12.2.1 5), .ref (u12.2.1 6), .ref (u12.2.1 7), .int (u12.2.2 2), .ref (u12.2.1 8)]))] := hD
  have hK : va_K D vwCl [(coo, .long)] s := hK
  obtain rfl : r16 = u12.1 := w15
  refine lv_iload hx hb dL_law_1935 (lv_at hl 1 rfl) ?_
  refine lv_icmp_eq (tgt := 1942) hx hb dL_law_1937 (by decide) (fun h17 => ?_) (fun h17 => absurd (by exact (w13).trans w6.1.symm) h17)
  refine lv_iload hx hb dL_law_1942 (lv_at hl 1 rfl) ?_
  refine lv_if_ne (tgt := 1959) hx hb dL_law_1944 (by decide) (fun h18 => ?_) (fun h18 => absurd h18 (by exact fun q9 => absurd (show (1 : Int32) = 0 from w6.1.symm.trans q9) (by decide)))
  refine lv_goto (tgt := 3320) hx hb dL_law_1959 (by decide) ?_
  refine W.widen (k := 600006) (n := 7302040) (Nat.le_of_ble_eq_true rfl) (Nat.le_of_ble_eq_true rfl) ?_
  exact hend _ _ _ (lv_sub hl [2, 7] rfl) hS
