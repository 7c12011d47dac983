/-! the law, cases -/
set_option maxHeartbeats 4000000 in
set_option maxRecDepth 100000 in
/-- case 24: state -/
theorem lc_24 (l : Launch) (hst : l.stackTraces = false) (D : va_G) {p : Program} {e : Env} {s : State} {m : MethodId} {below : List Frame} {meth : Method} {c : Code} {b : Nat} {xs : Nat → Int32} {Q : State → Prop} (hx : p.tables.exec = Jvm.exec) (hb : c.code = code) (hml : c.maxLocals = 9) (hown : s.vm.findClass RL = some m.cls) (hts : ∀ w ∈ lw_tbl, w.before #[Value.ref b] s = true) (hX : va_X b 5 xs s s.heap) (hbl : b < s.heap.size) (hE : ex_E D (lw_A s) s s.heap) (hend : lw_End p l e s m below meth c b Q) (x : Nat) (g : Nat) (ca : Nat) (co : Nat) (ra : Nat) (rl : Nat) (tr : Nat) (f9 : Nat) (f10 : Nat) (f11 : Nat) (f12 : Nat) (f13 : Nat) (oo : Nat) (coo : ClassId) (f0 : Nat → Int64) (mo : Nat) (th : Int32) (m1 : Nat) (m2 : Nat) (m3 : Nat) (m4 : Nat) (m5 : Nat) (l1 : Nat) (l2 : Nat) (l3 : Nat) (l4 : Nat) (od : Nat)  {H : Heap} {locs : List Loc} {ls : Array Slot} (hl : lv_has ls 9 [(5, .int 0), (4, .ref od), (3, .ref oo), (2, .ref mo), (1, .ref x), (0, .ref b)]) (hP : va_P D vwCl [(x, .inr (13, [.ref g, .ref ca, .int 0, .ref co, .int 0, .ref ra, .int 0, .ref rl, .ref tr, .ref f9, .ref f10, .ref f11, .ref f12, .ref f13])), (oo, .inl (coo, 1, .inr (.inl f0))), (mo, .inr (16, [.int 5, .int 5, .int th, .ref m1, .ref m2, .ref m3, .ref m4, .ref m5, .ref l1, .ref l2, .ref l3, .int (-1), .ref l4])), (l3, .inr (5, [.int 1, .ref (D.1 1000), .int 0]))] H) (hD : va_D (lw_A s) [(x, .inr (13, [.ref g, .ref ca, .int 0, .ref co, .int 0, .ref ra, .int 0, .ref rl, .ref tr, .ref f9, .ref f10, .ref f11, .ref f12, .ref f13])), (oo, .inl (coo, 1, .inr (.inl f0))), (mo, .inr (16, [.int 5, .int 5, .int th, .ref m1, .ref m2, .ref m3, .ref m4, .ref m5, .ref l1, .ref l2, .ref l3, .int (-1), .ref l4])), (l3, .inr (5, [.int 1, .ref (D.1 1000), .int 0]))]) (hK : va_K D vwCl [(coo, .long)] s) (hS : va_S (lw_A s) s.heap H locs) : W p l e room_1 s m #[Value.ref b] below meth c H locs 167 55824 Q (F0 m 1962 ls []) := by
  have hA : ∀ q : Nat, s.heap.size ≤ q → lw_A s q := fun _ h => h
  have hbA : ¬ lw_A s b := Nat.not_le.mpr hbl
  refine lv_aload_n hx hb dL_law_1962 rfl (lv_at hl 4 rfl) ?_
  refine lv_aload_n hx hb dL_law_1963 rfl (lv_at hl 5 rfl) ?_
  refine lv_iload hx hb dL_law_1964 (lv_at hl 0 rfl) ?_
  refine lv_iconst (v := 1) hx hb dL_law_1966 (by decide) ?_
  refine lv_iadd hx hb dL_law_1967 ?_
  refine lv_topi (fun x1 e1 => ?_)
  obtain rfl : x1 = 1 := e1.trans (by decide)
  refine va_sld hx hb hX hbl hbA hS (vp_in_nI (n := 1) (by decide) (by decide)) dL_law_1968 ?_
  refine lv_topi (fun x2 e2 => ?_)
  obtain rfl : x2 = xs 1 := e2
  refine lv_aload_n hx hb dL_law_1969 rfl (lv_at hl 2 rfl) ?_
  refine mc_i (wr := [(mo, .inr (16, [.int 5, .int 5, .int th, .ref m1, .ref m2, .ref m3, .ref m4, .ref m5, .ref l1, .ref l2, .ref l3, .int (-1), .ref l4])), (l3, .inr (5, [.int 1, .ref (D.1 1000), .int 0]))]) (vx_runSW (As := [.ref x, .int (xs 1), .ref oo]) (rest := []) ⟨hx, hb, hml, hown, hts⟩ (c_Lstate l hst D x g ca co ra rl tr f9 f10 f11 f12 f13 (xs 1) oo coo f0 H.size) (vx_cwSW 3 hts (gi_c mw_889 rfl (gi_c mw_890 rfl (gi_c mw_766 rfl (goodIn_sub il_c_Lstate (List.all_eq_true.mpr gw_c_Lstate))))) rfl rfl rfl (by decide +kernel) ⟨Nat.le_of_ble_eq_true rfl, Nat.le_of_ble_eq_true rfl⟩) (pr_S (As := [.ref x, .int (xs 1), .ref oo]) hP hD hK hS hA hE [0, 1] [0] rfl rfl rfl) rfl rfl hl.1 rfl (lv_room (Nat.le_of_ble_eq_true rfl)) dL_law_1970 ⟨Nat.le_of_ble_eq_true rfl, Nat.le_of_ble_eq_true rfl⟩) hP hD hK hS hA [0, 1] [2, 3] rfl rfl (by decide) (by decide) (fun r5 u3 H locs w4 hP hD hK hS => ?_)
  have hP : va_P D vwCl [(mo, .inr (16, [.int 5, .int 5, .int th, .ref m1, .ref m2, .ref m3, .ref m4, .ref m5, .ref l1, .ref l2, .ref l3, .int (-1), .ref l4])), (l3, .inr (5, [.int 1, .ref (D.1 1000), .int 0])), (oo, .inl (coo, 1, .inr (.inl u3)))] H := hP
  have hD : va_D (lw_A s) [(mo, .inr (16, [.int 5, .int 5, .int th, .ref m1, .ref m2, .ref m3, .ref m4, .ref m5, .ref l1, .ref l2, .ref l3, .int (-1), .ref l4])), (l3, .inr (5, [.int 1, .ref (D.1 1000), .int 0])), (oo, .inl (coo, 1, .inr (.inl u3)))] := hD
  have hK : va_K D vwCl [(coo, .long)] s := hK
  refine lv_istore (lv' := [(6, .int r5), (5, .int 0), (4, .ref od), (3, .ref oo), (2, .ref mo), (1, .ref x), (0, .ref b)]) hx hb dL_law_1973 hl (by decide) rfl (fun ls hl => ?_)
  refine lv_aload_n hx hb dL_law_1975 rfl (lv_at hl 4 rfl) ?_
  refine lv_aload_n hx hb dL_law_1976 rfl (lv_at hl 6 rfl) ?_
  refine lv_iload hx hb dL_law_1977 (lv_at hl 1 rfl) ?_
  refine lv_iconst (v := 1) hx hb dL_law_1979 (by decide) ?_
  refine lv_iadd hx hb dL_law_1980 ?_
  refine lv_topi (fun x6 e6 => ?_)
  obtain rfl : x6 = 1 := e6.trans (by decide)
  refine va_sld hx hb hX hbl hbA hS (vp_in_nI (n := 1) (by decide) (by decide)) dL_law_1981 ?_
  refine lv_topi (fun x7 e7 => ?_)
  obtain rfl : x7 = xs 1 := e7
  refine mc_i (wr := [(oo, .inl (coo, 1, .inr (.inl u3)))]) (va_runV (As := [.int (xs 1)]) (rest := []) ⟨hx, hb, hml, hown, hts⟩ (c_mstate l hst D mo th m1 m2 m3 m4 m5 l1 l2 l3 l4 (xs 1) H.size) (cwV 1 hts (gi_c mw_891 rfl (gi_c mw_892 rfl (gi_c mw_893 rfl (gi_c mw_481 rfl (goodIn_sub il_c_mstate (List.all_eq_true.mpr gw_c_mstate)))))) rfl rfl rfl (by decide +kernel) ⟨Nat.le_of_ble_eq_true rfl, Nat.le_of_ble_eq_true rfl⟩) (pr_V (As := [.int (xs 1)]) (b := mo) (C := RX9) hP hD hK hS hA hE [0, 1] [] rfl rfl rfl 0 16 rfl rfl rfl) rfl rfl hl.1 rfl (lv_room (Nat.le_of_ble_eq_true rfl)) dL_law_1982 ⟨Nat.le_of_ble_eq_true rfl, Nat.le_of_ble_eq_true rfl⟩) hP hD hK hS hA [0, 1] [2] rfl rfl (by decide) (by decide) (fun r10 u8 H locs w9 hP hD hK hS => ?_)
  have hP : va_P D vwCl [(oo, .inl (coo, 1, .inr (.inl u3))), (mo, .inr (16, [.int (u8.2.2 0), .int (u8.2.2 1), .int u8.1, .ref (u8.2.1 0), .ref (u8.2.1 1), .ref (u8.2.1 2), .ref (u8.2.1 3), .ref (u8.2.1 4), .ref (u8.2.1 5), .ref (u8.2.1 6), .ref (u8.2.1 7), .int (u8.2.2 2), .ref (u8.2.1 8)]))] H := hP
  have hD : va_D (lw_A s) [(oo, .inl (coo, 1, .inr (.inl u3))), (mo, .inr (16, [.int (u8.2.2 0), .int (u8.2.2 1), .int u8.1, .ref (u8.2.1 0), .ref (u8.2.1 1), .ref (u8.2.1 2), .ref (u8.2.1 3), .ref (u8.2.1 4), .ref (u8.2.1 5), .ref (u8.2.1 6), .ref (u8.2.1 7), .int (u8.2.2 2), .ref (u8.2.1 8)]))] := hD
  have hK : va_K D vwCl [(coo, .long)] s := hK
  refine lv_istore (lv' := [(7, .int r10), (6, .int r5), (5, .int 0), (4, .ref od), (3, .ref oo), (2, .ref mo), (1, .ref x), (0, .ref b)]) hx hb dL_law_1985 hl (by decide) rfl (fun ls hl => ?_)
  refine lv_aload_n hx hb dL_law_1987 rfl (lv_at hl 5 rfl) ?_
  refine mc_i (wr := [(oo, .inl (coo, 1, .inr (.inl u3)))]) (va_runV (As := []) (rest := []) ⟨hx, hb, hml, hown, hts⟩ (c_thrown l hst D mo (u8.2.2 0) (u8.2.2 1) u8.1 (u8.2.1 0) (u8.2.1 1) (u8.2.1 2) (u8.2.1 3) (u8.2.1 4) (u8.2.1 5) (u8.2.1 6) (u8.2.1 7) (u8.2.2 2) (u8.2.1 8) H.size) (cwV 0 hts (gi_c mw_770 rfl (gi_c mw_771 rfl (gi_c mw_772 rfl (gi_c mw_481 rfl (goodIn_sub il_c_thrown (List.all_eq_true.mpr gw_c_thrown)))))) rfl rfl rfl (by decide +kernel) ⟨Nat.le_of_ble_eq_true rfl, Nat.le_of_ble_eq_true rfl⟩) (pr_V (As := []) (b := mo) (C := RX9) hP hD hK hS hA hE [1] [] rfl rfl rfl 1 16 rfl rfl rfl) rfl rfl hl.1 rfl (lv_room (Nat.le_of_ble_eq_true rfl)) dL_law_1988 ⟨Nat.le_of_ble_eq_true rfl, Nat.le_of_ble_eq_true rfl⟩) hP hD hK hS hA [1] [0] rfl rfl (by decide) (by decide) (fun r12 _ H locs w11 hP hD hK hS => ?_)
  have hP : va_P D vwCl [(oo, .inl (coo, 1, .inr (.inl u3))), (mo, .inr (16, [.int (u8.2.2 0), .int (u8.2.2 1), .int u8.1, .ref (u8.2.1 0), .ref (u8.2.1 1), .ref (u8.2.1 2), .ref (u8.2.1 3), .ref (u8.2.1 4), .ref (u8.2.1 5), .ref (u8.2.1 6), .ref (u8.2.1 7), .int (u8.2.2 2), .ref (u8.2.1 8)]))] H := hP
  have hD : va_D (lw_A s) [(oo, .inl (coo, 1, .inr (.inl u3))), (mo, .inr (16, [.int (u8.2.2 0), .int (u8.2.2 1), .int u8.1, .ref (u8.2.1 0), .ref (u8.2.1 1), .ref (u8.2.1 2), .ref (u8.2.1 3), .ref (u8.2.1 4), .ref (u8.2.1 5), .ref (u8.2.1 6), .ref (u8.2.1 7), .int (u8.2.2 2), .ref (u8.2.1 8)]))] := hD
  have hK : va_K D vwCl [(coo, .long)] s := hK
  obtain rfl : r12 = u8.1 := w11
  refine lv_iload hx hb dL_law_1991 (lv_at hl 1 rfl) ?_
  refine lv_icmp_eq (tgt := 1998) hx hb dL_law_1993 (by decide) (fun h13 => ?_) (fun h13 => absurd (by exact (w9).trans w4.1.symm) h13)
  refine lv_iload hx hb dL_law_1998 (lv_at hl 1 rfl) ?_
  refine lv_if_ne (tgt := 2015) hx hb dL_law_2000 (by decide) (fun h14 => ?_) (fun h14 => absurd h14 (by exact fun q9 => absurd (show (1 : Int32) = 0 from w4.1.symm.trans q9) (by decide)))
  refine lv_goto (tgt := 3320) hx hb dL_law_2015 (by decide) ?_
  refine W.widen (k := 600006) (n := 7302040) (Nat.le_of_ble_eq_true rfl) (Nat.le_of_ble_eq_true rfl) ?_
  exact hend _ _ _ (lv_sub hl [2, 7] rfl) hS

set_option maxHeartbeats 4000000 in
set_option maxRecDepth 100000 in
/-- case 25: time -/
theorem lc_25 (l : Launch) (hst : l.stackTraces = false) (D : va_G) {p : Program} {e : Env} {s : State} {m : MethodId} {below : List Frame} {meth : Method} {c : Code} {b : Nat} {xs : Nat → Int32} {Q : State → Prop} (hx : p.tables.exec = Jvm.exec) (hb : c.code = code) (hml : c.maxLocals = 9) (hown : s.vm.findClass RL = some m.cls) (hts : ∀ w ∈ lw_tbl, w.before #[Value.ref b] s = true) (hX : va_X b 5 xs s s.heap) (hbl : b < s.heap.size) (hE : ex_E D (lw_A s) s s.heap) (hend : lw_End p l e s m below meth c b Q) (x : Nat) (g : Nat) (ca : Nat) (co : Nat) (ra : Nat) (rl : Nat) (tr : Nat) (f9 : Nat) (f10 : Nat) (f11 : Nat) (f12 : Nat) (f13 : Nat) (oo : Nat) (coo : ClassId) (f0 : Nat → Int64) (mo : Nat) (th : Int32) (m1 : Nat) (m2 : Nat) (m3 : Nat) (m4 : Nat) (m5 : Nat) (l1 : Nat) (l2 : Nat) (l3 : Nat) (l4 : Nat) (od : Nat)  {H : Heap} {locs : List Loc} {ls : Array Slot} (hl : lv_has ls 9 [(5, .int 0), (4, .ref od), (3, .ref oo), (2, .ref mo), (1, .ref x), (0, .ref b)]) (hP : va_P D vwCl [(x, .inr (13, [.ref g, .ref ca, .int 0, .ref co, .int 0, .ref ra, .int 0, .ref rl, .ref tr, .ref f9, .ref f10, .ref f11, .ref f12, .ref f13])), (oo, .inl (coo, 1, .inr (.inl f0))), (mo, .inr (16, [.int 5, .int 5, .int th, .ref m1, .ref m2, .ref m3, .ref m4, .ref m5, .ref l1, .ref l2, .ref l3, .int (-1), .ref l4])), (l3, .inr (5, [.int 1, .ref (D.1 1000), .int 0]))] H) (hD : va_D (lw_A s) [(x, .inr (13, [.ref g, .ref ca, .int 0, .ref co, .int 0, .ref ra, .int 0, .ref rl, .ref tr, .ref f9, .ref f10, .ref f11, .ref f12, .ref f13])), (oo, .inl (coo, 1, .inr (.inl f0))), (mo, .inr (16, [.int 5, .int 5, .int th, .ref m1, .ref m2, .ref m3, .ref m4, .ref m5, .ref l1, .ref l2, .ref l3, .int (-1), .ref l4])), (l3, .inr (5, [.int 1, .ref (D.1 1000), .int 0]))]) (hK : va_K D vwCl [(coo, .long)] s) (hS : va_S (lw_A s) s.heap H locs) : W p l e room_1 s m #[Value.ref b] below meth c H locs 167 55824 Q (F0 m 2018 ls []) := by
  have hA : ∀ q : Nat, s.heap.size ≤ q → lw_A s q := fun _ h => h
  have hbA : ¬ lw_A s b := Nat.not_le.mpr hbl
  refine lv_aload_n hx hb dL_law_2018 rfl (lv_at hl 4 rfl) ?_
  refine lv_aload_n hx hb dL_law_2019 rfl (lv_at hl 5 rfl) ?_
  refine lv_iload hx hb dL_law_2020 (lv_at hl 0 rfl) ?_
  refine lv_iconst (v := 1) hx hb dL_law_2022 (by decide) ?_
  refine lv_iadd hx hb dL_law_2023 ?_
  refine lv_topi (fun x1 e1 => ?_)
  obtain rfl : x1 = 1 := e1.trans (by decide)
  refine va_sld hx hb hX hbl hbA hS (vp_in_nI (n := 1) (by decide) (by decide)) dL_law_2024 ?_
  refine lv_topi (fun x2 e2 => ?_)
  obtain rfl : x2 = xs 1 := e2
  refine lv_aload_n hx hb dL_law_2025 rfl (lv_at hl 2 rfl) ?_
  refine mc_i (wr := [(mo, .inr (16, [.int 5, .int 5, .int th, .ref m1, .ref m2, .ref m3, .ref m4, .ref m5, .ref l1, .ref l2, .ref l3, .int (-1), .ref l4])), (l3, .inr (5, [.int 1, .ref (D.1 1000), .int 0]))]) (vx_runSW (As := [.ref x, .int (xs 1), .ref oo]) (rest := []) ⟨hx, hb, hml, hown, hts⟩ (c_Ltime l hst D x g ca co ra rl tr f9 f10 f11 f12 f13 (xs 1) oo coo f0 H.size) (vx_cwSW 3 hts (gi_c mw_894 rfl (gi_c mw_895 rfl (gi_c mw_766 rfl (goodIn_sub il_c_Ltime (List.all_eq_true.mpr gw_c_Ltime))))) rfl rfl rfl (by decide +kernel) ⟨Nat.le_of_ble_eq_true rfl, Nat.le_of_ble_eq_true rfl⟩) (pr_S (As := [.ref x, .int (xs 1), .ref oo]) hP hD hK hS hA hE [0, 1] [0] rfl rfl rfl) rfl rfl hl.1 rfl (lv_room (Nat.le_of_ble_eq_true rfl)) dL_law_2026 ⟨Nat.le_of_ble_eq_true rfl, Nat.le_of_ble_eq_true rfl⟩) hP hD hK hS hA [0, 1] [2, 3] rfl rfl (by decide) (by decide) (fun r5 u3 H locs w4 hP hD hK hS => ?_)
  have hP : va_P D vwCl [(mo, .inr (16, [.int 5, .int 5, .int th, .ref m1, .ref m2, .ref m3, .ref m4, .ref m5, .ref l1, .ref l2, .ref l3, .int (-1), .ref l4])), (l3, .inr (5, [.int 1, .ref (D.1 1000), .int 0])), (oo, .inl (coo, 1, .inr (.inl u3)))] H := hP
  have hD : va_D (lw_A s) [(mo, .inr (16, [.int 5, .int 5, .int th, .ref m1, .ref m2, .ref m3, .ref m4, .ref m5, .ref l1, .ref l2, .ref l3, .int (-1), .ref l4])), (l3, .inr (5, [.int 1, .ref (D.1 1000), .int 0])), (oo, .inl (coo, 1, .inr (.inl u3)))] := hD
  have hK : va_K D vwCl [(coo, .long)] s := hK
  refine lv_istore (lv' := [(6, .int r5), (5, .int 0), (4, .ref od), (3, .ref oo), (2, .ref mo), (1, .ref x), (0, .ref b)]) hx hb dL_law_2029 hl (by decide) rfl (fun ls hl => ?_)
  refine lv_aload_n hx hb dL_law_2031 rfl (lv_at hl 4 rfl) ?_
  refine lv_aload_n hx hb dL_law_2032 rfl (lv_at hl 6 rfl) ?_
  refine lv_iload hx hb dL_law_2033 (lv_at hl 1 rfl) ?_
  refine lv_iconst (v := 1) hx hb dL_law_2035 (by decide) ?_
  refine lv_iadd hx hb dL_law_2036 ?_
  refine lv_topi (fun x6 e6 => ?_)
  obtain rfl : x6 = 1 := e6.trans (by decide)
  refine va_sld hx hb hX hbl hbA hS (vp_in_nI (n := 1) (by decide) (by decide)) dL_law_2037 ?_
  refine lv_topi (fun x7 e7 => ?_)
  obtain rfl : x7 = xs 1 := e7
  refine mc_i (wr := [(oo, .inl (coo, 1, .inr (.inl u3)))]) (va_runV (As := [.int (xs 1)]) (rest := []) ⟨hx, hb, hml, hown, hts⟩ (c_mtime l hst D mo th m1 m2 m3 m4 m5 l1 l2 l3 l4 (xs 1) H.size) (cwV 1 hts (gi_c mw_896 rfl (gi_c mw_897 rfl (gi_c mw_898 rfl (gi_c mw_481 rfl (goodIn_sub il_c_mtime (List.all_eq_true.mpr gw_c_mtime)))))) rfl rfl rfl (by decide +kernel) ⟨Nat.le_of_ble_eq_true rfl, Nat.le_of_ble_eq_true rfl⟩) (pr_V (As := [.int (xs 1)]) (b := mo) (C := RX9) hP hD hK hS hA hE [0, 1] [] rfl rfl rfl 0 16 rfl rfl rfl) rfl rfl hl.1 rfl (lv_room (Nat.le_of_ble_eq_true rfl)) dL_law_2038 ⟨Nat.le_of_ble_eq_true rfl, Nat.le_of_ble_eq_true rfl⟩) hP hD hK hS hA [0, 1] [2] rfl rfl (by decide) (by decide) (fun r10 u8 H locs w9 hP hD hK hS => ?_)
  have hP : va_P D vwCl [(oo, .inl (coo, 1, .inr (.inl u3))), (mo, .inr (16, [.int (u8.2.2 0), .int (u8.2.2 1), .int u8.1, .ref (u8.2.1 0), .ref (u8.2.1 1), .ref (u8.2.1 2), .ref (u8.2.1 3), .ref (u8.2.1 4), .ref (u8.2.1 5), .ref (u8.2.1 6), .ref (u8.2.1 7), .int (u8.2.2 2), .ref (u8.2.1 8)]))] H := hP
  have hD : va_D (lw_A s) [(oo, .inl (coo, 1, .inr (.inl u3))), (mo, .inr (16, [.int (u8.2.2 0), .int (u8.2.2 1), .int u8.1, .ref (u8.2.1 0), .ref (u8.2.1 1), .ref (u8.2.1 2), .ref (u8.2.1 3), .ref (u8.2.1 4), .ref (u8.2.1 5), .ref (u8.2.1 6), .ref (u8.2.1 7), .int (u8.2.2 2), .ref (u8.2.1 8)]))] := hD
  have hK : va_K D vwCl [(coo, .long)] s := hK
  refine lv_istore (lv' := [(7, .int r10), (6, .int r5), (5, .int 0), (4, .ref od), (3, .ref oo), (2, .ref mo), (1, .ref x), (0, .ref b)]) hx hb dL_law_2041 hl (by decide) rfl (fun ls hl => ?_)
  refine lv_aload_n hx hb dL_law_2043 rfl (lv_at hl 5 rfl) ?_
  refine mc_i (wr := [(oo, .inl (coo, 1, .inr (.inl u3)))]) (va_runV (As := []) (rest := []) ⟨hx, hb, hml, hown, hts⟩ (c_thrown l hst D mo (u8.2.2 0) (u8.2.2 1) u8.1 (u8.2.1 0) (u8.2.1 1) (u8.2.1 2) (u8.2.1 3) (u8.2.1 4) (u8.2.1 5) (u8.2.1 6) (u8.2.1 7) (u8.2.2 2) (u8.2.1 8) H.size) (cwV 0 hts (gi_c mw_770 rfl (gi_c mw_771 rfl (gi_c mw_772 rfl (gi_c mw_481 rfl (goodIn_sub il_c_thrown (List.all_eq_true.mpr gw_c_thrown)))))) rfl rfl rfl (by decide +kernel) ⟨Nat.le_of_ble_eq_true rfl, Nat.le_of_ble_eq_true rfl⟩) (pr_V (As := []) (b := mo) (C := RX9) hP hD hK hS hA hE [1] [] rfl rfl rfl 1 16 rfl rfl rfl) rfl rfl hl.1 rfl (lv_room (Nat.le_of_ble_eq_true rfl)) dL_law_2044 ⟨Nat.le_of_ble_eq_true rfl, Nat.le_of_ble_eq_true rfl⟩) hP hD hK hS hA [1] [0] rfl rfl (by decide) (by decide) (fun r12 _ H locs w11 hP hD hK hS => ?_)
  have hP : va_P D vwCl [(oo, .inl (coo, 1, .inr (.inl u3))), (mo, .inr (16, [.int (u8.2.2 0), .int (u8.2.2 1), .int u8.1, .ref (u8.2.1 0), .ref (u8.2.1 1), .ref (u8.2.1 2), .ref (u8.2.1 3), .ref (u8.2.1 4), .ref (u8.2.1 5), .ref (u8.2.1 6), .ref (u8.2.1 7), .int (u8.2.2 2), .ref (u8.2.1 8)]))] H := hP
  have hD : va_D (lw_A s) [(oo, .inl (coo, 1, .inr (.inl u3))), (mo, .inr (16, [.int (u8.2.2 0), .int (u8.2.2 1), .int u8.1, .ref (u8.2.1 0), .ref (u8.2.1 1), .ref (u8.2.1 2), .ref (u8.2.1 3), .ref (u8.2.1 4), .ref (u8.2.1 5), .ref (u8.2.1 6), .ref (u8.2.1 7), .int (u8.2.2 2), .ref (u8.2.1 8)]))] := hD
  have hK : va_K D vwCl [(coo, .long)] s := hK
  obtain rfl : r12 = u8.1 := w11
  refine lv_iload hx hb dL_law_2047 (lv_at hl 1 rfl) ?_
  refine lv_icmp_eq (tgt := 2054) hx hb dL_law_2049 (by decide) (fun h13 => ?_) (fun h13 => absurd (by exact (w9).trans w4.1.symm) h13)
  refine lv_iload hx hb dL_law_2054 (lv_at hl 1 rfl) ?_
  refine lv_if_ne (tgt := 2071) hx hb dL_law_2056 (by decide) (fun h14 => ?_) (fun h14 => absurd h14 (by exact fun q9 => absurd (show (1 : Int32) = 0 from w4.1.symm.trans q9) (by decide)))
  refine lv_goto (tgt := 3320) hx hb dL_law_2071 (by decide) ?_
  refine W.widen (k := 600006) (n := 7302040) (Nat.le_of_ble_eq_true rfl) (Nat.le_of_ble_eq_true rfl) ?_
  exact hend _ _ _ (lv_sub hl [2, 7] rfl) hS

set_option maxHeartbeats 4000000 in
set_option maxRecDepth 100000 in
/-- case 26: split -/
theorem lc_26 (l : Launch) (hst : l.stackTraces = false) (D : va_G) {p : Program} {e : Env} {s : State} {m : MethodId} {below : List Frame} {meth : Method} {c : Code} {b : Nat} {xs : Nat → Int32} {Q : State → Prop} (hx : p.tables.exec = Jvm.exec) (hb : c.code = code) (hml : c.maxLocals = 9) (hown : s.vm.findClass RL = some m.cls) (hts : ∀ w ∈ lw_tbl, w.before #[Value.ref b] s = true) (hX : va_X b 5 xs s s.heap) (hbl : b < s.heap.size) (hE : ex_E D (lw_A s) s s.heap) (hend : lw_End p l e s m below meth c b Q) (x : Nat) (g : Nat) (ca : Nat) (co : Nat) (ra : Nat) (rl : Nat) (tr : Nat) (f9 : Nat) (f10 : Nat) (f11 : Nat) (f12 : Nat) (f13 : Nat) (oo : Nat) (coo : ClassId) (f0 : Nat → Int64) (mo : Nat) (th : Int32) (m1 : Nat) (m2 : Nat) (m3 : Nat) (m4 : Nat) (m5 : Nat) (l1 : Nat) (l2 : Nat) (l3 : Nat) (l4 : Nat) (od : Nat)  {H : Heap} {locs : List Loc} {ls : Array Slot} (hl : lv_has ls 9 [(5, .int 0), (4, .ref od), (3, .ref oo), (2, .ref mo), (1, .ref x), (0, .ref b)]) (hP : va_P D vwCl [(x, .inr (13, [.ref g, .ref ca, .int 0, .ref co, .int 0, .ref ra, .int 0, .ref rl, .ref tr, .ref f9, .ref f10, .ref f11, .ref f12, .ref f13])), (oo, .inl (coo, 1, .inr (.inl f0))), (mo, .inr (16, [.int 5, .int 5, .int th, .ref m1, .ref m2, .ref m3, .ref m4, .ref m5, .ref l1, .ref l2, .ref l3, .int (-1), .ref l4])), (l3, .inr (5, [.int 1, .ref (D.1 1000), .int 0]))] H) (hD : va_D (lw_A s) [(x, .inr (13, [.ref g, .ref ca, .int 0, .ref co, .int 0, .ref ra, .int 0, .ref rl, .ref tr, .ref f9, .ref f10, .ref f11, .ref f12, .ref f13])), (oo, .inl (coo, 1, .inr (.inl f0))), (mo, .inr (16, [.int 5, .int 5, .int th, .ref m1, .ref m2, .ref m3, .ref m4, .ref m5, .ref l1, .ref l2, .ref l3, .int (-1), .ref l4])), (l3, .inr (5, [.int 1, .ref (D.1 1000), .int 0]))]) (hK : va_K D vwCl [(coo, .long)] s) (hS : va_S (lw_A s) s.heap H locs) : W p l e room_1 s m #[Value.ref b] below meth c H locs 167 55824 Q (F0 m 2074 ls []) := by
  have hA : ∀ q : Nat, s.heap.size ≤ q → lw_A s q := fun _ h => h
  have hbA : ¬ lw_A s b := Nat.not_le.mpr hbl
  refine lv_aload_n hx hb dL_law_2074 rfl (lv_at hl 4 rfl) ?_
  refine lv_aload_n hx hb dL_law_2075 rfl (lv_at hl 5 rfl) ?_
  refine lv_iload hx hb dL_law_2076 (lv_at hl 0 rfl) ?_
  refine lv_iconst (v := 1) hx hb dL_law_2078 (by decide) ?_
  refine lv_iadd hx hb dL_law_2079 ?_
  refine lv_topi (fun x1 e1 => ?_)
  obtain rfl : x1 = 1 := e1.trans (by decide)
  refine va_sld hx hb hX hbl hbA hS (vp_in_nI (n := 1) (by decide) (by decide)) dL_law_2080 ?_
  refine lv_topi (fun x2 e2 => ?_)
  obtain rfl : x2 = xs 1 := e2
  refine lv_aload_n hx hb dL_law_2081 rfl (lv_at hl 5 rfl) ?_
  refine lv_iload hx hb dL_law_2082 (lv_at hl 0 rfl) ?_
  refine lv_iconst (v := 2) hx hb dL_law_2084 (by decide) ?_
  refine lv_iadd hx hb dL_law_2085 ?_
  refine lv_topi (fun x3 e3 => ?_)
  obtain rfl : x3 = 2 := e3.trans (by decide)
  refine va_sld hx hb hX hbl hbA hS (vp_in_nI (n := 2) (by decide) (by decide)) dL_law_2086 ?_
  refine lv_topi (fun x4 e4 => ?_)
  obtain rfl : x4 = xs 2 := e4
  refine lv_aload_n hx hb dL_law_2087 rfl (lv_at hl 2 rfl) ?_
  refine mc_i (wr := [(mo, .inr (16, [.int 5, .int 5, .int th, .ref m1, .ref m2, .ref m3, .ref m4, .ref m5, .ref l1, .ref l2, .ref l3, .int (-1), .ref l4])), (l3, .inr (5, [.int 1, .ref (D.1 1000), .int 0]))]) (vx_runSW (As := [.ref x, .int (xs 1), .int (xs 2), .ref oo]) (rest := []) ⟨hx, hb, hml, hown, hts⟩ (c_Lsplit l hst D x g ca co ra rl tr f9 f10 f11 f12 f13 (xs 1) (xs 2) oo coo f0 H.size) (vx_cwSW 4 hts (gi_c mw_899 rfl (gi_c mw_900 rfl (gi_c mw_766 rfl (goodIn_sub il_c_Lsplit (List.all_eq_true.mpr gw_c_Lsplit))))) rfl rfl rfl (by decide +kernel) ⟨Nat.le_of_ble_eq_true rfl, Nat.le_of_ble_eq_true rfl⟩) (pr_S (As := [.ref x, .int (xs 1), .int (xs 2), .ref oo]) hP hD hK hS hA hE [0, 1] [0] rfl rfl rfl) rfl rfl hl.1 rfl (lv_room (Nat.le_of_ble_eq_true rfl)) dL_law_2088 ⟨Nat.le_of_ble_eq_true rfl, Nat.le_of_ble_eq_true rfl⟩) hP hD hK hS hA [0, 1] [2, 3] rfl rfl (by decide) (by decide) (fun r7 u5 H locs w6 hP hD hK hS => ?_)
  have hP : va_P D vwCl [(mo, .inr (16, [.int 5, .int 5, .int th, .ref m1, .ref m2, .ref m3, .ref m4, .ref m5, .ref l1, .ref l2, .ref l3, .int (-1), .ref l4])), (l3, .inr (5, [.int 1, .ref (D.1 1000), .int 0])), (oo, .inl (coo, 1, .inr (.inl u5)))] H := hP
  have hD : va_D (lw_A s) [(mo, .inr (16, [.int 5, .int 5, .int th, .ref m1, .ref m2, .ref m3, .ref m4, .ref m5, .ref l1, .ref l2, .ref l3, .int (-1), .ref l4])), (l3, .inr (5, [.int 1, .ref (D.1 1000), .int 0])), (oo, .inl (coo, 1, .inr (.inl u5)))] := hD
  have hK : va_K D vwCl [(coo, .long)] s := hK
  refine lv_istore (lv' := [(6, .int r7), (5, .int 0), (4, .ref od), (3, .ref oo), (2, .ref mo), (1, .ref x), (0, .ref b)]) hx hb dL_law_2091 hl (by decide) rfl (fun ls hl => ?_)
  refine lv_aload_n hx hb dL_law_2093 rfl (lv_at hl 4 rfl) ?_
  refine lv_aload_n hx hb dL_law_2094 rfl (lv_at hl 6 rfl) ?_
  refine lv_iload hx hb dL_law_2095 (lv_at hl 1 rfl) ?_
  refine lv_iconst (v := 1) hx hb dL_law_2097 (by decide) ?_
  refine lv_iadd hx hb dL_law_2098 ?_
  refine lv_topi (fun x8 e8 => ?_)
  obtain rfl : x8 = 1 := e8.trans (by decide)
  refine va_sld hx hb hX hbl hbA hS (vp_in_nI (n := 1) (by decide) (by decide)) dL_law_2099 ?_
  refine lv_topi (fun x9 e9 => ?_)
  obtain rfl : x9 = xs 1 := e9
  refine lv_aload_n hx hb dL_law_2100 rfl (lv_at hl 6 rfl) ?_
  refine lv_iload hx hb dL_law_2101 (lv_at hl 1 rfl) ?_
  refine lv_iconst (v := 2) hx hb dL_law_2103 (by decide) ?_
  refine lv_iadd hx hb dL_law_2104 ?_
  refine lv_topi (fun x10 e10 => ?_)
  obtain rfl : x10 = 2 := e10.trans (by decide)
  refine va_sld hx hb hX hbl hbA hS (vp_in_nI (n := 2) (by decide) (by decide)) dL_law_2105 ?_
  refine lv_topi (fun x11 e11 => ?_)
  obtain rfl : x11 = xs 2 := e11
  refine mc_i (wr := [(oo, .inl (coo, 1, .inr (.inl u5)))]) (va_runV (As := [.int (xs 1), .int (xs 2)]) (rest := []) ⟨hx, hb, hml, hown, hts⟩ (c_msplit l hst D mo th m1 m2 m3 m4 m5 l1 l2 l3 l4 (xs 1) (xs 2) H.size) (cwV 2 hts (gi_c mw_901 rfl (gi_c mw_902 rfl (gi_c mw_903 rfl (gi_c mw_481 rfl (goodIn_sub il_c_msplit (List.all_eq_true.mpr gw_c_msplit)))))) rfl rfl rfl (by decide +kernel) ⟨Nat.le_of_ble_eq_true rfl, Nat.le_of_ble_eq_true rfl⟩) (pr_V (As := [.int (xs 1), .int (xs 2)]) (b := mo) (C := RX9) hP hD hK hS hA hE [0, 1] [] rfl rfl rfl 0 16 rfl rfl rfl) rfl rfl hl.1 rfl (lv_room (Nat.le_of_ble_eq_true rfl)) dL_law_2106 ⟨Nat.le_of_ble_eq_true rfl, Nat.le_of_ble_eq_true rfl⟩) hP hD hK hS hA [0, 1] [2] rfl rfl (by decide) (by decide) (fun r14 u12 H locs w13 hP hD hK hS => ?_)
  have hP : va_P D vwCl [(oo, .inl (coo, 1, .inr (.inl u5))), (mo, .inr (16, [.int (u12.2.2 0), .int (u12.2.2 1), .int u12.1, .ref (u12.2.1 0), .ref (u12.2.1 1), .ref (u12.2.1 2), .ref (u12.2.1 3), .ref (u12.2.1 4), .ref (u12.2.1 5), .ref (u12.2.1 6), .ref (u12.2.1 7), .int (u12.2.2 2), .ref (u12.2.1 8)]))] H := hP
  have hD : va_D (lw_A s) [(oo, .inl (coo, 1, .inr (.inl u5))), (mo, .inr (16, [.int (u12.2.2 0), .int (u12.2.2 1), .int u12.1, .ref (u12.2.1 0), .ref (u12.2.1 1), .ref (u12.2.1 2), .ref (u12.2.1 3), .ref (u12.2.1 4), .ref (u12.2.1 5), .ref (u12.2.1 6), .ref (u12.2.1 7), .int (u12.2.2 2), .ref (u12.2.1 8)]))] := hD
  have hK : va_K D vwCl [(coo, .long)] s := hK
  refine lv_istore (lv' := [(7, .int r14), (6, .int r7), (5, .int 0), (4, .ref od), (3, .ref oo), (2, .ref mo), (1, .ref x), (0, .ref b)]) hx hb dL_law_2109 hl (by decide) rfl (fun ls hl => ?_)
  refine lv_aload_n hx hb dL_law_2111 rfl (lv_at hl 5 rfl) ?_
  refine mc_i (wr := [(oo, .inl (coo, 1, .inr (.inl u5)))]) (va_runV (As := []) (rest := []) ⟨hx, hb, hml, hown, hts⟩ (c_thrown l hst D mo (u12.2.2 0) (u12.2.2 1) u12.1 (u12.2.1 0) (u12.2.1 1) (u12.2.1 2) (u12.2.1 3) (u12.2.1 4) (u12.2.1 5) (u12.2.1 6) (u12.2.1 7) (u12.2.2 2) (u12.2.1 8) H.size) (cwV 0 hts (gi_c mw_770 rfl (gi_c mw_771 rfl (gi_c mw_772 rfl (gi_c mw_481 rfl (goodIn_sub il_c_thrown (List.all_eq_true.mpr gw_c_thrown)))))) rfl rfl rfl (by decide +kernel) ⟨Nat.le_of_ble_eq_true rfl, Nat.le_of_ble_eq_true rfl⟩) (pr_V (As := []) (b := mo) (C := RX9) hP hD hK hS hA hE [1] [] rfl rfl rfl 1 16 rfl rfl rfl) rfl rfl hl.1 rfl (lv_room (Nat.le_of_ble_eq_true rfl)) dL_law_2112 ⟨Nat.le_of_ble_eq_true rfl, Nat.le_of_ble_eq_true rfl⟩) hP hD hK hS hA [1] [0] rfl rfl (by decide) (by decide) (fun r16 _ H locs w15 hP hD hK hS => ?_)
  have hP : va_P D vwCl [(oo, .inl (coo, 1, .inr (.inl u5))), (mo, .inr (16, [.int (u12.2.2 0), .int (u12.2.2 1), .int u12.1, .ref (u12.2.1 0), .ref (u12.2.1 1), .ref (u12.2.1 2), .ref (u12.2.1 3), .ref (u12.2.1 4), .ref (u12.2.1 5), .ref (u12.2.1 6), .ref (u12.2.1 7), .int (u12.2.2 2), .ref (u12.2.1 8)]))] H := hP
  have hD : va_D (lw_A s) [(oo, .inl (coo, 1, .inr (.inl u5))), (mo, .inr (16, [.int (u12.2.2 0), .int (u12.2.2 1), .int u12.1, .ref (u12.2.1 0), .ref (u12.2.1 1), .ref (u12.2.1 2), .ref (u12.2.1 3), .ref (u12.2.1 4), .ref (u12.2.1 5), .ref (u12.2.1 6), .ref (u12.2.1 7), .int (u12.2.2 2), .ref (u12.2.1 8)]))] := hD
  have hK : va_K D vwCl [(coo, .long)] s := hK
  obtain rfl : r16 = u12.1 := w15
  refine lv_iload hx hb dL_law_2115 (lv_at hl 1 rfl) ?_
  refine lv_icmp_eq (tgt := 2122) hx hb dL_law_2117 (by decide) (fun h17 => ?_) (fun h17 => absurd (by exact (w13).trans w6.1.symm) h17)
  refine lv_iload hx hb dL_law_2122 (lv_at hl 1 rfl) ?_
  refine lv_if_ne (tgt := 2139) hx hb dL_law_2124 (by decide) (fun h18 => ?_) (fun h18 => absurd h18 (by exact fun q9 => absurd (show (1 : Int32) = 0 from w6.1.symm.trans q9) (by decide)))
  refine lv_goto (tgt := 3320) hx hb dL_law_2139 (by decide) ?_
  refine W.widen (k := 600006) (n := 7302040) (Nat.le_of_ble_eq_true rfl) (Nat.le_of_ble_eq_true rfl) ?_
  exact hend _ _ _ (lv_sub hl [2, 7] rfl) hS

set_option maxHeartbeats 4000000 in
set_option maxRecDepth 100000 in
/-- case 27: place -/
theorem lc_27 (l : Launch) (hst : l.stackTraces = false) (D : va_G) {p : Program} {e : Env} {s : State} {m : MethodId} {below : List Frame} {meth : Method} {c : Code} {b : Nat} {xs : Nat → Int32} {Q : State → Prop} (hx : p.tables.exec = Jvm.exec) (hb : c.code = code) (hml : c.maxLocals = 9) (hown : s.vm.findClass RL = some m.cls) (hts : ∀ w ∈ lw_tbl, w.before #[Value.ref b] s = true) (hX : va_X b 5 xs s s.heap) (hbl : b < s.heap.size) (hE : ex_E D (lw_A s) s s.heap) (hend : lw_End p l e s m below meth c b Q) (x : Nat) (g : Nat) (ca : Nat) (co : Nat) (ra : Nat) (rl : Nat) (tr : Nat) (f9 : Nat) (f10 : Nat) (f11 : Nat) (f12 : Nat) (f13 : Nat) (oo : Nat) (coo : ClassId) (f0 : Nat → Int64) (mo : Nat) (th : Int32) (m1 : Nat) (m2 : Nat) (m3 : Nat) (m4 : Nat) (m5 : Nat) (l1 : Nat) (l2 : Nat) (l3 : Nat) (l4 : Nat) (od : Nat)  {H : Heap} {locs : List Loc} {ls : Array Slot} (hl : lv_has ls 9 [(5, .int 0), (4, .ref od), (3, .ref oo), (2, .ref mo), (1, .ref x), (0, .ref b)]) (hP : va_P D vwCl [(x, .inr (13, [.ref g, .ref ca, .int 0, .ref co, .int 0, .ref ra, .int 0, .ref rl, .ref tr, .ref f9, .ref f10, .ref f11, .ref f12, .ref f13])), (oo, .inl (coo, 1, .inr (.inl f0))), (mo, .inr (16, [.int 5, .int 5, .int th, .ref m1, .ref m2, .ref m3, .ref m4, .ref m5, .ref l1, .ref l2, .ref l3, .int (-1), .ref l4])), (l3, .inr (5, [.int 1, .ref (D.1 1000), .int 0]))] H) (hD : va_D (lw_A s) [(x, .inr (13, [.ref g, .ref ca, .int 0, .ref co, .int 0, .ref ra, .int 0, .ref rl, .ref tr, .ref f9, .ref f10, .ref f11, .ref f12, .ref f13])), (oo, .inl (coo, 1, .inr (.inl f0))), (mo, .inr (16, [.int 5, .int 5, .int th, .ref m1, .ref m2, .ref m3, .ref m4, .ref m5, .ref l1, .ref l2, .ref l3, .int (-1), .ref l4])), (l3, .inr (5, [.int 1, .ref (D.1 1000), .int 0]))]) (hK : va_K D vwCl [(coo, .long)] s) (hS : va_S (lw_A s) s.heap H locs) : W p l e room_1 s m #[Value.ref b] below meth c H locs 167 55824 Q (F0 m 2142 ls []) := by
  have hA : ∀ q : Nat, s.heap.size ≤ q → lw_A s q := fun _ h => h
  have hbA : ¬ lw_A s b := Nat.not_le.mpr hbl
  refine lv_aload_n hx hb dL_law_2142 rfl (lv_at hl 4 rfl) ?_
  refine lv_aload_n hx hb dL_law_2143 rfl (lv_at hl 5 rfl) ?_
  refine lv_iload hx hb dL_law_2144 (lv_at hl 0 rfl) ?_
  refine lv_iconst (v := 1) hx hb dL_law_2146 (by decide) ?_
  refine lv_iadd hx hb dL_law_2147 ?_
  refine lv_topi (fun x1 e1 => ?_)
  obtain rfl : x1 = 1 := e1.trans (by decide)
  refine va_sld hx hb hX hbl hbA hS (vp_in_nI (n := 1) (by decide) (by decide)) dL_law_2148 ?_
  refine lv_topi (fun x2 e2 => ?_)
  obtain rfl : x2 = xs 1 := e2
  refine lv_aload_n hx hb dL_law_2149 rfl (lv_at hl 2 rfl) ?_
  refine mc_i (wr := [(mo, .inr (16, [.int 5, .int 5, .int th, .ref m1, .ref m2, .ref m3, .ref m4, .ref m5, .ref l1, .ref l2, .ref l3, .int (-1), .ref l4])), (l3, .inr (5, [.int 1, .ref (D.1 1000), .int 0]))]) (vx_runSW (As := [.ref x, .int (xs 1), .ref oo]) (rest := []) ⟨hx, hb, hml, hown, hts⟩ (c_Lplace l hst D x g ca co ra rl tr f9 f10 f11 f12 f13 (xs 1) oo coo f0 H.size) (vx_cwSW 3 hts (gi_c mw_904 rfl (gi_c mw_905 rfl (gi_c mw_766 rfl (goodIn_sub il_c_Lplace (List.all_eq_true.mpr gw_c_Lplace))))) rfl rfl rfl (by decide +kernel) ⟨Nat.le_of_ble_eq_true rfl, Nat.le_of_ble_eq_true rfl⟩) (pr_S (As := [.ref x, .int (xs 1), .ref oo]) hP hD hK hS hA hE [0, 1] [0] rfl rfl rfl) rfl rfl hl.1 rfl (lv_room (Nat.le_of_ble_eq_true rfl)) dL_law_2150 ⟨Nat.le_of_ble_eq_true rfl, Nat.le_of_ble_eq_true rfl⟩) hP hD hK hS hA [0, 1] [2, 3] rfl rfl (by decide) (by decide) (fun r5 u3 H locs w4 hP hD hK hS => ?_)
  have hP : va_P D vwCl [(mo, .inr (16, [.int 5, .int 5, .int th, .ref m1, .ref m2, .ref m3, .ref m4, .ref m5, .ref l1, .ref l2, .ref l3, .int (-1), .ref l4])), (l3, .inr (5, [.int 1, .ref (D.1 1000), .int 0])), (oo, .inl (coo, 1, .inr (.inl u3)))] H := hP
  have hD : va_D (lw_A s) [(mo, .inr (16, [.int 5, .int 5, .int th, .ref m1, .ref m2, .ref m3, .ref m4, .ref m5, .ref l1, .ref l2, .ref l3, .int (-1), .ref l4])), (l3, .inr (5, [.int 1, .ref (D.1 1000), .int 0])), (oo, .inl (coo, 1, .inr (.inl u3)))] := hD
  have hK : va_K D vwCl [(coo, .long)] s := hK
  refine lv_istore (lv' := [(6, .int r5), (5, .int 0), (4, .ref od), (3, .ref oo), (2, .ref mo), (1, .ref x), (0, .ref b)]) hx hb dL_law_2153 hl (by decide) rfl (fun ls hl => ?_)
  refine lv_aload_n hx hb dL_law_2155 rfl (lv_at hl 4 rfl) ?_
  refine lv_aload_n hx hb dL_law_2156 rfl (lv_at hl 6 rfl) ?_
  refine lv_iload hx hb dL_law_2157 (lv_at hl 1 rfl) ?_
  refine lv_iconst (v := 1) hx hb dL_law_2159 (by decide) ?_
  refine lv_iadd hx hb dL_law_2160 ?_
  refine lv_topi (fun x6 e6 => ?_)
  obtain rfl : x6 = 1 := e6.trans (by decide)
  refine va_sld hx hb hX hbl hbA hS (vp_in_nI (n := 1) (by decide) (by decide)) dL_law_2161 ?_
  refine lv_topi (fun x7 e7 => ?_)
  obtain rfl : x7 = xs 1 := e7
  refine mc_i (wr := [(oo, .inl (coo, 1, .inr (.inl u3)))]) (va_runV (As := [.int (xs 1)]) (rest := []) ⟨hx, hb, hml, hown, hts⟩ (c_mplace l hst D mo th m1 m2 m3 m4 m5 l1 l2 l3 l4 (xs 1) H.size) (cwV 1 hts (gi_c mw_906 rfl (gi_c mw_907 rfl (gi_c mw_908 rfl (gi_c mw_481 rfl (goodIn_sub il_c_mplace (List.all_eq_true.mpr gw_c_mplace)))))) rfl rfl rfl (by decide +kernel) ⟨Nat.le_of_ble_eq_true rfl, Nat.le_of_ble_eq_true rfl⟩) (pr_V (As := [.int (xs 1)]) (b := mo) (C := RX9) hP hD hK hS hA hE [0, 1] [] rfl rfl rfl 0 16 rfl rfl rfl) rfl rfl hl.1 rfl (lv_room (Nat.le_of_ble_eq_true rfl)) dL_law_2162 ⟨Nat.le_of_ble_eq_true rfl, Nat.le_of_ble_eq_true rfl⟩) hP hD hK hS hA [0, 1] [2] rfl rfl (by decide) (by decide) (fun r10 u8 H locs w9 hP hD hK hS => ?_)
  have hP : va_P D vwCl [(oo, .inl (coo, 1, .inr (.inl u3))), (mo, .inr (16, [.int (u8.2.2 0), .int (u8.2.2 1), .int u8.1, .ref (u8.2.1 0), .ref (u8.2.1 1), .ref (u8.2.1 2), .ref (u8.2.1 3), .ref (u8.2.1 4), .ref (u8.2.1 5), .ref (u8.2.1 6), .ref (u8.2.1 7), .int (u8.2.2 2), .ref (u8.2.1 8)]))] H := hP
  have hD : va_D (lw_A s) [(oo, .inl (coo, 1, .inr (.inl u3))), (mo, .inr (16, [.int (u8.2.2 0), .int (u8.2.2 1), .int u8.1, .ref (u8.2.1 0), .ref (u8.2.1 1), .ref (u8.2.1 2), .ref (u8.2.1 3), .ref (u8.2.1 4), .ref (u8.2.1 5), .ref (u8.2.1 6), .ref (u8.2.1 7), .int (u8.2.2 2), .ref (u8.2.1 8)]))] := hD
  have hK : va_K D vwCl [(coo, .long)] s := hK
  refine lv_istore (lv' := [(7, .int r10), (6, .int r5), (5, .int 0), (4, .ref od), (3, .ref oo), (2, .ref mo), (1, .ref x), (0, .ref b)]) hx hb dL_law_2165 hl (by decide) rfl (fun ls hl => ?_)
  refine lv_aload_n hx hb dL_law_2167 rfl (lv_at hl 5 rfl) ?_
  refine mc_i (wr := [(oo, .inl (coo, 1, .inr (.inl u3)))]) (va_runV (As := []) (rest := []) ⟨hx, hb, hml, hown, hts⟩ (c_thrown l hst D mo (u8.2.2 0) (u8.2.2 1) u8.1 (u8.2.1 0) (u8.2.1 1) (u8.2.1 2) (u8.2.1 3) (u8.2.1 4) (u8.2.1 5) (u8.2.1 6) (u8.2.1 7) (u8.2.2 2) (u8.2.1 8) H.size) (cwV 0 hts (gi_c mw_770 rfl (gi_c mw_771 rfl (gi_c mw_772 rfl (gi_c mw_481 rfl (goodIn_sub il_c_thrown (List.all_eq_true.mpr gw_c_thrown)))))) rfl rfl rfl (by decide +kernel) ⟨Nat.le_of_ble_eq_true rfl, Nat.le_of_ble_eq_true rfl⟩) (pr_V (As := []) (b := mo) (C := RX9) hP hD hK hS hA hE [1] [] rfl rfl rfl 1 16 rfl rfl rfl) rfl rfl hl.1 rfl (lv_room (Nat.le_of_ble_eq_true rfl)) dL_law_2168 ⟨Nat.le_of_ble_eq_true rfl, Nat.le_of_ble_eq_true rfl⟩) hP hD hK hS hA [1] [0] rfl rfl (by decide) (by decide) (fun r12 _ H locs w11 hP hD hK hS => ?_)
  have hP : va_P D vwCl [(oo, .inl (coo, 1, .inr (.inl u3))), (mo, .inr (16, [.int (u8.2.2 0), .int (u8.2.2 1), .int u8.1, .ref (u8.2.1 0), .ref (u8.2.1 1), .ref (u8.2.1 2), .ref (u8.2.1 3), .ref (u8.2.1 4), .ref (u8.2.1 5), .ref (u8.2.1 6), .ref (u8.2.1 7), .int (u8.2.2 2), .ref (u8.2.1 8)]))] H := hP
  have hD : va_D (lw_A s) [(oo, .inl (coo, 1, .inr (.inl u3))), (mo, .inr (16, [.int (u8.2.2 0), .int (u8.2.2 1), .int u8.1, .ref (u8.2.1 0), .ref (u8.2.1 1), .ref (u8.2.1 2), .ref (u8.2.1 3), .ref (u8.2.1 4), .ref (u8.2.1 5), .ref (u8.2.1 6), .ref (u8.2.1 7), .int (u8.2.2 2), .ref (u8.2.1 8)]))] := hD
  have hK : va_K D vwCl [(coo, .long)] s := hK
  obtain rfl : r12 = u8.1 := w11
  refine lv_iload hx hb dL_law_2171 (lv_at hl 1 rfl) ?_
  refine lv_icmp_eq (tgt := 2178) hx hb dL_law_2173 (by decide) (fun h13 => ?_) (fun h13 => absurd (by exact (w9).trans w4.1.symm) h13)
  refine lv_iload hx hb dL_law_2178 (lv_at hl 1 rfl) ?_
  refine lv_if_ne (tgt := 2195) hx hb dL_law_2180 (by decide) (fun h14 => ?_) (fun h14 => absurd h14 (by exact fun q9 => absurd (show (1 : Int32) = 0 from w4.1.symm.trans q9) (by decide)))
  refine lv_goto (tgt := 3320) hx hb dL_law_2195 (by decide) ?_
  refine W.widen (k := 600006) (n := 7302040) (Nat.le_of_ble_eq_true rfl) (Nat.le_of_ble_eq_true rfl) ?_
  exact hend _ _ _ (lv_sub hl [2, 7] rfl) hS

set_option maxHeartbeats 4000000 in
set_option maxRecDepth 100000 in
/-- case 28: reference -/
theorem lc_28 (l : Launch) (hst : l.stackTraces = false) (D : va_G) {p : Program} {e : Env} {s : State} {m : MethodId} {below : List Frame} {meth : Method} {c : Code} {b : Nat} {xs : Nat → Int32} {Q : State → Prop} (hx : p.tables.exec = Jvm.exec) (hb : c.code = code) (hml : c.maxLocals = 9) (hown : s.vm.findClass RL = some m.cls) (hts : ∀ w ∈ lw_tbl, w.before #[Value.ref b] s = true) (hX : va_X b 5 xs s s.heap) (hbl : b < s.heap.size) (hE : ex_E D (lw_A s) s s.heap) (hend : lw_End p l e s m below meth c b Q) (x : Nat) (g : Nat) (ca : Nat) (co : Nat) (ra : Nat) (rl : Nat) (tr : Nat) (f9 : Nat) (f10 : Nat) (f11 : Nat) (f12 : Nat) (f13 : Nat) (oo : Nat) (coo : ClassId) (f0 : Nat → Int64) (mo : Nat) (th : Int32) (m1 : Nat) (m2 : Nat) (m3 : Nat) (m4 : Nat) (m5 : Nat) (l1 : Nat) (l2 : Nat) (l3 : Nat) (l4 : Nat) (od : Nat)  {H : Heap} {locs : List Loc} {ls : Array Slot} (hl : lv_has ls 9 [(5, .int 0), (4, .ref od), (3, .ref oo), (2, .ref mo), (1, .ref x), (0, .ref b)]) (hP : va_P D vwCl [(x, .inr (13, [.ref g, .ref ca, .int 0, .ref co, .int 0, .ref ra, .int 0, .ref rl, .ref tr, .ref f9, .ref f10, .ref f11, .ref f12, .ref f13])), (oo, .inl (coo, 1, .inr (.inl f0))), (mo, .inr (16, [.int 5, .int 5, .int th, .ref m1, .ref m2, .ref m3, .ref m4, .ref m5, .ref l1, .ref l2, .ref l3, .int (-1), .ref l4])), (l3, .inr (5, [.int 1, .ref (D.1 1000), .int 0]))] H) (hD : va_D (lw_A s) [(x, .inr (13, [.ref g, .ref ca, .int 0, .ref co, .int 0, .ref ra, .int 0, .ref rl, .ref tr, .ref f9, .ref f10, .ref f11, .ref f12, .ref f13])), (oo, .inl (coo, 1, .inr (.inl f0))), (mo, .inr (16, [.int 5, .int 5, .int th, .ref m1, .ref m2, .ref m3, .ref m4, .ref m5, .ref l1, .ref l2, .ref l3, .int (-1), .ref l4])), (l3, .inr (5, [.int 1, .ref (D.1 1000), .int 0]))]) (hK : va_K D vwCl [(coo, .long)] s) (hS : va_S (lw_A s) s.heap H locs) : W p l e room_1 s m #[Value.ref b] below meth c H locs 167 55824 Q (F0 m 2198 ls []) := by
  have hA : ∀ q : Nat, s.heap.size ≤ q → lw_A s q := fun _ h => h
  have hbA : ¬ lw_A s b := Nat.not_le.mpr hbl
  refine lv_aload_n hx hb dL_law_2198 rfl (lv_at hl 4 rfl) ?_
  refine lv_aload_n hx hb dL_law_2199 rfl (lv_at hl 5 rfl) ?_
  refine lv_iload hx hb dL_law_2200 (lv_at hl 0 rfl) ?_
  refine lv_iconst (v := 1) hx hb dL_law_2202 (by decide) ?_
  refine lv_iadd hx hb dL_law_2203 ?_
  refine lv_topi (fun x1 e1 => ?_)
  obtain rfl : x1 = 1 := e1.trans (by decide)
  refine va_sld hx hb hX hbl hbA hS (vp_in_nI (n := 1) (by decide) (by decide)) dL_law_2204 ?_
  refine lv_topi (fun x2 e2 => ?_)
  obtain rfl : x2 = xs 1 := e2
  refine lv_aload_n hx hb dL_law_2205 rfl (lv_at hl 5 rfl) ?_
  refine lv_iload hx hb dL_law_2206 (lv_at hl 0 rfl) ?_
  refine lv_iconst (v := 2) hx hb dL_law_2208 (by decide) ?_
  refine lv_iadd hx hb dL_law_2209 ?_
  refine lv_topi (fun x3 e3 => ?_)
  obtain rfl : x3 = 2 := e3.trans (by decide)
  refine va_sld hx hb hX hbl hbA hS (vp_in_nI (n := 2) (by decide) (by decide)) dL_law_2210 ?_
  refine lv_topi (fun x4 e4 => ?_)
  obtain rfl : x4 = xs 2 := e4
  refine lv_aload_n hx hb dL_law_2211 rfl (lv_at hl 2 rfl) ?_
  refine mc_i (wr := [(mo, .inr (16, [.int 5, .int 5, .int th, .ref m1, .ref m2, .ref m3, .ref m4, .ref m5, .ref l1, .ref l2, .ref l3, .int (-1), .ref l4])), (l3, .inr (5, [.int 1, .ref (D.1 1000), .int 0]))]) (vx_runSW (As := [.ref x, .int (xs 1), .int (xs 2), .ref oo]) (rest := []) ⟨hx, hb, hml, hown, hts⟩ (c_Lreference l hst D x g ca co ra rl tr f9 f10 f11 f12 f13 (xs 1) (xs 2) oo coo f0 H.size) (vx_cwSW 4 hts (gi_c mw_909 rfl (gi_c mw_910 rfl (gi_c mw_766 rfl (goodIn_sub il_c_Lreference (List.all_eq_true.mpr gw_c_Lreference))))) rfl rfl rfl (by decide +kernel) ⟨Nat.le_of_ble_eq_true rfl, Nat.le_of_ble_eq_true rfl⟩) (pr_S (As := [.ref x, .int (xs 1), .int (xs 2), .ref oo]) hP hD hK hS hA hE [0, 1] [0] rfl rfl rfl) rfl rfl hl.1 rfl (lv_room (Nat.le_of_ble_eq_true rfl)) dL_law_2212 ⟨Nat.le_of_ble_eq_true rfl, Nat.le_of_ble_eq_true rfl⟩) hP hD hK hS hA [0, 1] [2, 3] rfl rfl (by decide) (by decide) (fun r7 u5 H locs w6 hP hD hK hS => ?_)
  have hP : va_P D vwCl [(mo, .inr (16, [.int 5, .int 5, .int th, .ref m1, .ref m2, .ref m3, .ref m4, .ref m5, .ref l1, .ref l2, .ref l3, .int (-1), .ref l4])), (l3, .inr (5, [.int 1, .ref (D.1 1000), .int 0])), (oo, .inl (coo, 1, .inr (.inl u5)))] H := hP
  have hD : va_D (lw_A s) [(mo, .inr (16, [.int 5, .int 5, .int th, .ref m1, .ref m2, .ref m3, .ref m4, .ref m5, .ref l1, .ref l2, .ref l3, .int (-1), .ref l4])), (l3, .inr (5, [.int 1, .ref (D.1 1000), .int 0])), (oo, .inl (coo, 1, .inr (.inl u5)))] := hD
  have hK : va_K D vwCl [(coo, .long)] s := hK
  refine lv_istore (lv' := [(6, .int r7), (5, .int 0), (4, .ref od), (3, .ref oo), (2, .ref mo), (1, .ref x), (0, .ref b)]) hx hb dL_law_2215 hl (by decide) rfl (fun ls hl => ?_)
  refine lv_aload_n hx hb dL_law_2217 rfl (lv_at hl 4 rfl) ?_
  refine lv_aload_n hx hb dL_law_2218 rfl (lv_at hl 6 rfl) ?_
  refine lv_iload hx hb dL_law_2219 (lv_at hl 1 rfl) ?_
  refine lv_iconst (v := 1) hx hb dL_law_2221 (by decide) ?_
  refine lv_iadd hx hb dL_law_2222 ?_
  refine lv_topi (fun x8 e8 => ?_)
  obtain rfl : x8 = 1 := e8.trans (by decide)
  refine va_sld hx hb hX hbl hbA hS (vp_in_nI (n := 1) (by decide) (by decide)) dL_law_2223 ?_
  refine lv_topi (fun x9 e9 => ?_)
  obtain rfl : x9 = xs 1 := e9
  refine lv_aload_n hx hb dL_law_2224 rfl (lv_at hl 6 rfl) ?_
  refine lv_iload hx hb dL_law_2225 (lv_at hl 1 rfl) ?_
  refine lv_iconst (v := 2) hx hb dL_law_2227 (by decide) ?_
  refine lv_iadd hx hb dL_law_2228 ?_
  refine lv_topi (fun x10 e10 => ?_)
  obtain rfl : x10 = 2 := e10.trans (by decide)
  refine va_sld hx hb hX hbl hbA hS (vp_in_nI (n := 2) (by decide) (by decide)) dL_law_2229 ?_
  refine lv_topi (fun x11 e11 => ?_)
  obtain rfl : x11 = xs 2 := e11
  refine mc_i (wr := [(oo, .inl (coo, 1, .inr (.inl u5)))]) (va_runV (As := [.int (xs 1), .int (xs 2)]) (rest := []) ⟨hx, hb, hml, hown, hts⟩ (c_mreference l hst D mo th m1 m2 m3 m4 m5 l1 l2 l3 l4 (xs 1) (xs 2) H.size) (cwV 2 hts (gi_c mw_911 rfl (gi_c mw_912 rfl (gi_c mw_913 rfl (gi_c mw_481 rfl (goodIn_sub il_c_mreference (List.all_eq_true.mpr gw_c_mreference)))))) rfl rfl rfl (by decide +kernel) ⟨Nat.le_of_ble_eq_true rfl, Nat.le_of_ble_eq_true rfl⟩) (pr_V (As := [.int (xs 1), .int (xs 2)]) (b := mo) (C := RX9) hP hD hK hS hA hE [0, 1] [] rfl rfl rfl 0 16 rfl rfl rfl) rfl rfl hl.1 rfl (lv_room (Nat.le_of_ble_eq_true rfl)) dL_law_2230 ⟨Nat.le_of_ble_eq_true rfl, Nat.le_of_ble_eq_true rfl⟩) hP hD hK hS hA [0, 1] [2] rfl rfl (by decide) (by decide) (fun r14 u12 H locs w13 hP hD hK hS => ?_)
  have hP : va_P D vwCl [(oo, .inl (coo, 1, .inr (.inl u5))), (mo, .inr (16, [.int (u12.2.2 0), .int (u12.2.2 1), .int u12.1, .ref (u12.2.1 0), .ref (u12.2.1 1), .ref (u12.2.1 2), .ref (u12.2.1 3), .ref (u12.2.1 4), .ref (u12.2.1 5), .ref (u12.2.1 6), .ref (u12.2.1 7), .int (u12.2.2 2), .ref (u12.2.1 8)]))] H := hP
  have hD : va_D (lw_A s) [(oo, .inl (coo, 1, .inr (.inl u5))), (mo, .inr (16, [.int (u12.2.2 0), .int (u12.2.2 1), .int u12.1, .ref (u12.2.1 0), .ref (u12.2.1 1), .ref (u12.2.1 2), .ref (u12.2.1 3), .ref (u12.2.1 4), .ref (u12.2.1 5), .ref (u12.2.1 6), .ref (u12.2.1 7), .int (u12.2.2 2), .ref (u12.2.1 8)]))] := hD
  have hK : va_K D vwCl [(coo, .long)] s := hK
  refine lv_istore (lv' := [(7, .int r14), (6, .int r7), (5, .int 0), (4, .ref od), (3, .ref oo), (2, .ref mo), (1, .ref x), (0, .ref b)]) hx hb dL_law_2233 hl (by decide) rfl (fun ls hl => ?_)
  refine lv_aload_n hx hb dL_law_2235 rfl (lv_at hl 5 rfl) ?_
  refine mc_i (wr := [(oo, .inl (coo, 1, .inr (.inl u5)))]) (va_runV (As := []) (rest := []) ⟨hx, hb, hml, hown, hts⟩ (c_thrown l hst D mo (u12.2.2 0) (u12.2.2 1) u12.1 (u12.2.1 0) (u12.2.1 1) (u12.2.1 2) (u12.2.1 3) (u12.2.1 4) (u12.2.1 5) (u12.2.1 6) (u12.2.1 7) (u12.2.2 2) (u12.2.1 8) H.size) (cwV 0 hts (gi_c mw_770 rfl (gi_c mw_771 rfl (gi_c mw_772 rfl (gi_c mw_481 rfl (goodIn_sub il_c_thrown (List.all_eq_true.mpr gw_c_thrown)))))) rfl rfl rfl (by decide +kernel) ⟨Nat.le_of_ble_eq_true rfl, Nat.le_of_ble_eq_true rfl⟩) (pr_V (As := []) (b := mo) (C := RX9) hP hD hK hS hA hE [1] [] rfl rfl rfl 1 16 rfl rfl rfl) rfl rfl hl.1 rfl (lv_room (Nat.le_of_ble_eq_true rfl)) dL_law_2236 ⟨Nat.le_of_ble_eq_true rfl, Nat.le_of_ble_eq_true rfl⟩) hP hD hK hS hA [1] [0] rfl rfl (by decide) (by decide) (fun r16 _ H locs w15 hP hD hK hS => ?_)
  have hP : va_P D vwCl [(oo, .inl (coo, 1, .inr (.inl u5))), (mo, .inr (16, [.int (u12.2.2 0), .int (u12.2.2 1), .int u12.1, .ref (u12.2.1 0), .ref (u12.2.1 1), .ref (u12.2.1 2), .ref (u12.2.1 3), .ref (u12.2.1 4), .ref (u12.2.1 5), .ref (u12.2.1 6), .ref (u12.2.1 7), .int (u12.2.2 2), .ref (u12.2.1 8)]))] H := hP
  have hD : va_D (lw_A s) [(oo, .inl (coo, 1, .inr (.inl u5))), (mo, .inr (16, [.int (u12.2.2 0), .int (u12.2.2 1), .int u12.1, .ref (u12.2.1 0), .ref (u12.2.1 1), .ref (u12.2.1 2), .ref (u12.2.1 3), .ref (u12.2.1 4), .ref (u12.2.1 5), .ref (u12.2.1 6), .ref (u12.2.1 7), .int (u12.2.2 2), .ref (u12.2.1 8)]))] := hD
  have hK : va_K D vwCl [(coo, .long)] s := hK
  obtain rfl : r16 = u12.1 := w15
  refine lv_iload hx hb dL_law_2239 (lv_at hl 1 rfl) ?_
  refine lv_icmp_eq (tgt := 2246) hx hb dL_law_2241 (by decide) (fun h17 => ?_) (fun h17 => absurd (by exact (w13).trans w6.1.symm) h17)
  refine lv_iload hx hb dL_law_2246 (lv_at hl 1 rfl) ?_
  refine lv_if_ne (tgt := 2263) hx hb dL_law_2248 (by decide) (fun h18 => ?_) (fun h18 => absurd h18 (by exact fun q9 => absurd (show (1 : Int32) = 0 from w6.1.symm.trans q9) (by decide)))
  refine lv_goto (tgt := 3320) hx hb dL_law_2263 (by decide) ?_
  refine W.widen (k := 600006) (n := 7302040) (Nat.le_of_ble_eq_true rfl) (Nat.le_of_ble_eq_true rfl) ?_
  exact hend _ _ _ (lv_sub hl [2, 7] rfl) hS

set_option maxHeartbeats 4000000 in
set_option maxRecDepth 100000 in
/-- case 29: pace -/
theorem lc_29 (l : Launch) (hst : l.stackTraces = false) (D : va_G) {p : Program} {e : Env} {s : State} {m : MethodId} {below : List Frame} {meth : Method} {c : Code} {b : Nat} {xs : Nat → Int32} {Q : State → Prop} (hx : p.tables.exec = Jvm.exec) (hb : c.code = code) (hml : c.maxLocals = 9) (hown : s.vm.findClass RL = some m.cls) (hts : ∀ w ∈ lw_tbl, w.before #[Value.ref b] s = true) (hX : va_X b 5 xs s s.heap) (hbl : b < s.heap.size) (hE : ex_E D (lw_A s) s s.heap) (hend : lw_End p l e s m below meth c b Q) (x : Nat) (g : Nat) (ca : Nat) (co : Nat) (ra : Nat) (rl : Nat) (tr : Nat) (f9 : Nat) (f10 : Nat) (f11 : Nat) (f12 : Nat) (f13 : Nat) (oo : Nat) (coo : ClassId) (f0 : Nat → Int64) (mo : Nat) (th : Int32) (m1 : Nat) (m2 : Nat) (m3 : Nat) (m4 : Nat) (m5 : Nat) (l1 : Nat) (l2 : Nat) (l3 : Nat) (l4 : Nat) (od : Nat)  {H : Heap} {locs : List Loc} {ls : Array Slot} (hl : lv_has ls 9 [(5, .int 0), (4, .ref od), (3, .ref oo), (2, .ref mo), (1, .ref x), (0, .ref b)]) (hP : va_P D vwCl [(x, .inr (13, [.ref g, .ref ca, .int 0, .ref co, .int 0, .ref ra, .int 0, .ref rl, .ref tr, .ref f9, .ref f10, .ref f11, .ref f12, .ref f13])), (oo, .inl (coo, 1, .inr (.inl f0))), (mo, .inr (16, [.int 5, .int 5, .int th, .ref m1, .ref m2, .ref m3, .ref m4, .ref m5, .ref l1, .ref l2, .ref l3, .int (-1), .ref l4])), (l3, .inr (5, [.int 1, .ref (D.1 1000), .int 0]))] H) (hD : va_D (lw_A s) [(x, .inr (13, [.ref g, .ref ca, .int 0, .ref co, .int 0, .ref ra, .int 0, .ref rl, .ref tr, .ref f9, .ref f10, .ref f11, .ref f12, .ref f13])), (oo, .inl (coo, 1, .inr (.inl f0))), (mo, .inr (16, [.int 5, .int 5, .int th, .ref m1, .ref m2, .ref m3, .ref m4, .ref m5, .ref l1, .ref l2, .ref l3, .int (-1), .ref l4])), (l3, .inr (5, [.int 1, .ref (D.1 1000), .int 0]))]) (hK : va_K D vwCl [(coo, .long)] s) (hS : va_S (lw_A s) s.heap H locs) : W p l e room_1 s m #[Value.ref b] below meth c H locs 167 55824 Q (F0 m 2266 ls []) := by
  have hA : ∀ q : Nat, s.heap.size ≤ q → lw_A s q := fun _ h => h
  have hbA : ¬ lw_A s b := Nat.not_le.mpr hbl
  refine lv_aload_n hx hb dL_law_2266 rfl (lv_at hl 4 rfl) ?_
  refine lv_aload_n hx hb dL_law_2267 rfl (lv_at hl 5 rfl) ?_
  refine lv_iload hx hb dL_law_2268 (lv_at hl 0 rfl) ?_
  refine lv_iconst (v := 1) hx hb dL_law_2270 (by decide) ?_
  refine lv_iadd hx hb dL_law_2271 ?_
  refine lv_topi (fun x1 e1 => ?_)
  obtain rfl : x1 = 1 := e1.trans (by decide)
  refine va_sld hx hb hX hbl hbA hS (vp_in_nI (n := 1) (by decide) (by decide)) dL_law_2272 ?_
  refine lv_topi (fun x2 e2 => ?_)
  obtain rfl : x2 = xs 1 := e2
  refine lv_aload_n hx hb dL_law_2273 rfl (lv_at hl 2 rfl) ?_
  refine mc_i (wr := [(mo, .inr (16, [.int 5, .int 5, .int th, .ref m1, .ref m2, .ref m3, .ref m4, .ref m5, .ref l1, .ref l2, .ref l3, .int (-1), .ref l4])), (l3, .inr (5, [.int 1, .ref (D.1 1000), .int 0]))]) (vx_runSW (As := [.ref x, .int (xs 1), .ref oo]) (rest := []) ⟨hx, hb, hml, hown, hts⟩ (c_Lpace l hst D x g ca co ra rl tr f9 f10 f11 f12 f13 (xs 1) oo coo f0 H.size) (vx_cwSW 3 hts (gi_c mw_914 rfl (gi_c mw_915 rfl (gi_c mw_766 rfl (goodIn_sub il_c_Lpace (List.all_eq_true.mpr gw_c_Lpace))))) rfl rfl rfl (by decide +kernel) ⟨Nat.le_of_ble_eq_true rfl, Nat.le_of_ble_eq_true rfl⟩) (pr_S (As := [.ref x, .int (xs 1), .ref oo]) hP hD hK hS hA hE [0, 1] [0] rfl rfl rfl) rfl rfl hl.1 rfl (lv_room (Nat.le_of_ble_eq_true rfl)) dL_law_2274 ⟨Nat.le_of_ble_eq_true rfl, Nat.le_of_ble_eq_true rfl⟩) hP hD hK hS hA [0, 1] [2, 3] rfl rfl (by decide) (by decide) (fun r5 u3 H locs w4 hP hD hK hS => ?_)
  have hP : va_P D vwCl [(mo, .inr (16, [.int 5, .int 5, .int th, .ref m1, .ref m2, .ref m3, .ref m4, .ref m5, .ref l1, .ref l2, .ref l3, .int (-1), .ref l4])), (l3, .inr (5, [.int 1, .ref (D.1 1000), .int 0])), (oo, .inl (coo, 1, .inr (.inl u3)))] H := hP
  have hD : va_D (lw_A s) [(mo, .inr (16, [.int 5, .int 5, .int th, .ref m1, .ref m2, .ref m3, .ref m4, .ref m5, .ref l1, .ref l2, .ref l3, .int (-1), .ref l4])), (l3, .inr (5, [.int 1, .ref (D.1 1000), .int 0])), (oo, .inl (coo, 1, .inr (.inl u3)))] := hD
  have hK : va_K D vwCl [(coo, .long)] s := hK
  refine lv_istore (lv' := [(6, .int r5), (5, .int 0), (4, .ref od), (3, .ref oo), (2, .ref mo), (1, .ref x), (0, .ref b)]) hx hb dL_law_2277 hl (by decide) rfl (fun ls hl => ?_)
  refine lv_aload_n hx hb dL_law_2279 rfl (lv_at hl 4 rfl) ?_
  refine lv_aload_n hx hb dL_law_2280 rfl (lv_at hl 6 rfl) ?_
  refine lv_iload hx hb dL_law_2281 (lv_at hl 1 rfl) ?_
  refine lv_iconst (v := 1) hx hb dL_law_2283 (by decide) ?_
  refine lv_iadd hx hb dL_law_2284 ?_
  refine lv_topi (fun x6 e6 => ?_)
  obtain rfl : x6 = 1 := e6.trans (by decide)
  refine va_sld hx hb hX hbl hbA hS (vp_in_nI (n := 1) (by decide) (by decide)) dL_law_2285 ?_
  refine lv_topi (fun x7 e7 => ?_)
  obtain rfl : x7 = xs 1 := e7
  refine mc_i (wr := [(oo, .inl (coo, 1, .inr (.inl u3)))]) (va_runV (As := [.int (xs 1)]) (rest := []) ⟨hx, hb, hml, hown, hts⟩ (c_mpace l hst D mo th m1 m2 m3 m4 m5 l1 l2 l3 l4 (xs 1) H.size) (cwV 1 hts (gi_c mw_916 rfl (gi_c mw_917 rfl (gi_c mw_918 rfl (gi_c mw_481 rfl (goodIn_sub il_c_mpace (List.all_eq_true.mpr gw_c_mpace)))))) rfl rfl rfl (by decide +kernel) ⟨Nat.le_of_ble_eq_true rfl, Nat.le_of_ble_eq_true rfl⟩) (pr_V (As := [.int (xs 1)]) (b := mo) (C := RX9) hP hD hK hS hA hE [0, 1] [] rfl rfl rfl 0 16 rfl rfl rfl) rfl rfl hl.1 rfl (lv_room (Nat.le_of_ble_eq_true rfl)) dL_law_2286 ⟨Nat.le_of_ble_eq_true rfl, Nat.le_of_ble_eq_true rfl⟩) hP hD hK hS hA [0, 1] [2] rfl rfl (by decide) (by decide) (fun r10 u8 H locs w9 hP hD hK hS => ?_)
  have hP : va_P D vwCl [(oo, .inl (coo, 1, .inr (.inl u3))), (mo, .inr (16, [.int (u8.2.2 0), .int (u8.2.2 1), .int u8.1, .ref (u8.2.1 0), .ref (u8.2.1 1), .ref (u8.2.1 2), .ref (u8.2.1 3), .ref (u8.2.1 4), .ref (u8.2.1 5), .ref (u8.2.1 6), .ref (u8.2.1 7), .int (u8.2.2 2), .ref (u8.2.1 8)]))] H := hP
  have hD : va_D (lw_A s) [(oo, .inl (coo, 1, .inr (.inl u3))), (mo, .inr (16, [.int (u8.2.2 0), .int (u8.2.2 1), .int u8.1, .ref (u8.2.1 0), .ref (u8.2.1 1), .ref (u8.2.1 2), .ref (u8.2.1 3), .ref (u8.2.1 4), .ref (u8.2.1 5), .ref (u8.2.1 6), .ref (u8.2.1 7), .int (u8.2.2 2), .ref (u8.2.1 8)]))] := hD
  have hK : va_K D vwCl [(coo, .long)] s := hK
  refine lv_istore (lv' := [(7, .int r10), (6, .int r5), (5, .int 0), (4, .ref od), (3, .ref oo), (2, .ref mo), (1, .ref x), (0, .ref b)]) hx hb dL_law_2289 hl (by decide) rfl (fun ls hl => ?_)
  refine lv_aload_n hx hb dL_law_2291 rfl (lv_at hl 5 rfl) ?_
  refine mc_i (wr := [(oo, .inl (coo, 1, .inr (.inl u3)))]) (va_runV (As := []) (rest := []) ⟨hx, hb, hml, hown, hts⟩ (c_thrown l hst D mo (u8.2.2 0) (u8.2.2 1) u8.1 (u8.2.1 0) (u8.2.1 1) (u8.2.1 2) (u8.2.1 3) (u8.2.1 4) (u8.2.1 5) (u8.2.1 6) (u8.2.1 7) (u8.2.2 2) (u8.2.1 8) H.size) (cwV 0 hts (gi_c mw_770 rfl (gi_c mw_771 rfl (gi_c mw_772 rfl (gi_c mw_481 rfl (goodIn_sub il_c_thrown (List.all_eq_true.mpr gw_c_thrown)))))) rfl rfl rfl (by decide +kernel) ⟨Nat.le_of_ble_eq_true rfl, Nat.le_of_ble_eq_true rfl⟩) (pr_V (As := []) (b := mo) (C := RX9) hP hD hK hS hA hE [1] [] rfl rfl rfl 1 16 rfl rfl rfl) rfl rfl hl.1 rfl (lv_room (Nat.le_of_ble_eq_true rfl)) dL_law_2292 ⟨Nat.le_of_ble_eq_true rfl, Nat.le_of_ble_eq_true rfl⟩) hP hD hK hS hA [1] [0] rfl rfl (by decide) (by decide) (fun r12 _ H locs w11 hP hD hK hS => ?_)
  have hP : va_P D vwCl [(oo, .inl (coo, 1, .inr (.inl u3))), (mo, .inr (16, [.int (u8.2.2 0), .int (u8.2.2 1), .int u8.1, .ref (u8.2.1 0), .ref (u8.2.1 1), .ref (u8.2.1 2), .ref (u8.2.1 3), .ref (u8.2.1 4), .ref (u8.2.1 5), .ref (u8.2.1 6), .ref (u8.2.1 7), .int (u8.2.2 2), .ref (u8.2.1 8)]))] H := hP
  have hD : va_D (lw_A s) [(oo, .inl (coo, 1, .inr (.inl u3))), (mo, .inr (16, [.int (u8.2.2 0), .int (u8.2.2 1), .int u8.1, .ref (u8.2.1 0), .ref (u8.2.1 1), .ref (u8.2.1 2), .ref (u8.2.1 3), .ref (u8.2.1 4), .ref (u8.2.1 5), .ref (u8.2.1 6), .ref (u8.2.1 7), .int (u8.2.2 2), .ref (u8.2.1 8)]))] := hD
  have hK : va_K D vwCl [(coo, .long)] s := hK
  obtain rfl : r12 = u8.1 := w11
  refine lv_iload hx hb dL_law_2295 (lv_at hl 1 rfl) ?_
  refine lv_icmp_eq (tgt := 2302) hx hb dL_law_2297 (by decide) (fun h13 => ?_) (fun h13 => absurd (by exact (w9).trans w4.1.symm) h13)
  refine lv_iload hx hb dL_law_2302 (lv_at hl 1 rfl) ?_
  refine lv_if_ne (tgt := 2319) hx hb dL_law_2304 (by decide) (fun h14 => ?_) (fun h14 => absurd h14 (by exact fun q9 => absurd (show (1 : Int32) = 0 from w4.1.symm.trans q9) (by decide)))
  refine lv_goto (tgt := 3320) hx hb dL_law_2319 (by decide) ?_
  refine W.widen (k := 600006) (n := 7302040) (Nat.le_of_ble_eq_true rfl) (Nat.le_of_ble_eq_true rfl) ?_
  exact hend _ _ _ (lv_sub hl [2, 7] rfl) hS

set_option maxHeartbeats 4000000 in
set_option maxRecDepth 100000 in
/-- case 30: loss -/
theorem lc_30 (l : Launch) (hst : l.stackTraces = false) (D : va_G) {p : Program} {e : Env} {s : State} {m : MethodId} {below : List Frame} {meth : Method} {c : Code} {b : Nat} {xs : Nat → Int32} {Q : State → Prop} (hx : p.tables.exec = Jvm.exec) (hb : c.code = code) (hml : c.maxLocals = 9) (hown : s.vm.findClass RL = some m.cls) (hts : ∀ w ∈ lw_tbl, w.before #[Value.ref b] s = true) (hX : va_X b 5 xs s s.heap) (hbl : b < s.heap.size) (hE : ex_E D (lw_A s) s s.heap) (hend : lw_End p l e s m below meth c b Q) (x : Nat) (g : Nat) (ca : Nat) (co : Nat) (ra : Nat) (rl : Nat) (tr : Nat) (f9 : Nat) (f10 : Nat) (f11 : Nat) (f12 : Nat) (f13 : Nat) (oo : Nat) (coo : ClassId) (f0 : Nat → Int64) (mo : Nat) (th : Int32) (m1 : Nat) (m2 : Nat) (m3 : Nat) (m4 : Nat) (m5 : Nat) (l1 : Nat) (l2 : Nat) (l3 : Nat) (l4 : Nat) (od : Nat)  {H : Heap} {locs : List Loc} {ls : Array Slot} (hl : lv_has ls 9 [(5, .int 0), (4, .ref od), (3, .ref oo), (2, .ref mo), (1, .ref x), (0, .ref b)]) (hP : va_P D vwCl [(x, .inr (13, [.ref g, .ref ca, .int 0, .ref co, .int 0, .ref ra, .int 0, .ref rl, .ref tr, .ref f9, .ref f10, .ref f11, .ref f12, .ref f13])), (oo, .inl (coo, 1, .inr (.inl f0))), (mo, .inr (16, [.int 5, .int 5, .int th, .ref m1, .ref m2, .ref m3, .ref m4, .ref m5, .ref l1, .ref l2, .ref l3, .int (-1), .ref l4])), (l3, .inr (5, [.int 1, .ref (D.1 1000), .int 0]))] H) (hD : va_D (lw_A s) [(x, .inr (13, [.ref g, .ref ca, .int 0, .ref co, .int 0, .ref ra, .int 0, .ref rl, .ref tr, .ref f9, .ref f10, .ref f11, .ref f12, .ref f13])), (oo, .inl (coo, 1, .inr (.inl f0))), (mo, .inr (16, [.int 5, .int 5, .int th, .ref m1, .ref m2, .ref m3, .ref m4, .ref m5, .ref l1, .ref l2, .ref l3, .int (-1), .ref l4])), (l3, .inr (5, [.int 1, .ref (D.1 1000), .int 0]))]) (hK : va_K D vwCl [(coo, .long)] s) (hS : va_S (lw_A s) s.heap H locs) : W p l e room_1 s m #[Value.ref b] below meth c H locs 167 55824 Q (F0 m 2322 ls []) := by
  have hA : ∀ q : Nat, s.heap.size ≤ q → lw_A s q := fun _ h => h
  have hbA : ¬ lw_A s b := Nat.not_le.mpr hbl
  refine lv_aload_n hx hb dL_law_2322 rfl (lv_at hl 4 rfl) ?_
  refine lv_aload_n hx hb dL_law_2323 rfl (lv_at hl 5 rfl) ?_
  refine lv_iload hx hb dL_law_2324 (lv_at hl 0 rfl) ?_
  refine lv_iconst (v := 1) hx hb dL_law_2326 (by decide) ?_
  refine lv_iadd hx hb dL_law_2327 ?_
  refine lv_topi (fun x1 e1 => ?_)
  obtain rfl : x1 = 1 := e1.trans (by decide)
  refine va_sld hx hb hX hbl hbA hS (vp_in_nI (n := 1) (by decide) (by decide)) dL_law_2328 ?_
  refine lv_topi (fun x2 e2 => ?_)
  obtain rfl : x2 = xs 1 := e2
  refine lv_aload_n hx hb dL_law_2329 rfl (lv_at hl 5 rfl) ?_
  refine lv_iload hx hb dL_law_2330 (lv_at hl 0 rfl) ?_
  refine lv_iconst (v := 2) hx hb dL_law_2332 (by decide) ?_
  refine lv_iadd hx hb dL_law_2333 ?_
  refine lv_topi (fun x3 e3 => ?_)
  obtain rfl : x3 = 2 := e3.trans (by decide)
  refine va_sld hx hb hX hbl hbA hS (vp_in_nI (n := 2) (by decide) (by decide)) dL_law_2334 ?_
  refine lv_topi (fun x4 e4 => ?_)
  obtain rfl : x4 = xs 2 := e4
  refine lv_aload_n hx hb dL_law_2335 rfl (lv_at hl 2 rfl) ?_
  refine mc_i (wr := [(mo, .inr (16, [.int 5, .int 5, .int th, .ref m1, .ref m2, .ref m3, .ref m4, .ref m5, .ref l1, .ref l2, .ref l3, .int (-1), .ref l4])), (l3, .inr (5, [.int 1, .ref (D.1 1000), .int 0]))]) (vx_runSW (As := [.ref x, .int (xs 1), .int (xs 2), .ref oo]) (rest := []) ⟨hx, hb, hml, hown, hts⟩ (c_Lloss l hst D x g ca co ra rl tr f9 f10 f11 f12 f13 (xs 1) (xs 2) oo coo f0 H.size) (vx_cwSW 4 hts (gi_c mw_919 rfl (gi_c mw_920 rfl (gi_c mw_766 rfl (goodIn_sub il_c_Lloss (List.all_eq_true.mpr gw_c_Lloss))))) rfl rfl rfl (by decide +kernel) ⟨Nat.le_of_ble_eq_true rfl, Nat.le_of_ble_eq_true rfl⟩) (pr_S (As := [.ref x, .int (xs 1), .int (xs 2), .ref oo]) hP hD hK hS hA hE [0, 1] [0] rfl rfl rfl) rfl rfl hl.1 rfl (lv_room (Nat.le_of_ble_eq_true rfl)) dL_law_2336 ⟨Nat.le_of_ble_eq_true rfl, Nat.le_of_ble_eq_true rfl⟩) hP hD hK hS hA [0, 1] [2, 3] rfl rfl (by decide) (by decide) (fun r7 u5 H locs w6 hP hD hK hS => ?_)
  have hP : va_P D vwCl [(mo, .inr (16, [.int 5, .int 5, .int th, .ref m1, .ref m2, .ref m3, .ref m4, .ref m5, .ref l1, .ref l2, .ref l3, .int (-1), .ref l4])), (l3, .inr (5, [.int 1, .ref (D.1 1000), .int 0])), (oo, .inl (coo, 1, .inr (.inl u5)))] H := hP
  have hD : va_D (lw_A s) [(mo, .inr (16, [.int 5, .int 5, .int th, .ref m1, .ref m2, .ref m3, .ref m4, .ref m5, .ref l1, .ref l2, .ref l3, .int (-1), .ref l4])), (l3, .inr (5, [.int 1, .ref (D.1 1000), .int 0])), (oo, .inl (coo, 1, .inr (.inl u5)))] := hD
  have hK : va_K D vwCl [(coo, .long)] s := hK
  refine lv_istore (lv' := [(6, .int r7), (5, .int 0), (4, .ref od), (3, .ref oo), (2, .ref mo), (1, .ref x), (0, .ref b)]) hx hb dL_law_2339 hl (by decide) rfl (fun ls hl => ?_)
  refine lv_aload_n hx hb dL_law_2341 rfl (lv_at hl 4 rfl) ?_
  refine lv_aload_n hx hb dL_law_2342 rfl (lv_at hl 6 rfl) ?_
  refine lv_iload hx hb dL_law_2343 (lv_at hl 1 rfl) ?_
  refine lv_iconst (v := 1) hx hb dL_law_2345 (by decide) ?_
  refine lv_iadd hx hb dL_law_2346 ?_
  refine lv_topi (fun x8 e8 => ?_)
  obtain rfl : x8 = 1 := e8.trans (by decide)
  refine va_sld hx hb hX hbl hbA hS (vp_in_nI (n := 1) (by decide) (by decide)) dL_law_2347 ?_
  refine lv_topi (fun x9 e9 => ?_)
  obtain rfl : x9 = xs 1 := e9
  refine lv_aload_n hx hb dL_law_2348 rfl (lv_at hl 6 rfl) ?_
  refine lv_iload hx hb dL_law_2349 (lv_at hl 1 rfl) ?_
  refine lv_iconst (v := 2) hx hb dL_law_2351 (by decide) ?_
  refine lv_iadd hx hb dL_law_2352 ?_
  refine lv_topi (fun x10 e10 => ?_)
  obtain rfl : x10 = 2 := e10.trans (by decide)
  refine va_sld hx hb hX hbl hbA hS (vp_in_nI (n := 2) (by decide) (by decide)) dL_law_2353 ?_
  refine lv_topi (fun x11 e11 => ?_)
  obtain rfl : x11 = xs 2 := e11
  refine mc_i (wr := [(oo, .inl (coo, 1, .inr (.inl u5)))]) (va_runV (As := [.int (xs 1), .int (xs 2)]) (rest := []) ⟨hx, hb, hml, hown, hts⟩ (c_mloss l hst D mo th m1 m2 m3 m4 m5 l1 l2 l3 l4 (xs 1) (xs 2) H.size) (cwV 2 hts (gi_c mw_921 rfl (gi_c mw_922 rfl (gi_c mw_923 rfl (gi_c mw_481 rfl (goodIn_sub il_c_mloss (List.all_eq_true.mpr gw_c_mloss)))))) rfl rfl rfl (by decide +kernel) ⟨Nat.le_of_ble_eq_true rfl, Nat.le_of_ble_eq_true rfl⟩) (pr_V (As := [.int (xs 1), .int (xs 2)]) (b := mo) (C := RX9) hP hD hK hS hA hE [0, 1] [] rfl rfl rfl 0 16 rfl rfl rfl) rfl rfl hl.1 rfl (lv_room (Nat.le_of_ble_eq_true rfl)) dL_law_2354 ⟨Nat.le_of_ble_eq_true rfl, Nat.le_of_ble_eq_true rfl⟩) hP hD hK hS hA [0, 1] [2] rfl rfl (by decide) (by decide) (fun r14 u12 H locs w13 hP hD hK hS => ?_)
  have hP : va_P D vwCl [(oo, .inl (coo, 1, .inr (.inl u5))), (mo, .inr (16, [.int (u12.2.2 0), .int (u12.2.2 1), .int u12.1, .ref (u12.2.1 0), .ref (u12.2.1 1), .ref (u12.2.1 2), .ref (u12.2.1 3), .ref (u12.2.1 4), .ref (u12.2.1 5), .ref (u12.2.1 6), .ref (u12.2.1 7), .int (u12.2.2 2), .ref (u12.2.1 8)]))] H := hP
  have hD : va_D (lw_A s) [(oo, .inl (coo, 1, .inr (.inl u5))), (mo, .inr (16, [.int (u12.2.2 0), .int (u12.2.2 1), .int u12.1, .ref (u12.2.1 0), .ref (u12.2.1 1), .ref (u12.2.1 2), .ref (u12.2.1 3), .ref (u12.2.1 4), .ref (u12.2.1 5), .ref (u12.2.1 6), .ref (u12.2.1 7), .int (u12.2.2 2), .ref (u12.2.1 8)]))] := hD
  have hK : va_K D vwCl [(coo, .long)] s := hK
  refine lv_istore (lv' := [(7, .int r14), (6, .int r7), (5, .int 0), (4, .ref od), (3, .ref oo), (2, .ref mo), (1, .ref x), (0, .ref b)]) hx hb dL_law_2357 hl (by decide) rfl (fun ls hl => ?_)
  refine lv_aload_n hx hb dL_law_2359 rfl (lv_at hl 5 rfl) ?_
  refine mc_i (wr := [(oo, .inl (coo, 1, .inr (.inl u5)))]) (va_runV (As := []) (rest := []) ⟨hx, hb, hml, hown, hts⟩ (c_thrown l hst D mo (u12.2.2 0) (u12.2.2 1) u12.1 (u12.2.1 0) (u12.2.1 1) (u12.2.1 2) (u12.2.1 3) (u12.2.1 4) (u12.2.1 5) (u12.2.1 6) (u12.2.1 7) (u12.2.2 2) (u12.2.1 8) H.size) (cwV 0 hts (gi_c mw_770 rfl (gi_c mw_771 rfl (gi_c mw_772 rfl (gi_c mw_481 rfl (goodIn_sub il_c_thrown (List.all_eq_true.mpr gw_c_thrown)))))) rfl rfl rfl (by decide +kernel) ⟨Nat.le_of_ble_eq_true rfl, Nat.le_of_ble_eq_true rfl⟩) (pr_V (As := []) (b := mo) (C := RX9) hP hD hK hS hA hE [1] [] rfl rfl rfl 1 16 rfl rfl rfl) rfl rfl hl.1 rfl (lv_room (Nat.le_of_ble_eq_true rfl)) dL_law_2360 ⟨Nat.le_of_ble_eq_true rfl, Nat.le_of_ble_eq_true rfl⟩) hP hD hK hS hA [1] [0] rfl rfl (by decide) (by decide) (fun r16 _ H locs w15 hP hD hK hS => ?_)
  have hP : va_P D vwCl [(oo, .inl (coo, 1, .inr (.inl u5))), (mo, .inr (16, [.int (u12.2.2 0), .int (u12.2.2 1), .int u12.1, .ref (u12.2.1 0), .ref (u12.2.1 1), .ref (u12.2.1 2), .ref (u12.2.1 3), .ref (u12.2.1 4), .ref (u12.2.1 5), .ref (u12.2.1 6), .ref (u12.2.1 7), .int (u12.2.2 2), .ref (u12.2.1 8)]))] H := hP
  have hD : va_D (lw_A s) [(oo, .inl (coo, 1, .inr (.inl u5))), (mo, .inr (16, [.int (u12.2.2 0), .int (u12.2.2 1), .int u12.1, .ref (u12.2.1 0), .ref (u12.2.1 1), .ref (u12.2.1 2), .ref (u12.2.1 3), .ref (u12.2.1 4), .ref (u12.2.1 5), .ref (u12.2.1 6), .ref (u12.2.1 7), .int (u12.2.2 2), .ref (u12.2.1 8)]))] := hD
  have hK : va_K D vwCl [(coo, .long)] s := hK
  obtain rfl : r16 = u12.1 := w15
  refine lv_iload hx hb dL_law_2363 (lv_at hl 1 rfl) ?_
  refine lv_icmp_eq (tgt := 2370) hx hb dL_law_2365 (by decide) (fun h17 => ?_) (fun h17 => absurd (by exact (w13).trans w6.1.symm) h17)
  refine lv_iload hx hb dL_law_2370 (lv_at hl 1 rfl) ?_
  refine lv_if_ne (tgt := 2387) hx hb dL_law_2372 (by decide) (fun h18 => ?_) (fun h18 => absurd h18 (by exact fun q9 => absurd (show (1 : Int32) = 0 from w6.1.symm.trans q9) (by decide)))
  refine lv_goto (tgt := 3320) hx hb dL_law_2387 (by decide) ?_
  refine W.widen (k := 600006) (n := 7302040) (Nat.le_of_ble_eq_true rfl) (Nat.le_of_ble_eq_true rfl) ?_
  exact hend _ _ _ (lv_sub hl [2, 7] rfl) hS

set_option maxHeartbeats 4000000 in
set_option maxRecDepth 100000 in
/-- case 31: points -/
theorem lc_31 (l : Launch) (hst : l.stackTraces = false) (D : va_G) {p : Program} {e : Env} {s : State} {m : MethodId} {below : List Frame} {meth : Method} {c : Code} {b : Nat} {xs : Nat → Int32} {Q : State → Prop} (hx : p.tables.exec = Jvm.exec) (hb : c.code = code) (hml : c.maxLocals = 9) (hown : s.vm.findClass RL = some m.cls) (hts : ∀ w ∈ lw_tbl, w.before #[Value.ref b] s = true) (hX : va_X b 5 xs s s.heap) (hbl : b < s.heap.size) (hE : ex_E D (lw_A s) s s.heap) (hend : lw_End p l e s m below meth c b Q) (x : Nat) (g : Nat) (ca : Nat) (co : Nat) (ra : Nat) (rl : Nat) (tr : Nat) (f9 : Nat) (f10 : Nat) (f11 : Nat) (f12 : Nat) (f13 : Nat) (oo : Nat) (coo : ClassId) (f0 : Nat → Int64) (mo : Nat) (th : Int32) (m1 : Nat) (m2 : Nat) (m3 : Nat) (m4 : Nat) (m5 : Nat) (l1 : Nat) (l2 : Nat) (l3 : Nat) (l4 : Nat) (od : Nat)  {H : Heap} {locs : List Loc} {ls : Array Slot} (hl : lv_has ls 9 [(5, .int 0), (4, .ref od), (3, .ref oo), (2, .ref mo), (1, .ref x), (0, .ref b)]) (hP : va_P D vwCl [(x, .inr (13, [.ref g, .ref ca, .int 0, .ref co, .int 0, .ref ra, .int 0, .ref rl, .ref tr, .ref f9, .ref f10, .ref f11, .ref f12, .ref f13])), (oo, .inl (coo, 1, .inr (.inl f0))), (mo, .inr (16, [.int 5, .int 5, .int th, .ref m1, .ref m2, .ref m3, .ref m4, .ref m5, .ref l1, .ref l2, .ref l3, .int (-1), .ref l4])), (l3, .inr (5, [.int 1, .ref (D.1 1000), .int 0]))] H) (hD : va_D (lw_A s) [(x, .inr (13, [.ref g, .ref ca, .int 0, .ref co, .int 0, .ref ra, .int 0, .ref rl, .ref tr, .ref f9, .ref f10, .ref f11, .ref f12, .ref f13])), (oo, .inl (coo, 1, .inr (.inl f0))), (mo, .inr (16, [.int 5, .int 5, .int th, .ref m1, .ref m2, .ref m3, .ref m4, .ref m5, .ref l1, .ref l2, .ref l3, .int (-1), .ref l4])), (l3, .inr (5, [.int 1, .ref (D.1 1000), .int 0]))]) (hK : va_K D vwCl [(coo, .long)] s) (hS : va_S (lw_A s) s.heap H locs) : W p l e room_1 s m #[Value.ref b] below meth c H locs 167 55824 Q (F0 m 2390 ls []) := by
  have hA : ∀ q : Nat, s.heap.size ≤ q → lw_A s q := fun _ h => h
  have hbA : ¬ lw_A s b := Nat.not_le.mpr hbl
  refine lv_aload_n hx hb dL_law_2390 rfl (lv_at hl 4 rfl) ?_
  refine lv_aload_n hx hb dL_law_2391 rfl (lv_at hl 5 rfl) ?_
  refine lv_iload hx hb dL_law_2392 (lv_at hl 0 rfl) ?_
  refine lv_iconst (v := 1) hx hb dL_law_2394 (by decide) ?_
  refine lv_iadd hx hb dL_law_2395 ?_
  refine lv_topi (fun x1 e1 => ?_)
  obtain rfl : x1 = 1 := e1.trans (by decide)
  refine va_sld hx hb hX hbl hbA hS (vp_in_nI (n := 1) (by decide) (by decide)) dL_law_2396 ?_
  refine lv_topi (fun x2 e2 => ?_)
  obtain rfl : x2 = xs 1 := e2
  refine lv_aload_n hx hb dL_law_2397 rfl (lv_at hl 2 rfl) ?_
  refine mc_i (wr := [(mo, .inr (16, [.int 5, .int 5, .int th, .ref m1, .ref m2, .ref m3, .ref m4, .ref m5, .ref l1, .ref l2, .ref l3, .int (-1), .ref l4])), (l3, .inr (5, [.int 1, .ref (D.1 1000), .int 0]))]) (vx_runSW (As := [.ref x, .int (xs 1), .ref oo]) (rest := []) ⟨hx, hb, hml, hown, hts⟩ (c_Lpoints l hst D x g ca co ra rl tr f9 f10 f11 f12 f13 (xs 1) oo coo f0 H.size) (vx_cwSW 3 hts (gi_c mw_924 rfl (gi_c mw_925 rfl (gi_c mw_766 rfl (goodIn_sub il_c_Lpoints (List.all_eq_true.mpr gw_c_Lpoints))))) rfl rfl rfl (by decide +kernel) ⟨Nat.le_of_ble_eq_true rfl, Nat.le_of_ble_eq_true rfl⟩) (pr_S (As := [.ref x, .int (xs 1), .ref oo]) hP hD hK hS hA hE [0, 1] [0] rfl rfl rfl) rfl rfl hl.1 rfl (lv_room (Nat.le_of_ble_eq_true rfl)) dL_law_2398 ⟨Nat.le_of_ble_eq_true rfl, Nat.le_of_ble_eq_true rfl⟩) hP hD hK hS hA [0, 1] [2, 3] rfl rfl (by decide) (by decide) (fun r5 u3 H locs w4 hP hD hK hS => ?_)
  have hP : va_P D vwCl [(mo, .inr (16, [.int 5, .int 5, .int th, .ref m1, .ref m2, .ref m3, .ref m4, .ref m5, .ref l1, .ref l2, .ref l3, .int (-1), .ref l4])), (l3, .inr (5, [.int 1, .ref (D.1 1000), .int 0])), (oo, .inl (coo, 1, .inr (.inl u3)))] H := hP
  have hD : va_D (lw_A s) [(mo, .inr (16, [.int 5, .int 5, .int th, .ref m1, .ref m2, .ref m3, .ref m4, .ref m5, .ref l1, .ref l2, .ref l3, .int (-1), .ref l4])), (l3, .inr (5, [.int 1, .ref (D.1 1000), .int 0])), (oo, .inl (coo, 1, .inr (.inl u3)))] := hD
  have hK : va_K D vwCl [(coo, .long)] s := hK
  refine lv_istore (lv' := [(6, .int r5), (5, .int 0), (4, .ref od), (3, .ref oo), (2, .ref mo), (1, .ref x), (0, .ref b)]) hx hb dL_law_2401 hl (by decide) rfl (fun ls hl => ?_)
  refine lv_aload_n hx hb dL_law_2403 rfl (lv_at hl 4 rfl) ?_
  refine lv_aload_n hx hb dL_law_2404 rfl (lv_at hl 6 rfl) ?_
  refine lv_iload hx hb dL_law_2405 (lv_at hl 1 rfl) ?_
  refine lv_iconst (v := 1) hx hb dL_law_2407 (by decide) ?_
  refine lv_iadd hx hb dL_law_2408 ?_
  refine lv_topi (fun x6 e6 => ?_)
  obtain rfl : x6 = 1 := e6.trans (by decide)
  refine va_sld hx hb hX hbl hbA hS (vp_in_nI (n := 1) (by decide) (by decide)) dL_law_2409 ?_
  refine lv_topi (fun x7 e7 => ?_)
  obtain rfl : x7 = xs 1 := e7
  refine mc_i (wr := [(oo, .inl (coo, 1, .inr (.inl u3)))]) (va_runV (As := [.int (xs 1)]) (rest := []) ⟨hx, hb, hml, hown, hts⟩ (c_mpoints l hst D mo th m1 m2 m3 m4 m5 l1 l2 l3 l4 (xs 1) H.size) (cwV 1 hts (gi_c mw_926 rfl (gi_c mw_927 rfl (gi_c mw_928 rfl (gi_c mw_481 rfl (goodIn_sub il_c_mpoints (List.all_eq_true.mpr gw_c_mpoints)))))) rfl rfl rfl (by decide +kernel) ⟨Nat.le_of_ble_eq_true rfl, Nat.le_of_ble_eq_true rfl⟩) (pr_V (As := [.int (xs 1)]) (b := mo) (C := RX9) hP hD hK hS hA hE [0, 1] [] rfl rfl rfl 0 16 rfl rfl rfl) rfl rfl hl.1 rfl (lv_room (Nat.le_of_ble_eq_true rfl)) dL_law_2410 ⟨Nat.le_of_ble_eq_true rfl, Nat.le_of_ble_eq_true rfl⟩) hP hD hK hS hA [0, 1] [2] rfl rfl (by decide) (by decide) (fun r10 u8 H locs w9 hP hD hK hS => ?_)
  have hP : va_P D vwCl [(oo, .inl (coo, 1, .inr (.inl u3))), (mo, .inr (16, [.int (u8.2.2 0), .int (u8.2.2 1), .int u8.1, .ref (u8.2.1 0), .ref (u8.2.1 1), .ref (u8.2.1 2), .ref (u8.2.1 3), .ref (u8.2.1 4), .ref (u8.2.1 5), .ref (u8.2.1 6), .ref (u8.2.1 7), .int (u8.2.2 2), .ref (u8.2.1 8)]))] H := hP
  have hD : va_D (lw_A s) [(oo, .inl (coo, 1, .inr (.inl u3))), (mo, .inr (16, [.int (u8.2.2 0), .int (u8.2.2 1), .int u8.1, .ref (u8.2.1 0), .ref (u8.2.1 1), .ref (u8.2.1 2), .ref (u8.2.1 3), .ref (u8.2.1 4), .ref (u8.2.1 5), .ref (u8.2.1 6), .ref (u8.2.1 7), .int (u8.2.2 2), .ref (u8.2.1 8)]))] := hD
  have hK : va_K D vwCl [(coo, .long)] s := hK
  refine lv_istore (lv' := [(7, .int r10), (6, .int r5), (5, .int 0), (4, .ref od), (3, .ref oo), (2, .ref mo), (1, .ref x), (0, .ref b)]) hx hb dL_law_2413 hl (by decide) rfl (fun ls hl => ?_)
  refine lv_aload_n hx hb dL_law_2415 rfl (lv_at hl 5 rfl) ?_
  refine mc_i (wr := [(oo, .inl (coo, 1, .inr (.inl u3)))]) (va_runV (As := []) (rest := []) ⟨hx, hb, hml, hown, hts⟩ (c_thrown l hst D mo (u8.2.2 0) (u8.2.2 1) u8.1 (u8.2.1 0) (u8.2.1 1) (u8.2.1 2) (u8.2.1 3) (u8.2.1 4) (u8.2.1 5) (u8.2.1 6) (u8.2.1 7) (u8.2.2 2) (u8.2.1 8) H.size) (cwV 0 hts (gi_c mw_770 rfl (gi_c mw_771 rfl (gi_c mw_772 rfl (gi_c mw_481 rfl (goodIn_sub il_c_thrown (List.all_eq_true.mpr gw_c_thrown)))))) rfl rfl rfl (by decide +kernel) ⟨Nat.le_of_ble_eq_true rfl, Nat.le_of_ble_eq_true rfl⟩) (pr_V (As := []) (b := mo) (C := RX9) hP hD hK hS hA hE [1] [] rfl rfl rfl 1 16 rfl rfl rfl) rfl rfl hl.1 rfl (lv_room (Nat.le_of_ble_eq_true rfl)) dL_law_2416 ⟨Nat.le_of_ble_eq_true rfl, Nat.le_of_ble_eq_true rfl⟩) hP hD hK hS hA [1] [0] rfl rfl (by decide) (by decide) (fun r12 _ H locs w11 hP hD hK hS => ?_)
  have hP : va_P D vwCl [(oo, .inl (coo, 1, .inr (.inl u3))), (mo, .inr (16, [.int (u8.2.2 0), .int (u8.2.2 1), .int u8.1, .ref (u8.2.1 0), .ref (u8.2.1 1), .ref (u8.2.1 2), .ref (u8.2.1 3), .ref (u8.2.1 4), .ref (u8.2.1 5), .ref (u8.2.1 6), .ref (u8.2.1 7), .int (u8.2.2 2), .ref (u8.2.1 8)]))] H := hP
  have hD : va_D (lw_A s) [(oo, .inl (coo, 1, .inr (.inl u3))), (mo, .inr (16, [.int (u8.2.2 0), .int (u8.2.2 1), .int u8.1, .ref (u8.2.1 0), .ref (u8.2.1 1), .ref (u8.2.1 2), .ref (u8.2.1 3), .ref (u8.2.1 4), .ref (u8.2.1 5), .ref (u8.2.1 6), .ref (u8.2.1 7), .int (u8.2.2 2), .ref (u8.2.1 8)]))] := hD
  have hK : va_K D vwCl [(coo, .long)] s := hK
  obtain rfl : r12 = u8.1 := w11
  refine lv_iload hx hb dL_law_2419 (lv_at hl 1 rfl) ?_
  refine lv_icmp_eq (tgt := 2426) hx hb dL_law_2421 (by decide) (fun h13 => ?_) (fun h13 => absurd (by exact (w9).trans w4.1.symm) h13)
  refine lv_iload hx hb dL_law_2426 (lv_at hl 1 rfl) ?_
  refine lv_if_ne (tgt := 2443) hx hb dL_law_2428 (by decide) (fun h14 => ?_) (fun h14 => absurd h14 (by exact fun q9 => absurd (show (1 : Int32) = 0 from w4.1.symm.trans q9) (by decide)))
  refine lv_goto (tgt := 3320) hx hb dL_law_2443 (by decide) ?_
  refine W.widen (k := 600006) (n := 7302040) (Nat.le_of_ble_eq_true rfl) (Nat.le_of_ble_eq_true rfl) ?_
  exact hend _ _ _ (lv_sub hl [2, 7] rfl) hS

set_option maxHeartbeats 4000000 in
set_option maxRecDepth 100000 in
/-- case 32: team -/
theorem lc_32 (l : Launch) (hst : l.stackTraces = false) (D : va_G) {p : Program} {e : Env} {s : State} {m : MethodId} {below : List Frame} {meth : Method} {c : Code} {b : Nat} {xs : Nat → Int32} {Q : State → Prop} (hx : p.tables.exec = Jvm.exec) (hb : c.code = code) (hml : c.maxLocals = 9) (hown : s.vm.findClass RL = some m.cls) (hts : ∀ w ∈ lw_tbl, w.before #[Value.ref b] s = true) (hX : va_X b 5 xs s s.heap) (hbl : b < s.heap.size) (hE : ex_E D (lw_A s) s s.heap) (hend : lw_End p l e s m below meth c b Q) (x : Nat) (g : Nat) (ca : Nat) (co : Nat) (ra : Nat) (rl : Nat) (tr : Nat) (f9 : Nat) (f10 : Nat) (f11 : Nat) (f12 : Nat) (f13 : Nat) (oo : Nat) (coo : ClassId) (f0 : Nat → Int64) (mo : Nat) (th : Int32) (m1 : Nat) (m2 : Nat) (m3 : Nat) (m4 : Nat) (m5 : Nat) (l1 : Nat) (l2 : Nat) (l3 : Nat) (l4 : Nat) (od : Nat)  {H : Heap} {locs : List Loc} {ls : Array Slot} (hl : lv_has ls 9 [(5, .int 0), (4, .ref od), (3, .ref oo), (2, .ref mo), (1, .ref x), (0, .ref b)]) (hP : va_P D vwCl [(x, .inr (13, [.ref g, .ref ca, .int 0, .ref co, .int 0, .ref ra, .int 0, .ref rl, .ref tr, .ref f9, .ref f10, .ref f11, .ref f12, .ref f13])), (oo, .inl (coo, 1, .inr (.inl f0))), (mo, .inr (16, [.int 5, .int 5, .int th, .ref m1, .ref m2, .ref m3, .ref m4, .ref m5, .ref l1, .ref l2, .ref l3, .int (-1), .ref l4])), (l2, .inr (5, [.int 1, .ref (D.1 1000), .int 0]))] H) (hD : va_D (lw_A s) [(x, .inr (13, [.ref g, .ref ca, .int 0, .ref co, .int 0, .ref ra, .int 0, .ref rl, .ref tr, .ref f9, .ref f10, .ref f11, .ref f12, .ref f13])), (oo, .inl (coo, 1, .inr (.inl f0))), (mo, .inr (16, [.int 5, .int 5, .int th, .ref m1, .ref m2, .ref m3, .ref m4, .ref m5, .ref l1, .ref l2, .ref l3, .int (-1), .ref l4])), (l2, .inr (5, [.int 1, .ref (D.1 1000), .int 0]))]) (hK : va_K D vwCl [(coo, .long)] s) (hS : va_S (lw_A s) s.heap H locs) : W p l e room_1 s m #[Value.ref b] below meth c H locs 167 55824 Q (F0 m 2446 ls []) := by
  have hA : ∀ q : Nat, s.heap.size ≤ q → lw_A s q := fun _ h => h
  have hbA : ¬ lw_A s b := Nat.not_le.mpr hbl
  refine lv_aload_n hx hb dL_law_2446 rfl (lv_at hl 4 rfl) ?_
  refine lv_aload_n hx hb dL_law_2447 rfl (lv_at hl 5 rfl) ?_
  refine lv_iload hx hb dL_law_2448 (lv_at hl 0 rfl) ?_
  refine lv_iconst (v := 1) hx hb dL_law_2450 (by decide) ?_
  refine lv_iadd hx hb dL_law_2451 ?_
  refine lv_topi (fun x1 e1 => ?_)
  obtain rfl : x1 = 1 := e1.trans (by decide)
  refine va_sld hx hb hX hbl hbA hS (vp_in_nI (n := 1) (by decide) (by decide)) dL_law_2452 ?_
  refine lv_topi (fun x2 e2 => ?_)
  obtain rfl : x2 = xs 1 := e2
  refine lv_aload_n hx hb dL_law_2453 rfl (lv_at hl 5 rfl) ?_
  refine lv_iload hx hb dL_law_2454 (lv_at hl 0 rfl) ?_
  refine lv_iconst (v := 2) hx hb dL_law_2456 (by decide) ?_
  refine lv_iadd hx hb dL_law_2457 ?_
  refine lv_topi (fun x3 e3 => ?_)
  obtain rfl : x3 = 2 := e3.trans (by decide)
  refine va_sld hx hb hX hbl hbA hS (vp_in_nI (n := 2) (by decide) (by decide)) dL_law_2458 ?_
  refine lv_topi (fun x4 e4 => ?_)
  obtain rfl : x4 = xs 2 := e4
  refine lv_aload_n hx hb dL_law_2459 rfl (lv_at hl 2 rfl) ?_
  refine mc_i (wr := [(mo, .inr (16, [.int 5, .int 5, .int th, .ref m1, .ref m2, .ref m3, .ref m4, .ref m5, .ref l1, .ref l2, .ref l3, .int (-1), .ref l4])), (l2, .inr (5, [.int 1, .ref (D.1 1000), .int 0]))]) (vx_runSW (As := [.ref x, .int (xs 1), .int (xs 2), .ref oo]) (rest := []) ⟨hx, hb, hml, hown, hts⟩ (c_Lteam l hst D x g ca co ra rl tr f9 f10 f11 f12 f13 (xs 1) (xs 2) oo coo f0 H.size) (vx_cwSW 4 hts (gi_c mw_929 rfl (gi_c mw_930 rfl (gi_c mw_766 rfl (goodIn_sub il_c_Lteam (List.all_eq_true.mpr gw_c_Lteam))))) rfl rfl rfl (by decide +kernel) ⟨Nat.le_of_ble_eq_true rfl, Nat.le_of_ble_eq_true rfl⟩) (pr_S (As := [.ref x, .int (xs 1), .int (xs 2), .ref oo]) hP hD hK hS hA hE [0, 1] [0] rfl rfl rfl) rfl rfl hl.1 rfl (lv_room (Nat.le_of_ble_eq_true rfl)) dL_law_2460 ⟨Nat.le_of_ble_eq_true rfl, Nat.le_of_ble_eq_true rfl⟩) hP hD hK hS hA [0, 1] [2, 3] rfl rfl (by decide) (by decide) (fun r7 u5 H locs w6 hP hD hK hS => ?_)
  have hP : va_P D vwCl [(mo, .inr (16, [.int 5, .int 5, .int th, .ref m1, .ref m2, .ref m3, .ref m4, .ref m5, .ref l1, .ref l2, .ref l3, .int (-1), .ref l4])), (l2, .inr (5, [.int 1, .ref (D.1 1000), .int 0])), (oo, .inl (coo, 1, .inr (.inl u5)))] H := hP
  have hD : va_D (lw_A s) [(mo, .inr (16, [.int 5, .int 5, .int th, .ref m1, .ref m2, .ref m3, .ref m4, .ref m5, .ref l1, .ref l2, .ref l3, .int (-1), .ref l4])), (l2, .inr (5, [.int 1, .ref (D.1 1000), .int 0])), (oo, .inl (coo, 1, .inr (.inl u5)))] := hD
  have hK : va_K D vwCl [(coo, .long)] s := hK
  refine lv_istore (lv' := [(6, .int r7), (5, .int 0), (4, .ref od), (3, .ref oo), (2, .ref mo), (1, .ref x), (0, .ref b)]) hx hb dL_law_2463 hl (by decide) rfl (fun ls hl => ?_)
  refine lv_aload_n hx hb dL_law_2465 rfl (lv_at hl 4 rfl) ?_
  refine lv_aload_n hx hb dL_law_2466 rfl (lv_at hl 6 rfl) ?_
  refine lv_iload hx hb dL_law_2467 (lv_at hl 1 rfl) ?_
  refine lv_iconst (v := 1) hx hb dL_law_2469 (by decide) ?_
  refine lv_iadd hx hb dL_law_2470 ?_
  refine lv_topi (fun x8 e8 => ?_)
  obtain rfl : x8 = 1 := e8.trans (by decide)
  refine va_sld hx hb hX hbl hbA hS (vp_in_nI (n := 1) (by decide) (by decide)) dL_law_2471 ?_
  refine lv_topi (fun x9 e9 => ?_)
  obtain rfl : x9 = xs 1 := e9
  refine lv_aload_n hx hb dL_law_2472 rfl (lv_at hl 6 rfl) ?_
  refine lv_iload hx hb dL_law_2473 (lv_at hl 1 rfl) ?_
  refine lv_iconst (v := 2) hx hb dL_law_2475 (by decide) ?_
  refine lv_iadd hx hb dL_law_2476 ?_
  refine lv_topi (fun x10 e10 => ?_)
  obtain rfl : x10 = 2 := e10.trans (by decide)
  refine va_sld hx hb hX hbl hbA hS (vp_in_nI (n := 2) (by decide) (by decide)) dL_law_2477 ?_
  refine lv_topi (fun x11 e11 => ?_)
  obtain rfl : x11 = xs 2 := e11
  refine mc_i (wr := [(oo, .inl (coo, 1, .inr (.inl u5)))]) (va_runV (As := [.int (xs 1), .int (xs 2)]) (rest := []) ⟨hx, hb, hml, hown, hts⟩ (c_mteam l hst D mo th m1 m2 m3 m4 m5 l1 l2 l3 l4 (xs 1) (xs 2) H.size) (cwV 2 hts (gi_c mw_931 rfl (gi_c mw_932 rfl (gi_c mw_933 rfl (gi_c mw_481 rfl (goodIn_sub il_c_mteam (List.all_eq_true.mpr gw_c_mteam)))))) rfl rfl rfl (by decide +kernel) ⟨Nat.le_of_ble_eq_true rfl, Nat.le_of_ble_eq_true rfl⟩) (pr_V (As := [.int (xs 1), .int (xs 2)]) (b := mo) (C := RX9) hP hD hK hS hA hE [0, 1] [] rfl rfl rfl 0 16 rfl rfl rfl) rfl rfl hl.1 rfl (lv_room (Nat.le_of_ble_eq_true rfl)) dL_law_2478 ⟨Nat.le_of_ble_eq_true rfl, Nat.le_of_ble_eq_true rfl⟩) hP hD hK hS hA [0, 1] [2] rfl rfl (by decide) (by decide) (fun r14 u12 H locs w13 hP hD hK hS => ?_)
  have hP : va_P D vwCl [(oo, .inl (coo, 1, .inr (.inl u5))), (mo, .inr (16, [.int (u12.2.2 0), .int (u12.2.2 1), .int u12.1, .ref (u12.2.1 0), .ref (u12.2.1 1), .ref (u12.2.1 2), .ref (u12.2.1 3), .ref (u12.2.1 4), .ref (u12.2.1 5), .ref (u12.2.1 6), .ref (u12.2.1 7), .int (u12.2.2 2), .ref (u12.2.1 8)]))] H := hP
  have hD : va_D (lw_A s) [(oo, .inl (coo, 1, .inr (.inl u5))), (mo, .inr (16, [.int (u12.2.2 0), .int (u12.2.2 1), .int u12.1, .ref (u12.2.1 0), .ref (u12.2.1 1), .ref (u12.2.1 2), .ref (u12.2.1 3), .ref (u12.2.1 4), .ref (u12.2.1 5), .ref (u12.2.1 6), .ref (u12.2.1 7), .int (u12.2.2 2), .ref (u12.2.1 8)]))] := hD
  have hK : va_K D vwCl [(coo, .long)] s := hK
  refine lv_istore (lv' := [(7, .int r14), (6, .int r7), (5, .int 0), (4, .ref od), (3, .ref oo), (2, .ref mo), (1, .ref x), (0, .ref b)]) hx hb dL_law_2481 hl (by decide) rfl (fun ls hl => ?_)
  refine lv_aload_n hx hb dL_law_2483 rfl (lv_at hl 5 rfl) ?_
  refine mc_i (wr := [(oo, .inl (coo, 1, .inr (.inl u5)))]) (va_runV (As := []) (rest := []) ⟨hx, hb, hml, hown, hts⟩ (c_thrown l hst D mo (u12.2.2 0) (u12.2.2 1) u12.1 (u12.2.1 0) (u12.2.1 1) (u12.2.1 2) (u12.2.1 3) (u12.2.1 4) (u12.2.1 5) (u12.2.1 6) (u12.2.1 7) (u12.2.2 2) (u12.2.1 8) H.size) (cwV 0 hts (gi_c mw_770 rfl (gi_c mw_771 rfl (gi_c mw_772 rfl (gi_c mw_481 rfl (goodIn_sub il_c_thrown (List.all_eq_true.mpr gw_c_thrown)))))) rfl rfl rfl (by decide +kernel) ⟨Nat.le_of_ble_eq_true rfl, Nat.le_of_ble_eq_true rfl⟩) (pr_V (As := []) (b := mo) (C := RX9) hP hD hK hS hA hE [1] [] rfl rfl rfl 1 16 rfl rfl rfl) rfl rfl hl.1 rfl (lv_room (Nat.le_of_ble_eq_true rfl)) dL_law_2484 ⟨Nat.le_of_ble_eq_true rfl, Nat.le_of_ble_eq_true rfl⟩) hP hD hK hS hA [1] [0] rfl rfl (by decide) (by decide) (fun r16 _ H locs w15 hP hD hK hS => ?_)
  have hP : va_P D vwCl [(oo, .inl (coo, 1, .inr (.inl u5))), (mo, .inr (16, [.int (u12.2.2 0), .int (u12.2.2 1), .int u12.1, .ref (u12.2.1 0), .ref (u12.2.1 1), .ref (u12.2.1 2), .ref (u12.2.1 3), .ref (u12.2.1 4), .ref (u12.2.1 5), .ref (u12.2.1 6), .ref (u12.2.1 7), .int (u12.2.2 2), .ref (u12.2.1 8)]))] H := hP
  have hD : va_D (lw_A s) [(oo, .inl (coo, 1, .inr (.inl u5))), (mo, .inr (16, [.int (u12.2.2 0), .int (u12.2.2 1), .int u12.1, .ref (u12.2.1 0), .ref (u12.2.1 1), .ref (u12.2.1 2), .ref (u12.2.1 3), .ref (u12.2.1 4), .ref (u12.2.1 5), .ref (u12.2.1 6), .ref (u12.2.1 7), .int (u12.2.2 2), .ref (u12.2.1 8)]))] := hD
  have hK : va_K D vwCl [(coo, .long)] s := hK
  obtain rfl : r16 = u12.1 := w15
  refine lv_iload hx hb dL_law_2487 (lv_at hl 1 rfl) ?_
  refine lv_icmp_eq (tgt := 2494) hx hb dL_law_2489 (by decide) (fun h17 => ?_) (fun h17 => absurd (by exact (w13).trans w6.1.symm) h17)
  refine lv_iload hx hb dL_law_2494 (lv_at hl 1 rfl) ?_
  refine lv_if_ne (tgt := 2511) hx hb dL_law_2496 (by decide) (fun h18 => ?_) (fun h18 => absurd h18 (by exact fun q9 => absurd (show (1 : Int32) = 0 from w6.1.symm.trans q9) (by decide)))
  refine lv_goto (tgt := 3320) hx hb dL_law_2511 (by decide) ?_
  refine W.widen (k := 600006) (n := 7302040) (Nat.le_of_ble_eq_true rfl) (Nat.le_of_ble_eq_true rfl) ?_
  exact hend _ _ _ (lv_sub hl [2, 7] rfl) hS

set_option maxHeartbeats 4000000 in
set_option maxRecDepth 100000 in
/-- case 33: runs -/
theorem lc_33 (l : Launch) (hst : l.stackTraces = false) (D : va_G) {p : Program} {e : Env} {s : State} {m : MethodId} {below : List Frame} {meth : Method} {c : Code} {b : Nat} {xs : Nat → Int32} {Q : State → Prop} (hx : p.tables.exec = Jvm.exec) (hb : c.code = code) (hml : c.maxLocals = 9) (hown : s.vm.findClass RL = some m.cls) (hts : ∀ w ∈ lw_tbl, w.before #[Value.ref b] s = true) (hX : va_X b 5 xs s s.heap) (hbl : b < s.heap.size) (hE : ex_E D (lw_A s) s s.heap) (hend : lw_End p l e s m below meth c b Q) (x : Nat) (g : Nat) (ca : Nat) (co : Nat) (ra : Nat) (rl : Nat) (tr : Nat) (f9 : Nat) (f10 : Nat) (f11 : Nat) (f12 : Nat) (f13 : Nat) (re1 : Nat) (re2 : Nat) (re3 : Nat) (re4 : Nat) (oo : Nat) (coo : ClassId) (f0 : Nat → Int64) (mo : Nat) (th : Int32) (m1 : Nat) (m2 : Nat) (m3 : Nat) (m4 : Nat) (m5 : Nat) (l1 : Nat) (l2 : Nat) (l3 : Nat) (l4 : Nat) (od : Nat)  {H : Heap} {locs : List Loc} {ls : Array Slot} (hl : lv_has ls 9 [(5, .int 0), (4, .ref od), (3, .ref oo), (2, .ref mo), (1, .ref x), (0, .ref b)]) (hP : va_P D vwCl [(x, .inr (13, [.ref g, .ref ca, .int 0, .ref co, .int 0, .ref ra, .int 0, .ref rl, .ref tr, .ref f9, .ref f10, .ref f11, .ref f12, .ref f13])), (rl, .inr (9, [.int 0, .int 0, .ref re1, .ref re2, .ref re3, .ref re4])), (oo, .inl (coo, 1, .inr (.inl f0))), (mo, .inr (16, [.int 5, .int 5, .int th, .ref m1, .ref m2, .ref m3, .ref m4, .ref m5, .ref l1, .ref l2, .ref l3, .int (-1), .ref l4])), (l4, .inr (5, [.int 1, .ref (D.1 1000), .int 0]))] H) (hD : va_D (lw_A s) [(x, .inr (13, [.ref g, .ref ca, .int 0, .ref co, .int 0, .ref ra, .int 0, .ref rl, .ref tr, .ref f9, .ref f10, .ref f11, .ref f12, .ref f13])), (rl, .inr (9, [.int 0, .int 0, .ref re1, .ref re2, .ref re3, .ref re4])), (oo, .inl (coo, 1, .inr (.inl f0))), (mo, .inr (16, [.int 5, .int 5, .int th, .ref m1, .ref m2, .ref m3, .ref m4, .ref m5, .ref l1, .ref l2, .ref l3, .int (-1), .ref l4])), (l4, .inr (5, [.int 1, .ref (D.1 1000), .int 0]))]) (hK : va_K D vwCl [(coo, .long)] s) (hS : va_S (lw_A s) s.heap H locs) : W p l e room_1 s m #[Value.ref b] below meth c H locs 167 55824 Q (F0 m 2514 ls []) := by
  have hA : ∀ q : Nat, s.heap.size ≤ q → lw_A s q := fun _ h => h
  have hbA : ¬ lw_A s b := Nat.not_le.mpr hbl
  refine lv_aload_n hx hb dL_law_2514 rfl (lv_at hl 4 rfl) ?_
  refine lv_aload_n hx hb dL_law_2515 rfl (lv_at hl 5 rfl) ?_
  refine lv_iload hx hb dL_law_2516 (lv_at hl 0 rfl) ?_
  refine lv_iconst (v := 1) hx hb dL_law_2518 (by decide) ?_
  refine lv_iadd hx hb dL_law_2519 ?_
  refine lv_topi (fun x1 e1 => ?_)
  obtain rfl : x1 = 1 := e1.trans (by decide)
  refine va_sld hx hb hX hbl hbA hS (vp_in_nI (n := 1) (by decide) (by decide)) dL_law_2520 ?_
  refine lv_topi (fun x2 e2 => ?_)
  obtain rfl : x2 = xs 1 := e2
  refine lv_aload_n hx hb dL_law_2521 rfl (lv_at hl 5 rfl) ?_
  refine lv_iload hx hb dL_law_2522 (lv_at hl 0 rfl) ?_
  refine lv_iconst (v := 2) hx hb dL_law_2524 (by decide) ?_
  refine lv_iadd hx hb dL_law_2525 ?_
  refine lv_topi (fun x3 e3 => ?_)
  obtain rfl : x3 = 2 := e3.trans (by decide)
  refine va_sld hx hb hX hbl hbA hS (vp_in_nI (n := 2) (by decide) (by decide)) dL_law_2526 ?_
  refine lv_topi (fun x4 e4 => ?_)
  obtain rfl : x4 = xs 2 := e4
  refine lv_aload_n hx hb dL_law_2527 rfl (lv_at hl 5 rfl) ?_
  refine lv_iload hx hb dL_law_2528 (lv_at hl 0 rfl) ?_
  refine lv_iconst (v := 3) hx hb dL_law_2530 (by decide) ?_
  refine lv_iadd hx hb dL_law_2531 ?_
  refine lv_topi (fun x5 e5 => ?_)
  obtain rfl : x5 = 3 := e5.trans (by decide)
  refine va_sld hx hb hX hbl hbA hS (vp_in_nI (n := 3) (by decide) (by decide)) dL_law_2532 ?_
  refine lv_topi (fun x6 e6 => ?_)
  obtain rfl : x6 = xs 3 := e6
  refine lv_aload_n hx hb dL_law_2533 rfl (lv_at hl 2 rfl) ?_
  refine mc_i (wr := [(mo, .inr (16, [.int 5, .int 5, .int th, .ref m1, .ref m2, .ref m3, .ref m4, .ref m5, .ref l1, .ref l2, .ref l3, .int (-1), .ref l4])), (l4, .inr (5, [.int 1, .ref (D.1 1000), .int 0]))]) (vx_runSW (As := [.ref x, .int (xs 1), .int (xs 2), .int (xs 3), .ref oo]) (rest := []) ⟨hx, hb, hml, hown, hts⟩ (c_Lruns l hst D x g ca co ra rl tr f9 f10 f11 f12 f13 re1 re2 re3 re4 (xs 1) (xs 2) (xs 3) oo coo f0 H.size) (vx_cwSW 5 hts (gi_c mw_934 rfl (gi_c mw_935 rfl (gi_c mw_766 rfl (goodIn_sub il_c_Lruns (List.all_eq_true.mpr gw_c_Lruns))))) rfl rfl rfl (by decide +kernel) ⟨Nat.le_of_ble_eq_true rfl, Nat.le_of_ble_eq_true rfl⟩) (pr_S (As := [.ref x, .int (xs 1), .int (xs 2), .int (xs 3), .ref oo]) hP hD hK hS hA hE [0, 1, 2] [0] rfl rfl rfl) rfl rfl hl.1 rfl (lv_room (Nat.le_of_ble_eq_true rfl)) dL_law_2534 ⟨Nat.le_of_ble_eq_true rfl, Nat.le_of_ble_eq_true rfl⟩) hP hD hK hS hA [0, 1, 2] [3, 4] rfl rfl (by decide) (by decide) (fun r9 u7 H locs w8 hP hD hK hS => ?_)
  have hP : va_P D vwCl [(mo, .inr (16, [.int 5, .int 5, .int th, .ref m1, .ref m2, .ref m3, .ref m4, .ref m5, .ref l1, .ref l2, .ref l3, .int (-1), .ref l4])), (l4, .inr (5, [.int 1, .ref (D.1 1000), .int 0])), (oo, .inl (coo, 1, .inr (.inl u7)))] H := hP
  have hD : va_D (lw_A s) [(mo, .inr (16, [.int 5, .int 5, .int th, .ref m1, .ref m2, .ref m3, .ref m4, .ref m5, .ref l1, .ref l2, .ref l3, .int (-1), .ref l4])), (l4, .inr (5, [.int 1, .ref (D.1 1000), .int 0])), (oo, .inl (coo, 1, .inr (.inl u7)))] := hD
  have hK : va_K D vwCl [(coo, .long)] s := hK
  refine lv_istore (lv' := [(6, .int r9), (5, .int 0), (4, .ref od), (3, .ref oo), (2, .ref mo), (1, .ref x), (0, .ref b)]) hx hb dL_law_2537 hl (by decide) rfl (fun ls hl => ?_)
  refine lv_aload_n hx hb dL_law_2539 rfl (lv_at hl 4 rfl) ?_
  refine lv_aload_n hx hb dL_law_2540 rfl (lv_at hl 6 rfl) ?_
  refine lv_iload hx hb dL_law_2541 (lv_at hl 1 rfl) ?_
  refine lv_iconst (v := 1) hx hb dL_law_2543 (by decide) ?_
  refine lv_iadd hx hb dL_law_2544 ?_
  refine lv_topi (fun x10 e10 => ?_)
  obtain rfl : x10 = 1 := e10.trans (by decide)
  refine va_sld hx hb hX hbl hbA hS (vp_in_nI (n := 1) (by decide) (by decide)) dL_law_2545 ?_
  refine lv_topi (fun x11 e11 => ?_)
  obtain rfl : x11 = xs 1 := e11
  refine lv_aload_n hx hb dL_law_2546 rfl (lv_at hl 6 rfl) ?_
  refine lv_iload hx hb dL_law_2547 (lv_at hl 1 rfl) ?_
  refine lv_iconst (v := 2) hx hb dL_law_2549 (by decide) ?_
  refine lv_iadd hx hb dL_law_2550 ?_
  refine lv_topi (fun x12 e12 => ?_)
  obtain rfl : x12 = 2 := e12.trans (by decide)
  refine va_sld hx hb hX hbl hbA hS (vp_in_nI (n := 2) (by decide) (by decide)) dL_law_2551 ?_
  refine lv_topi (fun x13 e13 => ?_)
  obtain rfl : x13 = xs 2 := e13
  refine lv_aload_n hx hb dL_law_2552 rfl (lv_at hl 6 rfl) ?_
  refine lv_iload hx hb dL_law_2553 (lv_at hl 1 rfl) ?_
  refine lv_iconst (v := 3) hx hb dL_law_2555 (by decide) ?_
  refine lv_iadd hx hb dL_law_2556 ?_
  refine lv_topi (fun x14 e14 => ?_)
  obtain rfl : x14 = 3 := e14.trans (by decide)
  refine va_sld hx hb hX hbl hbA hS (vp_in_nI (n := 3) (by decide) (by decide)) dL_law_2557 ?_
  refine lv_topi (fun x15 e15 => ?_)
  obtain rfl : x15 = xs 3 := e15
  refine mc_i (wr := [(oo, .inl (coo, 1, .inr (.inl u7)))]) (va_runV (As := [.int (xs 1), .int (xs 2), .int (xs 3)]) (rest := []) ⟨hx, hb, hml, hown, hts⟩ (c_mruns l hst D mo th m1 m2 m3 m4 m5 l1 l2 l3 l4 (xs 1) (xs 2) (xs 3) H.size) (cwV 3 hts (gi_c mw_936 rfl (gi_c mw_937 rfl (gi_c mw_938 rfl (gi_c mw_481 rfl (goodIn_sub il_c_mruns (List.all_eq_true.mpr gw_c_mruns)))))) rfl rfl rfl (by decide +kernel) ⟨Nat.le_of_ble_eq_true rfl, Nat.le_of_ble_eq_true rfl⟩) (pr_V (As := [.int (xs 1), .int (xs 2), .int (xs 3)]) (b := mo) (C := RX9) hP hD hK hS hA hE [0, 1] [] rfl rfl rfl 0 16 rfl rfl rfl) rfl rfl hl.1 rfl (lv_room (Nat.le_of_ble_eq_true rfl)) dL_law_2558 ⟨Nat.le_of_ble_eq_true rfl, Nat.le_of_ble_eq_true rfl⟩) hP hD hK hS hA [0, 1] [2] rfl rfl (by decide) (by decide) (fun r18 u16 H locs w17 hP hD hK hS => ?_)
  have hP : va_P D vwCl [(oo, .inl (coo, 1, .inr (.inl u7))), (mo, .inr (16, [.int (u16.2.2 0), .int (u16.2.2 1), .int u16.1, .ref (u16.2.1 0), .ref (u16.2.1 1), .ref (u16.2.1 2), .ref (u16.2.1 3), .ref (u16.2.1 4), .ref (u16.2.1 5), .ref (u16.2.1 6), .ref (u16.2.1 7), .int (u16.2.2 2), .ref (u16.2.1 8)]))] H := hP
  have hD : va_D (lw_A s) [(oo, .inl (coo, 1, .inr (.inl u7))), (mo, .inr (16, [.int (u16.2.2 0), .int (u16.2.2 1), .int u16.1, .ref (u16.2.1 0), .ref (u16.2.1 1), .ref (u16.2.1 2), .ref (u16.2.1 3), .ref (u16.2.1 4), .ref (u16.2.1 5), .ref (u16.2.1 6), .ref (u16.2.1 7), .int (u16.2.2 2), .ref (u16.2.1 8)]))] := hD
  have hK : va_K D vwCl [(coo, .long)] s := hK
  refine lv_istore (lv' := [(7, .int r18), (6, .int r9), (5, .int 0), (4, .ref od), (3, .ref oo), (2, .ref mo), (1, .ref x), (0, .ref b)]) hx hb dL_law_2561 hl (by decide) rfl (fun ls hl => ?_)
  refine lv_aload_n hx hb dL_law_2563 rfl (lv_at hl 5 rfl) ?_
  refine mc_i (wr := [(oo, .inl (coo, 1, .inr (.inl u7)))]) (va_runV (As := []) (rest := []) ⟨hx, hb, hml, hown, hts⟩ (c_thrown l hst D mo (u16.2.2 0) (u16.2.2 1) u16.1 (u16.2.1 0) (u16.2.1 1) (u16.2.1 2) (u16.2.1 3) (u16.2.1 4) (u16.2.1 5) (u16.2.1 6) (u16.2.1 7) (u16.2.2 2) (u16.2.1 8) H.size) (cwV 0 hts (gi_c mw_770 rfl (gi_c mw_771 rfl (gi_c mw_772 rfl (gi_c mw_481 rfl (goodIn_sub il_c_thrown (List.all_eq_true.mpr gw_c_thrown)))))) rfl rfl rfl (by decide +kernel) ⟨Nat.le_of_ble_eq_true rfl, Nat.le_of_ble_eq_true rfl⟩) (pr_V (As := []) (b := mo) (C := RX9) hP hD hK hS hA hE [1] [] rfl rfl rfl 1 16 rfl rfl rfl) rfl rfl hl.1 rfl (lv_room (Nat.le_of_ble_eq_true rfl)) dL_law_2564 ⟨Nat.le_of_ble_eq_true rfl, Nat.le_of_ble_eq_true rfl⟩) hP hD hK hS hA [1] [0] rfl rfl (by decide) (by decide) (fun r20 _ H locs w19 hP hD hK hS => ?_)
  have hP : va_P D vwCl [(oo, .inl (coo, 1, .inr (.inl u7))), (mo, .inr (16, [.int (u16.2.2 0), .int (u16.2.2 1), .int u16.1, .ref (u16.2.1 0), .ref (u16.2.1 1), .ref (u16.2.1 2), .ref (u16.2.1 3), .ref (u16.2.1 4), .ref (u16.2.1 5), .ref (u16.2.1 6), .ref (u16.2.1 7), .int (u16.2.2 2), .ref (u16.2.1 8)]))] H := hP
  have hD : va_D (lw_A s) [(oo, .inl (coo, 1, .inr (.inl u7))), (mo, .inr (16, [.int (u16.2.2 0), .int (u16.2.2 1), .int u16.1, .ref (u16.2.1 0), .ref (u16.2.1 1), .ref (u16.2.1 2), .ref (u16.2.1 3), .ref (u16.2.1 4), .ref (u16.2.1 5), .ref (u16.2.1 6), .ref (u16.2.1 7), .int (u16.2.2 2), .ref (u16.2.1 8)]))] := hD
  have hK : va_K D vwCl [(coo, .long)] s := hK
  obtain rfl : r20 = u16.1 := w19
  refine lv_iload hx hb dL_law_2567 (lv_at hl 1 rfl) ?_
  refine lv_icmp_eq (tgt := 2574) hx hb dL_law_2569 (by decide) (fun h21 => ?_) (fun h21 => absurd (by exact (w17).trans w8.1.symm) h21)
  refine lv_iload hx hb dL_law_2574 (lv_at hl 1 rfl) ?_
  refine lv_if_ne (tgt := 2591) hx hb dL_law_2576 (by decide) (fun h22 => ?_) (fun h22 => absurd h22 (by exact fun q9 => absurd (show (1 : Int32) = 0 from w8.1.symm.trans q9) (by decide)))
  refine lv_goto (tgt := 3320) hx hb dL_law_2591 (by decide) ?_
  refine W.widen (k := 600006) (n := 7302040) (Nat.le_of_ble_eq_true rfl) (Nat.le_of_ble_eq_true rfl) ?_
  exact hend _ _ _ (lv_sub hl [2, 7] rfl) hS

set_option maxHeartbeats 4000000 in
set_option maxRecDepth 100000 in
/-- case 34: isFair -/
theorem lc_34 (l : Launch) (hst : l.stackTraces = false) (D : va_G) {p : Program} {e : Env} {s : State} {m : MethodId} {below : List Frame} {meth : Method} {c : Code} {b : Nat} {xs : Nat → Int32} {Q : State → Prop} (hx : p.tables.exec = Jvm.exec) (hb : c.code = code) (hml : c.maxLocals = 9) (hown : s.vm.findClass RL = some m.cls) (hts : ∀ w ∈ lw_tbl, w.before #[Value.ref b] s = true) (hX : va_X b 5 xs s s.heap) (hbl : b < s.heap.size) (hE : ex_E D (lw_A s) s s.heap) (hend : lw_End p l e s m below meth c b Q) (x : Nat) (g : Nat) (ca : Nat) (co : Nat) (ra : Nat) (rl : Nat) (tr : Nat) (f9 : Nat) (f10 : Nat) (f11 : Nat) (f12 : Nat) (f13 : Nat) (re1 : Nat) (re2 : Nat) (re3 : Nat) (re4 : Nat) (mo : Nat) (th : Int32) (m1 : Nat) (m2 : Nat) (m3 : Nat) (m4 : Nat) (m5 : Nat) (l1 : Nat) (l2 : Nat) (l3 : Nat) (l4 : Nat) (oo : Nat) (od : Nat)  {H : Heap} {locs : List Loc} {ls : Array Slot} (hl : lv_has ls 9 [(5, .int 0), (4, .ref od), (3, .ref oo), (2, .ref mo), (1, .ref x), (0, .ref b)]) (hP : va_P D vwCl [(x, .inr (13, [.ref g, .ref ca, .int 0, .ref co, .int 0, .ref ra, .int 0, .ref rl, .ref tr, .ref f9, .ref f10, .ref f11, .ref f12, .ref f13])), (rl, .inr (9, [.int 0, .int 0, .ref re1, .ref re2, .ref re3, .ref re4])), (mo, .inr (16, [.int 5, .int 5, .int th, .ref m1, .ref m2, .ref m3, .ref m4, .ref m5, .ref l1, .ref l2, .ref l3, .int (-1), .ref l4])), (l4, .inr (5, [.int 1, .ref (D.1 1000), .int 0]))] H) (hD : va_D (lw_A s) [(x, .inr (13, [.ref g, .ref ca, .int 0, .ref co, .int 0, .ref ra, .int 0, .ref rl, .ref tr, .ref f9, .ref f10, .ref f11, .ref f12, .ref f13])), (rl, .inr (9, [.int 0, .int 0, .ref re1, .ref re2, .ref re3, .ref re4])), (mo, .inr (16, [.int 5, .int 5, .int th, .ref m1, .ref m2, .ref m3, .ref m4, .ref m5, .ref l1, .ref l2, .ref l3, .int (-1), .ref l4])), (l4, .inr (5, [.int 1, .ref (D.1 1000), .int 0]))]) (hK : va_K D vwCl [] s) (hS : va_S (lw_A s) s.heap H locs) : W p l e room_1 s m #[Value.ref b] below meth c H locs 167 55824 Q (F0 m 2594 ls []) := by
  have hA : ∀ q : Nat, s.heap.size ≤ q → lw_A s q := fun _ h => h
  have hbA : ¬ lw_A s b := Nat.not_le.mpr hbl
  refine lv_aload_n hx hb dL_law_2594 rfl (lv_at hl 4 rfl) ?_
  refine mc_i (wr := [(mo, .inr (16, [.int 5, .int 5, .int th, .ref m1, .ref m2, .ref m3, .ref m4, .ref m5, .ref l1, .ref l2, .ref l3, .int (-1), .ref l4])), (l4, .inr (5, [.int 1, .ref (D.1 1000), .int 0]))]) (va_runV (As := []) (rest := []) ⟨hx, hb, hml, hown, hts⟩ (c_isFair l hst D x g ca co ra rl tr f9 f10 f11 f12 f13 re1 re2 re3 re4 H.size) (cwV 0 hts (gi_c mw_939 rfl (gi_c mw_940 rfl (gi_c mw_941 rfl (gi_c mw_7 rfl (goodIn_sub il_c_isFair (List.all_eq_true.mpr gw_c_isFair)))))) rfl rfl rfl (by decide +kernel) ⟨Nat.le_of_ble_eq_true rfl, Nat.le_of_ble_eq_true rfl⟩) (pr_V (As := []) (b := x) (C := RX6) hP hD hK hS hA hE [0, 1] [] rfl rfl rfl 0 13 rfl rfl rfl) rfl rfl hl.1 rfl (lv_room (Nat.le_of_ble_eq_true rfl)) dL_law_2595 ⟨Nat.le_of_ble_eq_true rfl, Nat.le_of_ble_eq_true rfl⟩) hP hD hK hS hA [0, 1] [2, 3] rfl rfl (by decide) (by decide) (fun r2 _ H locs w1 hP hD hK hS => ?_)
  have hP : va_P D vwCl [(mo, .inr (16, [.int 5, .int 5, .int th, .ref m1, .ref m2, .ref m3, .ref m4, .ref m5, .ref l1, .ref l2, .ref l3, .int (-1), .ref l4])), (l4, .inr (5, [.int 1, .ref (D.1 1000), .int 0]))] H := hP
  have hD : va_D (lw_A s) [(mo, .inr (16, [.int 5, .int 5, .int th, .ref m1, .ref m2, .ref m3, .ref m4, .ref m5, .ref l1, .ref l2, .ref l3, .int (-1), .ref l4])), (l4, .inr (5, [.int 1, .ref (D.1 1000), .int 0]))] := hD
  have hK : va_K D vwCl [] s := hK
  obtain rfl := w1
  refine lv_aload_n hx hb dL_law_2598 rfl (lv_at hl 3 rfl) ?_
  refine mc_i (wr := []) (va_runV (As := []) (rest := [.int 1]) ⟨hx, hb, hml, hown, hts⟩ (c_misFair l hst D mo th m1 m2 m3 m4 m5 l1 l2 l3 l4 H.size) (cwV 0 hts (gi_c mw_942 rfl (gi_c mw_943 rfl (gi_c mw_944 rfl (gi_c mw_481 rfl (goodIn_sub il_c_misFair (List.all_eq_true.mpr gw_c_misFair)))))) rfl rfl rfl (by decide +kernel) ⟨Nat.le_of_ble_eq_true rfl, Nat.le_of_ble_eq_true rfl⟩) (pr_V (As := []) (b := mo) (C := RX9) hP hD hK hS hA hE [0, 1] [] rfl rfl rfl 0 16 rfl rfl rfl) rfl rfl hl.1 rfl (lv_room (Nat.le_of_ble_eq_true rfl)) dL_law_2599 ⟨Nat.le_of_ble_eq_true rfl, Nat.le_of_ble_eq_true rfl⟩) hP hD hK hS hA [0, 1] [] rfl rfl (by decide) (by decide) (fun r4 _ H locs w3 hP hD hK hS => ?_)
  have hP : va_P D vwCl [] H := hP
  have hD : va_D (lw_A s) [] := hD
  have hK : va_K D vwCl [] s := hK
  obtain rfl := w3
  refine lv_icmp_eq (tgt := 3320) hx hb dL_law_2602 (by decide) (fun h5 => ?_) (fun h5 => absurd (by rfl) h5)
  refine W.widen (k := 600006) (n := 7302040) (Nat.le_of_ble_eq_true rfl) (Nat.le_of_ble_eq_true rfl) ?_
  exact hend _ _ _ (lv_sub hl [0, 5] rfl) hS

set_option maxHeartbeats 4000000 in
set_option maxRecDepth 100000 in
/-- case 35: fairWays -/
theorem lc_35 (l : Launch) (hst : l.stackTraces = false) (D : va_G) {p : Program} {e : Env} {s : State} {m : MethodId} {below : List Frame} {meth : Method} {c : Code} {b : Nat} {xs : Nat → Int32} {Q : State → Prop} (hx : p.tables.exec = Jvm.exec) (hb : c.code = code) (hml : c.maxLocals = 9) (hown : s.vm.findClass RL = some m.cls) (hts : ∀ w ∈ lw_tbl, w.before #[Value.ref b] s = true) (hX : va_X b 5 xs s s.heap) (hbl : b < s.heap.size) (hE : ex_E D (lw_A s) s s.heap) (hend : lw_End p l e s m below meth c b Q) (x : Nat) (g : Nat) (ca : Nat) (co : Nat) (ra : Nat) (rl : Nat) (tr : Nat) (f9 : Nat) (f10 : Nat) (f11 : Nat) (f12 : Nat) (f13 : Nat) (re1 : Nat) (re2 : Nat) (re3 : Nat) (re4 : Nat) (oo : Nat) (coo : ClassId) (f0 : Nat → Int64) (mo : Nat) (th : Int32) (m1 : Nat) (m2 : Nat) (m3 : Nat) (m4 : Nat) (m5 : Nat) (l1 : Nat) (l2 : Nat) (l3 : Nat) (l4 : Nat) (od : Nat)  {H : Heap} {locs : List Loc} {ls : Array Slot} (hl : lv_has ls 9 [(5, .int 0), (4, .ref od), (3, .ref oo), (2, .ref mo), (1, .ref x), (0, .ref b)]) (hP : va_P D vwCl [(x, .inr (13, [.ref g, .ref ca, .int 0, .ref co, .int 0, .ref ra, .int 0, .ref rl, .ref tr, .ref f9, .ref f10, .ref f11, .ref f12, .ref f13])), (rl, .inr (9, [.int 0, .int 0, .ref re1, .ref re2, .ref re3, .ref re4])), (oo, .inl (coo, 1, .inr (.inl f0))), (mo, .inr (16, [.int 5, .int 5, .int th, .ref m1, .ref m2, .ref m3, .ref m4, .ref m5, .ref l1, .ref l2, .ref l3, .int (-1), .ref l4])), (l4, .inr (5, [.int 1, .ref (D.1 1000), .int 0]))] H) (hD : va_D (lw_A s) [(x, .inr (13, [.ref g, .ref ca, .int 0, .ref co, .int 0, .ref ra, .int 0, .ref rl, .ref tr, .ref f9, .ref f10, .ref f11, .ref f12, .ref f13])), (rl, .inr (9, [.int 0, .int 0, .ref re1, .ref re2, .ref re3, .ref re4])), (oo, .inl (coo, 1, .inr (.inl f0))), (mo, .inr (16, [.int 5, .int 5, .int th, .ref m1, .ref m2, .ref m3, .ref m4, .ref m5, .ref l1, .ref l2, .ref l3, .int (-1), .ref l4])), (l4, .inr (5, [.int 1, .ref (D.1 1000), .int 0]))]) (hK : va_K D vwCl [(coo, .long)] s) (hS : va_S (lw_A s) s.heap H locs) : W p l e room_1 s m #[Value.ref b] below meth c H locs 167 55824 Q (F0 m 2607 ls []) := by
  have hA : ∀ q : Nat, s.heap.size ≤ q → lw_A s q := fun _ h => h
  have hbA : ¬ lw_A s b := Nat.not_le.mpr hbl
  refine lv_aload_n hx hb dL_law_2607 rfl (lv_at hl 4 rfl) ?_
  refine lv_aload_n hx hb dL_law_2608 rfl (lv_at hl 2 rfl) ?_
  refine mc_i (wr := [(mo, .inr (16, [.int 5, .int 5, .int th, .ref m1, .ref m2, .ref m3, .ref m4, .ref m5, .ref l1, .ref l2, .ref l3, .int (-1), .ref l4])), (l4, .inr (5, [.int 1, .ref (D.1 1000), .int 0]))]) (vx_runSW (As := [.ref x, .ref oo]) (rest := []) ⟨hx, hb, hml, hown, hts⟩ (c_LfairWays l hst D x g ca co ra rl tr f9 f10 f11 f12 f13 re1 re2 re3 re4 oo coo f0 H.size) (vx_cwSW 2 hts (gi_c mw_945 rfl (gi_c mw_946 rfl (gi_c mw_766 rfl (goodIn_sub il_c_LfairWays (List.all_eq_true.mpr gw_c_LfairWays))))) rfl rfl rfl (by decide +kernel) ⟨Nat.le_of_ble_eq_true rfl, Nat.le_of_ble_eq_true rfl⟩) (pr_S (As := [.ref x, .ref oo]) hP hD hK hS hA hE [0, 1, 2] [0] rfl rfl rfl) rfl rfl hl.1 rfl (lv_room (Nat.le_of_ble_eq_true rfl)) dL_law_2609 ⟨Nat.le_of_ble_eq_true rfl, Nat.le_of_ble_eq_true rfl⟩) hP hD hK hS hA [0, 1, 2] [3, 4] rfl rfl (by decide) (by decide) (fun r3 u1 H locs w2 hP hD hK hS => ?_)
  have hP : va_P D vwCl [(mo, .inr (16, [.int 5, .int 5, .int th, .ref m1, .ref m2, .ref m3, .ref m4, .ref m5, .ref l1, .ref l2, .ref l3, .int (-1), .ref l4])), (l4, .inr (5, [.int 1, .ref (D.1 1000), .int 0])), (oo, .inl (coo, 1, .inr (.inl u1)))] H := hP
  have hD : va_D (lw_A s) [(mo, .inr (16, [.int 5, .int 5, .int th, .ref m1, .ref m2, .ref m3, .ref m4, .ref m5, .ref l1, .ref l2, .ref l3, .int (-1), .ref l4])), (l4, .inr (5, [.int 1, .ref (D.1 1000), .int 0])), (oo, .inl (coo, 1, .inr (.inl u1)))] := hD
  have hK : va_K D vwCl [(coo, .long)] s := hK
  refine lv_istore (lv' := [(6, .int r3), (5, .int 0), (4, .ref od), (3, .ref oo), (2, .ref mo), (1, .ref x), (0, .ref b)]) hx hb dL_law_2612 hl (by decide) rfl (fun ls hl => ?_)
  refine lv_aload_n hx hb dL_law_2614 rfl (lv_at hl 4 rfl) ?_
  refine mc_i (wr := [(oo, .inl (coo, 1, .inr (.inl u1)))]) (va_runV (As := []) (rest := []) ⟨hx, hb, hml, hown, hts⟩ (c_mfairWays l hst D mo th m1 m2 m3 m4 m5 l1 l2 l3 l4 H.size) (cwV 0 hts (gi_c mw_947 rfl (gi_c mw_948 rfl (gi_c mw_949 rfl (gi_c mw_481 rfl (goodIn_sub il_c_mfairWays (List.all_eq_true.mpr gw_c_mfairWays)))))) rfl rfl rfl (by decide +kernel) ⟨Nat.le_of_ble_eq_true rfl, Nat.le_of_ble_eq_true rfl⟩) (pr_V (As := []) (b := mo) (C := RX9) hP hD hK hS hA hE [0, 1] [] rfl rfl rfl 0 16 rfl rfl rfl) rfl rfl hl.1 rfl (lv_room (Nat.le_of_ble_eq_true rfl)) dL_law_2615 ⟨Nat.le_of_ble_eq_true rfl, Nat.le_of_ble_eq_true rfl⟩) hP hD hK hS hA [0, 1] [2] rfl rfl (by decide) (by decide) (fun r6 u4 H locs w5 hP hD hK hS => ?_)
  have hP : va_P D vwCl [(oo, .inl (coo, 1, .inr (.inl u1))), (mo, .inr (16, [.int (u4.2.2 0), .int (u4.2.2 1), .int u4.1, .ref (u4.2.1 0), .ref (u4.2.1 1), .ref (u4.2.1 2), .ref (u4.2.1 3), .ref (u4.2.1 4), .ref (u4.2.1 5), .ref (u4.2.1 6), .ref (u4.2.1 7), .int (u4.2.2 2), .ref (u4.2.1 8)]))] H := hP
  have hD : va_D (lw_A s) [(oo, .inl (coo, 1, .inr (.inl u1))), (mo, .inr (16, [.int (u4.2.2 0), .int (u4.2.2 1), .int u4.1, .ref (u4.2.1 0), .ref (u4.2.1 1), .ref (u4.2.1 2), .ref (u4.2.1 3), .ref (u4.2.1 4), .ref (u4.2.1 5), .ref (u4.2.1 6), .ref (u4.2.1 7), .int (u4.2.2 2), .ref (u4.2.1 8)]))] := hD
  have hK : va_K D vwCl [(coo, .long)] s := hK
  refine lv_istore (lv' := [(7, .int r6), (6, .int r3), (5, .int 0), (4, .ref od), (3, .ref oo), (2, .ref mo), (1, .ref x), (0, .ref b)]) hx hb dL_law_2618 hl (by decide) rfl (fun ls hl => ?_)
  refine lv_aload_n hx hb dL_law_2620 rfl (lv_at hl 5 rfl) ?_
  refine mc_i (wr := [(oo, .inl (coo, 1, .inr (.inl u1)))]) (va_runV (As := []) (rest := []) ⟨hx, hb, hml, hown, hts⟩ (c_thrown l hst D mo (u4.2.2 0) (u4.2.2 1) u4.1 (u4.2.1 0) (u4.2.1 1) (u4.2.1 2) (u4.2.1 3) (u4.2.1 4) (u4.2.1 5) (u4.2.1 6) (u4.2.1 7) (u4.2.2 2) (u4.2.1 8) H.size) (cwV 0 hts (gi_c mw_770 rfl (gi_c mw_771 rfl (gi_c mw_772 rfl (gi_c mw_481 rfl (goodIn_sub il_c_thrown (List.all_eq_true.mpr gw_c_thrown)))))) rfl rfl rfl (by decide +kernel) ⟨Nat.le_of_ble_eq_true rfl, Nat.le_of_ble_eq_true rfl⟩) (pr_V (As := []) (b := mo) (C := RX9) hP hD hK hS hA hE [1] [] rfl rfl rfl 1 16 rfl rfl rfl) rfl rfl hl.1 rfl (lv_room (Nat.le_of_ble_eq_true rfl)) dL_law_2621 ⟨Nat.le_of_ble_eq_true rfl, Nat.le_of_ble_eq_true rfl⟩) hP hD hK hS hA [1] [0] rfl rfl (by decide) (by decide) (fun r8 _ H locs w7 hP hD hK hS => ?_)
  have hP : va_P D vwCl [(oo, .inl (coo, 1, .inr (.inl u1))), (mo, .inr (16, [.int (u4.2.2 0), .int (u4.2.2 1), .int u4.1, .ref (u4.2.1 0), .ref (u4.2.1 1), .ref (u4.2.1 2), .ref (u4.2.1 3), .ref (u4.2.1 4), .ref (u4.2.1 5), .ref (u4.2.1 6), .ref (u4.2.1 7), .int (u4.2.2 2), .ref (u4.2.1 8)]))] H := hP
  have hD : va_D (lw_A s) [(oo, .inl (coo, 1, .inr (.inl u1))), (mo, .inr (16, [.int (u4.2.2 0), .int (u4.2.2 1), .int u4.1, .ref (u4.2.1 0), .ref (u4.2.1 1), .ref (u4.2.1 2), .ref (u4.2.1 3), .ref (u4.2.1 4), .ref (u4.2.1 5), .ref (u4.2.1 6), .ref (u4.2.1 7), .int (u4.2.2 2), .ref (u4.2.1 8)]))] := hD
  have hK : va_K D vwCl [(coo, .long)] s := hK
  obtain rfl : r8 = u4.1 := w7
  refine lv_iload hx hb dL_law_2624 (lv_at hl 1 rfl) ?_
  refine lv_icmp_eq (tgt := 2631) hx hb dL_law_2626 (by decide) (fun h9 => ?_) (fun h9 => absurd (by exact (w5.1).trans w2.1.symm) h9)
  refine lv_iload hx hb dL_law_2631 (lv_at hl 1 rfl) ?_
  refine lv_if_ne (tgt := 2648) hx hb dL_law_2633 (by decide) (fun h10 => ?_) (fun h10 => ?_)
  · refine lv_goto (tgt := 3320) hx hb dL_law_2648 (by decide) ?_
    refine W.widen (k := 600006) (n := 7302040) (Nat.le_of_ble_eq_true rfl) (Nat.le_of_ble_eq_true rfl) ?_
    exact hend _ _ _ (lv_sub hl [2, 7] rfl) hS
  · refine lv_aload_n hx hb dL_law_2636 rfl (lv_at hl 4 rfl) ?_
    refine lv_iconst (v := 0) hx hb dL_law_2637 (by decide) ?_
    refine va_lald hx hb hK hP 0 0 rfl rfl (vp_in_nI (n := 0) (by decide) (by decide)) dL_law_2638 ?_
    refine lv_topl (fun x11 e11 => ?_)
    refine lv_iload hx hb dL_law_2639 (lv_at hl 0 rfl) ?_
    refine lv_i2l hx hb dL_law_2641 rfl ?_
    refine lv_topl (fun x12 e12 => ?_)
    refine W.lcmp hx hb dL_law_2642 ?_
    refine lv_topi (fun x13 e13 => ?_)
    refine lv_if_eq (tgt := 2648) hx hb dL_law_2643 (by decide) (fun h14 => ?_) (fun h14 => absurd (by exact e13.trans ((lg_cmp_eq _ _).mpr (e11.trans ((w2.2 (w2.1.symm.trans h10)).trans (e12.trans (congrArg Int32.toInt64 (w5.2 (w2.1.symm.trans h10)))).symm)))) h14)
    refine lv_goto (tgt := 3320) hx hb dL_law_2648 (by decide) ?_
    refine W.widen (k := 600006) (n := 7302040) (Nat.le_of_ble_eq_true rfl) (Nat.le_of_ble_eq_true rfl) ?_
    exact hend _ _ _ (lv_sub hl [2, 7] rfl) hS
