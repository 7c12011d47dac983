/-! the law, cases -/
set_option maxHeartbeats 4000000 in
set_option maxRecDepth 100000 in
/-- case 0: land -/
theorem lc_0 (l : Launch) (hst : l.stackTraces = false) (D : va_G) {p : Program} {e : Env} {s : State} {m : MethodId} {below : List Frame} {meth : Method} {c : Code} {b : Nat} {xs : Nat → Int32} {Q : State → Prop} (hx : p.tables.exec = Jvm.exec) (hb : c.code = code) (hml : c.maxLocals = 9) (hown : s.vm.findClass RL = some m.cls) (hts : ∀ w ∈ lw_tbl, w.before #[Value.ref b] s = true) (hX : va_X b 5 xs s s.heap) (hbl : b < s.heap.size) (hE : ex_E D (lw_A s) s s.heap) (hend : lw_End p l e s m below meth c b Q) (x : Nat) (g : Nat) (ca : Nat) (co : Nat) (ra : Nat) (rl : Nat) (tr : Nat) (f9 : Nat) (f10 : Nat) (f11 : Nat) (f12 : Nat) (f13 : Nat) (a1 : Nat) (a2 : Nat) (a3 : Nat) (a4 : Nat) (a5 : Nat) (a6 : Nat) (a7 : Nat) (a8 : Nat) (a9 : Nat) (a10 : Nat) (a11 : Nat) (f7 : Nat → Int32) (f8 : Nat → Int32) (re1 : Nat) (re2 : Nat) (re3 : Nat) (re4 : Nat) (ck : ClassId) (csk : ClassId) (cg : ClassId) (ch : ClassId) (csg : ClassId) (cb : ClassId) (cc7 : ClassId) (cc8 : ClassId) (oo : Nat) (coo : ClassId) (f0 : Nat → Int64) (mo : Nat) (th : Int32) (m1 : Nat) (m2 : Nat) (m3 : Nat) (m4 : Nat) (m5 : Nat) (l1 : Nat) (l2 : Nat) (l3 : Nat) (l4 : Nat) (od : Nat)  {H : Heap} {locs : List Loc} {ls : Array Slot} (hl : lv_has ls 9 [(5, .int 0), (4, .ref od), (3, .ref oo), (2, .ref mo), (1, .ref x), (0, .ref b)]) (hP : va_P D vwCl [(x, .inr (13, [.ref g, .ref ca, .int 0, .ref co, .int 0, .ref ra, .int 0, .ref rl, .ref tr, .ref f9, .ref f10, .ref f11, .ref f12, .ref f13])), (g, .inr (11, [.int 25, .ref a1, .ref a2, .ref a3, .ref a4, .ref a5, .ref a6, .ref a7, .ref a8, .ref a9, .ref a10, .ref a11, .int 0, .int 0])), (a3, .inl (ck, 144, .inl okF)), (a5, .inl (csk, 144, .inl okF)), (a1, .inl (cg, 144, .inl (fun _ => 0))), (a2, .inl (ch, 144, .inl (fun _ => 0))), (a4, .inl (csg, 144, .inl (fun _ => 0))), (a9, .inl (cb, 576, .inl beF)), (a7, .inl (cc7, 144, .inl f7)), (a8, .inl (cc8, 144, .inl f8)), (rl, .inr (9, [.int 0, .int 0, .ref re1, .ref re2, .ref re3, .ref re4])), (oo, .inl (coo, 1, .inr (.inl f0))), (mo, .inr (16, [.int 5, .int 5, .int th, .ref m1, .ref m2, .ref m3, .ref m4, .ref m5, .ref l1, .ref l2, .ref l3, .int (-1), .ref l4])), (l1, .inr (5, [.int 1, .ref (D.1 1000), .int 0])), (l2, .inr (5, [.int 1, .ref (D.1 1000), .int 0])), (l3, .inr (5, [.int 1, .ref (D.1 1000), .int 0])), (l4, .inr (5, [.int 1, .ref (D.1 1000), .int 0]))] H) (hD : va_D (lw_A s) [(x, .inr (13, [.ref g, .ref ca, .int 0, .ref co, .int 0, .ref ra, .int 0, .ref rl, .ref tr, .ref f9, .ref f10, .ref f11, .ref f12, .ref f13])), (g, .inr (11, [.int 25, .ref a1, .ref a2, .ref a3, .ref a4, .ref a5, .ref a6, .ref a7, .ref a8, .ref a9, .ref a10, .ref a11, .int 0, .int 0])), (a3, .inl (ck, 144, .inl okF)), (a5, .inl (csk, 144, .inl okF)), (a1, .inl (cg, 144, .inl (fun _ => 0))), (a2, .inl (ch, 144, .inl (fun _ => 0))), (a4, .inl (csg, 144, .inl (fun _ => 0))), (a9, .inl (cb, 576, .inl beF)), (a7, .inl (cc7, 144, .inl f7)), (a8, .inl (cc8, 144, .inl f8)), (rl, .inr (9, [.int 0, .int 0, .ref re1, .ref re2, .ref re3, .ref re4])), (oo, .inl (coo, 1, .inr (.inl f0))), (mo, .inr (16, [.int 5, .int 5, .int th, .ref m1, .ref m2, .ref m3, .ref m4, .ref m5, .ref l1, .ref l2, .ref l3, .int (-1), .ref l4])), (l1, .inr (5, [.int 1, .ref (D.1 1000), .int 0])), (l2, .inr (5, [.int 1, .ref (D.1 1000), .int 0])), (l3, .inr (5, [.int 1, .ref (D.1 1000), .int 0])), (l4, .inr (5, [.int 1, .ref (D.1 1000), .int 0]))]) (hK : va_K D vwCl [(ck, .char), (csk, .char), (cg, .int), (ch, .int), (csg, .int), (cb, .int), (cc7, .int), (cc8, .int), (coo, .long)] s) (hS : va_S (lw_A s) s.heap H locs) : W p l e room_1 s m #[Value.ref b] below meth c H locs 167 55824 Q (F0 m 244 ls []) := by
  have hA : ∀ q : Nat, s.heap.size ≤ q → lw_A s q := fun _ h => h
  have hbA : ¬ lw_A s b := Nat.not_le.mpr hbl
  refine lv_aload_n hx hb dL_law_244 rfl (lv_at hl 4 rfl) ?_
  refine lv_aload_n hx hb dL_law_245 rfl (lv_at hl 5 rfl) ?_
  refine lv_iload hx hb dL_law_246 (lv_at hl 0 rfl) ?_
  refine lv_iconst (v := 1) hx hb dL_law_248 (by decide) ?_
  refine lv_iadd hx hb dL_law_249 ?_
  refine lv_topi (fun x1 e1 => ?_)
  obtain rfl : x1 = 1 := e1.trans (by decide)
  refine va_sld hx hb hX hbl hbA hS (vp_in_nI (n := 1) (by decide) (by decide)) dL_law_250 ?_
  refine lv_topi (fun x2 e2 => ?_)
  obtain rfl : x2 = xs 1 := e2
  refine lv_aload_n hx hb dL_law_251 rfl (lv_at hl 5 rfl) ?_
  refine lv_iload hx hb dL_law_252 (lv_at hl 0 rfl) ?_
  refine lv_iconst (v := 2) hx hb dL_law_254 (by decide) ?_
  refine lv_iadd hx hb dL_law_255 ?_
  refine lv_topi (fun x3 e3 => ?_)
  obtain rfl : x3 = 2 := e3.trans (by decide)
  refine va_sld hx hb hX hbl hbA hS (vp_in_nI (n := 2) (by decide) (by decide)) dL_law_256 ?_
  refine lv_topi (fun x4 e4 => ?_)
  obtain rfl : x4 = xs 2 := e4
  refine lv_aload_n hx hb dL_law_257 rfl (lv_at hl 2 rfl) ?_
  refine mc_i (wr := [(mo, .inr (16, [.int 5, .int 5, .int th, .ref m1, .ref m2, .ref m3, .ref m4, .ref m5, .ref l1, .ref l2, .ref l3, .int (-1), .ref l4])), (l1, .inr (5, [.int 1, .ref (D.1 1000), .int 0])), (l2, .inr (5, [.int 1, .ref (D.1 1000), .int 0])), (l3, .inr (5, [.int 1, .ref (D.1 1000), .int 0])), (l4, .inr (5, [.int 1, .ref (D.1 1000), .int 0]))]) (vx_runSW (As := [.ref x, .int (xs 1), .int (xs 2), .ref oo]) (rest := []) ⟨hx, hb, hml, hown, hts⟩ (c_Lland l hst D x g ca co ra rl tr f9 f10 f11 f12 f13 a1 a2 a3 a4 a5 a6 a7 a8 a9 a10 a11 f7 f8 re1 re2 re3 re4 ck csk cg ch csg cb cc7 cc8 (xs 1) (xs 2) oo coo f0 H.size) (vx_cwSW 4 hts (gi_c mw_764 rfl (gi_c mw_765 rfl (gi_c mw_766 rfl (goodIn_sub il_c_Lland (List.all_eq_true.mpr gw_c_Lland))))) rfl rfl rfl (by decide +kernel) ⟨Nat.le_of_ble_eq_true rfl, Nat.le_of_ble_eq_true rfl⟩) (pr_S (As := [.ref x, .int (xs 1), .int (xs 2), .ref oo]) hP hD hK hS hA hE [0, 1, 2, 3, 4, 5, 6, 7, 8, 9, 10, 11] [0, 1, 2, 3, 4, 5, 6, 7, 8] rfl rfl rfl) rfl rfl hl.1 rfl (lv_room (Nat.le_of_ble_eq_true rfl)) dL_law_258 ⟨Nat.le_of_ble_eq_true rfl, Nat.le_of_ble_eq_true rfl⟩) hP hD hK hS hA [0, 1, 2, 3, 4, 5, 6, 7, 8, 9, 10, 11] [12, 13, 14, 15, 16] rfl rfl (by decide) (by decide) (fun r7 u5 H locs w6 hP hD hK hS => ?_)
  have hP : va_P D vwCl [(mo, .inr (16, [.int 5, .int 5, .int th, .ref m1, .ref m2, .ref m3, .ref m4, .ref m5, .ref l1, .ref l2, .ref l3, .int (-1), .ref l4])), (l1, .inr (5, [.int 1, .ref (D.1 1000), .int 0])), (l2, .inr (5, [.int 1, .ref (D.1 1000), .int 0])), (l3, .inr (5, [.int 1, .ref (D.1 1000), .int 0])), (l4, .inr (5, [.int 1, .ref (D.1 1000), .int 0])), (oo, .inl (coo, 1, .inr (.inl u5)))] H := hP
  have hD : va_D (lw_A s) [(mo, .inr (16, [.int 5, .int 5, .int th, .ref m1, .ref m2, .ref m3, .ref m4, .ref m5, .ref l1, .ref l2, .ref l3, .int (-1), .ref l4])), (l1, .inr (5, [.int 1, .ref (D.1 1000), .int 0])), (l2, .inr (5, [.int 1, .ref (D.1 1000), .int 0])), (l3, .inr (5, [.int 1, .ref (D.1 1000), .int 0])), (l4, .inr (5, [.int 1, .ref (D.1 1000), .int 0])), (oo, .inl (coo, 1, .inr (.inl u5)))] := hD
  have hK : va_K D vwCl [(ck, .char), (csk, .char), (cg, .int), (ch, .int), (csg, .int), (cb, .int), (cc7, .int), (cc8, .int), (coo, .long)] s := hK
  refine lv_istore (lv' := [(6, .int r7), (5, .int 0), (4, .ref od), (3, .ref oo), (2, .ref mo), (1, .ref x), (0, .ref b)]) hx hb dL_law_261 hl (by decide) rfl (fun ls hl => ?_)
  refine lv_aload_n hx hb dL_law_263 rfl (lv_at hl 4 rfl) ?_
  refine lv_aload_n hx hb dL_law_264 rfl (lv_at hl 6 rfl) ?_
  refine lv_iload hx hb dL_law_265 (lv_at hl 1 rfl) ?_
  refine lv_iconst (v := 1) hx hb dL_law_267 (by decide) ?_
  refine lv_iadd hx hb dL_law_268 ?_
  refine lv_topi (fun x8 e8 => ?_)
  obtain rfl : x8 = 1 := e8.trans (by decide)
  refine va_sld hx hb hX hbl hbA hS (vp_in_nI (n := 1) (by decide) (by decide)) dL_law_269 ?_
  refine lv_topi (fun x9 e9 => ?_)
  obtain rfl : x9 = xs 1 := e9
  refine lv_aload_n hx hb dL_law_270 rfl (lv_at hl 6 rfl) ?_
  refine lv_iload hx hb dL_law_271 (lv_at hl 1 rfl) ?_
  refine lv_iconst (v := 2) hx hb dL_law_273 (by decide) ?_
  refine lv_iadd hx hb dL_law_274 ?_
  refine lv_topi (fun x10 e10 => ?_)
  obtain rfl : x10 = 2 := e10.trans (by decide)
  refine va_sld hx hb hX hbl hbA hS (vp_in_nI (n := 2) (by decide) (by decide)) dL_law_275 ?_
  refine lv_topi (fun x11 e11 => ?_)
  obtain rfl : x11 = xs 2 := e11
  refine mc_i (wr := [(oo, .inl (coo, 1, .inr (.inl u5)))]) (va_runV (As := [.int (xs 1), .int (xs 2)]) (rest := []) ⟨hx, hb, hml, hown, hts⟩ (c_mland l hst D mo th m1 m2 m3 m4 m5 l1 l2 l3 l4 (xs 1) (xs 2) H.size) (cwV 2 hts (gi_c mw_767 rfl (gi_c mw_768 rfl (gi_c mw_769 rfl (gi_c mw_481 rfl (goodIn_sub il_c_mland (List.all_eq_true.mpr gw_c_mland)))))) rfl rfl rfl (by decide +kernel) ⟨Nat.le_of_ble_eq_true rfl, Nat.le_of_ble_eq_true rfl⟩) (pr_V (As := [.int (xs 1), .int (xs 2)]) (b := mo) (C := RX9) hP hD hK hS hA hE [0, 1, 2, 3, 4] [] rfl rfl rfl 0 16 rfl rfl rfl) rfl rfl hl.1 rfl (lv_room (Nat.le_of_ble_eq_true rfl)) dL_law_276 ⟨Nat.le_of_ble_eq_true rfl, Nat.le_of_ble_eq_true rfl⟩) hP hD hK hS hA [0, 1, 2, 3, 4] [5] rfl rfl (by decide) (by decide) (fun r14 u12 H locs w13 hP hD hK hS => ?_)
  have hP : va_P D vwCl [(oo, .inl (coo, 1, .inr (.inl u5))), (mo, .inr (16, [.int (u12.2.2 0), .int (u12.2.2 1), .int u12.1, .ref (u12.2.1 0), .ref (u12.2.1 1), .ref (u12.2.1 2), .ref (u12.2.1 3), .ref (u12.2.1 4), .ref (u12.2.1 5), .ref (u12.2.1 6), .ref (u12.2.1 7), .int (u12.2.2 2), .ref (u12.2.1 8)]))] H := hP
  have hD : va_D (lw_A s) [(oo, .inl (coo, 1, .inr (.inl u5))), (mo, .inr (16, [.int (u12.2.2 0), .int (u12.2.2 1), .int u12.1, .ref (u12.2.1 0), .ref (u12.2.1 1), .ref (u12.2.1 2), .ref (u12.2.1 3), .ref (u12.2.1 4), .ref (u12.2.1 5), .ref (u12.2.1 6), .ref (u12.2.1 7), .int (u12.2.2 2), .ref (u12.2.1 8)]))] := hD
  have hK : va_K D vwCl [(ck, .char), (csk, .char), (cg, .int), (ch, .int), (csg, .int), (cb, .int), (cc7, .int), (cc8, .int), (coo, .long)] s := hK
  refine lv_istore (lv' := [(7, .int r14), (6, .int r7), (5, .int 0), (4, .ref od), (3, .ref oo), (2, .ref mo), (1, .ref x), (0, .ref b)]) hx hb dL_law_279 hl (by decide) rfl (fun ls hl => ?_)
  refine lv_aload_n hx hb dL_law_281 rfl (lv_at hl 5 rfl) ?_
  refine mc_i (wr := [(oo, .inl (coo, 1, .inr (.inl u5)))]) (va_runV (As := []) (rest := []) ⟨hx, hb, hml, hown, hts⟩ (c_thrown l hst D mo (u12.2.2 0) (u12.2.2 1) u12.1 (u12.2.1 0) (u12.2.1 1) (u12.2.1 2) (u12.2.1 3) (u12.2.1 4) (u12.2.1 5) (u12.2.1 6) (u12.2.1 7) (u12.2.2 2) (u12.2.1 8) H.size) (cwV 0 hts (gi_c mw_770 rfl (gi_c mw_771 rfl (gi_c mw_772 rfl (gi_c mw_481 rfl (goodIn_sub il_c_thrown (List.all_eq_true.mpr gw_c_thrown)))))) rfl rfl rfl (by decide +kernel) ⟨Nat.le_of_ble_eq_true rfl, Nat.le_of_ble_eq_true rfl⟩) (pr_V (As := []) (b := mo) (C := RX9) hP hD hK hS hA hE [1] [] rfl rfl rfl 1 16 rfl rfl rfl) rfl rfl hl.1 rfl (lv_room (Nat.le_of_ble_eq_true rfl)) dL_law_282 ⟨Nat.le_of_ble_eq_true rfl, Nat.le_of_ble_eq_true rfl⟩) hP hD hK hS hA [1] [0] rfl rfl (by decide) (by decide) (fun r16 _ H locs w15 hP hD hK hS => ?_)
  have hP : va_P D vwCl [(oo, .inl (coo, 1, .inr (.inl u5))), (mo, .inr (16, [.int (u12.2.2 0), .int (u12.2.2 1), .int u12.1, .ref (u12.2.1 0), .ref (u12.2.1 1), .ref (u12.2.1 2), .ref (u12.2.1 3), .ref (u12.2.1 4), .ref (u12.2.1 5), .ref (u12.2.1 6), .ref (u12.2.1 7), .int (u12.2.2 2), .ref (u12.2.1 8)]))] H := hP
  have hD : va_D (lw_A s) [(oo, .inl (coo, 1, .inr (.inl u5))), (mo, .inr (16, [.int (u12.2.2 0), .int (u12.2.2 1), .int u12.1, .ref (u12.2.1 0), .ref (u12.2.1 1), .ref (u12.2.1 2), .ref (u12.2.1 3), .ref (u12.2.1 4), .ref (u12.2.1 5), .ref (u12.2.1 6), .ref (u12.2.1 7), .int (u12.2.2 2), .ref (u12.2.1 8)]))] := hD
  have hK : va_K D vwCl [(ck, .char), (csk, .char), (cg, .int), (ch, .int), (csg, .int), (cb, .int), (cc7, .int), (cc8, .int), (coo, .long)] s := hK
  obtain rfl : r16 = u12.1 := w15
  refine lv_iload hx hb dL_law_285 (lv_at hl 1 rfl) ?_
  refine lv_icmp_eq (tgt := 292) hx hb dL_law_287 (by decide) (fun h17 => ?_) (fun h17 => absurd (by exact (w13.1).trans w6.1.symm) h17)
  refine lv_iload hx hb dL_law_292 (lv_at hl 1 rfl) ?_
  refine lv_if_ne (tgt := 309) hx hb dL_law_294 (by decide) (fun h18 => ?_) (fun h18 => ?_)
  · refine lv_goto (tgt := 3320) hx hb dL_law_309 (by decide) ?_
    refine W.widen (k := 600006) (n := 7302040) (Nat.le_of_ble_eq_true rfl) (Nat.le_of_ble_eq_true rfl) ?_
    exact hend _ _ _ (lv_sub hl [2, 7] rfl) hS
  · refine lv_aload_n hx hb dL_law_297 rfl (lv_at hl 4 rfl) ?_
    refine lv_iconst (v := 0) hx hb dL_law_298 (by decide) ?_
    refine va_lald hx hb hK hP 0 8 rfl rfl (vp_in_nI (n := 0) (by decide) (by decide)) dL_law_299 ?_
    refine lv_topl (fun x19 e19 => ?_)
    refine lv_iload hx hb dL_law_300 (lv_at hl 0 rfl) ?_
    refine lv_i2l hx hb dL_law_302 rfl ?_
    refine lv_topl (fun x20 e20 => ?_)
    refine W.lcmp hx hb dL_law_303 ?_
    refine lv_topi (fun x21 e21 => ?_)
    refine lv_if_eq (tgt := 309) hx hb dL_law_304 (by decide) (fun h22 => ?_) (fun h22 => absurd (by exact e21.trans ((lg_cmp_eq _ _).mpr (e19.trans ((w6.2 (w6.1.symm.trans h18)).trans (e20.trans (congrArg Int32.toInt64 (w13.2 (w6.1.symm.trans h18)))).symm)))) h22)
    refine lv_goto (tgt := 3320) hx hb dL_law_309 (by decide) ?_
    refine W.widen (k := 600006) (n := 7302040) (Nat.le_of_ble_eq_true rfl) (Nat.le_of_ble_eq_true rfl) ?_
    exact hend _ _ _ (lv_sub hl [2, 7] rfl) hS

set_option maxHeartbeats 4000000 in
set_option maxRecDepth 100000 in
/-- case 1: cell -/
theorem lc_1 (l : Launch) (hst : l.stackTraces = false) (D : va_G) {p : Program} {e : Env} {s : State} {m : MethodId} {below : List Frame} {meth : Method} {c : Code} {b : Nat} {xs : Nat → Int32} {Q : State → Prop} (hx : p.tables.exec = Jvm.exec) (hb : c.code = code) (hml : c.maxLocals = 9) (hown : s.vm.findClass RL = some m.cls) (hts : ∀ w ∈ lw_tbl, w.before #[Value.ref b] s = true) (hX : va_X b 5 xs s s.heap) (hbl : b < s.heap.size) (hE : ex_E D (lw_A s) s s.heap) (hend : lw_End p l e s m below meth c b Q) (x : Nat) (g : Nat) (ca : Nat) (co : Nat) (ra : Nat) (rl : Nat) (tr : Nat) (f9 : Nat) (f10 : Nat) (f11 : Nat) (f12 : Nat) (f13 : Nat) (a1 : Nat) (a2 : Nat) (a3 : Nat) (a4 : Nat) (a5 : Nat) (a6 : Nat) (a7 : Nat) (a8 : Nat) (a9 : Nat) (a10 : Nat) (a11 : Nat) (ck : ClassId) (cg : ClassId) (ch : ClassId) (oo : Nat) (coo : ClassId) (f0 : Nat → Int64) (mo : Nat) (th : Int32) (m1 : Nat) (m2 : Nat) (m3 : Nat) (m4 : Nat) (m5 : Nat) (l1 : Nat) (l2 : Nat) (l3 : Nat) (l4 : Nat) (cm1 : ClassId) (cm2 : ClassId) (cm4 : ClassId) (od : Nat)  {H : Heap} {locs : List Loc} {ls : Array Slot} (hl : lv_has ls 9 [(5, .int 0), (4, .ref od), (3, .ref oo), (2, .ref mo), (1, .ref x), (0, .ref b)]) (hP : va_P D vwCl [(x, .inr (13, [.ref g, .ref ca, .int 0, .ref co, .int 0, .ref ra, .int 0, .ref rl, .ref tr, .ref f9, .ref f10, .ref f11, .ref f12, .ref f13])), (g, .inr (11, [.int 25, .ref a1, .ref a2, .ref a3, .ref a4, .ref a5, .ref a6, .ref a7, .ref a8, .ref a9, .ref a10, .ref a11, .int 0, .int 0])), (a3, .inl (ck, 144, .inl okF)), (a1, .inl (cg, 144, .inl (fun _ => 0))), (a2, .inl (ch, 144, .inl (fun _ => 0))), (oo, .inl (coo, 1, .inr (.inl f0))), (mo, .inr (16, [.int 5, .int 5, .int th, .ref m1, .ref m2, .ref m3, .ref m4, .ref m5, .ref l1, .ref l2, .ref l3, .int (-1), .ref l4])), (m1, .inl (cm1, 25, .inl (fun _ => 0))), (m2, .inl (cm2, 25, .inl (fun _ => 0))), (m4, .inl (cm4, 25, .inl fK5))] H) (hD : va_D (lw_A s) [(x, .inr (13, [.ref g, .ref ca, .int 0, .ref co, .int 0, .ref ra, .int 0, .ref rl, .ref tr, .ref f9, .ref f10, .ref f11, .ref f12, .ref f13])), (g, .inr (11, [.int 25, .ref a1, .ref a2, .ref a3, .ref a4, .ref a5, .ref a6, .ref a7, .ref a8, .ref a9, .ref a10, .ref a11, .int 0, .int 0])), (a3, .inl (ck, 144, .inl okF)), (a1, .inl (cg, 144, .inl (fun _ => 0))), (a2, .inl (ch, 144, .inl (fun _ => 0))), (oo, .inl (coo, 1, .inr (.inl f0))), (mo, .inr (16, [.int 5, .int 5, .int th, .ref m1, .ref m2, .ref m3, .ref m4, .ref m5, .ref l1, .ref l2, .ref l3, .int (-1), .ref l4])), (m1, .inl (cm1, 25, .inl (fun _ => 0))), (m2, .inl (cm2, 25, .inl (fun _ => 0))), (m4, .inl (cm4, 25, .inl fK5))]) (hK : va_K D vwCl [(ck, .char), (cg, .int), (ch, .int), (coo, .long), (cm1, .int), (cm2, .int), (cm4, .char)] s) (hS : va_S (lw_A s) s.heap H locs) : W p l e room_1 s m #[Value.ref b] below meth c H locs 167 55824 Q (F0 m 312 ls []) := by
  have hA : ∀ q : Nat, s.heap.size ≤ q → lw_A s q := fun _ h => h
  have hbA : ¬ lw_A s b := Nat.not_le.mpr hbl
  refine lv_aload_n hx hb dL_law_312 rfl (lv_at hl 4 rfl) ?_
  refine lv_aload_n hx hb dL_law_313 rfl (lv_at hl 5 rfl) ?_
  refine lv_iload hx hb dL_law_314 (lv_at hl 0 rfl) ?_
  refine lv_iconst (v := 1) hx hb dL_law_316 (by decide) ?_
  refine lv_iadd hx hb dL_law_317 ?_
  refine lv_topi (fun x1 e1 => ?_)
  obtain rfl : x1 = 1 := e1.trans (by decide)
  refine va_sld hx hb hX hbl hbA hS (vp_in_nI (n := 1) (by decide) (by decide)) dL_law_318 ?_
  refine lv_topi (fun x2 e2 => ?_)
  obtain rfl : x2 = xs 1 := e2
  refine lv_aload_n hx hb dL_law_319 rfl (lv_at hl 5 rfl) ?_
  refine lv_iload hx hb dL_law_320 (lv_at hl 0 rfl) ?_
  refine lv_iconst (v := 2) hx hb dL_law_322 (by decide) ?_
  refine lv_iadd hx hb dL_law_323 ?_
  refine lv_topi (fun x3 e3 => ?_)
  obtain rfl : x3 = 2 := e3.trans (by decide)
  refine va_sld hx hb hX hbl hbA hS (vp_in_nI (n := 2) (by decide) (by decide)) dL_law_324 ?_
  refine lv_topi (fun x4 e4 => ?_)
  obtain rfl : x4 = xs 2 := e4
  refine lv_aload_n hx hb dL_law_325 rfl (lv_at hl 5 rfl) ?_
  refine lv_iload hx hb dL_law_326 (lv_at hl 0 rfl) ?_
  refine lv_iconst (v := 3) hx hb dL_law_328 (by decide) ?_
  refine lv_iadd hx hb dL_law_329 ?_
  refine lv_topi (fun x5 e5 => ?_)
  obtain rfl : x5 = 3 := e5.trans (by decide)
  refine va_sld hx hb hX hbl hbA hS (vp_in_nI (n := 3) (by decide) (by decide)) dL_law_330 ?_
  refine lv_topi (fun x6 e6 => ?_)
  obtain rfl : x6 = xs 3 := e6
  refine lv_aload_n hx hb dL_law_331 rfl (lv_at hl 5 rfl) ?_
  refine lv_iload hx hb dL_law_332 (lv_at hl 0 rfl) ?_
  refine lv_iconst (v := 4) hx hb dL_law_334 (by decide) ?_
  refine lv_iadd hx hb dL_law_335 ?_
  refine lv_topi (fun x7 e7 => ?_)
  obtain rfl : x7 = 4 := e7.trans (by decide)
  refine va_sld hx hb hX hbl hbA hS (vp_in_nI (n := 4) (by decide) (by decide)) dL_law_336 ?_
  refine lv_topi (fun x8 e8 => ?_)
  obtain rfl : x8 = xs 4 := e8
  refine lv_i2c hx hb dL_law_337 rfl ?_
  refine lv_topi (fun x9 e9 => ?_)
  obtain rfl : x9 = lw_ch (xs 4) := e9
  refine lv_aload_n hx hb dL_law_338 rfl (lv_at hl 2 rfl) ?_
  refine mc_i (wr := [(mo, .inr (16, [.int 5, .int 5, .int th, .ref m1, .ref m2, .ref m3, .ref m4, .ref m5, .ref l1, .ref l2, .ref l3, .int (-1), .ref l4])), (m1, .inl (cm1, 25, .inl (fun _ => 0))), (m2, .inl (cm2, 25, .inl (fun _ => 0))), (m4, .inl (cm4, 25, .inl fK5))]) (vx_runSW (As := [.ref x, .int (xs 1), .int (xs 2), .int (xs 3), .int (lw_ch (xs 4)), .ref oo]) (rest := []) ⟨hx, hb, hml, hown, hts⟩ (c_Lcell l hst D x g ca co ra rl tr f9 f10 f11 f12 f13 a1 a2 a3 a4 a5 a6 a7 a8 a9 a10 a11 ck cg ch (xs 1) (xs 2) (xs 3) (lw_ch (xs 4)) oo coo f0 H.size) (vx_cwSW 6 hts (gi_c mw_773 rfl (gi_c mw_774 rfl (gi_c mw_766 rfl (goodIn_sub il_c_Lcell (List.all_eq_true.mpr gw_c_Lcell))))) rfl rfl rfl (by decide +kernel) ⟨Nat.le_of_ble_eq_true rfl, Nat.le_of_ble_eq_true rfl⟩) (pr_S (As := [.ref x, .int (xs 1), .int (xs 2), .int (xs 3), .int (lw_ch (xs 4)), .ref oo]) hP hD hK hS hA hE [0, 1, 2, 3, 4, 5] [0, 1, 2, 3] rfl rfl rfl) rfl rfl hl.1 rfl (lv_room (Nat.le_of_ble_eq_true rfl)) dL_law_339 ⟨Nat.le_of_ble_eq_true rfl, Nat.le_of_ble_eq_true rfl⟩) hP hD hK hS hA [0, 1, 2, 3, 4, 5] [6, 7, 8, 9] rfl rfl (by decide) (by decide) (fun r12 u10 H locs w11 hP hD hK hS => ?_)
  have hP : va_P D vwCl [(mo, .inr (16, [.int 5, .int 5, .int th, .ref m1, .ref m2, .ref m3, .ref m4, .ref m5, .ref l1, .ref l2, .ref l3, .int (-1), .ref l4])), (m1, .inl (cm1, 25, .inl (fun _ => 0))), (m2, .inl (cm2, 25, .inl (fun _ => 0))), (m4, .inl (cm4, 25, .inl fK5)), (oo, .inl (coo, 1, .inr (.inl u10)))] H := hP
  have hD : va_D (lw_A s) [(mo, .inr (16, [.int 5, .int 5, .int th, .ref m1, .ref m2, .ref m3, .ref m4, .ref m5, .ref l1, .ref l2, .ref l3, .int (-1), .ref l4])), (m1, .inl (cm1, 25, .inl (fun _ => 0))), (m2, .inl (cm2, 25, .inl (fun _ => 0))), (m4, .inl (cm4, 25, .inl fK5)), (oo, .inl (coo, 1, .inr (.inl u10)))] := hD
  have hK : va_K D vwCl [(ck, .char), (cg, .int), (ch, .int), (coo, .long), (cm1, .int), (cm2, .int), (cm4, .char)] s := hK
  refine lv_istore (lv' := [(6, .int r12), (5, .int 0), (4, .ref od), (3, .ref oo), (2, .ref mo), (1, .ref x), (0, .ref b)]) hx hb dL_law_342 hl (by decide) rfl (fun ls hl => ?_)
  refine lv_aload_n hx hb dL_law_344 rfl (lv_at hl 4 rfl) ?_
  refine lv_aload_n hx hb dL_law_345 rfl (lv_at hl 6 rfl) ?_
  refine lv_iload hx hb dL_law_346 (lv_at hl 1 rfl) ?_
  refine lv_iconst (v := 1) hx hb dL_law_348 (by decide) ?_
  refine lv_iadd hx hb dL_law_349 ?_
  refine lv_topi (fun x13 e13 => ?_)
  obtain rfl : x13 = 1 := e13.trans (by decide)
  refine va_sld hx hb hX hbl hbA hS (vp_in_nI (n := 1) (by decide) (by decide)) dL_law_350 ?_
  refine lv_topi (fun x14 e14 => ?_)
  obtain rfl : x14 = xs 1 := e14
  refine lv_aload_n hx hb dL_law_351 rfl (lv_at hl 6 rfl) ?_
  refine lv_iload hx hb dL_law_352 (lv_at hl 1 rfl) ?_
  refine lv_iconst (v := 2) hx hb dL_law_354 (by decide) ?_
  refine lv_iadd hx hb dL_law_355 ?_
  refine lv_topi (fun x15 e15 => ?_)
  obtain rfl : x15 = 2 := e15.trans (by decide)
  refine va_sld hx hb hX hbl hbA hS (vp_in_nI (n := 2) (by decide) (by decide)) dL_law_356 ?_
  refine lv_topi (fun x16 e16 => ?_)
  obtain rfl : x16 = xs 2 := e16
  refine lv_aload_n hx hb dL_law_357 rfl (lv_at hl 6 rfl) ?_
  refine lv_iload hx hb dL_law_358 (lv_at hl 1 rfl) ?_
  refine lv_iconst (v := 3) hx hb dL_law_360 (by decide) ?_
  refine lv_iadd hx hb dL_law_361 ?_
  refine lv_topi (fun x17 e17 => ?_)
  obtain rfl : x17 = 3 := e17.trans (by decide)
  refine va_sld hx hb hX hbl hbA hS (vp_in_nI (n := 3) (by decide) (by decide)) dL_law_362 ?_
  refine lv_topi (fun x18 e18 => ?_)
  obtain rfl : x18 = xs 3 := e18
  refine lv_aload_n hx hb dL_law_363 rfl (lv_at hl 6 rfl) ?_
  refine lv_iload hx hb dL_law_364 (lv_at hl 1 rfl) ?_
  refine lv_iconst (v := 4) hx hb dL_law_366 (by decide) ?_
  refine lv_iadd hx hb dL_law_367 ?_
  refine lv_topi (fun x19 e19 => ?_)
  obtain rfl : x19 = 4 := e19.trans (by decide)
  refine va_sld hx hb hX hbl hbA hS (vp_in_nI (n := 4) (by decide) (by decide)) dL_law_368 ?_
  refine lv_topi (fun x20 e20 => ?_)
  obtain rfl : x20 = xs 4 := e20
  refine lv_i2c hx hb dL_law_369 rfl ?_
  refine lv_topi (fun x21 e21 => ?_)
  obtain rfl : x21 = lw_ch (xs 4) := e21
  refine mc_i (wr := [(oo, .inl (coo, 1, .inr (.inl u10)))]) (va_runV (As := [.int (xs 1), .int (xs 2), .int (xs 3), .int (lw_ch (xs 4))]) (rest := []) ⟨hx, hb, hml, hown, hts⟩ (c_mcell l hst D mo th m1 m2 m3 m4 m5 l1 l2 l3 l4 cm1 cm2 cm4 (xs 1) (xs 2) (xs 3) (lw_ch (xs 4)) H.size) (cwV 4 hts (gi_c mw_775 rfl (gi_c mw_776 rfl (gi_c mw_777 rfl (gi_c mw_481 rfl (goodIn_sub il_c_mcell (List.all_eq_true.mpr gw_c_mcell)))))) rfl rfl rfl (by decide +kernel) ⟨Nat.le_of_ble_eq_true rfl, Nat.le_of_ble_eq_true rfl⟩) (pr_V (As := [.int (xs 1), .int (xs 2), .int (xs 3), .int (lw_ch (xs 4))]) (b := mo) (C := RX9) hP hD hK hS hA hE [0, 1, 2, 3] [4, 5, 6] rfl rfl rfl 0 16 rfl rfl rfl) rfl rfl hl.1 rfl (lv_room (Nat.le_of_ble_eq_true rfl)) dL_law_370 ⟨Nat.le_of_ble_eq_true rfl, Nat.le_of_ble_eq_true rfl⟩) hP hD hK hS hA [0, 1, 2, 3] [4] rfl rfl (by decide) (by decide) (fun r24 u22 H locs w23 hP hD hK hS => ?_)
  have hP : va_P D vwCl [(oo, .inl (coo, 1, .inr (.inl u10))), (mo, .inr (16, [.int (u22.2.2 0), .int (u22.2.2 1), .int u22.1, .ref (u22.2.1 0), .ref (u22.2.1 1), .ref (u22.2.1 2), .ref (u22.2.1 3), .ref (u22.2.1 4), .ref (u22.2.1 5), .ref (u22.2.1 6), .ref (u22.2.1 7), .int (u22.2.2 2), .ref (u22.2.1 8)]))] H := hP
  have hD : va_D (lw_A s) [(oo, .inl (coo, 1, .inr (.inl u10))), (mo, .inr (16, [.int (u22.2.2 0), .int (u22.2.2 1), .int u22.1, .ref (u22.2.1 0), .ref (u22.2.1 1), .ref (u22.2.1 2), .ref (u22.2.1 3), .ref (u22.2.1 4), .ref (u22.2.1 5), .ref (u22.2.1 6), .ref (u22.2.1 7), .int (u22.2.2 2), .ref (u22.2.1 8)]))] := hD
  have hK : va_K D vwCl [(ck, .char), (cg, .int), (ch, .int), (coo, .long), (cm1, .int), (cm2, .int), (cm4, .char)] s := hK
  refine lv_istore (lv' := [(7, .int r24), (6, .int r12), (5, .int 0), (4, .ref od), (3, .ref oo), (2, .ref mo), (1, .ref x), (0, .ref b)]) hx hb dL_law_373 hl (by decide) rfl (fun ls hl => ?_)
  refine lv_aload_n hx hb dL_law_375 rfl (lv_at hl 5 rfl) ?_
  refine mc_i (wr := [(oo, .inl (coo, 1, .inr (.inl u10)))]) (va_runV (As := []) (rest := []) ⟨hx, hb, hml, hown, hts⟩ (c_thrown l hst D mo (u22.2.2 0) (u22.2.2 1) u22.1 (u22.2.1 0) (u22.2.1 1) (u22.2.1 2) (u22.2.1 3) (u22.2.1 4) (u22.2.1 5) (u22.2.1 6) (u22.2.1 7) (u22.2.2 2) (u22.2.1 8) H.size) (cwV 0 hts (gi_c mw_770 rfl (gi_c mw_771 rfl (gi_c mw_772 rfl (gi_c mw_481 rfl (goodIn_sub il_c_thrown (List.all_eq_true.mpr gw_c_thrown)))))) rfl rfl rfl (by decide +kernel) ⟨Nat.le_of_ble_eq_true rfl, Nat.le_of_ble_eq_true rfl⟩) (pr_V (As := []) (b := mo) (C := RX9) hP hD hK hS hA hE [1] [] rfl rfl rfl 1 16 rfl rfl rfl) rfl rfl hl.1 rfl (lv_room (Nat.le_of_ble_eq_true rfl)) dL_law_376 ⟨Nat.le_of_ble_eq_true rfl, Nat.le_of_ble_eq_true rfl⟩) hP hD hK hS hA [1] [0] rfl rfl (by decide) (by decide) (fun r26 _ H locs w25 hP hD hK hS => ?_)
  have hP : va_P D vwCl [(oo, .inl (coo, 1, .inr (.inl u10))), (mo, .inr (16, [.int (u22.2.2 0), .int (u22.2.2 1), .int u22.1, .ref (u22.2.1 0), .ref (u22.2.1 1), .ref (u22.2.1 2), .ref (u22.2.1 3), .ref (u22.2.1 4), .ref (u22.2.1 5), .ref (u22.2.1 6), .ref (u22.2.1 7), .int (u22.2.2 2), .ref (u22.2.1 8)]))] H := hP
  have hD : va_D (lw_A s) [(oo, .inl (coo, 1, .inr (.inl u10))), (mo, .inr (16, [.int (u22.2.2 0), .int (u22.2.2 1), .int u22.1, .ref (u22.2.1 0), .ref (u22.2.1 1), .ref (u22.2.1 2), .ref (u22.2.1 3), .ref (u22.2.1 4), .ref (u22.2.1 5), .ref (u22.2.1 6), .ref (u22.2.1 7), .int (u22.2.2 2), .ref (u22.2.1 8)]))] := hD
  have hK : va_K D vwCl [(ck, .char), (cg, .int), (ch, .int), (coo, .long), (cm1, .int), (cm2, .int), (cm4, .char)] s := hK
  obtain rfl : r26 = u22.1 := w25
  refine lv_iload hx hb dL_law_379 (lv_at hl 1 rfl) ?_
  refine lv_icmp_eq (tgt := 386) hx hb dL_law_381 (by decide) (fun h27 => ?_) (fun h27 => absurd (by exact (w23.1).trans w11.1.symm) h27)
  refine lv_iload hx hb dL_law_386 (lv_at hl 1 rfl) ?_
  refine lv_if_ne (tgt := 403) hx hb dL_law_388 (by decide) (fun h28 => ?_) (fun h28 => ?_)
  · refine lv_goto (tgt := 3320) hx hb dL_law_403 (by decide) ?_
    refine W.widen (k := 600006) (n := 7302040) (Nat.le_of_ble_eq_true rfl) (Nat.le_of_ble_eq_true rfl) ?_
    exact hend _ _ _ (lv_sub hl [2, 7] rfl) hS
  · refine lv_aload_n hx hb dL_law_391 rfl (lv_at hl 4 rfl) ?_
    refine lv_iconst (v := 0) hx hb dL_law_392 (by decide) ?_
    refine va_lald hx hb hK hP 0 3 rfl rfl (vp_in_nI (n := 0) (by decide) (by decide)) dL_law_393 ?_
    refine lv_topl (fun x29 e29 => ?_)
    refine lv_iload hx hb dL_law_394 (lv_at hl 0 rfl) ?_
    refine lv_i2l hx hb dL_law_396 rfl ?_
    refine lv_topl (fun x30 e30 => ?_)
    refine W.lcmp hx hb dL_law_397 ?_
    refine lv_topi (fun x31 e31 => ?_)
    refine lv_if_eq (tgt := 403) hx hb dL_law_398 (by decide) (fun h32 => ?_) (fun h32 => absurd (by exact e31.trans ((lg_cmp_eq _ _).mpr (e29.trans ((w11.2 (w11.1.symm.trans h28)).trans (e30.trans (congrArg Int32.toInt64 (w23.2 (w11.1.symm.trans h28)))).symm)))) h32)
    refine lv_goto (tgt := 3320) hx hb dL_law_403 (by decide) ?_
    refine W.widen (k := 600006) (n := 7302040) (Nat.le_of_ble_eq_true rfl) (Nat.le_of_ble_eq_true rfl) ?_
    exact hend _ _ _ (lv_sub hl [2, 7] rfl) hS

set_option maxHeartbeats 4000000 in
set_option maxRecDepth 100000 in
/-- case 2: print -/
theorem lc_2 (l : Launch) (hst : l.stackTraces = false) (D : va_G) {p : Program} {e : Env} {s : State} {m : MethodId} {below : List Frame} {meth : Method} {c : Code} {b : Nat} {xs : Nat → Int32} {Q : State → Prop} (hx : p.tables.exec = Jvm.exec) (hb : c.code = code) (hml : c.maxLocals = 9) (hown : s.vm.findClass RL = some m.cls) (hts : ∀ w ∈ lw_tbl, w.before #[Value.ref b] s = true) (hX : va_X b 5 xs s s.heap) (hbl : b < s.heap.size) (hE : ex_E D (lw_A s) s s.heap) (hend : lw_End p l e s m below meth c b Q) (x : Nat) (g : Nat) (ca : Nat) (co : Nat) (ra : Nat) (rl : Nat) (tr : Nat) (f9 : Nat) (f10 : Nat) (f11 : Nat) (f12 : Nat) (f13 : Nat) (a1 : Nat) (a2 : Nat) (a3 : Nat) (a4 : Nat) (a5 : Nat) (a6 : Nat) (a7 : Nat) (a8 : Nat) (a9 : Nat) (a10 : Nat) (a11 : Nat) (ck : ClassId) (csk : ClassId) (cg : ClassId) (csg : ClassId) (mo : Nat) (th : Int32) (m1 : Nat) (m2 : Nat) (m3 : Nat) (m4 : Nat) (m5 : Nat) (l1 : Nat) (l2 : Nat) (l3 : Nat) (l4 : Nat) (cm1 : ClassId) (cm2 : ClassId) (cm3 : ClassId) (cm4 : ClassId) (cm5 : ClassId) (oo : Nat) (od : Nat)  {H : Heap} {locs : List Loc} {ls : Array Slot} (hl : lv_has ls 9 [(5, .int 0), (4, .ref od), (3, .ref oo), (2, .ref mo), (1, .ref x), (0, .ref b)]) (hP : va_P D vwCl [(x, .inr (13, [.ref g, .ref ca, .int 0, .ref co, .int 0, .ref ra, .int 0, .ref rl, .ref tr, .ref f9, .ref f10, .ref f11, .ref f12, .ref f13])), (g, .inr (11, [.int 25, .ref a1, .ref a2, .ref a3, .ref a4, .ref a5, .ref a6, .ref a7, .ref a8, .ref a9, .ref a10, .ref a11, .int 0, .int 0])), (a3, .inl (ck, 144, .inl okF)), (a5, .inl (csk, 144, .inl okF)), (a1, .inl (cg, 144, .inl (fun _ => 0))), (a4, .inl (csg, 144, .inl (fun _ => 0))), (mo, .inr (16, [.int 5, .int 5, .int th, .ref m1, .ref m2, .ref m3, .ref m4, .ref m5, .ref l1, .ref l2, .ref l3, .int (-1), .ref l4])), (m1, .inl (cm1, 25, .inl (fun _ => 0))), (m2, .inl (cm2, 25, .inl (fun _ => 0))), (m3, .inl (cm3, 25, .inl (fun _ => 0))), (m4, .inl (cm4, 25, .inl fK5)), (m5, .inl (cm5, 25, .inl fK5))] H) (hD : va_D (lw_A s) [(x, .inr (13, [.ref g, .ref ca, .int 0, .ref co, .int 0, .ref ra, .int 0, .ref rl, .ref tr, .ref f9, .ref f10, .ref f11, .ref f12, .ref f13])), (g, .inr (11, [.int 25, .ref a1, .ref a2, .ref a3, .ref a4, .ref a5, .ref a6, .ref a7, .ref a8, .ref a9, .ref a10, .ref a11, .int 0, .int 0])), (a3, .inl (ck, 144, .inl okF)), (a5, .inl (csk, 144, .inl okF)), (a1, .inl (cg, 144, .inl (fun _ => 0))), (a4, .inl (csg, 144, .inl (fun _ => 0))), (mo, .inr (16, [.int 5, .int 5, .int th, .ref m1, .ref m2, .ref m3, .ref m4, .ref m5, .ref l1, .ref l2, .ref l3, .int (-1), .ref l4])), (m1, .inl (cm1, 25, .inl (fun _ => 0))), (m2, .inl (cm2, 25, .inl (fun _ => 0))), (m3, .inl (cm3, 25, .inl (fun _ => 0))), (m4, .inl (cm4, 25, .inl fK5)), (m5, .inl (cm5, 25, .inl fK5))]) (hK : va_K D vwCl [(ck, .char), (csk, .char), (cg, .int), (csg, .int), (cm1, .int), (cm2, .int), (cm3, .int), (cm4, .char), (cm5, .char)] s) (hS : va_S (lw_A s) s.heap H locs) : W p l e room_1 s m #[Value.ref b] below meth c H locs 167 55824 Q (F0 m 406 ls []) := by
  have hA : ∀ q : Nat, s.heap.size ≤ q → lw_A s q := fun _ h => h
  have hbA : ¬ lw_A s b := Nat.not_le.mpr hbl
  refine lv_aload_n hx hb dL_law_406 rfl (lv_at hl 4 rfl) ?_
  refine mc_i (wr := [(mo, .inr (16, [.int 5, .int 5, .int th, .ref m1, .ref m2, .ref m3, .ref m4, .ref m5, .ref l1, .ref l2, .ref l3, .int (-1), .ref l4])), (m1, .inl (cm1, 25, .inl (fun _ => 0))), (m2, .inl (cm2, 25, .inl (fun _ => 0))), (m3, .inl (cm3, 25, .inl (fun _ => 0))), (m4, .inl (cm4, 25, .inl fK5)), (m5, .inl (cm5, 25, .inl fK5))]) (va_runV (As := []) (rest := []) ⟨hx, hb, hml, hown, hts⟩ (c_print l hst D x g ca co ra rl tr f9 f10 f11 f12 f13 a1 a2 a3 a4 a5 a6 a7 a8 a9 a10 a11 ck csk cg csg H.size) (cwV 0 hts (gi_c mw_778 rfl (gi_c mw_779 rfl (gi_c mw_780 rfl (gi_c mw_7 rfl (goodIn_sub il_c_print (List.all_eq_true.mpr gw_c_print)))))) rfl rfl rfl (by decide +kernel) ⟨Nat.le_of_ble_eq_true rfl, Nat.le_of_ble_eq_true rfl⟩) (pr_V (As := []) (b := x) (C := RX6) hP hD hK hS hA hE [0, 1, 2, 3, 4, 5] [0, 1, 2, 3] rfl rfl rfl 0 13 rfl rfl rfl) rfl rfl hl.1 rfl (lv_room (Nat.le_of_ble_eq_true rfl)) dL_law_407 ⟨Nat.le_of_ble_eq_true rfl, Nat.le_of_ble_eq_true rfl⟩) hP hD hK hS hA [0, 1, 2, 3, 4, 5] [6, 7, 8, 9, 10, 11] rfl rfl (by decide) (by decide) (fun r2 _ H locs w1 hP hD hK hS => ?_)
  have hP : va_P D vwCl [(mo, .inr (16, [.int 5, .int 5, .int th, .ref m1, .ref m2, .ref m3, .ref m4, .ref m5, .ref l1, .ref l2, .ref l3, .int (-1), .ref l4])), (m1, .inl (cm1, 25, .inl (fun _ => 0))), (m2, .inl (cm2, 25, .inl (fun _ => 0))), (m3, .inl (cm3, 25, .inl (fun _ => 0))), (m4, .inl (cm4, 25, .inl fK5)), (m5, .inl (cm5, 25, .inl fK5))] H := hP
  have hD : va_D (lw_A s) [(mo, .inr (16, [.int 5, .int 5, .int th, .ref m1, .ref m2, .ref m3, .ref m4, .ref m5, .ref l1, .ref l2, .ref l3, .int (-1), .ref l4])), (m1, .inl (cm1, 25, .inl (fun _ => 0))), (m2, .inl (cm2, 25, .inl (fun _ => 0))), (m3, .inl (cm3, 25, .inl (fun _ => 0))), (m4, .inl (cm4, 25, .inl fK5)), (m5, .inl (cm5, 25, .inl fK5))] := hD
  have hK : va_K D vwCl [(ck, .char), (csk, .char), (cg, .int), (csg, .int), (cm1, .int), (cm2, .int), (cm3, .int), (cm4, .char), (cm5, .char)] s := hK
  obtain rfl := w1
  refine lv_aload_n hx hb dL_law_410 rfl (lv_at hl 3 rfl) ?_
  refine mc_i (wr := []) (va_runV (As := []) (rest := [.int 0]) ⟨hx, hb, hml, hown, hts⟩ (c_mprint l hst D mo th m1 m2 m3 m4 m5 l1 l2 l3 l4 cm1 cm2 cm3 cm4 cm5 H.size) (cwV 0 hts (gi_c mw_781 rfl (gi_c mw_782 rfl (gi_c mw_783 rfl (gi_c mw_481 rfl (goodIn_sub il_c_mprint (List.all_eq_true.mpr gw_c_mprint)))))) rfl rfl rfl (by decide +kernel) ⟨Nat.le_of_ble_eq_true rfl, Nat.le_of_ble_eq_true rfl⟩) (pr_V (As := []) (b := mo) (C := RX9) hP hD hK hS hA hE [0, 1, 2, 3, 4, 5] [4, 5, 6, 7, 8] rfl rfl rfl 0 16 rfl rfl rfl) rfl rfl hl.1 rfl (lv_room (Nat.le_of_ble_eq_true rfl)) dL_law_411 ⟨Nat.le_of_ble_eq_true rfl, Nat.le_of_ble_eq_true rfl⟩) hP hD hK hS hA [0, 1, 2, 3, 4, 5] [] rfl rfl (by decide) (by decide) (fun r4 _ H locs w3 hP hD hK hS => ?_)
  have hP : va_P D vwCl [] H := hP
  have hD : va_D (lw_A s) [] := hD
  have hK : va_K D vwCl [(ck, .char), (csk, .char), (cg, .int), (csg, .int), (cm1, .int), (cm2, .int), (cm3, .int), (cm4, .char), (cm5, .char)] s := hK
  obtain rfl := w3
  refine lv_icmp_eq (tgt := 3320) hx hb dL_law_414 (by decide) (fun h5 => ?_) (fun h5 => absurd (by rfl) h5)
  refine W.widen (k := 600006) (n := 7302040) (Nat.le_of_ble_eq_true rfl) (Nat.le_of_ble_eq_true rfl) ?_
  exact hend _ _ _ (lv_sub hl [0, 5] rfl) hS

set_option maxHeartbeats 4000000 in
set_option maxRecDepth 100000 in
/-- case 3: show -/
theorem lc_3 (l : Launch) (hst : l.stackTraces = false) (D : va_G) {p : Program} {e : Env} {s : State} {m : MethodId} {below : List Frame} {meth : Method} {c : Code} {b : Nat} {xs : Nat → Int32} {Q : State → Prop} (hx : p.tables.exec = Jvm.exec) (hb : c.code = code) (hml : c.maxLocals = 9) (hown : s.vm.findClass RL = some m.cls) (hts : ∀ w ∈ lw_tbl, w.before #[Value.ref b] s = true) (hX : va_X b 5 xs s s.heap) (hbl : b < s.heap.size) (hE : ex_E D (lw_A s) s s.heap) (hend : lw_End p l e s m below meth c b Q) (x : Nat) (g : Nat) (ca : Nat) (co : Nat) (ra : Nat) (rl : Nat) (tr : Nat) (f9 : Nat) (f10 : Nat) (f11 : Nat) (f12 : Nat) (f13 : Nat) (a1 : Nat) (a2 : Nat) (a3 : Nat) (a4 : Nat) (a5 : Nat) (a6 : Nat) (a7 : Nat) (a8 : Nat) (a9 : Nat) (a10 : Nat) (a11 : Nat) (csk : ClassId) (csg : ClassId) (oo : Nat) (coo : ClassId) (f0 : Nat → Int64) (mo : Nat) (th : Int32) (m1 : Nat) (m2 : Nat) (m3 : Nat) (m4 : Nat) (m5 : Nat) (l1 : Nat) (l2 : Nat) (l3 : Nat) (l4 : Nat) (cm1 : ClassId) (cm3 : ClassId) (cm5 : ClassId) (od : Nat)  {H : Heap} {locs : List Loc} {ls : Array Slot} (hl : lv_has ls 9 [(5, .int 0), (4, .ref od), (3, .ref oo), (2, .ref mo), (1, .ref x), (0, .ref b)]) (hP : va_P D vwCl [(x, .inr (13, [.ref g, .ref ca, .int 0, .ref co, .int 0, .ref ra, .int 0, .ref rl, .ref tr, .ref f9, .ref f10, .ref f11, .ref f12, .ref f13])), (g, .inr (11, [.int 25, .ref a1, .ref a2, .ref a3, .ref a4, .ref a5, .ref a6, .ref a7, .ref a8, .ref a9, .ref a10, .ref a11, .int 0, .int 0])), (a5, .inl (csk, 144, .inl okF)), (a4, .inl (csg, 144, .inl (fun _ => 0))), (oo, .inl (coo, 1, .inr (.inl f0))), (mo, .inr (16, [.int 5, .int 5, .int th, .ref m1, .ref m2, .ref m3, .ref m4, .ref m5, .ref l1, .ref l2, .ref l3, .int (-1), .ref l4])), (m1, .inl (cm1, 25, .inl (fun _ => 0))), (m3, .inl (cm3, 25, .inl (fun _ => 0))), (m5, .inl (cm5, 25, .inl fK5))] H) (hD : va_D (lw_A s) [(x, .inr (13, [.ref g, .ref ca, .int 0, .ref co, .int 0, .ref ra, .int 0, .ref rl, .ref tr, .ref f9, .ref f10, .ref f11, .ref f12, .ref f13])), (g, .inr (11, [.int 25, .ref a1, .ref a2, .ref a3, .ref a4, .ref a5, .ref a6, .ref a7, .ref a8, .ref a9, .ref a10, .ref a11, .int 0, .int 0])), (a5, .inl (csk, 144, .inl okF)), (a4, .inl (csg, 144, .inl (fun _ => 0))), (oo, .inl (coo, 1, .inr (.inl f0))), (mo, .inr (16, [.int 5, .int 5, .int th, .ref m1, .ref m2, .ref m3, .ref m4, .ref m5, .ref l1, .ref l2, .ref l3, .int (-1), .ref l4])), (m1, .inl (cm1, 25, .inl (fun _ => 0))), (m3, .inl (cm3, 25, .inl (fun _ => 0))), (m5, .inl (cm5, 25, .inl fK5))]) (hK : va_K D vwCl [(csk, .char), (csg, .int), (coo, .long), (cm1, .int), (cm3, .int), (cm5, .char)] s) (hS : va_S (lw_A s) s.heap H locs) : W p l e room_1 s m #[Value.ref b] below meth c H locs 167 55824 Q (F0 m 419 ls []) := by
  have hA : ∀ q : Nat, s.heap.size ≤ q → lw_A s q := fun _ h => h
  have hbA : ¬ lw_A s b := Nat.not_le.mpr hbl
  refine lv_aload_n hx hb dL_law_419 rfl (lv_at hl 4 rfl) ?_
  refine lv_aload_n hx hb dL_law_420 rfl (lv_at hl 5 rfl) ?_
  refine lv_iload hx hb dL_law_421 (lv_at hl 0 rfl) ?_
  refine lv_iconst (v := 1) hx hb dL_law_423 (by decide) ?_
  refine lv_iadd hx hb dL_law_424 ?_
  refine lv_topi (fun x1 e1 => ?_)
  obtain rfl : x1 = 1 := e1.trans (by decide)
  refine va_sld hx hb hX hbl hbA hS (vp_in_nI (n := 1) (by decide) (by decide)) dL_law_425 ?_
  refine lv_topi (fun x2 e2 => ?_)
  obtain rfl : x2 = xs 1 := e2
  refine lv_aload_n hx hb dL_law_426 rfl (lv_at hl 5 rfl) ?_
  refine lv_iload hx hb dL_law_427 (lv_at hl 0 rfl) ?_
  refine lv_iconst (v := 2) hx hb dL_law_429 (by decide) ?_
  refine lv_iadd hx hb dL_law_430 ?_
  refine lv_topi (fun x3 e3 => ?_)
  obtain rfl : x3 = 2 := e3.trans (by decide)
  refine va_sld hx hb hX hbl hbA hS (vp_in_nI (n := 2) (by decide) (by decide)) dL_law_431 ?_
  refine lv_topi (fun x4 e4 => ?_)
  obtain rfl : x4 = xs 2 := e4
  refine lv_aload_n hx hb dL_law_432 rfl (lv_at hl 5 rfl) ?_
  refine lv_iload hx hb dL_law_433 (lv_at hl 0 rfl) ?_
  refine lv_iconst (v := 3) hx hb dL_law_435 (by decide) ?_
  refine lv_iadd hx hb dL_law_436 ?_
  refine lv_topi (fun x5 e5 => ?_)
  obtain rfl : x5 = 3 := e5.trans (by decide)
  refine va_sld hx hb hX hbl hbA hS (vp_in_nI (n := 3) (by decide) (by decide)) dL_law_437 ?_
  refine lv_topi (fun x6 e6 => ?_)
  obtain rfl : x6 = xs 3 := e6
  refine lv_i2c hx hb dL_law_438 rfl ?_
  refine lv_topi (fun x7 e7 => ?_)
  obtain rfl : x7 = lw_ch (xs 3) := e7
  refine lv_aload_n hx hb dL_law_439 rfl (lv_at hl 2 rfl) ?_
  refine mc_i (wr := [(mo, .inr (16, [.int 5, .int 5, .int th, .ref m1, .ref m2, .ref m3, .ref m4, .ref m5, .ref l1, .ref l2, .ref l3, .int (-1), .ref l4])), (m1, .inl (cm1, 25, .inl (fun _ => 0))), (m3, .inl (cm3, 25, .inl (fun _ => 0))), (m5, .inl (cm5, 25, .inl fK5))]) (vx_runSW (As := [.ref x, .int (xs 1), .int (xs 2), .int (lw_ch (xs 3)), .ref oo]) (rest := []) ⟨hx, hb, hml, hown, hts⟩ (c_Lshow l hst D x g ca co ra rl tr f9 f10 f11 f12 f13 a1 a2 a3 a4 a5 a6 a7 a8 a9 a10 a11 csk csg (xs 1) (xs 2) (lw_ch (xs 3)) oo coo f0 H.size) (vx_cwSW 5 hts (gi_c mw_784 rfl (gi_c mw_785 rfl (gi_c mw_766 rfl (goodIn_sub il_c_Lshow (List.all_eq_true.mpr gw_c_Lshow))))) rfl rfl rfl (by decide +kernel) ⟨Nat.le_of_ble_eq_true rfl, Nat.le_of_ble_eq_true rfl⟩) (pr_S (As := [.ref x, .int (xs 1), .int (xs 2), .int (lw_ch (xs 3)), .ref oo]) hP hD hK hS hA hE [0, 1, 2, 3, 4] [0, 1, 2] rfl rfl rfl) rfl rfl hl.1 rfl (lv_room (Nat.le_of_ble_eq_true rfl)) dL_law_440 ⟨Nat.le_of_ble_eq_true rfl, Nat.le_of_ble_eq_true rfl⟩) hP hD hK hS hA [0, 1, 2, 3, 4] [5, 6, 7, 8] rfl rfl (by decide) (by decide) (fun r10 u8 H locs w9 hP hD hK hS => ?_)
  have hP : va_P D vwCl [(mo, .inr (16, [.int 5, .int 5, .int th, .ref m1, .ref m2, .ref m3, .ref m4, .ref m5, .ref l1, .ref l2, .ref l3, .int (-1), .ref l4])), (m1, .inl (cm1, 25, .inl (fun _ => 0))), (m3, .inl (cm3, 25, .inl (fun _ => 0))), (m5, .inl (cm5, 25, .inl fK5)), (oo, .inl (coo, 1, .inr (.inl u8)))] H := hP
  have hD : va_D (lw_A s) [(mo, .inr (16, [.int 5, .int 5, .int th, .ref m1, .ref m2, .ref m3, .ref m4, .ref m5, .ref l1, .ref l2, .ref l3, .int (-1), .ref l4])), (m1, .inl (cm1, 25, .inl (fun _ => 0))), (m3, .inl (cm3, 25, .inl (fun _ => 0))), (m5, .inl (cm5, 25, .inl fK5)), (oo, .inl (coo, 1, .inr (.inl u8)))] := hD
  have hK : va_K D vwCl [(csk, .char), (csg, .int), (coo, .long), (cm1, .int), (cm3, .int), (cm5, .char)] s := hK
  refine lv_istore (lv' := [(6, .int r10), (5, .int 0), (4, .ref od), (3, .ref oo), (2, .ref mo), (1, .ref x), (0, .ref b)]) hx hb dL_law_443 hl (by decide) rfl (fun ls hl => ?_)
  refine lv_aload_n hx hb dL_law_445 rfl (lv_at hl 4 rfl) ?_
  refine lv_aload_n hx hb dL_law_446 rfl (lv_at hl 6 rfl) ?_
  refine lv_iload hx hb dL_law_447 (lv_at hl 1 rfl) ?_
  refine lv_iconst (v := 1) hx hb dL_law_449 (by decide) ?_
  refine lv_iadd hx hb dL_law_450 ?_
  refine lv_topi (fun x11 e11 => ?_)
  obtain rfl : x11 = 1 := e11.trans (by decide)
  refine va_sld hx hb hX hbl hbA hS (vp_in_nI (n := 1) (by decide) (by decide)) dL_law_451 ?_
  refine lv_topi (fun x12 e12 => ?_)
  obtain rfl : x12 = xs 1 := e12
  refine lv_aload_n hx hb dL_law_452 rfl (lv_at hl 6 rfl) ?_
  refine lv_iload hx hb dL_law_453 (lv_at hl 1 rfl) ?_
  refine lv_iconst (v := 2) hx hb dL_law_455 (by decide) ?_
  refine lv_iadd hx hb dL_law_456 ?_
  refine lv_topi (fun x13 e13 => ?_)
  obtain rfl : x13 = 2 := e13.trans (by decide)
  refine va_sld hx hb hX hbl hbA hS (vp_in_nI (n := 2) (by decide) (by decide)) dL_law_457 ?_
  refine lv_topi (fun x14 e14 => ?_)
  obtain rfl : x14 = xs 2 := e14
  refine lv_aload_n hx hb dL_law_458 rfl (lv_at hl 6 rfl) ?_
  refine lv_iload hx hb dL_law_459 (lv_at hl 1 rfl) ?_
  refine lv_iconst (v := 3) hx hb dL_law_461 (by decide) ?_
  refine lv_iadd hx hb dL_law_462 ?_
  refine lv_topi (fun x15 e15 => ?_)
  obtain rfl : x15 = 3 := e15.trans (by decide)
  refine va_sld hx hb hX hbl hbA hS (vp_in_nI (n := 3) (by decide) (by decide)) dL_law_463 ?_
  refine lv_topi (fun x16 e16 => ?_)
  obtain rfl : x16 = xs 3 := e16
  refine lv_i2c hx hb dL_law_464 rfl ?_
  refine lv_topi (fun x17 e17 => ?_)
  obtain rfl : x17 = lw_ch (xs 3) := e17
  refine mc_i (wr := [(oo, .inl (coo, 1, .inr (.inl u8)))]) (va_runV (As := [.int (xs 1), .int (xs 2), .int (lw_ch (xs 3))]) (rest := []) ⟨hx, hb, hml, hown, hts⟩ (c_mshow l hst D mo th m1 m2 m3 m4 m5 l1 l2 l3 l4 cm1 cm3 cm5 (xs 1) (xs 2) (lw_ch (xs 3)) H.size) (cwV 3 hts (gi_c mw_786 rfl (gi_c mw_787 rfl (gi_c mw_788 rfl (gi_c mw_481 rfl (goodIn_sub il_c_mshow (List.all_eq_true.mpr gw_c_mshow)))))) rfl rfl rfl (by decide +kernel) ⟨Nat.le_of_ble_eq_true rfl, Nat.le_of_ble_eq_true rfl⟩) (pr_V (As := [.int (xs 1), .int (xs 2), .int (lw_ch (xs 3))]) (b := mo) (C := RX9) hP hD hK hS hA hE [0, 1, 2, 3] [3, 4, 5] rfl rfl rfl 0 16 rfl rfl rfl) rfl rfl hl.1 rfl (lv_room (Nat.le_of_ble_eq_true rfl)) dL_law_465 ⟨Nat.le_of_ble_eq_true rfl, Nat.le_of_ble_eq_true rfl⟩) hP hD hK hS hA [0, 1, 2, 3] [4] rfl rfl (by decide) (by decide) (fun r20 u18 H locs w19 hP hD hK hS => ?_)
  have hP : va_P D vwCl [(oo, .inl (coo, 1, .inr (.inl u8))), (mo, .inr (16, [.int (u18.2.2 0), .int (u18.2.2 1), .int u18.1, .ref (u18.2.1 0), .ref (u18.2.1 1), .ref (u18.2.1 2), .ref (u18.2.1 3), .ref (u18.2.1 4), .ref (u18.2.1 5), .ref (u18.2.1 6), .ref (u18.2.1 7), .int (u18.2.2 2), .ref (u18.2.1 8)]))] H := hP
  have hD : va_D (lw_A s) [(oo, .inl (coo, 1, .inr (.inl u8))), (mo, .inr (16, [.int (u18.2.2 0), .int (u18.2.2 1), .int u18.1, .ref (u18.2.1 0), .ref (u18.2.1 1), .ref (u18.2.1 2), .ref (u18.2.1 3), .ref (u18.2.1 4), .ref (u18.2.1 5), .ref (u18.2.1 6), .ref (u18.2.1 7), .int (u18.2.2 2), .ref (u18.2.1 8)]))] := hD
  have hK : va_K D vwCl [(csk, .char), (csg, .int), (coo, .long), (cm1, .int), (cm3, .int), (cm5, .char)] s := hK
  refine lv_istore (lv' := [(7, .int r20), (6, .int r10), (5, .int 0), (4, .ref od), (3, .ref oo), (2, .ref mo), (1, .ref x), (0, .ref b)]) hx hb dL_law_468 hl (by decide) rfl (fun ls hl => ?_)
  refine lv_aload_n hx hb dL_law_470 rfl (lv_at hl 5 rfl) ?_
  refine mc_i (wr := [(oo, .inl (coo, 1, .inr (.inl u8)))]) (va_runV (As := []) (rest := []) ⟨hx, hb, hml, hown, hts⟩ (c_thrown l hst D mo (u18.2.2 0) (u18.2.2 1) u18.1 (u18.2.1 0) (u18.2.1 1) (u18.2.1 2) (u18.2.1 3) (u18.2.1 4) (u18.2.1 5) (u18.2.1 6) (u18.2.1 7) (u18.2.2 2) (u18.2.1 8) H.size) (cwV 0 hts (gi_c mw_770 rfl (gi_c mw_771 rfl (gi_c mw_772 rfl (gi_c mw_481 rfl (goodIn_sub il_c_thrown (List.all_eq_true.mpr gw_c_thrown)))))) rfl rfl rfl (by decide +kernel) ⟨Nat.le_of_ble_eq_true rfl, Nat.le_of_ble_eq_true rfl⟩) (pr_V (As := []) (b := mo) (C := RX9) hP hD hK hS hA hE [1] [] rfl rfl rfl 1 16 rfl rfl rfl) rfl rfl hl.1 rfl (lv_room (Nat.le_of_ble_eq_true rfl)) dL_law_471 ⟨Nat.le_of_ble_eq_true rfl, Nat.le_of_ble_eq_true rfl⟩) hP hD hK hS hA [1] [0] rfl rfl (by decide) (by decide) (fun r22 _ H locs w21 hP hD hK hS => ?_)
  have hP : va_P D vwCl [(oo, .inl (coo, 1, .inr (.inl u8))), (mo, .inr (16, [.int (u18.2.2 0), .int (u18.2.2 1), .int u18.1, .ref (u18.2.1 0), .ref (u18.2.1 1), .ref (u18.2.1 2), .ref (u18.2.1 3), .ref (u18.2.1 4), .ref (u18.2.1 5), .ref (u18.2.1 6), .ref (u18.2.1 7), .int (u18.2.2 2), .ref (u18.2.1 8)]))] H := hP
  have hD : va_D (lw_A s) [(oo, .inl (coo, 1, .inr (.inl u8))), (mo, .inr (16, [.int (u18.2.2 0), .int (u18.2.2 1), .int u18.1, .ref (u18.2.1 0), .ref (u18.2.1 1), .ref (u18.2.1 2), .ref (u18.2.1 3), .ref (u18.2.1 4), .ref (u18.2.1 5), .ref (u18.2.1 6), .ref (u18.2.1 7), .int (u18.2.2 2), .ref (u18.2.1 8)]))] := hD
  have hK : va_K D vwCl [(csk, .char), (csg, .int), (coo, .long), (cm1, .int), (cm3, .int), (cm5, .char)] s := hK
  obtain rfl : r22 = u18.1 := w21
  refine lv_iload hx hb dL_law_474 (lv_at hl 1 rfl) ?_
  refine lv_icmp_eq (tgt := 481) hx hb dL_law_476 (by decide) (fun h23 => ?_) (fun h23 => absurd (by exact (w19.1).trans w9.1.symm) h23)
  refine lv_iload hx hb dL_law_481 (lv_at hl 1 rfl) ?_
  refine lv_if_ne (tgt := 498) hx hb dL_law_483 (by decide) (fun h24 => ?_) (fun h24 => ?_)
  · refine lv_goto (tgt := 3320) hx hb dL_law_498 (by decide) ?_
    refine W.widen (k := 600006) (n := 7302040) (Nat.le_of_ble_eq_true rfl) (Nat.le_of_ble_eq_true rfl) ?_
    exact hend _ _ _ (lv_sub hl [2, 7] rfl) hS
  · refine lv_aload_n hx hb dL_law_486 rfl (lv_at hl 4 rfl) ?_
    refine lv_iconst (v := 0) hx hb dL_law_487 (by decide) ?_
    refine va_lald hx hb hK hP 0 2 rfl rfl (vp_in_nI (n := 0) (by decide) (by decide)) dL_law_488 ?_
    refine lv_topl (fun x25 e25 => ?_)
    refine lv_iload hx hb dL_law_489 (lv_at hl 0 rfl) ?_
    refine lv_i2l hx hb dL_law_491 rfl ?_
    refine lv_topl (fun x26 e26 => ?_)
    refine W.lcmp hx hb dL_law_492 ?_
    refine lv_topi (fun x27 e27 => ?_)
    refine lv_if_eq (tgt := 498) hx hb dL_law_493 (by decide) (fun h28 => ?_) (fun h28 => absurd (by exact e27.trans ((lg_cmp_eq _ _).mpr (e25.trans ((w9.2 (w9.1.symm.trans h24)).trans (e26.trans (congrArg Int32.toInt64 (w19.2 (w9.1.symm.trans h24)))).symm)))) h28)
    refine lv_goto (tgt := 3320) hx hb dL_law_498 (by decide) ?_
    refine W.widen (k := 600006) (n := 7302040) (Nat.le_of_ble_eq_true rfl) (Nat.le_of_ble_eq_true rfl) ?_
    exact hend _ _ _ (lv_sub hl [2, 7] rfl) hS

set_option maxHeartbeats 4000000 in
set_option maxRecDepth 100000 in
/-- case 4: cost -/
theorem lc_4 (l : Launch) (hst : l.stackTraces = false) (D : va_G) {p : Program} {e : Env} {s : State} {m : MethodId} {below : List Frame} {meth : Method} {c : Code} {b : Nat} {xs : Nat → Int32} {Q : State → Prop} (hx : p.tables.exec = Jvm.exec) (hb : c.code = code) (hml : c.maxLocals = 9) (hown : s.vm.findClass RL = some m.cls) (hts : ∀ w ∈ lw_tbl, w.before #[Value.ref b] s = true) (hX : va_X b 5 xs s s.heap) (hbl : b < s.heap.size) (hE : ex_E D (lw_A s) s s.heap) (hend : lw_End p l e s m below meth c b Q) (x : Nat) (g : Nat) (ca : Nat) (co : Nat) (ra : Nat) (rl : Nat) (tr : Nat) (f9 : Nat) (f10 : Nat) (f11 : Nat) (f12 : Nat) (f13 : Nat) (a1 : Nat) (a2 : Nat) (a3 : Nat) (a4 : Nat) (a5 : Nat) (a6 : Nat) (a7 : Nat) (a8 : Nat) (a9 : Nat) (a10 : Nat) (a11 : Nat) (ck : ClassId) (csk : ClassId) (cg : ClassId) (ch : ClassId) (csg : ClassId) (cw : ClassId) (cq : ClassId) (cz : ClassId) (cb : ClassId) (oo : Nat) (coo : ClassId) (f0 : Nat → Int64) (mo : Nat) (th : Int32) (m1 : Nat) (m2 : Nat) (m3 : Nat) (m4 : Nat) (m5 : Nat) (l1 : Nat) (l2 : Nat) (l3 : Nat) (l4 : Nat) (cm1 : ClassId) (cm2 : ClassId) (cm3 : ClassId) (cm4 : ClassId) (cm5 : ClassId) (od : Nat)  {H : Heap} {locs : List Loc} {ls : Array Slot} (hl : lv_has ls 9 [(5, .int 0), (4, .ref od), (3, .ref oo), (2, .ref mo), (1, .ref x), (0, .ref b)]) (hP : va_P D vwCl [(x, .inr (13, [.ref g, .ref ca, .int 0, .ref co, .int 0, .ref ra, .int 0, .ref rl, .ref tr, .ref f9, .ref f10, .ref f11, .ref f12, .ref f13])), (g, .inr (11, [.int 25, .ref a1, .ref a2, .ref a3, .ref a4, .ref a5, .ref a6, .ref a7, .ref a8, .ref a9, .ref a10, .ref a11, .int 0, .int 0])), (a6, .inl (cw, 144, .inl (fL zL))), (a10, .inl (cq, 144, .inl (fL zL))), (a11, .inl (cz, 144, .inl (fL zL))), (a3, .inl (ck, 144, .inl okF)), (a5, .inl (csk, 144, .inl okF)), (a1, .inl (cg, 144, .inl (fun _ => 0))), (a2, .inl (ch, 144, .inl (fun _ => 0))), (a4, .inl (csg, 144, .inl (fun _ => 0))), (a9, .inl (cb, 576, .inl beF)), (oo, .inl (coo, 1, .inr (.inl f0))), (mo, .inr (16, [.int 5, .int 5, .int th, .ref m1, .ref m2, .ref m3, .ref m4, .ref m5, .ref l1, .ref l2, .ref l3, .int (-1), .ref l4])), (m1, .inl (cm1, 25, .inl (fun _ => 0))), (m2, .inl (cm2, 25, .inl (fun _ => 0))), (m3, .inl (cm3, 25, .inl (fun _ => 0))), (m4, .inl (cm4, 25, .inl fK5)), (m5, .inl (cm5, 25, .inl fK5))] H) (hD : va_D (lw_A s) [(x, .inr (13, [.ref g, .ref ca, .int 0, .ref co, .int 0, .ref ra, .int 0, .ref rl, .ref tr, .ref f9, .ref f10, .ref f11, .ref f12, .ref f13])), (g, .inr (11, [.int 25, .ref a1, .ref a2, .ref a3, .ref a4, .ref a5, .ref a6, .ref a7, .ref a8, .ref a9, .ref a10, .ref a11, .int 0, .int 0])), (a6, .inl (cw, 144, .inl (fL zL))), (a10, .inl (cq, 144, .inl (fL zL))), (a11, .inl (cz, 144, .inl (fL zL))), (a3, .inl (ck, 144, .inl okF)), (a5, .inl (csk, 144, .inl okF)), (a1, .inl (cg, 144, .inl (fun _ => 0))), (a2, .inl (ch, 144, .inl (fun _ => 0))), (a4, .inl (csg, 144, .inl (fun _ => 0))), (a9, .inl (cb, 576, .inl beF)), (oo, .inl (coo, 1, .inr (.inl f0))), (mo, .inr (16, [.int 5, .int 5, .int th, .ref m1, .ref m2, .ref m3, .ref m4, .ref m5, .ref l1, .ref l2, .ref l3, .int (-1), .ref l4])), (m1, .inl (cm1, 25, .inl (fun _ => 0))), (m2, .inl (cm2, 25, .inl (fun _ => 0))), (m3, .inl (cm3, 25, .inl (fun _ => 0))), (m4, .inl (cm4, 25, .inl fK5)), (m5, .inl (cm5, 25, .inl fK5))]) (hK : va_K D vwCl [(ck, .char), (csk, .char), (cg, .int), (ch, .int), (csg, .int), (cw, .int), (cq, .int), (cz, .boolean), (cb, .int), (coo, .long), (cm1, .int), (cm2, .int), (cm3, .int), (cm4, .char), (cm5, .char)] s) (hS : va_S (lw_A s) s.heap H locs) : W p l e room_1 s m #[Value.ref b] below meth c H locs 167 55824 Q (F0 m 501 ls []) := by
  have hA : ∀ q : Nat, s.heap.size ≤ q → lw_A s q := fun _ h => h
  have hbA : ¬ lw_A s b := Nat.not_le.mpr hbl
  refine lv_aload_n hx hb dL_law_501 rfl (lv_at hl 4 rfl) ?_
  refine lv_aload_n hx hb dL_law_502 rfl (lv_at hl 5 rfl) ?_
  refine lv_iload hx hb dL_law_503 (lv_at hl 0 rfl) ?_
  refine lv_iconst (v := 1) hx hb dL_law_505 (by decide) ?_
  refine lv_iadd hx hb dL_law_506 ?_
  refine lv_topi (fun x1 e1 => ?_)
  obtain rfl : x1 = 1 := e1.trans (by decide)
  refine va_sld hx hb hX hbl hbA hS (vp_in_nI (n := 1) (by decide) (by decide)) dL_law_507 ?_
  refine lv_topi (fun x2 e2 => ?_)
  obtain rfl : x2 = xs 1 := e2
  refine lv_aload_n hx hb dL_law_508 rfl (lv_at hl 5 rfl) ?_
  refine lv_iload hx hb dL_law_509 (lv_at hl 0 rfl) ?_
  refine lv_iconst (v := 2) hx hb dL_law_511 (by decide) ?_
  refine lv_iadd hx hb dL_law_512 ?_
  refine lv_topi (fun x3 e3 => ?_)
  obtain rfl : x3 = 2 := e3.trans (by decide)
  refine va_sld hx hb hX hbl hbA hS (vp_in_nI (n := 2) (by decide) (by decide)) dL_law_513 ?_
  refine lv_topi (fun x4 e4 => ?_)
  obtain rfl : x4 = xs 2 := e4
  refine lv_aload_n hx hb dL_law_514 rfl (lv_at hl 5 rfl) ?_
  refine lv_iload hx hb dL_law_515 (lv_at hl 0 rfl) ?_
  refine lv_iconst (v := 3) hx hb dL_law_517 (by decide) ?_
  refine lv_iadd hx hb dL_law_518 ?_
  refine lv_topi (fun x5 e5 => ?_)
  obtain rfl : x5 = 3 := e5.trans (by decide)
  refine va_sld hx hb hX hbl hbA hS (vp_in_nI (n := 3) (by decide) (by decide)) dL_law_519 ?_
  refine lv_topi (fun x6 e6 => ?_)
  obtain rfl : x6 = xs 3 := e6
  refine lv_if_eq (tgt := 527) hx hb dL_law_520 (by decide) (fun h7 => ?_) (fun h7 => ?_)
  · refine lv_iconst (v := 0) hx hb dL_law_527 (by decide) ?_
    refine lv_aload_n hx hb dL_law_528 rfl (lv_at hl 2 rfl) ?_
    refine mc_i (wr := [(mo, .inr (16, [.int 5, .int 5, .int th, .ref m1, .ref m2, .ref m3, .ref m4, .ref m5, .ref l1, .ref l2, .ref l3, .int (-1), .ref l4])), (m1, .inl (cm1, 25, .inl (fun _ => 0))), (m2, .inl (cm2, 25, .inl (fun _ => 0))), (m3, .inl (cm3, 25, .inl (fun _ => 0))), (m4, .inl (cm4, 25, .inl fK5)), (m5, .inl (cm5, 25, .inl fK5))]) (vx_runSW (As := [.ref x, .int (xs 1), .int (xs 2), .int 0, .ref oo]) (rest := []) ⟨hx, hb, hml, hown, hts⟩ (c_Lcost l hst D x g ca co ra rl tr f9 f10 f11 f12 f13 a1 a2 a3 a4 a5 a6 a7 a8 a9 a10 a11 ck csk cg ch csg cw cq cz cb (xs 1) (xs 2) 0 oo coo f0 H.size) (vx_cwSW 5 hts (gi_c mw_789 rfl (gi_c mw_790 rfl (gi_c mw_766 rfl (goodIn_sub il_c_Lcost (List.all_eq_true.mpr gw_c_Lcost))))) rfl rfl rfl (by decide +kernel) ⟨Nat.le_of_ble_eq_true rfl, Nat.le_of_ble_eq_true rfl⟩) (pr_S (As := [.ref x, .int (xs 1), .int (xs 2), .int 0, .ref oo]) hP hD hK hS hA hE [0, 1, 2, 3, 4, 5, 6, 7, 8, 9, 10, 11] [0, 1, 2, 3, 4, 5, 6, 7, 8, 9] rfl rfl rfl) rfl rfl hl.1 rfl (lv_room (Nat.le_of_ble_eq_true rfl)) dL_law_529 ⟨Nat.le_of_ble_eq_true rfl, Nat.le_of_ble_eq_true rfl⟩) hP hD hK hS hA [0, 1, 2, 3, 4, 5, 6, 7, 8, 9, 10, 11] [12, 13, 14, 15, 16, 17] rfl rfl (by decide) (by decide) (fun r10 u8 H locs w9 hP hD hK hS => ?_)
    have hP : va_P D vwCl [(mo, .inr (16, [.int 5, .int 5, .int th, .ref m1, .ref m2, .ref m3, .ref m4, .ref m5, .ref l1, .ref l2, .ref l3, .int (-1), .ref l4])), (m1, .inl (cm1, 25, .inl (fun _ => 0))), (m2, .inl (cm2, 25, .inl (fun _ => 0))), (m3, .inl (cm3, 25, .inl (fun _ => 0))), (m4, .inl (cm4, 25, .inl fK5)), (m5, .inl (cm5, 25, .inl fK5)), (oo, .inl (coo, 1, .inr (.inl u8)))] H := hP
    have hD : va_D (lw_A s) [(mo, .inr (16, [.int 5, .int 5, .int th, .ref m1, .ref m2, .ref m3, .ref m4, .ref m5, .ref l1, .ref l2, .ref l3, .int (-1), .ref l4])), (m1, .inl (cm1, 25, .inl (fun _ => 0))), (m2, .inl (cm2, 25, .inl (fun _ => 0))), (m3, .inl (cm3, 25, .inl (fun _ => 0))), (m4, .inl (cm4, 25, .inl fK5)), (m5, .inl (cm5, 25, .inl fK5)), (oo, .inl (coo, 1, .inr (.inl u8)))] := hD
    have hK : va_K D vwCl [(ck, .char), (csk, .char), (cg, .int), (ch, .int), (csg, .int), (cw, .int), (cq, .int), (cz, .boolean), (cb, .int), (coo, .long), (cm1, .int), (cm2, .int), (cm3, .int), (cm4, .char), (cm5, .char)] s := hK
    refine lv_istore (lv' := [(6, .int r10), (5, .int 0), (4, .ref od), (3, .ref oo), (2, .ref mo), (1, .ref x), (0, .ref b)]) hx hb dL_law_532 hl (by decide) rfl (fun ls hl => ?_)
    refine lv_aload_n hx hb dL_law_534 rfl (lv_at hl 4 rfl) ?_
    refine lv_aload_n hx hb dL_law_535 rfl (lv_at hl 6 rfl) ?_
    refine lv_iload hx hb dL_law_536 (lv_at hl 1 rfl) ?_
    refine lv_iconst (v := 1) hx hb dL_law_538 (by decide) ?_
    refine lv_iadd hx hb dL_law_539 ?_
    refine lv_topi (fun x11 e11 => ?_)
    obtain rfl : x11 = 1 := e11.trans (by decide)
    refine va_sld hx hb hX hbl hbA hS (vp_in_nI (n := 1) (by decide) (by decide)) dL_law_540 ?_
    refine lv_topi (fun x12 e12 => ?_)
    obtain rfl : x12 = xs 1 := e12
    refine lv_aload_n hx hb dL_law_541 rfl (lv_at hl 6 rfl) ?_
    refine lv_iload hx hb dL_law_542 (lv_at hl 1 rfl) ?_
    refine lv_iconst (v := 2) hx hb dL_law_544 (by decide) ?_
    refine lv_iadd hx hb dL_law_545 ?_
    refine lv_topi (fun x13 e13 => ?_)
    obtain rfl : x13 = 2 := e13.trans (by decide)
    refine va_sld hx hb hX hbl hbA hS (vp_in_nI (n := 2) (by decide) (by decide)) dL_law_546 ?_
    refine lv_topi (fun x14 e14 => ?_)
    obtain rfl : x14 = xs 2 := e14
    refine lv_aload_n hx hb dL_law_547 rfl (lv_at hl 6 rfl) ?_
    refine lv_iload hx hb dL_law_548 (lv_at hl 1 rfl) ?_
    refine lv_iconst (v := 3) hx hb dL_law_550 (by decide) ?_
    refine lv_iadd hx hb dL_law_551 ?_
    refine lv_topi (fun x15 e15 => ?_)
    obtain rfl : x15 = 3 := e15.trans (by decide)
    refine va_sld hx hb hX hbl hbA hS (vp_in_nI (n := 3) (by decide) (by decide)) dL_law_552 ?_
    refine lv_topi (fun x16 e16 => ?_)
    obtain rfl : x16 = xs 3 := e16
    refine lv_if_eq (tgt := 560) hx hb dL_law_553 (by decide) (fun h17 => ?_) (fun h17 => absurd (by exact h7) h17)
    refine lv_iconst (v := 0) hx hb dL_law_560 (by decide) ?_
    refine mc_i (wr := [(oo, .inl (coo, 1, .inr (.inl u8)))]) (va_runV (As := [.int (xs 1), .int (xs 2), .int 0]) (rest := []) ⟨hx, hb, hml, hown, hts⟩ (c_mcost l hst D mo th m1 m2 m3 m4 m5 l1 l2 l3 l4 cm1 cm2 cm3 cm4 cm5 (xs 1) (xs 2) 0 H.size) (cwV 3 hts (gi_c mw_791 rfl (gi_c mw_792 rfl (gi_c mw_793 rfl (gi_c mw_481 rfl (goodIn_sub il_c_mcost (List.all_eq_true.mpr gw_c_mcost)))))) rfl rfl rfl (by decide +kernel) ⟨Nat.le_of_ble_eq_true rfl, Nat.le_of_ble_eq_true rfl⟩) (pr_V (As := [.int (xs 1), .int (xs 2), .int 0]) (b := mo) (C := RX9) hP hD hK hS hA hE [0, 1, 2, 3, 4, 5] [10, 11, 12, 13, 14] rfl rfl rfl 0 16 rfl rfl rfl) rfl rfl hl.1 rfl (lv_room (Nat.le_of_ble_eq_true rfl)) dL_law_561 ⟨Nat.le_of_ble_eq_true rfl, Nat.le_of_ble_eq_true rfl⟩) hP hD hK hS hA [0, 1, 2, 3, 4, 5] [6] rfl rfl (by decide) (by decide) (fun r20 u18 H locs w19 hP hD hK hS => ?_)
    have hP : va_P D vwCl [(oo, .inl (coo, 1, .inr (.inl u8))), (mo, .inr (16, [.int (u18.2.2 0), .int (u18.2.2 1), .int u18.1, .ref (u18.2.1 0), .ref (u18.2.1 1), .ref (u18.2.1 2), .ref (u18.2.1 3), .ref (u18.2.1 4), .ref (u18.2.1 5), .ref (u18.2.1 6), .ref (u18.2.1 7), .int (u18.2.2 2), .ref (u18.2.1 8)]))] H := hP
    have hD : va_D (lw_A s) [(oo, .inl (coo, 1, .inr (.inl u8))), (mo, .inr (16, [.int (u18.2.2 0), .int (u18.2.2 1), .int u18.1, .ref (u18.2.1 0), .ref (u18.2.1 1), .ref (u18.2.1 2), .ref (u18.2.1 3), .ref (u18.2.1 4), .ref (u18.2.1 5), .ref (u18.2.1 6), .ref (u18.2.1 7), .int (u18.2.2 2), .ref (u18.2.1 8)]))] := hD
    have hK : va_K D vwCl [(ck, .char), (csk, .char), (cg, .int), (ch, .int), (csg, .int), (cw, .int), (cq, .int), (cz, .boolean), (cb, .int), (coo, .long), (cm1, .int), (cm2, .int), (cm3, .int), (cm4, .char), (cm5, .char)] s := hK
    refine lv_istore (lv' := [(7, .int r20), (6, .int r10), (5, .int 0), (4, .ref od), (3, .ref oo), (2, .ref mo), (1, .ref x), (0, .ref b)]) hx hb dL_law_564 hl (by decide) rfl (fun ls hl => ?_)
    refine lv_aload_n hx hb dL_law_566 rfl (lv_at hl 5 rfl) ?_
    refine mc_i (wr := [(oo, .inl (coo, 1, .inr (.inl u8)))]) (va_runV (As := []) (rest := []) ⟨hx, hb, hml, hown, hts⟩ (c_thrown l hst D mo (u18.2.2 0) (u18.2.2 1) u18.1 (u18.2.1 0) (u18.2.1 1) (u18.2.1 2) (u18.2.1 3) (u18.2.1 4) (u18.2.1 5) (u18.2.1 6) (u18.2.1 7) (u18.2.2 2) (u18.2.1 8) H.size) (cwV 0 hts (gi_c mw_770 rfl (gi_c mw_771 rfl (gi_c mw_772 rfl (gi_c mw_481 rfl (goodIn_sub il_c_thrown (List.all_eq_true.mpr gw_c_thrown)))))) rfl rfl rfl (by decide +kernel) ⟨Nat.le_of_ble_eq_true rfl, Nat.le_of_ble_eq_true rfl⟩) (pr_V (As := []) (b := mo) (C := RX9) hP hD hK hS hA hE [1] [] rfl rfl rfl 1 16 rfl rfl rfl) rfl rfl hl.1 rfl (lv_room (Nat.le_of_ble_eq_true rfl)) dL_law_567 ⟨Nat.le_of_ble_eq_true rfl, Nat.le_of_ble_eq_true rfl⟩) hP hD hK hS hA [1] [0] rfl rfl (by decide) (by decide) (fun r22 _ H locs w21 hP hD hK hS => ?_)
    have hP : va_P D vwCl [(oo, .inl (coo, 1, .inr (.inl u8))), (mo, .inr (16, [.int (u18.2.2 0), .int (u18.2.2 1), .int u18.1, .ref (u18.2.1 0), .ref (u18.2.1 1), .ref (u18.2.1 2), .ref (u18.2.1 3), .ref (u18.2.1 4), .ref (u18.2.1 5), .ref (u18.2.1 6), .ref (u18.2.1 7), .int (u18.2.2 2), .ref (u18.2.1 8)]))] H := hP
    have hD : va_D (lw_A s) [(oo, .inl (coo, 1, .inr (.inl u8))), (mo, .inr (16, [.int (u18.2.2 0), .int (u18.2.2 1), .int u18.1, .ref (u18.2.1 0), .ref (u18.2.1 1), .ref (u18.2.1 2), .ref (u18.2.1 3), .ref (u18.2.1 4), .ref (u18.2.1 5), .ref (u18.2.1 6), .ref (u18.2.1 7), .int (u18.2.2 2), .ref (u18.2.1 8)]))] := hD
    have hK : va_K D vwCl [(ck, .char), (csk, .char), (cg, .int), (ch, .int), (csg, .int), (cw, .int), (cq, .int), (cz, .boolean), (cb, .int), (coo, .long), (cm1, .int), (cm2, .int), (cm3, .int), (cm4, .char), (cm5, .char)] s := hK
    obtain rfl : r22 = u18.1 := w21
    refine lv_iload hx hb dL_law_570 (lv_at hl 1 rfl) ?_
    refine lv_icmp_eq (tgt := 577) hx hb dL_law_572 (by decide) (fun h23 => ?_) (fun h23 => absurd (by exact (w19.1).trans w9.1.symm) h23)
    refine lv_iload hx hb dL_law_577 (lv_at hl 1 rfl) ?_
    refine lv_if_ne (tgt := 594) hx hb dL_law_579 (by decide) (fun h24 => ?_) (fun h24 => ?_)
    · refine lv_goto (tgt := 3320) hx hb dL_law_594 (by decide) ?_
      refine W.widen (k := 600006) (n := 7302040) (Nat.le_of_ble_eq_true rfl) (Nat.le_of_ble_eq_true rfl) ?_
      exact hend _ _ _ (lv_sub hl [2, 7] rfl) hS
    · refine lv_aload_n hx hb dL_law_582 rfl (lv_at hl 4 rfl) ?_
      refine lv_iconst (v := 0) hx hb dL_law_583 (by decide) ?_
      refine va_lald hx hb hK hP 0 9 rfl rfl (vp_in_nI (n := 0) (by decide) (by decide)) dL_law_584 ?_
      refine lv_topl (fun x25 e25 => ?_)
      refine lv_iload hx hb dL_law_585 (lv_at hl 0 rfl) ?_
      refine lv_i2l hx hb dL_law_587 rfl ?_
      refine lv_topl (fun x26 e26 => ?_)
      refine W.lcmp hx hb dL_law_588 ?_
      refine lv_topi (fun x27 e27 => ?_)
      refine lv_if_eq (tgt := 594) hx hb dL_law_589 (by decide) (fun h28 => ?_) (fun h28 => absurd (by exact e27.trans ((lg_cmp_eq _ _).mpr (e25.trans ((w9.2 (w9.1.symm.trans h24)).trans (e26.trans (congrArg Int32.toInt64 (w19.2 (w9.1.symm.trans h24)))).symm)))) h28)
      refine lv_goto (tgt := 3320) hx hb dL_law_594 (by decide) ?_
      refine W.widen (k := 600006) (n := 7302040) (Nat.le_of_ble_eq_true rfl) (Nat.le_of_ble_eq_true rfl) ?_
      exact hend _ _ _ (lv_sub hl [2, 7] rfl) hS
  · refine lv_iconst (v := 1) hx hb dL_law_523 (by decide) ?_
    refine lv_goto (tgt := 528) hx hb dL_law_524 (by decide) ?_
    refine lv_aload_n hx hb dL_law_528 rfl (lv_at hl 2 rfl) ?_
    refine mc_i (wr := [(mo, .inr (16, [.int 5, .int 5, .int th, .ref m1, .ref m2, .ref m3, .ref m4, .ref m5, .ref l1, .ref l2, .ref l3, .int (-1), .ref l4])), (m1, .inl (cm1, 25, .inl (fun _ => 0))), (m2, .inl (cm2, 25, .inl (fun _ => 0))), (m3, .inl (cm3, 25, .inl (fun _ => 0))), (m4, .inl (cm4, 25, .inl fK5)), (m5, .inl (cm5, 25, .inl fK5))]) (vx_runSW (As := [.ref x, .int (xs 1), .int (xs 2), .int 1, .ref oo]) (rest := []) ⟨hx, hb, hml, hown, hts⟩ (c_Lcost l hst D x g ca co ra rl tr f9 f10 f11 f12 f13 a1 a2 a3 a4 a5 a6 a7 a8 a9 a10 a11 ck csk cg ch csg cw cq cz cb (xs 1) (xs 2) 1 oo coo f0 H.size) (vx_cwSW 5 hts (gi_c mw_789 rfl (gi_c mw_790 rfl (gi_c mw_766 rfl (goodIn_sub il_c_Lcost (List.all_eq_true.mpr gw_c_Lcost))))) rfl rfl rfl (by decide +kernel) ⟨Nat.le_of_ble_eq_true rfl, Nat.le_of_ble_eq_true rfl⟩) (pr_S (As := [.ref x, .int (xs 1), .int (xs 2), .int 1, .ref oo]) hP hD hK hS hA hE [0, 1, 2, 3, 4, 5, 6, 7, 8, 9, 10, 11] [0, 1, 2, 3, 4, 5, 6, 7, 8, 9] rfl rfl rfl) rfl rfl hl.1 rfl (lv_room (Nat.le_of_ble_eq_true rfl)) dL_law_529 ⟨Nat.le_of_ble_eq_true rfl, Nat.le_of_ble_eq_true rfl⟩) hP hD hK hS hA [0, 1, 2, 3, 4, 5, 6, 7, 8, 9, 10, 11] [12, 13, 14, 15, 16, 17] rfl rfl (by decide) (by decide) (fun r31 u29 H locs w30 hP hD hK hS => ?_)
    have hP : va_P D vwCl [(mo, .inr (16, [.int 5, .int 5, .int th, .ref m1, .ref m2, .ref m3, .ref m4, .ref m5, .ref l1, .ref l2, .ref l3, .int (-1), .ref l4])), (m1, .inl (cm1, 25, .inl (fun _ => 0))), (m2, .inl (cm2, 25, .inl (fun _ => 0))), (m3, .inl (cm3, 25, .inl (fun _ => 0))), (m4, .inl (cm4, 25, .inl fK5)), (m5, .inl (cm5, 25, .inl fK5)), (oo, .inl (coo, 1, .inr (.inl u29)))] H := hP
    have hD : va_D (lw_A s) [(mo, .inr (16, [.int 5, .int 5, .int th, .ref m1, .ref m2, .ref m3, .ref m4, .ref m5, .ref l1, .ref l2, .ref l3, .int (-1), .ref l4])), (m1, .inl (cm1, 25, .inl (fun _ => 0))), (m2, .inl (cm2, 25, .inl (fun _ => 0))), (m3, .inl (cm3, 25, .inl (fun _ => 0))), (m4, .inl (cm4, 25, .inl fK5)), (m5, .inl (cm5, 25, .inl fK5)), (oo, .inl (coo, 1, .inr (.inl u29)))] := hD
    have hK : va_K D vwCl [(ck, .char), (csk, .char), (cg, .int), (ch, .int), (csg, .int), (cw, .int), (cq, .int), (cz, .boolean), (cb, .int), (coo, .long), (cm1, .int), (cm2, .int), (cm3, .int), (cm4, .char), (cm5, .char)] s := hK
    refine lv_istore (lv' := [(6, .int r31), (5, .int 0), (4, .ref od), (3, .ref oo), (2, .ref mo), (1, .ref x), (0, .ref b)]) hx hb dL_law_532 hl (by decide) rfl (fun ls hl => ?_)
    refine lv_aload_n hx hb dL_law_534 rfl (lv_at hl 4 rfl) ?_
    refine lv_aload_n hx hb dL_law_535 rfl (lv_at hl 6 rfl) ?_
    refine lv_iload hx hb dL_law_536 (lv_at hl 1 rfl) ?_
    refine lv_iconst (v := 1) hx hb dL_law_538 (by decide) ?_
    refine lv_iadd hx hb dL_law_539 ?_
    refine lv_topi (fun x32 e32 => ?_)
    obtain rfl : x32 = 1 := e32.trans (by decide)
    refine va_sld hx hb hX hbl hbA hS (vp_in_nI (n := 1) (by decide) (by decide)) dL_law_540 ?_
    refine lv_topi (fun x33 e33 => ?_)
    obtain rfl : x33 = xs 1 := e33
    refine lv_aload_n hx hb dL_law_541 rfl (lv_at hl 6 rfl) ?_
    refine lv_iload hx hb dL_law_542 (lv_at hl 1 rfl) ?_
    refine lv_iconst (v := 2) hx hb dL_law_544 (by decide) ?_
    refine lv_iadd hx hb dL_law_545 ?_
    refine lv_topi (fun x34 e34 => ?_)
    obtain rfl : x34 = 2 := e34.trans (by decide)
    refine va_sld hx hb hX hbl hbA hS (vp_in_nI (n := 2) (by decide) (by decide)) dL_law_546 ?_
    refine lv_topi (fun x35 e35 => ?_)
    obtain rfl : x35 = xs 2 := e35
    refine lv_aload_n hx hb dL_law_547 rfl (lv_at hl 6 rfl) ?_
    refine lv_iload hx hb dL_law_548 (lv_at hl 1 rfl) ?_
    refine lv_iconst (v := 3) hx hb dL_law_550 (by decide) ?_
    refine lv_iadd hx hb dL_law_551 ?_
    refine lv_topi (fun x36 e36 => ?_)
    obtain rfl : x36 = 3 := e36.trans (by decide)
    refine va_sld hx hb hX hbl hbA hS (vp_in_nI (n := 3) (by decide) (by decide)) dL_law_552 ?_
    refine lv_topi (fun x37 e37 => ?_)
    obtain rfl : x37 = xs 3 := e37
    refine lv_if_eq (tgt := 560) hx hb dL_law_553 (by decide) (fun h38 => absurd h38 (by exact h7)) (fun h38 => ?_)
    refine lv_iconst (v := 1) hx hb dL_law_556 (by decide) ?_
    refine lv_goto (tgt := 561) hx hb dL_law_557 (by decide) ?_
    refine mc_i (wr := [(oo, .inl (coo, 1, .inr (.inl u29)))]) (va_runV (As := [.int (xs 1), .int (xs 2), .int 1]) (rest := []) ⟨hx, hb, hml, hown, hts⟩ (c_mcost l hst D mo th m1 m2 m3 m4 m5 l1 l2 l3 l4 cm1 cm2 cm3 cm4 cm5 (xs 1) (xs 2) 1 H.size) (cwV 3 hts (gi_c mw_791 rfl (gi_c mw_792 rfl (gi_c mw_793 rfl (gi_c mw_481 rfl (goodIn_sub il_c_mcost (List.all_eq_true.mpr gw_c_mcost)))))) rfl rfl rfl (by decide +kernel) ⟨Nat.le_of_ble_eq_true rfl, Nat.le_of_ble_eq_true rfl⟩) (pr_V (As := [.int (xs 1), .int (xs 2), .int 1]) (b := mo) (C := RX9) hP hD hK hS hA hE [0, 1, 2, 3, 4, 5] [10, 11, 12, 13, 14] rfl rfl rfl 0 16 rfl rfl rfl) rfl rfl hl.1 rfl (lv_room (Nat.le_of_ble_eq_true rfl)) dL_law_561 ⟨Nat.le_of_ble_eq_true rfl, Nat.le_of_ble_eq_true rfl⟩) hP hD hK hS hA [0, 1, 2, 3, 4, 5] [6] rfl rfl (by decide) (by decide) (fun r41 u39 H locs w40 hP hD hK hS => ?_)
    have hP : va_P D vwCl [(oo, .inl (coo, 1, .inr (.inl u29))), (mo, .inr (16, [.int (u39.2.2 0), .int (u39.2.2 1), .int u39.1, .ref (u39.2.1 0), .ref (u39.2.1 1), .ref (u39.2.1 2), .ref (u39.2.1 3), .ref (u39.2.1 4), .ref (u39.2.1 5), .ref (u39.2.1 6), .ref (u39.2.1 7), .int (u39.2.2 2), .ref (u39.2.1 8)]))] H := hP
    have hD : va_D (lw_A s) [(oo, .inl (coo, 1, .inr (.inl u29))), (mo, .inr (16, [.int (u39.2.2 0), .int (u39.2.2 1), .int u39.1, .ref (u39.2.1 0), .ref (u39.2.1 1), .ref (u39.2.1 2), .ref (u39.2.1 3), .ref (u39.2.1 4), .ref (u39.2.1 5), .ref (u39.2.1 6), .ref (u39.2.1 7), .int (u39.2.2 2), .ref (u39.2.1 8)]))] := hD
    have hK : va_K D vwCl [(ck, .char), (csk, .char), (cg, .int), (ch, .int), (csg, .int), (cw, .int), (cq, .int), (cz, .boolean), (cb, .int), (coo, .long), (cm1, .int), (cm2, .int), (cm3, .int), (cm4, .char), (cm5, .char)] s := hK
    refine lv_istore (lv' := [(7, .int r41), (6, .int r31), (5, .int 0), (4, .ref od), (3, .ref oo), (2, .ref mo), (1, .ref x), (0, .ref b)]) hx hb dL_law_564 hl (by decide) rfl (fun ls hl => ?_)
    refine lv_aload_n hx hb dL_law_566 rfl (lv_at hl 5 rfl) ?_
    refine mc_i (wr := [(oo, .inl (coo, 1, .inr (.inl u29)))]) (va_runV (As := []) (rest := []) ⟨hx, hb, hml, hown, hts⟩ (c_thrown l hst D mo (u39.2.2 0) (u39.2.2 1) u39.1 (u39.2.1 0) (u39.2.1 1) (u39.2.1 2) (u39.2.1 3) (u39.2.1 4) (u39.2.1 5) (u39.2.1 6) (u39.2.1 7) (u39.2.2 2) (u39.2.1 8) H.size) (cwV 0 hts (gi_c mw_770 rfl (gi_c mw_771 rfl (gi_c mw_772 rfl (gi_c mw_481 rfl (goodIn_sub il_c_thrown (List.all_eq_true.mpr gw_c_thrown)))))) rfl rfl rfl (by decide +kernel) ⟨Nat.le_of_ble_eq_true rfl, Nat.le_of_ble_eq_true rfl⟩) (pr_V (As := []) (b := mo) (C := RX9) hP hD hK hS hA hE [1] [] rfl rfl rfl 1 16 rfl rfl rfl) rfl rfl hl.1 rfl (lv_room (Nat.le_of_ble_eq_true rfl)) dL_law_567 ⟨Nat.le_of_ble_eq_true rfl, Nat.le_of_ble_eq_true rfl⟩) hP hD hK hS hA [1] [0] rfl rfl (by decide) (by decide) (fun r43 _ H locs w42 hP hD hK hS => ?_)
    have hP : va_P D vwCl [(oo, .inl (coo, 1, .inr (.inl u29))), (mo, .inr (16, [.int (u39.2.2 0), .int (u39.2.2 1), .int u39.1, .ref (u39.2.1 0), .ref (u39.2.1 1), .ref (u39.2.1 2), .ref (u39.2.1 3), .ref (u39.2.1 4), .ref (u39.2.1 5), .ref (u39.2.1 6), .ref (u39.2.1 7), .int (u39.2.2 2), .ref (u39.2.1 8)]))] H := hP
    have hD : va_D (lw_A s) [(oo, .inl (coo, 1, .inr (.inl u29))), (mo, .inr (16, [.int (u39.2.2 0), .int (u39.2.2 1), .int u39.1, .ref (u39.2.1 0), .ref (u39.2.1 1), .ref (u39.2.1 2), .ref (u39.2.1 3), .ref (u39.2.1 4), .ref (u39.2.1 5), .ref (u39.2.1 6), .ref (u39.2.1 7), .int (u39.2.2 2), .ref (u39.2.1 8)]))] := hD
    have hK : va_K D vwCl [(ck, .char), (csk, .char), (cg, .int), (ch, .int), (csg, .int), (cw, .int), (cq, .int), (cz, .boolean), (cb, .int), (coo, .long), (cm1, .int), (cm2, .int), (cm3, .int), (cm4, .char), (cm5, .char)] s := hK
    obtain rfl : r43 = u39.1 := w42
    refine lv_iload hx hb dL_law_570 (lv_at hl 1 rfl) ?_
    refine lv_icmp_eq (tgt := 577) hx hb dL_law_572 (by decide) (fun h44 => ?_) (fun h44 => absurd (by exact (w40.1).trans w30.1.symm) h44)
    refine lv_iload hx hb dL_law_577 (lv_at hl 1 rfl) ?_
    refine lv_if_ne (tgt := 594) hx hb dL_law_579 (by decide) (fun h45 => ?_) (fun h45 => ?_)
    · refine lv_goto (tgt := 3320) hx hb dL_law_594 (by decide) ?_
      refine W.widen (k := 600006) (n := 7302040) (Nat.le_of_ble_eq_true rfl) (Nat.le_of_ble_eq_true rfl) ?_
      exact hend _ _ _ (lv_sub hl [2, 7] rfl) hS
    · refine lv_aload_n hx hb dL_law_582 rfl (lv_at hl 4 rfl) ?_
      refine lv_iconst (v := 0) hx hb dL_law_583 (by decide) ?_
      refine va_lald hx hb hK hP 0 9 rfl rfl (vp_in_nI (n := 0) (by decide) (by decide)) dL_law_584 ?_
      refine lv_topl (fun x46 e46 => ?_)
      refine lv_iload hx hb dL_law_585 (lv_at hl 0 rfl) ?_
      refine lv_i2l hx hb dL_law_587 rfl ?_
      refine lv_topl (fun x47 e47 => ?_)
      refine W.lcmp hx hb dL_law_588 ?_
      refine lv_topi (fun x48 e48 => ?_)
      refine lv_if_eq (tgt := 594) hx hb dL_law_589 (by decide) (fun h49 => ?_) (fun h49 => absurd (by exact e48.trans ((lg_cmp_eq _ _).mpr (e46.trans ((w30.2 (w30.1.symm.trans h45)).trans (e47.trans (congrArg Int32.toInt64 (w40.2 (w30.1.symm.trans h45)))).symm)))) h49)
      refine lv_goto (tgt := 3320) hx hb dL_law_594 (by decide) ?_
      refine W.widen (k := 600006) (n := 7302040) (Nat.le_of_ble_eq_true rfl) (Nat.le_of_ble_eq_true rfl) ?_
      exact hend _ _ _ (lv_sub hl [2, 7] rfl) hS

set_option maxHeartbeats 4000000 in
set_option maxRecDepth 100000 in
/-- case 5: misled -/
theorem lc_5 (l : Launch) (hst : l.stackTraces = false) (D : va_G) {p : Program} {e : Env} {s : State} {m : MethodId} {below : List Frame} {meth : Method} {c : Code} {b : Nat} {xs : Nat → Int32} {Q : State → Prop} (hx : p.tables.exec = Jvm.exec) (hb : c.code = code) (hml : c.maxLocals = 9) (hown : s.vm.findClass RL = some m.cls) (hts : ∀ w ∈ lw_tbl, w.before #[Value.ref b] s = true) (hX : va_X b 5 xs s s.heap) (hbl : b < s.heap.size) (hE : ex_E D (lw_A s) s s.heap) (hend : lw_End p l e s m below meth c b Q) (x : Nat) (g : Nat) (ca : Nat) (co : Nat) (ra : Nat) (rl : Nat) (tr : Nat) (f9 : Nat) (f10 : Nat) (f11 : Nat) (f12 : Nat) (f13 : Nat) (a1 : Nat) (a2 : Nat) (a3 : Nat) (a4 : Nat) (a5 : Nat) (a6 : Nat) (a7 : Nat) (a8 : Nat) (a9 : Nat) (a10 : Nat) (a11 : Nat) (ck : ClassId) (csk : ClassId) (cg : ClassId) (ch : ClassId) (csg : ClassId) (cw : ClassId) (cq : ClassId) (cz : ClassId) (cb : ClassId) (oo : Nat) (coo : ClassId) (f0 : Nat → Int64) (mo : Nat) (th : Int32) (m1 : Nat) (m2 : Nat) (m3 : Nat) (m4 : Nat) (m5 : Nat) (l1 : Nat) (l2 : Nat) (l3 : Nat) (l4 : Nat) (cm1 : ClassId) (cm2 : ClassId) (cm3 : ClassId) (cm4 : ClassId) (cm5 : ClassId) (od : Nat)  {H : Heap} {locs : List Loc} {ls : Array Slot} (hl : lv_has ls 9 [(5, .int 0), (4, .ref od), (3, .ref oo), (2, .ref mo), (1, .ref x), (0, .ref b)]) (hP : va_P D vwCl [(x, .inr (13, [.ref g, .ref ca, .int 0, .ref co, .int 0, .ref ra, .int 0, .ref rl, .ref tr, .ref f9, .ref f10, .ref f11, .ref f12, .ref f13])), (g, .inr (11, [.int 25, .ref a1, .ref a2, .ref a3, .ref a4, .ref a5, .ref a6, .ref a7, .ref a8, .ref a9, .ref a10, .ref a11, .int 0, .int 0])), (a6, .inl (cw, 144, .inl (fL zL))), (a10, .inl (cq, 144, .inl (fL zL))), (a11, .inl (cz, 144, .inl (fL zL))), (a3, .inl (ck, 144, .inl okF)), (a5, .inl (csk, 144, .inl okF)), (a1, .inl (cg, 144, .inl (fun _ => 0))), (a2, .inl (ch, 144, .inl (fun _ => 0))), (a4, .inl (csg, 144, .inl (fun _ => 0))), (a9, .inl (cb, 576, .inl beF)), (oo, .inl (coo, 1, .inr (.inl f0))), (mo, .inr (16, [.int 5, .int 5, .int th, .ref m1, .ref m2, .ref m3, .ref m4, .ref m5, .ref l1, .ref l2, .ref l3, .int (-1), .ref l4])), (m1, .inl (cm1, 25, .inl (fun _ => 0))), (m2, .inl (cm2, 25, .inl (fun _ => 0))), (m3, .inl (cm3, 25, .inl (fun _ => 0))), (m4, .inl (cm4, 25, .inl fK5)), (m5, .inl (cm5, 25, .inl fK5))] H) (hD : va_D (lw_A s) [(x, .inr (13, [.ref g, .ref ca, .int 0, .ref co, .int 0, .ref ra, .int 0, .ref rl, .ref tr, .ref f9, .ref f10, .ref f11, .ref f12, .ref f13])), (g, .inr (11, [.int 25, .ref a1, .ref a2, .ref a3, .ref a4, .ref a5, .ref a6, .ref a7, .ref a8, .ref a9, .ref a10, .ref a11, .int 0, .int 0])), (a6, .inl (cw, 144, .inl (fL zL))), (a10, .inl (cq, 144, .inl (fL zL))), (a11, .inl (cz, 144, .inl (fL zL))), (a3, .inl (ck, 144, .inl okF)), (a5, .inl (csk, 144, .inl okF)), (a1, .inl (cg, 144, .inl (fun _ => 0))), (a2, .inl (ch, 144, .inl (fun _ => 0))), (a4, .inl (csg, 144, .inl (fun _ => 0))), (a9, .inl (cb, 576, .inl beF)), (oo, .inl (coo, 1, .inr (.inl f0))), (mo, .inr (16, [.int 5, .int 5, .int th, .ref m1, .ref m2, .ref m3, .ref m4, .ref m5, .ref l1, .ref l2, .ref l3, .int (-1), .ref l4])), (m1, .inl (cm1, 25, .inl (fun _ => 0))), (m2, .inl (cm2, 25, .inl (fun _ => 0))), (m3, .inl (cm3, 25, .inl (fun _ => 0))), (m4, .inl (cm4, 25, .inl fK5)), (m5, .inl (cm5, 25, .inl fK5))]) (hK : va_K D vwCl [(ck, .char), (csk, .char), (cg, .int), (ch, .int), (csg, .int), (cw, .int), (cq, .int), (cz, .boolean), (cb, .int), (coo, .long), (cm1, .int), (cm2, .int), (cm3, .int), (cm4, .char), (cm5, .char)] s) (hS : va_S (lw_A s) s.heap H locs) : W p l e room_1 s m #[Value.ref b] below meth c H locs 167 55824 Q (F0 m 597 ls []) := by
  have hA : ∀ q : Nat, s.heap.size ≤ q → lw_A s q := fun _ h => h
  have hbA : ¬ lw_A s b := Nat.not_le.mpr hbl
  refine lv_aload_n hx hb dL_law_597 rfl (lv_at hl 4 rfl) ?_
  refine lv_aload_n hx hb dL_law_598 rfl (lv_at hl 5 rfl) ?_
  refine lv_iload hx hb dL_law_599 (lv_at hl 0 rfl) ?_
  refine lv_iconst (v := 1) hx hb dL_law_601 (by decide) ?_
  refine lv_iadd hx hb dL_law_602 ?_
  refine lv_topi (fun x1 e1 => ?_)
  obtain rfl : x1 = 1 := e1.trans (by decide)
  refine va_sld hx hb hX hbl hbA hS (vp_in_nI (n := 1) (by decide) (by decide)) dL_law_603 ?_
  refine lv_topi (fun x2 e2 => ?_)
  obtain rfl : x2 = xs 1 := e2
  refine lv_aload_n hx hb dL_law_604 rfl (lv_at hl 5 rfl) ?_
  refine lv_iload hx hb dL_law_605 (lv_at hl 0 rfl) ?_
  refine lv_iconst (v := 2) hx hb dL_law_607 (by decide) ?_
  refine lv_iadd hx hb dL_law_608 ?_
  refine lv_topi (fun x3 e3 => ?_)
  obtain rfl : x3 = 2 := e3.trans (by decide)
  refine va_sld hx hb hX hbl hbA hS (vp_in_nI (n := 2) (by decide) (by decide)) dL_law_609 ?_
  refine lv_topi (fun x4 e4 => ?_)
  obtain rfl : x4 = xs 2 := e4
  refine lv_aload_n hx hb dL_law_610 rfl (lv_at hl 2 rfl) ?_
  refine mc_i (wr := [(mo, .inr (16, [.int 5, .int 5, .int th, .ref m1, .ref m2, .ref m3, .ref m4, .ref m5, .ref l1, .ref l2, .ref l3, .int (-1), .ref l4])), (m1, .inl (cm1, 25, .inl (fun _ => 0))), (m2, .inl (cm2, 25, .inl (fun _ => 0))), (m3, .inl (cm3, 25, .inl (fun _ => 0))), (m4, .inl (cm4, 25, .inl fK5)), (m5, .inl (cm5, 25, .inl fK5))]) (vx_runSW (As := [.ref x, .int (xs 1), .int (xs 2), .ref oo]) (rest := []) ⟨hx, hb, hml, hown, hts⟩ (c_Lmisled l hst D x g ca co ra rl tr f9 f10 f11 f12 f13 a1 a2 a3 a4 a5 a6 a7 a8 a9 a10 a11 ck csk cg ch csg cw cq cz cb (xs 1) (xs 2) oo coo f0 H.size) (vx_cwSW 4 hts (gi_c mw_794 rfl (gi_c mw_795 rfl (gi_c mw_766 rfl (goodIn_sub il_c_Lmisled (List.all_eq_true.mpr gw_c_Lmisled))))) rfl rfl rfl (by decide +kernel) ⟨Nat.le_of_ble_eq_true rfl, Nat.le_of_ble_eq_true rfl⟩) (pr_S (As := [.ref x, .int (xs 1), .int (xs 2), .ref oo]) hP hD hK hS hA hE [0, 1, 2, 3, 4, 5, 6, 7, 8, 9, 10, 11] [0, 1, 2, 3, 4, 5, 6, 7, 8, 9] rfl rfl rfl) rfl rfl hl.1 rfl (lv_room (Nat.le_of_ble_eq_true rfl)) dL_law_611 ⟨Nat.le_of_ble_eq_true rfl, Nat.le_of_ble_eq_true rfl⟩) hP hD hK hS hA [0, 1, 2, 3, 4, 5, 6, 7, 8, 9, 10, 11] [12, 13, 14, 15, 16, 17] rfl rfl (by decide) (by decide) (fun r7 u5 H locs w6 hP hD hK hS => ?_)
  have hP : va_P D vwCl [(mo, .inr (16, [.int 5, .int 5, .int th, .ref m1, .ref m2, .ref m3, .ref m4, .ref m5, .ref l1, .ref l2, .ref l3, .int (-1), .ref l4])), (m1, .inl (cm1, 25, .inl (fun _ => 0))), (m2, .inl (cm2, 25, .inl (fun _ => 0))), (m3, .inl (cm3, 25, .inl (fun _ => 0))), (m4, .inl (cm4, 25, .inl fK5)), (m5, .inl (cm5, 25, .inl fK5)), (oo, .inl (coo, 1, .inr (.inl u5)))] H := hP
  have hD : va_D (lw_A s) [(mo, .inr (16, [.int 5, .int 5, .int th, .ref m1, .ref m2, .ref m3, .ref m4, .ref m5, .ref l1, .ref l2, .ref l3, .int (-1), .ref l4])), (m1, .inl (cm1, 25, .inl (fun _ => 0))), (m2, .inl (cm2, 25, .inl (fun _ => 0))), (m3, .inl (cm3, 25, .inl (fun _ => 0))), (m4, .inl (cm4, 25, .inl fK5)), (m5, .inl (cm5, 25, .inl fK5)), (oo, .inl (coo, 1, .inr (.inl u5)))] := hD
  have hK : va_K D vwCl [(ck, .char), (csk, .char), (cg, .int), (ch, .int), (csg, .int), (cw, .int), (cq, .int), (cz, .boolean), (cb, .int), (coo, .long), (cm1, .int), (cm2, .int), (cm3, .int), (cm4, .char), (cm5, .char)] s := hK
  refine lv_istore (lv' := [(6, .int r7), (5, .int 0), (4, .ref od), (3, .ref oo), (2, .ref mo), (1, .ref x), (0, .ref b)]) hx hb dL_law_614 hl (by decide) rfl (fun ls hl => ?_)
  refine lv_aload_n hx hb dL_law_616 rfl (lv_at hl 4 rfl) ?_
  refine lv_aload_n hx hb dL_law_617 rfl (lv_at hl 6 rfl) ?_
  refine lv_iload hx hb dL_law_618 (lv_at hl 1 rfl) ?_
  refine lv_iconst (v := 1) hx hb dL_law_620 (by decide) ?_
  refine lv_iadd hx hb dL_law_621 ?_
  refine lv_topi (fun x8 e8 => ?_)
  obtain rfl : x8 = 1 := e8.trans (by decide)
  refine va_sld hx hb hX hbl hbA hS (vp_in_nI (n := 1) (by decide) (by decide)) dL_law_622 ?_
  refine lv_topi (fun x9 e9 => ?_)
  obtain rfl : x9 = xs 1 := e9
  refine lv_aload_n hx hb dL_law_623 rfl (lv_at hl 6 rfl) ?_
  refine lv_iload hx hb dL_law_624 (lv_at hl 1 rfl) ?_
  refine lv_iconst (v := 2) hx hb dL_law_626 (by decide) ?_
  refine lv_iadd hx hb dL_law_627 ?_
  refine lv_topi (fun x10 e10 => ?_)
  obtain rfl : x10 = 2 := e10.trans (by decide)
  refine va_sld hx hb hX hbl hbA hS (vp_in_nI (n := 2) (by decide) (by decide)) dL_law_628 ?_
  refine lv_topi (fun x11 e11 => ?_)
  obtain rfl : x11 = xs 2 := e11
  refine mc_i (wr := [(oo, .inl (coo, 1, .inr (.inl u5)))]) (va_runV (As := [.int (xs 1), .int (xs 2)]) (rest := []) ⟨hx, hb, hml, hown, hts⟩ (c_mmisled l hst D mo th m1 m2 m3 m4 m5 l1 l2 l3 l4 cm1 cm2 cm3 cm4 cm5 (xs 1) (xs 2) H.size) (cwV 2 hts (gi_c mw_796 rfl (gi_c mw_797 rfl (gi_c mw_798 rfl (gi_c mw_481 rfl (goodIn_sub il_c_mmisled (List.all_eq_true.mpr gw_c_mmisled)))))) rfl rfl rfl (by decide +kernel) ⟨Nat.le_of_ble_eq_true rfl, Nat.le_of_ble_eq_true rfl⟩) (pr_V (As := [.int (xs 1), .int (xs 2)]) (b := mo) (C := RX9) hP hD hK hS hA hE [0, 1, 2, 3, 4, 5] [10, 11, 12, 13, 14] rfl rfl rfl 0 16 rfl rfl rfl) rfl rfl hl.1 rfl (lv_room (Nat.le_of_ble_eq_true rfl)) dL_law_629 ⟨Nat.le_of_ble_eq_true rfl, Nat.le_of_ble_eq_true rfl⟩) hP hD hK hS hA [0, 1, 2, 3, 4, 5] [6] rfl rfl (by decide) (by decide) (fun r14 u12 H locs w13 hP hD hK hS => ?_)
  have hP : va_P D vwCl [(oo, .inl (coo, 1, .inr (.inl u5))), (mo, .inr (16, [.int (u12.2.2 0), .int (u12.2.2 1), .int u12.1, .ref (u12.2.1 0), .ref (u12.2.1 1), .ref (u12.2.1 2), .ref (u12.2.1 3), .ref (u12.2.1 4), .ref (u12.2.1 5), .ref (u12.2.1 6), .ref (u12.2.1 7), .int (u12.2.2 2), .ref (u12.2.1 8)]))] H := hP
  have hD : va_D (lw_A s) [(oo, .inl (coo, 1, .inr (.inl u5))), (mo, .inr (16, [.int (u12.2.2 0), .int (u12.2.2 1), .int u12.1, .ref (u12.2.1 0), .ref (u12.2.1 1), .ref (u12.2.1 2), .ref (u12.2.1 3), .ref (u12.2.1 4), .ref (u12.2.1 5), .ref (u12.2.1 6), .ref (u12.2.1 7), .int (u12.2.2 2), .ref (u12.2.1 8)]))] := hD
  have hK : va_K D vwCl [(ck, .char), (csk, .char), (cg, .int), (ch, .int), (csg, .int), (cw, .int), (cq, .int), (cz, .boolean), (cb, .int), (coo, .long), (cm1, .int), (cm2, .int), (cm3, .int), (cm4, .char), (cm5, .char)] s := hK
  refine lv_istore (lv' := [(7, .int r14), (6, .int r7), (5, .int 0), (4, .ref od), (3, .ref oo), (2, .ref mo), (1, .ref x), (0, .ref b)]) hx hb dL_law_632 hl (by decide) rfl (fun ls hl => ?_)
  refine lv_aload_n hx hb dL_law_634 rfl (lv_at hl 5 rfl) ?_
  refine mc_i (wr := [(oo, .inl (coo, 1, .inr (.inl u5)))]) (va_runV (As := []) (rest := []) ⟨hx, hb, hml, hown, hts⟩ (c_thrown l hst D mo (u12.2.2 0) (u12.2.2 1) u12.1 (u12.2.1 0) (u12.2.1 1) (u12.2.1 2) (u12.2.1 3) (u12.2.1 4) (u12.2.1 5) (u12.2.1 6) (u12.2.1 7) (u12.2.2 2) (u12.2.1 8) H.size) (cwV 0 hts (gi_c mw_770 rfl (gi_c mw_771 rfl (gi_c mw_772 rfl (gi_c mw_481 rfl (goodIn_sub il_c_thrown (List.all_eq_true.mpr gw_c_thrown)))))) rfl rfl rfl (by decide +kernel) ⟨Nat.le_of_ble_eq_true rfl, Nat.le_of_ble_eq_true rfl⟩) (pr_V (As := []) (b := mo) (C := RX9) hP hD hK hS hA hE [1] [] rfl rfl rfl 1 16 rfl rfl rfl) rfl rfl hl.1 rfl (lv_room (Nat.le_of_ble_eq_true rfl)) dL_law_635 ⟨Nat.le_of_ble_eq_true rfl, Nat.le_of_ble_eq_true rfl⟩) hP hD hK hS hA [1] [0] rfl rfl (by decide) (by decide) (fun r16 _ H locs w15 hP hD hK hS => ?_)
  have hP : va_P D vwCl [(oo, .inl (coo, 1, .inr (.inl u5))), (mo, .inr (16, [.int (u12.2.2 0), .int (u12.2.2 1), .int u12.1, .ref (u12.2.1 0), .ref (u12.2.1 1), .ref (u12.2.1 2), .ref (u12.2.1 3), .ref (u12.2.1 4), .ref (u12.2.1 5), .ref (u12.2.1 6), .ref (u12.2.1 7), .int (u12.2.2 2), .ref (u12.2.1 8)]))] H := hP
  have hD : va_D (lw_A s) [(oo, .inl (coo, 1, .inr (.inl u5))), (mo, .inr (16, [.int (u12.2.2 0), .int (u12.2.2 1), .int u12.1, .ref (u12.2.1 0), .ref (u12.2.1 1), .ref (u12.2.1 2), .ref (u12.2.1 3), .ref (u12.2.1 4), .ref (u12.2.1 5), .ref (u12.2.1 6), .ref (u12.2.1 7), .int (u12.2.2 2), .ref (u12.2.1 8)]))] := hD
  have hK : va_K D vwCl [(ck, .char), (csk, .char), (cg, .int), (ch, .int), (csg, .int), (cw, .int), (cq, .int), (cz, .boolean), (cb, .int), (coo, .long), (cm1, .int), (cm2, .int), (cm3, .int), (cm4, .char), (cm5, .char)] s := hK
  obtain rfl : r16 = u12.1 := w15
  refine lv_iload hx hb dL_law_638 (lv_at hl 1 rfl) ?_
  refine lv_icmp_eq (tgt := 645) hx hb dL_law_640 (by decide) (fun h17 => ?_) (fun h17 => absurd (by exact (w13.1).trans w6.1.symm) h17)
  refine lv_iload hx hb dL_law_645 (lv_at hl 1 rfl) ?_
  refine lv_if_ne (tgt := 662) hx hb dL_law_647 (by decide) (fun h18 => ?_) (fun h18 => ?_)
  · refine lv_goto (tgt := 3320) hx hb dL_law_662 (by decide) ?_
    refine W.widen (k := 600006) (n := 7302040) (Nat.le_of_ble_eq_true rfl) (Nat.le_of_ble_eq_true rfl) ?_
    exact hend _ _ _ (lv_sub hl [2, 7] rfl) hS
  · refine lv_aload_n hx hb dL_law_650 rfl (lv_at hl 4 rfl) ?_
    refine lv_iconst (v := 0) hx hb dL_law_651 (by decide) ?_
    refine va_lald hx hb hK hP 0 9 rfl rfl (vp_in_nI (n := 0) (by decide) (by decide)) dL_law_652 ?_
    refine lv_topl (fun x19 e19 => ?_)
    refine lv_iload hx hb dL_law_653 (lv_at hl 0 rfl) ?_
    refine lv_i2l hx hb dL_law_655 rfl ?_
    refine lv_topl (fun x20 e20 => ?_)
    refine W.lcmp hx hb dL_law_656 ?_
    refine lv_topi (fun x21 e21 => ?_)
    refine lv_if_eq (tgt := 662) hx hb dL_law_657 (by decide) (fun h22 => ?_) (fun h22 => absurd (by exact e21.trans ((lg_cmp_eq _ _).mpr (e19.trans ((w6.2 (w6.1.symm.trans h18)).trans (e20.trans (congrArg Int32.toInt64 (w13.2 (w6.1.symm.trans h18)))).symm)))) h22)
    refine lv_goto (tgt := 3320) hx hb dL_law_662 (by decide) ?_
    refine W.widen (k := 600006) (n := 7302040) (Nat.le_of_ble_eq_true rfl) (Nat.le_of_ble_eq_true rfl) ?_
    exact hend _ _ _ (lv_sub hl [2, 7] rfl) hS

set_option maxHeartbeats 4000000 in
set_option maxRecDepth 100000 in
/-- case 6: control -/
theorem lc_6 (l : Launch) (hst : l.stackTraces = false) (D : va_G) {p : Program} {e : Env} {s : State} {m : MethodId} {below : List Frame} {meth : Method} {c : Code} {b : Nat} {xs : Nat → Int32} {Q : State → Prop} (hx : p.tables.exec = Jvm.exec) (hb : c.code = code) (hml : c.maxLocals = 9) (hown : s.vm.findClass RL = some m.cls) (hts : ∀ w ∈ lw_tbl, w.before #[Value.ref b] s = true) (hX : va_X b 5 xs s s.heap) (hbl : b < s.heap.size) (hE : ex_E D (lw_A s) s s.heap) (hend : lw_End p l e s m below meth c b Q) (x : Nat) (g : Nat) (ca : Nat) (co : Nat) (ra : Nat) (rl : Nat) (tr : Nat) (f9 : Nat) (f10 : Nat) (f11 : Nat) (f12 : Nat) (f13 : Nat) (a1 : Nat) (a2 : Nat) (a3 : Nat) (a4 : Nat) (a5 : Nat) (a6 : Nat) (a7 : Nat) (a8 : Nat) (a9 : Nat) (a10 : Nat) (a11 : Nat) (fC : Nat → Option Nat) (po : Nat) (ck : ClassId) (cpo : ClassId) (oo : Nat) (coo : ClassId) (f0 : Nat → Int64) (mo : Nat) (th : Int32) (m1 : Nat) (m2 : Nat) (m3 : Nat) (m4 : Nat) (m5 : Nat) (l1 : Nat) (l2 : Nat) (l3 : Nat) (l4 : Nat) (cm1 : ClassId) (cm4 : ClassId) (od : Nat) (hC : fC 0 = some po) {H : Heap} {locs : List Loc} {ls : Array Slot} (hl : lv_has ls 9 [(5, .int 0), (4, .ref od), (3, .ref oo), (2, .ref mo), (1, .ref x), (0, .ref b)]) (hP : va_P D vwCl [(x, .inr (13, [.ref g, .ref ca, .int 0, .ref co, .int 0, .ref ra, .int 0, .ref rl, .ref tr, .ref f9, .ref f10, .ref f11, .ref f12, .ref f13])), (g, .inr (11, [.int 25, .ref a1, .ref a2, .ref a3, .ref a4, .ref a5, .ref a6, .ref a7, .ref a8, .ref a9, .ref a10, .ref a11, .int 0, .int 0])), (a3, .inl (ck, 144, .inl okF)), (ca, .inl (cpo, 12, .inr (.inr (.inr (.inr fC))))), (po, .inr (8, [.int 0, .int 0, .int 0, .int 0, .int 0, .int 0])), (oo, .inl (coo, 1, .inr (.inl f0))), (mo, .inr (16, [.int 5, .int 5, .int th, .ref m1, .ref m2, .ref m3, .ref m4, .ref m5, .ref l1, .ref l2, .ref l3, .int (-1), .ref l4])), (m1, .inl (cm1, 25, .inl (fun _ => 0))), (m4, .inl (cm4, 25, .inl fK5)), (l1, .inr (5, [.int 1, .ref (D.1 1000), .int 0]))] H) (hD : va_D (lw_A s) [(x, .inr (13, [.ref g, .ref ca, .int 0, .ref co, .int 0, .ref ra, .int 0, .ref rl, .ref tr, .ref f9, .ref f10, .ref f11, .ref f12, .ref f13])), (g, .inr (11, [.int 25, .ref a1, .ref a2, .ref a3, .ref a4, .ref a5, .ref a6, .ref a7, .ref a8, .ref a9, .ref a10, .ref a11, .int 0, .int 0])), (a3, .inl (ck, 144, .inl okF)), (ca, .inl (cpo, 12, .inr (.inr (.inr (.inr fC))))), (po, .inr (8, [.int 0, .int 0, .int 0, .int 0, .int 0, .int 0])), (oo, .inl (coo, 1, .inr (.inl f0))), (mo, .inr (16, [.int 5, .int 5, .int th, .ref m1, .ref m2, .ref m3, .ref m4, .ref m5, .ref l1, .ref l2, .ref l3, .int (-1), .ref l4])), (m1, .inl (cm1, 25, .inl (fun _ => 0))), (m4, .inl (cm4, 25, .inl fK5)), (l1, .inr (5, [.int 1, .ref (D.1 1000), .int 0]))]) (hK : va_K D vwCl [(ck, .char), (cpo, .object "ControlWood$Post"), (coo, .long), (cm1, .int), (cm4, .char)] s) (hS : va_S (lw_A s) s.heap H locs) : W p l e room_1 s m #[Value.ref b] below meth c H locs 167 55824 Q (F0 m 665 ls []) := by
  have hA : ∀ q : Nat, s.heap.size ≤ q → lw_A s q := fun _ h => h
  have hbA : ¬ lw_A s b := Nat.not_le.mpr hbl
  refine lv_aload_n hx hb dL_law_665 rfl (lv_at hl 4 rfl) ?_
  refine lv_aload_n hx hb dL_law_666 rfl (lv_at hl 5 rfl) ?_
  refine lv_iload hx hb dL_law_667 (lv_at hl 0 rfl) ?_
  refine lv_iconst (v := 1) hx hb dL_law_669 (by decide) ?_
  refine lv_iadd hx hb dL_law_670 ?_
  refine lv_topi (fun x1 e1 => ?_)
  obtain rfl : x1 = 1 := e1.trans (by decide)
  refine va_sld hx hb hX hbl hbA hS (vp_in_nI (n := 1) (by decide) (by decide)) dL_law_671 ?_
  refine lv_topi (fun x2 e2 => ?_)
  obtain rfl : x2 = xs 1 := e2
  refine lv_aload_n hx hb dL_law_672 rfl (lv_at hl 5 rfl) ?_
  refine lv_iload hx hb dL_law_673 (lv_at hl 0 rfl) ?_
  refine lv_iconst (v := 2) hx hb dL_law_675 (by decide) ?_
  refine lv_iadd hx hb dL_law_676 ?_
  refine lv_topi (fun x3 e3 => ?_)
  obtain rfl : x3 = 2 := e3.trans (by decide)
  refine va_sld hx hb hX hbl hbA hS (vp_in_nI (n := 2) (by decide) (by decide)) dL_law_677 ?_
  refine lv_topi (fun x4 e4 => ?_)
  obtain rfl : x4 = xs 2 := e4
  refine lv_aload_n hx hb dL_law_678 rfl (lv_at hl 5 rfl) ?_
  refine lv_iload hx hb dL_law_679 (lv_at hl 0 rfl) ?_
  refine lv_iconst (v := 3) hx hb dL_law_681 (by decide) ?_
  refine lv_iadd hx hb dL_law_682 ?_
  refine lv_topi (fun x5 e5 => ?_)
  obtain rfl : x5 = 3 := e5.trans (by decide)
  refine va_sld hx hb hX hbl hbA hS (vp_in_nI (n := 3) (by decide) (by decide)) dL_law_683 ?_
  refine lv_topi (fun x6 e6 => ?_)
  obtain rfl : x6 = xs 3 := e6
  refine lv_aload_n hx hb dL_law_684 rfl (lv_at hl 2 rfl) ?_
  refine mc_i (wr := [(mo, .inr (16, [.int 5, .int 5, .int th, .ref m1, .ref m2, .ref m3, .ref m4, .ref m5, .ref l1, .ref l2, .ref l3, .int (-1), .ref l4])), (m1, .inl (cm1, 25, .inl (fun _ => 0))), (m4, .inl (cm4, 25, .inl fK5)), (l1, .inr (5, [.int 1, .ref (D.1 1000), .int 0]))]) (vx_runSW (As := [.ref x, .int (xs 1), .int (xs 2), .int (xs 3), .ref oo]) (rest := []) ⟨hx, hb, hml, hown, hts⟩ (c_Lcontrol l hst D x g ca co ra rl tr f9 f10 f11 f12 f13 a1 a2 a3 a4 a5 a6 a7 a8 a9 a10 a11 fC po ck cpo (xs 1) (xs 2) (xs 3) oo coo f0 H.size (by assumption)) (vx_cwSW 5 hts (gi_c mw_799 rfl (gi_c mw_800 rfl (gi_c mw_766 rfl (goodIn_sub il_c_Lcontrol (List.all_eq_true.mpr gw_c_Lcontrol))))) rfl rfl rfl (by decide +kernel) ⟨Nat.le_of_ble_eq_true rfl, Nat.le_of_ble_eq_true rfl⟩) (pr_S (As := [.ref x, .int (xs 1), .int (xs 2), .int (xs 3), .ref oo]) hP hD hK hS hA hE [0, 1, 2, 3, 4, 5] [0, 1, 2] rfl rfl rfl) rfl rfl hl.1 rfl (lv_room (Nat.le_of_ble_eq_true rfl)) dL_law_685 ⟨Nat.le_of_ble_eq_true rfl, Nat.le_of_ble_eq_true rfl⟩) hP hD hK hS hA [0, 1, 2, 3, 4, 5] [6, 7, 8, 9] rfl rfl (by decide) (by decide) (fun r9 u7 H locs w8 hP hD hK hS => ?_)
  have hP : va_P D vwCl [(mo, .inr (16, [.int 5, .int 5, .int th, .ref m1, .ref m2, .ref m3, .ref m4, .ref m5, .ref l1, .ref l2, .ref l3, .int (-1), .ref l4])), (m1, .inl (cm1, 25, .inl (fun _ => 0))), (m4, .inl (cm4, 25, .inl fK5)), (l1, .inr (5, [.int 1, .ref (D.1 1000), .int 0])), (oo, .inl (coo, 1, .inr (.inl u7)))] H := hP
  have hD : va_D (lw_A s) [(mo, .inr (16, [.int 5, .int 5, .int th, .ref m1, .ref m2, .ref m3, .ref m4, .ref m5, .ref l1, .ref l2, .ref l3, .int (-1), .ref l4])), (m1, .inl (cm1, 25, .inl (fun _ => 0))), (m4, .inl (cm4, 25, .inl fK5)), (l1, .inr (5, [.int 1, .ref (D.1 1000), .int 0])), (oo, .inl (coo, 1, .inr (.inl u7)))] := hD
  have hK : va_K D vwCl [(ck, .char), (cpo, .object "ControlWood$Post"), (coo, .long), (cm1, .int), (cm4, .char)] s := hK
  refine lv_istore (lv' := [(6, .int r9), (5, .int 0), (4, .ref od), (3, .ref oo), (2, .ref mo), (1, .ref x), (0, .ref b)]) hx hb dL_law_688 hl (by decide) rfl (fun ls hl => ?_)
  refine lv_aload_n hx hb dL_law_690 rfl (lv_at hl 4 rfl) ?_
  refine lv_aload_n hx hb dL_law_691 rfl (lv_at hl 6 rfl) ?_
  refine lv_iload hx hb dL_law_692 (lv_at hl 1 rfl) ?_
  refine lv_iconst (v := 1) hx hb dL_law_694 (by decide) ?_
  refine lv_iadd hx hb dL_law_695 ?_
  refine lv_topi (fun x10 e10 => ?_)
  obtain rfl : x10 = 1 := e10.trans (by decide)
  refine va_sld hx hb hX hbl hbA hS (vp_in_nI (n := 1) (by decide) (by decide)) dL_law_696 ?_
  refine lv_topi (fun x11 e11 => ?_)
  obtain rfl : x11 = xs 1 := e11
  refine lv_aload_n hx hb dL_law_697 rfl (lv_at hl 6 rfl) ?_
  refine lv_iload hx hb dL_law_698 (lv_at hl 1 rfl) ?_
  refine lv_iconst (v := 2) hx hb dL_law_700 (by decide) ?_
  refine lv_iadd hx hb dL_law_701 ?_
  refine lv_topi (fun x12 e12 => ?_)
  obtain rfl : x12 = 2 := e12.trans (by decide)
  refine va_sld hx hb hX hbl hbA hS (vp_in_nI (n := 2) (by decide) (by decide)) dL_law_702 ?_
  refine lv_topi (fun x13 e13 => ?_)
  obtain rfl : x13 = xs 2 := e13
  refine lv_aload_n hx hb dL_law_703 rfl (lv_at hl 6 rfl) ?_
  refine lv_iload hx hb dL_law_704 (lv_at hl 1 rfl) ?_
  refine lv_iconst (v := 3) hx hb dL_law_706 (by decide) ?_
  refine lv_iadd hx hb dL_law_707 ?_
  refine lv_topi (fun x14 e14 => ?_)
  obtain rfl : x14 = 3 := e14.trans (by decide)
  refine va_sld hx hb hX hbl hbA hS (vp_in_nI (n := 3) (by decide) (by decide)) dL_law_708 ?_
  refine lv_topi (fun x15 e15 => ?_)
  obtain rfl : x15 = xs 3 := e15
  refine mc_i (wr := [(oo, .inl (coo, 1, .inr (.inl u7)))]) (va_runV (As := [.int (xs 1), .int (xs 2), .int (xs 3)]) (rest := []) ⟨hx, hb, hml, hown, hts⟩ (c_mcontrol l hst D mo th m1 m2 m3 m4 m5 l1 l2 l3 l4 cm1 cm4 (xs 1) (xs 2) (xs 3) H.size) (cwV 3 hts (gi_c mw_801 rfl (gi_c mw_802 rfl (gi_c mw_803 rfl (gi_c mw_481 rfl (goodIn_sub il_c_mcontrol (List.all_eq_true.mpr gw_c_mcontrol)))))) rfl rfl rfl (by decide +kernel) ⟨Nat.le_of_ble_eq_true rfl, Nat.le_of_ble_eq_true rfl⟩) (pr_V (As := [.int (xs 1), .int (xs 2), .int (xs 3)]) (b := mo) (C := RX9) hP hD hK hS hA hE [0, 1, 2, 3] [3, 4] rfl rfl rfl 0 16 rfl rfl rfl) rfl rfl hl.1 rfl (lv_room (Nat.le_of_ble_eq_true rfl)) dL_law_709 ⟨Nat.le_of_ble_eq_true rfl, Nat.le_of_ble_eq_true rfl⟩) hP hD hK hS hA [0, 1, 2, 3] [4] rfl rfl (by decide) (by decide) (fun r18 u16 H locs w17 hP hD hK hS => ?_)
  have hP : va_P D vwCl [(oo, .inl (coo, 1, .inr (.inl u7))), (mo, .inr (16, [.int (u16.2.2 0), .int (u16.2.2 1), .int u16.1, .ref (u16.2.1 0), .ref (u16.2.1 1), .ref (u16.2.1 2), .ref (u16.2.1 3), .ref (u16.2.1 4), .ref (u16.2.1 5), .ref (u16.2.1 6), .ref (u16.2.1 7), .int (u16.2.2 2), .ref (u16.2.1 8)]))] H := hP
  have hD : va_D (lw_A s) [(oo, .inl (coo, 1, .inr (.inl u7))), (mo, .inr (16, [.int (u16.2.2 0), .int (u16.2.2 1), .int u16.1, .ref (u16.2.1 0), .ref (u16.2.1 1), .ref (u16.2.1 2), .ref (u16.2.1 3), .ref (u16.2.1 4), .ref (u16.2.1 5), .ref (u16.2.1 6), .ref (u16.2.1 7), .int (u16.2.2 2), .ref (u16.2.1 8)]))] := hD
  have hK : va_K D vwCl [(ck, .char), (cpo, .object "ControlWood$Post"), (coo, .long), (cm1, .int), (cm4, .char)] s := hK
  refine lv_istore (lv' := [(7, .int r18), (6, .int r9), (5, .int 0), (4, .ref od), (3, .ref oo), (2, .ref mo), (1, .ref x), (0, .ref b)]) hx hb dL_law_712 hl (by decide) rfl (fun ls hl => ?_)
  refine lv_aload_n hx hb dL_law_714 rfl (lv_at hl 5 rfl) ?_
  refine mc_i (wr := [(oo, .inl (coo, 1, .inr (.inl u7)))]) (va_runV (As := []) (rest := []) ⟨hx, hb, hml, hown, hts⟩ (c_thrown l hst D mo (u16.2.2 0) (u16.2.2 1) u16.1 (u16.2.1 0) (u16.2.1 1) (u16.2.1 2) (u16.2.1 3) (u16.2.1 4) (u16.2.1 5) (u16.2.1 6) (u16.2.1 7) (u16.2.2 2) (u16.2.1 8) H.size) (cwV 0 hts (gi_c mw_770 rfl (gi_c mw_771 rfl (gi_c mw_772 rfl (gi_c mw_481 rfl (goodIn_sub il_c_thrown (List.all_eq_true.mpr gw_c_thrown)))))) rfl rfl rfl (by decide +kernel) ⟨Nat.le_of_ble_eq_true rfl, Nat.le_of_ble_eq_true rfl⟩) (pr_V (As := []) (b := mo) (C := RX9) hP hD hK hS hA hE [1] [] rfl rfl rfl 1 16 rfl rfl rfl) rfl rfl hl.1 rfl (lv_room (Nat.le_of_ble_eq_true rfl)) dL_law_715 ⟨Nat.le_of_ble_eq_true rfl, Nat.le_of_ble_eq_true rfl⟩) hP hD hK hS hA [1] [0] rfl rfl (by decide) (by decide) (fun r20 _ H locs w19 hP hD hK hS => ?_)
  have hP : va_P D vwCl [(oo, .inl (coo, 1, .inr (.inl u7))), (mo, .inr (16, [.int (u16.2.2 0), .int (u16.2.2 1), .int u16.1, .ref (u16.2.1 0), .ref (u16.2.1 1), .ref (u16.2.1 2), .ref (u16.2.1 3), .ref (u16.2.1 4), .ref (u16.2.1 5), .ref (u16.2.1 6), .ref (u16.2.1 7), .int (u16.2.2 2), .ref (u16.2.1 8)]))] H := hP
  have hD : va_D (lw_A s) [(oo, .inl (coo, 1, .inr (.inl u7))), (mo, .inr (16, [.int (u16.2.2 0), .int (u16.2.2 1), .int u16.1, .ref (u16.2.1 0), .ref (u16.2.1 1), .ref (u16.2.1 2), .ref (u16.2.1 3), .ref (u16.2.1 4), .ref (u16.2.1 5), .ref (u16.2.1 6), .ref (u16.2.1 7), .int (u16.2.2 2), .ref (u16.2.1 8)]))] := hD
  have hK : va_K D vwCl [(ck, .char), (cpo, .object "ControlWood$Post"), (coo, .long), (cm1, .int), (cm4, .char)] s := hK
  obtain rfl : r20 = u16.1 := w19
  refine lv_iload hx hb dL_law_718 (lv_at hl 1 rfl) ?_
  refine lv_icmp_eq (tgt := 725) hx hb dL_law_720 (by decide) (fun h21 => ?_) (fun h21 => absurd (by exact (w17.1).trans w8.1.symm) h21)
  refine lv_iload hx hb dL_law_725 (lv_at hl 1 rfl) ?_
  refine lv_if_ne (tgt := 742) hx hb dL_law_727 (by decide) (fun h22 => ?_) (fun h22 => ?_)
  · refine lv_goto (tgt := 3320) hx hb dL_law_742 (by decide) ?_
    refine W.widen (k := 600006) (n := 7302040) (Nat.le_of_ble_eq_true rfl) (Nat.le_of_ble_eq_true rfl) ?_
    exact hend _ _ _ (lv_sub hl [2, 7] rfl) hS
  · refine lv_aload_n hx hb dL_law_730 rfl (lv_at hl 4 rfl) ?_
    refine lv_iconst (v := 0) hx hb dL_law_731 (by decide) ?_
    refine va_lald hx hb hK hP 0 2 rfl rfl (vp_in_nI (n := 0) (by decide) (by decide)) dL_law_732 ?_
    refine lv_topl (fun x23 e23 => ?_)
    refine lv_iload hx hb dL_law_733 (lv_at hl 0 rfl) ?_
    refine lv_i2l hx hb dL_law_735 rfl ?_
    refine lv_topl (fun x24 e24 => ?_)
    refine W.lcmp hx hb dL_law_736 ?_
    refine lv_topi (fun x25 e25 => ?_)
    refine lv_if_eq (tgt := 742) hx hb dL_law_737 (by decide) (fun h26 => ?_) (fun h26 => absurd (by exact e25.trans ((lg_cmp_eq _ _).mpr (e23.trans ((w8.2 (w8.1.symm.trans h22)).trans (e24.trans (congrArg Int32.toInt64 (w17.2 (w8.1.symm.trans h22)))).symm)))) h26)
    refine lv_goto (tgt := 3320) hx hb dL_law_742 (by decide) ?_
    refine W.widen (k := 600006) (n := 7302040) (Nat.le_of_ble_eq_true rfl) (Nat.le_of_ble_eq_true rfl) ?_
    exact hend _ _ _ (lv_sub hl [2, 7] rfl) hS

set_option maxHeartbeats 4000000 in
set_option maxRecDepth 100000 in
/-- case 7: areNear -/
theorem lc_7 (l : Launch) (hst : l.stackTraces = false) (D : va_G) {p : Program} {e : Env} {s : State} {m : MethodId} {below : List Frame} {meth : Method} {c : Code} {b : Nat} {xs : Nat → Int32} {Q : State → Prop} (hx : p.tables.exec = Jvm.exec) (hb : c.code = code) (hml : c.maxLocals = 9) (hown : s.vm.findClass RL = some m.cls) (hts : ∀ w ∈ lw_tbl, w.before #[Value.ref b] s = true) (hX : va_X b 5 xs s s.heap) (hbl : b < s.heap.size) (hE : ex_E D (lw_A s) s s.heap) (hend : lw_End p l e s m below meth c b Q) (x : Nat) (g : Nat) (ca : Nat) (co : Nat) (ra : Nat) (rl : Nat) (tr : Nat) (f9 : Nat) (f10 : Nat) (f11 : Nat) (f12 : Nat) (f13 : Nat) (oo : Nat) (coo : ClassId) (f0 : Nat → Int64) (mo : Nat) (th : Int32) (m1 : Nat) (m2 : Nat) (m3 : Nat) (m4 : Nat) (m5 : Nat) (l1 : Nat) (l2 : Nat) (l3 : Nat) (l4 : Nat) (od : Nat)  {H : Heap} {locs : List Loc} {ls : Array Slot} (hl : lv_has ls 9 [(5, .int 0), (4, .ref od), (3, .ref oo), (2, .ref mo), (1, .ref x), (0, .ref b)]) (hP : va_P D vwCl [(x, .inr (13, [.ref g, .ref ca, .int 0, .ref co, .int 0, .ref ra, .int 0, .ref rl, .ref tr, .ref f9, .ref f10, .ref f11, .ref f12, .ref f13])), (oo, .inl (coo, 1, .inr (.inl f0))), (mo, .inr (16, [.int 5, .int 5, .int th, .ref m1, .ref m2, .ref m3, .ref m4, .ref m5, .ref l1, .ref l2, .ref l3, .int (-1), .ref l4])), (l1, .inr (5, [.int 1, .ref (D.1 1000), .int 0]))] H) (hD : va_D (lw_A s) [(x, .inr (13, [.ref g, .ref ca, .int 0, .ref co, .int 0, .ref ra, .int 0, .ref rl, .ref tr, .ref f9, .ref f10, .ref f11, .ref f12, .ref f13])), (oo, .inl (coo, 1, .inr (.inl f0))), (mo, .inr (16, [.int 5, .int 5, .int th, .ref m1, .ref m2, .ref m3, .ref m4, .ref m5, .ref l1, .ref l2, .ref l3, .int (-1), .ref l4])), (l1, .inr (5, [.int 1, .ref (D.1 1000), .int 0]))]) (hK : va_K D vwCl [(coo, .long)] s) (hS : va_S (lw_A s) s.heap H locs) : W p l e room_1 s m #[Value.ref b] below meth c H locs 167 55824 Q (F0 m 745 ls []) := by
  have hA : ∀ q : Nat, s.heap.size ≤ q → lw_A s q := fun _ h => h
  have hbA : ¬ lw_A s b := Nat.not_le.mpr hbl
  refine lv_aload_n hx hb dL_law_745 rfl (lv_at hl 4 rfl) ?_
  refine lv_aload_n hx hb dL_law_746 rfl (lv_at hl 5 rfl) ?_
  refine lv_iload hx hb dL_law_747 (lv_at hl 0 rfl) ?_
  refine lv_iconst (v := 1) hx hb dL_law_749 (by decide) ?_
  refine lv_iadd hx hb dL_law_750 ?_
  refine lv_topi (fun x1 e1 => ?_)
  obtain rfl : x1 = 1 := e1.trans (by decide)
  refine va_sld hx hb hX hbl hbA hS (vp_in_nI (n := 1) (by decide) (by decide)) dL_law_751 ?_
  refine lv_topi (fun x2 e2 => ?_)
  obtain rfl : x2 = xs 1 := e2
  refine lv_aload_n hx hb dL_law_752 rfl (lv_at hl 5 rfl) ?_
  refine lv_iload hx hb dL_law_753 (lv_at hl 0 rfl) ?_
  refine lv_iconst (v := 2) hx hb dL_law_755 (by decide) ?_
  refine lv_iadd hx hb dL_law_756 ?_
  refine lv_topi (fun x3 e3 => ?_)
  obtain rfl : x3 = 2 := e3.trans (by decide)
  refine va_sld hx hb hX hbl hbA hS (vp_in_nI (n := 2) (by decide) (by decide)) dL_law_757 ?_
  refine lv_topi (fun x4 e4 => ?_)
  obtain rfl : x4 = xs 2 := e4
  refine lv_aload_n hx hb dL_law_758 rfl (lv_at hl 2 rfl) ?_
  refine mc_i (wr := [(mo, .inr (16, [.int 5, .int 5, .int th, .ref m1, .ref m2, .ref m3, .ref m4, .ref m5, .ref l1, .ref l2, .ref l3, .int (-1), .ref l4])), (l1, .inr (5, [.int 1, .ref (D.1 1000), .int 0]))]) (vx_runSW (As := [.ref x, .int (xs 1), .int (xs 2), .ref oo]) (rest := []) ⟨hx, hb, hml, hown, hts⟩ (c_LareNear l hst D x g ca co ra rl tr f9 f10 f11 f12 f13 (xs 1) (xs 2) oo coo f0 H.size) (vx_cwSW 4 hts (gi_c mw_804 rfl (gi_c mw_805 rfl (gi_c mw_766 rfl (goodIn_sub il_c_LareNear (List.all_eq_true.mpr gw_c_LareNear))))) rfl rfl rfl (by decide +kernel) ⟨Nat.le_of_ble_eq_true rfl, Nat.le_of_ble_eq_true rfl⟩) (pr_S (As := [.ref x, .int (xs 1), .int (xs 2), .ref oo]) hP hD hK hS hA hE [0, 1] [0] rfl rfl rfl) rfl rfl hl.1 rfl (lv_room (Nat.le_of_ble_eq_true rfl)) dL_law_759 ⟨Nat.le_of_ble_eq_true rfl, Nat.le_of_ble_eq_true rfl⟩) hP hD hK hS hA [0, 1] [2, 3] rfl rfl (by decide) (by decide) (fun r7 u5 H locs w6 hP hD hK hS => ?_)
  have hP : va_P D vwCl [(mo, .inr (16, [.int 5, .int 5, .int th, .ref m1, .ref m2, .ref m3, .ref m4, .ref m5, .ref l1, .ref l2, .ref l3, .int (-1), .ref l4])), (l1, .inr (5, [.int 1, .ref (D.1 1000), .int 0])), (oo, .inl (coo, 1, .inr (.inl u5)))] H := hP
  have hD : va_D (lw_A s) [(mo, .inr (16, [.int 5, .int 5, .int th, .ref m1, .ref m2, .ref m3, .ref m4, .ref m5, .ref l1, .ref l2, .ref l3, .int (-1), .ref l4])), (l1, .inr (5, [.int 1, .ref (D.1 1000), .int 0])), (oo, .inl (coo, 1, .inr (.inl u5)))] := hD
  have hK : va_K D vwCl [(coo, .long)] s := hK
  refine lv_istore (lv' := [(6, .int r7), (5, .int 0), (4, .ref od), (3, .ref oo), (2, .ref mo), (1, .ref x), (0, .ref b)]) hx hb dL_law_762 hl (by decide) rfl (fun ls hl => ?_)
  refine lv_aload_n hx hb dL_law_764 rfl (lv_at hl 4 rfl) ?_
  refine lv_aload_n hx hb dL_law_765 rfl (lv_at hl 6 rfl) ?_
  refine lv_iload hx hb dL_law_766 (lv_at hl 1 rfl) ?_
  refine lv_iconst (v := 1) hx hb dL_law_768 (by decide) ?_
  refine lv_iadd hx hb dL_law_769 ?_
  refine lv_topi (fun x8 e8 => ?_)
  obtain rfl : x8 = 1 := e8.trans (by decide)
  refine va_sld hx hb hX hbl hbA hS (vp_in_nI (n := 1) (by decide) (by decide)) dL_law_770 ?_
  refine lv_topi (fun x9 e9 => ?_)
  obtain rfl : x9 = xs 1 := e9
  refine lv_aload_n hx hb dL_law_771 rfl (lv_at hl 6 rfl) ?_
  refine lv_iload hx hb dL_law_772 (lv_at hl 1 rfl) ?_
  refine lv_iconst (v := 2) hx hb dL_law_774 (by decide) ?_
  refine lv_iadd hx hb dL_law_775 ?_
  refine lv_topi (fun x10 e10 => ?_)
  obtain rfl : x10 = 2 := e10.trans (by decide)
  refine va_sld hx hb hX hbl hbA hS (vp_in_nI (n := 2) (by decide) (by decide)) dL_law_776 ?_
  refine lv_topi (fun x11 e11 => ?_)
  obtain rfl : x11 = xs 2 := e11
  refine mc_i (wr := [(oo, .inl (coo, 1, .inr (.inl u5)))]) (va_runV (As := [.int (xs 1), .int (xs 2)]) (rest := []) ⟨hx, hb, hml, hown, hts⟩ (c_mareNear l hst D mo th m1 m2 m3 m4 m5 l1 l2 l3 l4 (xs 1) (xs 2) H.size) (cwV 2 hts (gi_c mw_806 rfl (gi_c mw_807 rfl (gi_c mw_808 rfl (gi_c mw_481 rfl (goodIn_sub il_c_mareNear (List.all_eq_true.mpr gw_c_mareNear)))))) rfl rfl rfl (by decide +kernel) ⟨Nat.le_of_ble_eq_true rfl, Nat.le_of_ble_eq_true rfl⟩) (pr_V (As := [.int (xs 1), .int (xs 2)]) (b := mo) (C := RX9) hP hD hK hS hA hE [0, 1] [] rfl rfl rfl 0 16 rfl rfl rfl) rfl rfl hl.1 rfl (lv_room (Nat.le_of_ble_eq_true rfl)) dL_law_777 ⟨Nat.le_of_ble_eq_true rfl, Nat.le_of_ble_eq_true rfl⟩) hP hD hK hS hA [0, 1] [2] rfl rfl (by decide) (by decide) (fun r14 u12 H locs w13 hP hD hK hS => ?_)
  have hP : va_P D vwCl [(oo, .inl (coo, 1, .inr (.inl u5))), (mo, .inr (16, [.int (u12.2.2 0), .int (u12.2.2 1), .int u12.1, .ref (u12.2.1 0), .ref (u12.2.1 1), .ref (u12.2.1 2), .ref (u12.2.1 3), .ref (u12.2.1 4), .ref (u12.2.1 5), .ref (u12.2.1 6), .ref (u12.2.1 7), .int (u12.2.2 2), .ref (u12.2.1 8)]))] H := hP
  have hD : va_D (lw_A s) [(oo, .inl (coo, 1, .inr (.inl u5))), (mo, .inr (16, [.int (u12.2.2 0), .int (u12.2.2 1), .int u12.1, .ref (u12.2.1 0), .ref (u12.2.1 1), .ref (u12.2.1 2), .ref (u12.2.1 3), .ref (u12.2.1 4), .ref (u12.2.1 5), .ref (u12.2.1 6), .ref (u12.2.1 7), .int (u12.2.2 2), .ref (u12.2.1 8)]))] := hD
  have hK : va_K D vwCl [(coo, .long)] s := hK
  refine lv_istore (lv' := [(7, .int r14), (6, .int r7), (5, .int 0), (4, .ref od), (3, .ref oo), (2, .ref mo), (1, .ref x), (0, .ref b)]) hx hb dL_law_780 hl (by decide) rfl (fun ls hl => ?_)
  refine lv_aload_n hx hb dL_law_782 rfl (lv_at hl 5 rfl) ?_
  refine mc_i (wr := [(oo, .inl (coo, 1, .inr (.inl u5)))]) (va_runV (As := []) (rest := []) ⟨hx, hb, hml, hown, hts⟩ (c_thrown l hst D mo (u12.2.2 0) (u12.2.2 1) u12.1 (u12.2.1 0) (u12.2.1 1) (u12.2.1 2) (u12.2.1 3) (u12.2.1 4) (u12.2.1 5) (u12.2.1 6) (u12.2.1 7) (u12.2.2 2) (u12.2.1 8) H.size) (cwV 0 hts (gi_c mw_770 rfl (gi_c mw_771 rfl (gi_c mw_772 rfl (gi_c mw_481 rfl (goodIn_sub il_c_thrown (List.all_eq_true.mpr gw_c_thrown)))))) rfl rfl rfl (by decide +kernel) ⟨Nat.le_of_ble_eq_true rfl, Nat.le_of_ble_eq_true rfl⟩) (pr_V (As := []) (b := mo) (C := RX9) hP hD hK hS hA hE [1] [] rfl rfl rfl 1 16 rfl rfl rfl) rfl rfl hl.1 rfl (lv_room (Nat.le_of_ble_eq_true rfl)) dL_law_783 ⟨Nat.le_of_ble_eq_true rfl, Nat.le_of_ble_eq_true rfl⟩) hP hD hK hS hA [1] [0] rfl rfl (by decide) (by decide) (fun r16 _ H locs w15 hP hD hK hS => ?_)
  have hP : va_P D vwCl [(oo, .inl (coo, 1, .inr (.inl u5))), (mo, .inr (16, [.int (u12.2.2 0), .int (u12.2.2 1), .int u12.1, .ref (u12.2.1 0), .ref (u12.2.1 1), .ref (u12.2.1 2), .ref (u12.2.1 3), .ref (u12.2.1 4), .ref (u12.2.1 5), .ref (u12.2.1 6), .ref (u12.2.1 7), .int (u12.2.2 2), .ref (u12.2.1 8)]))] H := hP
  have hD : va_D (lw_A s) [(oo, .inl (coo, 1, .inr (.inl u5))), (mo, .inr (16, [.int (u12.2.2 0), .int (u12.2.2 1), .int u12.1, .ref (u12.2.1 0), .ref (u12.2.1 1), .ref (u12.2.1 2), .ref (u12.2.1 3), .ref (u12.2.1 4), .ref (u12.2.1 5), .ref (u12.2.1 6), .ref (u12.2.1 7), .int (u12.2.2 2), .ref (u12.2.1 8)]))] := hD
  have hK : va_K D vwCl [(coo, .long)] s := hK
  obtain rfl : r16 = u12.1 := w15
  refine lv_iload hx hb dL_law_786 (lv_at hl 1 rfl) ?_
  refine lv_icmp_eq (tgt := 793) hx hb dL_law_788 (by decide) (fun h17 => ?_) (fun h17 => absurd (by exact (w13).trans w6.1.symm) h17)
  refine lv_iload hx hb dL_law_793 (lv_at hl 1 rfl) ?_
  refine lv_if_ne (tgt := 817) hx hb dL_law_795 (by decide) (fun h18 => ?_) (fun h18 => absurd h18 (by exact fun q9 => absurd (show (1 : Int32) = 0 from w6.1.symm.trans q9) (by decide)))
  refine lv_goto (tgt := 3320) hx hb dL_law_817 (by decide) ?_
  refine W.widen (k := 600006) (n := 7302040) (Nat.le_of_ble_eq_true rfl) (Nat.le_of_ble_eq_true rfl) ?_
  exact hend _ _ _ (lv_sub hl [2, 7] rfl) hS

set_option maxHeartbeats 4000000 in
set_option maxRecDepth 100000 in
/-- case 8: course -/
theorem lc_8 (l : Launch) (hst : l.stackTraces = false) (D : va_G) {p : Program} {e : Env} {s : State} {m : MethodId} {below : List Frame} {meth : Method} {c : Code} {b : Nat} {xs : Nat → Int32} {Q : State → Prop} (hx : p.tables.exec = Jvm.exec) (hb : c.code = code) (hml : c.maxLocals = 9) (hown : s.vm.findClass RL = some m.cls) (hts : ∀ w ∈ lw_tbl, w.before #[Value.ref b] s = true) (hX : va_X b 5 xs s s.heap) (hbl : b < s.heap.size) (hE : ex_E D (lw_A s) s s.heap) (hend : lw_End p l e s m below meth c b Q) (x : Nat) (g : Nat) (ca : Nat) (co : Nat) (ra : Nat) (rl : Nat) (tr : Nat) (f9 : Nat) (f10 : Nat) (f11 : Nat) (f12 : Nat) (f13 : Nat) (a1 : Nat) (a2 : Nat) (a3 : Nat) (a4 : Nat) (a5 : Nat) (a6 : Nat) (a7 : Nat) (a8 : Nat) (a9 : Nat) (a10 : Nat) (a11 : Nat) (fR : Nat → Option Nat) (r0 : Nat) (rc : Nat) (rt : Nat) (rv : Nat) (cro : ClassId) (crv : ClassId) (oo : Nat) (coo : ClassId) (f0 : Nat → Int64) (mo : Nat) (th : Int32) (m1 : Nat) (m2 : Nat) (m3 : Nat) (m4 : Nat) (m5 : Nat) (l1 : Nat) (l2 : Nat) (l3 : Nat) (l4 : Nat) (cm1 : ClassId) (od : Nat) (hR : fR 0 = some r0) {H : Heap} {locs : List Loc} {ls : Array Slot} (hl : lv_has ls 9 [(5, .int 0), (4, .ref od), (3, .ref oo), (2, .ref mo), (1, .ref x), (0, .ref b)]) (hP : va_P D vwCl [(x, .inr (13, [.ref g, .ref ca, .int 0, .ref co, .int 0, .ref ra, .int 0, .ref rl, .ref tr, .ref f9, .ref f10, .ref f11, .ref f12, .ref f13])), (g, .inr (11, [.int 25, .ref a1, .ref a2, .ref a3, .ref a4, .ref a5, .ref a6, .ref a7, .ref a8, .ref a9, .ref a10, .ref a11, .int 0, .int 0])), (co, .inl (cro, 6, .inr (.inr (.inr (.inr fR))))), (r0, .inr (10, [.int 0, .int 0, .ref rc, .ref rt, .ref rv])), (rv, .inl (crv, 10, .inl (fun _ => 0))), (oo, .inl (coo, 1, .inr (.inl f0))), (mo, .inr (16, [.int 5, .int 5, .int th, .ref m1, .ref m2, .ref m3, .ref m4, .ref m5, .ref l1, .ref l2, .ref l3, .int (-1), .ref l4])), (m1, .inl (cm1, 25, .inl (fun _ => 0))), (l2, .inr (5, [.int 1, .ref (D.1 1000), .int 0]))] H) (hD : va_D (lw_A s) [(x, .inr (13, [.ref g, .ref ca, .int 0, .ref co, .int 0, .ref ra, .int 0, .ref rl, .ref tr, .ref f9, .ref f10, .ref f11, .ref f12, .ref f13])), (g, .inr (11, [.int 25, .ref a1, .ref a2, .ref a3, .ref a4, .ref a5, .ref a6, .ref a7, .ref a8, .ref a9, .ref a10, .ref a11, .int 0, .int 0])), (co, .inl (cro, 6, .inr (.inr (.inr (.inr fR))))), (r0, .inr (10, [.int 0, .int 0, .ref rc, .ref rt, .ref rv])), (rv, .inl (crv, 10, .inl (fun _ => 0))), (oo, .inl (coo, 1, .inr (.inl f0))), (mo, .inr (16, [.int 5, .int 5, .int th, .ref m1, .ref m2, .ref m3, .ref m4, .ref m5, .ref l1, .ref l2, .ref l3, .int (-1), .ref l4])), (m1, .inl (cm1, 25, .inl (fun _ => 0))), (l2, .inr (5, [.int 1, .ref (D.1 1000), .int 0]))]) (hK : va_K D vwCl [(cro, .object "ControlWood$Route"), (crv, .boolean), (coo, .long), (cm1, .int)] s) (hS : va_S (lw_A s) s.heap H locs) : W p l e room_1 s m #[Value.ref b] below meth c H locs 167 55824 Q (F0 m 820 ls []) := by
  have hA : ∀ q : Nat, s.heap.size ≤ q → lw_A s q := fun _ h => h
  have hbA : ¬ lw_A s b := Nat.not_le.mpr hbl
  refine lv_aload_n hx hb dL_law_820 rfl (lv_at hl 4 rfl) ?_
  refine lv_aload_n hx hb dL_law_821 rfl (lv_at hl 5 rfl) ?_
  refine lv_iload hx hb dL_law_822 (lv_at hl 0 rfl) ?_
  refine lv_iconst (v := 1) hx hb dL_law_824 (by decide) ?_
  refine lv_iadd hx hb dL_law_825 ?_
  refine lv_topi (fun x1 e1 => ?_)
  obtain rfl : x1 = 1 := e1.trans (by decide)
  refine va_sld hx hb hX hbl hbA hS (vp_in_nI (n := 1) (by decide) (by decide)) dL_law_826 ?_
  refine lv_topi (fun x2 e2 => ?_)
  obtain rfl : x2 = xs 1 := e2
  refine lv_aload_n hx hb dL_law_827 rfl (lv_at hl 2 rfl) ?_
  refine mc_i (wr := [(mo, .inr (16, [.int 5, .int 5, .int th, .ref m1, .ref m2, .ref m3, .ref m4, .ref m5, .ref l1, .ref l2, .ref l3, .int (-1), .ref l4])), (m1, .inl (cm1, 25, .inl (fun _ => 0))), (l2, .inr (5, [.int 1, .ref (D.1 1000), .int 0]))]) (vx_runSW (As := [.ref x, .int (xs 1), .ref oo]) (rest := []) ⟨hx, hb, hml, hown, hts⟩ (c_Lcourse l hst D x g ca co ra rl tr f9 f10 f11 f12 f13 a1 a2 a3 a4 a5 a6 a7 a8 a9 a10 a11 fR r0 rc rt rv cro crv (xs 1) oo coo f0 H.size (by assumption)) (vx_cwSW 3 hts (gi_c mw_809 rfl (gi_c mw_810 rfl (gi_c mw_766 rfl (goodIn_sub il_c_Lcourse (List.all_eq_true.mpr gw_c_Lcourse))))) rfl rfl rfl (by decide +kernel) ⟨Nat.le_of_ble_eq_true rfl, Nat.le_of_ble_eq_true rfl⟩) (pr_S (As := [.ref x, .int (xs 1), .ref oo]) hP hD hK hS hA hE [0, 1, 2, 3, 4, 5] [0, 1, 2] rfl rfl rfl) rfl rfl hl.1 rfl (lv_room (Nat.le_of_ble_eq_true rfl)) dL_law_828 ⟨Nat.le_of_ble_eq_true rfl, Nat.le_of_ble_eq_true rfl⟩) hP hD hK hS hA [0, 1, 2, 3, 4, 5] [6, 7, 8] rfl rfl (by decide) (by decide) (fun r5 u3 H locs w4 hP hD hK hS => ?_)
  have hP : va_P D vwCl [(mo, .inr (16, [.int 5, .int 5, .int th, .ref m1, .ref m2, .ref m3, .ref m4, .ref m5, .ref l1, .ref l2, .ref l3, .int (-1), .ref l4])), (m1, .inl (cm1, 25, .inl (fun _ => 0))), (l2, .inr (5, [.int 1, .ref (D.1 1000), .int 0])), (oo, .inl (coo, 1, .inr (.inl u3)))] H := hP
  have hD : va_D (lw_A s) [(mo, .inr (16, [.int 5, .int 5, .int th, .ref m1, .ref m2, .ref m3, .ref m4, .ref m5, .ref l1, .ref l2, .ref l3, .int (-1), .ref l4])), (m1, .inl (cm1, 25, .inl (fun _ => 0))), (l2, .inr (5, [.int 1, .ref (D.1 1000), .int 0])), (oo, .inl (coo, 1, .inr (.inl u3)))] := hD
  have hK : va_K D vwCl [(cro, .object "ControlWood$Route"), (crv, .boolean), (coo, .long), (cm1, .int)] s := hK
  refine lv_istore (lv' := [(6, .int r5), (5, .int 0), (4, .ref od), (3, .ref oo), (2, .ref mo), (1, .ref x), (0, .ref b)]) hx hb dL_law_831 hl (by decide) rfl (fun ls hl => ?_)
  refine lv_aload_n hx hb dL_law_833 rfl (lv_at hl 4 rfl) ?_
  refine lv_aload_n hx hb dL_law_834 rfl (lv_at hl 6 rfl) ?_
  refine lv_iload hx hb dL_law_835 (lv_at hl 1 rfl) ?_
  refine lv_iconst (v := 1) hx hb dL_law_837 (by decide) ?_
  refine lv_iadd hx hb dL_law_838 ?_
  refine lv_topi (fun x6 e6 => ?_)
  obtain rfl : x6 = 1 := e6.trans (by decide)
  refine va_sld hx hb hX hbl hbA hS (vp_in_nI (n := 1) (by decide) (by decide)) dL_law_839 ?_
  refine lv_topi (fun x7 e7 => ?_)
  obtain rfl : x7 = xs 1 := e7
  refine mc_i (wr := [(oo, .inl (coo, 1, .inr (.inl u3)))]) (va_runV (As := [.int (xs 1)]) (rest := []) ⟨hx, hb, hml, hown, hts⟩ (c_mcourse l hst D mo th m1 m2 m3 m4 m5 l1 l2 l3 l4 cm1 (xs 1) H.size) (cwV 1 hts (gi_c mw_811 rfl (gi_c mw_812 rfl (gi_c mw_813 rfl (gi_c mw_481 rfl (goodIn_sub il_c_mcourse (List.all_eq_true.mpr gw_c_mcourse)))))) rfl rfl rfl (by decide +kernel) ⟨Nat.le_of_ble_eq_true rfl, Nat.le_of_ble_eq_true rfl⟩) (pr_V (As := [.int (xs 1)]) (b := mo) (C := RX9) hP hD hK hS hA hE [0, 1, 2] [3] rfl rfl rfl 0 16 rfl rfl rfl) rfl rfl hl.1 rfl (lv_room (Nat.le_of_ble_eq_true rfl)) dL_law_840 ⟨Nat.le_of_ble_eq_true rfl, Nat.le_of_ble_eq_true rfl⟩) hP hD hK hS hA [0, 1, 2] [3] rfl rfl (by decide) (by decide) (fun r10 u8 H locs w9 hP hD hK hS => ?_)
  have hP : va_P D vwCl [(oo, .inl (coo, 1, .inr (.inl u3))), (mo, .inr (16, [.int (u8.2.2 0), .int (u8.2.2 1), .int u8.1, .ref (u8.2.1 0), .ref (u8.2.1 1), .ref (u8.2.1 2), .ref (u8.2.1 3), .ref (u8.2.1 4), .ref (u8.2.1 5), .ref (u8.2.1 6), .ref (u8.2.1 7), .int (u8.2.2 2), .ref (u8.2.1 8)]))] H := hP
  have hD : va_D (lw_A s) [(oo, .inl (coo, 1, .inr (.inl u3))), (mo, .inr (16, [.int (u8.2.2 0), .int (u8.2.2 1), .int u8.1, .ref (u8.2.1 0), .ref (u8.2.1 1), .ref (u8.2.1 2), .ref (u8.2.1 3), .ref (u8.2.1 4), .ref (u8.2.1 5), .ref (u8.2.1 6), .ref (u8.2.1 7), .int (u8.2.2 2), .ref (u8.2.1 8)]))] := hD
  have hK : va_K D vwCl [(cro, .object "ControlWood$Route"), (crv, .boolean), (coo, .long), (cm1, .int)] s := hK
  refine lv_istore (lv' := [(7, .int r10), (6, .int r5), (5, .int 0), (4, .ref od), (3, .ref oo), (2, .ref mo), (1, .ref x), (0, .ref b)]) hx hb dL_law_843 hl (by decide) rfl (fun ls hl => ?_)
  refine lv_aload_n hx hb dL_law_845 rfl (lv_at hl 5 rfl) ?_
  refine mc_i (wr := [(oo, .inl (coo, 1, .inr (.inl u3)))]) (va_runV (As := []) (rest := []) ⟨hx, hb, hml, hown, hts⟩ (c_thrown l hst D mo (u8.2.2 0) (u8.2.2 1) u8.1 (u8.2.1 0) (u8.2.1 1) (u8.2.1 2) (u8.2.1 3) (u8.2.1 4) (u8.2.1 5) (u8.2.1 6) (u8.2.1 7) (u8.2.2 2) (u8.2.1 8) H.size) (cwV 0 hts (gi_c mw_770 rfl (gi_c mw_771 rfl (gi_c mw_772 rfl (gi_c mw_481 rfl (goodIn_sub il_c_thrown (List.all_eq_true.mpr gw_c_thrown)))))) rfl rfl rfl (by decide +kernel) ⟨Nat.le_of_ble_eq_true rfl, Nat.le_of_ble_eq_true rfl⟩) (pr_V (As := []) (b := mo) (C := RX9) hP hD hK hS hA hE [1] [] rfl rfl rfl 1 16 rfl rfl rfl) rfl rfl hl.1 rfl (lv_room (Nat.le_of_ble_eq_true rfl)) dL_law_846 ⟨Nat.le_of_ble_eq_true rfl, Nat.le_of_ble_eq_true rfl⟩) hP hD hK hS hA [1] [0] rfl rfl (by decide) (by decide) (fun r12 _ H locs w11 hP hD hK hS => ?_)
  have hP : va_P D vwCl [(oo, .inl (coo, 1, .inr (.inl u3))), (mo, .inr (16, [.int (u8.2.2 0), .int (u8.2.2 1), .int u8.1, .ref (u8.2.1 0), .ref (u8.2.1 1), .ref (u8.2.1 2), .ref (u8.2.1 3), .ref (u8.2.1 4), .ref (u8.2.1 5), .ref (u8.2.1 6), .ref (u8.2.1 7), .int (u8.2.2 2), .ref (u8.2.1 8)]))] H := hP
  have hD : va_D (lw_A s) [(oo, .inl (coo, 1, .inr (.inl u3))), (mo, .inr (16, [.int (u8.2.2 0), .int (u8.2.2 1), .int u8.1, .ref (u8.2.1 0), .ref (u8.2.1 1), .ref (u8.2.1 2), .ref (u8.2.1 3), .ref (u8.2.1 4), .ref (u8.2.1 5), .ref (u8.2.1 6), .ref (u8.2.1 7), .int (u8.2.2 2), .ref (u8.2.1 8)]))] := hD
  have hK : va_K D vwCl [(cro, .object "ControlWood$Route"), (crv, .boolean), (coo, .long), (cm1, .int)] s := hK
  obtain rfl : r12 = u8.1 := w11
  refine lv_iload hx hb dL_law_849 (lv_at hl 1 rfl) ?_
  refine lv_icmp_eq (tgt := 856) hx hb dL_law_851 (by decide) (fun h13 => ?_) (fun h13 => absurd (by exact (w9.1).trans w4.1.symm) h13)
  refine lv_iload hx hb dL_law_856 (lv_at hl 1 rfl) ?_
  refine lv_if_ne (tgt := 873) hx hb dL_law_858 (by decide) (fun h14 => ?_) (fun h14 => ?_)
  · refine lv_goto (tgt := 3320) hx hb dL_law_873 (by decide) ?_
    refine W.widen (k := 600006) (n := 7302040) (Nat.le_of_ble_eq_true rfl) (Nat.le_of_ble_eq_true rfl) ?_
    exact hend _ _ _ (lv_sub hl [2, 7] rfl) hS
  · refine lv_aload_n hx hb dL_law_861 rfl (lv_at hl 4 rfl) ?_
    refine lv_iconst (v := 0) hx hb dL_law_862 (by decide) ?_
    refine va_lald hx hb hK hP 0 2 rfl rfl (vp_in_nI (n := 0) (by decide) (by decide)) dL_law_863 ?_
    refine lv_topl (fun x15 e15 => ?_)
    refine lv_iload hx hb dL_law_864 (lv_at hl 0 rfl) ?_
    refine lv_i2l hx hb dL_law_866 rfl ?_
    refine lv_topl (fun x16 e16 => ?_)
    refine W.lcmp hx hb dL_law_867 ?_
    refine lv_topi (fun x17 e17 => ?_)
    refine lv_if_eq (tgt := 873) hx hb dL_law_868 (by decide) (fun h18 => ?_) (fun h18 => absurd (by exact e17.trans ((lg_cmp_eq _ _).mpr (e15.trans ((w4.2 (w4.1.symm.trans h14)).trans (e16.trans (congrArg Int32.toInt64 (w9.2 (w4.1.symm.trans h14)))).symm)))) h18)
    refine lv_goto (tgt := 3320) hx hb dL_law_873 (by decide) ?_
    refine W.widen (k := 600006) (n := 7302040) (Nat.le_of_ble_eq_true rfl) (Nat.le_of_ble_eq_true rfl) ?_
    exact hend _ _ _ (lv_sub hl [2, 7] rfl) hS

set_option maxHeartbeats 4000000 in
set_option maxRecDepth 100000 in
/-- case 9: add -/
theorem lc_9 (l : Launch) (hst : l.stackTraces = false) (D : va_G) {p : Program} {e : Env} {s : State} {m : MethodId} {below : List Frame} {meth : Method} {c : Code} {b : Nat} {xs : Nat → Int32} {Q : State → Prop} (hx : p.tables.exec = Jvm.exec) (hb : c.code = code) (hml : c.maxLocals = 9) (hown : s.vm.findClass RL = some m.cls) (hts : ∀ w ∈ lw_tbl, w.before #[Value.ref b] s = true) (hX : va_X b 5 xs s s.heap) (hbl : b < s.heap.size) (hE : ex_E D (lw_A s) s s.heap) (hend : lw_End p l e s m below meth c b Q) (x : Nat) (g : Nat) (ca : Nat) (co : Nat) (ra : Nat) (rl : Nat) (tr : Nat) (f9 : Nat) (f10 : Nat) (f11 : Nat) (f12 : Nat) (f13 : Nat) (oo : Nat) (coo : ClassId) (f0 : Nat → Int64) (mo : Nat) (th : Int32) (m1 : Nat) (m2 : Nat) (m3 : Nat) (m4 : Nat) (m5 : Nat) (l1 : Nat) (l2 : Nat) (l3 : Nat) (l4 : Nat) (od : Nat)  {H : Heap} {locs : List Loc} {ls : Array Slot} (hl : lv_has ls 9 [(5, .int 0), (4, .ref od), (3, .ref oo), (2, .ref mo), (1, .ref x), (0, .ref b)]) (hP : va_P D vwCl [(x, .inr (13, [.ref g, .ref ca, .int 0, .ref co, .int 0, .ref ra, .int 0, .ref rl, .ref tr, .ref f9, .ref f10, .ref f11, .ref f12, .ref f13])), (oo, .inl (coo, 1, .inr (.inl f0))), (mo, .inr (16, [.int 5, .int 5, .int th, .ref m1, .ref m2, .ref m3, .ref m4, .ref m5, .ref l1, .ref l2, .ref l3, .int (-1), .ref l4])), (l2, .inr (5, [.int 1, .ref (D.1 1000), .int 0]))] H) (hD : va_D (lw_A s) [(x, .inr (13, [.ref g, .ref ca, .int 0, .ref co, .int 0, .ref ra, .int 0, .ref rl, .ref tr, .ref f9, .ref f10, .ref f11, .ref f12, .ref f13])), (oo, .inl (coo, 1, .inr (.inl f0))), (mo, .inr (16, [.int 5, .int 5, .int th, .ref m1, .ref m2, .ref m3, .ref m4, .ref m5, .ref l1, .ref l2, .ref l3, .int (-1), .ref l4])), (l2, .inr (5, [.int 1, .ref (D.1 1000), .int 0]))]) (hK : va_K D vwCl [(coo, .long)] s) (hS : va_S (lw_A s) s.heap H locs) : W p l e room_1 s m #[Value.ref b] below meth c H locs 167 55824 Q (F0 m 876 ls []) := by
  have hA : ∀ q : Nat, s.heap.size ≤ q → lw_A s q := fun _ h => h
  have hbA : ¬ lw_A s b := Nat.not_le.mpr hbl
  refine lv_aload_n hx hb dL_law_876 rfl (lv_at hl 4 rfl) ?_
  refine lv_aload_n hx hb dL_law_877 rfl (lv_at hl 5 rfl) ?_
  refine lv_iload hx hb dL_law_878 (lv_at hl 0 rfl) ?_
  refine lv_iconst (v := 1) hx hb dL_law_880 (by decide) ?_
  refine lv_iadd hx hb dL_law_881 ?_
  refine lv_topi (fun x1 e1 => ?_)
  obtain rfl : x1 = 1 := e1.trans (by decide)
  refine va_sld hx hb hX hbl hbA hS (vp_in_nI (n := 1) (by decide) (by decide)) dL_law_882 ?_
  refine lv_topi (fun x2 e2 => ?_)
  obtain rfl : x2 = xs 1 := e2
  refine lv_aload_n hx hb dL_law_883 rfl (lv_at hl 5 rfl) ?_
  refine lv_iload hx hb dL_law_884 (lv_at hl 0 rfl) ?_
  refine lv_iconst (v := 2) hx hb dL_law_886 (by decide) ?_
  refine lv_iadd hx hb dL_law_887 ?_
  refine lv_topi (fun x3 e3 => ?_)
  obtain rfl : x3 = 2 := e3.trans (by decide)
  refine va_sld hx hb hX hbl hbA hS (vp_in_nI (n := 2) (by decide) (by decide)) dL_law_888 ?_
  refine lv_topi (fun x4 e4 => ?_)
  obtain rfl : x4 = xs 2 := e4
  refine lv_aload_n hx hb dL_law_889 rfl (lv_at hl 2 rfl) ?_
  refine mc_i (wr := [(mo, .inr (16, [.int 5, .int 5, .int th, .ref m1, .ref m2, .ref m3, .ref m4, .ref m5, .ref l1, .ref l2, .ref l3, .int (-1), .ref l4])), (l2, .inr (5, [.int 1, .ref (D.1 1000), .int 0]))]) (vx_runSW (As := [.ref x, .int (xs 1), .int (xs 2), .ref oo]) (rest := []) ⟨hx, hb, hml, hown, hts⟩ (c_Ladd l hst D x g ca co ra rl tr f9 f10 f11 f12 f13 (xs 1) (xs 2) oo coo f0 H.size) (vx_cwSW 4 hts (gi_c mw_814 rfl (gi_c mw_815 rfl (gi_c mw_766 rfl (goodIn_sub il_c_Ladd (List.all_eq_true.mpr gw_c_Ladd))))) rfl rfl rfl (by decide +kernel) ⟨Nat.le_of_ble_eq_true rfl, Nat.le_of_ble_eq_true rfl⟩) (pr_S (As := [.ref x, .int (xs 1), .int (xs 2), .ref oo]) hP hD hK hS hA hE [0, 1] [0] rfl rfl rfl) rfl rfl hl.1 rfl (lv_room (Nat.le_of_ble_eq_true rfl)) dL_law_890 ⟨Nat.le_of_ble_eq_true rfl, Nat.le_of_ble_eq_true rfl⟩) hP hD hK hS hA [0, 1] [2, 3] rfl rfl (by decide) (by decide) (fun r7 u5 H locs w6 hP hD hK hS => ?_)
  have hP : va_P D vwCl [(mo, .inr (16, [.int 5, .int 5, .int th, .ref m1, .ref m2, .ref m3, .ref m4, .ref m5, .ref l1, .ref l2, .ref l3, .int (-1), .ref l4])), (l2, .inr (5, [.int 1, .ref (D.1 1000), .int 0])), (oo, .inl (coo, 1, .inr (.inl u5)))] H := hP
  have hD : va_D (lw_A s) [(mo, .inr (16, [.int 5, .int 5, .int th, .ref m1, .ref m2, .ref m3, .ref m4, .ref m5, .ref l1, .ref l2, .ref l3, .int (-1), .ref l4])), (l2, .inr (5, [.int 1, .ref (D.1 1000), .int 0])), (oo, .inl (coo, 1, .inr (.inl u5)))] := hD
  have hK : va_K D vwCl [(coo, .long)] s := hK
  refine lv_istore (lv' := [(6, .int r7), (5, .int 0), (4, .ref od), (3, .ref oo), (2, .ref mo), (1, .ref x), (0, .ref b)]) hx hb dL_law_893 hl (by decide) rfl (fun ls hl => ?_)
  refine lv_aload_n hx hb dL_law_895 rfl (lv_at hl 4 rfl) ?_
  refine lv_aload_n hx hb dL_law_896 rfl (lv_at hl 6 rfl) ?_
  refine lv_iload hx hb dL_law_897 (lv_at hl 1 rfl) ?_
  refine lv_iconst (v := 1) hx hb dL_law_899 (by decide) ?_
  refine lv_iadd hx hb dL_law_900 ?_
  refine lv_topi (fun x8 e8 => ?_)
  obtain rfl : x8 = 1 := e8.trans (by decide)
  refine va_sld hx hb hX hbl hbA hS (vp_in_nI (n := 1) (by decide) (by decide)) dL_law_901 ?_
  refine lv_topi (fun x9 e9 => ?_)
  obtain rfl : x9 = xs 1 := e9
  refine lv_aload_n hx hb dL_law_902 rfl (lv_at hl 6 rfl) ?_
  refine lv_iload hx hb dL_law_903 (lv_at hl 1 rfl) ?_
  refine lv_iconst (v := 2) hx hb dL_law_905 (by decide) ?_
  refine lv_iadd hx hb dL_law_906 ?_
  refine lv_topi (fun x10 e10 => ?_)
  obtain rfl : x10 = 2 := e10.trans (by decide)
  refine va_sld hx hb hX hbl hbA hS (vp_in_nI (n := 2) (by decide) (by decide)) dL_law_907 ?_
  refine lv_topi (fun x11 e11 => ?_)
  obtain rfl : x11 = xs 2 := e11
  refine mc_i (wr := [(oo, .inl (coo, 1, .inr (.inl u5)))]) (va_runV (As := [.int (xs 1), .int (xs 2)]) (rest := []) ⟨hx, hb, hml, hown, hts⟩ (c_madd l hst D mo th m1 m2 m3 m4 m5 l1 l2 l3 l4 (xs 1) (xs 2) H.size) (cwV 2 hts (gi_c mw_816 rfl (gi_c mw_817 rfl (gi_c mw_818 rfl (gi_c mw_481 rfl (goodIn_sub il_c_madd (List.all_eq_true.mpr gw_c_madd)))))) rfl rfl rfl (by decide +kernel) ⟨Nat.le_of_ble_eq_true rfl, Nat.le_of_ble_eq_true rfl⟩) (pr_V (As := [.int (xs 1), .int (xs 2)]) (b := mo) (C := RX9) hP hD hK hS hA hE [0, 1] [] rfl rfl rfl 0 16 rfl rfl rfl) rfl rfl hl.1 rfl (lv_room (Nat.le_of_ble_eq_true rfl)) dL_law_908 ⟨Nat.le_of_ble_eq_true rfl, Nat.le_of_ble_eq_true rfl⟩) hP hD hK hS hA [0, 1] [2] rfl rfl (by decide) (by decide) (fun r14 u12 H locs w13 hP hD hK hS => ?_)
  have hP : va_P D vwCl [(oo, .inl (coo, 1, .inr (.inl u5))), (mo, .inr (16, [.int (u12.2.2 0), .int (u12.2.2 1), .int u12.1, .ref (u12.2.1 0), .ref (u12.2.1 1), .ref (u12.2.1 2), .ref (u12.2.1 3), .ref (u12.2.1 4), .ref (u12.2.1 5), .ref (u12.2.1 6), .ref (u12.2.1 7), .int (u12.2.2 2), .ref (u12.2.1 8)]))] H := hP
  have hD : va_D (lw_A s) [(oo, .inl (coo, 1, .inr (.inl u5))), (mo, .inr (16, [.int (u12.2.2 0), .int (u12.2.2 1), .int u12.1, .ref (u12.2.1 0), .ref (u12.2.1 1), .ref (u12.2.1 2), .ref (u12.2.1 3), .ref (u12.2.1 4), .ref (u12.2.1 5), .ref (u12.2.1 6), .ref (u12.2.1 7), .int (u12.2.2 2), .ref (u12.2.1 8)]))] := hD
  have hK : va_K D vwCl [(coo, .long)] s := hK
  refine lv_istore (lv' := [(7, .int r14), (6, .int r7), (5, .int 0), (4, .ref od), (3, .ref oo), (2, .ref mo), (1, .ref x), (0, .ref b)]) hx hb dL_law_911 hl (by decide) rfl (fun ls hl => ?_)
  refine lv_aload_n hx hb dL_law_913 rfl (lv_at hl 5 rfl) ?_
  refine mc_i (wr := [(oo, .inl (coo, 1, .inr (.inl u5)))]) (va_runV (As := []) (rest := []) ⟨hx, hb, hml, hown, hts⟩ (c_thrown l hst D mo (u12.2.2 0) (u12.2.2 1) u12.1 (u12.2.1 0) (u12.2.1 1) (u12.2.1 2) (u12.2.1 3) (u12.2.1 4) (u12.2.1 5) (u12.2.1 6) (u12.2.1 7) (u12.2.2 2) (u12.2.1 8) H.size) (cwV 0 hts (gi_c mw_770 rfl (gi_c mw_771 rfl (gi_c mw_772 rfl (gi_c mw_481 rfl (goodIn_sub il_c_thrown (List.all_eq_true.mpr gw_c_thrown)))))) rfl rfl rfl (by decide +kernel) ⟨Nat.le_of_ble_eq_true rfl, Nat.le_of_ble_eq_true rfl⟩) (pr_V (As := []) (b := mo) (C := RX9) hP hD hK hS hA hE [1] [] rfl rfl rfl 1 16 rfl rfl rfl) rfl rfl hl.1 rfl (lv_room (Nat.le_of_ble_eq_true rfl)) dL_law_914 ⟨Nat.le_of_ble_eq_true rfl, Nat.le_of_ble_eq_true rfl⟩) hP hD hK hS hA [1] [0] rfl rfl (by decide) (by decide) (fun r16 _ H locs w15 hP hD hK hS => ?_)
  have hP : va_P D vwCl [(oo, .inl (coo, 1, .inr (.inl u5))), (mo, .inr (16, [.int (u12.2.2 0), .int (u12.2.2 1), .int u12.1, .ref (u12.2.1 0), .ref (u12.2.1 1), .ref (u12.2.1 2), .ref (u12.2.1 3), .ref (u12.2.1 4), .ref (u12.2.1 5), .ref (u12.2.1 6), .ref (u12.2.1 7), .int (u12.2.2 2), .ref (u12.2.1 8)]))] H := hP
  have hD : va_D (lw_A s) [(oo, .inl (coo, 1, .inr (.inl u5))), (mo, .inr (16, [.int (u12.2.2 0), .int (u12.2.2 1), .int u12.1, .ref (u12.2.1 0), .ref (u12.2.1 1), .ref (u12.2.1 2), .ref (u12.2.1 3), .ref (u12.2.1 4), .ref (u12.2.1 5), .ref (u12.2.1 6), .ref (u12.2.1 7), .int (u12.2.2 2), .ref (u12.2.1 8)]))] := hD
  have hK : va_K D vwCl [(coo, .long)] s := hK
  obtain rfl : r16 = u12.1 := w15
  refine lv_iload hx hb dL_law_917 (lv_at hl 1 rfl) ?_
  refine lv_icmp_eq (tgt := 924) hx hb dL_law_919 (by decide) (fun h17 => ?_) (fun h17 => absurd (by exact (w13).trans w6.1.symm) h17)
  refine lv_iload hx hb dL_law_924 (lv_at hl 1 rfl) ?_
  refine lv_if_ne (tgt := 941) hx hb dL_law_926 (by decide) (fun h18 => ?_) (fun h18 => absurd h18 (by exact fun q9 => absurd (show (1 : Int32) = 0 from w6.1.symm.trans q9) (by decide)))
  refine lv_goto (tgt := 3320) hx hb dL_law_941 (by decide) ?_
  refine W.widen (k := 600006) (n := 7302040) (Nat.le_of_ble_eq_true rfl) (Nat.le_of_ble_eq_true rfl) ?_
  exact hend _ _ _ (lv_sub hl [2, 7] rfl) hS

set_option maxHeartbeats 4000000 in
set_option maxRecDepth 100000 in
/-- case 10: fork -/
theorem lc_10 (l : Launch) (hst : l.stackTraces = false) (D : va_G) {p : Program} {e : Env} {s : State} {m : MethodId} {below : List Frame} {meth : Method} {c : Code} {b : Nat} {xs : Nat → Int32} {Q : State → Prop} (hx : p.tables.exec = Jvm.exec) (hb : c.code = code) (hml : c.maxLocals = 9) (hown : s.vm.findClass RL = some m.cls) (hts : ∀ w ∈ lw_tbl, w.before #[Value.ref b] s = true) (hX : va_X b 5 xs s s.heap) (hbl : b < s.heap.size) (hE : ex_E D (lw_A s) s s.heap) (hend : lw_End p l e s m below meth c b Q) (x : Nat) (g : Nat) (ca : Nat) (co : Nat) (ra : Nat) (rl : Nat) (tr : Nat) (f9 : Nat) (f10 : Nat) (f11 : Nat) (f12 : Nat) (f13 : Nat) (oo : Nat) (coo : ClassId) (f0 : Nat → Int64) (mo : Nat) (th : Int32) (m1 : Nat) (m2 : Nat) (m3 : Nat) (m4 : Nat) (m5 : Nat) (l1 : Nat) (l2 : Nat) (l3 : Nat) (l4 : Nat) (od : Nat)  {H : Heap} {locs : List Loc} {ls : Array Slot} (hl : lv_has ls 9 [(5, .int 0), (4, .ref od), (3, .ref oo), (2, .ref mo), (1, .ref x), (0, .ref b)]) (hP : va_P D vwCl [(x, .inr (13, [.ref g, .ref ca, .int 0, .ref co, .int 0, .ref ra, .int 0, .ref rl, .ref tr, .ref f9, .ref f10, .ref f11, .ref f12, .ref f13])), (oo, .inl (coo, 1, .inr (.inl f0))), (mo, .inr (16, [.int 5, .int 5, .int th, .ref m1, .ref m2, .ref m3, .ref m4, .ref m5, .ref l1, .ref l2, .ref l3, .int (-1), .ref l4])), (l2, .inr (5, [.int 1, .ref (D.1 1000), .int 0]))] H) (hD : va_D (lw_A s) [(x, .inr (13, [.ref g, .ref ca, .int 0, .ref co, .int 0, .ref ra, .int 0, .ref rl, .ref tr, .ref f9, .ref f10, .ref f11, .ref f12, .ref f13])), (oo, .inl (coo, 1, .inr (.inl f0))), (mo, .inr (16, [.int 5, .int 5, .int th, .ref m1, .ref m2, .ref m3, .ref m4, .ref m5, .ref l1, .ref l2, .ref l3, .int (-1), .ref l4])), (l2, .inr (5, [.int 1, .ref (D.1 1000), .int 0]))]) (hK : va_K D vwCl [(coo, .long)] s) (hS : va_S (lw_A s) s.heap H locs) : W p l e room_1 s m #[Value.ref b] below meth c H locs 167 55824 Q (F0 m 944 ls []) := by
  have hA : ∀ q : Nat, s.heap.size ≤ q → lw_A s q := fun _ h => h
  have hbA : ¬ lw_A s b := Nat.not_le.mpr hbl
  refine lv_aload_n hx hb dL_law_944 rfl (lv_at hl 4 rfl) ?_
  refine lv_aload_n hx hb dL_law_945 rfl (lv_at hl 5 rfl) ?_
  refine lv_iload hx hb dL_law_946 (lv_at hl 0 rfl) ?_
  refine lv_iconst (v := 1) hx hb dL_law_948 (by decide) ?_
  refine lv_iadd hx hb dL_law_949 ?_
  refine lv_topi (fun x1 e1 => ?_)
  obtain rfl : x1 = 1 := e1.trans (by decide)
  refine va_sld hx hb hX hbl hbA hS (vp_in_nI (n := 1) (by decide) (by decide)) dL_law_950 ?_
  refine lv_topi (fun x2 e2 => ?_)
  obtain rfl : x2 = xs 1 := e2
  refine lv_aload_n hx hb dL_law_951 rfl (lv_at hl 5 rfl) ?_
  refine lv_iload hx hb dL_law_952 (lv_at hl 0 rfl) ?_
  refine lv_iconst (v := 2) hx hb dL_law_954 (by decide) ?_
  refine lv_iadd hx hb dL_law_955 ?_
  refine lv_topi (fun x3 e3 => ?_)
  obtain rfl : x3 = 2 := e3.trans (by decide)
  refine va_sld hx hb hX hbl hbA hS (vp_in_nI (n := 2) (by decide) (by decide)) dL_law_956 ?_
  refine lv_topi (fun x4 e4 => ?_)
  obtain rfl : x4 = xs 2 := e4
  refine lv_aload_n hx hb dL_law_957 rfl (lv_at hl 5 rfl) ?_
  refine lv_iload hx hb dL_law_958 (lv_at hl 0 rfl) ?_
  refine lv_iconst (v := 3) hx hb dL_law_960 (by decide) ?_
  refine lv_iadd hx hb dL_law_961 ?_
  refine lv_topi (fun x5 e5 => ?_)
  obtain rfl : x5 = 3 := e5.trans (by decide)
  refine va_sld hx hb hX hbl hbA hS (vp_in_nI (n := 3) (by decide) (by decide)) dL_law_962 ?_
  refine lv_topi (fun x6 e6 => ?_)
  obtain rfl : x6 = xs 3 := e6
  refine lv_aload_n hx hb dL_law_963 rfl (lv_at hl 2 rfl) ?_
  refine mc_i (wr := [(mo, .inr (16, [.int 5, .int 5, .int th, .ref m1, .ref m2, .ref m3, .ref m4, .ref m5, .ref l1, .ref l2, .ref l3, .int (-1), .ref l4])), (l2, .inr (5, [.int 1, .ref (D.1 1000), .int 0]))]) (vx_runSW (As := [.ref x, .int (xs 1), .int (xs 2), .int (xs 3), .ref oo]) (rest := []) ⟨hx, hb, hml, hown, hts⟩ (c_Lfork l hst D x g ca co ra rl tr f9 f10 f11 f12 f13 (xs 1) (xs 2) (xs 3) oo coo f0 H.size) (vx_cwSW 5 hts (gi_c mw_819 rfl (gi_c mw_820 rfl (gi_c mw_766 rfl (goodIn_sub il_c_Lfork (List.all_eq_true.mpr gw_c_Lfork))))) rfl rfl rfl (by decide +kernel) ⟨Nat.le_of_ble_eq_true rfl, Nat.le_of_ble_eq_true rfl⟩) (pr_S (As := [.ref x, .int (xs 1), .int (xs 2), .int (xs 3), .ref oo]) hP hD hK hS hA hE [0, 1] [0] rfl rfl rfl) rfl rfl hl.1 rfl (lv_room (Nat.le_of_ble_eq_true rfl)) dL_law_964 ⟨Nat.le_of_ble_eq_true rfl, Nat.le_of_ble_eq_true rfl⟩) hP hD hK hS hA [0, 1] [2, 3] rfl rfl (by decide) (by decide) (fun r9 u7 H locs w8 hP hD hK hS => ?_)
  have hP : va_P D vwCl [(mo, .inr (16, [.int 5, .int 5, .int th, .ref m1, .ref m2, .ref m3, .ref m4, .ref m5, .ref l1, .ref l2, .ref l3, .int (-1), .ref l4])), (l2, .inr (5, [.int 1, .ref (D.1 1000), .int 0])), (oo, .inl (coo, 1, .inr (.inl u7)))] H := hP
  have hD : va_D (lw_A s) [(mo, .inr (16, [.int 5, .int 5, .int th, .ref m1, .ref m2, .ref m3, .ref m4, .ref m5, .ref l1, .ref l2, .ref l3, .int (-1), .ref l4])), (l2, .inr (5, [.int 1, .ref (D.1 1000), .int 0])), (oo, .inl (coo, 1, .inr (.inl u7)))] := hD
  have hK : va_K D vwCl [(coo, .long)] s := hK
  refine lv_istore (lv' := [(6, .int r9), (5, .int 0), (4, .ref od), (3, .ref oo), (2, .ref mo), (1, .ref x), (0, .ref b)]) hx hb dL_law_967 hl (by decide) rfl (fun ls hl => ?_)
  refine lv_aload_n hx hb dL_law_969 rfl (lv_at hl 4 rfl) ?_
  refine lv_aload_n hx hb dL_law_970 rfl (lv_at hl 6 rfl) ?_
  refine lv_iload hx hb dL_law_971 (lv_at hl 1 rfl) ?_
  refine lv_iconst (v := 1) hx hb dL_law_973 (by decide) ?_
  refine lv_iadd hx hb dL_law_974 ?_
  refine lv_topi (fun x10 e10 => ?_)
  obtain rfl : x10 = 1 := e10.trans (by decide)
  refine va_sld hx hb hX hbl hbA hS (vp_in_nI (n := 1) (by decide) (by decide)) dL_law_975 ?_
  refine lv_topi (fun x11 e11 => ?_)
  obtain rfl : x11 = xs 1 := e11
  refine lv_aload_n hx hb dL_law_976 rfl (lv_at hl 6 rfl) ?_
  refine lv_iload hx hb dL_law_977 (lv_at hl 1 rfl) ?_
  refine lv_iconst (v := 2) hx hb dL_law_979 (by decide) ?_
  refine lv_iadd hx hb dL_law_980 ?_
  refine lv_topi (fun x12 e12 => ?_)
  obtain rfl : x12 = 2 := e12.trans (by decide)
  refine va_sld hx hb hX hbl hbA hS (vp_in_nI (n := 2) (by decide) (by decide)) dL_law_981 ?_
  refine lv_topi (fun x13 e13 => ?_)
  obtain rfl : x13 = xs 2 := e13
  refine lv_aload_n hx hb dL_law_982 rfl (lv_at hl 6 rfl) ?_
  refine lv_iload hx hb dL_law_983 (lv_at hl 1 rfl) ?_
  refine lv_iconst (v := 3) hx hb dL_law_985 (by decide) ?_
  refine lv_iadd hx hb dL_law_986 ?_
  refine lv_topi (fun x14 e14 => ?_)
  obtain rfl : x14 = 3 := e14.trans (by decide)
  refine va_sld hx hb hX hbl hbA hS (vp_in_nI (n := 3) (by decide) (by decide)) dL_law_987 ?_
  refine lv_topi (fun x15 e15 => ?_)
  obtain rfl : x15 = xs 3 := e15
  refine mc_i (wr := [(oo, .inl (coo, 1, .inr (.inl u7)))]) (va_runV (As := [.int (xs 1), .int (xs 2), .int (xs 3)]) (rest := []) ⟨hx, hb, hml, hown, hts⟩ (c_mfork l hst D mo th m1 m2 m3 m4 m5 l1 l2 l3 l4 (xs 1) (xs 2) (xs 3) H.size) (cwV 3 hts (gi_c mw_821 rfl (gi_c mw_822 rfl (gi_c mw_823 rfl (gi_c mw_481 rfl (goodIn_sub il_c_mfork (List.all_eq_true.mpr gw_c_mfork)))))) rfl rfl rfl (by decide +kernel) ⟨Nat.le_of_ble_eq_true rfl, Nat.le_of_ble_eq_true rfl⟩) (pr_V (As := [.int (xs 1), .int (xs 2), .int (xs 3)]) (b := mo) (C := RX9) hP hD hK hS hA hE [0, 1] [] rfl rfl rfl 0 16 rfl rfl rfl) rfl rfl hl.1 rfl (lv_room (Nat.le_of_ble_eq_true rfl)) dL_law_988 ⟨Nat.le_of_ble_eq_true rfl, Nat.le_of_ble_eq_true rfl⟩) hP hD hK hS hA [0, 1] [2] rfl rfl (by decide) (by decide) (fun r18 u16 H locs w17 hP hD hK hS => ?_)
  have hP : va_P D vwCl [(oo, .inl (coo, 1, .inr (.inl u7))), (mo, .inr (16, [.int (u16.2.2 0), .int (u16.2.2 1), .int u16.1, .ref (u16.2.1 0), .ref (u16.2.1 1), .ref (u16.2.1 2), .ref (u16.2.1 3), .ref (u16.2.1 4), .ref (u16.2.1 5), .ref (u16.2.1 6), .ref (u16.2.1 7), .int (u16.2.2 2), .ref (u16.2.1 8)]))] H := hP
  have hD : va_D (lw_A s) [(oo, .inl (coo, 1, .inr (.inl u7))), (mo, .inr (16, [.int (u16.2.2 0), .int (u16.2.2 1), .int u16.1, .ref (u16.2.1 0), .ref (u16.2.1 1), .ref (u16.2.1 2), .ref (u16.2.1 3), .ref (u16.2.1 4), .ref (u16.2.1 5), .ref (u16.2.1 6), .ref (u16.2.1 7), .int (u16.2.2 2), .ref (u16.2.1 8)]))] := hD
  have hK : va_K D vwCl [(coo, .long)] s := hK
  refine lv_istore (lv' := [(7, .int r18), (6, .int r9), (5, .int 0), (4, .ref od), (3, .ref oo), (2, .ref mo), (1, .ref x), (0, .ref b)]) hx hb dL_law_991 hl (by decide) rfl (fun ls hl => ?_)
  refine lv_aload_n hx hb dL_law_993 rfl (lv_at hl 5 rfl) ?_
  refine mc_i (wr := [(oo, .inl (coo, 1, .inr (.inl u7)))]) (va_runV (As := []) (rest := []) ⟨hx, hb, hml, hown, hts⟩ (c_thrown l hst D mo (u16.2.2 0) (u16.2.2 1) u16.1 (u16.2.1 0) (u16.2.1 1) (u16.2.1 2) (u16.2.1 3) (u16.2.1 4) (u16.2.1 5) (u16.2.1 6) (u16.2.1 7) (u16.2.2 2) (u16.2.1 8) H.size) (cwV 0 hts (gi_c mw_770 rfl (gi_c mw_771 rfl (gi_c mw_772 rfl (gi_c mw_481 rfl (goodIn_sub il_c_thrown (List.all_eq_true.mpr gw_c_thrown)))))) rfl rfl rfl (by decide +kernel) ⟨Nat.le_of_ble_eq_true rfl, Nat.le_of_ble_eq_true rfl⟩) (pr_V (As := []) (b := mo) (C := RX9) hP hD hK hS hA hE [1] [] rfl rfl rfl 1 16 rfl rfl rfl) rfl rfl hl.1 rfl (lv_room (Nat.le_of_ble_eq_true rfl)) dL_law_994 ⟨Nat.le_of_ble_eq_true rfl, Nat.le_of_ble_eq_true rfl⟩) hP hD hK hS hA [1] [0] rfl rfl (by decide) (by decide) (fun r20 _ H locs w19 hP hD hK hS => ?_)
  have hP : va_P D vwCl [(oo, .inl (coo, 1, .inr (.inl u7))), (mo, .inr (16, [.int (u16.2.2 0), .int (u16.2.2 1), .int u16.1, .ref (u16.2.1 0), .ref (u16.2.1 1), .ref (u16.2.1 2), .ref (u16.2.1 3), .ref (u16.2.1 4), .ref (u16.2.1 5), .ref (u16.2.1 6), .ref (u16.2.1 7), .int (u16.2.2 2), .ref (u16.2.1 8)]))] H := hP
  have hD : va_D (lw_A s) [(oo, .inl (coo, 1, .inr (.inl u7))), (mo, .inr (16, [.int (u16.2.2 0), .int (u16.2.2 1), .int u16.1, .ref (u16.2.1 0), .ref (u16.2.1 1), .ref (u16.2.1 2), .ref (u16.2.1 3), .ref (u16.2.1 4), .ref (u16.2.1 5), .ref (u16.2.1 6), .ref (u16.2.1 7), .int (u16.2.2 2), .ref (u16.2.1 8)]))] := hD
  have hK : va_K D vwCl [(coo, .long)] s := hK
  obtain rfl : r20 = u16.1 := w19
  refine lv_iload hx hb dL_law_997 (lv_at hl 1 rfl) ?_
  refine lv_icmp_eq (tgt := 1004) hx hb dL_law_999 (by decide) (fun h21 => ?_) (fun h21 => absurd (by exact (w17).trans w8.1.symm) h21)
  refine lv_iload hx hb dL_law_1004 (lv_at hl 1 rfl) ?_
  refine lv_if_ne (tgt := 1021) hx hb dL_law_1006 (by decide) (fun h22 => ?_) (fun h22 => absurd h22 (by exact fun q9 => absurd (show (1 : Int32) = 0 from w8.1.symm.trans q9) (by decide)))
  refine lv_goto (tgt := 3320) hx hb dL_law_1021 (by decide) ?_
  refine W.widen (k := 600006) (n := 7302040) (Nat.le_of_ble_eq_true rfl) (Nat.le_of_ble_eq_true rfl) ?_
  exact hend _ _ _ (lv_sub hl [2, 7] rfl) hS

set_option maxHeartbeats 4000000 in
set_option maxRecDepth 100000 in
/-- case 11: isLawful -/
theorem lc_11 (l : Launch) (hst : l.stackTraces = false) (D : va_G) {p : Program} {e : Env} {s : State} {m : MethodId} {below : List Frame} {meth : Method} {c : Code} {b : Nat} {xs : Nat → Int32} {Q : State → Prop} (hx : p.tables.exec = Jvm.exec) (hb : c.code = code) (hml : c.maxLocals = 9) (hown : s.vm.findClass RL = some m.cls) (hts : ∀ w ∈ lw_tbl, w.before #[Value.ref b] s = true) (hX : va_X b 5 xs s s.heap) (hbl : b < s.heap.size) (hE : ex_E D (lw_A s) s s.heap) (hend : lw_End p l e s m below meth c b Q) (x : Nat) (g : Nat) (ca : Nat) (co : Nat) (ra : Nat) (rl : Nat) (tr : Nat) (f9 : Nat) (f10 : Nat) (f11 : Nat) (f12 : Nat) (f13 : Nat) (oo : Nat) (coo : ClassId) (f0 : Nat → Int64) (mo : Nat) (th : Int32) (m1 : Nat) (m2 : Nat) (m3 : Nat) (m4 : Nat) (m5 : Nat) (l1 : Nat) (l2 : Nat) (l3 : Nat) (l4 : Nat) (od : Nat)  {H : Heap} {locs : List Loc} {ls : Array Slot} (hl : lv_has ls 9 [(5, .int 0), (4, .ref od), (3, .ref oo), (2, .ref mo), (1, .ref x), (0, .ref b)]) (hP : va_P D vwCl [(x, .inr (13, [.ref g, .ref ca, .int 0, .ref co, .int 0, .ref ra, .int 0, .ref rl, .ref tr, .ref f9, .ref f10, .ref f11, .ref f12, .ref f13])), (oo, .inl (coo, 1, .inr (.inl f0))), (mo, .inr (16, [.int 5, .int 5, .int th, .ref m1, .ref m2, .ref m3, .ref m4, .ref m5, .ref l1, .ref l2, .ref l3, .int (-1), .ref l4])), (l2, .inr (5, [.int 1, .ref (D.1 1000), .int 0]))] H) (hD : va_D (lw_A s) [(x, .inr (13, [.ref g, .ref ca, .int 0, .ref co, .int 0, .ref ra, .int 0, .ref rl, .ref tr, .ref f9, .ref f10, .ref f11, .ref f12, .ref f13])), (oo, .inl (coo, 1, .inr (.inl f0))), (mo, .inr (16, [.int 5, .int 5, .int th, .ref m1, .ref m2, .ref m3, .ref m4, .ref m5, .ref l1, .ref l2, .ref l3, .int (-1), .ref l4])), (l2, .inr (5, [.int 1, .ref (D.1 1000), .int 0]))]) (hK : va_K D vwCl [(coo, .long)] s) (hS : va_S (lw_A s) s.heap H locs) : W p l e room_1 s m #[Value.ref b] below meth c H locs 167 55824 Q (F0 m 1024 ls []) := by
  have hA : ∀ q : Nat, s.heap.size ≤ q → lw_A s q := fun _ h => h
  have hbA : ¬ lw_A s b := Nat.not_le.mpr hbl
  refine lv_aload_n hx hb dL_law_1024 rfl (lv_at hl 4 rfl) ?_
  refine lv_aload_n hx hb dL_law_1025 rfl (lv_at hl 5 rfl) ?_
  refine lv_iload hx hb dL_law_1026 (lv_at hl 0 rfl) ?_
  refine lv_iconst (v := 1) hx hb dL_law_1028 (by decide) ?_
  refine lv_iadd hx hb dL_law_1029 ?_
  refine lv_topi (fun x1 e1 => ?_)
  obtain rfl : x1 = 1 := e1.trans (by decide)
  refine va_sld hx hb hX hbl hbA hS (vp_in_nI (n := 1) (by decide) (by decide)) dL_law_1030 ?_
  refine lv_topi (fun x2 e2 => ?_)
  obtain rfl : x2 = xs 1 := e2
  refine lv_aload_n hx hb dL_law_1031 rfl (lv_at hl 2 rfl) ?_
  refine mc_i (wr := [(mo, .inr (16, [.int 5, .int 5, .int th, .ref m1, .ref m2, .ref m3, .ref m4, .ref m5, .ref l1, .ref l2, .ref l3, .int (-1), .ref l4])), (l2, .inr (5, [.int 1, .ref (D.1 1000), .int 0]))]) (vx_runSW (As := [.ref x, .int (xs 1), .ref oo]) (rest := []) ⟨hx, hb, hml, hown, hts⟩ (c_LisLawful l hst D x g ca co ra rl tr f9 f10 f11 f12 f13 (xs 1) oo coo f0 H.size) (vx_cwSW 3 hts (gi_c mw_824 rfl (gi_c mw_825 rfl (gi_c mw_766 rfl (goodIn_sub il_c_LisLawful (List.all_eq_true.mpr gw_c_LisLawful))))) rfl rfl rfl (by decide +kernel) ⟨Nat.le_of_ble_eq_true rfl, Nat.le_of_ble_eq_true rfl⟩) (pr_S (As := [.ref x, .int (xs 1), .ref oo]) hP hD hK hS hA hE [0, 1] [0] rfl rfl rfl) rfl rfl hl.1 rfl (lv_room (Nat.le_of_ble_eq_true rfl)) dL_law_1032 ⟨Nat.le_of_ble_eq_true rfl, Nat.le_of_ble_eq_true rfl⟩) hP hD hK hS hA [0, 1] [2, 3] rfl rfl (by decide) (by decide) (fun r5 u3 H locs w4 hP hD hK hS => ?_)
  have hP : va_P D vwCl [(mo, .inr (16, [.int 5, .int 5, .int th, .ref m1, .ref m2, .ref m3, .ref m4, .ref m5, .ref l1, .ref l2, .ref l3, .int (-1), .ref l4])), (l2, .inr (5, [.int 1, .ref (D.1 1000), .int 0])), (oo, .inl (coo, 1, .inr (.inl u3)))] H := hP
  have hD : va_D (lw_A s) [(mo, .inr (16, [.int 5, .int 5, .int th, .ref m1, .ref m2, .ref m3, .ref m4, .ref m5, .ref l1, .ref l2, .ref l3, .int (-1), .ref l4])), (l2, .inr (5, [.int 1, .ref (D.1 1000), .int 0])), (oo, .inl (coo, 1, .inr (.inl u3)))] := hD
  have hK : va_K D vwCl [(coo, .long)] s := hK
  refine lv_istore (lv' := [(6, .int r5), (5, .int 0), (4, .ref od), (3, .ref oo), (2, .ref mo), (1, .ref x), (0, .ref b)]) hx hb dL_law_1035 hl (by decide) rfl (fun ls hl => ?_)
  refine lv_aload_n hx hb dL_law_1037 rfl (lv_at hl 4 rfl) ?_
  refine lv_aload_n hx hb dL_law_1038 rfl (lv_at hl 6 rfl) ?_
  refine lv_iload hx hb dL_law_1039 (lv_at hl 1 rfl) ?_
  refine lv_iconst (v := 1) hx hb dL_law_1041 (by decide) ?_
  refine lv_iadd hx hb dL_law_1042 ?_
  refine lv_topi (fun x6 e6 => ?_)
  obtain rfl : x6 = 1 := e6.trans (by decide)
  refine va_sld hx hb hX hbl hbA hS (vp_in_nI (n := 1) (by decide) (by decide)) dL_law_1043 ?_
  refine lv_topi (fun x7 e7 => ?_)
  obtain rfl : x7 = xs 1 := e7
  refine mc_i (wr := [(oo, .inl (coo, 1, .inr (.inl u3)))]) (va_runV (As := [.int (xs 1)]) (rest := []) ⟨hx, hb, hml, hown, hts⟩ (c_misLawful l hst D mo th m1 m2 m3 m4 m5 l1 l2 l3 l4 (xs 1) H.size) (cwV 1 hts (gi_c mw_826 rfl (gi_c mw_827 rfl (gi_c mw_828 rfl (gi_c mw_481 rfl (goodIn_sub il_c_misLawful (List.all_eq_true.mpr gw_c_misLawful)))))) rfl rfl rfl (by decide +kernel) ⟨Nat.le_of_ble_eq_true rfl, Nat.le_of_ble_eq_true rfl⟩) (pr_V (As := [.int (xs 1)]) (b := mo) (C := RX9) hP hD hK hS hA hE [0, 1] [] rfl rfl rfl 0 16 rfl rfl rfl) rfl rfl hl.1 rfl (lv_room (Nat.le_of_ble_eq_true rfl)) dL_law_1044 ⟨Nat.le_of_ble_eq_true rfl, Nat.le_of_ble_eq_true rfl⟩) hP hD hK hS hA [0, 1] [2] rfl rfl (by decide) (by decide) (fun r10 u8 H locs w9 hP hD hK hS => ?_)
  have hP : va_P D vwCl [(oo, .inl (coo, 1, .inr (.inl u3))), (mo, .inr (16, [.int (u8.2.2 0), .int (u8.2.2 1), .int u8.1, .ref (u8.2.1 0), .ref (u8.2.1 1), .ref (u8.2.1 2), .ref (u8.2.1 3), .ref (u8.2.1 4), .ref (u8.2.1 5), .ref (u8.2.1 6), .ref (u8.2.1 7), .int (u8.2.2 2), .ref (u8.2.1 8)]))] H := hP
  have hD : va_D (lw_A s) [(oo, .inl (coo, 1, .inr (.inl u3))), (mo, .inr (16, [.int (u8.2.2 0), .int (u8.2.2 1), .int u8.1, .ref (u8.2.1 0), .ref (u8.2.1 1), .ref (u8.2.1 2), .ref (u8.2.1 3), .ref (u8.2.1 4), .ref (u8.2.1 5), .ref (u8.2.1 6), .ref (u8.2.1 7), .int (u8.2.2 2), .ref (u8.2.1 8)]))] := hD
  have hK : va_K D vwCl [(coo, .long)] s := hK
  refine lv_istore (lv' := [(7, .int r10), (6, .int r5), (5, .int 0), (4, .ref od), (3, .ref oo), (2, .ref mo), (1, .ref x), (0, .ref b)]) hx hb dL_law_1047 hl (by decide) rfl (fun ls hl => ?_)
  refine lv_aload_n hx hb dL_law_1049 rfl (lv_at hl 5 rfl) ?_
  refine mc_i (wr := [(oo, .inl (coo, 1, .inr (.inl u3)))]) (va_runV (As := []) (rest := []) ⟨hx, hb, hml, hown, hts⟩ (c_thrown l hst D mo (u8.2.2 0) (u8.2.2 1) u8.1 (u8.2.1 0) (u8.2.1 1) (u8.2.1 2) (u8.2.1 3) (u8.2.1 4) (u8.2.1 5) (u8.2.1 6) (u8.2.1 7) (u8.2.2 2) (u8.2.1 8) H.size) (cwV 0 hts (gi_c mw_770 rfl (gi_c mw_771 rfl (gi_c mw_772 rfl (gi_c mw_481 rfl (goodIn_sub il_c_thrown (List.all_eq_true.mpr gw_c_thrown)))))) rfl rfl rfl (by decide +kernel) ⟨Nat.le_of_ble_eq_true rfl, Nat.le_of_ble_eq_true rfl⟩) (pr_V (As := []) (b := mo) (C := RX9) hP hD hK hS hA hE [1] [] rfl rfl rfl 1 16 rfl rfl rfl) rfl rfl hl.1 rfl (lv_room (Nat.le_of_ble_eq_true rfl)) dL_law_1050 ⟨Nat.le_of_ble_eq_true rfl, Nat.le_of_ble_eq_true rfl⟩) hP hD hK hS hA [1] [0] rfl rfl (by decide) (by decide) (fun r12 _ H locs w11 hP hD hK hS => ?_)
  have hP : va_P D vwCl [(oo, .inl (coo, 1, .inr (.inl u3))), (mo, .inr (16, [.int (u8.2.2 0), .int (u8.2.2 1), .int u8.1, .ref (u8.2.1 0), .ref (u8.2.1 1), .ref (u8.2.1 2), .ref (u8.2.1 3), .ref (u8.2.1 4), .ref (u8.2.1 5), .ref (u8.2.1 6), .ref (u8.2.1 7), .int (u8.2.2 2), .ref (u8.2.1 8)]))] H := hP
  have hD : va_D (lw_A s) [(oo, .inl (coo, 1, .inr (.inl u3))), (mo, .inr (16, [.int (u8.2.2 0), .int (u8.2.2 1), .int u8.1, .ref (u8.2.1 0), .ref (u8.2.1 1), .ref (u8.2.1 2), .ref (u8.2.1 3), .ref (u8.2.1 4), .ref (u8.2.1 5), .ref (u8.2.1 6), .ref (u8.2.1 7), .int (u8.2.2 2), .ref (u8.2.1 8)]))] := hD
  have hK : va_K D vwCl [(coo, .long)] s := hK
  obtain rfl : r12 = u8.1 := w11
  refine lv_iload hx hb dL_law_1053 (lv_at hl 1 rfl) ?_
  refine lv_icmp_eq (tgt := 1060) hx hb dL_law_1055 (by decide) (fun h13 => ?_) (fun h13 => absurd (by exact (w9).trans w4.1.symm) h13)
  refine lv_iload hx hb dL_law_1060 (lv_at hl 1 rfl) ?_
  refine lv_if_ne (tgt := 1084) hx hb dL_law_1062 (by decide) (fun h14 => ?_) (fun h14 => absurd h14 (by exact fun q9 => absurd (show (1 : Int32) = 0 from w4.1.symm.trans q9) (by decide)))
  refine lv_goto (tgt := 3320) hx hb dL_law_1084 (by decide) ?_
  refine W.widen (k := 600006) (n := 7302040) (Nat.le_of_ble_eq_true rfl) (Nat.le_of_ble_eq_true rfl) ?_
  exact hend _ _ _ (lv_sub hl [2, 7] rfl) hS
