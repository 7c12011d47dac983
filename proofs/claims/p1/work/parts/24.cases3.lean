/-! the law, cases -/
set_option maxHeartbeats 4000000 in
set_option maxRecDepth 100000 in
/-- case 36: changeover -/
theorem lc_36 (l : Launch) (hst : l.stackTraces = false) (D : va_G) {p : Program} {e : Env} {s : State} {m : MethodId} {below : List Frame} {meth : Method} {c : Code} {b : Nat} {xs : Nat → Int32} {Q : State → Prop} (hx : p.tables.exec = Jvm.exec) (hb : c.code = code) (hml : c.maxLocals = 9) (hown : s.vm.findClass RL = some m.cls) (hts : ∀ w ∈ lw_tbl, w.before #[Value.ref b] s = true) (hX : va_X b 5 xs s s.heap) (hbl : b < s.heap.size) (hE : ex_E D (lw_A s) s s.heap) (hend : lw_End p l e s m below meth c b Q) (x : Nat) (g : Nat) (ca : Nat) (co : Nat) (ra : Nat) (rl : Nat) (tr : Nat) (f9 : Nat) (f10 : Nat) (f11 : Nat) (f12 : Nat) (f13 : Nat) (oo : Nat) (coo : ClassId) (f0 : Nat → Int64) (mo : Nat) (th : Int32) (m1 : Nat) (m2 : Nat) (m3 : Nat) (m4 : Nat) (m5 : Nat) (l1 : Nat) (l2 : Nat) (l3 : Nat) (l4 : Nat) (od : Nat)  {H : Heap} {locs : List Loc} {ls : Array Slot} (hl : lv_has ls 9 [(5, .int 0), (4, .ref od), (3, .ref oo), (2, .ref mo), (1, .ref x), (0, .ref b)]) (hP : va_P D vwCl [(x, .inr (13, [.ref g, .ref ca, .int 0, .ref co, .int 0, .ref ra, .int 0, .ref rl, .ref tr, .ref f9, .ref f10, .ref f11, .ref f12, .ref f13])), (oo, .inl (coo, 1, .inr (.inl f0))), (mo, .inr (16, [.int 5, .int 5, .int th, .ref m1, .ref m2, .ref m3, .ref m4, .ref m5, .ref l1, .ref l2, .ref l3, .int (-1), .ref l4]))] H) (hD : va_D (lw_A s) [(x, .inr (13, [.ref g, .ref ca, .int 0, .ref co, .int 0, .ref ra, .int 0, .ref rl, .ref tr, .ref f9, .ref f10, .ref f11, .ref f12, .ref f13])), (oo, .inl (coo, 1, .inr (.inl f0))), (mo, .inr (16, [.int 5, .int 5, .int th, .ref m1, .ref m2, .ref m3, .ref m4, .ref m5, .ref l1, .ref l2, .ref l3, .int (-1), .ref l4]))]) (hK : va_K D vwCl [(coo, .long)] s) (hS : va_S (lw_A s) s.heap H locs) : W p l e room_1 s m #[Value.ref b] below meth c H locs 167 55824 Q (F0 m 2651 ls []) := by
  have hA : ∀ q : Nat, s.heap.size ≤ q → lw_A s q := fun _ h => h
  have hbA : ¬ lw_A s b := Nat.not_le.mpr hbl
  refine lv_aload_n hx hb dL_law_2651 rfl (lv_at hl 4 rfl) ?_
  refine lv_aload_n hx hb dL_law_2652 rfl (lv_at hl 5 rfl) ?_
  refine lv_iload hx hb dL_law_2653 (lv_at hl 0 rfl) ?_
  refine lv_iconst (v := 1) hx hb dL_law_2655 (by decide) ?_
  refine lv_iadd hx hb dL_law_2656 ?_
  refine lv_topi (fun x1 e1 => ?_)
  obtain rfl : x1 = 1 := e1.trans (by decide)
  refine va_sld hx hb hX hbl hbA hS (vp_in_nI (n := 1) (by decide) (by decide)) dL_law_2657 ?_
  refine lv_topi (fun x2 e2 => ?_)
  obtain rfl : x2 = xs 1 := e2
  refine lv_aload_n hx hb dL_law_2658 rfl (lv_at hl 5 rfl) ?_
  refine lv_iload hx hb dL_law_2659 (lv_at hl 0 rfl) ?_
  refine lv_iconst (v := 2) hx hb dL_law_2661 (by decide) ?_
  refine lv_iadd hx hb dL_law_2662 ?_
  refine lv_topi (fun x3 e3 => ?_)
  obtain rfl : x3 = 2 := e3.trans (by decide)
  refine va_sld hx hb hX hbl hbA hS (vp_in_nI (n := 2) (by decide) (by decide)) dL_law_2663 ?_
  refine lv_topi (fun x4 e4 => ?_)
  obtain rfl : x4 = xs 2 := e4
  refine lv_aload_n hx hb dL_law_2664 rfl (lv_at hl 5 rfl) ?_
  refine lv_iload hx hb dL_law_2665 (lv_at hl 0 rfl) ?_
  refine lv_iconst (v := 3) hx hb dL_law_2667 (by decide) ?_
  refine lv_iadd hx hb dL_law_2668 ?_
  refine lv_topi (fun x5 e5 => ?_)
  obtain rfl : x5 = 3 := e5.trans (by decide)
  refine va_sld hx hb hX hbl hbA hS (vp_in_nI (n := 3) (by decide) (by decide)) dL_law_2669 ?_
  refine lv_topi (fun x6 e6 => ?_)
  obtain rfl : x6 = xs 3 := e6
  refine lv_aload_n hx hb dL_law_2670 rfl (lv_at hl 5 rfl) ?_
  refine lv_iload hx hb dL_law_2671 (lv_at hl 0 rfl) ?_
  refine lv_iconst (v := 4) hx hb dL_law_2673 (by decide) ?_
  refine lv_iadd hx hb dL_law_2674 ?_
  refine lv_topi (fun x7 e7 => ?_)
  obtain rfl : x7 = 4 := e7.trans (by decide)
  refine va_sld hx hb hX hbl hbA hS (vp_in_nI (n := 4) (by decide) (by decide)) dL_law_2675 ?_
  refine lv_topi (fun x8 e8 => ?_)
  obtain rfl : x8 = xs 4 := e8
  refine lv_aload_n hx hb dL_law_2676 rfl (lv_at hl 2 rfl) ?_
  refine mc_i (wr := [(mo, .inr (16, [.int 5, .int 5, .int th, .ref m1, .ref m2, .ref m3, .ref m4, .ref m5, .ref l1, .ref l2, .ref l3, .int (-1), .ref l4]))]) (vx_runSW (As := [.ref x, .int (xs 1), .int (xs 2), .int (xs 3), .int (xs 4), .ref oo]) (rest := []) ⟨hx, hb, hml, hown, hts⟩ (c_Lchangeover l hst D x g ca co ra rl tr f9 f10 f11 f12 f13 (xs 1) (xs 2) (xs 3) (xs 4) oo coo f0 H.size) (vx_cwSW 6 hts (gi_c mw_950 rfl (gi_c mw_951 rfl (gi_c mw_766 rfl (goodIn_sub il_c_Lchangeover (List.all_eq_true.mpr gw_c_Lchangeover))))) rfl rfl rfl (by decide +kernel) ⟨Nat.le_of_ble_eq_true rfl, Nat.le_of_ble_eq_true rfl⟩) (pr_S (As := [.ref x, .int (xs 1), .int (xs 2), .int (xs 3), .int (xs 4), .ref oo]) hP hD hK hS hA hE [0, 1] [0] rfl rfl rfl) rfl rfl hl.1 rfl (lv_room (Nat.le_of_ble_eq_true rfl)) dL_law_2677 ⟨Nat.le_of_ble_eq_true rfl, Nat.le_of_ble_eq_true rfl⟩) hP hD hK hS hA [0, 1] [2] rfl rfl (by decide) (by decide) (fun r11 u9 H locs w10 hP hD hK hS => ?_)
  have hP : va_P D vwCl [(mo, .inr (16, [.int 5, .int 5, .int th, .ref m1, .ref m2, .ref m3, .ref m4, .ref m5, .ref l1, .ref l2, .ref l3, .int (-1), .ref l4])), (oo, .inl (coo, 1, .inr (.inl u9)))] H := hP
  have hD : va_D (lw_A s) [(mo, .inr (16, [.int 5, .int 5, .int th, .ref m1, .ref m2, .ref m3, .ref m4, .ref m5, .ref l1, .ref l2, .ref l3, .int (-1), .ref l4])), (oo, .inl (coo, 1, .inr (.inl u9)))] := hD
  have hK : va_K D vwCl [(coo, .long)] s := hK
  refine lv_istore (lv' := [(6, .int r11), (5, .int 0), (4, .ref od), (3, .ref oo), (2, .ref mo), (1, .ref x), (0, .ref b)]) hx hb dL_law_2680 hl (by decide) rfl (fun ls hl => ?_)
  refine lv_aload_n hx hb dL_law_2682 rfl (lv_at hl 4 rfl) ?_
  refine lv_aload_n hx hb dL_law_2683 rfl (lv_at hl 6 rfl) ?_
  refine lv_iload hx hb dL_law_2684 (lv_at hl 1 rfl) ?_
  refine lv_iconst (v := 1) hx hb dL_law_2686 (by decide) ?_
  refine lv_iadd hx hb dL_law_2687 ?_
  refine lv_topi (fun x12 e12 => ?_)
  obtain rfl : x12 = 1 := e12.trans (by decide)
  refine va_sld hx hb hX hbl hbA hS (vp_in_nI (n := 1) (by decide) (by decide)) dL_law_2688 ?_
  refine lv_topi (fun x13 e13 => ?_)
  obtain rfl : x13 = xs 1 := e13
  refine lv_aload_n hx hb dL_law_2689 rfl (lv_at hl 6 rfl) ?_
  refine lv_iload hx hb dL_law_2690 (lv_at hl 1 rfl) ?_
  refine lv_iconst (v := 2) hx hb dL_law_2692 (by decide) ?_
  refine lv_iadd hx hb dL_law_2693 ?_
  refine lv_topi (fun x14 e14 => ?_)
  obtain rfl : x14 = 2 := e14.trans (by decide)
  refine va_sld hx hb hX hbl hbA hS (vp_in_nI (n := 2) (by decide) (by decide)) dL_law_2694 ?_
  refine lv_topi (fun x15 e15 => ?_)
  obtain rfl : x15 = xs 2 := e15
  refine lv_aload_n hx hb dL_law_2695 rfl (lv_at hl 6 rfl) ?_
  refine lv_iload hx hb dL_law_2696 (lv_at hl 1 rfl) ?_
  refine lv_iconst (v := 3) hx hb dL_law_2698 (by decide) ?_
  refine lv_iadd hx hb dL_law_2699 ?_
  refine lv_topi (fun x16 e16 => ?_)
  obtain rfl : x16 = 3 := e16.trans (by decide)
  refine va_sld hx hb hX hbl hbA hS (vp_in_nI (n := 3) (by decide) (by decide)) dL_law_2700 ?_
  refine lv_topi (fun x17 e17 => ?_)
  obtain rfl : x17 = xs 3 := e17
  refine lv_aload_n hx hb dL_law_2701 rfl (lv_at hl 6 rfl) ?_
  refine lv_iload hx hb dL_law_2702 (lv_at hl 1 rfl) ?_
  refine lv_iconst (v := 4) hx hb dL_law_2704 (by decide) ?_
  refine lv_iadd hx hb dL_law_2705 ?_
  refine lv_topi (fun x18 e18 => ?_)
  obtain rfl : x18 = 4 := e18.trans (by decide)
  refine va_sld hx hb hX hbl hbA hS (vp_in_nI (n := 4) (by decide) (by decide)) dL_law_2706 ?_
  refine lv_topi (fun x19 e19 => ?_)
  obtain rfl : x19 = xs 4 := e19
  refine mc_i (wr := [(oo, .inl (coo, 1, .inr (.inl u9)))]) (va_runV (As := [.int (xs 1), .int (xs 2), .int (xs 3), .int (xs 4)]) (rest := []) ⟨hx, hb, hml, hown, hts⟩ (c_mchangeover l hst D mo th m1 m2 m3 m4 m5 l1 l2 l3 l4 (xs 1) (xs 2) (xs 3) (xs 4) H.size) (cwV 4 hts (gi_c mw_952 rfl (gi_c mw_953 rfl (gi_c mw_954 rfl (gi_c mw_481 rfl (goodIn_sub il_c_mchangeover (List.all_eq_true.mpr gw_c_mchangeover)))))) rfl rfl rfl (by decide +kernel) ⟨Nat.le_of_ble_eq_true rfl, Nat.le_of_ble_eq_true rfl⟩) (pr_V (As := [.int (xs 1), .int (xs 2), .int (xs 3), .int (xs 4)]) (b := mo) (C := RX9) hP hD hK hS hA hE [0] [] rfl rfl rfl 0 16 rfl rfl rfl) rfl rfl hl.1 rfl (lv_room (Nat.le_of_ble_eq_true rfl)) dL_law_2707 ⟨Nat.le_of_ble_eq_true rfl, Nat.le_of_ble_eq_true rfl⟩) hP hD hK hS hA [0] [1] rfl rfl (by decide) (by decide) (fun r22 u20 H locs w21 hP hD hK hS => ?_)
  have hP : va_P D vwCl [(oo, .inl (coo, 1, .inr (.inl u9))), (mo, .inr (16, [.int (u20.2.2 0), .int (u20.2.2 1), .int u20.1, .ref (u20.2.1 0), .ref (u20.2.1 1), .ref (u20.2.1 2), .ref (u20.2.1 3), .ref (u20.2.1 4), .ref (u20.2.1 5), .ref (u20.2.1 6), .ref (u20.2.1 7), .int (u20.2.2 2), .ref (u20.2.1 8)]))] H := hP
  have hD : va_D (lw_A s) [(oo, .inl (coo, 1, .inr (.inl u9))), (mo, .inr (16, [.int (u20.2.2 0), .int (u20.2.2 1), .int u20.1, .ref (u20.2.1 0), .ref (u20.2.1 1), .ref (u20.2.1 2), .ref (u20.2.1 3), .ref (u20.2.1 4), .ref (u20.2.1 5), .ref (u20.2.1 6), .ref (u20.2.1 7), .int (u20.2.2 2), .ref (u20.2.1 8)]))] := hD
  have hK : va_K D vwCl [(coo, .long)] s := hK
  refine lv_istore (lv' := [(7, .int r22), (6, .int r11), (5, .int 0), (4, .ref od), (3, .ref oo), (2, .ref mo), (1, .ref x), (0, .ref b)]) hx hb dL_law_2710 hl (by decide) rfl (fun ls hl => ?_)
  refine lv_aload_n hx hb dL_law_2712 rfl (lv_at hl 5 rfl) ?_
  refine mc_i (wr := [(oo, .inl (coo, 1, .inr (.inl u9)))]) (va_runV (As := []) (rest := []) ⟨hx, hb, hml, hown, hts⟩ (c_thrown l hst D mo (u20.2.2 0) (u20.2.2 1) u20.1 (u20.2.1 0) (u20.2.1 1) (u20.2.1 2) (u20.2.1 3) (u20.2.1 4) (u20.2.1 5) (u20.2.1 6) (u20.2.1 7) (u20.2.2 2) (u20.2.1 8) H.size) (cwV 0 hts (gi_c mw_770 rfl (gi_c mw_771 rfl (gi_c mw_772 rfl (gi_c mw_481 rfl (goodIn_sub il_c_thrown (List.all_eq_true.mpr gw_c_thrown)))))) rfl rfl rfl (by decide +kernel) ⟨Nat.le_of_ble_eq_true rfl, Nat.le_of_ble_eq_true rfl⟩) (pr_V (As := []) (b := mo) (C := RX9) hP hD hK hS hA hE [1] [] rfl rfl rfl 1 16 rfl rfl rfl) rfl rfl hl.1 rfl (lv_room (Nat.le_of_ble_eq_true rfl)) dL_law_2713 ⟨Nat.le_of_ble_eq_true rfl, Nat.le_of_ble_eq_true rfl⟩) hP hD hK hS hA [1] [0] rfl rfl (by decide) (by decide) (fun r24 _ H locs w23 hP hD hK hS => ?_)
  have hP : va_P D vwCl [(oo, .inl (coo, 1, .inr (.inl u9))), (mo, .inr (16, [.int (u20.2.2 0), .int (u20.2.2 1), .int u20.1, .ref (u20.2.1 0), .ref (u20.2.1 1), .ref (u20.2.1 2), .ref (u20.2.1 3), .ref (u20.2.1 4), .ref (u20.2.1 5), .ref (u20.2.1 6), .ref (u20.2.1 7), .int (u20.2.2 2), .ref (u20.2.1 8)]))] H := hP
  have hD : va_D (lw_A s) [(oo, .inl (coo, 1, .inr (.inl u9))), (mo, .inr (16, [.int (u20.2.2 0), .int (u20.2.2 1), .int u20.1, .ref (u20.2.1 0), .ref (u20.2.1 1), .ref (u20.2.1 2), .ref (u20.2.1 3), .ref (u20.2.1 4), .ref (u20.2.1 5), .ref (u20.2.1 6), .ref (u20.2.1 7), .int (u20.2.2 2), .ref (u20.2.1 8)]))] := hD
  have hK : va_K D vwCl [(coo, .long)] s := hK
  obtain rfl : r24 = u20.1 := w23
  refine lv_iload hx hb dL_law_2716 (lv_at hl 1 rfl) ?_
  refine lv_icmp_eq (tgt := 2723) hx hb dL_law_2718 (by decide) (fun h25 => ?_) (fun h25 => absurd (by exact (w21.1).trans w10.1.symm) h25)
  refine lv_iload hx hb dL_law_2723 (lv_at hl 1 rfl) ?_
  refine lv_if_ne (tgt := 2740) hx hb dL_law_2725 (by decide) (fun h26 => ?_) (fun h26 => ?_)
  · refine lv_goto (tgt := 3320) hx hb dL_law_2740 (by decide) ?_
    refine W.widen (k := 600006) (n := 7302040) (Nat.le_of_ble_eq_true rfl) (Nat.le_of_ble_eq_true rfl) ?_
    exact hend _ _ _ (lv_sub hl [2, 7] rfl) hS
  · refine lv_aload_n hx hb dL_law_2728 rfl (lv_at hl 4 rfl) ?_
    refine lv_iconst (v := 0) hx hb dL_law_2729 (by decide) ?_
    refine va_lald hx hb hK hP 0 0 rfl rfl (vp_in_nI (n := 0) (by decide) (by decide)) dL_law_2730 ?_
    refine lv_topl (fun x27 e27 => ?_)
    refine lv_iload hx hb dL_law_2731 (lv_at hl 0 rfl) ?_
    refine lv_i2l hx hb dL_law_2733 rfl ?_
    refine lv_topl (fun x28 e28 => ?_)
    refine W.lcmp hx hb dL_law_2734 ?_
    refine lv_topi (fun x29 e29 => ?_)
    refine lv_if_eq (tgt := 2740) hx hb dL_law_2735 (by decide) (fun h30 => ?_) (fun h30 => absurd (by exact e29.trans ((lg_cmp_eq _ _).mpr (e27.trans ((w10.2 (w10.1.symm.trans h26)).trans (e28.trans (congrArg Int32.toInt64 (w21.2 (w10.1.symm.trans h26)))).symm)))) h30)
    refine lv_goto (tgt := 3320) hx hb dL_law_2740 (by decide) ?_
    refine W.widen (k := 600006) (n := 7302040) (Nat.le_of_ble_eq_true rfl) (Nat.le_of_ble_eq_true rfl) ?_
    exact hend _ _ _ (lv_sub hl [2, 7] rfl) hS

set_option maxHeartbeats 4000000 in
set_option maxRecDepth 100000 in
/-- case 37: chase -/
theorem lc_37 (l : Launch) (hst : l.stackTraces = false) (D : va_G) {p : Program} {e : Env} {s : State} {m : MethodId} {below : List Frame} {meth : Method} {c : Code} {b : Nat} {xs : Nat → Int32} {Q : State → Prop} (hx : p.tables.exec = Jvm.exec) (hb : c.code = code) (hml : c.maxLocals = 9) (hown : s.vm.findClass RL = some m.cls) (hts : ∀ w ∈ lw_tbl, w.before #[Value.ref b] s = true) (hX : va_X b 5 xs s s.heap) (hbl : b < s.heap.size) (hE : ex_E D (lw_A s) s s.heap) (hend : lw_End p l e s m below meth c b Q) (x : Nat) (g : Nat) (ca : Nat) (co : Nat) (ra : Nat) (rl : Nat) (tr : Nat) (f9 : Nat) (f10 : Nat) (f11 : Nat) (f12 : Nat) (f13 : Nat) (oo : Nat) (coo : ClassId) (f0 : Nat → Int64) (mo : Nat) (th : Int32) (m1 : Nat) (m2 : Nat) (m3 : Nat) (m4 : Nat) (m5 : Nat) (l1 : Nat) (l2 : Nat) (l3 : Nat) (l4 : Nat) (od : Nat)  {H : Heap} {locs : List Loc} {ls : Array Slot} (hl : lv_has ls 9 [(5, .int 0), (4, .ref od), (3, .ref oo), (2, .ref mo), (1, .ref x), (0, .ref b)]) (hP : va_P D vwCl [(x, .inr (13, [.ref g, .ref ca, .int 0, .ref co, .int 0, .ref ra, .int 0, .ref rl, .ref tr, .ref f9, .ref f10, .ref f11, .ref f12, .ref f13])), (oo, .inl (coo, 1, .inr (.inl f0))), (mo, .inr (16, [.int 5, .int 5, .int th, .ref m1, .ref m2, .ref m3, .ref m4, .ref m5, .ref l1, .ref l2, .ref l3, .int (-1), .ref l4])), (l2, .inr (5, [.int 1, .ref (D.1 1000), .int 0]))] H) (hD : va_D (lw_A s) [(x, .inr (13, [.ref g, .ref ca, .int 0, .ref co, .int 0, .ref ra, .int 0, .ref rl, .ref tr, .ref f9, .ref f10, .ref f11, .ref f12, .ref f13])), (oo, .inl (coo, 1, .inr (.inl f0))), (mo, .inr (16, [.int 5, .int 5, .int th, .ref m1, .ref m2, .ref m3, .ref m4, .ref m5, .ref l1, .ref l2, .ref l3, .int (-1), .ref l4])), (l2, .inr (5, [.int 1, .ref (D.1 1000), .int 0]))]) (hK : va_K D vwCl [(coo, .long)] s) (hS : va_S (lw_A s) s.heap H locs) : W p l e room_1 s m #[Value.ref b] below meth c H locs 167 55824 Q (F0 m 2743 ls []) := by
  have hA : ∀ q : Nat, s.heap.size ≤ q → lw_A s q := fun _ h => h
  have hbA : ¬ lw_A s b := Nat.not_le.mpr hbl
  refine lv_aload_n hx hb dL_law_2743 rfl (lv_at hl 4 rfl) ?_
  refine lv_aload_n hx hb dL_law_2744 rfl (lv_at hl 5 rfl) ?_
  refine lv_iload hx hb dL_law_2745 (lv_at hl 0 rfl) ?_
  refine lv_iconst (v := 1) hx hb dL_law_2747 (by decide) ?_
  refine lv_iadd hx hb dL_law_2748 ?_
  refine lv_topi (fun x1 e1 => ?_)
  obtain rfl : x1 = 1 := e1.trans (by decide)
  refine va_sld hx hb hX hbl hbA hS (vp_in_nI (n := 1) (by decide) (by decide)) dL_law_2749 ?_
  refine lv_topi (fun x2 e2 => ?_)
  obtain rfl : x2 = xs 1 := e2
  refine lv_aload_n hx hb dL_law_2750 rfl (lv_at hl 5 rfl) ?_
  refine lv_iload hx hb dL_law_2751 (lv_at hl 0 rfl) ?_
  refine lv_iconst (v := 2) hx hb dL_law_2753 (by decide) ?_
  refine lv_iadd hx hb dL_law_2754 ?_
  refine lv_topi (fun x3 e3 => ?_)
  obtain rfl : x3 = 2 := e3.trans (by decide)
  refine va_sld hx hb hX hbl hbA hS (vp_in_nI (n := 2) (by decide) (by decide)) dL_law_2755 ?_
  refine lv_topi (fun x4 e4 => ?_)
  obtain rfl : x4 = xs 2 := e4
  refine lv_aload_n hx hb dL_law_2756 rfl (lv_at hl 5 rfl) ?_
  refine lv_iload hx hb dL_law_2757 (lv_at hl 0 rfl) ?_
  refine lv_iconst (v := 3) hx hb dL_law_2759 (by decide) ?_
  refine lv_iadd hx hb dL_law_2760 ?_
  refine lv_topi (fun x5 e5 => ?_)
  obtain rfl : x5 = 3 := e5.trans (by decide)
  refine va_sld hx hb hX hbl hbA hS (vp_in_nI (n := 3) (by decide) (by decide)) dL_law_2761 ?_
  refine lv_topi (fun x6 e6 => ?_)
  obtain rfl : x6 = xs 3 := e6
  refine lv_aload_n hx hb dL_law_2762 rfl (lv_at hl 2 rfl) ?_
  refine mc_i (wr := [(mo, .inr (16, [.int 5, .int 5, .int th, .ref m1, .ref m2, .ref m3, .ref m4, .ref m5, .ref l1, .ref l2, .ref l3, .int (-1), .ref l4])), (l2, .inr (5, [.int 1, .ref (D.1 1000), .int 0]))]) (vx_runSW (As := [.ref x, .int (xs 1), .int (xs 2), .int (xs 3), .ref oo]) (rest := []) ⟨hx, hb, hml, hown, hts⟩ (c_Lchase l hst D x g ca co ra rl tr f9 f10 f11 f12 f13 (xs 1) (xs 2) (xs 3) oo coo f0 H.size) (vx_cwSW 5 hts (gi_c mw_955 rfl (gi_c mw_956 rfl (gi_c mw_766 rfl (goodIn_sub il_c_Lchase (List.all_eq_true.mpr gw_c_Lchase))))) rfl rfl rfl (by decide +kernel) ⟨Nat.le_of_ble_eq_true rfl, Nat.le_of_ble_eq_true rfl⟩) (pr_S (As := [.ref x, .int (xs 1), .int (xs 2), .int (xs 3), .ref oo]) hP hD hK hS hA hE [0, 1] [0] rfl rfl rfl) rfl rfl hl.1 rfl (lv_room (Nat.le_of_ble_eq_true rfl)) dL_law_2763 ⟨Nat.le_of_ble_eq_true rfl, Nat.le_of_ble_eq_true rfl⟩) hP hD hK hS hA [0, 1] [2, 3] rfl rfl (by decide) (by decide) (fun r9 u7 H locs w8 hP hD hK hS => ?_)
  have hP : va_P D vwCl [(mo, .inr (16, [.int 5, .int 5, .int th, .ref m1, .ref m2, .ref m3, .ref m4, .ref m5, .ref l1, .ref l2, .ref l3, .int (-1), .ref l4])), (l2, .inr (5, [.int 1, .ref (D.1 1000), .int 0])), (oo, .inl (coo, 1, .inr (.inl u7)))] H := hP
  have hD : va_D (lw_A s) [(mo, .inr (16, [.int 5, .int 5, .int th, .ref m1, .ref m2, .ref m3, .ref m4, .ref m5, .ref l1, .ref l2, .ref l3, .int (-1), .ref l4])), (l2, .inr (5, [.int 1, .ref (D.1 1000), .int 0])), (oo, .inl (coo, 1, .inr (.inl u7)))] := hD
  have hK : va_K D vwCl [(coo, .long)] s := hK
  refine lv_istore (lv' := [(6, .int r9), (5, .int 0), (4, .ref od), (3, .ref oo), (2, .ref mo), (1, .ref x), (0, .ref b)]) hx hb dL_law_2766 hl (by decide) rfl (fun ls hl => ?_)
  refine lv_aload_n hx hb dL_law_2768 rfl (lv_at hl 4 rfl) ?_
  refine lv_aload_n hx hb dL_law_2769 rfl (lv_at hl 6 rfl) ?_
  refine lv_iload hx hb dL_law_2770 (lv_at hl 1 rfl) ?_
  refine lv_iconst (v := 1) hx hb dL_law_2772 (by decide) ?_
  refine lv_iadd hx hb dL_law_2773 ?_
  refine lv_topi (fun x10 e10 => ?_)
  obtain rfl : x10 = 1 := e10.trans (by decide)
  refine va_sld hx hb hX hbl hbA hS (vp_in_nI (n := 1) (by decide) (by decide)) dL_law_2774 ?_
  refine lv_topi (fun x11 e11 => ?_)
  obtain rfl : x11 = xs 1 := e11
  refine lv_aload_n hx hb dL_law_2775 rfl (lv_at hl 6 rfl) ?_
  refine lv_iload hx hb dL_law_2776 (lv_at hl 1 rfl) ?_
  refine lv_iconst (v := 2) hx hb dL_law_2778 (by decide) ?_
  refine lv_iadd hx hb dL_law_2779 ?_
  refine lv_topi (fun x12 e12 => ?_)
  obtain rfl : x12 = 2 := e12.trans (by decide)
  refine va_sld hx hb hX hbl hbA hS (vp_in_nI (n := 2) (by decide) (by decide)) dL_law_2780 ?_
  refine lv_topi (fun x13 e13 => ?_)
  obtain rfl : x13 = xs 2 := e13
  refine lv_aload_n hx hb dL_law_2781 rfl (lv_at hl 6 rfl) ?_
  refine lv_iload hx hb dL_law_2782 (lv_at hl 1 rfl) ?_
  refine lv_iconst (v := 3) hx hb dL_law_2784 (by decide) ?_
  refine lv_iadd hx hb dL_law_2785 ?_
  refine lv_topi (fun x14 e14 => ?_)
  obtain rfl : x14 = 3 := e14.trans (by decide)
  refine va_sld hx hb hX hbl hbA hS (vp_in_nI (n := 3) (by decide) (by decide)) dL_law_2786 ?_
  refine lv_topi (fun x15 e15 => ?_)
  obtain rfl : x15 = xs 3 := e15
  refine mc_i (wr := [(oo, .inl (coo, 1, .inr (.inl u7)))]) (va_runV (As := [.int (xs 1), .int (xs 2), .int (xs 3)]) (rest := []) ⟨hx, hb, hml, hown, hts⟩ (c_mchase l hst D mo th m1 m2 m3 m4 m5 l1 l2 l3 l4 (xs 1) (xs 2) (xs 3) H.size) (cwV 3 hts (gi_c mw_957 rfl (gi_c mw_958 rfl (gi_c mw_959 rfl (gi_c mw_481 rfl (goodIn_sub il_c_mchase (List.all_eq_true.mpr gw_c_mchase)))))) rfl rfl rfl (by decide +kernel) ⟨Nat.le_of_ble_eq_true rfl, Nat.le_of_ble_eq_true rfl⟩) (pr_V (As := [.int (xs 1), .int (xs 2), .int (xs 3)]) (b := mo) (C := RX9) hP hD hK hS hA hE [0, 1] [] rfl rfl rfl 0 16 rfl rfl rfl) rfl rfl hl.1 rfl (lv_room (Nat.le_of_ble_eq_true rfl)) dL_law_2787 ⟨Nat.le_of_ble_eq_true rfl, Nat.le_of_ble_eq_true rfl⟩) hP hD hK hS hA [0, 1] [2] rfl rfl (by decide) (by decide) (fun r18 u16 H locs w17 hP hD hK hS => ?_)
  have hP : va_P D vwCl [(oo, .inl (coo, 1, .inr (.inl u7))), (mo, .inr (16, [.int (u16.2.2 0), .int (u16.2.2 1), .int u16.1, .ref (u16.2.1 0), .ref (u16.2.1 1), .ref (u16.2.1 2), .ref (u16.2.1 3), .ref (u16.2.1 4), .ref (u16.2.1 5), .ref (u16.2.1 6), .ref (u16.2.1 7), .int (u16.2.2 2), .ref (u16.2.1 8)]))] H := hP
  have hD : va_D (lw_A s) [(oo, .inl (coo, 1, .inr (.inl u7))), (mo, .inr (16, [.int (u16.2.2 0), .int (u16.2.2 1), .int u16.1, .ref (u16.2.1 0), .ref (u16.2.1 1), .ref (u16.2.1 2), .ref (u16.2.1 3), .ref (u16.2.1 4), .ref (u16.2.1 5), .ref (u16.2.1 6), .ref (u16.2.1 7), .int (u16.2.2 2), .ref (u16.2.1 8)]))] := hD
  have hK : va_K D vwCl [(coo, .long)] s := hK
  refine lv_istore (lv' := [(7, .int r18), (6, .int r9), (5, .int 0), (4, .ref od), (3, .ref oo), (2, .ref mo), (1, .ref x), (0, .ref b)]) hx hb dL_law_2790 hl (by decide) rfl (fun ls hl => ?_)
  refine lv_aload_n hx hb dL_law_2792 rfl (lv_at hl 5 rfl) ?_
  refine mc_i (wr := [(oo, .inl (coo, 1, .inr (.inl u7)))]) (va_runV (As := []) (rest := []) ⟨hx, hb, hml, hown, hts⟩ (c_thrown l hst D mo (u16.2.2 0) (u16.2.2 1) u16.1 (u16.2.1 0) (u16.2.1 1) (u16.2.1 2) (u16.2.1 3) (u16.2.1 4) (u16.2.1 5) (u16.2.1 6) (u16.2.1 7) (u16.2.2 2) (u16.2.1 8) H.size) (cwV 0 hts (gi_c mw_770 rfl (gi_c mw_771 rfl (gi_c mw_772 rfl (gi_c mw_481 rfl (goodIn_sub il_c_thrown (List.all_eq_true.mpr gw_c_thrown)))))) rfl rfl rfl (by decide +kernel) ⟨Nat.le_of_ble_eq_true rfl, Nat.le_of_ble_eq_true rfl⟩) (pr_V (As := []) (b := mo) (C := RX9) hP hD hK hS hA hE [1] [] rfl rfl rfl 1 16 rfl rfl rfl) rfl rfl hl.1 rfl (lv_room (Nat.le_of_ble_eq_true rfl)) dL_law_2793 ⟨Nat.le_of_ble_eq_true rfl, Nat.le_of_ble_eq_true rfl⟩) hP hD hK hS hA [1] [0] rfl rfl (by decide) (by decide) (fun r20 _ H locs w19 hP hD hK hS => ?_)
  have hP : va_P D vwCl [(oo, .inl (coo, 1, .inr (.inl u7))), (mo, .inr (16, [.int (u16.2.2 0), .int (u16.2.2 1), .int u16.1, .ref (u16.2.1 0), .ref (u16.2.1 1), .ref (u16.2.1 2), .ref (u16.2.1 3), .ref (u16.2.1 4), .ref (u16.2.1 5), .ref (u16.2.1 6), .ref (u16.2.1 7), .int (u16.2.2 2), .ref (u16.2.1 8)]))] H := hP
  have hD : va_D (lw_A s) [(oo, .inl (coo, 1, .inr (.inl u7))), (mo, .inr (16, [.int (u16.2.2 0), .int (u16.2.2 1), .int u16.1, .ref (u16.2.1 0), .ref (u16.2.1 1), .ref (u16.2.1 2), .ref (u16.2.1 3), .ref (u16.2.1 4), .ref (u16.2.1 5), .ref (u16.2.1 6), .ref (u16.2.1 7), .int (u16.2.2 2), .ref (u16.2.1 8)]))] := hD
  have hK : va_K D vwCl [(coo, .long)] s := hK
  obtain rfl : r20 = u16.1 := w19
  refine lv_iload hx hb dL_law_2796 (lv_at hl 1 rfl) ?_
  refine lv_icmp_eq (tgt := 2803) hx hb dL_law_2798 (by decide) (fun h21 => ?_) (fun h21 => absurd (by exact (w17).trans w8.1.symm) h21)
  refine lv_iload hx hb dL_law_2803 (lv_at hl 1 rfl) ?_
  refine lv_if_ne (tgt := 2820) hx hb dL_law_2805 (by decide) (fun h22 => ?_) (fun h22 => absurd h22 (by exact fun q9 => absurd (show (1 : Int32) = 0 from w8.1.symm.trans q9) (by decide)))
  refine lv_goto (tgt := 3320) hx hb dL_law_2820 (by decide) ?_
  refine W.widen (k := 600006) (n := 7302040) (Nat.le_of_ble_eq_true rfl) (Nat.le_of_ble_eq_true rfl) ?_
  exact hend _ _ _ (lv_sub hl [2, 7] rfl) hS

set_option maxHeartbeats 4000000 in
set_option maxRecDepth 100000 in
/-- case 38: score -/
theorem lc_38 (l : Launch) (hst : l.stackTraces = false) (D : va_G) {p : Program} {e : Env} {s : State} {m : MethodId} {below : List Frame} {meth : Method} {c : Code} {b : Nat} {xs : Nat → Int32} {Q : State → Prop} (hx : p.tables.exec = Jvm.exec) (hb : c.code = code) (hml : c.maxLocals = 9) (hown : s.vm.findClass RL = some m.cls) (hts : ∀ w ∈ lw_tbl, w.before #[Value.ref b] s = true) (hX : va_X b 5 xs s s.heap) (hbl : b < s.heap.size) (hE : ex_E D (lw_A s) s s.heap) (hend : lw_End p l e s m below meth c b Q) (x : Nat) (g : Nat) (ca : Nat) (co : Nat) (ra : Nat) (rl : Nat) (tr : Nat) (f9 : Nat) (f10 : Nat) (f11 : Nat) (f12 : Nat) (f13 : Nat) (a1 : Nat) (a2 : Nat) (a3 : Nat) (a4 : Nat) (a5 : Nat) (a6 : Nat) (a7 : Nat) (a8 : Nat) (a9 : Nat) (a10 : Nat) (a11 : Nat) (ts1 : Nat) (tw : Nat) (ts2 : Nat) (ck : ClassId) (csk : ClassId) (cg : ClassId) (ch : ClassId) (csg : ClassId) (cw : ClassId) (cq : ClassId) (cz : ClassId) (cb : ClassId) (ctw : ClassId) (oo : Nat) (coo : ClassId) (f0 : Nat → Int64) (mo : Nat) (th : Int32) (m1 : Nat) (m2 : Nat) (m3 : Nat) (m4 : Nat) (m5 : Nat) (l1 : Nat) (l2 : Nat) (l3 : Nat) (l4 : Nat) (cm1 : ClassId) (cm2 : ClassId) (cm3 : ClassId) (cm4 : ClassId) (cm5 : ClassId) (od : Nat)  {H : Heap} {locs : List Loc} {ls : Array Slot} (hl : lv_has ls 9 [(5, .int 0), (4, .ref od), (3, .ref oo), (2, .ref mo), (1, .ref x), (0, .ref b)]) (hP : va_P D vwCl [(x, .inr (13, [.ref g, .ref ca, .int 0, .ref co, .int 0, .ref ra, .int 0, .ref rl, .ref tr, .ref f9, .ref f10, .ref f11, .ref f12, .ref f13])), (g, .inr (11, [.int 25, .ref a1, .ref a2, .ref a3, .ref a4, .ref a5, .ref a6, .ref a7, .ref a8, .ref a9, .ref a10, .ref a11, .int 0, .int 0])), (a6, .inl (cw, 144, .inl (fL zL))), (a10, .inl (cq, 144, .inl (fL zL))), (a11, .inl (cz, 144, .inl (fL zL))), (a3, .inl (ck, 144, .inl okF)), (a5, .inl (csk, 144, .inl okF)), (a1, .inl (cg, 144, .inl (fun _ => 0))), (a2, .inl (ch, 144, .inl (fun _ => 0))), (a4, .inl (csg, 144, .inl (fun _ => 0))), (a9, .inl (cb, 576, .inl beF)), (tr, .inr (12, [.ref ts1, .ref tw, .ref ts2])), (tw, .inl (ctw, 169, .inl (fun _ => 0))), (oo, .inl (coo, 1, .inr (.inl f0))), (mo, .inr (16, [.int 5, .int 5, .int th, .ref m1, .ref m2, .ref m3, .ref m4, .ref m5, .ref l1, .ref l2, .ref l3, .int (-1), .ref l4])), (m1, .inl (cm1, 25, .inl (fun _ => 0))), (m2, .inl (cm2, 25, .inl (fun _ => 0))), (m3, .inl (cm3, 25, .inl (fun _ => 0))), (m4, .inl (cm4, 25, .inl fK5)), (m5, .inl (cm5, 25, .inl fK5)), (l1, .inr (5, [.int 1, .ref (D.1 1000), .int 0]))] H) (hD : va_D (lw_A s) [(x, .inr (13, [.ref g, .ref ca, .int 0, .ref co, .int 0, .ref ra, .int 0, .ref rl, .ref tr, .ref f9, .ref f10, .ref f11, .ref f12, .ref f13])), (g, .inr (11, [.int 25, .ref a1, .ref a2, .ref a3, .ref a4, .ref a5, .ref a6, .ref a7, .ref a8, .ref a9, .ref a10, .ref a11, .int 0, .int 0])), (a6, .inl (cw, 144, .inl (fL zL))), (a10, .inl (cq, 144, .inl (fL zL))), (a11, .inl (cz, 144, .inl (fL zL))), (a3, .inl (ck, 144, .inl okF)), (a5, .inl (csk, 144, .inl okF)), (a1, .inl (cg, 144, .inl (fun _ => 0))), (a2, .inl (ch, 144, .inl (fun _ => 0))), (a4, .inl (csg, 144, .inl (fun _ => 0))), (a9, .inl (cb, 576, .inl beF)), (tr, .inr (12, [.ref ts1, .ref tw, .ref ts2])), (tw, .inl (ctw, 169, .inl (fun _ => 0))), (oo, .inl (coo, 1, .inr (.inl f0))), (mo, .inr (16, [.int 5, .int 5, .int th, .ref m1, .ref m2, .ref m3, .ref m4, .ref m5, .ref l1, .ref l2, .ref l3, .int (-1), .ref l4])), (m1, .inl (cm1, 25, .inl (fun _ => 0))), (m2, .inl (cm2, 25, .inl (fun _ => 0))), (m3, .inl (cm3, 25, .inl (fun _ => 0))), (m4, .inl (cm4, 25, .inl fK5)), (m5, .inl (cm5, 25, .inl fK5)), (l1, .inr (5, [.int 1, .ref (D.1 1000), .int 0]))]) (hK : va_K D vwCl [(ck, .char), (csk, .char), (cg, .int), (ch, .int), (csg, .int), (cw, .int), (cq, .int), (cz, .boolean), (cb, .int), (ctw, .int), (coo, .long), (cm1, .int), (cm2, .int), (cm3, .int), (cm4, .char), (cm5, .char)] s) (hS : va_S (lw_A s) s.heap H locs) : W p l e room_1 s m #[Value.ref b] below meth c H locs 167 55824 Q (F0 m 2823 ls []) := by
  have hA : ∀ q : Nat, s.heap.size ≤ q → lw_A s q := fun _ h => h
  have hbA : ¬ lw_A s b := Nat.not_le.mpr hbl
  refine lv_aload_n hx hb dL_law_2823 rfl (lv_at hl 4 rfl) ?_
  refine lv_aload_n hx hb dL_law_2824 rfl (lv_at hl 5 rfl) ?_
  refine lv_iload hx hb dL_law_2825 (lv_at hl 0 rfl) ?_
  refine lv_iconst (v := 1) hx hb dL_law_2827 (by decide) ?_
  refine lv_iadd hx hb dL_law_2828 ?_
  refine lv_topi (fun x1 e1 => ?_)
  obtain rfl : x1 = 1 := e1.trans (by decide)
  refine va_sld hx hb hX hbl hbA hS (vp_in_nI (n := 1) (by decide) (by decide)) dL_law_2829 ?_
  refine lv_topi (fun x2 e2 => ?_)
  obtain rfl : x2 = xs 1 := e2
  refine lv_aload_n hx hb dL_law_2830 rfl (lv_at hl 5 rfl) ?_
  refine lv_iload hx hb dL_law_2831 (lv_at hl 0 rfl) ?_
  refine lv_iconst (v := 2) hx hb dL_law_2833 (by decide) ?_
  refine lv_iadd hx hb dL_law_2834 ?_
  refine lv_topi (fun x3 e3 => ?_)
  obtain rfl : x3 = 2 := e3.trans (by decide)
  refine va_sld hx hb hX hbl hbA hS (vp_in_nI (n := 2) (by decide) (by decide)) dL_law_2835 ?_
  refine lv_topi (fun x4 e4 => ?_)
  obtain rfl : x4 = xs 2 := e4
  refine lv_aload_n hx hb dL_law_2836 rfl (lv_at hl 5 rfl) ?_
  refine lv_iload hx hb dL_law_2837 (lv_at hl 0 rfl) ?_
  refine lv_iconst (v := 3) hx hb dL_law_2839 (by decide) ?_
  refine lv_iadd hx hb dL_law_2840 ?_
  refine lv_topi (fun x5 e5 => ?_)
  obtain rfl : x5 = 3 := e5.trans (by decide)
  refine va_sld hx hb hX hbl hbA hS (vp_in_nI (n := 3) (by decide) (by decide)) dL_law_2841 ?_
  refine lv_topi (fun x6 e6 => ?_)
  obtain rfl : x6 = xs 3 := e6
  refine lv_aload_n hx hb dL_law_2842 rfl (lv_at hl 2 rfl) ?_
  refine mc_i (wr := [(mo, .inr (16, [.int 5, .int 5, .int th, .ref m1, .ref m2, .ref m3, .ref m4, .ref m5, .ref l1, .ref l2, .ref l3, .int (-1), .ref l4])), (m1, .inl (cm1, 25, .inl (fun _ => 0))), (m2, .inl (cm2, 25, .inl (fun _ => 0))), (m3, .inl (cm3, 25, .inl (fun _ => 0))), (m4, .inl (cm4, 25, .inl fK5)), (m5, .inl (cm5, 25, .inl fK5)), (l1, .inr (5, [.int 1, .ref (D.1 1000), .int 0]))]) (vx_runSW (As := [.ref x, .int (xs 1), .int (xs 2), .int (xs 3), .ref oo]) (rest := []) ⟨hx, hb, hml, hown, hts⟩ (c_Lscore l hst D x g ca co ra rl tr f9 f10 f11 f12 f13 a1 a2 a3 a4 a5 a6 a7 a8 a9 a10 a11 ts1 tw ts2 ck csk cg ch csg cw cq cz cb ctw (xs 1) (xs 2) (xs 3) oo coo f0 H.size) (vx_cwSW 5 hts (gi_c mw_960 rfl (gi_c mw_961 rfl (gi_c mw_766 rfl (goodIn_sub il_c_Lscore (List.all_eq_true.mpr gw_c_Lscore))))) rfl rfl rfl (by decide +kernel) ⟨Nat.le_of_ble_eq_true rfl, Nat.le_of_ble_eq_true rfl⟩) (pr_S (As := [.ref x, .int (xs 1), .int (xs 2), .int (xs 3), .ref oo]) hP hD hK hS hA hE [0, 1, 2, 3, 4, 5, 6, 7, 8, 9, 10, 11, 12, 13] [0, 1, 2, 3, 4, 5, 6, 7, 8, 9, 10] rfl rfl rfl) rfl rfl hl.1 rfl (lv_room (Nat.le_of_ble_eq_true rfl)) dL_law_2843 ⟨Nat.le_of_ble_eq_true rfl, Nat.le_of_ble_eq_true rfl⟩) hP hD hK hS hA [0, 1, 2, 3, 4, 5, 6, 7, 8, 9, 10, 11, 12, 13] [14, 15, 16, 17, 18, 19, 20] rfl rfl (by decide) (by decide) (fun r9 u7 H locs w8 hP hD hK hS => ?_)
  have hP : va_P D vwCl [(mo, .inr (16, [.int 5, .int 5, .int th, .ref m1, .ref m2, .ref m3, .ref m4, .ref m5, .ref l1, .ref l2, .ref l3, .int (-1), .ref l4])), (m1, .inl (cm1, 25, .inl (fun _ => 0))), (m2, .inl (cm2, 25, .inl (fun _ => 0))), (m3, .inl (cm3, 25, .inl (fun _ => 0))), (m4, .inl (cm4, 25, .inl fK5)), (m5, .inl (cm5, 25, .inl fK5)), (l1, .inr (5, [.int 1, .ref (D.1 1000), .int 0])), (oo, .inl (coo, 1, .inr (.inl u7)))] H := hP
  have hD : va_D (lw_A s) [(mo, .inr (16, [.int 5, .int 5, .int th, .ref m1, .ref m2, .ref m3, .ref m4, .ref m5, .ref l1, .ref l2, .ref l3, .int (-1), .ref l4])), (m1, .inl (cm1, 25, .inl (fun _ => 0))), (m2, .inl (cm2, 25, .inl (fun _ => 0))), (m3, .inl (cm3, 25, .inl (fun _ => 0))), (m4, .inl (cm4, 25, .inl fK5)), (m5, .inl (cm5, 25, .inl fK5)), (l1, .inr (5, [.int 1, .ref (D.1 1000), .int 0])), (oo, .inl (coo, 1, .inr (.inl u7)))] := hD
  have hK : va_K D vwCl [(ck, .char), (csk, .char), (cg, .int), (ch, .int), (csg, .int), (cw, .int), (cq, .int), (cz, .boolean), (cb, .int), (ctw, .int), (coo, .long), (cm1, .int), (cm2, .int), (cm3, .int), (cm4, .char), (cm5, .char)] s := hK
  refine lv_istore (lv' := [(6, .int r9), (5, .int 0), (4, .ref od), (3, .ref oo), (2, .ref mo), (1, .ref x), (0, .ref b)]) hx hb dL_law_2846 hl (by decide) rfl (fun ls hl => ?_)
  refine lv_aload_n hx hb dL_law_2848 rfl (lv_at hl 4 rfl) ?_
  refine lv_aload_n hx hb dL_law_2849 rfl (lv_at hl 6 rfl) ?_
  refine lv_iload hx hb dL_law_2850 (lv_at hl 1 rfl) ?_
  refine lv_iconst (v := 1) hx hb dL_law_2852 (by decide) ?_
  refine lv_iadd hx hb dL_law_2853 ?_
  refine lv_topi (fun x10 e10 => ?_)
  obtain rfl : x10 = 1 := e10.trans (by decide)
  refine va_sld hx hb hX hbl hbA hS (vp_in_nI (n := 1) (by decide) (by decide)) dL_law_2854 ?_
  refine lv_topi (fun x11 e11 => ?_)
  obtain rfl : x11 = xs 1 := e11
  refine lv_aload_n hx hb dL_law_2855 rfl (lv_at hl 6 rfl) ?_
  refine lv_iload hx hb dL_law_2856 (lv_at hl 1 rfl) ?_
  refine lv_iconst (v := 2) hx hb dL_law_2858 (by decide) ?_
  refine lv_iadd hx hb dL_law_2859 ?_
  refine lv_topi (fun x12 e12 => ?_)
  obtain rfl : x12 = 2 := e12.trans (by decide)
  refine va_sld hx hb hX hbl hbA hS (vp_in_nI (n := 2) (by decide) (by decide)) dL_law_2860 ?_
  refine lv_topi (fun x13 e13 => ?_)
  obtain rfl : x13 = xs 2 := e13
  refine lv_aload_n hx hb dL_law_2861 rfl (lv_at hl 6 rfl) ?_
  refine lv_iload hx hb dL_law_2862 (lv_at hl 1 rfl) ?_
  refine lv_iconst (v := 3) hx hb dL_law_2864 (by decide) ?_
  refine lv_iadd hx hb dL_law_2865 ?_
  refine lv_topi (fun x14 e14 => ?_)
  obtain rfl : x14 = 3 := e14.trans (by decide)
  refine va_sld hx hb hX hbl hbA hS (vp_in_nI (n := 3) (by decide) (by decide)) dL_law_2866 ?_
  refine lv_topi (fun x15 e15 => ?_)
  obtain rfl : x15 = xs 3 := e15
  refine mc_i (wr := [(oo, .inl (coo, 1, .inr (.inl u7)))]) (va_runV (As := [.int (xs 1), .int (xs 2), .int (xs 3)]) (rest := []) ⟨hx, hb, hml, hown, hts⟩ (c_mscore l hst D mo th m1 m2 m3 m4 m5 l1 l2 l3 l4 cm1 cm2 cm3 cm4 cm5 (xs 1) (xs 2) (xs 3) H.size) (cwV 3 hts (gi_c mw_962 rfl (gi_c mw_963 rfl (gi_c mw_964 rfl (gi_c mw_481 rfl (goodIn_sub il_c_mscore (List.all_eq_true.mpr gw_c_mscore)))))) rfl rfl rfl (by decide +kernel) ⟨Nat.le_of_ble_eq_true rfl, Nat.le_of_ble_eq_true rfl⟩) (pr_V (As := [.int (xs 1), .int (xs 2), .int (xs 3)]) (b := mo) (C := RX9) hP hD hK hS hA hE [0, 1, 2, 3, 4, 5, 6] [11, 12, 13, 14, 15] rfl rfl rfl 0 16 rfl rfl rfl) rfl rfl hl.1 rfl (lv_room (Nat.le_of_ble_eq_true rfl)) dL_law_2867 ⟨Nat.le_of_ble_eq_true rfl, Nat.le_of_ble_eq_true rfl⟩) hP hD hK hS hA [0, 1, 2, 3, 4, 5, 6] [7] rfl rfl (by decide) (by decide) (fun r18 u16 H locs w17 hP hD hK hS => ?_)
  have hP : va_P D vwCl [(oo, .inl (coo, 1, .inr (.inl u7))), (mo, .inr (16, [.int (u16.2.2 0), .int (u16.2.2 1), .int u16.1, .ref (u16.2.1 0), .ref (u16.2.1 1), .ref (u16.2.1 2), .ref (u16.2.1 3), .ref (u16.2.1 4), .ref (u16.2.1 5), .ref (u16.2.1 6), .ref (u16.2.1 7), .int (u16.2.2 2), .ref (u16.2.1 8)]))] H := hP
  have hD : va_D (lw_A s) [(oo, .inl (coo, 1, .inr (.inl u7))), (mo, .inr (16, [.int (u16.2.2 0), .int (u16.2.2 1), .int u16.1, .ref (u16.2.1 0), .ref (u16.2.1 1), .ref (u16.2.1 2), .ref (u16.2.1 3), .ref (u16.2.1 4), .ref (u16.2.1 5), .ref (u16.2.1 6), .ref (u16.2.1 7), .int (u16.2.2 2), .ref (u16.2.1 8)]))] := hD
  have hK : va_K D vwCl [(ck, .char), (csk, .char), (cg, .int), (ch, .int), (csg, .int), (cw, .int), (cq, .int), (cz, .boolean), (cb, .int), (ctw, .int), (coo, .long), (cm1, .int), (cm2, .int), (cm3, .int), (cm4, .char), (cm5, .char)] s := hK
  refine lv_istore (lv' := [(7, .int r18), (6, .int r9), (5, .int 0), (4, .ref od), (3, .ref oo), (2, .ref mo), (1, .ref x), (0, .ref b)]) hx hb dL_law_2870 hl (by decide) rfl (fun ls hl => ?_)
  refine lv_aload_n hx hb dL_law_2872 rfl (lv_at hl 5 rfl) ?_
  refine mc_i (wr := [(oo, .inl (coo, 1, .inr (.inl u7)))]) (va_runV (As := []) (rest := []) ⟨hx, hb, hml, hown, hts⟩ (c_thrown l hst D mo (u16.2.2 0) (u16.2.2 1) u16.1 (u16.2.1 0) (u16.2.1 1) (u16.2.1 2) (u16.2.1 3) (u16.2.1 4) (u16.2.1 5) (u16.2.1 6) (u16.2.1 7) (u16.2.2 2) (u16.2.1 8) H.size) (cwV 0 hts (gi_c mw_770 rfl (gi_c mw_771 rfl (gi_c mw_772 rfl (gi_c mw_481 rfl (goodIn_sub il_c_thrown (List.all_eq_true.mpr gw_c_thrown)))))) rfl rfl rfl (by decide +kernel) ⟨Nat.le_of_ble_eq_true rfl, Nat.le_of_ble_eq_true rfl⟩) (pr_V (As := []) (b := mo) (C := RX9) hP hD hK hS hA hE [1] [] rfl rfl rfl 1 16 rfl rfl rfl) rfl rfl hl.1 rfl (lv_room (Nat.le_of_ble_eq_true rfl)) dL_law_2873 ⟨Nat.le_of_ble_eq_true rfl, Nat.le_of_ble_eq_true rfl⟩) hP hD hK hS hA [1] [0] rfl rfl (by decide) (by decide) (fun r20 _ H locs w19 hP hD hK hS => ?_)
  have hP : va_P D vwCl [(oo, .inl (coo, 1, .inr (.inl u7))), (mo, .inr (16, [.int (u16.2.2 0), .int (u16.2.2 1), .int u16.1, .ref (u16.2.1 0), .ref (u16.2.1 1), .ref (u16.2.1 2), .ref (u16.2.1 3), .ref (u16.2.1 4), .ref (u16.2.1 5), .ref (u16.2.1 6), .ref (u16.2.1 7), .int (u16.2.2 2), .ref (u16.2.1 8)]))] H := hP
  have hD : va_D (lw_A s) [(oo, .inl (coo, 1, .inr (.inl u7))), (mo, .inr (16, [.int (u16.2.2 0), .int (u16.2.2 1), .int u16.1, .ref (u16.2.1 0), .ref (u16.2.1 1), .ref (u16.2.1 2), .ref (u16.2.1 3), .ref (u16.2.1 4), .ref (u16.2.1 5), .ref (u16.2.1 6), .ref (u16.2.1 7), .int (u16.2.2 2), .ref (u16.2.1 8)]))] := hD
  have hK : va_K D vwCl [(ck, .char), (csk, .char), (cg, .int), (ch, .int), (csg, .int), (cw, .int), (cq, .int), (cz, .boolean), (cb, .int), (ctw, .int), (coo, .long), (cm1, .int), (cm2, .int), (cm3, .int), (cm4, .char), (cm5, .char)] s := hK
  obtain rfl : r20 = u16.1 := w19
  refine lv_iload hx hb dL_law_2876 (lv_at hl 1 rfl) ?_
  refine lv_icmp_eq (tgt := 2883) hx hb dL_law_2878 (by decide) (fun h21 => ?_) (fun h21 => absurd (by exact (w17.1).trans w8.1.symm) h21)
  refine lv_iload hx hb dL_law_2883 (lv_at hl 1 rfl) ?_
  refine lv_if_ne (tgt := 2900) hx hb dL_law_2885 (by decide) (fun h22 => ?_) (fun h22 => ?_)
  · refine lv_goto (tgt := 3320) hx hb dL_law_2900 (by decide) ?_
    refine W.widen (k := 600006) (n := 7302040) (Nat.le_of_ble_eq_true rfl) (Nat.le_of_ble_eq_true rfl) ?_
    exact hend _ _ _ (lv_sub hl [2, 7] rfl) hS
  · refine lv_aload_n hx hb dL_law_2888 rfl (lv_at hl 4 rfl) ?_
    refine lv_iconst (v := 0) hx hb dL_law_2889 (by decide) ?_
    refine va_lald hx hb hK hP 0 10 rfl rfl (vp_in_nI (n := 0) (by decide) (by decide)) dL_law_2890 ?_
    refine lv_topl (fun x23 e23 => ?_)
    refine lv_iload hx hb dL_law_2891 (lv_at hl 0 rfl) ?_
    refine lv_i2l hx hb dL_law_2893 rfl ?_
    refine lv_topl (fun x24 e24 => ?_)
    refine W.lcmp hx hb dL_law_2894 ?_
    refine lv_topi (fun x25 e25 => ?_)
    refine lv_if_eq (tgt := 2900) hx hb dL_law_2895 (by decide) (fun h26 => ?_) (fun h26 => absurd (by exact e25.trans ((lg_cmp_eq _ _).mpr (e23.trans ((w8.2 (w8.1.symm.trans h22)).trans (e24.trans (congrArg Int32.toInt64 (w17.2 (w8.1.symm.trans h22)))).symm)))) h26)
    refine lv_goto (tgt := 3320) hx hb dL_law_2900 (by decide) ?_
    refine W.widen (k := 600006) (n := 7302040) (Nat.le_of_ble_eq_true rfl) (Nat.le_of_ble_eq_true rfl) ?_
    exact hend _ _ _ (lv_sub hl [2, 7] rfl) hS

set_option maxHeartbeats 4000000 in
set_option maxRecDepth 100000 in
/-- case 39: late -/
theorem lc_39 (l : Launch) (hst : l.stackTraces = false) (D : va_G) {p : Program} {e : Env} {s : State} {m : MethodId} {below : List Frame} {meth : Method} {c : Code} {b : Nat} {xs : Nat → Int32} {Q : State → Prop} (hx : p.tables.exec = Jvm.exec) (hb : c.code = code) (hml : c.maxLocals = 9) (hown : s.vm.findClass RL = some m.cls) (hts : ∀ w ∈ lw_tbl, w.before #[Value.ref b] s = true) (hX : va_X b 5 xs s s.heap) (hbl : b < s.heap.size) (hE : ex_E D (lw_A s) s s.heap) (hend : lw_End p l e s m below meth c b Q) (x : Nat) (g : Nat) (ca : Nat) (co : Nat) (ra : Nat) (rl : Nat) (tr : Nat) (f9 : Nat) (f10 : Nat) (f11 : Nat) (f12 : Nat) (f13 : Nat) (oo : Nat) (coo : ClassId) (f0 : Nat → Int64) (mo : Nat) (th : Int32) (m1 : Nat) (m2 : Nat) (m3 : Nat) (m4 : Nat) (m5 : Nat) (l1 : Nat) (l2 : Nat) (l3 : Nat) (l4 : Nat) (od : Nat)  {H : Heap} {locs : List Loc} {ls : Array Slot} (hl : lv_has ls 9 [(5, .int 0), (4, .ref od), (3, .ref oo), (2, .ref mo), (1, .ref x), (0, .ref b)]) (hP : va_P D vwCl [(x, .inr (13, [.ref g, .ref ca, .int 0, .ref co, .int 0, .ref ra, .int 0, .ref rl, .ref tr, .ref f9, .ref f10, .ref f11, .ref f12, .ref f13])), (oo, .inl (coo, 1, .inr (.inl f0))), (mo, .inr (16, [.int 5, .int 5, .int th, .ref m1, .ref m2, .ref m3, .ref m4, .ref m5, .ref l1, .ref l2, .ref l3, .int (-1), .ref l4]))] H) (hD : va_D (lw_A s) [(x, .inr (13, [.ref g, .ref ca, .int 0, .ref co, .int 0, .ref ra, .int 0, .ref rl, .ref tr, .ref f9, .ref f10, .ref f11, .ref f12, .ref f13])), (oo, .inl (coo, 1, .inr (.inl f0))), (mo, .inr (16, [.int 5, .int 5, .int th, .ref m1, .ref m2, .ref m3, .ref m4, .ref m5, .ref l1, .ref l2, .ref l3, .int (-1), .ref l4]))]) (hK : va_K D vwCl [(coo, .long)] s) (hS : va_S (lw_A s) s.heap H locs) : W p l e room_1 s m #[Value.ref b] below meth c H locs 167 55824 Q (F0 m 2903 ls []) := by
  have hA : ∀ q : Nat, s.heap.size ≤ q → lw_A s q := fun _ h => h
  have hbA : ¬ lw_A s b := Nat.not_le.mpr hbl
  refine lv_aload_n hx hb dL_law_2903 rfl (lv_at hl 4 rfl) ?_
  refine lv_aload_n hx hb dL_law_2904 rfl (lv_at hl 5 rfl) ?_
  refine lv_iload hx hb dL_law_2905 (lv_at hl 0 rfl) ?_
  refine lv_iconst (v := 1) hx hb dL_law_2907 (by decide) ?_
  refine lv_iadd hx hb dL_law_2908 ?_
  refine lv_topi (fun x1 e1 => ?_)
  obtain rfl : x1 = 1 := e1.trans (by decide)
  refine va_sld hx hb hX hbl hbA hS (vp_in_nI (n := 1) (by decide) (by decide)) dL_law_2909 ?_
  refine lv_topi (fun x2 e2 => ?_)
  obtain rfl : x2 = xs 1 := e2
  refine lv_aload_n hx hb dL_law_2910 rfl (lv_at hl 5 rfl) ?_
  refine lv_iload hx hb dL_law_2911 (lv_at hl 0 rfl) ?_
  refine lv_iconst (v := 2) hx hb dL_law_2913 (by decide) ?_
  refine lv_iadd hx hb dL_law_2914 ?_
  refine lv_topi (fun x3 e3 => ?_)
  obtain rfl : x3 = 2 := e3.trans (by decide)
  refine va_sld hx hb hX hbl hbA hS (vp_in_nI (n := 2) (by decide) (by decide)) dL_law_2915 ?_
  refine lv_topi (fun x4 e4 => ?_)
  obtain rfl : x4 = xs 2 := e4
  refine lv_aload_n hx hb dL_law_2916 rfl (lv_at hl 5 rfl) ?_
  refine lv_iload hx hb dL_law_2917 (lv_at hl 0 rfl) ?_
  refine lv_iconst (v := 3) hx hb dL_law_2919 (by decide) ?_
  refine lv_iadd hx hb dL_law_2920 ?_
  refine lv_topi (fun x5 e5 => ?_)
  obtain rfl : x5 = 3 := e5.trans (by decide)
  refine va_sld hx hb hX hbl hbA hS (vp_in_nI (n := 3) (by decide) (by decide)) dL_law_2921 ?_
  refine lv_topi (fun x6 e6 => ?_)
  obtain rfl : x6 = xs 3 := e6
  refine lv_aload_n hx hb dL_law_2922 rfl (lv_at hl 2 rfl) ?_
  refine mc_i (wr := [(mo, .inr (16, [.int 5, .int 5, .int th, .ref m1, .ref m2, .ref m3, .ref m4, .ref m5, .ref l1, .ref l2, .ref l3, .int (-1), .ref l4]))]) (vx_runSW (As := [.ref x, .int (xs 1), .int (xs 2), .int (xs 3), .ref oo]) (rest := []) ⟨hx, hb, hml, hown, hts⟩ (c_Llate l hst D x g ca co ra rl tr f9 f10 f11 f12 f13 (xs 1) (xs 2) (xs 3) oo coo f0 H.size) (vx_cwSW 5 hts (gi_c mw_965 rfl (gi_c mw_966 rfl (gi_c mw_766 rfl (goodIn_sub il_c_Llate (List.all_eq_true.mpr gw_c_Llate))))) rfl rfl rfl (by decide +kernel) ⟨Nat.le_of_ble_eq_true rfl, Nat.le_of_ble_eq_true rfl⟩) (pr_S (As := [.ref x, .int (xs 1), .int (xs 2), .int (xs 3), .ref oo]) hP hD hK hS hA hE [0, 1] [0] rfl rfl rfl) rfl rfl hl.1 rfl (lv_room (Nat.le_of_ble_eq_true rfl)) dL_law_2923 ⟨Nat.le_of_ble_eq_true rfl, Nat.le_of_ble_eq_true rfl⟩) hP hD hK hS hA [0, 1] [2] rfl rfl (by decide) (by decide) (fun r9 u7 H locs w8 hP hD hK hS => ?_)
  have hP : va_P D vwCl [(mo, .inr (16, [.int 5, .int 5, .int th, .ref m1, .ref m2, .ref m3, .ref m4, .ref m5, .ref l1, .ref l2, .ref l3, .int (-1), .ref l4])), (oo, .inl (coo, 1, .inr (.inl u7)))] H := hP
  have hD : va_D (lw_A s) [(mo, .inr (16, [.int 5, .int 5, .int th, .ref m1, .ref m2, .ref m3, .ref m4, .ref m5, .ref l1, .ref l2, .ref l3, .int (-1), .ref l4])), (oo, .inl (coo, 1, .inr (.inl u7)))] := hD
  have hK : va_K D vwCl [(coo, .long)] s := hK
  refine lv_istore (lv' := [(6, .int r9), (5, .int 0), (4, .ref od), (3, .ref oo), (2, .ref mo), (1, .ref x), (0, .ref b)]) hx hb dL_law_2926 hl (by decide) rfl (fun ls hl => ?_)
  refine lv_aload_n hx hb dL_law_2928 rfl (lv_at hl 4 rfl) ?_
  refine lv_aload_n hx hb dL_law_2929 rfl (lv_at hl 6 rfl) ?_
  refine lv_iload hx hb dL_law_2930 (lv_at hl 1 rfl) ?_
  refine lv_iconst (v := 1) hx hb dL_law_2932 (by decide) ?_
  refine lv_iadd hx hb dL_law_2933 ?_
  refine lv_topi (fun x10 e10 => ?_)
  obtain rfl : x10 = 1 := e10.trans (by decide)
  refine va_sld hx hb hX hbl hbA hS (vp_in_nI (n := 1) (by decide) (by decide)) dL_law_2934 ?_
  refine lv_topi (fun x11 e11 => ?_)
  obtain rfl : x11 = xs 1 := e11
  refine lv_aload_n hx hb dL_law_2935 rfl (lv_at hl 6 rfl) ?_
  refine lv_iload hx hb dL_law_2936 (lv_at hl 1 rfl) ?_
  refine lv_iconst (v := 2) hx hb dL_law_2938 (by decide) ?_
  refine lv_iadd hx hb dL_law_2939 ?_
  refine lv_topi (fun x12 e12 => ?_)
  obtain rfl : x12 = 2 := e12.trans (by decide)
  refine va_sld hx hb hX hbl hbA hS (vp_in_nI (n := 2) (by decide) (by decide)) dL_law_2940 ?_
  refine lv_topi (fun x13 e13 => ?_)
  obtain rfl : x13 = xs 2 := e13
  refine lv_aload_n hx hb dL_law_2941 rfl (lv_at hl 6 rfl) ?_
  refine lv_iload hx hb dL_law_2942 (lv_at hl 1 rfl) ?_
  refine lv_iconst (v := 3) hx hb dL_law_2944 (by decide) ?_
  refine lv_iadd hx hb dL_law_2945 ?_
  refine lv_topi (fun x14 e14 => ?_)
  obtain rfl : x14 = 3 := e14.trans (by decide)
  refine va_sld hx hb hX hbl hbA hS (vp_in_nI (n := 3) (by decide) (by decide)) dL_law_2946 ?_
  refine lv_topi (fun x15 e15 => ?_)
  obtain rfl : x15 = xs 3 := e15
  refine mc_i (wr := [(oo, .inl (coo, 1, .inr (.inl u7)))]) (va_runV (As := [.int (xs 1), .int (xs 2), .int (xs 3)]) (rest := []) ⟨hx, hb, hml, hown, hts⟩ (c_mlate l hst D mo th m1 m2 m3 m4 m5 l1 l2 l3 l4 (xs 1) (xs 2) (xs 3) H.size) (cwV 3 hts (gi_c mw_967 rfl (gi_c mw_968 rfl (gi_c mw_969 rfl (gi_c mw_481 rfl (goodIn_sub il_c_mlate (List.all_eq_true.mpr gw_c_mlate)))))) rfl rfl rfl (by decide +kernel) ⟨Nat.le_of_ble_eq_true rfl, Nat.le_of_ble_eq_true rfl⟩) (pr_V (As := [.int (xs 1), .int (xs 2), .int (xs 3)]) (b := mo) (C := RX9) hP hD hK hS hA hE [0] [] rfl rfl rfl 0 16 rfl rfl rfl) rfl rfl hl.1 rfl (lv_room (Nat.le_of_ble_eq_true rfl)) dL_law_2947 ⟨Nat.le_of_ble_eq_true rfl, Nat.le_of_ble_eq_true rfl⟩) hP hD hK hS hA [0] [1] rfl rfl (by decide) (by decide) (fun r18 u16 H locs w17 hP hD hK hS => ?_)
  have hP : va_P D vwCl [(oo, .inl (coo, 1, .inr (.inl u7))), (mo, .inr (16, [.int (u16.2.2 0), .int (u16.2.2 1), .int u16.1, .ref (u16.2.1 0), .ref (u16.2.1 1), .ref (u16.2.1 2), .ref (u16.2.1 3), .ref (u16.2.1 4), .ref (u16.2.1 5), .ref (u16.2.1 6), .ref (u16.2.1 7), .int (u16.2.2 2), .ref (u16.2.1 8)]))] H := hP
  have hD : va_D (lw_A s) [(oo, .inl (coo, 1, .inr (.inl u7))), (mo, .inr (16, [.int (u16.2.2 0), .int (u16.2.2 1), .int u16.1, .ref (u16.2.1 0), .ref (u16.2.1 1), .ref (u16.2.1 2), .ref (u16.2.1 3), .ref (u16.2.1 4), .ref (u16.2.1 5), .ref (u16.2.1 6), .ref (u16.2.1 7), .int (u16.2.2 2), .ref (u16.2.1 8)]))] := hD
  have hK : va_K D vwCl [(coo, .long)] s := hK
  refine lv_istore (lv' := [(7, .int r18), (6, .int r9), (5, .int 0), (4, .ref od), (3, .ref oo), (2, .ref mo), (1, .ref x), (0, .ref b)]) hx hb dL_law_2950 hl (by decide) rfl (fun ls hl => ?_)
  refine lv_aload_n hx hb dL_law_2952 rfl (lv_at hl 5 rfl) ?_
  refine mc_i (wr := [(oo, .inl (coo, 1, .inr (.inl u7)))]) (va_runV (As := []) (rest := []) ⟨hx, hb, hml, hown, hts⟩ (c_thrown l hst D mo (u16.2.2 0) (u16.2.2 1) u16.1 (u16.2.1 0) (u16.2.1 1) (u16.2.1 2) (u16.2.1 3) (u16.2.1 4) (u16.2.1 5) (u16.2.1 6) (u16.2.1 7) (u16.2.2 2) (u16.2.1 8) H.size) (cwV 0 hts (gi_c mw_770 rfl (gi_c mw_771 rfl (gi_c mw_772 rfl (gi_c mw_481 rfl (goodIn_sub il_c_thrown (List.all_eq_true.mpr gw_c_thrown)))))) rfl rfl rfl (by decide +kernel) ⟨Nat.le_of_ble_eq_true rfl, Nat.le_of_ble_eq_true rfl⟩) (pr_V (As := []) (b := mo) (C := RX9) hP hD hK hS hA hE [1] [] rfl rfl rfl 1 16 rfl rfl rfl) rfl rfl hl.1 rfl (lv_room (Nat.le_of_ble_eq_true rfl)) dL_law_2953 ⟨Nat.le_of_ble_eq_true rfl, Nat.le_of_ble_eq_true rfl⟩) hP hD hK hS hA [1] [0] rfl rfl (by decide) (by decide) (fun r20 _ H locs w19 hP hD hK hS => ?_)
  have hP : va_P D vwCl [(oo, .inl (coo, 1, .inr (.inl u7))), (mo, .inr (16, [.int (u16.2.2 0), .int (u16.2.2 1), .int u16.1, .ref (u16.2.1 0), .ref (u16.2.1 1), .ref (u16.2.1 2), .ref (u16.2.1 3), .ref (u16.2.1 4), .ref (u16.2.1 5), .ref (u16.2.1 6), .ref (u16.2.1 7), .int (u16.2.2 2), .ref (u16.2.1 8)]))] H := hP
  have hD : va_D (lw_A s) [(oo, .inl (coo, 1, .inr (.inl u7))), (mo, .inr (16, [.int (u16.2.2 0), .int (u16.2.2 1), .int u16.1, .ref (u16.2.1 0), .ref (u16.2.1 1), .ref (u16.2.1 2), .ref (u16.2.1 3), .ref (u16.2.1 4), .ref (u16.2.1 5), .ref (u16.2.1 6), .ref (u16.2.1 7), .int (u16.2.2 2), .ref (u16.2.1 8)]))] := hD
  have hK : va_K D vwCl [(coo, .long)] s := hK
  obtain rfl : r20 = u16.1 := w19
  refine lv_iload hx hb dL_law_2956 (lv_at hl 1 rfl) ?_
  refine lv_icmp_eq (tgt := 2963) hx hb dL_law_2958 (by decide) (fun h21 => ?_) (fun h21 => absurd (by exact (w17.1).trans w8.1.symm) h21)
  refine lv_iload hx hb dL_law_2963 (lv_at hl 1 rfl) ?_
  refine lv_if_ne (tgt := 2980) hx hb dL_law_2965 (by decide) (fun h22 => ?_) (fun h22 => ?_)
  · refine lv_goto (tgt := 3320) hx hb dL_law_2980 (by decide) ?_
    refine W.widen (k := 600006) (n := 7302040) (Nat.le_of_ble_eq_true rfl) (Nat.le_of_ble_eq_true rfl) ?_
    exact hend _ _ _ (lv_sub hl [2, 7] rfl) hS
  · refine lv_aload_n hx hb dL_law_2968 rfl (lv_at hl 4 rfl) ?_
    refine lv_iconst (v := 0) hx hb dL_law_2969 (by decide) ?_
    refine va_lald hx hb hK hP 0 0 rfl rfl (vp_in_nI (n := 0) (by decide) (by decide)) dL_law_2970 ?_
    refine lv_topl (fun x23 e23 => ?_)
    refine lv_iload hx hb dL_law_2971 (lv_at hl 0 rfl) ?_
    refine lv_i2l hx hb dL_law_2973 rfl ?_
    refine lv_topl (fun x24 e24 => ?_)
    refine W.lcmp hx hb dL_law_2974 ?_
    refine lv_topi (fun x25 e25 => ?_)
    refine lv_if_eq (tgt := 2980) hx hb dL_law_2975 (by decide) (fun h26 => ?_) (fun h26 => absurd (by exact e25.trans ((lg_cmp_eq _ _).mpr (e23.trans ((w8.2 (w8.1.symm.trans h22)).trans (e24.trans (congrArg Int32.toInt64 (w17.2 (w8.1.symm.trans h22)))).symm)))) h26)
    refine lv_goto (tgt := 3320) hx hb dL_law_2980 (by decide) ?_
    refine W.widen (k := 600006) (n := 7302040) (Nat.le_of_ble_eq_true rfl) (Nat.le_of_ble_eq_true rfl) ?_
    exact hend _ _ _ (lv_sub hl [2, 7] rfl) hS

set_option maxHeartbeats 4000000 in
set_option maxRecDepth 100000 in
/-- case 40: fix -/
theorem lc_40 (l : Launch) (hst : l.stackTraces = false) (D : va_G) {p : Program} {e : Env} {s : State} {m : MethodId} {below : List Frame} {meth : Method} {c : Code} {b : Nat} {xs : Nat → Int32} {Q : State → Prop} (hx : p.tables.exec = Jvm.exec) (hb : c.code = code) (hml : c.maxLocals = 9) (hown : s.vm.findClass RL = some m.cls) (hts : ∀ w ∈ lw_tbl, w.before #[Value.ref b] s = true) (hX : va_X b 5 xs s s.heap) (hbl : b < s.heap.size) (hE : ex_E D (lw_A s) s s.heap) (hend : lw_End p l e s m below meth c b Q) (x : Nat) (g : Nat) (ca : Nat) (co : Nat) (ra : Nat) (rl : Nat) (tr : Nat) (f9 : Nat) (f10 : Nat) (f11 : Nat) (f12 : Nat) (f13 : Nat) (oo : Nat) (coo : ClassId) (f0 : Nat → Int64) (mo : Nat) (th : Int32) (m1 : Nat) (m2 : Nat) (m3 : Nat) (m4 : Nat) (m5 : Nat) (l1 : Nat) (l2 : Nat) (l3 : Nat) (l4 : Nat) (od : Nat)  {H : Heap} {locs : List Loc} {ls : Array Slot} (hl : lv_has ls 9 [(5, .int 0), (4, .ref od), (3, .ref oo), (2, .ref mo), (1, .ref x), (0, .ref b)]) (hP : va_P D vwCl [(x, .inr (13, [.ref g, .ref ca, .int 0, .ref co, .int 0, .ref ra, .int 0, .ref rl, .ref tr, .ref f9, .ref f10, .ref f11, .ref f12, .ref f13])), (oo, .inl (coo, 1, .inr (.inl f0))), (mo, .inr (16, [.int 5, .int 5, .int th, .ref m1, .ref m2, .ref m3, .ref m4, .ref m5, .ref l1, .ref l2, .ref l3, .int (-1), .ref l4])), (l3, .inr (5, [.int 1, .ref (D.1 1000), .int 0]))] H) (hD : va_D (lw_A s) [(x, .inr (13, [.ref g, .ref ca, .int 0, .ref co, .int 0, .ref ra, .int 0, .ref rl, .ref tr, .ref f9, .ref f10, .ref f11, .ref f12, .ref f13])), (oo, .inl (coo, 1, .inr (.inl f0))), (mo, .inr (16, [.int 5, .int 5, .int th, .ref m1, .ref m2, .ref m3, .ref m4, .ref m5, .ref l1, .ref l2, .ref l3, .int (-1), .ref l4])), (l3, .inr (5, [.int 1, .ref (D.1 1000), .int 0]))]) (hK : va_K D vwCl [(coo, .long)] s) (hS : va_S (lw_A s) s.heap H locs) : W p l e room_1 s m #[Value.ref b] below meth c H locs 167 55824 Q (F0 m 2983 ls []) := by
  have hA : ∀ q : Nat, s.heap.size ≤ q → lw_A s q := fun _ h => h
  have hbA : ¬ lw_A s b := Nat.not_le.mpr hbl
  refine lv_aload_n hx hb dL_law_2983 rfl (lv_at hl 4 rfl) ?_
  refine lv_aload_n hx hb dL_law_2984 rfl (lv_at hl 5 rfl) ?_
  refine lv_iload hx hb dL_law_2985 (lv_at hl 0 rfl) ?_
  refine lv_iconst (v := 1) hx hb dL_law_2987 (by decide) ?_
  refine lv_iadd hx hb dL_law_2988 ?_
  refine lv_topi (fun x1 e1 => ?_)
  obtain rfl : x1 = 1 := e1.trans (by decide)
  refine va_sld hx hb hX hbl hbA hS (vp_in_nI (n := 1) (by decide) (by decide)) dL_law_2989 ?_
  refine lv_topi (fun x2 e2 => ?_)
  obtain rfl : x2 = xs 1 := e2
  refine lv_aload_n hx hb dL_law_2990 rfl (lv_at hl 5 rfl) ?_
  refine lv_iload hx hb dL_law_2991 (lv_at hl 0 rfl) ?_
  refine lv_iconst (v := 2) hx hb dL_law_2993 (by decide) ?_
  refine lv_iadd hx hb dL_law_2994 ?_
  refine lv_topi (fun x3 e3 => ?_)
  obtain rfl : x3 = 2 := e3.trans (by decide)
  refine va_sld hx hb hX hbl hbA hS (vp_in_nI (n := 2) (by decide) (by decide)) dL_law_2995 ?_
  refine lv_topi (fun x4 e4 => ?_)
  obtain rfl : x4 = xs 2 := e4
  refine lv_aload_n hx hb dL_law_2996 rfl (lv_at hl 5 rfl) ?_
  refine lv_iload hx hb dL_law_2997 (lv_at hl 0 rfl) ?_
  refine lv_iconst (v := 3) hx hb dL_law_2999 (by decide) ?_
  refine lv_iadd hx hb dL_law_3000 ?_
  refine lv_topi (fun x5 e5 => ?_)
  obtain rfl : x5 = 3 := e5.trans (by decide)
  refine va_sld hx hb hX hbl hbA hS (vp_in_nI (n := 3) (by decide) (by decide)) dL_law_3001 ?_
  refine lv_topi (fun x6 e6 => ?_)
  obtain rfl : x6 = xs 3 := e6
  refine lv_aload_n hx hb dL_law_3002 rfl (lv_at hl 2 rfl) ?_
  refine mc_i (wr := [(mo, .inr (16, [.int 5, .int 5, .int th, .ref m1, .ref m2, .ref m3, .ref m4, .ref m5, .ref l1, .ref l2, .ref l3, .int (-1), .ref l4])), (l3, .inr (5, [.int 1, .ref (D.1 1000), .int 0]))]) (vx_runSW (As := [.ref x, .int (xs 1), .int (xs 2), .int (xs 3), .ref oo]) (rest := []) ⟨hx, hb, hml, hown, hts⟩ (c_Lfix l hst D x g ca co ra rl tr f9 f10 f11 f12 f13 (xs 1) (xs 2) (xs 3) oo coo f0 H.size) (vx_cwSW 5 hts (gi_c mw_970 rfl (gi_c mw_971 rfl (gi_c mw_766 rfl (goodIn_sub il_c_Lfix (List.all_eq_true.mpr gw_c_Lfix))))) rfl rfl rfl (by decide +kernel) ⟨Nat.le_of_ble_eq_true rfl, Nat.le_of_ble_eq_true rfl⟩) (pr_S (As := [.ref x, .int (xs 1), .int (xs 2), .int (xs 3), .ref oo]) hP hD hK hS hA hE [0, 1] [0] rfl rfl rfl) rfl rfl hl.1 rfl (lv_room (Nat.le_of_ble_eq_true rfl)) dL_law_3003 ⟨Nat.le_of_ble_eq_true rfl, Nat.le_of_ble_eq_true rfl⟩) hP hD hK hS hA [0, 1] [2, 3] rfl rfl (by decide) (by decide) (fun r9 u7 H locs w8 hP hD hK hS => ?_)
  have hP : va_P D vwCl [(mo, .inr (16, [.int 5, .int 5, .int th, .ref m1, .ref m2, .ref m3, .ref m4, .ref m5, .ref l1, .ref l2, .ref l3, .int (-1), .ref l4])), (l3, .inr (5, [.int 1, .ref (D.1 1000), .int 0])), (oo, .inl (coo, 1, .inr (.inl u7)))] H := hP
  have hD : va_D (lw_A s) [(mo, .inr (16, [.int 5, .int 5, .int th, .ref m1, .ref m2, .ref m3, .ref m4, .ref m5, .ref l1, .ref l2, .ref l3, .int (-1), .ref l4])), (l3, .inr (5, [.int 1, .ref (D.1 1000), .int 0])), (oo, .inl (coo, 1, .inr (.inl u7)))] := hD
  have hK : va_K D vwCl [(coo, .long)] s := hK
  refine lv_istore (lv' := [(6, .int r9), (5, .int 0), (4, .ref od), (3, .ref oo), (2, .ref mo), (1, .ref x), (0, .ref b)]) hx hb dL_law_3006 hl (by decide) rfl (fun ls hl => ?_)
  refine lv_aload_n hx hb dL_law_3008 rfl (lv_at hl 4 rfl) ?_
  refine lv_aload_n hx hb dL_law_3009 rfl (lv_at hl 6 rfl) ?_
  refine lv_iload hx hb dL_law_3010 (lv_at hl 1 rfl) ?_
  refine lv_iconst (v := 1) hx hb dL_law_3012 (by decide) ?_
  refine lv_iadd hx hb dL_law_3013 ?_
  refine lv_topi (fun x10 e10 => ?_)
  obtain rfl : x10 = 1 := e10.trans (by decide)
  refine va_sld hx hb hX hbl hbA hS (vp_in_nI (n := 1) (by decide) (by decide)) dL_law_3014 ?_
  refine lv_topi (fun x11 e11 => ?_)
  obtain rfl : x11 = xs 1 := e11
  refine lv_aload_n hx hb dL_law_3015 rfl (lv_at hl 6 rfl) ?_
  refine lv_iload hx hb dL_law_3016 (lv_at hl 1 rfl) ?_
  refine lv_iconst (v := 2) hx hb dL_law_3018 (by decide) ?_
  refine lv_iadd hx hb dL_law_3019 ?_
  refine lv_topi (fun x12 e12 => ?_)
  obtain rfl : x12 = 2 := e12.trans (by decide)
  refine va_sld hx hb hX hbl hbA hS (vp_in_nI (n := 2) (by decide) (by decide)) dL_law_3020 ?_
  refine lv_topi (fun x13 e13 => ?_)
  obtain rfl : x13 = xs 2 := e13
  refine lv_aload_n hx hb dL_law_3021 rfl (lv_at hl 6 rfl) ?_
  refine lv_iload hx hb dL_law_3022 (lv_at hl 1 rfl) ?_
  refine lv_iconst (v := 3) hx hb dL_law_3024 (by decide) ?_
  refine lv_iadd hx hb dL_law_3025 ?_
  refine lv_topi (fun x14 e14 => ?_)
  obtain rfl : x14 = 3 := e14.trans (by decide)
  refine va_sld hx hb hX hbl hbA hS (vp_in_nI (n := 3) (by decide) (by decide)) dL_law_3026 ?_
  refine lv_topi (fun x15 e15 => ?_)
  obtain rfl : x15 = xs 3 := e15
  refine mc_i (wr := [(oo, .inl (coo, 1, .inr (.inl u7)))]) (va_runV (As := [.int (xs 1), .int (xs 2), .int (xs 3)]) (rest := []) ⟨hx, hb, hml, hown, hts⟩ (c_mfix l hst D mo th m1 m2 m3 m4 m5 l1 l2 l3 l4 (xs 1) (xs 2) (xs 3) H.size) (cwV 3 hts (gi_c mw_972 rfl (gi_c mw_973 rfl (gi_c mw_974 rfl (gi_c mw_481 rfl (goodIn_sub il_c_mfix (List.all_eq_true.mpr gw_c_mfix)))))) rfl rfl rfl (by decide +kernel) ⟨Nat.le_of_ble_eq_true rfl, Nat.le_of_ble_eq_true rfl⟩) (pr_V (As := [.int (xs 1), .int (xs 2), .int (xs 3)]) (b := mo) (C := RX9) hP hD hK hS hA hE [0, 1] [] rfl rfl rfl 0 16 rfl rfl rfl) rfl rfl hl.1 rfl (lv_room (Nat.le_of_ble_eq_true rfl)) dL_law_3027 ⟨Nat.le_of_ble_eq_true rfl, Nat.le_of_ble_eq_true rfl⟩) hP hD hK hS hA [0, 1] [2] rfl rfl (by decide) (by decide) (fun r18 u16 H locs w17 hP hD hK hS => ?_)
  have hP : va_P D vwCl [(oo, .inl (coo, 1, .inr (.inl u7))), (mo, .inr (16, [.int (u16.2.2 0), .int (u16.2.2 1), .int u16.1, .ref (u16.2.1 0), .ref (u16.2.1 1), .ref (u16.2.1 2), .ref (u16.2.1 3), .ref (u16.2.1 4), .ref (u16.2.1 5), .ref (u16.2.1 6), .ref (u16.2.1 7), .int (u16.2.2 2), .ref (u16.2.1 8)]))] H := hP
  have hD : va_D (lw_A s) [(oo, .inl (coo, 1, .inr (.inl u7))), (mo, .inr (16, [.int (u16.2.2 0), .int (u16.2.2 1), .int u16.1, .ref (u16.2.1 0), .ref (u16.2.1 1), .ref (u16.2.1 2), .ref (u16.2.1 3), .ref (u16.2.1 4), .ref (u16.2.1 5), .ref (u16.2.1 6), .ref (u16.2.1 7), .int (u16.2.2 2), .ref (u16.2.1 8)]))] := hD
  have hK : va_K D vwCl [(coo, .long)] s := hK
  refine lv_istore (lv' := [(7, .int r18), (6, .int r9), (5, .int 0), (4, .ref od), (3, .ref oo), (2, .ref mo), (1, .ref x), (0, .ref b)]) hx hb dL_law_3030 hl (by decide) rfl (fun ls hl => ?_)
  refine lv_aload_n hx hb dL_law_3032 rfl (lv_at hl 5 rfl) ?_
  refine mc_i (wr := [(oo, .inl (coo, 1, .inr (.inl u7)))]) (va_runV (As := []) (rest := []) ⟨hx, hb, hml, hown, hts⟩ (c_thrown l hst D mo (u16.2.2 0) (u16.2.2 1) u16.1 (u16.2.1 0) (u16.2.1 1) (u16.2.1 2) (u16.2.1 3) (u16.2.1 4) (u16.2.1 5) (u16.2.1 6) (u16.2.1 7) (u16.2.2 2) (u16.2.1 8) H.size) (cwV 0 hts (gi_c mw_770 rfl (gi_c mw_771 rfl (gi_c mw_772 rfl (gi_c mw_481 rfl (goodIn_sub il_c_thrown (List.all_eq_true.mpr gw_c_thrown)))))) rfl rfl rfl (by decide +kernel) ⟨Nat.le_of_ble_eq_true rfl, Nat.le_of_ble_eq_true rfl⟩) (pr_V (As := []) (b := mo) (C := RX9) hP hD hK hS hA hE [1] [] rfl rfl rfl 1 16 rfl rfl rfl) rfl rfl hl.1 rfl (lv_room (Nat.le_of_ble_eq_true rfl)) dL_law_3033 ⟨Nat.le_of_ble_eq_true rfl, Nat.le_of_ble_eq_true rfl⟩) hP hD hK hS hA [1] [0] rfl rfl (by decide) (by decide) (fun r20 _ H locs w19 hP hD hK hS => ?_)
  have hP : va_P D vwCl [(oo, .inl (coo, 1, .inr (.inl u7))), (mo, .inr (16, [.int (u16.2.2 0), .int (u16.2.2 1), .int u16.1, .ref (u16.2.1 0), .ref (u16.2.1 1), .ref (u16.2.1 2), .ref (u16.2.1 3), .ref (u16.2.1 4), .ref (u16.2.1 5), .ref (u16.2.1 6), .ref (u16.2.1 7), .int (u16.2.2 2), .ref (u16.2.1 8)]))] H := hP
  have hD : va_D (lw_A s) [(oo, .inl (coo, 1, .inr (.inl u7))), (mo, .inr (16, [.int (u16.2.2 0), .int (u16.2.2 1), .int u16.1, .ref (u16.2.1 0), .ref (u16.2.1 1), .ref (u16.2.1 2), .ref (u16.2.1 3), .ref (u16.2.1 4), .ref (u16.2.1 5), .ref (u16.2.1 6), .ref (u16.2.1 7), .int (u16.2.2 2), .ref (u16.2.1 8)]))] := hD
  have hK : va_K D vwCl [(coo, .long)] s := hK
  obtain rfl : r20 = u16.1 := w19
  refine lv_iload hx hb dL_law_3036 (lv_at hl 1 rfl) ?_
  refine lv_icmp_eq (tgt := 3043) hx hb dL_law_3038 (by decide) (fun h21 => ?_) (fun h21 => absurd (by exact (w17).trans w8.1.symm) h21)
  refine lv_iload hx hb dL_law_3043 (lv_at hl 1 rfl) ?_
  refine lv_if_ne (tgt := 3060) hx hb dL_law_3045 (by decide) (fun h22 => ?_) (fun h22 => absurd h22 (by exact fun q9 => absurd (show (1 : Int32) = 0 from w8.1.symm.trans q9) (by decide)))
  refine lv_goto (tgt := 3320) hx hb dL_law_3060 (by decide) ?_
  refine W.widen (k := 600006) (n := 7302040) (Nat.le_of_ble_eq_true rfl) (Nat.le_of_ble_eq_true rfl) ?_
  exact hend _ _ _ (lv_sub hl [2, 7] rfl) hS

set_option maxHeartbeats 4000000 in
set_option maxRecDepth 100000 in
/-- case 41: mayHave -/
theorem lc_41 (l : Launch) (hst : l.stackTraces = false) (D : va_G) {p : Program} {e : Env} {s : State} {m : MethodId} {below : List Frame} {meth : Method} {c : Code} {b : Nat} {xs : Nat → Int32} {Q : State → Prop} (hx : p.tables.exec = Jvm.exec) (hb : c.code = code) (hml : c.maxLocals = 9) (hown : s.vm.findClass RL = some m.cls) (hts : ∀ w ∈ lw_tbl, w.before #[Value.ref b] s = true) (hX : va_X b 5 xs s s.heap) (hbl : b < s.heap.size) (hE : ex_E D (lw_A s) s s.heap) (hend : lw_End p l e s m below meth c b Q) (x : Nat) (g : Nat) (ca : Nat) (co : Nat) (ra : Nat) (rl : Nat) (tr : Nat) (f9 : Nat) (f10 : Nat) (f11 : Nat) (f12 : Nat) (f13 : Nat) (oo : Nat) (coo : ClassId) (f0 : Nat → Int64) (mo : Nat) (th : Int32) (m1 : Nat) (m2 : Nat) (m3 : Nat) (m4 : Nat) (m5 : Nat) (l1 : Nat) (l2 : Nat) (l3 : Nat) (l4 : Nat) (od : Nat)  {H : Heap} {locs : List Loc} {ls : Array Slot} (hl : lv_has ls 9 [(5, .int 0), (4, .ref od), (3, .ref oo), (2, .ref mo), (1, .ref x), (0, .ref b)]) (hP : va_P D vwCl [(x, .inr (13, [.ref g, .ref ca, .int 0, .ref co, .int 0, .ref ra, .int 0, .ref rl, .ref tr, .ref f9, .ref f10, .ref f11, .ref f12, .ref f13])), (oo, .inl (coo, 1, .inr (.inl f0))), (mo, .inr (16, [.int 5, .int 5, .int th, .ref m1, .ref m2, .ref m3, .ref m4, .ref m5, .ref l1, .ref l2, .ref l3, .int (-1), .ref l4])), (l3, .inr (5, [.int 1, .ref (D.1 1000), .int 0]))] H) (hD : va_D (lw_A s) [(x, .inr (13, [.ref g, .ref ca, .int 0, .ref co, .int 0, .ref ra, .int 0, .ref rl, .ref tr, .ref f9, .ref f10, .ref f11, .ref f12, .ref f13])), (oo, .inl (coo, 1, .inr (.inl f0))), (mo, .inr (16, [.int 5, .int 5, .int th, .ref m1, .ref m2, .ref m3, .ref m4, .ref m5, .ref l1, .ref l2, .ref l3, .int (-1), .ref l4])), (l3, .inr (5, [.int 1, .ref (D.1 1000), .int 0]))]) (hK : va_K D vwCl [(coo, .long)] s) (hS : va_S (lw_A s) s.heap H locs) : W p l e room_1 s m #[Value.ref b] below meth c H locs 167 55824 Q (F0 m 3063 ls []) := by
  have hA : ∀ q : Nat, s.heap.size ≤ q → lw_A s q := fun _ h => h
  have hbA : ¬ lw_A s b := Nat.not_le.mpr hbl
  refine lv_aload_n hx hb dL_law_3063 rfl (lv_at hl 4 rfl) ?_
  refine lv_aload_n hx hb dL_law_3064 rfl (lv_at hl 5 rfl) ?_
  refine lv_iload hx hb dL_law_3065 (lv_at hl 0 rfl) ?_
  refine lv_iconst (v := 1) hx hb dL_law_3067 (by decide) ?_
  refine lv_iadd hx hb dL_law_3068 ?_
  refine lv_topi (fun x1 e1 => ?_)
  obtain rfl : x1 = 1 := e1.trans (by decide)
  refine va_sld hx hb hX hbl hbA hS (vp_in_nI (n := 1) (by decide) (by decide)) dL_law_3069 ?_
  refine lv_topi (fun x2 e2 => ?_)
  obtain rfl : x2 = xs 1 := e2
  refine lv_aload_n hx hb dL_law_3070 rfl (lv_at hl 5 rfl) ?_
  refine lv_iload hx hb dL_law_3071 (lv_at hl 0 rfl) ?_
  refine lv_iconst (v := 2) hx hb dL_law_3073 (by decide) ?_
  refine lv_iadd hx hb dL_law_3074 ?_
  refine lv_topi (fun x3 e3 => ?_)
  obtain rfl : x3 = 2 := e3.trans (by decide)
  refine va_sld hx hb hX hbl hbA hS (vp_in_nI (n := 2) (by decide) (by decide)) dL_law_3075 ?_
  refine lv_topi (fun x4 e4 => ?_)
  obtain rfl : x4 = xs 2 := e4
  refine lv_aload_n hx hb dL_law_3076 rfl (lv_at hl 2 rfl) ?_
  refine mc_i (wr := [(mo, .inr (16, [.int 5, .int 5, .int th, .ref m1, .ref m2, .ref m3, .ref m4, .ref m5, .ref l1, .ref l2, .ref l3, .int (-1), .ref l4])), (l3, .inr (5, [.int 1, .ref (D.1 1000), .int 0]))]) (vx_runSW (As := [.ref x, .int (xs 1), .int (xs 2), .ref oo]) (rest := []) ⟨hx, hb, hml, hown, hts⟩ (c_LmayHave l hst D x g ca co ra rl tr f9 f10 f11 f12 f13 (xs 1) (xs 2) oo coo f0 H.size) (vx_cwSW 4 hts (gi_c mw_975 rfl (gi_c mw_976 rfl (gi_c mw_766 rfl (goodIn_sub il_c_LmayHave (List.all_eq_true.mpr gw_c_LmayHave))))) rfl rfl rfl (by decide +kernel) ⟨Nat.le_of_ble_eq_true rfl, Nat.le_of_ble_eq_true rfl⟩) (pr_S (As := [.ref x, .int (xs 1), .int (xs 2), .ref oo]) hP hD hK hS hA hE [0, 1] [0] rfl rfl rfl) rfl rfl hl.1 rfl (lv_room (Nat.le_of_ble_eq_true rfl)) dL_law_3077 ⟨Nat.le_of_ble_eq_true rfl, Nat.le_of_ble_eq_true rfl⟩) hP hD hK hS hA [0, 1] [2, 3] rfl rfl (by decide) (by decide) (fun r7 u5 H locs w6 hP hD hK hS => ?_)
  have hP : va_P D vwCl [(mo, .inr (16, [.int 5, .int 5, .int th, .ref m1, .ref m2, .ref m3, .ref m4, .ref m5, .ref l1, .ref l2, .ref l3, .int (-1), .ref l4])), (l3, .inr (5, [.int 1, .ref (D.1 1000), .int 0])), (oo, .inl (coo, 1, .inr (.inl u5)))] H := hP
  have hD : va_D (lw_A s) [(mo, .inr (16, [.int 5, .int 5, .int th, .ref m1, .ref m2, .ref m3, .ref m4, .ref m5, .ref l1, .ref l2, .ref l3, .int (-1), .ref l4])), (l3, .inr (5, [.int 1, .ref (D.1 1000), .int 0])), (oo, .inl (coo, 1, .inr (.inl u5)))] := hD
  have hK : va_K D vwCl [(coo, .long)] s := hK
  refine lv_istore (lv' := [(6, .int r7), (5, .int 0), (4, .ref od), (3, .ref oo), (2, .ref mo), (1, .ref x), (0, .ref b)]) hx hb dL_law_3080 hl (by decide) rfl (fun ls hl => ?_)
  refine lv_aload_n hx hb dL_law_3082 rfl (lv_at hl 4 rfl) ?_
  refine lv_aload_n hx hb dL_law_3083 rfl (lv_at hl 6 rfl) ?_
  refine lv_iload hx hb dL_law_3084 (lv_at hl 1 rfl) ?_
  refine lv_iconst (v := 1) hx hb dL_law_3086 (by decide) ?_
  refine lv_iadd hx hb dL_law_3087 ?_
  refine lv_topi (fun x8 e8 => ?_)
  obtain rfl : x8 = 1 := e8.trans (by decide)
  refine va_sld hx hb hX hbl hbA hS (vp_in_nI (n := 1) (by decide) (by decide)) dL_law_3088 ?_
  refine lv_topi (fun x9 e9 => ?_)
  obtain rfl : x9 = xs 1 := e9
  refine lv_aload_n hx hb dL_law_3089 rfl (lv_at hl 6 rfl) ?_
  refine lv_iload hx hb dL_law_3090 (lv_at hl 1 rfl) ?_
  refine lv_iconst (v := 2) hx hb dL_law_3092 (by decide) ?_
  refine lv_iadd hx hb dL_law_3093 ?_
  refine lv_topi (fun x10 e10 => ?_)
  obtain rfl : x10 = 2 := e10.trans (by decide)
  refine va_sld hx hb hX hbl hbA hS (vp_in_nI (n := 2) (by decide) (by decide)) dL_law_3094 ?_
  refine lv_topi (fun x11 e11 => ?_)
  obtain rfl : x11 = xs 2 := e11
  refine mc_i (wr := [(oo, .inl (coo, 1, .inr (.inl u5)))]) (va_runV (As := [.int (xs 1), .int (xs 2)]) (rest := []) ⟨hx, hb, hml, hown, hts⟩ (c_mmayHave l hst D mo th m1 m2 m3 m4 m5 l1 l2 l3 l4 (xs 1) (xs 2) H.size) (cwV 2 hts (gi_c mw_977 rfl (gi_c mw_978 rfl (gi_c mw_979 rfl (gi_c mw_481 rfl (goodIn_sub il_c_mmayHave (List.all_eq_true.mpr gw_c_mmayHave)))))) rfl rfl rfl (by decide +kernel) ⟨Nat.le_of_ble_eq_true rfl, Nat.le_of_ble_eq_true rfl⟩) (pr_V (As := [.int (xs 1), .int (xs 2)]) (b := mo) (C := RX9) hP hD hK hS hA hE [0, 1] [] rfl rfl rfl 0 16 rfl rfl rfl) rfl rfl hl.1 rfl (lv_room (Nat.le_of_ble_eq_true rfl)) dL_law_3095 ⟨Nat.le_of_ble_eq_true rfl, Nat.le_of_ble_eq_true rfl⟩) hP hD hK hS hA [0, 1] [2] rfl rfl (by decide) (by decide) (fun r14 u12 H locs w13 hP hD hK hS => ?_)
  have hP : va_P D vwCl [(oo, .inl (coo, 1, .inr (.inl u5))), (mo, .inr (16, [.int (u12.2.2 0), .int (u12.2.2 1), .int u12.1, .ref (u12.2.1 0), .ref (u12.2.1 1), .ref (u12.2.1 2), .ref (u12.2.1 3), .ref (u12.2.1 4), .ref (u12.2.1 5), .ref (u12.2.1 6), .ref (u12.2.1 7), .int (u12.2.2 2), .ref (u12.2.1 8)]))] H := hP
  have hD : va_D (lw_A s) [(oo, .inl (coo, 1, .inr (.inl u5))), (mo, .inr (16, [.int (u12.2.2 0), .int (u12.2.2 1), .int u12.1, .ref (u12.2.1 0), .ref (u12.2.1 1), .ref (u12.2.1 2), .ref (u12.2.1 3), .ref (u12.2.1 4), .ref (u12.2.1 5), .ref (u12.2.1 6), .ref (u12.2.1 7), .int (u12.2.2 2), .ref (u12.2.1 8)]))] := hD
  have hK : va_K D vwCl [(coo, .long)] s := hK
  refine lv_istore (lv' := [(7, .int r14), (6, .int r7), (5, .int 0), (4, .ref od), (3, .ref oo), (2, .ref mo), (1, .ref x), (0, .ref b)]) hx hb dL_law_3098 hl (by decide) rfl (fun ls hl => ?_)
  refine lv_aload_n hx hb dL_law_3100 rfl (lv_at hl 5 rfl) ?_
  refine mc_i (wr := [(oo, .inl (coo, 1, .inr (.inl u5)))]) (va_runV (As := []) (rest := []) ⟨hx, hb, hml, hown, hts⟩ (c_thrown l hst D mo (u12.2.2 0) (u12.2.2 1) u12.1 (u12.2.1 0) (u12.2.1 1) (u12.2.1 2) (u12.2.1 3) (u12.2.1 4) (u12.2.1 5) (u12.2.1 6) (u12.2.1 7) (u12.2.2 2) (u12.2.1 8) H.size) (cwV 0 hts (gi_c mw_770 rfl (gi_c mw_771 rfl (gi_c mw_772 rfl (gi_c mw_481 rfl (goodIn_sub il_c_thrown (List.all_eq_true.mpr gw_c_thrown)))))) rfl rfl rfl (by decide +kernel) ⟨Nat.le_of_ble_eq_true rfl, Nat.le_of_ble_eq_true rfl⟩) (pr_V (As := []) (b := mo) (C := RX9) hP hD hK hS hA hE [1] [] rfl rfl rfl 1 16 rfl rfl rfl) rfl rfl hl.1 rfl (lv_room (Nat.le_of_ble_eq_true rfl)) dL_law_3101 ⟨Nat.le_of_ble_eq_true rfl, Nat.le_of_ble_eq_true rfl⟩) hP hD hK hS hA [1] [0] rfl rfl (by decide) (by decide) (fun r16 _ H locs w15 hP hD hK hS => ?_)
  have hP : va_P D vwCl [(oo, .inl (coo, 1, .inr (.inl u5))), (mo, .inr (16, [.int (u12.2.2 0), .int (u12.2.2 1), .int u12.1, .ref (u12.2.1 0), .ref (u12.2.1 1), .ref (u12.2.1 2), .ref (u12.2.1 3), .ref (u12.2.1 4), .ref (u12.2.1 5), .ref (u12.2.1 6), .ref (u12.2.1 7), .int (u12.2.2 2), .ref (u12.2.1 8)]))] H := hP
  have hD : va_D (lw_A s) [(oo, .inl (coo, 1, .inr (.inl u5))), (mo, .inr (16, [.int (u12.2.2 0), .int (u12.2.2 1), .int u12.1, .ref (u12.2.1 0), .ref (u12.2.1 1), .ref (u12.2.1 2), .ref (u12.2.1 3), .ref (u12.2.1 4), .ref (u12.2.1 5), .ref (u12.2.1 6), .ref (u12.2.1 7), .int (u12.2.2 2), .ref (u12.2.1 8)]))] := hD
  have hK : va_K D vwCl [(coo, .long)] s := hK
  obtain rfl : r16 = u12.1 := w15
  refine lv_iload hx hb dL_law_3104 (lv_at hl 1 rfl) ?_
  refine lv_icmp_eq (tgt := 3111) hx hb dL_law_3106 (by decide) (fun h17 => ?_) (fun h17 => absurd (by exact (w13).trans w6.1.symm) h17)
  refine lv_iload hx hb dL_law_3111 (lv_at hl 1 rfl) ?_
  refine lv_if_ne (tgt := 3135) hx hb dL_law_3113 (by decide) (fun h18 => ?_) (fun h18 => absurd h18 (by exact fun q9 => absurd (show (1 : Int32) = 0 from w6.1.symm.trans q9) (by decide)))
  refine lv_goto (tgt := 3320) hx hb dL_law_3135 (by decide) ?_
  refine W.widen (k := 600006) (n := 7302040) (Nat.le_of_ble_eq_true rfl) (Nat.le_of_ble_eq_true rfl) ?_
  exact hend _ _ _ (lv_sub hl [2, 7] rfl) hS

set_option maxHeartbeats 4000000 in
set_option maxRecDepth 100000 in
/-- case 42: okShare -/
theorem lc_42 (l : Launch) (hst : l.stackTraces = false) (D : va_G) {p : Program} {e : Env} {s : State} {m : MethodId} {below : List Frame} {meth : Method} {c : Code} {b : Nat} {xs : Nat → Int32} {Q : State → Prop} (hx : p.tables.exec = Jvm.exec) (hb : c.code = code) (hml : c.maxLocals = 9) (hown : s.vm.findClass RL = some m.cls) (hts : ∀ w ∈ lw_tbl, w.before #[Value.ref b] s = true) (hX : va_X b 5 xs s s.heap) (hbl : b < s.heap.size) (hE : ex_E D (lw_A s) s s.heap) (hend : lw_End p l e s m below meth c b Q) (x : Nat) (g : Nat) (ca : Nat) (co : Nat) (ra : Nat) (rl : Nat) (tr : Nat) (f9 : Nat) (f10 : Nat) (f11 : Nat) (f12 : Nat) (f13 : Nat) (od : Nat) (coo : ClassId) (f0 : Nat → UInt64) (mo : Nat) (th : Int32) (m1 : Nat) (m2 : Nat) (m3 : Nat) (m4 : Nat) (m5 : Nat) (l1 : Nat) (l2 : Nat) (l3 : Nat) (l4 : Nat) (oo : Nat)  {H : Heap} {locs : List Loc} {ls : Array Slot} (hl : lv_has ls 9 [(5, .int 0), (4, .ref od), (3, .ref oo), (2, .ref mo), (1, .ref x), (0, .ref b)]) (hP : va_P D vwCl [(x, .inr (13, [.ref g, .ref ca, .int 0, .ref co, .int 0, .ref ra, .int 0, .ref rl, .ref tr, .ref f9, .ref f10, .ref f11, .ref f12, .ref f13])), (od, .inl (coo, 1, .inr (.inr (.inr (.inl f0))))), (mo, .inr (16, [.int 5, .int 5, .int th, .ref m1, .ref m2, .ref m3, .ref m4, .ref m5, .ref l1, .ref l2, .ref l3, .int (-1), .ref l4])), (l2, .inr (5, [.int 1, .ref (D.1 1000), .int 0])), (l3, .inr (5, [.int 1, .ref (D.1 1000), .int 0]))] H) (hD : va_D (lw_A s) [(x, .inr (13, [.ref g, .ref ca, .int 0, .ref co, .int 0, .ref ra, .int 0, .ref rl, .ref tr, .ref f9, .ref f10, .ref f11, .ref f12, .ref f13])), (od, .inl (coo, 1, .inr (.inr (.inr (.inl f0))))), (mo, .inr (16, [.int 5, .int 5, .int th, .ref m1, .ref m2, .ref m3, .ref m4, .ref m5, .ref l1, .ref l2, .ref l3, .int (-1), .ref l4])), (l2, .inr (5, [.int 1, .ref (D.1 1000), .int 0])), (l3, .inr (5, [.int 1, .ref (D.1 1000), .int 0]))]) (hK : va_K D vwCl [(coo, .double)] s) (hS : va_S (lw_A s) s.heap H locs) : W p l e room_1 s m #[Value.ref b] below meth c H locs 167 55824 Q (F0 m 3138 ls []) := by
  have hA : ∀ q : Nat, s.heap.size ≤ q → lw_A s q := fun _ h => h
  have hbA : ¬ lw_A s b := Nat.not_le.mpr hbl
  refine lv_aload_n hx hb dL_law_3138 rfl (lv_at hl 4 rfl) ?_
  refine lv_aload_n hx hb dL_law_3139 rfl (lv_at hl 5 rfl) ?_
  refine lv_iload hx hb dL_law_3140 (lv_at hl 0 rfl) ?_
  refine lv_iconst (v := 1) hx hb dL_law_3142 (by decide) ?_
  refine lv_iadd hx hb dL_law_3143 ?_
  refine lv_topi (fun x1 e1 => ?_)
  obtain rfl : x1 = 1 := e1.trans (by decide)
  refine va_sld hx hb hX hbl hbA hS (vp_in_nI (n := 1) (by decide) (by decide)) dL_law_3144 ?_
  refine lv_topi (fun x2 e2 => ?_)
  obtain rfl : x2 = xs 1 := e2
  refine lv_aload hx hb dL_law_3145 (lv_at hl 1 rfl) ?_
  refine mc_i (wr := [(mo, .inr (16, [.int 5, .int 5, .int th, .ref m1, .ref m2, .ref m3, .ref m4, .ref m5, .ref l1, .ref l2, .ref l3, .int (-1), .ref l4])), (l2, .inr (5, [.int 1, .ref (D.1 1000), .int 0])), (l3, .inr (5, [.int 1, .ref (D.1 1000), .int 0]))]) (vx_runSW (As := [.ref x, .int (xs 1), .ref od]) (rest := []) ⟨hx, hb, hml, hown, hts⟩ (c_LokShare l hst D x g ca co ra rl tr f9 f10 f11 f12 f13 (xs 1) od coo f0 H.size) (vx_cwSW 3 hts (gi_c mw_980 rfl (gi_c mw_981 rfl (gi_c mw_766 rfl (goodIn_sub il_c_LokShare (List.all_eq_true.mpr gw_c_LokShare))))) rfl rfl rfl (by decide +kernel) ⟨Nat.le_of_ble_eq_true rfl, Nat.le_of_ble_eq_true rfl⟩) (pr_S (As := [.ref x, .int (xs 1), .ref od]) hP hD hK hS hA hE [0, 1] [0] rfl rfl rfl) rfl rfl hl.1 rfl (lv_room (Nat.le_of_ble_eq_true rfl)) dL_law_3147 ⟨Nat.le_of_ble_eq_true rfl, Nat.le_of_ble_eq_true rfl⟩) hP hD hK hS hA [0, 1] [2, 3, 4] rfl rfl (by decide) (by decide) (fun r5 u3 H locs w4 hP hD hK hS => ?_)
  have hP : va_P D vwCl [(mo, .inr (16, [.int 5, .int 5, .int th, .ref m1, .ref m2, .ref m3, .ref m4, .ref m5, .ref l1, .ref l2, .ref l3, .int (-1), .ref l4])), (l2, .inr (5, [.int 1, .ref (D.1 1000), .int 0])), (l3, .inr (5, [.int 1, .ref (D.1 1000), .int 0])), (od, .inl (coo, 1, .inr (.inr (.inr (.inl u3)))))] H := hP
  have hD : va_D (lw_A s) [(mo, .inr (16, [.int 5, .int 5, .int th, .ref m1, .ref m2, .ref m3, .ref m4, .ref m5, .ref l1, .ref l2, .ref l3, .int (-1), .ref l4])), (l2, .inr (5, [.int 1, .ref (D.1 1000), .int 0])), (l3, .inr (5, [.int 1, .ref (D.1 1000), .int 0])), (od, .inl (coo, 1, .inr (.inr (.inr (.inl u3)))))] := hD
  have hK : va_K D vwCl [(coo, .double)] s := hK
  refine lv_istore (lv' := [(6, .int r5), (5, .int 0), (4, .ref od), (3, .ref oo), (2, .ref mo), (1, .ref x), (0, .ref b)]) hx hb dL_law_3150 hl (by decide) rfl (fun ls hl => ?_)
  refine lv_aload_n hx hb dL_law_3152 rfl (lv_at hl 4 rfl) ?_
  refine lv_aload_n hx hb dL_law_3153 rfl (lv_at hl 6 rfl) ?_
  refine lv_iload hx hb dL_law_3154 (lv_at hl 1 rfl) ?_
  refine lv_iconst (v := 1) hx hb dL_law_3156 (by decide) ?_
  refine lv_iadd hx hb dL_law_3157 ?_
  refine lv_topi (fun x6 e6 => ?_)
  obtain rfl : x6 = 1 := e6.trans (by decide)
  refine va_sld hx hb hX hbl hbA hS (vp_in_nI (n := 1) (by decide) (by decide)) dL_law_3158 ?_
  refine lv_topi (fun x7 e7 => ?_)
  obtain rfl : x7 = xs 1 := e7
  refine mc_f (wr := [(od, .inl (coo, 1, .inr (.inr (.inr (.inl u3)))))]) (va_runV (As := [.int (xs 1)]) (rest := []) ⟨hx, hb, hml, hown, hts⟩ (c_mokShare l hst D mo th m1 m2 m3 m4 m5 l1 l2 l3 l4 (xs 1) H.size) (cwV 1 hts (gi_c mw_982 rfl (gi_c mw_983 rfl (gi_c mw_984 rfl (gi_c mw_481 rfl (goodIn_sub il_c_mokShare (List.all_eq_true.mpr gw_c_mokShare)))))) rfl rfl rfl (by decide +kernel) ⟨Nat.le_of_ble_eq_true rfl, Nat.le_of_ble_eq_true rfl⟩) (pr_V (As := [.int (xs 1)]) (b := mo) (C := RX9) hP hD hK hS hA hE [0, 1, 2] [] rfl rfl rfl 0 16 rfl rfl rfl) rfl rfl hl.1 rfl (lv_room (Nat.le_of_ble_eq_true rfl)) dL_law_3159 ⟨Nat.le_of_ble_eq_true rfl, Nat.le_of_ble_eq_true rfl⟩) hP hD hK hS hA [0, 1, 2] [3] rfl rfl (by decide) (by decide) (fun r10 u8 H locs w9 hP hD hK hS => ?_)
  have hP : va_P D vwCl [(od, .inl (coo, 1, .inr (.inr (.inr (.inl u3))))), (mo, .inr (16, [.int (u8.2.2 0), .int (u8.2.2 1), .int u8.1, .ref (u8.2.1 0), .ref (u8.2.1 1), .ref (u8.2.1 2), .ref (u8.2.1 3), .ref (u8.2.1 4), .ref (u8.2.1 5), .ref (u8.2.1 6), .ref (u8.2.1 7), .int (u8.2.2 2), .ref (u8.2.1 8)]))] H := hP
  have hD : va_D (lw_A s) [(od, .inl (coo, 1, .inr (.inr (.inr (.inl u3))))), (mo, .inr (16, [.int (u8.2.2 0), .int (u8.2.2 1), .int u8.1, .ref (u8.2.1 0), .ref (u8.2.1 1), .ref (u8.2.1 2), .ref (u8.2.1 3), .ref (u8.2.1 4), .ref (u8.2.1 5), .ref (u8.2.1 6), .ref (u8.2.1 7), .int (u8.2.2 2), .ref (u8.2.1 8)]))] := hD
  have hK : va_K D vwCl [(coo, .double)] s := hK
  refine lv_fstore (lv' := [(7, .float r10), (6, .int r5), (5, .int 0), (4, .ref od), (3, .ref oo), (2, .ref mo), (1, .ref x), (0, .ref b)]) hx hb dL_law_3162 hl (by decide) rfl (fun ls hl => ?_)
  refine lv_aload_n hx hb dL_law_3164 rfl (lv_at hl 5 rfl) ?_
  refine mc_i (wr := [(od, .inl (coo, 1, .inr (.inr (.inr (.inl u3)))))]) (va_runV (As := []) (rest := []) ⟨hx, hb, hml, hown, hts⟩ (c_thrown l hst D mo (u8.2.2 0) (u8.2.2 1) u8.1 (u8.2.1 0) (u8.2.1 1) (u8.2.1 2) (u8.2.1 3) (u8.2.1 4) (u8.2.1 5) (u8.2.1 6) (u8.2.1 7) (u8.2.2 2) (u8.2.1 8) H.size) (cwV 0 hts (gi_c mw_770 rfl (gi_c mw_771 rfl (gi_c mw_772 rfl (gi_c mw_481 rfl (goodIn_sub il_c_thrown (List.all_eq_true.mpr gw_c_thrown)))))) rfl rfl rfl (by decide +kernel) ⟨Nat.le_of_ble_eq_true rfl, Nat.le_of_ble_eq_true rfl⟩) (pr_V (As := []) (b := mo) (C := RX9) hP hD hK hS hA hE [1] [] rfl rfl rfl 1 16 rfl rfl rfl) rfl rfl hl.1 rfl (lv_room (Nat.le_of_ble_eq_true rfl)) dL_law_3165 ⟨Nat.le_of_ble_eq_true rfl, Nat.le_of_ble_eq_true rfl⟩) hP hD hK hS hA [1] [0] rfl rfl (by decide) (by decide) (fun r12 _ H locs w11 hP hD hK hS => ?_)
  have hP : va_P D vwCl [(od, .inl (coo, 1, .inr (.inr (.inr (.inl u3))))), (mo, .inr (16, [.int (u8.2.2 0), .int (u8.2.2 1), .int u8.1, .ref (u8.2.1 0), .ref (u8.2.1 1), .ref (u8.2.1 2), .ref (u8.2.1 3), .ref (u8.2.1 4), .ref (u8.2.1 5), .ref (u8.2.1 6), .ref (u8.2.1 7), .int (u8.2.2 2), .ref (u8.2.1 8)]))] H := hP
  have hD : va_D (lw_A s) [(od, .inl (coo, 1, .inr (.inr (.inr (.inl u3))))), (mo, .inr (16, [.int (u8.2.2 0), .int (u8.2.2 1), .int u8.1, .ref (u8.2.1 0), .ref (u8.2.1 1), .ref (u8.2.1 2), .ref (u8.2.1 3), .ref (u8.2.1 4), .ref (u8.2.1 5), .ref (u8.2.1 6), .ref (u8.2.1 7), .int (u8.2.2 2), .ref (u8.2.1 8)]))] := hD
  have hK : va_K D vwCl [(coo, .double)] s := hK
  obtain rfl : r12 = u8.1 := w11
  refine lv_iload hx hb dL_law_3168 (lv_at hl 1 rfl) ?_
  refine lv_icmp_eq (tgt := 3175) hx hb dL_law_3170 (by decide) (fun h13 => ?_) (fun h13 => absurd (by exact (w9).trans w4.symm) h13)
  refine lv_iload hx hb dL_law_3175 (lv_at hl 1 rfl) ?_
  refine lv_if_ne (tgt := 3213) hx hb dL_law_3177 (by decide) (fun h14 => ?_) (fun h14 => absurd h14 (by exact fun q9 => absurd (show (1 : Int32) = 0 from w4.symm.trans q9) (by decide)))
  refine lv_goto (tgt := 3320) hx hb dL_law_3213 (by decide) ?_
  refine W.widen (k := 600006) (n := 7302040) (Nat.le_of_ble_eq_true rfl) (Nat.le_of_ble_eq_true rfl) ?_
  exact hend _ _ _ (lv_sub hl [2, 7] rfl) hS

set_option maxHeartbeats 4000000 in
set_option maxRecDepth 100000 in
/-- case 43: meanTime -/
theorem lc_43 (l : Launch) (hst : l.stackTraces = false) (D : va_G) {p : Program} {e : Env} {s : State} {m : MethodId} {below : List Frame} {meth : Method} {c : Code} {b : Nat} {xs : Nat → Int32} {Q : State → Prop} (hx : p.tables.exec = Jvm.exec) (hb : c.code = code) (hml : c.maxLocals = 9) (hown : s.vm.findClass RL = some m.cls) (hts : ∀ w ∈ lw_tbl, w.before #[Value.ref b] s = true) (hX : va_X b 5 xs s s.heap) (hbl : b < s.heap.size) (hE : ex_E D (lw_A s) s s.heap) (hend : lw_End p l e s m below meth c b Q) (x : Nat) (g : Nat) (ca : Nat) (co : Nat) (ra : Nat) (rl : Nat) (tr : Nat) (f9 : Nat) (f10 : Nat) (f11 : Nat) (f12 : Nat) (f13 : Nat) (od : Nat) (coo : ClassId) (f0 : Nat → UInt64) (mo : Nat) (th : Int32) (m1 : Nat) (m2 : Nat) (m3 : Nat) (m4 : Nat) (m5 : Nat) (l1 : Nat) (l2 : Nat) (l3 : Nat) (l4 : Nat) (oo : Nat)  {H : Heap} {locs : List Loc} {ls : Array Slot} (hl : lv_has ls 9 [(5, .int 0), (4, .ref od), (3, .ref oo), (2, .ref mo), (1, .ref x), (0, .ref b)]) (hP : va_P D vwCl [(x, .inr (13, [.ref g, .ref ca, .int 0, .ref co, .int 0, .ref ra, .int 0, .ref rl, .ref tr, .ref f9, .ref f10, .ref f11, .ref f12, .ref f13])), (od, .inl (coo, 1, .inr (.inr (.inr (.inl f0))))), (mo, .inr (16, [.int 5, .int 5, .int th, .ref m1, .ref m2, .ref m3, .ref m4, .ref m5, .ref l1, .ref l2, .ref l3, .int (-1), .ref l4])), (l2, .inr (5, [.int 1, .ref (D.1 1000), .int 0])), (l3, .inr (5, [.int 1, .ref (D.1 1000), .int 0]))] H) (hD : va_D (lw_A s) [(x, .inr (13, [.ref g, .ref ca, .int 0, .ref co, .int 0, .ref ra, .int 0, .ref rl, .ref tr, .ref f9, .ref f10, .ref f11, .ref f12, .ref f13])), (od, .inl (coo, 1, .inr (.inr (.inr (.inl f0))))), (mo, .inr (16, [.int 5, .int 5, .int th, .ref m1, .ref m2, .ref m3, .ref m4, .ref m5, .ref l1, .ref l2, .ref l3, .int (-1), .ref l4])), (l2, .inr (5, [.int 1, .ref (D.1 1000), .int 0])), (l3, .inr (5, [.int 1, .ref (D.1 1000), .int 0]))]) (hK : va_K D vwCl [(coo, .double)] s) (hS : va_S (lw_A s) s.heap H locs) : W p l e room_1 s m #[Value.ref b] below meth c H locs 167 55824 Q (F0 m 3216 ls []) := by
  have hA : ∀ q : Nat, s.heap.size ≤ q → lw_A s q := fun _ h => h
  have hbA : ¬ lw_A s b := Nat.not_le.mpr hbl
  refine lv_aload_n hx hb dL_law_3216 rfl (lv_at hl 4 rfl) ?_
  refine lv_aload_n hx hb dL_law_3217 rfl (lv_at hl 5 rfl) ?_
  refine lv_iload hx hb dL_law_3218 (lv_at hl 0 rfl) ?_
  refine lv_iconst (v := 1) hx hb dL_law_3220 (by decide) ?_
  refine lv_iadd hx hb dL_law_3221 ?_
  refine lv_topi (fun x1 e1 => ?_)
  obtain rfl : x1 = 1 := e1.trans (by decide)
  refine va_sld hx hb hX hbl hbA hS (vp_in_nI (n := 1) (by decide) (by decide)) dL_law_3222 ?_
  refine lv_topi (fun x2 e2 => ?_)
  obtain rfl : x2 = xs 1 := e2
  refine lv_aload hx hb dL_law_3223 (lv_at hl 1 rfl) ?_
  refine mc_i (wr := [(mo, .inr (16, [.int 5, .int 5, .int th, .ref m1, .ref m2, .ref m3, .ref m4, .ref m5, .ref l1, .ref l2, .ref l3, .int (-1), .ref l4])), (l2, .inr (5, [.int 1, .ref (D.1 1000), .int 0])), (l3, .inr (5, [.int 1, .ref (D.1 1000), .int 0]))]) (vx_runSW (As := [.ref x, .int (xs 1), .ref od]) (rest := []) ⟨hx, hb, hml, hown, hts⟩ (c_LmeanTime l hst D x g ca co ra rl tr f9 f10 f11 f12 f13 (xs 1) od coo f0 H.size) (vx_cwSW 3 hts (gi_c mw_985 rfl (gi_c mw_986 rfl (gi_c mw_766 rfl (goodIn_sub il_c_LmeanTime (List.all_eq_true.mpr gw_c_LmeanTime))))) rfl rfl rfl (by decide +kernel) ⟨Nat.le_of_ble_eq_true rfl, Nat.le_of_ble_eq_true rfl⟩) (pr_S (As := [.ref x, .int (xs 1), .ref od]) hP hD hK hS hA hE [0, 1] [0] rfl rfl rfl) rfl rfl hl.1 rfl (lv_room (Nat.le_of_ble_eq_true rfl)) dL_law_3225 ⟨Nat.le_of_ble_eq_true rfl, Nat.le_of_ble_eq_true rfl⟩) hP hD hK hS hA [0, 1] [2, 3, 4] rfl rfl (by decide) (by decide) (fun r5 u3 H locs w4 hP hD hK hS => ?_)
  have hP : va_P D vwCl [(mo, .inr (16, [.int 5, .int 5, .int th, .ref m1, .ref m2, .ref m3, .ref m4, .ref m5, .ref l1, .ref l2, .ref l3, .int (-1), .ref l4])), (l2, .inr (5, [.int 1, .ref (D.1 1000), .int 0])), (l3, .inr (5, [.int 1, .ref (D.1 1000), .int 0])), (od, .inl (coo, 1, .inr (.inr (.inr (.inl u3)))))] H := hP
  have hD : va_D (lw_A s) [(mo, .inr (16, [.int 5, .int 5, .int th, .ref m1, .ref m2, .ref m3, .ref m4, .ref m5, .ref l1, .ref l2, .ref l3, .int (-1), .ref l4])), (l2, .inr (5, [.int 1, .ref (D.1 1000), .int 0])), (l3, .inr (5, [.int 1, .ref (D.1 1000), .int 0])), (od, .inl (coo, 1, .inr (.inr (.inr (.inl u3)))))] := hD
  have hK : va_K D vwCl [(coo, .double)] s := hK
  refine lv_istore (lv' := [(6, .int r5), (5, .int 0), (4, .ref od), (3, .ref oo), (2, .ref mo), (1, .ref x), (0, .ref b)]) hx hb dL_law_3228 hl (by decide) rfl (fun ls hl => ?_)
  refine lv_aload_n hx hb dL_law_3230 rfl (lv_at hl 4 rfl) ?_
  refine lv_aload_n hx hb dL_law_3231 rfl (lv_at hl 6 rfl) ?_
  refine lv_iload hx hb dL_law_3232 (lv_at hl 1 rfl) ?_
  refine lv_iconst (v := 1) hx hb dL_law_3234 (by decide) ?_
  refine lv_iadd hx hb dL_law_3235 ?_
  refine lv_topi (fun x6 e6 => ?_)
  obtain rfl : x6 = 1 := e6.trans (by decide)
  refine va_sld hx hb hX hbl hbA hS (vp_in_nI (n := 1) (by decide) (by decide)) dL_law_3236 ?_
  refine lv_topi (fun x7 e7 => ?_)
  obtain rfl : x7 = xs 1 := e7
  refine mc_d (wr := [(od, .inl (coo, 1, .inr (.inr (.inr (.inl u3)))))]) (va_runV (As := [.int (xs 1)]) (rest := []) ⟨hx, hb, hml, hown, hts⟩ (c_mmeanTime l hst D mo th m1 m2 m3 m4 m5 l1 l2 l3 l4 (xs 1) H.size) (cwV 1 hts (gi_c mw_987 rfl (gi_c mw_988 rfl (gi_c mw_989 rfl (gi_c mw_481 rfl (goodIn_sub il_c_mmeanTime (List.all_eq_true.mpr gw_c_mmeanTime)))))) rfl rfl rfl (by decide +kernel) ⟨Nat.le_of_ble_eq_true rfl, Nat.le_of_ble_eq_true rfl⟩) (pr_V (As := [.int (xs 1)]) (b := mo) (C := RX9) hP hD hK hS hA hE [0, 1, 2] [] rfl rfl rfl 0 16 rfl rfl rfl) rfl rfl hl.1 rfl (lv_room (Nat.le_of_ble_eq_true rfl)) dL_law_3237 ⟨Nat.le_of_ble_eq_true rfl, Nat.le_of_ble_eq_true rfl⟩) hP hD hK hS hA [0, 1, 2] [3] rfl rfl (by decide) (by decide) (fun r10 u8 H locs w9 hP hD hK hS => ?_)
  have hP : va_P D vwCl [(od, .inl (coo, 1, .inr (.inr (.inr (.inl u3))))), (mo, .inr (16, [.int (u8.2.2 0), .int (u8.2.2 1), .int u8.1, .ref (u8.2.1 0), .ref (u8.2.1 1), .ref (u8.2.1 2), .ref (u8.2.1 3), .ref (u8.2.1 4), .ref (u8.2.1 5), .ref (u8.2.1 6), .ref (u8.2.1 7), .int (u8.2.2 2), .ref (u8.2.1 8)]))] H := hP
  have hD : va_D (lw_A s) [(od, .inl (coo, 1, .inr (.inr (.inr (.inl u3))))), (mo, .inr (16, [.int (u8.2.2 0), .int (u8.2.2 1), .int u8.1, .ref (u8.2.1 0), .ref (u8.2.1 1), .ref (u8.2.1 2), .ref (u8.2.1 3), .ref (u8.2.1 4), .ref (u8.2.1 5), .ref (u8.2.1 6), .ref (u8.2.1 7), .int (u8.2.2 2), .ref (u8.2.1 8)]))] := hD
  have hK : va_K D vwCl [(coo, .double)] s := hK
  refine lv_dstore (lv' := [(7, .double r10), (6, .int r5), (5, .int 0), (4, .ref od), (3, .ref oo), (2, .ref mo), (1, .ref x), (0, .ref b)]) hx hb dL_law_3240 hl (by decide) rfl (fun ls hl => ?_)
  refine lv_aload_n hx hb dL_law_3242 rfl (lv_at hl 5 rfl) ?_
  refine mc_i (wr := [(od, .inl (coo, 1, .inr (.inr (.inr (.inl u3)))))]) (va_runV (As := []) (rest := []) ⟨hx, hb, hml, hown, hts⟩ (c_thrown l hst D mo (u8.2.2 0) (u8.2.2 1) u8.1 (u8.2.1 0) (u8.2.1 1) (u8.2.1 2) (u8.2.1 3) (u8.2.1 4) (u8.2.1 5) (u8.2.1 6) (u8.2.1 7) (u8.2.2 2) (u8.2.1 8) H.size) (cwV 0 hts (gi_c mw_770 rfl (gi_c mw_771 rfl (gi_c mw_772 rfl (gi_c mw_481 rfl (goodIn_sub il_c_thrown (List.all_eq_true.mpr gw_c_thrown)))))) rfl rfl rfl (by decide +kernel) ⟨Nat.le_of_ble_eq_true rfl, Nat.le_of_ble_eq_true rfl⟩) (pr_V (As := []) (b := mo) (C := RX9) hP hD hK hS hA hE [1] [] rfl rfl rfl 1 16 rfl rfl rfl) rfl rfl hl.1 rfl (lv_room (Nat.le_of_ble_eq_true rfl)) dL_law_3243 ⟨Nat.le_of_ble_eq_true rfl, Nat.le_of_ble_eq_true rfl⟩) hP hD hK hS hA [1] [0] rfl rfl (by decide) (by decide) (fun r12 _ H locs w11 hP hD hK hS => ?_)
  have hP : va_P D vwCl [(od, .inl (coo, 1, .inr (.inr (.inr (.inl u3))))), (mo, .inr (16, [.int (u8.2.2 0), .int (u8.2.2 1), .int u8.1, .ref (u8.2.1 0), .ref (u8.2.1 1), .ref (u8.2.1 2), .ref (u8.2.1 3), .ref (u8.2.1 4), .ref (u8.2.1 5), .ref (u8.2.1 6), .ref (u8.2.1 7), .int (u8.2.2 2), .ref (u8.2.1 8)]))] H := hP
  have hD : va_D (lw_A s) [(od, .inl (coo, 1, .inr (.inr (.inr (.inl u3))))), (mo, .inr (16, [.int (u8.2.2 0), .int (u8.2.2 1), .int u8.1, .ref (u8.2.1 0), .ref (u8.2.1 1), .ref (u8.2.1 2), .ref (u8.2.1 3), .ref (u8.2.1 4), .ref (u8.2.1 5), .ref (u8.2.1 6), .ref (u8.2.1 7), .int (u8.2.2 2), .ref (u8.2.1 8)]))] := hD
  have hK : va_K D vwCl [(coo, .double)] s := hK
  obtain rfl : r12 = u8.1 := w11
  refine lv_iload hx hb dL_law_3246 (lv_at hl 1 rfl) ?_
  refine lv_icmp_eq (tgt := 3253) hx hb dL_law_3248 (by decide) (fun h13 => ?_) (fun h13 => absurd (by exact (w9).trans w4.symm) h13)
  refine lv_iload hx hb dL_law_3253 (lv_at hl 1 rfl) ?_
  refine lv_if_ne (tgt := 3290) hx hb dL_law_3255 (by decide) (fun h14 => ?_) (fun h14 => absurd h14 (by exact fun q9 => absurd (show (1 : Int32) = 0 from w4.symm.trans q9) (by decide)))
  refine lv_goto (tgt := 3320) hx hb dL_law_3290 (by decide) ?_
  refine W.widen (k := 600006) (n := 7302040) (Nat.le_of_ble_eq_true rfl) (Nat.le_of_ble_eq_true rfl) ?_
  exact hend _ _ _ (lv_sub hl [2, 7] rfl) hS

set_option maxHeartbeats 4000000 in
set_option maxRecDepth 100000 in
/-- case 44: checksum -/
theorem lc_44 (l : Launch) (hst : l.stackTraces = false) (D : va_G) {p : Program} {e : Env} {s : State} {m : MethodId} {below : List Frame} {meth : Method} {c : Code} {b : Nat} {xs : Nat → Int32} {Q : State → Prop} (hx : p.tables.exec = Jvm.exec) (hb : c.code = code) (hml : c.maxLocals = 9) (hown : s.vm.findClass RL = some m.cls) (hts : ∀ w ∈ lw_tbl, w.before #[Value.ref b] s = true) (hX : va_X b 5 xs s s.heap) (hbl : b < s.heap.size) (hE : ex_E D (lw_A s) s s.heap) (hend : lw_End p l e s m below meth c b Q) (x : Nat) (g : Nat) (ca : Nat) (co : Nat) (ra : Nat) (rl : Nat) (tr : Nat) (f9 : Nat) (f10 : Nat) (f11 : Nat) (f12 : Nat) (f13 : Nat) (mo : Nat) (th : Int32) (m1 : Nat) (m2 : Nat) (m3 : Nat) (m4 : Nat) (m5 : Nat) (l1 : Nat) (l2 : Nat) (l3 : Nat) (l4 : Nat) (oo : Nat) (od : Nat)  {H : Heap} {locs : List Loc} {ls : Array Slot} (hl : lv_has ls 9 [(5, .int 0), (4, .ref od), (3, .ref oo), (2, .ref mo), (1, .ref x), (0, .ref b)]) (hP : va_P D vwCl [(x, .inr (13, [.ref g, .ref ca, .int 0, .ref co, .int 0, .ref ra, .int 0, .ref rl, .ref tr, .ref f9, .ref f10, .ref f11, .ref f12, .ref f13])), (mo, .inr (16, [.int 5, .int 5, .int th, .ref m1, .ref m2, .ref m3, .ref m4, .ref m5, .ref l1, .ref l2, .ref l3, .int (-1), .ref l4])), (l3, .inr (5, [.int 1, .ref (D.1 1000), .int 0]))] H) (hD : va_D (lw_A s) [(x, .inr (13, [.ref g, .ref ca, .int 0, .ref co, .int 0, .ref ra, .int 0, .ref rl, .ref tr, .ref f9, .ref f10, .ref f11, .ref f12, .ref f13])), (mo, .inr (16, [.int 5, .int 5, .int th, .ref m1, .ref m2, .ref m3, .ref m4, .ref m5, .ref l1, .ref l2, .ref l3, .int (-1), .ref l4])), (l3, .inr (5, [.int 1, .ref (D.1 1000), .int 0]))]) (hK : va_K D vwCl [] s) (hS : va_S (lw_A s) s.heap H locs) : W p l e room_1 s m #[Value.ref b] below meth c H locs 167 55824 Q (F0 m 3293 ls []) := by
  have hA : ∀ q : Nat, s.heap.size ≤ q → lw_A s q := fun _ h => h
  have hbA : ¬ lw_A s b := Nat.not_le.mpr hbl
  refine lv_aload_n hx hb dL_law_3293 rfl (lv_at hl 4 rfl) ?_
  refine mc_l (wr := [(mo, .inr (16, [.int 5, .int 5, .int th, .ref m1, .ref m2, .ref m3, .ref m4, .ref m5, .ref l1, .ref l2, .ref l3, .int (-1), .ref l4])), (l3, .inr (5, [.int 1, .ref (D.1 1000), .int 0]))]) (va_runV (As := []) (rest := []) ⟨hx, hb, hml, hown, hts⟩ (c_checksum l hst D x g ca co ra rl tr f9 f10 f11 f12 f13 H.size) (cwV 0 hts (gi_c mw_990 rfl (gi_c mw_991 rfl (gi_c mw_992 rfl (gi_c mw_7 rfl (goodIn_sub il_c_checksum (List.all_eq_true.mpr gw_c_checksum)))))) rfl rfl rfl (by decide +kernel) ⟨Nat.le_of_ble_eq_true rfl, Nat.le_of_ble_eq_true rfl⟩) (pr_V (As := []) (b := x) (C := RX6) hP hD hK hS hA hE [0] [] rfl rfl rfl 0 13 rfl rfl rfl) rfl rfl hl.1 rfl (lv_room (Nat.le_of_ble_eq_true rfl)) dL_law_3294 ⟨Nat.le_of_ble_eq_true rfl, Nat.le_of_ble_eq_true rfl⟩) hP hD hK hS hA [0] [1, 2] rfl rfl (by decide) (by decide) (fun r2 _ H locs w1 hP hD hK hS => ?_)
  have hP : va_P D vwCl [(mo, .inr (16, [.int 5, .int 5, .int th, .ref m1, .ref m2, .ref m3, .ref m4, .ref m5, .ref l1, .ref l2, .ref l3, .int (-1), .ref l4])), (l3, .inr (5, [.int 1, .ref (D.1 1000), .int 0]))] H := hP
  have hD : va_D (lw_A s) [(mo, .inr (16, [.int 5, .int 5, .int th, .ref m1, .ref m2, .ref m3, .ref m4, .ref m5, .ref l1, .ref l2, .ref l3, .int (-1), .ref l4])), (l3, .inr (5, [.int 1, .ref (D.1 1000), .int 0]))] := hD
  have hK : va_K D vwCl [] s := hK
  obtain rfl := w1
  refine lv_aload_n hx hb dL_law_3297 rfl (lv_at hl 3 rfl) ?_
  refine mc_l (wr := []) (va_runV (As := []) (rest := [.long 7]) ⟨hx, hb, hml, hown, hts⟩ (c_mchecksum l hst D mo th m1 m2 m3 m4 m5 l1 l2 l3 l4 H.size) (cwV 0 hts (gi_c mw_993 rfl (gi_c mw_994 rfl (gi_c mw_995 rfl (gi_c mw_481 rfl (goodIn_sub il_c_mchecksum (List.all_eq_true.mpr gw_c_mchecksum)))))) rfl rfl rfl (by decide +kernel) ⟨Nat.le_of_ble_eq_true rfl, Nat.le_of_ble_eq_true rfl⟩) (pr_V (As := []) (b := mo) (C := RX9) hP hD hK hS hA hE [0, 1] [] rfl rfl rfl 0 16 rfl rfl rfl) rfl rfl hl.1 rfl (lv_room (Nat.le_of_ble_eq_true rfl)) dL_law_3298 ⟨Nat.le_of_ble_eq_true rfl, Nat.le_of_ble_eq_true rfl⟩) hP hD hK hS hA [0, 1] [] rfl rfl (by decide) (by decide) (fun r4 _ H locs w3 hP hD hK hS => ?_)
  have hP : va_P D vwCl [] H := hP
  have hD : va_D (lw_A s) [] := hD
  have hK : va_K D vwCl [] s := hK
  obtain rfl := w3
  refine W.lcmp hx hb dL_law_3301 ?_
  refine lv_topi (fun x5 e5 => ?_)
  refine lv_if_eq (tgt := 3320) hx hb dL_law_3302 (by decide) (fun h6 => ?_) (fun h6 => absurd (by exact e5.trans (by decide)) h6)
  refine W.widen (k := 600006) (n := 7302040) (Nat.le_of_ble_eq_true rfl) (Nat.le_of_ble_eq_true rfl) ?_
  exact hend _ _ _ (lv_sub hl [0, 5] rfl) hS

set_option maxHeartbeats 4000000 in
set_option maxRecDepth 100000 in
/-- case 45: isSound -/
theorem lc_45 (l : Launch) (hst : l.stackTraces = false) (D : va_G) {p : Program} {e : Env} {s : State} {m : MethodId} {below : List Frame} {meth : Method} {c : Code} {b : Nat} {xs : Nat → Int32} {Q : State → Prop} (hx : p.tables.exec = Jvm.exec) (hb : c.code = code) (hml : c.maxLocals = 9) (hown : s.vm.findClass RL = some m.cls) (hts : ∀ w ∈ lw_tbl, w.before #[Value.ref b] s = true) (hX : va_X b 5 xs s s.heap) (hbl : b < s.heap.size) (hE : ex_E D (lw_A s) s s.heap) (hend : lw_End p l e s m below meth c b Q) (x : Nat) (g : Nat) (ca : Nat) (co : Nat) (ra : Nat) (rl : Nat) (tr : Nat) (f9 : Nat) (f10 : Nat) (f11 : Nat) (f12 : Nat) (f13 : Nat) (a1 : Nat) (a2 : Nat) (a3 : Nat) (a4 : Nat) (a5 : Nat) (a6 : Nat) (a7 : Nat) (a8 : Nat) (a9 : Nat) (a10 : Nat) (a11 : Nat) (ck : ClassId) (csk : ClassId) (cg : ClassId) (ch : ClassId) (csg : ClassId) (cw : ClassId) (cq : ClassId) (cz : ClassId) (cb : ClassId) (mo : Nat) (th : Int32) (m1 : Nat) (m2 : Nat) (m3 : Nat) (m4 : Nat) (m5 : Nat) (l1 : Nat) (l2 : Nat) (l3 : Nat) (l4 : Nat) (oo : Nat) (od : Nat)  {H : Heap} {locs : List Loc} {ls : Array Slot} (hl : lv_has ls 9 [(5, .int 0), (4, .ref od), (3, .ref oo), (2, .ref mo), (1, .ref x), (0, .ref b)]) (hP : va_P D vwCl [(x, .inr (13, [.ref g, .ref ca, .int 0, .ref co, .int 0, .ref ra, .int 0, .ref rl, .ref tr, .ref f9, .ref f10, .ref f11, .ref f12, .ref f13])), (g, .inr (11, [.int 25, .ref a1, .ref a2, .ref a3, .ref a4, .ref a5, .ref a6, .ref a7, .ref a8, .ref a9, .ref a10, .ref a11, .int 0, .int 0])), (a6, .inl (cw, 144, .inl (fL zL))), (a10, .inl (cq, 144, .inl (fL zL))), (a11, .inl (cz, 144, .inl (fL zL))), (a3, .inl (ck, 144, .inl okF)), (a5, .inl (csk, 144, .inl okF)), (a1, .inl (cg, 144, .inl (fun _ => 0))), (a2, .inl (ch, 144, .inl (fun _ => 0))), (a4, .inl (csg, 144, .inl (fun _ => 0))), (a9, .inl (cb, 576, .inl beF)), (mo, .inr (16, [.int 5, .int 5, .int th, .ref m1, .ref m2, .ref m3, .ref m4, .ref m5, .ref l1, .ref l2, .ref l3, .int (-1), .ref l4]))] H) (hD : va_D (lw_A s) [(x, .inr (13, [.ref g, .ref ca, .int 0, .ref co, .int 0, .ref ra, .int 0, .ref rl, .ref tr, .ref f9, .ref f10, .ref f11, .ref f12, .ref f13])), (g, .inr (11, [.int 25, .ref a1, .ref a2, .ref a3, .ref a4, .ref a5, .ref a6, .ref a7, .ref a8, .ref a9, .ref a10, .ref a11, .int 0, .int 0])), (a6, .inl (cw, 144, .inl (fL zL))), (a10, .inl (cq, 144, .inl (fL zL))), (a11, .inl (cz, 144, .inl (fL zL))), (a3, .inl (ck, 144, .inl okF)), (a5, .inl (csk, 144, .inl okF)), (a1, .inl (cg, 144, .inl (fun _ => 0))), (a2, .inl (ch, 144, .inl (fun _ => 0))), (a4, .inl (csg, 144, .inl (fun _ => 0))), (a9, .inl (cb, 576, .inl beF)), (mo, .inr (16, [.int 5, .int 5, .int th, .ref m1, .ref m2, .ref m3, .ref m4, .ref m5, .ref l1, .ref l2, .ref l3, .int (-1), .ref l4]))]) (hK : va_K D vwCl [(ck, .char), (csk, .char), (cg, .int), (ch, .int), (csg, .int), (cw, .int), (cq, .int), (cz, .boolean), (cb, .int)] s) (hS : va_S (lw_A s) s.heap H locs) : W p l e room_1 s m #[Value.ref b] below meth c H locs 167 55824 Q (F0 m 3307 ls []) := by
  have hA : ∀ q : Nat, s.heap.size ≤ q → lw_A s q := fun _ h => h
  have hbA : ¬ lw_A s b := Nat.not_le.mpr hbl
  refine lv_aload_n hx hb dL_law_3307 rfl (lv_at hl 4 rfl) ?_
  refine mc_i (wr := [(mo, .inr (16, [.int 5, .int 5, .int th, .ref m1, .ref m2, .ref m3, .ref m4, .ref m5, .ref l1, .ref l2, .ref l3, .int (-1), .ref l4]))]) (va_runV (As := []) (rest := []) ⟨hx, hb, hml, hown, hts⟩ (c_isSound l hst D x g ca co ra rl tr f9 f10 f11 f12 f13 a1 a2 a3 a4 a5 a6 a7 a8 a9 a10 a11 ck csk cg ch csg cw cq cz cb H.size) (cwV 0 hts (gi_c mw_996 rfl (gi_c mw_997 rfl (gi_c mw_998 rfl (gi_c mw_7 rfl (goodIn_sub il_c_isSound (List.all_eq_true.mpr gw_c_isSound)))))) rfl rfl rfl (by decide +kernel) ⟨Nat.le_of_ble_eq_true rfl, Nat.le_of_ble_eq_true rfl⟩) (pr_V (As := []) (b := x) (C := RX6) hP hD hK hS hA hE [0, 1, 2, 3, 4, 5, 6, 7, 8, 9, 10] [0, 1, 2, 3, 4, 5, 6, 7, 8] rfl rfl rfl 0 13 rfl rfl rfl) rfl rfl hl.1 rfl (lv_room (Nat.le_of_ble_eq_true rfl)) dL_law_3308 ⟨Nat.le_of_ble_eq_true rfl, Nat.le_of_ble_eq_true rfl⟩) hP hD hK hS hA [0, 1, 2, 3, 4, 5, 6, 7, 8, 9, 10] [11] rfl rfl (by decide) (by decide) (fun r2 _ H locs w1 hP hD hK hS => ?_)
  have hP : va_P D vwCl [(mo, .inr (16, [.int 5, .int 5, .int th, .ref m1, .ref m2, .ref m3, .ref m4, .ref m5, .ref l1, .ref l2, .ref l3, .int (-1), .ref l4]))] H := hP
  have hD : va_D (lw_A s) [(mo, .inr (16, [.int 5, .int 5, .int th, .ref m1, .ref m2, .ref m3, .ref m4, .ref m5, .ref l1, .ref l2, .ref l3, .int (-1), .ref l4]))] := hD
  have hK : va_K D vwCl [(ck, .char), (csk, .char), (cg, .int), (ch, .int), (csg, .int), (cw, .int), (cq, .int), (cz, .boolean), (cb, .int)] s := hK
  obtain rfl := w1
  refine lv_aload_n hx hb dL_law_3311 rfl (lv_at hl 3 rfl) ?_
  refine mc_i (wr := []) (va_runV (As := []) (rest := [.int 1]) ⟨hx, hb, hml, hown, hts⟩ (c_misSound l hst D mo th m1 m2 m3 m4 m5 l1 l2 l3 l4 H.size) (cwV 0 hts (gi_c mw_999 rfl (gi_c mw_1000 rfl (gi_c mw_1001 rfl (gi_c mw_481 rfl (goodIn_sub il_c_misSound (List.all_eq_true.mpr gw_c_misSound)))))) rfl rfl rfl (by decide +kernel) ⟨Nat.le_of_ble_eq_true rfl, Nat.le_of_ble_eq_true rfl⟩) (pr_V (As := []) (b := mo) (C := RX9) hP hD hK hS hA hE [0] [] rfl rfl rfl 0 16 rfl rfl rfl) rfl rfl hl.1 rfl (lv_room (Nat.le_of_ble_eq_true rfl)) dL_law_3312 ⟨Nat.le_of_ble_eq_true rfl, Nat.le_of_ble_eq_true rfl⟩) hP hD hK hS hA [0] [] rfl rfl (by decide) (by decide) (fun r4 _ H locs w3 hP hD hK hS => ?_)
  have hP : va_P D vwCl [] H := hP
  have hD : va_D (lw_A s) [] := hD
  have hK : va_K D vwCl [(ck, .char), (csk, .char), (cg, .int), (ch, .int), (csg, .int), (cw, .int), (cq, .int), (cz, .boolean), (cb, .int)] s := hK
  obtain rfl := w3
  refine lv_icmp_eq (tgt := 3320) hx hb dL_law_3315 (by decide) (fun h5 => ?_) (fun h5 => absurd (by rfl) h5)
  refine W.widen (k := 600006) (n := 7302040) (Nat.le_of_ble_eq_true rfl) (Nat.le_of_ble_eq_true rfl) ?_
  exact hend _ _ _ (lv_sub hl [0, 5] rfl) hS
