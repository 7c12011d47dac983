theorem dL_law_0 : decode cL_law 0 = .ok (.new 8, 3) := by decide +kernel
theorem dL_law_3 : decode cL_law 3 = .ok (.dup, 1) := by decide +kernel
theorem dL_law_4 : decode cL_law 4 = .ok (.invokespecial 161, 3) := by decide +kernel
theorem dL_law_7 : decode cL_law 7 = .ok (.astore_n 1, 1) := by decide +kernel
theorem dL_law_8 : decode cL_law 8 = .ok (.new 162, 3) := by decide +kernel
theorem dL_law_11 : decode cL_law 11 = .ok (.dup, 1) := by decide +kernel
theorem dL_law_12 : decode cL_law 12 = .ok (.invokespecial 164, 3) := by decide +kernel
theorem dL_law_15 : decode cL_law 15 = .ok (.astore_n 2, 1) := by decide +kernel
theorem dL_law_16 : decode cL_law 16 = .ok (.iconst 1, 1) := by decide +kernel
theorem dL_law_17 : decode cL_law 17 = .ok (.newarray .long, 2) := by decide +kernel
theorem dL_law_19 : decode cL_law 19 = .ok (.astore_n 3, 1) := by decide +kernel
theorem dL_law_20 : decode cL_law 20 = .ok (.iconst 1, 1) := by decide +kernel
theorem dL_law_21 : decode cL_law 21 = .ok (.newarray .double, 2) := by decide +kernel
theorem dL_law_23 : decode cL_law 23 = .ok (.astore 4, 2) := by decide +kernel
theorem dL_law_25 : decode cL_law 25 = .ok (.iconst 0, 1) := by decide +kernel
theorem dL_law_26 : decode cL_law 26 = .ok (.istore 5, 2) := by decide +kernel
theorem dL_law_28 : decode cL_law 28 = .ok (.iload 5, 2) := by decide +kernel
theorem dL_law_30 : decode cL_law 30 = .ok (.aload_n 0, 1) := by decide +kernel
theorem dL_law_31 : decode cL_law 31 = .ok (.arraylength, 1) := by decide +kernel
theorem dL_law_32 : decode cL_law 32 = .ok (.iconst 5, 1) := by decide +kernel
theorem dL_law_33 : decode cL_law 33 = .ok (.isub, 1) := by decide +kernel
theorem dL_law_34 : decode cL_law 34 = .ok (.if_icmp .gt 3292, 3) := by decide +kernel
theorem dL_law_37 : decode cL_law 37 = .ok (.aload_n 0, 1) := by decide +kernel
theorem dL_law_38 : decode cL_law 38 = .ok (.iload 5, 2) := by decide +kernel
theorem dL_law_40 : decode cL_law 40 = .ok (.iaload, 1) := by decide +kernel
theorem dL_law_41 : decode cL_law 41 = .ok (.bipush 63, 2) := by decide +kernel
theorem dL_law_43 : decode cL_law 43 = .ok (.iand, 1) := by decide +kernel
theorem dL_law_44 : decode cL_law 44 = .ok (.tableswitch 3276 0 45 #[200, 268, 362, 375, 457, 553, 621, 701, 776, 832, 900, 980, 1043, 1099, 1167, 1235, 1303, 1395, 1451, 1531, 1599, 1679, 1747, 1850, 1918, 1974, 2030, 2098, 2154, 2222, 2278, 2346, 2402, 2470, 2550, 2563, 2607, 2699, 2779, 2859, 2939, 3019, 3094, 3172, 3249, 3263], 200) := by decide +kernel
theorem dL_law_3320 : decode cL_law 3320 = .ok (.iinc 5 5, 3) := by decide +kernel
theorem dL_law_3323 : decode cL_law 3323 = .ok (.goto (-3295), 3) := by decide +kernel
theorem dL_law_3326 : decode cL_law 3326 = .ok (.iconst 1, 1) := by decide +kernel
theorem dL_law_3327 : decode cL_law 3327 = .ok (.ireturn, 1) := by decide +kernel
set_option maxRecDepth 100000 in
theorem mw_1002 : (.classLink RL 8 RX6 : Cond) ∈ lw_tbl := List.mem_of_getElem? (i := 132) (by decide +kernel)
set_option maxRecDepth 100000 in
theorem mw_1003 : (.methodLink RL 161 yX6_init : Cond) ∈ lw_tbl := List.mem_of_getElem? (i := 134) (by decide +kernel)
set_option maxRecDepth 100000 in
theorem mw_1004 : (.instanceMethod yX6_init : Cond) ∈ lw_tbl := List.mem_of_getElem? (i := 135) (by decide +kernel)
set_option maxRecDepth 100000 in
theorem mw_1005 : (.classLink RL 162 RX9 : Cond) ∈ lw_tbl := List.mem_of_getElem? (i := 1300) (by decide +kernel)
set_option maxRecDepth 100000 in
theorem mw_1006 : (.methodLink RL 164 yX9_init : Cond) ∈ lw_tbl := List.mem_of_getElem? (i := 1302) (by decide +kernel)
set_option maxRecDepth 100000 in
theorem mw_1007 : (.instanceMethod yX9_init : Cond) ∈ lw_tbl := List.mem_of_getElem? (i := 1303) (by decide +kernel)
set_option maxRecDepth 100000 in
theorem mw_1008 : (.arrayClass .double : Cond) ∈ lw_tbl := List.mem_of_getElem? (i := 2628) (by decide +kernel)
/-! the law: from its entry to its end -/
theorem lw_mask (x : Int32) : ∃ k, k < 64 ∧ x &&& 63 = nI k := by
  have e : x = nI x.toBitVec.toNat := by
    apply Int32.toBitVec_inj.1
    show x.toBitVec = BitVec.ofNat 32 x.toBitVec.toNat
    simp
  refine ⟨x.toBitVec.toNat % 64, Nat.mod_lt _ (by omega), ?_⟩
  have h := fa_mask x.toBitVec.toNat 6
  rw [← e] at h
  exact h
theorem lw_end {l : Launch} {p : Program} {e : Env} {s : State} {m : MethodId} {below : List Frame} {meth : Method} {c : Code} {b L : Nat} {xs : Nat → Int32} (hx : p.tables.exec = Jvm.exec) (hb : c.code = code) (hr : meth.sig.returnType = ret) (hX : va_X b 5 xs s s.heap) (hbl : b < s.heap.size) (hlocks : meth.locks = false) : lw_End p l e s m below meth c b (lw_Z below #[Value.ref b] s) := by
  intro H locs ls hl hS
  have hbA : ¬ lw_A s b := Nat.not_le.mpr hbl
  obtain ⟨x1, e1⟩ : ∃ z : Int32, z = 0 + 5 := ⟨_, rfl⟩
  refine lv_iinc (v := x1) (lv' := [(5, .int x1), (0, .ref b)]) hx hb dL_law_3320 hl (k := 0) rfl (by rw [e1]; rfl) (by decide) rfl (fun ls hl => ?_)
  obtain rfl : x1 = 5 := e1.trans (by decide)
  refine lv_goto (tgt := 28) hx hb dL_law_3323 (by decide) ?_
  refine lv_iload hx hb dL_law_28 (lv_at hl 0 rfl) ?_
  refine lv_aload_n hx hb dL_law_30 rfl (lv_at hl 1 rfl) ?_
  refine va_slen hx hb hX hbl hbA hS dL_law_31 ?_
  refine lv_topi (fun x2 e2 => ?_)
  obtain rfl : x2 = 5 := e2
  refine lv_iconst (v := 5) hx hb dL_law_32 (by decide) ?_
  refine lv_isub hx hb dL_law_33 ?_
  refine lv_topi (fun x3 e3 => ?_)
  obtain rfl : x3 = 0 := e3.trans (by decide)
  refine lv_icmp_gt (tgt := 3326) hx hb dL_law_34 (by decide) (fun h4 => ?_) (fun h4 => absurd (by decide) h4)
  refine lv_iconst (v := 1) hx hb dL_law_3326 (by decide) ?_
  refine va_forget (fun q hq => hS.2.2 q hq) ?_
  exact lw_ret (d0 := s.drawn) (Drawn.sameBut.refl s.drawn lw_cs) hx hb hr hlocks dL_law_3327
set_option maxHeartbeats 16000000 in
set_option maxRecDepth 100000 in
theorem whole_start {p : Program} {e : Env} {s : State} {m : MethodId} {below : List Frame} {meth : Method} {c : Code} (l : Launch) (hflags : l.flags = flags0) {b L : Nat} {xs : Nat → Int32} (hL : L ≤ 5) (C0 : lw_At p s m meth c b L xs) : W p l e room_1 s m #[Value.ref b] below meth c s.heap [] 0 0 (lw_Z below #[Value.ref b] s) (entryFrame m ([Value.ref b] : List Value).toArray 9) := by
  obtain ⟨hx, hb, hr, hml, hown, hts, hX, hbl, hlocks, hgv⟩ := id C0
  have hst : l.stackTraces = false := by unfold Launch.stackTraces; rw [hflags]; decide
  have hA : ∀ q : Nat, s.heap.size ≤ q → lw_A s q := fun _ h => h
  have hbA : ¬ lw_A s b := Nat.not_le.mpr hbl
  obtain ⟨D, hK, hE⟩ := ex_start hts hgv
  have hS : va_S (lw_A s) s.heap s.heap [] := va_S.rf
  have hP : va_P D vwCl [] s.heap := fun k q h => by simp at h
  have hD : va_D (lw_A s) [] := ⟨fun i j p q h => by simp at h, fun k q h => by simp at h⟩
  have hl := lv_entry ([.ref b]) (n := 9) (Nat.le_of_ble_eq_true rfl)
  rw [lg_entry_eq]
  generalize (lg_sl ([.ref b]) ++ List.replicate (9 - (lg_sl ([.ref b])).length) Slot.unset).toArray = ls at hl ⊢
  have hl : lv_has ls 9 [(0, .ref b)] := hl
  refine va_new (ci := 13) (fs := [.null, .null, .int 0, .null, .int 0, .null, .int 0, .null, .null, .null, .null, .null, .null, .null]) (C := RX6) (T := TX6) (N := 14) hx hb hts mb_3 tyX6 tyX6_ok hown (hts _ mw_1002) (hts _ mw_720) (hts _ mw_7) hK hP hD hS hA rfl (by decide +kernel) (Nat.le_of_ble_eq_true rfl) (Nat.le_of_ble_eq_true rfl) dL_law_0 (fun q1 H hP hD hS => ?_)
  have hP : va_P D vwCl [(q1, .inr (13, [.null, .null, .int 0, .null, .int 0, .null, .int 0, .null, .null, .null, .null, .null, .null, .null]))] H := hP
  have hD : va_D (lw_A s) [(q1, .inr (13, [.null, .null, .int 0, .null, .int 0, .null, .int 0, .null, .null, .null, .null, .null, .null, .null]))] := hD
  refine W.widen (k := 1) (n := 14) (Nat.le_of_ble_eq_true rfl) (Nat.le_of_ble_eq_true rfl) ?_
  refine lv_dup hx hb dL_law_3 rfl ?_
  refine mc_v (wr := []) (va_runI (As := []) (rest := [.ref q1]) ⟨hx, hb, hml, hown, hts⟩ (c_X6_init l hst D q1 H.size) (cwI 0 hts (goodIn_sub il_c_X6_init (List.all_eq_true.mpr gw_c_X6_init)) rfl rfl rfl (hts _ mw_7) (hts _ mw_1003) (hts _ mw_1004) rfl (by decide +kernel) ⟨Nat.le_of_ble_eq_true rfl, Nat.le_of_ble_eq_true rfl⟩) (pr_S (As := [.ref q1]) hP hD hK hS hA hE [0] [] rfl rfl rfl) rfl rfl hl.1 rfl (lv_room (Nat.le_of_ble_eq_true rfl)) dL_law_4 ⟨Nat.le_of_ble_eq_true rfl, Nat.le_of_ble_eq_true rfl⟩) hP hD hK hS hA [0] [] rfl rfl (by decide) (by decide) (fun u2 H locs w3 hP hD hK hS => ?_)
  have hP : va_P D vwCl [(q1, .inr (13, [.ref (u2.1 0), .ref (u2.1 12), .int 0, .ref (u2.1 14), .int 0, .ref (u2.1 20), .int 0, .ref (u2.1 17), .ref (u2.1 18), .ref (u2.1 21), .ref (u2.1 22), .ref (u2.1 23), .ref (u2.1 24), .ref (u2.1 25)])), (u2.1 0, .inr (11, [.int 25, .ref (u2.1 1), .ref (u2.1 2), .ref (u2.1 3), .ref (u2.1 4), .ref (u2.1 5), .ref (u2.1 6), .ref (u2.1 7), .ref (u2.1 8), .ref (u2.1 9), .ref (u2.1 10), .ref (u2.1 11), .int 0, .int 0])), (u2.1 6, .inl (u2.2.1 5, 144, .inl (fL zL))), (u2.1 10, .inl (u2.2.1 6, 144, .inl (fL zL))), (u2.1 11, .inl (u2.2.1 7, 144, .inl (fL zL))), (u2.1 3, .inl (u2.2.1 0, 144, .inl okF)), (u2.1 5, .inl (u2.2.1 1, 144, .inl okF)), (u2.1 1, .inl (u2.2.1 2, 144, .inl (fun _ => 0))), (u2.1 2, .inl (u2.2.1 3, 144, .inl (fun _ => 0))), (u2.1 4, .inl (u2.2.1 4, 144, .inl (fun _ => 0))), (u2.1 9, .inl (u2.2.1 8, 576, .inl beF)), (u2.1 7, .inl (u2.2.1 13, 144, .inl u2.2.2.2.2.1)), (u2.1 8, .inl (u2.2.1 14, 144, .inl u2.2.2.2.2.2)), (u2.1 12, .inl (u2.2.1 9, 12, .inr (.inr (.inr (.inr u2.2.2.1))))), (u2.1 13, .inr (8, [.int 0, .int 0, .int 0, .int 0, .int 0, .int 0])), (u2.1 14, .inl (u2.2.1 10, 6, .inr (.inr (.inr (.inr u2.2.2.2.1))))), (u2.1 15, .inr (10, [.int 0, .int 0, .ref (u2.1 28), .ref (u2.1 29), .ref (u2.1 16)])), (u2.1 16, .inl (u2.2.1 11, 10, .inl (fun _ => 0))), (u2.1 17, .inr (9, [.int 0, .int 0, .ref (u2.1 30), .ref (u2.1 31), .ref (u2.1 32), .ref (u2.1 33)])), (u2.1 18, .inr (12, [.ref (u2.1 26), .ref (u2.1 19), .ref (u2.1 27)])), (u2.1 19, .inl (u2.2.1 12, 169, .inl (fun _ => 0)))] H := hP
  have hD : va_D (lw_A s) [(q1, .inr (13, [.ref (u2.1 0), .ref (u2.1 12), .int 0, .ref (u2.1 14), .int 0, .ref (u2.1 20), .int 0, .ref (u2.1 17), .ref (u2.1 18), .ref (u2.1 21), .ref (u2.1 22), .ref (u2.1 23), .ref (u2.1 24), .ref (u2.1 25)])), (u2.1 0, .inr (11, [.int 25, .ref (u2.1 1), .ref (u2.1 2), .ref (u2.1 3), .ref (u2.1 4), .ref (u2.1 5), .ref (u2.1 6), .ref (u2.1 7), .ref (u2.1 8), .ref (u2.1 9), .ref (u2.1 10), .ref (u2.1 11), .int 0, .int 0])), (u2.1 6, .inl (u2.2.1 5, 144, .inl (fL zL))), (u2.1 10, .inl (u2.2.1 6, 144, .inl (fL zL))), (u2.1 11, .inl (u2.2.1 7, 144, .inl (fL zL))), (u2.1 3, .inl (u2.2.1 0, 144, .inl okF)), (u2.1 5, .inl (u2.2.1 1, 144, .inl okF)), (u2.1 1, .inl (u2.2.1 2, 144, .inl (fun _ => 0))), (u2.1 2, .inl (u2.2.1 3, 144, .inl (fun _ => 0))), (u2.1 4, .inl (u2.2.1 4, 144, .inl (fun _ => 0))), (u2.1 9, .inl (u2.2.1 8, 576, .inl beF)), (u2.1 7, .inl (u2.2.1 13, 144, .inl u2.2.2.2.2.1)), (u2.1 8, .inl (u2.2.1 14, 144, .inl u2.2.2.2.2.2)), (u2.1 12, .inl (u2.2.1 9, 12, .inr (.inr (.inr (.inr u2.2.2.1))))), (u2.1 13, .inr (8, [.int 0, .int 0, .int 0, .int 0, .int 0, .int 0])), (u2.1 14, .inl (u2.2.1 10, 6, .inr (.inr (.inr (.inr u2.2.2.2.1))))), (u2.1 15, .inr (10, [.int 0, .int 0, .ref (u2.1 28), .ref (u2.1 29), .ref (u2.1 16)])), (u2.1 16, .inl (u2.2.1 11, 10, .inl (fun _ => 0))), (u2.1 17, .inr (9, [.int 0, .int 0, .ref (u2.1 30), .ref (u2.1 31), .ref (u2.1 32), .ref (u2.1 33)])), (u2.1 18, .inr (12, [.ref (u2.1 26), .ref (u2.1 19), .ref (u2.1 27)])), (u2.1 19, .inl (u2.2.1 12, 169, .inl (fun _ => 0)))] := hD
  have hK : va_K D vwCl [(u2.2.1 0, .char), (u2.2.1 1, .char), (u2.2.1 2, .int), (u2.2.1 3, .int), (u2.2.1 4, .int), (u2.2.1 5, .int), (u2.2.1 6, .int), (u2.2.1 7, .boolean), (u2.2.1 8, .int), (u2.2.1 9, .object "ControlWood$Post"), (u2.2.1 10, .object "ControlWood$Route"), (u2.2.1 11, .boolean), (u2.2.1 12, .int), (u2.2.1 13, .int), (u2.2.1 14, .int)] s := hK
  have w_ctor := w3
  refine lv_astore_n (lv' := [(1, .ref q1), (0, .ref b)]) hx hb dL_law_7 rfl hl (by decide) rfl (fun ls hl => ?_)
  refine va_new (ci := 16) (fs := [.int 0, .int 0, .int 0, .null, .null, .null, .null, .null, .null, .null, .null, .int 0, .null]) (C := RX9) (T := TX9) (N := 13) hx hb hts mb_11 tyX9 tyX9_ok hown (hts _ mw_1005) (hts _ mw_722) (hts _ mw_481) hK hP hD hS hA rfl (by decide +kernel) (Nat.le_of_ble_eq_true rfl) (Nat.le_of_ble_eq_true rfl) dL_law_8 (fun q5 H hP hD hS => ?_)
  have hP : va_P D vwCl [(q1, .inr (13, [.ref (u2.1 0), .ref (u2.1 12), .int 0, .ref (u2.1 14), .int 0, .ref (u2.1 20), .int 0, .ref (u2.1 17), .ref (u2.1 18), .ref (u2.1 21), .ref (u2.1 22), .ref (u2.1 23), .ref (u2.1 24), .ref (u2.1 25)])), (u2.1 0, .inr (11, [.int 25, .ref (u2.1 1), .ref (u2.1 2), .ref (u2.1 3), .ref (u2.1 4), .ref (u2.1 5), .ref (u2.1 6), .ref (u2.1 7), .ref (u2.1 8), .ref (u2.1 9), .ref (u2.1 10), .ref (u2.1 11), .int 0, .int 0])), (u2.1 6, .inl (u2.2.1 5, 144, .inl (fL zL))), (u2.1 10, .inl (u2.2.1 6, 144, .inl (fL zL))), (u2.1 11, .inl (u2.2.1 7, 144, .inl (fL zL))), (u2.1 3, .inl (u2.2.1 0, 144, .inl okF)), (u2.1 5, .inl (u2.2.1 1, 144, .inl okF)), (u2.1 1, .inl (u2.2.1 2, 144, .inl (fun _ => 0))), (u2.1 2, .inl (u2.2.1 3, 144, .inl (fun _ => 0))), (u2.1 4, .inl (u2.2.1 4, 144, .inl (fun _ => 0))), (u2.1 9, .inl (u2.2.1 8, 576, .inl beF)), (u2.1 7, .inl (u2.2.1 13, 144, .inl u2.2.2.2.2.1)), (u2.1 8, .inl (u2.2.1 14, 144, .inl u2.2.2.2.2.2)), (u2.1 12, .inl (u2.2.1 9, 12, .inr (.inr (.inr (.inr u2.2.2.1))))), (u2.1 13, .inr (8, [.int 0, .int 0, .int 0, .int 0, .int 0, .int 0])), (u2.1 14, .inl (u2.2.1 10, 6, .inr (.inr (.inr (.inr u2.2.2.2.1))))), (u2.1 15, .inr (10, [.int 0, .int 0, .ref (u2.1 28), .ref (u2.1 29), .ref (u2.1 16)])), (u2.1 16, .inl (u2.2.1 11, 10, .inl (fun _ => 0))), (u2.1 17, .inr (9, [.int 0, .int 0, .ref (u2.1 30), .ref (u2.1 31), .ref (u2.1 32), .ref (u2.1 33)])), (u2.1 18, .inr (12, [.ref (u2.1 26), .ref (u2.1 19), .ref (u2.1 27)])), (u2.1 19, .inl (u2.2.1 12, 169, .inl (fun _ => 0))), (q5, .inr (16, [.int 0, .int 0, .int 0, .null, .null, .null, .null, .null, .null, .null, .null, .int 0, .null]))] H := hP
  have hD : va_D (lw_A s) [(q1, .inr (13, [.ref (u2.1 0), .ref (u2.1 12), .int 0, .ref (u2.1 14), .int 0, .ref (u2.1 20), .int 0, .ref (u2.1 17), .ref (u2.1 18), .ref (u2.1 21), .ref (u2.1 22), .ref (u2.1 23), .ref (u2.1 24), .ref (u2.1 25)])), (u2.1 0, .inr (11, [.int 25, .ref (u2.1 1), .ref (u2.1 2), .ref (u2.1 3), .ref (u2.1 4), .ref (u2.1 5), .ref (u2.1 6), .ref (u2.1 7), .ref (u2.1 8), .ref (u2.1 9), .ref (u2.1 10), .ref (u2.1 11), .int 0, .int 0])), (u2.1 6, .inl (u2.2.1 5, 144, .inl (fL zL))), (u2.1 10, .inl (u2.2.1 6, 144, .inl (fL zL))), (u2.1 11, .inl (u2.2.1 7, 144, .inl (fL zL))), (u2.1 3, .inl (u2.2.1 0, 144, .inl okF)), (u2.1 5, .inl (u2.2.1 1, 144, .inl okF)), (u2.1 1, .inl (u2.2.1 2, 144, .inl (fun _ => 0))), (u2.1 2, .inl (u2.2.1 3, 144, .inl (fun _ => 0))), (u2.1 4, .inl (u2.2.1 4, 144, .inl (fun _ => 0))), (u2.1 9, .inl (u2.2.1 8, 576, .inl beF)), (u2.1 7, .inl (u2.2.1 13, 144, .inl u2.2.2.2.2.1)), (u2.1 8, .inl (u2.2.1 14, 144, .inl u2.2.2.2.2.2)), (u2.1 12, .inl (u2.2.1 9, 12, .inr (.inr (.inr (.inr u2.2.2.1))))), (u2.1 13, .inr (8, [.int 0, .int 0, .int 0, .int 0, .int 0, .int 0])), (u2.1 14, .inl (u2.2.1 10, 6, .inr (.inr (.inr (.inr u2.2.2.2.1))))), (u2.1 15, .inr (10, [.int 0, .int 0, .ref (u2.1 28), .ref (u2.1 29), .ref (u2.1 16)])), (u2.1 16, .inl (u2.2.1 11, 10, .inl (fun _ => 0))), (u2.1 17, .inr (9, [.int 0, .int 0, .ref (u2.1 30), .ref (u2.1 31), .ref (u2.1 32), .ref (u2.1 33)])), (u2.1 18, .inr (12, [.ref (u2.1 26), .ref (u2.1 19), .ref (u2.1 27)])), (u2.1 19, .inl (u2.2.1 12, 169, .inl (fun _ => 0))), (q5, .inr (16, [.int 0, .int 0, .int 0, .null, .null, .null, .null, .null, .null, .null, .null, .int 0, .null]))] := hD
  refine W.widen (k := 151) (n := 54965) (Nat.le_of_ble_eq_true rfl) (Nat.le_of_ble_eq_true rfl) ?_
  refine lv_dup hx hb dL_law_11 rfl ?_
  refine mc_v (wr := [(q1, .inr (13, [.ref (u2.1 0), .ref (u2.1 12), .int 0, .ref (u2.1 14), .int 0, .ref (u2.1 20), .int 0, .ref (u2.1 17), .ref (u2.1 18), .ref (u2.1 21), .ref (u2.1 22), .ref (u2.1 23), .ref (u2.1 24), .ref (u2.1 25)])), (u2.1 0, .inr (11, [.int 25, .ref (u2.1 1), .ref (u2.1 2), .ref (u2.1 3), .ref (u2.1 4), .ref (u2.1 5), .ref (u2.1 6), .ref (u2.1 7), .ref (u2.1 8), .ref (u2.1 9), .ref (u2.1 10), .ref (u2.1 11), .int 0, .int 0])), (u2.1 6, .inl (u2.2.1 5, 144, .inl (fL zL))), (u2.1 10, .inl (u2.2.1 6, 144, .inl (fL zL))), (u2.1 11, .inl (u2.2.1 7, 144, .inl (fL zL))), (u2.1 3, .inl (u2.2.1 0, 144, .inl okF)), (u2.1 5, .inl (u2.2.1 1, 144, .inl okF)), (u2.1 1, .inl (u2.2.1 2, 144, .inl (fun _ => 0))), (u2.1 2, .inl (u2.2.1 3, 144, .inl (fun _ => 0))), (u2.1 4, .inl (u2.2.1 4, 144, .inl (fun _ => 0))), (u2.1 9, .inl (u2.2.1 8, 576, .inl beF)), (u2.1 7, .inl (u2.2.1 13, 144, .inl u2.2.2.2.2.1)), (u2.1 8, .inl (u2.2.1 14, 144, .inl u2.2.2.2.2.2)), (u2.1 12, .inl (u2.2.1 9, 12, .inr (.inr (.inr (.inr u2.2.2.1))))), (u2.1 13, .inr (8, [.int 0, .int 0, .int 0, .int 0, .int 0, .int 0])), (u2.1 14, .inl (u2.2.1 10, 6, .inr (.inr (.inr (.inr u2.2.2.2.1))))), (u2.1 15, .inr (10, [.int 0, .int 0, .ref (u2.1 28), .ref (u2.1 29), .ref (u2.1 16)])), (u2.1 16, .inl (u2.2.1 11, 10, .inl (fun _ => 0))), (u2.1 17, .inr (9, [.int 0, .int 0, .ref (u2.1 30), .ref (u2.1 31), .ref (u2.1 32), .ref (u2.1 33)])), (u2.1 18, .inr (12, [.ref (u2.1 26), .ref (u2.1 19), .ref (u2.1 27)])), (u2.1 19, .inl (u2.2.1 12, 169, .inl (fun _ => 0)))]) (va_runI (As := []) (rest := [.ref q5]) ⟨hx, hb, hml, hown, hts⟩ (c_X9_init l hst D q5 H.size) (cwI 0 hts (goodIn_sub il_c_X9_init (List.all_eq_true.mpr gw_c_X9_init)) rfl rfl rfl (hts _ mw_481) (hts _ mw_1006) (hts _ mw_1007) rfl (by decide +kernel) ⟨Nat.le_of_ble_eq_true rfl, Nat.le_of_ble_eq_true rfl⟩) (pr_S (As := [.ref q5]) hP hD hK hS hA hE [21] [] rfl rfl rfl) rfl rfl hl.1 rfl (lv_room (Nat.le_of_ble_eq_true rfl)) dL_law_12 ⟨Nat.le_of_ble_eq_true rfl, Nat.le_of_ble_eq_true rfl⟩) hP hD hK hS hA [21] [0, 1, 2, 3, 4, 5, 6, 7, 8, 9, 10, 11, 12, 13, 14, 15, 16, 17, 18, 19, 20] rfl rfl (by decide) (by decide) (fun u6 H locs w7 hP hD hK hS => ?_)
  have hP : va_P D vwCl [(q1, .inr (13, [.ref (u2.1 0), .ref (u2.1 12), .int 0, .ref (u2.1 14), .int 0, .ref (u2.1 20), .int 0, .ref (u2.1 17), .ref (u2.1 18), .ref (u2.1 21), .ref (u2.1 22), .ref (u2.1 23), .ref (u2.1 24), .ref (u2.1 25)])), (u2.1 0, .inr (11, [.int 25, .ref (u2.1 1), .ref (u2.1 2), .ref (u2.1 3), .ref (u2.1 4), .ref (u2.1 5), .ref (u2.1 6), .ref (u2.1 7), .ref (u2.1 8), .ref (u2.1 9), .ref (u2.1 10), .ref (u2.1 11), .int 0, .int 0])), (u2.1 6, .inl (u2.2.1 5, 144, .inl (fL zL))), (u2.1 10, .inl (u2.2.1 6, 144, .inl (fL zL))), (u2.1 11, .inl (u2.2.1 7, 144, .inl (fL zL))), (u2.1 3, .inl (u2.2.1 0, 144, .inl okF)), (u2.1 5, .inl (u2.2.1 1, 144, .inl okF)), (u2.1 1, .inl (u2.2.1 2, 144, .inl (fun _ => 0))), (u2.1 2, .inl (u2.2.1 3, 144, .inl (fun _ => 0))), (u2.1 4, .inl (u2.2.1 4, 144, .inl (fun _ => 0))), (u2.1 9, .inl (u2.2.1 8, 576, .inl beF)), (u2.1 7, .inl (u2.2.1 13, 144, .inl u2.2.2.2.2.1)), (u2.1 8, .inl (u2.2.1 14, 144, .inl u2.2.2.2.2.2)), (u2.1 12, .inl (u2.2.1 9, 12, .inr (.inr (.inr (.inr u2.2.2.1))))), (u2.1 13, .inr (8, [.int 0, .int 0, .int 0, .int 0, .int 0, .int 0])), (u2.1 14, .inl (u2.2.1 10, 6, .inr (.inr (.inr (.inr u2.2.2.2.1))))), (u2.1 15, .inr (10, [.int 0, .int 0, .ref (u2.1 28), .ref (u2.1 29), .ref (u2.1 16)])), (u2.1 16, .inl (u2.2.1 11, 10, .inl (fun _ => 0))), (u2.1 17, .inr (9, [.int 0, .int 0, .ref (u2.1 30), .ref (u2.1 31), .ref (u2.1 32), .ref (u2.1 33)])), (u2.1 18, .inr (12, [.ref (u2.1 26), .ref (u2.1 19), .ref (u2.1 27)])), (u2.1 19, .inl (u2.2.1 12, 169, .inl (fun _ => 0))), (q5, .inr (16, [.int 5, .int 5, .int 0, .ref (u6.1 0), .ref (u6.1 1), .ref (u6.1 2), .ref (u6.1 3), .ref (u6.1 4), .ref (u6.1 5), .ref (u6.1 6), .ref (u6.1 7), .int (-1), .ref (u6.1 8)])), (u6.1 0, .inl (u6.2 0, 25, .inl (fun _ => 0))), (u6.1 1, .inl (u6.2 1, 25, .inl (fun _ => 0))), (u6.1 2, .inl (u6.2 2, 25, .inl (fun _ => 0))), (u6.1 3, .inl (u6.2 3, 25, .inl fK5)), (u6.1 4, .inl (u6.2 4, 25, .inl fK5)), (u6.1 5, .inr (5, [.int 1, .ref (D.1 1000), .int 0])), (u6.1 6, .inr (5, [.int 1, .ref (D.1 1000), .int 0])), (u6.1 7, .inr (5, [.int 1, .ref (D.1 1000), .int 0])), (u6.1 8, .inr (5, [.int 1, .ref (D.1 1000), .int 0]))] H := hP
  have hD : va_D (lw_A s) [(q1, .inr (13, [.ref (u2.1 0), .ref (u2.1 12), .int 0, .ref (u2.1 14), .int 0, .ref (u2.1 20), .int 0, .ref (u2.1 17), .ref (u2.1 18), .ref (u2.1 21), .ref (u2.1 22), .ref (u2.1 23), .ref (u2.1 24), .ref (u2.1 25)])), (u2.1 0, .inr (11, [.int 25, .ref (u2.1 1), .ref (u2.1 2), .ref (u2.1 3), .ref (u2.1 4), .ref (u2.1 5), .ref (u2.1 6), .ref (u2.1 7), .ref (u2.1 8), .ref (u2.1 9), .ref (u2.1 10), .ref (u2.1 11), .int 0, .int 0])), (u2.1 6, .inl (u2.2.1 5, 144, .inl (fL zL))), (u2.1 10, .inl (u2.2.1 6, 144, .inl (fL zL))), (u2.1 11, .inl (u2.2.1 7, 144, .inl (fL zL))), (u2.1 3, .inl (u2.2.1 0, 144, .inl okF)), (u2.1 5, .inl (u2.2.1 1, 144, .inl okF)), (u2.1 1, .inl (u2.2.1 2, 144, .inl (fun _ => 0))), (u2.1 2, .inl (u2.2.1 3, 144, .inl (fun _ => 0))), (u2.1 4, .inl (u2.2.1 4, 144, .inl (fun _ => 0))), (u2.1 9, .inl (u2.2.1 8, 576, .inl beF)), (u2.1 7, .inl (u2.2.1 13, 144, .inl u2.2.2.2.2.1)), (u2.1 8, .inl (u2.2.1 14, 144, .inl u2.2.2.2.2.2)), (u2.1 12, .inl (u2.2.1 9, 12, .inr (.inr (.inr (.inr u2.2.2.1))))), (u2.1 13, .inr (8, [.int 0, .int 0, .int 0, .int 0, .int 0, .int 0])), (u2.1 14, .inl (u2.2.1 10, 6, .inr (.inr (.inr (.inr u2.2.2.2.1))))), (u2.1 15, .inr (10, [.int 0, .int 0, .ref (u2.1 28), .ref (u2.1 29), .ref (u2.1 16)])), (u2.1 16, .inl (u2.2.1 11, 10, .inl (fun _ => 0))), (u2.1 17, .inr (9, [.int 0, .int 0, .ref (u2.1 30), .ref (u2.1 31), .ref (u2.1 32), .ref (u2.1 33)])), (u2.1 18, .inr (12, [.ref (u2.1 26), .ref (u2.1 19), .ref (u2.1 27)])), (u2.1 19, .inl (u2.2.1 12, 169, .inl (fun _ => 0))), (q5, .inr (16, [.int 5, .int 5, .int 0, .ref (u6.1 0), .ref (u6.1 1), .ref (u6.1 2), .ref (u6.1 3), .ref (u6.1 4), .ref (u6.1 5), .ref (u6.1 6), .ref (u6.1 7), .int (-1), .ref (u6.1 8)])), (u6.1 0, .inl (u6.2 0, 25, .inl (fun _ => 0))), (u6.1 1, .inl (u6.2 1, 25, .inl (fun _ => 0))), (u6.1 2, .inl (u6.2 2, 25, .inl (fun _ => 0))), (u6.1 3, .inl (u6.2 3, 25, .inl fK5)), (u6.1 4, .inl (u6.2 4, 25, .inl fK5)), (u6.1 5, .inr (5, [.int 1, .ref (D.1 1000), .int 0])), (u6.1 6, .inr (5, [.int 1, .ref (D.1 1000), .int 0])), (u6.1 7, .inr (5, [.int 1, .ref (D.1 1000), .int 0])), (u6.1 8, .inr (5, [.int 1, .ref (D.1 1000), .int 0]))] := hD
  have hK : va_K D vwCl [(u2.2.1 0, .char), (u2.2.1 1, .char), (u2.2.1 2, .int), (u2.2.1 3, .int), (u2.2.1 4, .int), (u2.2.1 5, .int), (u2.2.1 6, .int), (u2.2.1 7, .boolean), (u2.2.1 8, .int), (u2.2.1 9, .object "ControlWood$Post"), (u2.2.1 10, .object "ControlWood$Route"), (u2.2.1 11, .boolean), (u2.2.1 12, .int), (u2.2.1 13, .int), (u2.2.1 14, .int), (u6.2 0, .int), (u6.2 1, .int), (u6.2 2, .int), (u6.2 3, .char), (u6.2 4, .char)] s := hK
  refine lv_astore_n (lv' := [(2, .ref q5), (1, .ref q1), (0, .ref b)]) hx hb dL_law_15 rfl hl (by decide) rfl (fun ls hl => ?_)
  refine lv_iconst (v := 1) hx hb dL_law_16 (by decide) ?_
  refine va_newa (atype := .long) (ty := .long) (a0 := (1, .inr (.inl (fun _ => 0)))) hx hb (hts _ mw_712) rfl hK hP hD hS hA (N' := 1) (fun _ => rfl) (by decide) (by decide) (Nat.le_of_ble_eq_true rfl) (Nat.le_of_ble_eq_true rfl) (Nat.le_of_ble_eq_true rfl) dL_law_17 (fun q9 cy10 H hK hP hD hS => ?_)
  have hK : va_K D vwCl [(u2.2.1 0, .char), (u2.2.1 1, .char), (u2.2.1 2, .int), (u2.2.1 3, .int), (u2.2.1 4, .int), (u2.2.1 5, .int), (u2.2.1 6, .int), (u2.2.1 7, .boolean), (u2.2.1 8, .int), (u2.2.1 9, .object "ControlWood$Post"), (u2.2.1 10, .object "ControlWood$Route"), (u2.2.1 11, .boolean), (u2.2.1 12, .int), (u2.2.1 13, .int), (u2.2.1 14, .int), (u6.2 0, .int), (u6.2 1, .int), (u6.2 2, .int), (u6.2 3, .char), (u6.2 4, .char), (cy10, .long)] s := hK
  have hP : va_P D vwCl [(q1, .inr (13, [.ref (u2.1 0), .ref (u2.1 12), .int 0, .ref (u2.1 14), .int 0, .ref (u2.1 20), .int 0, .ref (u2.1 17), .ref (u2.1 18), .ref (u2.1 21), .ref (u2.1 22), .ref (u2.1 23), .ref (u2.1 24), .ref (u2.1 25)])), (u2.1 0, .inr (11, [.int 25, .ref (u2.1 1), .ref (u2.1 2), .ref (u2.1 3), .ref (u2.1 4), .ref (u2.1 5), .ref (u2.1 6), .ref (u2.1 7), .ref (u2.1 8), .ref (u2.1 9), .ref (u2.1 10), .ref (u2.1 11), .int 0, .int 0])), (u2.1 6, .inl (u2.2.1 5, 144, .inl (fL zL))), (u2.1 10, .inl (u2.2.1 6, 144, .inl (fL zL))), (u2.1 11, .inl (u2.2.1 7, 144, .inl (fL zL))), (u2.1 3, .inl (u2.2.1 0, 144, .inl okF)), (u2.1 5, .inl (u2.2.1 1, 144, .inl okF)), (u2.1 1, .inl (u2.2.1 2, 144, .inl (fun _ => 0))), (u2.1 2, .inl (u2.2.1 3, 144, .inl (fun _ => 0))), (u2.1 4, .inl (u2.2.1 4, 144, .inl (fun _ => 0))), (u2.1 9, .inl (u2.2.1 8, 576, .inl beF)), (u2.1 7, .inl (u2.2.1 13, 144, .inl u2.2.2.2.2.1)), (u2.1 8, .inl (u2.2.1 14, 144, .inl u2.2.2.2.2.2)), (u2.1 12, .inl (u2.2.1 9, 12, .inr (.inr (.inr (.inr u2.2.2.1))))), (u2.1 13, .inr (8, [.int 0, .int 0, .int 0, .int 0, .int 0, .int 0])), (u2.1 14, .inl (u2.2.1 10, 6, .inr (.inr (.inr (.inr u2.2.2.2.1))))), (u2.1 15, .inr (10, [.int 0, .int 0, .ref (u2.1 28), .ref (u2.1 29), .ref (u2.1 16)])), (u2.1 16, .inl (u2.2.1 11, 10, .inl (fun _ => 0))), (u2.1 17, .inr (9, [.int 0, .int 0, .ref (u2.1 30), .ref (u2.1 31), .ref (u2.1 32), .ref (u2.1 33)])), (u2.1 18, .inr (12, [.ref (u2.1 26), .ref (u2.1 19), .ref (u2.1 27)])), (u2.1 19, .inl (u2.2.1 12, 169, .inl (fun _ => 0))), (q5, .inr (16, [.int 5, .int 5, .int 0, .ref (u6.1 0), .ref (u6.1 1), .ref (u6.1 2), .ref (u6.1 3), .ref (u6.1 4), .ref (u6.1 5), .ref (u6.1 6), .ref (u6.1 7), .int (-1), .ref (u6.1 8)])), (u6.1 0, .inl (u6.2 0, 25, .inl (fun _ => 0))), (u6.1 1, .inl (u6.2 1, 25, .inl (fun _ => 0))), (u6.1 2, .inl (u6.2 2, 25, .inl (fun _ => 0))), (u6.1 3, .inl (u6.2 3, 25, .inl fK5)), (u6.1 4, .inl (u6.2 4, 25, .inl fK5)), (u6.1 5, .inr (5, [.int 1, .ref (D.1 1000), .int 0])), (u6.1 6, .inr (5, [.int 1, .ref (D.1 1000), .int 0])), (u6.1 7, .inr (5, [.int 1, .ref (D.1 1000), .int 0])), (u6.1 8, .inr (5, [.int 1, .ref (D.1 1000), .int 0])), (q9, .inl (cy10, 1, .inr (.inl (fun _ => 0))))] H := hP
  have hD : va_D (lw_A s) [(q1, .inr (13, [.ref (u2.1 0), .ref (u2.1 12), .int 0, .ref (u2.1 14), .int 0, .ref (u2.1 20), .int 0, .ref (u2.1 17), .ref (u2.1 18), .ref (u2.1 21), .ref (u2.1 22), .ref (u2.1 23), .ref (u2.1 24), .ref (u2.1 25)])), (u2.1 0, .inr (11, [.int 25, .ref (u2.1 1), .ref (u2.1 2), .ref (u2.1 3), .ref (u2.1 4), .ref (u2.1 5), .ref (u2.1 6), .ref (u2.1 7), .ref (u2.1 8), .ref (u2.1 9), .ref (u2.1 10), .ref (u2.1 11), .int 0, .int 0])), (u2.1 6, .inl (u2.2.1 5, 144, .inl (fL zL))), (u2.1 10, .inl (u2.2.1 6, 144, .inl (fL zL))), (u2.1 11, .inl (u2.2.1 7, 144, .inl (fL zL))), (u2.1 3, .inl (u2.2.1 0, 144, .inl okF)), (u2.1 5, .inl (u2.2.1 1, 144, .inl okF)), (u2.1 1, .inl (u2.2.1 2, 144, .inl (fun _ => 0))), (u2.1 2, .inl (u2.2.1 3, 144, .inl (fun _ => 0))), (u2.1 4, .inl (u2.2.1 4, 144, .inl (fun _ => 0))), (u2.1 9, .inl (u2.2.1 8, 576, .inl beF)), (u2.1 7, .inl (u2.2.1 13, 144, .inl u2.2.2.2.2.1)), (u2.1 8, .inl (u2.2.1 14, 144, .inl u2.2.2.2.2.2)), (u2.1 12, .inl (u2.2.1 9, 12, .inr (.inr (.inr (.inr u2.2.2.1))))), (u2.1 13, .inr (8, [.int 0, .int 0, .int 0, .int 0, .int 0, .int 0])), (u2.1 14, .inl (u2.2.1 10, 6, .inr (.inr (.inr (.inr u2.2.2.2.1))))), (u2.1 15, .inr (10, [.int 0, .int 0, .ref (u2.1 28), .ref (u2.1 29), .ref (u2.1 16)])), (u2.1 16, .inl (u2.2.1 11, 10, .inl (fun _ => 0))), (u2.1 17, .inr (9, [.int 0, .int 0, .ref (u2.1 30), .ref (u2.1 31), .ref (u2.1 32), .ref (u2.1 33)])), (u2.1 18, .inr (12, [.ref (u2.1 26), .ref (u2.1 19), .ref (u2.1 27)])), (u2.1 19, .inl (u2.2.1 12, 169, .inl (fun _ => 0))), (q5, .inr (16, [.int 5, .int 5, .int 0, .ref (u6.1 0), .ref (u6.1 1), .ref (u6.1 2), .ref (u6.1 3), .ref (u6.1 4), .ref (u6.1 5), .ref (u6.1 6), .ref (u6.1 7), .int (-1), .ref (u6.1 8)])), (u6.1 0, .inl (u6.2 0, 25, .inl (fun _ => 0))), (u6.1 1, .inl (u6.2 1, 25, .inl (fun _ => 0))), (u6.1 2, .inl (u6.2 2, 25, .inl (fun _ => 0))), (u6.1 3, .inl (u6.2 3, 25, .inl fK5)), (u6.1 4, .inl (u6.2 4, 25, .inl fK5)), (u6.1 5, .inr (5, [.int 1, .ref (D.1 1000), .int 0])), (u6.1 6, .inr (5, [.int 1, .ref (D.1 1000), .int 0])), (u6.1 7, .inr (5, [.int 1, .ref (D.1 1000), .int 0])), (u6.1 8, .inr (5, [.int 1, .ref (D.1 1000), .int 0])), (q9, .inl (cy10, 1, .inr (.inl (fun _ => 0))))] := hD
  refine W.widen (k := 166) (n := 55823) (Nat.le_of_ble_eq_true rfl) (Nat.le_of_ble_eq_true rfl) ?_
  refine lv_astore_n (lv' := [(3, .ref q9), (2, .ref q5), (1, .ref q1), (0, .ref b)]) hx hb dL_law_19 rfl hl (by decide) rfl (fun ls hl => ?_)
  refine lv_iconst (v := 1) hx hb dL_law_20 (by decide) ?_
  refine va_newa (atype := .double) (ty := .double) (a0 := (1, .inr (.inr (.inr (.inl (fun _ => 0)))))) hx hb (hts _ mw_1008) rfl hK hP hD hS hA (N' := 1) (fun _ => rfl) (by decide) (by decide) (Nat.le_of_ble_eq_true rfl) (Nat.le_of_ble_eq_true rfl) (Nat.le_of_ble_eq_true rfl) dL_law_21 (fun q11 cy12 H hK hP hD hS => ?_)
  have hK : va_K D vwCl [(u2.2.1 0, .char), (u2.2.1 1, .char), (u2.2.1 2, .int), (u2.2.1 3, .int), (u2.2.1 4, .int), (u2.2.1 5, .int), (u2.2.1 6, .int), (u2.2.1 7, .boolean), (u2.2.1 8, .int), (u2.2.1 9, .object "ControlWood$Post"), (u2.2.1 10, .object "ControlWood$Route"), (u2.2.1 11, .boolean), (u2.2.1 12, .int), (u2.2.1 13, .int), (u2.2.1 14, .int), (u6.2 0, .int), (u6.2 1, .int), (u6.2 2, .int), (u6.2 3, .char), (u6.2 4, .char), (cy10, .long), (cy12, .double)] s := hK
  have hP : va_P D vwCl [(q1, .inr (13, [.ref (u2.1 0), .ref (u2.1 12), .int 0, .ref (u2.1 14), .int 0, .ref (u2.1 20), .int 0, .ref (u2.1 17), .ref (u2.1 18), .ref (u2.1 21), .ref (u2.1 22), .ref (u2.1 23), .ref (u2.1 24), .ref (u2.1 25)])), (u2.1 0, .inr (11, [.int 25, .ref (u2.1 1), .ref (u2.1 2), .ref (u2.1 3), .ref (u2.1 4), .ref (u2.1 5), .ref (u2.1 6), .ref (u2.1 7), .ref (u2.1 8), .ref (u2.1 9), .ref (u2.1 10), .ref (u2.1 11), .int 0, .int 0])), (u2.1 6, .inl (u2.2.1 5, 144, .inl (fL zL))), (u2.1 10, .inl (u2.2.1 6, 144, .inl (fL zL))), (u2.1 11, .inl (u2.2.1 7, 144, .inl (fL zL))), (u2.1 3, .inl (u2.2.1 0, 144, .inl okF)), (u2.1 5, .inl (u2.2.1 1, 144, .inl okF)), (u2.1 1, .inl (u2.2.1 2, 144, .inl (fun _ => 0))), (u2.1 2, .inl (u2.2.1 3, 144, .inl (fun _ => 0))), (u2.1 4, .inl (u2.2.1 4, 144, .inl (fun _ => 0))), (u2.1 9, .inl (u2.2.1 8, 576, .inl beF)), (u2.1 7, .inl (u2.2.1 13, 144, .inl u2.2.2.2.2.1)), (u2.1 8, .inl (u2.2.1 14, 144, .inl u2.2.2.2.2.2)), (u2.1 12, .inl (u2.2.1 9, 12, .inr (.inr (.inr (.inr u2.2.2.1))))), (u2.1 13, .inr (8, [.int 0, .int 0, .int 0, .int 0, .int 0, .int 0])), (u2.1 14, .inl (u2.2.1 10, 6, .inr (.inr (.inr (.inr u2.2.2.2.1))))), (u2.1 15, .inr (10, [.int 0, .int 0, .ref (u2.1 28), .ref (u2.1 29), .ref (u2.1 16)])), (u2.1 16, .inl (u2.2.1 11, 10, .inl (fun _ => 0))), (u2.1 17, .inr (9, [.int 0, .int 0, .ref (u2.1 30), .ref (u2.1 31), .ref (u2.1 32), .ref (u2.1 33)])), (u2.1 18, .inr (12, [.ref (u2.1 26), .ref (u2.1 19), .ref (u2.1 27)])), (u2.1 19, .inl (u2.2.1 12, 169, .inl (fun _ => 0))), (q5, .inr (16, [.int 5, .int 5, .int 0, .ref (u6.1 0), .ref (u6.1 1), .ref (u6.1 2), .ref (u6.1 3), .ref (u6.1 4), .ref (u6.1 5), .ref (u6.1 6), .ref (u6.1 7), .int (-1), .ref (u6.1 8)])), (u6.1 0, .inl (u6.2 0, 25, .inl (fun _ => 0))), (u6.1 1, .inl (u6.2 1, 25, .inl (fun _ => 0))), (u6.1 2, .inl (u6.2 2, 25, .inl (fun _ => 0))), (u6.1 3, .inl (u6.2 3, 25, .inl fK5)), (u6.1 4, .inl (u6.2 4, 25, .inl fK5)), (u6.1 5, .inr (5, [.int 1, .ref (D.1 1000), .int 0])), (u6.1 6, .inr (5, [.int 1, .ref (D.1 1000), .int 0])), (u6.1 7, .inr (5, [.int 1, .ref (D.1 1000), .int 0])), (u6.1 8, .inr (5, [.int 1, .ref (D.1 1000), .int 0])), (q9, .inl (cy10, 1, .inr (.inl (fun _ => 0)))), (q11, .inl (cy12, 1, .inr (.inr (.inr (.inl (fun _ => 0))))))] H := hP
  have hD : va_D (lw_A s) [(q1, .inr (13, [.ref (u2.1 0), .ref (u2.1 12), .int 0, .ref (u2.1 14), .int 0, .ref (u2.1 20), .int 0, .ref (u2.1 17), .ref (u2.1 18), .ref (u2.1 21), .ref (u2.1 22), .ref (u2.1 23), .ref (u2.1 24), .ref (u2.1 25)])), (u2.1 0, .inr (11, [.int 25, .ref (u2.1 1), .ref (u2.1 2), .ref (u2.1 3), .ref (u2.1 4), .ref (u2.1 5), .ref (u2.1 6), .ref (u2.1 7), .ref (u2.1 8), .ref (u2.1 9), .ref (u2.1 10), .ref (u2.1 11), .int 0, .int 0])), (u2.1 6, .inl (u2.2.1 5, 144, .inl (fL zL))), (u2.1 10, .inl (u2.2.1 6, 144, .inl (fL zL))), (u2.1 11, .inl (u2.2.1 7, 144, .inl (fL zL))), (u2.1 3, .inl (u2.2.1 0, 144, .inl okF)), (u2.1 5, .inl (u2.2.1 1, 144, .inl okF)), (u2.1 1, .inl (u2.2.1 2, 144, .inl (fun _ => 0))), (u2.1 2, .inl (u2.2.1 3, 144, .inl (fun _ => 0))), (u2.1 4, .inl (u2.2.1 4, 144, .inl (fun _ => 0))), (u2.1 9, .inl (u2.2.1 8, 576, .inl beF)), (u2.1 7, .inl (u2.2.1 13, 144, .inl u2.2.2.2.2.1)), (u2.1 8, .inl (u2.2.1 14, 144, .inl u2.2.2.2.2.2)), (u2.1 12, .inl (u2.2.1 9, 12, .inr (.inr (.inr (.inr u2.2.2.1))))), (u2.1 13, .inr (8, [.int 0, .int 0, .int 0, .int 0, .int 0, .int 0])), (u2.1 14, .inl (u2.2.1 10, 6, .inr (.inr (.inr (.inr u2.2.2.2.1))))), (u2.1 15, .inr (10, [.int 0, .int 0, .ref (u2.1 28), .ref (u2.1 29), .ref (u2.1 16)])), (u2.1 16, .inl (u2.2.1 11, 10, .inl (fun _ => 0))), (u2.1 17, .inr (9, [.int 0, .int 0, .ref (u2.1 30), .ref (u2.1 31), .ref (u2.1 32), .ref (u2.1 33)])), (u2.1 18, .inr (12, [.ref (u2.1 26), .ref (u2.1 19), .ref (u2.1 27)])), (u2.1 19, .inl (u2.2.1 12, 169, .inl (fun _ => 0))), (q5, .inr (16, [.int 5, .int 5, .int 0, .ref (u6.1 0), .ref (u6.1 1), .ref (u6.1 2), .ref (u6.1 3), .ref (u6.1 4), .ref (u6.1 5), .ref (u6.1 6), .ref (u6.1 7), .int (-1), .ref (u6.1 8)])), (u6.1 0, .inl (u6.2 0, 25, .inl (fun _ => 0))), (u6.1 1, .inl (u6.2 1, 25, .inl (fun _ => 0))), (u6.1 2, .inl (u6.2 2, 25, .inl (fun _ => 0))), (u6.1 3, .inl (u6.2 3, 25, .inl fK5)), (u6.1 4, .inl (u6.2 4, 25, .inl fK5)), (u6.1 5, .inr (5, [.int 1, .ref (D.1 1000), .int 0])), (u6.1 6, .inr (5, [.int 1, .ref (D.1 1000), .int 0])), (u6.1 7, .inr (5, [.int 1, .ref (D.1 1000), .int 0])), (u6.1 8, .inr (5, [.int 1, .ref (D.1 1000), .int 0])), (q9, .inl (cy10, 1, .inr (.inl (fun _ => 0)))), (q11, .inl (cy12, 1, .inr (.inr (.inr (.inl (fun _ => 0))))))] := hD
  refine W.widen (k := 167) (n := 55824) (Nat.le_of_ble_eq_true rfl) (Nat.le_of_ble_eq_true rfl) ?_
  refine lv_astore (lv' := [(4, .ref q11), (3, .ref q9), (2, .ref q5), (1, .ref q1), (0, .ref b)]) hx hb dL_law_23 hl (by decide) rfl (fun ls hl => ?_)
  refine lv_iconst (v := 0) hx hb dL_law_25 (by decide) ?_
  refine lv_istore (lv' := [(5, .int 0), (4, .ref q11), (3, .ref q9), (2, .ref q5), (1, .ref q1), (0, .ref b)]) hx hb dL_law_26 hl (by decide) rfl (fun ls hl => ?_)
  rcases Nat.lt_or_ge L 5 with hL5 | hL5
  · refine lv_iload hx hb dL_law_28 (lv_at hl 0 rfl) ?_
    refine lv_aload_n hx hb dL_law_30 rfl (lv_at hl 5 rfl) ?_
    refine va_slen hx hb hX hbl hbA hS dL_law_31 ?_
    refine lv_topi (fun x13 e13 => ?_)
    obtain rfl : x13 = nI L := e13
    refine lv_iconst (v := 5) hx hb dL_law_32 (by decide) ?_
    refine lv_isub hx hb dL_law_33 ?_
    refine lv_topi (fun x14 e14 => ?_)
    refine lv_icmp_gt (tgt := 3326) hx hb dL_law_34 (by decide) (fun h15 => ?_) (fun h15 => absurd (by rcases (show L = 0 ∨ L = 1 ∨ L = 2 ∨ L = 3 ∨ L = 4 by omega) with rfl | rfl | rfl | rfl | rfl <;> (subst_vars; decide)) h15)
    refine lv_iconst (v := 1) hx hb dL_law_3326 (by decide) ?_
    refine W.widen (k := 600006) (n := 7302040) (Nat.le_of_ble_eq_true rfl) (Nat.le_of_ble_eq_true rfl) ?_
    refine va_forget (fun q hq => hS.2.2 q hq) ?_
    exact lw_ret (d0 := s.drawn) (Drawn.sameBut.refl s.drawn lw_cs) hx hb hr hlocks dL_law_3327
  · obtain rfl : 5 = L := by omega
    refine lv_iload hx hb dL_law_28 (lv_at hl 0 rfl) ?_
    refine lv_aload_n hx hb dL_law_30 rfl (lv_at hl 5 rfl) ?_
    refine va_slen hx hb hX hbl hbA hS dL_law_31 ?_
    refine lv_topi (fun x16 e16 => ?_)
    obtain rfl : x16 = 5 := e16
    refine lv_iconst (v := 5) hx hb dL_law_32 (by decide) ?_
    refine lv_isub hx hb dL_law_33 ?_
    refine lv_topi (fun x17 e17 => ?_)
    obtain rfl : x17 = 0 := e17.trans (by decide)
    refine lv_icmp_gt (tgt := 3326) hx hb dL_law_34 (by decide) (fun h18 => absurd h18 (by decide)) (fun h18 => ?_)
    refine lv_aload_n hx hb dL_law_37 rfl (lv_at hl 5 rfl) ?_
    refine lv_iload hx hb dL_law_38 (lv_at hl 0 rfl) ?_
    refine va_sld hx hb hX hbl hbA hS (vp_in_nI (n := 0) (by decide) (by decide)) dL_law_40 ?_
    refine lv_topi (fun x19 e19 => ?_)
    obtain rfl : x19 = xs 0 := e19
    refine lv_bipush (v := 63) hx hb dL_law_41 (by decide) ?_
    refine lv_iand hx hb dL_law_43 ?_
    refine lv_topi (fun x20 e20 => ?_)
    have hend : lw_End p l e s m below meth c b (lw_Z below #[Value.ref b] s) := lw_end (L := 5) hx hb hr hX hbl hlocks
    obtain ⟨k, hk64, hk⟩ := lw_mask (xs 0)
    obtain rfl : x20 = nI k := e20.trans hk
    by_cases h_0 : k = 0
    · subst h_0
      refine lv_tableIn (off := 200) (tgt := 244) hx hb dL_law_44 (by decide) (by decide) (by decide +kernel) (by decide) ?_
      exact lc_0 l hst D hx hb hml hown hts hX hbl hE hend q1 (u2.1 0) (u2.1 12) (u2.1 14) (u2.1 20) (u2.1 17) (u2.1 18) (u2.1 21) (u2.1 22) (u2.1 23) (u2.1 24) (u2.1 25) (u2.1 1) (u2.1 2) (u2.1 3) (u2.1 4) (u2.1 5) (u2.1 6) (u2.1 7) (u2.1 8) (u2.1 9) (u2.1 10) (u2.1 11) u2.2.2.2.2.1 u2.2.2.2.2.2 (u2.1 30) (u2.1 31) (u2.1 32) (u2.1 33) (u2.2.1 0) (u2.2.1 1) (u2.2.1 2) (u2.2.1 3) (u2.2.1 4) (u2.2.1 8) (u2.2.1 13) (u2.2.1 14) q9 cy10 (fun _ => 0) q5 0 (u6.1 0) (u6.1 1) (u6.1 2) (u6.1 3) (u6.1 4) (u6.1 5) (u6.1 6) (u6.1 7) (u6.1 8) q11  (lv_sub hl [0, 1, 2, 3, 4, 5] rfl) (hP.sub [0, 1, 5, 6, 7, 8, 9, 10, 11, 12, 18, 31, 21, 27, 28, 29, 30] rfl) (hD.sub [0, 1, 5, 6, 7, 8, 9, 10, 11, 12, 18, 31, 21, 27, 28, 29, 30] (by decide) rfl) (hK.sub [0, 1, 2, 3, 4, 8, 13, 14, 20] rfl) hS
    by_cases h_1 : k = 1
    · subst h_1
      refine lv_tableIn (off := 268) (tgt := 312) hx hb dL_law_44 (by decide) (by decide) (by decide +kernel) (by decide) ?_
      exact lc_1 l hst D hx hb hml hown hts hX hbl hE hend q1 (u2.1 0) (u2.1 12) (u2.1 14) (u2.1 20) (u2.1 17) (u2.1 18) (u2.1 21) (u2.1 22) (u2.1 23) (u2.1 24) (u2.1 25) (u2.1 1) (u2.1 2) (u2.1 3) (u2.1 4) (u2.1 5) (u2.1 6) (u2.1 7) (u2.1 8) (u2.1 9) (u2.1 10) (u2.1 11) (u2.2.1 0) (u2.2.1 2) (u2.2.1 3) q9 cy10 (fun _ => 0) q5 0 (u6.1 0) (u6.1 1) (u6.1 2) (u6.1 3) (u6.1 4) (u6.1 5) (u6.1 6) (u6.1 7) (u6.1 8) (u6.2 0) (u6.2 1) (u6.2 3) q11  (lv_sub hl [0, 1, 2, 3, 4, 5] rfl) (hP.sub [0, 1, 5, 7, 8, 31, 21, 22, 23, 25] rfl) (hD.sub [0, 1, 5, 7, 8, 31, 21, 22, 23, 25] (by decide) rfl) (hK.sub [0, 2, 3, 20, 15, 16, 18] rfl) hS
    by_cases h_2 : k = 2
    · subst h_2
      refine lv_tableIn (off := 362) (tgt := 406) hx hb dL_law_44 (by decide) (by decide) (by decide +kernel) (by decide) ?_
      exact lc_2 l hst D hx hb hml hown hts hX hbl hE hend q1 (u2.1 0) (u2.1 12) (u2.1 14) (u2.1 20) (u2.1 17) (u2.1 18) (u2.1 21) (u2.1 22) (u2.1 23) (u2.1 24) (u2.1 25) (u2.1 1) (u2.1 2) (u2.1 3) (u2.1 4) (u2.1 5) (u2.1 6) (u2.1 7) (u2.1 8) (u2.1 9) (u2.1 10) (u2.1 11) (u2.2.1 0) (u2.2.1 1) (u2.2.1 2) (u2.2.1 4) q5 0 (u6.1 0) (u6.1 1) (u6.1 2) (u6.1 3) (u6.1 4) (u6.1 5) (u6.1 6) (u6.1 7) (u6.1 8) (u6.2 0) (u6.2 1) (u6.2 2) (u6.2 3) (u6.2 4) q9 q11  (lv_sub hl [0, 1, 2, 3, 4, 5] rfl) (hP.sub [0, 1, 5, 6, 7, 9, 21, 22, 23, 24, 25, 26] rfl) (hD.sub [0, 1, 5, 6, 7, 9, 21, 22, 23, 24, 25, 26] (by decide) rfl) (hK.sub [0, 1, 2, 4, 15, 16, 17, 18, 19] rfl) hS
    by_cases h_3 : k = 3
    · subst h_3
      refine lv_tableIn (off := 375) (tgt := 419) hx hb dL_law_44 (by decide) (by decide) (by decide +kernel) (by decide) ?_
      exact lc_3 l hst D hx hb hml hown hts hX hbl hE hend q1 (u2.1 0) (u2.1 12) (u2.1 14) (u2.1 20) (u2.1 17) (u2.1 18) (u2.1 21) (u2.1 22) (u2.1 23) (u2.1 24) (u2.1 25) (u2.1 1) (u2.1 2) (u2.1 3) (u2.1 4) (u2.1 5) (u2.1 6) (u2.1 7) (u2.1 8) (u2.1 9) (u2.1 10) (u2.1 11) (u2.2.1 1) (u2.2.1 4) q9 cy10 (fun _ => 0) q5 0 (u6.1 0) (u6.1 1) (u6.1 2) (u6.1 3) (u6.1 4) (u6.1 5) (u6.1 6) (u6.1 7) (u6.1 8) (u6.2 0) (u6.2 2) (u6.2 4) q11  (lv_sub hl [0, 1, 2, 3, 4, 5] rfl) (hP.sub [0, 1, 6, 9, 31, 21, 22, 24, 26] rfl) (hD.sub [0, 1, 6, 9, 31, 21, 22, 24, 26] (by decide) rfl) (hK.sub [1, 4, 20, 15, 17, 19] rfl) hS
    by_cases h_4 : k = 4
    · subst h_4
      refine lv_tableIn (off := 457) (tgt := 501) hx hb dL_law_44 (by decide) (by decide) (by decide +kernel) (by decide) ?_
      exact lc_4 l hst D hx hb hml hown hts hX hbl hE hend q1 (u2.1 0) (u2.1 12) (u2.1 14) (u2.1 20) (u2.1 17) (u2.1 18) (u2.1 21) (u2.1 22) (u2.1 23) (u2.1 24) (u2.1 25) (u2.1 1) (u2.1 2) (u2.1 3) (u2.1 4) (u2.1 5) (u2.1 6) (u2.1 7) (u2.1 8) (u2.1 9) (u2.1 10) (u2.1 11) (u2.2.1 0) (u2.2.1 1) (u2.2.1 2) (u2.2.1 3) (u2.2.1 4) (u2.2.1 5) (u2.2.1 6) (u2.2.1 7) (u2.2.1 8) q9 cy10 (fun _ => 0) q5 0 (u6.1 0) (u6.1 1) (u6.1 2) (u6.1 3) (u6.1 4) (u6.1 5) (u6.1 6) (u6.1 7) (u6.1 8) (u6.2 0) (u6.2 1) (u6.2 2) (u6.2 3) (u6.2 4) q11  (lv_sub hl [0, 1, 2, 3, 4, 5] rfl) (hP.sub [0, 1, 2, 3, 4, 5, 6, 7, 8, 9, 10, 31, 21, 22, 23, 24, 25, 26] rfl) (hD.sub [0, 1, 2, 3, 4, 5, 6, 7, 8, 9, 10, 31, 21, 22, 23, 24, 25, 26] (by decide) rfl) (hK.sub [0, 1, 2, 3, 4, 5, 6, 7, 8, 20, 15, 16, 17, 18, 19] rfl) hS
    by_cases h_5 : k = 5
    · subst h_5
      refine lv_tableIn (off := 553) (tgt := 597) hx hb dL_law_44 (by decide) (by decide) (by decide +kernel) (by decide) ?_
      exact lc_5 l hst D hx hb hml hown hts hX hbl hE hend q1 (u2.1 0) (u2.1 12) (u2.1 14) (u2.1 20) (u2.1 17) (u2.1 18) (u2.1 21) (u2.1 22) (u2.1 23) (u2.1 24) (u2.1 25) (u2.1 1) (u2.1 2) (u2.1 3) (u2.1 4) (u2.1 5) (u2.1 6) (u2.1 7) (u2.1 8) (u2.1 9) (u2.1 10) (u2.1 11) (u2.2.1 0) (u2.2.1 1) (u2.2.1 2) (u2.2.1 3) (u2.2.1 4) (u2.2.1 5) (u2.2.1 6) (u2.2.1 7) (u2.2.1 8) q9 cy10 (fun _ => 0) q5 0 (u6.1 0) (u6.1 1) (u6.1 2) (u6.1 3) (u6.1 4) (u6.1 5) (u6.1 6) (u6.1 7) (u6.1 8) (u6.2 0) (u6.2 1) (u6.2 2) (u6.2 3) (u6.2 4) q11  (lv_sub hl [0, 1, 2, 3, 4, 5] rfl) (hP.sub [0, 1, 2, 3, 4, 5, 6, 7, 8, 9, 10, 31, 21, 22, 23, 24, 25, 26] rfl) (hD.sub [0, 1, 2, 3, 4, 5, 6, 7, 8, 9, 10, 31, 21, 22, 23, 24, 25, 26] (by decide) rfl) (hK.sub [0, 1, 2, 3, 4, 5, 6, 7, 8, 20, 15, 16, 17, 18, 19] rfl) hS
    by_cases h_6 : k = 6
    · subst h_6
      refine lv_tableIn (off := 621) (tgt := 665) hx hb dL_law_44 (by decide) (by decide) (by decide +kernel) (by decide) ?_
      exact lc_6 l hst D hx hb hml hown hts hX hbl hE hend q1 (u2.1 0) (u2.1 12) (u2.1 14) (u2.1 20) (u2.1 17) (u2.1 18) (u2.1 21) (u2.1 22) (u2.1 23) (u2.1 24) (u2.1 25) (u2.1 1) (u2.1 2) (u2.1 3) (u2.1 4) (u2.1 5) (u2.1 6) (u2.1 7) (u2.1 8) (u2.1 9) (u2.1 10) (u2.1 11) u2.2.2.1 (u2.1 13) (u2.2.1 0) (u2.2.1 9) q9 cy10 (fun _ => 0) q5 0 (u6.1 0) (u6.1 1) (u6.1 2) (u6.1 3) (u6.1 4) (u6.1 5) (u6.1 6) (u6.1 7) (u6.1 8) (u6.2 0) (u6.2 3) q11 w_ctor.1 (lv_sub hl [0, 1, 2, 3, 4, 5] rfl) (hP.sub [0, 1, 5, 13, 14, 31, 21, 22, 25, 27] rfl) (hD.sub [0, 1, 5, 13, 14, 31, 21, 22, 25, 27] (by decide) rfl) (hK.sub [0, 9, 20, 15, 18] rfl) hS
    by_cases h_7 : k = 7
    · subst h_7
      refine lv_tableIn (off := 701) (tgt := 745) hx hb dL_law_44 (by decide) (by decide) (by decide +kernel) (by decide) ?_
      exact lc_7 l hst D hx hb hml hown hts hX hbl hE hend q1 (u2.1 0) (u2.1 12) (u2.1 14) (u2.1 20) (u2.1 17) (u2.1 18) (u2.1 21) (u2.1 22) (u2.1 23) (u2.1 24) (u2.1 25) q9 cy10 (fun _ => 0) q5 0 (u6.1 0) (u6.1 1) (u6.1 2) (u6.1 3) (u6.1 4) (u6.1 5) (u6.1 6) (u6.1 7) (u6.1 8) q11  (lv_sub hl [0, 1, 2, 3, 4, 5] rfl) (hP.sub [0, 31, 21, 27] rfl) (hD.sub [0, 31, 21, 27] (by decide) rfl) (hK.sub [20] rfl) hS
    by_cases h_8 : k = 8
    · subst h_8
      refine lv_tableIn (off := 776) (tgt := 820) hx hb dL_law_44 (by decide) (by decide) (by decide +kernel) (by decide) ?_
      exact lc_8 l hst D hx hb hml hown hts hX hbl hE hend q1 (u2.1 0) (u2.1 12) (u2.1 14) (u2.1 20) (u2.1 17) (u2.1 18) (u2.1 21) (u2.1 22) (u2.1 23) (u2.1 24) (u2.1 25) (u2.1 1) (u2.1 2) (u2.1 3) (u2.1 4) (u2.1 5) (u2.1 6) (u2.1 7) (u2.1 8) (u2.1 9) (u2.1 10) (u2.1 11) u2.2.2.2.1 (u2.1 15) (u2.1 28) (u2.1 29) (u2.1 16) (u2.2.1 10) (u2.2.1 11) q9 cy10 (fun _ => 0) q5 0 (u6.1 0) (u6.1 1) (u6.1 2) (u6.1 3) (u6.1 4) (u6.1 5) (u6.1 6) (u6.1 7) (u6.1 8) (u6.2 0) q11 w_ctor.2 (lv_sub hl [0, 1, 2, 3, 4, 5] rfl) (hP.sub [0, 1, 15, 16, 17, 31, 21, 22, 28] rfl) (hD.sub [0, 1, 15, 16, 17, 31, 21, 22, 28] (by decide) rfl) (hK.sub [10, 11, 20, 15] rfl) hS
    by_cases h_9 : k = 9
    · subst h_9
      refine lv_tableIn (off := 832) (tgt := 876) hx hb dL_law_44 (by decide) (by decide) (by decide +kernel) (by decide) ?_
      exact lc_9 l hst D hx hb hml hown hts hX hbl hE hend q1 (u2.1 0) (u2.1 12) (u2.1 14) (u2.1 20) (u2.1 17) (u2.1 18) (u2.1 21) (u2.1 22) (u2.1 23) (u2.1 24) (u2.1 25) q9 cy10 (fun _ => 0) q5 0 (u6.1 0) (u6.1 1) (u6.1 2) (u6.1 3) (u6.1 4) (u6.1 5) (u6.1 6) (u6.1 7) (u6.1 8) q11  (lv_sub hl [0, 1, 2, 3, 4, 5] rfl) (hP.sub [0, 31, 21, 28] rfl) (hD.sub [0, 31, 21, 28] (by decide) rfl) (hK.sub [20] rfl) hS
    by_cases h_10 : k = 10
    · subst h_10
      refine lv_tableIn (off := 900) (tgt := 944) hx hb dL_law_44 (by decide) (by decide) (by decide +kernel) (by decide) ?_
      exact lc_10 l hst D hx hb hml hown hts hX hbl hE hend q1 (u2.1 0) (u2.1 12) (u2.1 14) (u2.1 20) (u2.1 17) (u2.1 18) (u2.1 21) (u2.1 22) (u2.1 23) (u2.1 24) (u2.1 25) q9 cy10 (fun _ => 0) q5 0 (u6.1 0) (u6.1 1) (u6.1 2) (u6.1 3) (u6.1 4) (u6.1 5) (u6.1 6) (u6.1 7) (u6.1 8) q11  (lv_sub hl [0, 1, 2, 3, 4, 5] rfl) (hP.sub [0, 31, 21, 28] rfl) (hD.sub [0, 31, 21, 28] (by decide) rfl) (hK.sub [20] rfl) hS
    by_cases h_11 : k = 11
    · subst h_11
      refine lv_tableIn (off := 980) (tgt := 1024) hx hb dL_law_44 (by decide) (by decide) (by decide +kernel) (by decide) ?_
      exact lc_11 l hst D hx hb hml hown hts hX hbl hE hend q1 (u2.1 0) (u2.1 12) (u2.1 14) (u2.1 20) (u2.1 17) (u2.1 18) (u2.1 21) (u2.1 22) (u2.1 23) (u2.1 24) (u2.1 25) q9 cy10 (fun _ => 0) q5 0 (u6.1 0) (u6.1 1) (u6.1 2) (u6.1 3) (u6.1 4) (u6.1 5) (u6.1 6) (u6.1 7) (u6.1 8) q11  (lv_sub hl [0, 1, 2, 3, 4, 5] rfl) (hP.sub [0, 31, 21, 28] rfl) (hD.sub [0, 31, 21, 28] (by decide) rfl) (hK.sub [20] rfl) hS
    by_cases h_12 : k = 12
    · subst h_12
      refine lv_tableIn (off := 1043) (tgt := 1087) hx hb dL_law_44 (by decide) (by decide) (by decide +kernel) (by decide) ?_
      exact lc_12 l hst D hx hb hml hown hts hX hbl hE hend q1 (u2.1 0) (u2.1 12) (u2.1 14) (u2.1 20) (u2.1 17) (u2.1 18) (u2.1 21) (u2.1 22) (u2.1 23) (u2.1 24) (u2.1 25) q9 cy10 (fun _ => 0) q5 0 (u6.1 0) (u6.1 1) (u6.1 2) (u6.1 3) (u6.1 4) (u6.1 5) (u6.1 6) (u6.1 7) (u6.1 8) q11  (lv_sub hl [0, 1, 2, 3, 4, 5] rfl) (hP.sub [0, 31, 21, 28] rfl) (hD.sub [0, 31, 21, 28] (by decide) rfl) (hK.sub [20] rfl) hS
    by_cases h_13 : k = 13
    · subst h_13
      refine lv_tableIn (off := 1099) (tgt := 1143) hx hb dL_law_44 (by decide) (by decide) (by decide +kernel) (by decide) ?_
      exact lc_13 l hst D hx hb hml hown hts hX hbl hE hend q1 (u2.1 0) (u2.1 12) (u2.1 14) (u2.1 20) (u2.1 17) (u2.1 18) (u2.1 21) (u2.1 22) (u2.1 23) (u2.1 24) (u2.1 25) q9 cy10 (fun _ => 0) q5 0 (u6.1 0) (u6.1 1) (u6.1 2) (u6.1 3) (u6.1 4) (u6.1 5) (u6.1 6) (u6.1 7) (u6.1 8) q11  (lv_sub hl [0, 1, 2, 3, 4, 5] rfl) (hP.sub [0, 31, 21, 28] rfl) (hD.sub [0, 31, 21, 28] (by decide) rfl) (hK.sub [20] rfl) hS
    by_cases h_14 : k = 14
    · subst h_14
      refine lv_tableIn (off := 1167) (tgt := 1211) hx hb dL_law_44 (by decide) (by decide) (by decide +kernel) (by decide) ?_
      exact lc_14 l hst D hx hb hml hown hts hX hbl hE hend q1 (u2.1 0) (u2.1 12) (u2.1 14) (u2.1 20) (u2.1 17) (u2.1 18) (u2.1 21) (u2.1 22) (u2.1 23) (u2.1 24) (u2.1 25) q9 cy10 (fun _ => 0) q5 0 (u6.1 0) (u6.1 1) (u6.1 2) (u6.1 3) (u6.1 4) (u6.1 5) (u6.1 6) (u6.1 7) (u6.1 8) q11  (lv_sub hl [0, 1, 2, 3, 4, 5] rfl) (hP.sub [0, 31, 21, 29] rfl) (hD.sub [0, 31, 21, 29] (by decide) rfl) (hK.sub [20] rfl) hS
    by_cases h_15 : k = 15
    · subst h_15
      refine lv_tableIn (off := 1235) (tgt := 1279) hx hb dL_law_44 (by decide) (by decide) (by decide +kernel) (by decide) ?_
      exact lc_15 l hst D hx hb hml hown hts hX hbl hE hend q1 (u2.1 0) (u2.1 12) (u2.1 14) (u2.1 20) (u2.1 17) (u2.1 18) (u2.1 21) (u2.1 22) (u2.1 23) (u2.1 24) (u2.1 25) q9 cy10 (fun _ => 0) q5 0 (u6.1 0) (u6.1 1) (u6.1 2) (u6.1 3) (u6.1 4) (u6.1 5) (u6.1 6) (u6.1 7) (u6.1 8) q11  (lv_sub hl [0, 1, 2, 3, 4, 5] rfl) (hP.sub [0, 31, 21, 29] rfl) (hD.sub [0, 31, 21, 29] (by decide) rfl) (hK.sub [20] rfl) hS
    by_cases h_16 : k = 16
    · subst h_16
      refine lv_tableIn (off := 1303) (tgt := 1347) hx hb dL_law_44 (by decide) (by decide) (by decide +kernel) (by decide) ?_
      exact lc_16 l hst D hx hb hml hown hts hX hbl hE hend q1 (u2.1 0) (u2.1 12) (u2.1 14) (u2.1 20) (u2.1 17) (u2.1 18) (u2.1 21) (u2.1 22) (u2.1 23) (u2.1 24) (u2.1 25) q9 cy10 (fun _ => 0) q5 0 (u6.1 0) (u6.1 1) (u6.1 2) (u6.1 3) (u6.1 4) (u6.1 5) (u6.1 6) (u6.1 7) (u6.1 8) q11  (lv_sub hl [0, 1, 2, 3, 4, 5] rfl) (hP.sub [0, 31, 21, 28] rfl) (hD.sub [0, 31, 21, 28] (by decide) rfl) (hK.sub [20] rfl) hS
    by_cases h_17 : k = 17
    · subst h_17
      refine lv_tableIn (off := 1395) (tgt := 1439) hx hb dL_law_44 (by decide) (by decide) (by decide +kernel) (by decide) ?_
      exact lc_17 l hst D hx hb hml hown hts hX hbl hE hend q1 (u2.1 0) (u2.1 12) (u2.1 14) (u2.1 20) (u2.1 17) (u2.1 18) (u2.1 21) (u2.1 22) (u2.1 23) (u2.1 24) (u2.1 25) q9 cy10 (fun _ => 0) q5 0 (u6.1 0) (u6.1 1) (u6.1 2) (u6.1 3) (u6.1 4) (u6.1 5) (u6.1 6) (u6.1 7) (u6.1 8) q11  (lv_sub hl [0, 1, 2, 3, 4, 5] rfl) (hP.sub [0, 31, 21, 29] rfl) (hD.sub [0, 31, 21, 29] (by decide) rfl) (hK.sub [20] rfl) hS
    by_cases h_18 : k = 18
    · subst h_18
      refine lv_tableIn (off := 1451) (tgt := 1495) hx hb dL_law_44 (by decide) (by decide) (by decide +kernel) (by decide) ?_
      exact lc_18 l hst D hx hb hml hown hts hX hbl hE hend q1 (u2.1 0) (u2.1 12) (u2.1 14) (u2.1 20) (u2.1 17) (u2.1 18) (u2.1 21) (u2.1 22) (u2.1 23) (u2.1 24) (u2.1 25) q9 cy10 (fun _ => 0) q5 0 (u6.1 0) (u6.1 1) (u6.1 2) (u6.1 3) (u6.1 4) (u6.1 5) (u6.1 6) (u6.1 7) (u6.1 8) q11  (lv_sub hl [0, 1, 2, 3, 4, 5] rfl) (hP.sub [0, 31, 21, 29] rfl) (hD.sub [0, 31, 21, 29] (by decide) rfl) (hK.sub [20] rfl) hS
    by_cases h_19 : k = 19
    · subst h_19
      refine lv_tableIn (off := 1531) (tgt := 1575) hx hb dL_law_44 (by decide) (by decide) (by decide +kernel) (by decide) ?_
      exact lc_19 l hst D hx hb hml hown hts hX hbl hE hend q1 (u2.1 0) (u2.1 12) (u2.1 14) (u2.1 20) (u2.1 17) (u2.1 18) (u2.1 21) (u2.1 22) (u2.1 23) (u2.1 24) (u2.1 25) q9 cy10 (fun _ => 0) q5 0 (u6.1 0) (u6.1 1) (u6.1 2) (u6.1 3) (u6.1 4) (u6.1 5) (u6.1 6) (u6.1 7) (u6.1 8) q11  (lv_sub hl [0, 1, 2, 3, 4, 5] rfl) (hP.sub [0, 31, 21, 29] rfl) (hD.sub [0, 31, 21, 29] (by decide) rfl) (hK.sub [20] rfl) hS
    by_cases h_20 : k = 20
    · subst h_20
      refine lv_tableIn (off := 1599) (tgt := 1643) hx hb dL_law_44 (by decide) (by decide) (by decide +kernel) (by decide) ?_
      exact lc_20 l hst D hx hb hml hown hts hX hbl hE hend q1 (u2.1 0) (u2.1 12) (u2.1 14) (u2.1 20) (u2.1 17) (u2.1 18) (u2.1 21) (u2.1 22) (u2.1 23) (u2.1 24) (u2.1 25) q9 cy10 (fun _ => 0) q5 0 (u6.1 0) (u6.1 1) (u6.1 2) (u6.1 3) (u6.1 4) (u6.1 5) (u6.1 6) (u6.1 7) (u6.1 8) q11  (lv_sub hl [0, 1, 2, 3, 4, 5] rfl) (hP.sub [0, 31, 21, 27] rfl) (hD.sub [0, 31, 21, 27] (by decide) rfl) (hK.sub [20] rfl) hS
    by_cases h_21 : k = 21
    · subst h_21
      refine lv_tableIn (off := 1679) (tgt := 1723) hx hb dL_law_44 (by decide) (by decide) (by decide +kernel) (by decide) ?_
      exact lc_21 l hst D hx hb hml hown hts hX hbl hE hend q1 (u2.1 0) (u2.1 12) (u2.1 14) (u2.1 20) (u2.1 17) (u2.1 18) (u2.1 21) (u2.1 22) (u2.1 23) (u2.1 24) (u2.1 25) q9 cy10 (fun _ => 0) q5 0 (u6.1 0) (u6.1 1) (u6.1 2) (u6.1 3) (u6.1 4) (u6.1 5) (u6.1 6) (u6.1 7) (u6.1 8) q11  (lv_sub hl [0, 1, 2, 3, 4, 5] rfl) (hP.sub [0, 31, 21, 27] rfl) (hD.sub [0, 31, 21, 27] (by decide) rfl) (hK.sub [20] rfl) hS
    by_cases h_22 : k = 22
    · subst h_22
      refine lv_tableIn (off := 1747) (tgt := 1791) hx hb dL_law_44 (by decide) (by decide) (by decide +kernel) (by decide) ?_
      exact lc_22 l hst D hx hb hml hown hts hX hbl hE hend q1 (u2.1 0) (u2.1 12) (u2.1 14) (u2.1 20) (u2.1 17) (u2.1 18) (u2.1 21) (u2.1 22) (u2.1 23) (u2.1 24) (u2.1 25) q9 cy10 (fun _ => 0) q5 0 (u6.1 0) (u6.1 1) (u6.1 2) (u6.1 3) (u6.1 4) (u6.1 5) (u6.1 6) (u6.1 7) (u6.1 8) q11  (lv_sub hl [0, 1, 2, 3, 4, 5] rfl) (hP.sub [0, 31, 21, 28] rfl) (hD.sub [0, 31, 21, 28] (by decide) rfl) (hK.sub [20] rfl) hS
    by_cases h_23 : k = 23
    · subst h_23
      refine lv_tableIn (off := 1850) (tgt := 1894) hx hb dL_law_44 (by decide) (by decide) (by decide +kernel) (by decide) ?_
      exact lc_23 l hst D hx hb hml hown hts hX hbl hE hend q1 (u2.1 0) (u2.1 12) (u2.1 14) (u2.1 20) (u2.1 17) (u2.1 18) (u2.1 21) (u2.1 22) (u2.1 23) (u2.1 24) (u2.1 25) q9 cy10 (fun _ => 0) q5 0 (u6.1 0) (u6.1 1) (u6.1 2) (u6.1 3) (u6.1 4) (u6.1 5) (u6.1 6) (u6.1 7) (u6.1 8) q11  (lv_sub hl [0, 1, 2, 3, 4, 5] rfl) (hP.sub [0, 31, 21, 29] rfl) (hD.sub [0, 31, 21, 29] (by decide) rfl) (hK.sub [20] rfl) hS
    by_cases h_24 : k = 24
    · subst h_24
      refine lv_tableIn (off := 1918) (tgt := 1962) hx hb dL_law_44 (by decide) (by decide) (by decide +kernel) (by decide) ?_
      exact lc_24 l hst D hx hb hml hown hts hX hbl hE hend q1 (u2.1 0) (u2.1 12) (u2.1 14) (u2.1 20) (u2.1 17) (u2.1 18) (u2.1 21) (u2.1 22) (u2.1 23) (u2.1 24) (u2.1 25) q9 cy10 (fun _ => 0) q5 0 (u6.1 0) (u6.1 1) (u6.1 2) (u6.1 3) (u6.1 4) (u6.1 5) (u6.1 6) (u6.1 7) (u6.1 8) q11  (lv_sub hl [0, 1, 2, 3, 4, 5] rfl) (hP.sub [0, 31, 21, 29] rfl) (hD.sub [0, 31, 21, 29] (by decide) rfl) (hK.sub [20] rfl) hS
    by_cases h_25 : k = 25
    · subst h_25
      refine lv_tableIn (off := 1974) (tgt := 2018) hx hb dL_law_44 (by decide) (by decide) (by decide +kernel) (by decide) ?_
      exact lc_25 l hst D hx hb hml hown hts hX hbl hE hend q1 (u2.1 0) (u2.1 12) (u2.1 14) (u2.1 20) (u2.1 17) (u2.1 18) (u2.1 21) (u2.1 22) (u2.1 23) (u2.1 24) (u2.1 25) q9 cy10 (fun _ => 0) q5 0 (u6.1 0) (u6.1 1) (u6.1 2) (u6.1 3) (u6.1 4) (u6.1 5) (u6.1 6) (u6.1 7) (u6.1 8) q11  (lv_sub hl [0, 1, 2, 3, 4, 5] rfl) (hP.sub [0, 31, 21, 29] rfl) (hD.sub [0, 31, 21, 29] (by decide) rfl) (hK.sub [20] rfl) hS
    by_cases h_26 : k = 26
    · subst h_26
      refine lv_tableIn (off := 2030) (tgt := 2074) hx hb dL_law_44 (by decide) (by decide) (by decide +kernel) (by decide) ?_
      exact lc_26 l hst D hx hb hml hown hts hX hbl hE hend q1 (u2.1 0) (u2.1 12) (u2.1 14) (u2.1 20) (u2.1 17) (u2.1 18) (u2.1 21) (u2.1 22) (u2.1 23) (u2.1 24) (u2.1 25) q9 cy10 (fun _ => 0) q5 0 (u6.1 0) (u6.1 1) (u6.1 2) (u6.1 3) (u6.1 4) (u6.1 5) (u6.1 6) (u6.1 7) (u6.1 8) q11  (lv_sub hl [0, 1, 2, 3, 4, 5] rfl) (hP.sub [0, 31, 21, 29] rfl) (hD.sub [0, 31, 21, 29] (by decide) rfl) (hK.sub [20] rfl) hS
    by_cases h_27 : k = 27
    · subst h_27
      refine lv_tableIn (off := 2098) (tgt := 2142) hx hb dL_law_44 (by decide) (by decide) (by decide +kernel) (by decide) ?_
      exact lc_27 l hst D hx hb hml hown hts hX hbl hE hend q1 (u2.1 0) (u2.1 12) (u2.1 14) (u2.1 20) (u2.1 17) (u2.1 18) (u2.1 21) (u2.1 22) (u2.1 23) (u2.1 24) (u2.1 25) q9 cy10 (fun _ => 0) q5 0 (u6.1 0) (u6.1 1) (u6.1 2) (u6.1 3) (u6.1 4) (u6.1 5) (u6.1 6) (u6.1 7) (u6.1 8) q11  (lv_sub hl [0, 1, 2, 3, 4, 5] rfl) (hP.sub [0, 31, 21, 29] rfl) (hD.sub [0, 31, 21, 29] (by decide) rfl) (hK.sub [20] rfl) hS
    by_cases h_28 : k = 28
    · subst h_28
      refine lv_tableIn (off := 2154) (tgt := 2198) hx hb dL_law_44 (by decide) (by decide) (by decide +kernel) (by decide) ?_
      exact lc_28 l hst D hx hb hml hown hts hX hbl hE hend q1 (u2.1 0) (u2.1 12) (u2.1 14) (u2.1 20) (u2.1 17) (u2.1 18) (u2.1 21) (u2.1 22) (u2.1 23) (u2.1 24) (u2.1 25) q9 cy10 (fun _ => 0) q5 0 (u6.1 0) (u6.1 1) (u6.1 2) (u6.1 3) (u6.1 4) (u6.1 5) (u6.1 6) (u6.1 7) (u6.1 8) q11  (lv_sub hl [0, 1, 2, 3, 4, 5] rfl) (hP.sub [0, 31, 21, 29] rfl) (hD.sub [0, 31, 21, 29] (by decide) rfl) (hK.sub [20] rfl) hS
    by_cases h_29 : k = 29
    · subst h_29
      refine lv_tableIn (off := 2222) (tgt := 2266) hx hb dL_law_44 (by decide) (by decide) (by decide +kernel) (by decide) ?_
      exact lc_29 l hst D hx hb hml hown hts hX hbl hE hend q1 (u2.1 0) (u2.1 12) (u2.1 14) (u2.1 20) (u2.1 17) (u2.1 18) (u2.1 21) (u2.1 22) (u2.1 23) (u2.1 24) (u2.1 25) q9 cy10 (fun _ => 0) q5 0 (u6.1 0) (u6.1 1) (u6.1 2) (u6.1 3) (u6.1 4) (u6.1 5) (u6.1 6) (u6.1 7) (u6.1 8) q11  (lv_sub hl [0, 1, 2, 3, 4, 5] rfl) (hP.sub [0, 31, 21, 29] rfl) (hD.sub [0, 31, 21, 29] (by decide) rfl) (hK.sub [20] rfl) hS
    by_cases h_30 : k = 30
    · subst h_30
      refine lv_tableIn (off := 2278) (tgt := 2322) hx hb dL_law_44 (by decide) (by decide) (by decide +kernel) (by decide) ?_
      exact lc_30 l hst D hx hb hml hown hts hX hbl hE hend q1 (u2.1 0) (u2.1 12) (u2.1 14) (u2.1 20) (u2.1 17) (u2.1 18) (u2.1 21) (u2.1 22) (u2.1 23) (u2.1 24) (u2.1 25) q9 cy10 (fun _ => 0) q5 0 (u6.1 0) (u6.1 1) (u6.1 2) (u6.1 3) (u6.1 4) (u6.1 5) (u6.1 6) (u6.1 7) (u6.1 8) q11  (lv_sub hl [0, 1, 2, 3, 4, 5] rfl) (hP.sub [0, 31, 21, 29] rfl) (hD.sub [0, 31, 21, 29] (by decide) rfl) (hK.sub [20] rfl) hS
    by_cases h_31 : k = 31
    · subst h_31
      refine lv_tableIn (off := 2346) (tgt := 2390) hx hb dL_law_44 (by decide) (by decide) (by decide +kernel) (by decide) ?_
      exact lc_31 l hst D hx hb hml hown hts hX hbl hE hend q1 (u2.1 0) (u2.1 12) (u2.1 14) (u2.1 20) (u2.1 17) (u2.1 18) (u2.1 21) (u2.1 22) (u2.1 23) (u2.1 24) (u2.1 25) q9 cy10 (fun _ => 0) q5 0 (u6.1 0) (u6.1 1) (u6.1 2) (u6.1 3) (u6.1 4) (u6.1 5) (u6.1 6) (u6.1 7) (u6.1 8) q11  (lv_sub hl [0, 1, 2, 3, 4, 5] rfl) (hP.sub [0, 31, 21, 29] rfl) (hD.sub [0, 31, 21, 29] (by decide) rfl) (hK.sub [20] rfl) hS
    by_cases h_32 : k = 32
    · subst h_32
      refine lv_tableIn (off := 2402) (tgt := 2446) hx hb dL_law_44 (by decide) (by decide) (by decide +kernel) (by decide) ?_
      exact lc_32 l hst D hx hb hml hown hts hX hbl hE hend q1 (u2.1 0) (u2.1 12) (u2.1 14) (u2.1 20) (u2.1 17) (u2.1 18) (u2.1 21) (u2.1 22) (u2.1 23) (u2.1 24) (u2.1 25) q9 cy10 (fun _ => 0) q5 0 (u6.1 0) (u6.1 1) (u6.1 2) (u6.1 3) (u6.1 4) (u6.1 5) (u6.1 6) (u6.1 7) (u6.1 8) q11  (lv_sub hl [0, 1, 2, 3, 4, 5] rfl) (hP.sub [0, 31, 21, 28] rfl) (hD.sub [0, 31, 21, 28] (by decide) rfl) (hK.sub [20] rfl) hS
    by_cases h_33 : k = 33
    · subst h_33
      refine lv_tableIn (off := 2470) (tgt := 2514) hx hb dL_law_44 (by decide) (by decide) (by decide +kernel) (by decide) ?_
      exact lc_33 l hst D hx hb hml hown hts hX hbl hE hend q1 (u2.1 0) (u2.1 12) (u2.1 14) (u2.1 20) (u2.1 17) (u2.1 18) (u2.1 21) (u2.1 22) (u2.1 23) (u2.1 24) (u2.1 25) (u2.1 30) (u2.1 31) (u2.1 32) (u2.1 33) q9 cy10 (fun _ => 0) q5 0 (u6.1 0) (u6.1 1) (u6.1 2) (u6.1 3) (u6.1 4) (u6.1 5) (u6.1 6) (u6.1 7) (u6.1 8) q11  (lv_sub hl [0, 1, 2, 3, 4, 5] rfl) (hP.sub [0, 18, 31, 21, 30] rfl) (hD.sub [0, 18, 31, 21, 30] (by decide) rfl) (hK.sub [20] rfl) hS
    by_cases h_34 : k = 34
    · subst h_34
      refine lv_tableIn (off := 2550) (tgt := 2594) hx hb dL_law_44 (by decide) (by decide) (by decide +kernel) (by decide) ?_
      exact lc_34 l hst D hx hb hml hown hts hX hbl hE hend q1 (u2.1 0) (u2.1 12) (u2.1 14) (u2.1 20) (u2.1 17) (u2.1 18) (u2.1 21) (u2.1 22) (u2.1 23) (u2.1 24) (u2.1 25) (u2.1 30) (u2.1 31) (u2.1 32) (u2.1 33) q5 0 (u6.1 0) (u6.1 1) (u6.1 2) (u6.1 3) (u6.1 4) (u6.1 5) (u6.1 6) (u6.1 7) (u6.1 8) q9 q11  (lv_sub hl [0, 1, 2, 3, 4, 5] rfl) (hP.sub [0, 18, 21, 30] rfl) (hD.sub [0, 18, 21, 30] (by decide) rfl) (hK.sub [] rfl) hS
    by_cases h_35 : k = 35
    · subst h_35
      refine lv_tableIn (off := 2563) (tgt := 2607) hx hb dL_law_44 (by decide) (by decide) (by decide +kernel) (by decide) ?_
      exact lc_35 l hst D hx hb hml hown hts hX hbl hE hend q1 (u2.1 0) (u2.1 12) (u2.1 14) (u2.1 20) (u2.1 17) (u2.1 18) (u2.1 21) (u2.1 22) (u2.1 23) (u2.1 24) (u2.1 25) (u2.1 30) (u2.1 31) (u2.1 32) (u2.1 33) q9 cy10 (fun _ => 0) q5 0 (u6.1 0) (u6.1 1) (u6.1 2) (u6.1 3) (u6.1 4) (u6.1 5) (u6.1 6) (u6.1 7) (u6.1 8) q11  (lv_sub hl [0, 1, 2, 3, 4, 5] rfl) (hP.sub [0, 18, 31, 21, 30] rfl) (hD.sub [0, 18, 31, 21, 30] (by decide) rfl) (hK.sub [20] rfl) hS
    by_cases h_36 : k = 36
    · subst h_36
      refine lv_tableIn (off := 2607) (tgt := 2651) hx hb dL_law_44 (by decide) (by decide) (by decide +kernel) (by decide) ?_
      exact lc_36 l hst D hx hb hml hown hts hX hbl hE hend q1 (u2.1 0) (u2.1 12) (u2.1 14) (u2.1 20) (u2.1 17) (u2.1 18) (u2.1 21) (u2.1 22) (u2.1 23) (u2.1 24) (u2.1 25) q9 cy10 (fun _ => 0) q5 0 (u6.1 0) (u6.1 1) (u6.1 2) (u6.1 3) (u6.1 4) (u6.1 5) (u6.1 6) (u6.1 7) (u6.1 8) q11  (lv_sub hl [0, 1, 2, 3, 4, 5] rfl) (hP.sub [0, 31, 21] rfl) (hD.sub [0, 31, 21] (by decide) rfl) (hK.sub [20] rfl) hS
    by_cases h_37 : k = 37
    · subst h_37
      refine lv_tableIn (off := 2699) (tgt := 2743) hx hb dL_law_44 (by decide) (by decide) (by decide +kernel) (by decide) ?_
      exact lc_37 l hst D hx hb hml hown hts hX hbl hE hend q1 (u2.1 0) (u2.1 12) (u2.1 14) (u2.1 20) (u2.1 17) (u2.1 18) (u2.1 21) (u2.1 22) (u2.1 23) (u2.1 24) (u2.1 25) q9 cy10 (fun _ => 0) q5 0 (u6.1 0) (u6.1 1) (u6.1 2) (u6.1 3) (u6.1 4) (u6.1 5) (u6.1 6) (u6.1 7) (u6.1 8) q11  (lv_sub hl [0, 1, 2, 3, 4, 5] rfl) (hP.sub [0, 31, 21, 28] rfl) (hD.sub [0, 31, 21, 28] (by decide) rfl) (hK.sub [20] rfl) hS
    by_cases h_38 : k = 38
    · subst h_38
      refine lv_tableIn (off := 2779) (tgt := 2823) hx hb dL_law_44 (by decide) (by decide) (by decide +kernel) (by decide) ?_
      exact lc_38 l hst D hx hb hml hown hts hX hbl hE hend q1 (u2.1 0) (u2.1 12) (u2.1 14) (u2.1 20) (u2.1 17) (u2.1 18) (u2.1 21) (u2.1 22) (u2.1 23) (u2.1 24) (u2.1 25) (u2.1 1) (u2.1 2) (u2.1 3) (u2.1 4) (u2.1 5) (u2.1 6) (u2.1 7) (u2.1 8) (u2.1 9) (u2.1 10) (u2.1 11) (u2.1 26) (u2.1 19) (u2.1 27) (u2.2.1 0) (u2.2.1 1) (u2.2.1 2) (u2.2.1 3) (u2.2.1 4) (u2.2.1 5) (u2.2.1 6) (u2.2.1 7) (u2.2.1 8) (u2.2.1 12) q9 cy10 (fun _ => 0) q5 0 (u6.1 0) (u6.1 1) (u6.1 2) (u6.1 3) (u6.1 4) (u6.1 5) (u6.1 6) (u6.1 7) (u6.1 8) (u6.2 0) (u6.2 1) (u6.2 2) (u6.2 3) (u6.2 4) q11  (lv_sub hl [0, 1, 2, 3, 4, 5] rfl) (hP.sub [0, 1, 2, 3, 4, 5, 6, 7, 8, 9, 10, 19, 20, 31, 21, 22, 23, 24, 25, 26, 27] rfl) (hD.sub [0, 1, 2, 3, 4, 5, 6, 7, 8, 9, 10, 19, 20, 31, 21, 22, 23, 24, 25, 26, 27] (by decide) rfl) (hK.sub [0, 1, 2, 3, 4, 5, 6, 7, 8, 12, 20, 15, 16, 17, 18, 19] rfl) hS
    by_cases h_39 : k = 39
    · subst h_39
      refine lv_tableIn (off := 2859) (tgt := 2903) hx hb dL_law_44 (by decide) (by decide) (by decide +kernel) (by decide) ?_
      exact lc_39 l hst D hx hb hml hown hts hX hbl hE hend q1 (u2.1 0) (u2.1 12) (u2.1 14) (u2.1 20) (u2.1 17) (u2.1 18) (u2.1 21) (u2.1 22) (u2.1 23) (u2.1 24) (u2.1 25) q9 cy10 (fun _ => 0) q5 0 (u6.1 0) (u6.1 1) (u6.1 2) (u6.1 3) (u6.1 4) (u6.1 5) (u6.1 6) (u6.1 7) (u6.1 8) q11  (lv_sub hl [0, 1, 2, 3, 4, 5] rfl) (hP.sub [0, 31, 21] rfl) (hD.sub [0, 31, 21] (by decide) rfl) (hK.sub [20] rfl) hS
    by_cases h_40 : k = 40
    · subst h_40
      refine lv_tableIn (off := 2939) (tgt := 2983) hx hb dL_law_44 (by decide) (by decide) (by decide +kernel) (by decide) ?_
      exact lc_40 l hst D hx hb hml hown hts hX hbl hE hend q1 (u2.1 0) (u2.1 12) (u2.1 14) (u2.1 20) (u2.1 17) (u2.1 18) (u2.1 21) (u2.1 22) (u2.1 23) (u2.1 24) (u2.1 25) q9 cy10 (fun _ => 0) q5 0 (u6.1 0) (u6.1 1) (u6.1 2) (u6.1 3) (u6.1 4) (u6.1 5) (u6.1 6) (u6.1 7) (u6.1 8) q11  (lv_sub hl [0, 1, 2, 3, 4, 5] rfl) (hP.sub [0, 31, 21, 29] rfl) (hD.sub [0, 31, 21, 29] (by decide) rfl) (hK.sub [20] rfl) hS
    by_cases h_41 : k = 41
    · subst h_41
      refine lv_tableIn (off := 3019) (tgt := 3063) hx hb dL_law_44 (by decide) (by decide) (by decide +kernel) (by decide) ?_
      exact lc_41 l hst D hx hb hml hown hts hX hbl hE hend q1 (u2.1 0) (u2.1 12) (u2.1 14) (u2.1 20) (u2.1 17) (u2.1 18) (u2.1 21) (u2.1 22) (u2.1 23) (u2.1 24) (u2.1 25) q9 cy10 (fun _ => 0) q5 0 (u6.1 0) (u6.1 1) (u6.1 2) (u6.1 3) (u6.1 4) (u6.1 5) (u6.1 6) (u6.1 7) (u6.1 8) q11  (lv_sub hl [0, 1, 2, 3, 4, 5] rfl) (hP.sub [0, 31, 21, 29] rfl) (hD.sub [0, 31, 21, 29] (by decide) rfl) (hK.sub [20] rfl) hS
    by_cases h_42 : k = 42
    · subst h_42
      refine lv_tableIn (off := 3094) (tgt := 3138) hx hb dL_law_44 (by decide) (by decide) (by decide +kernel) (by decide) ?_
      exact lc_42 l hst D hx hb hml hown hts hX hbl hE hend q1 (u2.1 0) (u2.1 12) (u2.1 14) (u2.1 20) (u2.1 17) (u2.1 18) (u2.1 21) (u2.1 22) (u2.1 23) (u2.1 24) (u2.1 25) q11 cy12 (fun _ => 0) q5 0 (u6.1 0) (u6.1 1) (u6.1 2) (u6.1 3) (u6.1 4) (u6.1 5) (u6.1 6) (u6.1 7) (u6.1 8) q9  (lv_sub hl [0, 1, 2, 3, 4, 5] rfl) (hP.sub [0, 32, 21, 28, 29] rfl) (hD.sub [0, 32, 21, 28, 29] (by decide) rfl) (hK.sub [21] rfl) hS
    by_cases h_43 : k = 43
    · subst h_43
      refine lv_tableIn (off := 3172) (tgt := 3216) hx hb dL_law_44 (by decide) (by decide) (by decide +kernel) (by decide) ?_
      exact lc_43 l hst D hx hb hml hown hts hX hbl hE hend q1 (u2.1 0) (u2.1 12) (u2.1 14) (u2.1 20) (u2.1 17) (u2.1 18) (u2.1 21) (u2.1 22) (u2.1 23) (u2.1 24) (u2.1 25) q11 cy12 (fun _ => 0) q5 0 (u6.1 0) (u6.1 1) (u6.1 2) (u6.1 3) (u6.1 4) (u6.1 5) (u6.1 6) (u6.1 7) (u6.1 8) q9  (lv_sub hl [0, 1, 2, 3, 4, 5] rfl) (hP.sub [0, 32, 21, 28, 29] rfl) (hD.sub [0, 32, 21, 28, 29] (by decide) rfl) (hK.sub [21] rfl) hS
    by_cases h_44 : k = 44
    · subst h_44
      refine lv_tableIn (off := 3249) (tgt := 3293) hx hb dL_law_44 (by decide) (by decide) (by decide +kernel) (by decide) ?_
      exact lc_44 l hst D hx hb hml hown hts hX hbl hE hend q1 (u2.1 0) (u2.1 12) (u2.1 14) (u2.1 20) (u2.1 17) (u2.1 18) (u2.1 21) (u2.1 22) (u2.1 23) (u2.1 24) (u2.1 25) q5 0 (u6.1 0) (u6.1 1) (u6.1 2) (u6.1 3) (u6.1 4) (u6.1 5) (u6.1 6) (u6.1 7) (u6.1 8) q9 q11  (lv_sub hl [0, 1, 2, 3, 4, 5] rfl) (hP.sub [0, 21, 29] rfl) (hD.sub [0, 21, 29] (by decide) rfl) (hK.sub [] rfl) hS
    by_cases h_45 : k = 45
    · subst h_45
      refine lv_tableIn (off := 3263) (tgt := 3307) hx hb dL_law_44 (by decide) (by decide) (by decide +kernel) (by decide) ?_
      exact lc_45 l hst D hx hb hml hown hts hX hbl hE hend q1 (u2.1 0) (u2.1 12) (u2.1 14) (u2.1 20) (u2.1 17) (u2.1 18) (u2.1 21) (u2.1 22) (u2.1 23) (u2.1 24) (u2.1 25) (u2.1 1) (u2.1 2) (u2.1 3) (u2.1 4) (u2.1 5) (u2.1 6) (u2.1 7) (u2.1 8) (u2.1 9) (u2.1 10) (u2.1 11) (u2.2.1 0) (u2.2.1 1) (u2.2.1 2) (u2.2.1 3) (u2.2.1 4) (u2.2.1 5) (u2.2.1 6) (u2.2.1 7) (u2.2.1 8) q5 0 (u6.1 0) (u6.1 1) (u6.1 2) (u6.1 3) (u6.1 4) (u6.1 5) (u6.1 6) (u6.1 7) (u6.1 8) q9 q11  (lv_sub hl [0, 1, 2, 3, 4, 5] rfl) (hP.sub [0, 1, 2, 3, 4, 5, 6, 7, 8, 9, 10, 21] rfl) (hD.sub [0, 1, 2, 3, 4, 5, 6, 7, 8, 9, 10, 21] (by decide) rfl) (hK.sub [0, 1, 2, 3, 4, 5, 6, 7, 8] rfl) hS
    refine lv_tableOut (tgt := 3320) hx hb dL_law_44 (Or.inr (by rw [nI_toInt (by omega)]; omega)) (by decide) ?_
    refine W.widen (k := 600006) (n := 7302040) (Nat.le_of_ble_eq_true rfl) (Nat.le_of_ble_eq_true rfl) ?_
    exact hend _ _ _ (lv_sub hl [0, 5] rfl) hS
