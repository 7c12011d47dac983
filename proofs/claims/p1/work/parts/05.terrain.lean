theorem dX4_canEnter_0 : decode cX4_canEnter 0 = .ok (.iload_n 2, 1) := by decide +kernel
theorem dX4_canEnter_1 : decode cX4_canEnter 1 = .ok (.ifCond .eq 22, 3) := by decide +kernel
theorem dX4_canEnter_23 : decode cX4_canEnter 23 = .ok (.aload_n 0, 1) := by decide +kernel
theorem dX4_canEnter_24 : decode cX4_canEnter 24 = .ok (.getfield 18, 3) := by decide +kernel
theorem dX4_canEnter_27 : decode cX4_canEnter 27 = .ok (.iload_n 1, 1) := by decide +kernel
theorem dX4_canEnter_28 : decode cX4_canEnter 28 = .ok (.caload, 1) := by decide +kernel
theorem dX4_canEnter_29 : decode cX4_canEnter 29 = .ok (.bipush 119, 2) := by decide +kernel
theorem dX4_canEnter_31 : decode cX4_canEnter 31 = .ok (.if_icmp .eq 7, 3) := by decide +kernel
theorem dX4_canEnter_34 : decode cX4_canEnter 34 = .ok (.iconst 1, 1) := by decide +kernel
theorem dX4_canEnter_35 : decode cX4_canEnter 35 = .ok (.goto 4, 3) := by decide +kernel
theorem dX4_canEnter_39 : decode cX4_canEnter 39 = .ok (.ireturn, 1) := by decide +kernel
theorem dX4_canEnter_4 : decode cX4_canEnter 4 = .ok (.aload_n 0, 1) := by decide +kernel
theorem dX4_canEnter_5 : decode cX4_canEnter 5 = .ok (.getfield 25, 3) := by decide +kernel
theorem dX4_canEnter_8 : decode cX4_canEnter 8 = .ok (.iload_n 1, 1) := by decide +kernel
theorem dX4_canEnter_9 : decode cX4_canEnter 9 = .ok (.caload, 1) := by decide +kernel
theorem dX4_canEnter_10 : decode cX4_canEnter 10 = .ok (.bipush 46, 2) := by decide +kernel
theorem dX4_canEnter_12 : decode cX4_canEnter 12 = .ok (.if_icmp .ne 7, 3) := by decide +kernel
theorem dX4_canEnter_15 : decode cX4_canEnter 15 = .ok (.iconst 1, 1) := by decide +kernel
theorem dX4_canEnter_16 : decode cX4_canEnter 16 = .ok (.goto 23, 3) := by decide +kernel
theorem dX4_step_0 : decode cX4_step 0 = .ok (.iload_n 3, 1) := by decide +kernel
theorem dX4_step_1 : decode cX4_step 1 = .ok (.ifCond .eq 12, 3) := by decide +kernel
theorem dX4_step_13 : decode cX4_step 13 = .ok (.aload_n 0, 1) := by decide +kernel
theorem dX4_step_14 : decode cX4_step 14 = .ok (.getfield 9, 3) := by decide +kernel
theorem dX4_step_17 : decode cX4_step 17 = .ok (.iload_n 2, 1) := by decide +kernel
theorem dX4_step_18 : decode cX4_step 18 = .ok (.iaload, 1) := by decide +kernel
theorem dX4_step_19 : decode cX4_step 19 = .ok (.istore 4, 2) := by decide +kernel
theorem dX4_step_21 : decode cX4_step 21 = .ok (.iconst 0, 1) := by decide +kernel
theorem dX4_step_22 : decode cX4_step 22 = .ok (.aload_n 0, 1) := by decide +kernel
theorem dX4_step_23 : decode cX4_step 23 = .ok (.getfield 15, 3) := by decide +kernel
theorem dX4_step_26 : decode cX4_step 26 = .ok (.iload_n 2, 1) := by decide +kernel
theorem dX4_step_27 : decode cX4_step 27 = .ok (.iaload, 1) := by decide +kernel
theorem dX4_step_28 : decode cX4_step 28 = .ok (.aload_n 0, 1) := by decide +kernel
theorem dX4_step_29 : decode cX4_step 29 = .ok (.getfield 15, 3) := by decide +kernel
theorem dX4_step_32 : decode cX4_step 32 = .ok (.iload_n 1, 1) := by decide +kernel
theorem dX4_step_33 : decode cX4_step 33 = .ok (.iaload, 1) := by decide +kernel
theorem dX4_step_34 : decode cX4_step 34 = .ok (.isub, 1) := by decide +kernel
theorem dX4_step_35 : decode cX4_step 35 = .ok (.invokestatic 83, 3) := by decide +kernel
theorem dX4_step_38 : decode cX4_step 38 = .ok (.istore 5, 2) := by decide +kernel
theorem dX4_step_40 : decode cX4_step 40 = .ok (.bipush 10, 2) := by decide +kernel
theorem dX4_step_42 : decode cX4_step 42 = .ok (.iconst 5, 1) := by decide +kernel
theorem dX4_step_43 : decode cX4_step 43 = .ok (.iload 4, 2) := by decide +kernel
theorem dX4_step_45 : decode cX4_step 45 = .ok (.imul, 1) := by decide +kernel
theorem dX4_step_46 : decode cX4_step 46 = .ok (.iadd, 1) := by decide +kernel
theorem dX4_step_47 : decode cX4_step 47 = .ok (.bipush 6, 2) := by decide +kernel
theorem dX4_step_49 : decode cX4_step 49 = .ok (.iload 5, 2) := by decide +kernel
theorem dX4_step_51 : decode cX4_step 51 = .ok (.imul, 1) := by decide +kernel
theorem dX4_step_52 : decode cX4_step 52 = .ok (.iadd, 1) := by decide +kernel
theorem dX4_step_53 : decode cX4_step 53 = .ok (.ireturn, 1) := by decide +kernel
theorem dX4_step_4 : decode cX4_step 4 = .ok (.aload_n 0, 1) := by decide +kernel
theorem dX4_step_5 : decode cX4_step 5 = .ok (.getfield 22, 3) := by decide +kernel
theorem dX4_step_8 : decode cX4_step 8 = .ok (.iload_n 2, 1) := by decide +kernel
theorem dX4_step_9 : decode cX4_step 9 = .ok (.iaload, 1) := by decide +kernel
theorem dX4_step_10 : decode cX4_step 10 = .ok (.goto 9, 3) := by decide +kernel
theorem dX4_reach_0 : decode cX4_reach 0 = .ok (.iload_n 2, 1) := by decide +kernel
theorem dX4_reach_1 : decode cX4_reach 1 = .ok (.aload_n 0, 1) := by decide +kernel
theorem dX4_reach_2 : decode cX4_reach 2 = .ok (.getfield 28, 3) := by decide +kernel
theorem dX4_reach_5 : decode cX4_reach 5 = .ok (.iload_n 1, 1) := by decide +kernel
theorem dX4_reach_6 : decode cX4_reach 6 = .ok (.iaload, 1) := by decide +kernel
theorem dX4_reach_7 : decode cX4_reach 7 = .ok (.if_icmp .lt 4, 3) := by decide +kernel
theorem dX4_reach_11 : decode cX4_reach 11 = .ok (.aload_n 0, 1) := by decide +kernel
theorem dX4_reach_12 : decode cX4_reach 12 = .ok (.getfield 28, 3) := by decide +kernel
theorem dX4_reach_15 : decode cX4_reach 15 = .ok (.iload_n 1, 1) := by decide +kernel
theorem dX4_reach_16 : decode cX4_reach 16 = .ok (.iload_n 2, 1) := by decide +kernel
theorem dX4_reach_17 : decode cX4_reach 17 = .ok (.iastore, 1) := by decide +kernel
theorem dX4_reach_18 : decode cX4_reach 18 = .ok (.aload_n 0, 1) := by decide +kernel
theorem dX4_reach_19 : decode cX4_reach 19 = .ok (.getfield 43, 3) := by decide +kernel
theorem dX4_reach_22 : decode cX4_reach 22 = .ok (.iload_n 1, 1) := by decide +kernel
theorem dX4_reach_23 : decode cX4_reach 23 = .ok (.baload, 1) := by decide +kernel
theorem dX4_reach_24 : decode cX4_reach 24 = .ok (.ifCond .ne 62, 3) := by decide +kernel
theorem dX4_reach_86 : decode cX4_reach 86 = .ok (.return_, 1) := by decide +kernel
theorem dX4_reach_27 : decode cX4_reach 27 = .ok (.aload_n 0, 1) := by decide +kernel
theorem dX4_reach_28 : decode cX4_reach 28 = .ok (.getfield 90, 3) := by decide +kernel
theorem dX4_reach_31 : decode cX4_reach 31 = .ok (.sipush 144, 3) := by decide +kernel
theorem dX4_reach_34 : decode cX4_reach 34 = .ok (.if_icmp .ge 52, 3) := by decide +kernel
theorem dX4_reach_37 : decode cX4_reach 37 = .ok (.aload_n 0, 1) := by decide +kernel
theorem dX4_reach_38 : decode cX4_reach 38 = .ok (.getfield 87, 3) := by decide +kernel
theorem dX4_reach_41 : decode cX4_reach 41 = .ok (.aload_n 0, 1) := by decide +kernel
theorem dX4_reach_42 : decode cX4_reach 42 = .ok (.getfield 90, 3) := by decide +kernel
theorem dX4_reach_45 : decode cX4_reach 45 = .ok (.iadd, 1) := by decide +kernel
theorem dX4_reach_46 : decode cX4_reach 46 = .ok (.istore_n 3, 1) := by decide +kernel
theorem dX4_reach_47 : decode cX4_reach 47 = .ok (.aload_n 0, 1) := by decide +kernel
theorem dX4_reach_48 : decode cX4_reach 48 = .ok (.getfield 40, 3) := by decide +kernel
theorem dX4_reach_51 : decode cX4_reach 51 = .ok (.iload_n 3, 1) := by decide +kernel
theorem dX4_reach_52 : decode cX4_reach 52 = .ok (.sipush 144, 3) := by decide +kernel
theorem dX4_reach_55 : decode cX4_reach 55 = .ok (.if_icmp .ge 7, 3) := by decide +kernel
theorem dX4_reach_62 : decode cX4_reach 62 = .ok (.iload_n 3, 1) := by decide +kernel
theorem dX4_reach_63 : decode cX4_reach 63 = .ok (.sipush 144, 3) := by decide +kernel
theorem dX4_reach_66 : decode cX4_reach 66 = .ok (.isub, 1) := by decide +kernel
theorem dX4_reach_67 : decode cX4_reach 67 = .ok (.iload_n 1, 1) := by decide +kernel
theorem dX4_reach_68 : decode cX4_reach 68 = .ok (.iastore, 1) := by decide +kernel
theorem dX4_reach_69 : decode cX4_reach 69 = .ok (.aload_n 0, 1) := by decide +kernel
theorem dX4_reach_70 : decode cX4_reach 70 = .ok (.getfield 43, 3) := by decide +kernel
theorem dX4_reach_73 : decode cX4_reach 73 = .ok (.iload_n 1, 1) := by decide +kernel
theorem dX4_reach_74 : decode cX4_reach 74 = .ok (.iconst 1, 1) := by decide +kernel
theorem dX4_reach_75 : decode cX4_reach 75 = .ok (.bastore, 1) := by decide +kernel
theorem dX4_reach_76 : decode cX4_reach 76 = .ok (.aload_n 0, 1) := by decide +kernel
theorem dX4_reach_77 : decode cX4_reach 77 = .ok (.dup, 1) := by decide +kernel
theorem dX4_reach_78 : decode cX4_reach 78 = .ok (.getfield 90, 3) := by decide +kernel
theorem dX4_reach_81 : decode cX4_reach 81 = .ok (.iconst 1, 1) := by decide +kernel
theorem dX4_reach_82 : decode cX4_reach 82 = .ok (.iadd, 1) := by decide +kernel
theorem dX4_reach_83 : decode cX4_reach 83 = .ok (.putfield 90, 3) := by decide +kernel
theorem dX4_reach_58 : decode cX4_reach 58 = .ok (.iload_n 3, 1) := by decide +kernel
theorem dX4_reach_59 : decode cX4_reach 59 = .ok (.goto 8, 3) := by decide +kernel
theorem dX4_reach_10 : decode cX4_reach 10 = .ok (.return_, 1) := by decide +kernel
theorem dX4_takeFirst_0 : decode cX4_takeFirst 0 = .ok (.aload_n 0, 1) := by decide +kernel
theorem dX4_takeFirst_1 : decode cX4_takeFirst 1 = .ok (.getfield 40, 3) := by decide +kernel
theorem dX4_takeFirst_4 : decode cX4_takeFirst 4 = .ok (.aload_n 0, 1) := by decide +kernel
theorem dX4_takeFirst_5 : decode cX4_takeFirst 5 = .ok (.getfield 87, 3) := by decide +kernel
theorem dX4_takeFirst_8 : decode cX4_takeFirst 8 = .ok (.iaload, 1) := by decide +kernel
theorem dX4_takeFirst_9 : decode cX4_takeFirst 9 = .ok (.istore_n 1, 1) := by decide +kernel
theorem dX4_takeFirst_10 : decode cX4_takeFirst 10 = .ok (.aload_n 0, 1) := by decide +kernel
theorem dX4_takeFirst_11 : decode cX4_takeFirst 11 = .ok (.aload_n 0, 1) := by decide +kernel
theorem dX4_takeFirst_12 : decode cX4_takeFirst 12 = .ok (.getfield 87, 3) := by decide +kernel
theorem dX4_takeFirst_15 : decode cX4_takeFirst 15 = .ok (.iconst 1, 1) := by decide +kernel
theorem dX4_takeFirst_16 : decode cX4_takeFirst 16 = .ok (.iadd, 1) := by decide +kernel
theorem dX4_takeFirst_17 : decode cX4_takeFirst 17 = .ok (.sipush 144, 3) := by decide +kernel
theorem dX4_takeFirst_20 : decode cX4_takeFirst 20 = .ok (.if_icmp .ge 12, 3) := by decide +kernel
theorem dX4_takeFirst_32 : decode cX4_takeFirst 32 = .ok (.iconst 0, 1) := by decide +kernel
theorem dX4_takeFirst_33 : decode cX4_takeFirst 33 = .ok (.putfield 87, 3) := by decide +kernel
theorem dX4_takeFirst_36 : decode cX4_takeFirst 36 = .ok (.aload_n 0, 1) := by decide +kernel
theorem dX4_takeFirst_37 : decode cX4_takeFirst 37 = .ok (.dup, 1) := by decide +kernel
theorem dX4_takeFirst_38 : decode cX4_takeFirst 38 = .ok (.getfield 90, 3) := by decide +kernel
theorem dX4_takeFirst_41 : decode cX4_takeFirst 41 = .ok (.iconst 1, 1) := by decide +kernel
theorem dX4_takeFirst_42 : decode cX4_takeFirst 42 = .ok (.isub, 1) := by decide +kernel
theorem dX4_takeFirst_43 : decode cX4_takeFirst 43 = .ok (.putfield 90, 3) := by decide +kernel
theorem dX4_takeFirst_46 : decode cX4_takeFirst 46 = .ok (.aload_n 0, 1) := by decide +kernel
theorem dX4_takeFirst_47 : decode cX4_takeFirst 47 = .ok (.getfield 43, 3) := by decide +kernel
theorem dX4_takeFirst_50 : decode cX4_takeFirst 50 = .ok (.iload_n 1, 1) := by decide +kernel
theorem dX4_takeFirst_51 : decode cX4_takeFirst 51 = .ok (.iconst 0, 1) := by decide +kernel
theorem dX4_takeFirst_52 : decode cX4_takeFirst 52 = .ok (.bastore, 1) := by decide +kernel
theorem dX4_takeFirst_53 : decode cX4_takeFirst 53 = .ok (.iload_n 1, 1) := by decide +kernel
theorem dX4_takeFirst_54 : decode cX4_takeFirst 54 = .ok (.ireturn, 1) := by decide +kernel
theorem dX4_takeFirst_23 : decode cX4_takeFirst 23 = .ok (.aload_n 0, 1) := by decide +kernel
theorem dX4_takeFirst_24 : decode cX4_takeFirst 24 = .ok (.getfield 87, 3) := by decide +kernel
theorem dX4_takeFirst_27 : decode cX4_takeFirst 27 = .ok (.iconst 1, 1) := by decide +kernel
theorem dX4_takeFirst_28 : decode cX4_takeFirst 28 = .ok (.iadd, 1) := by decide +kernel
theorem dX4_takeFirst_29 : decode cX4_takeFirst 29 = .ok (.goto 4, 3) := by decide +kernel
/-! the terrain's search, method by method -/
/-- kinds: open on the first 25 cells -/
def okF : Nat → Int32 := fun j => if j < 25 then 46 else 0
theorem okF_at {e : Nat} (h : e ≤ 24) : okF (nI e).toNatClampNeg = 46 := by
  rw [nI_clamp (by omega)]
  exact if_pos (by omega)
def us_c_canEnter : List Cond := .code yX4_canEnter cX4_canEnter 3 (some .boolean) :: (([.fieldLink RX4 18 "ControlWood$Terrain" "kinds" "[C", .fieldLink RX4 25 "ControlWood$Terrain" "shownKinds" "[C"] : List Cond) ++ (wsX40 ++ ([])))
theorem gw_c_canEnter : ∀ w ∈ us_c_canEnter, goodWord w = true := gw_cons rfl (gw_app (by decide +kernel) (gw_app gwf_X4 (fun _ h => nomatch h)))
set_option maxHeartbeats 4000000 in
set_option maxRecDepth 100000 in
/-- canEnter, on a land of open cells: yes -/
theorem c_canEnter (l : Launch) (hst : l.stackTraces = false) (D : va_G) (g : Nat) (a1 : Nat) (a2 : Nat) (a3 : Nat) (a4 : Nat) (a5 : Nat) (a6 : Nat) (a7 : Nat) (a8 : Nat) (a9 : Nat) (a10 : Nat) (a11 : Nat) (n : Int32) (hd : Int32) (wt : Int32) (ck : ClassId) (csk : ClassId) (ce : Nat) (mp : Int32) (sz : Nat) (hc : ce ≤ 24) : Met l yX4_canEnter us_c_canEnter { frames := 0, cells := 0, slots := 0, locals := 0 } (pw D [.ref g, .int (nI ce), .int mp] [(ck, .char), (csk, .char)] [(g, .inr (11, [.int n, .ref a1, .ref a2, .ref a3, .ref a4, .ref a5, .ref a6, .ref a7, .ref a8, .ref a9, .ref a10, .ref a11, .int hd, .int wt])), (a3, .inl (ck, 144, .inl okF)), (a5, .inl (csk, 144, .inl okF))] sz) (va_Qi (fun (r : Int32) (_ : Unit) => r = 1) (qb D (va_A [(g, .inr (11, [.int n, .ref a1, .ref a2, .ref a3, .ref a4, .ref a5, .ref a6, .ref a7, .ref a8, .ref a9, .ref a10, .ref a11, .int hd, .int wt])), (a3, .inl (ck, 144, .inl okF)), (a5, .inl (csk, 144, .inl okF))] sz) (fun _ : Unit => [(g, .inr (11, [.int n, .ref a1, .ref a2, .ref a3, .ref a4, .ref a5, .ref a6, .ref a7, .ref a8, .ref a9, .ref a10, .ref a11, .int hd, .int wt])), (a3, .inl (ck, 144, .inl okF)), (a5, .inl (csk, 144, .inl okF))]) (fun _ : Unit => ([] : List (ClassId × FieldType)))) (va_A [(g, .inr (11, [.int n, .ref a1, .ref a2, .ref a3, .ref a4, .ref a5, .ref a6, .ref a7, .ref a8, .ref a9, .ref a10, .ref a11, .int hd, .int wt])), (a3, .inl (ck, 144, .inl okF)), (a5, .inl (csk, 144, .inl okF))] sz)) 0 0 (va_A [(g, .inr (11, [.int n, .ref a1, .ref a2, .ref a3, .ref a4, .ref a5, .ref a6, .ref a7, .ref a8, .ref a9, .ref a10, .ref a11, .int hd, .int wt])), (a3, .inl (ck, 144, .inl okF)), (a5, .inl (csk, 144, .inl okF))] sz) := by
  refine op_M (Qc := fun A => (va_Qi (fun (r : Int32) (_ : Unit) => r = 1) (qb D A (fun _ : Unit => [(g, .inr (11, [.int n, .ref a1, .ref a2, .ref a3, .ref a4, .ref a5, .ref a6, .ref a7, .ref a8, .ref a9, .ref a10, .ref a11, .int hd, .int wt])), (a3, .inl (ck, 144, .inl okF)), (a5, .inl (csk, 144, .inl okF))]) (fun _ : Unit => ([] : List (ClassId × FieldType)))) A)) (by decide +kernel) rfl (Nat.le_of_ble_eq_true rfl) ?_
  intro p e s m args below meth c A ls hx hb hr hml hts hown hlocks hmn htab hA hD hS hP hK hE hsz hl
  have hown : s.vm.findClass RX4 = some m.cls := hown
  have hl : lv_has ls 3 [(0, .ref g), (1, .int (nI ce)), (2, .int mp)] := hl
  have hw_0 := hts (.fieldLink RX4 18 "ControlWood$Terrain" "kinds" "[C") (List.mem_cons_of_mem _ (List.mem_append_left _ (List.mem_of_getElem? (i := 0) rfl)))
  have hw_1 := hts (.fieldLink RX4 25 "ControlWood$Terrain" "shownKinds" "[C") (List.mem_cons_of_mem _ (List.mem_append_left _ (List.mem_of_getElem? (i := 1) rfl)))
  have hb_0 : ∀ w ∈ wsX40, w ∈ us_c_canEnter := fun w h => List.mem_cons_of_mem _ (List.mem_append_right _ (List.mem_append_left _ h))
  refine lv_iload_n hx hb dX4_canEnter_0 rfl (lv_at hl 2 rfl) ?_
  refine lv_if_eq (tgt := 23) hx hb dX4_canEnter_1 (by decide) (fun h1 => ?_) (fun h1 => ?_)
  · refine lv_aload_n hx hb dX4_canEnter_23 rfl (lv_at hl 0 rfl) ?_
    refine va_get (D := D) (ci := 11) (v := .ref a3) (C := RX4) (T := TX4) (N := 14) hx hb hts hb_0 hown hK hP 0 rfl rfl 3 (by decide) hw_0 (fun _ h9 => h9) rfl dX4_canEnter_24 ?_
    refine lv_iload_n hx hb dX4_canEnter_27 rfl (lv_at hl 1 rfl) ?_
    refine va_cald hx hb hK hP 1 0 rfl rfl (vp_in_nI (n := ce) (by omega) (by decide)) dX4_canEnter_28 ?_
    refine lv_topi (fun x2 e2 => ?_)
    obtain rfl : x2 = 46 := e2.trans (okF_at (by omega))
    refine lv_bipush (v := 119) hx hb dX4_canEnter_29 (by decide) ?_
    refine lv_icmp_eq (tgt := 38) hx hb dX4_canEnter_31 (by decide) (fun h3 => absurd h3 (by decide)) (fun h3 => ?_)
    refine lv_iconst (v := 1) hx hb dX4_canEnter_34 (by decide) ?_
    refine lv_goto (tgt := 39) hx hb dX4_canEnter_35 (by decide) ?_
    exact mr_z (rfl) hx hb hr () (rfl) (hP.sub [0, 1, 2] rfl) (hK.sub [] rfl) (hD.sub [0, 1, 2] (by decide) rfl) hS (Nat.le_of_ble_eq_true rfl) (Nat.le_of_ble_eq_true rfl) hlocks dX4_canEnter_39
  · refine lv_aload_n hx hb dX4_canEnter_4 rfl (lv_at hl 0 rfl) ?_
    refine va_get (D := D) (ci := 11) (v := .ref a5) (C := RX4) (T := TX4) (N := 14) hx hb hts hb_0 hown hK hP 0 rfl rfl 5 (by decide) hw_1 (fun _ h9 => h9) rfl dX4_canEnter_5 ?_
    refine lv_iload_n hx hb dX4_canEnter_8 rfl (lv_at hl 1 rfl) ?_
    refine va_cald hx hb hK hP 2 1 rfl rfl (vp_in_nI (n := ce) (by omega) (by decide)) dX4_canEnter_9 ?_
    refine lv_topi (fun x4 e4 => ?_)
    obtain rfl : x4 = 46 := e4.trans (okF_at (by omega))
    refine lv_bipush (v := 46) hx hb dX4_canEnter_10 (by decide) ?_
    refine lv_icmp_ne (tgt := 19) hx hb dX4_canEnter_12 (by decide) (fun h5 => absurd h5 (by decide)) (fun h5 => ?_)
    refine lv_iconst (v := 1) hx hb dX4_canEnter_15 (by decide) ?_
    refine lv_goto (tgt := 39) hx hb dX4_canEnter_16 (by decide) ?_
    exact mr_z (rfl) hx hb hr () (rfl) (hP.sub [0, 1, 2] rfl) (hK.sub [] rfl) (hD.sub [0, 1, 2] (by decide) rfl) hS (Nat.le_of_ble_eq_true rfl) (Nat.le_of_ble_eq_true rfl) hlocks dX4_canEnter_39

def us_c_step : List Cond := .code yX4_step cX4_step 6 (some .int) :: (([.fieldLink RX4 9 "ControlWood$Terrain" "growths" "[I", .fieldLink RX4 15 "ControlWood$Terrain" "heights" "[I", .methodLink RX4 83 Lib.Math.max.name, .static Lib.Math.max.name, .initialized "java/lang/Math", .code Lib.Math.max.name Lib.Math.max.code 2 (some .int), .fieldLink RX4 22 "ControlWood$Terrain" "shownGrowths" "[I"] : List Cond) ++ (wsX40 ++ ([])))
theorem gw_c_step : ∀ w ∈ us_c_step, goodWord w = true := gw_cons rfl (gw_app (by decide +kernel) (gw_app gwf_X4 (fun _ h => nomatch h)))
set_option maxHeartbeats 4000000 in
set_option maxRecDepth 100000 in
/-- step, where nothing has grown and all is as high: 10 -/
theorem c_step (l : Launch) (hst : l.stackTraces = false) (D : va_G) (g : Nat) (a1 : Nat) (a2 : Nat) (a3 : Nat) (a4 : Nat) (a5 : Nat) (a6 : Nat) (a7 : Nat) (a8 : Nat) (a9 : Nat) (a10 : Nat) (a11 : Nat) (n : Int32) (hd : Int32) (wt : Int32) (cg : ClassId) (ch : ClassId) (csg : ClassId) (ce : Nat) (cf : Nat) (mp : Int32) (sz : Nat) (hc : ce ≤ 24) (hc2 : cf ≤ 24) : Met l yX4_step us_c_step { frames := 1, cells := 0, slots := 0, locals := 15 } (pw D [.ref g, .int (nI ce), .int (nI cf), .int mp] [(cg, .int), (ch, .int), (csg, .int)] [(g, .inr (11, [.int n, .ref a1, .ref a2, .ref a3, .ref a4, .ref a5, .ref a6, .ref a7, .ref a8, .ref a9, .ref a10, .ref a11, .int hd, .int wt])), (a1, .inl (cg, 144, .inl (fun _ => 0))), (a2, .inl (ch, 144, .inl (fun _ => 0))), (a4, .inl (csg, 144, .inl (fun _ => 0)))] sz) (va_Qi (fun (r : Int32) (_ : Unit) => r = 10) (qb D (va_A [(g, .inr (11, [.int n, .ref a1, .ref a2, .ref a3, .ref a4, .ref a5, .ref a6, .ref a7, .ref a8, .ref a9, .ref a10, .ref a11, .int hd, .int wt])), (a1, .inl (cg, 144, .inl (fun _ => 0))), (a2, .inl (ch, 144, .inl (fun _ => 0))), (a4, .inl (csg, 144, .inl (fun _ => 0)))] sz) (fun _ : Unit => [(g, .inr (11, [.int n, .ref a1, .ref a2, .ref a3, .ref a4, .ref a5, .ref a6, .ref a7, .ref a8, .ref a9, .ref a10, .ref a11, .int hd, .int wt])), (a1, .inl (cg, 144, .inl (fun _ => 0))), (a2, .inl (ch, 144, .inl (fun _ => 0))), (a4, .inl (csg, 144, .inl (fun _ => 0)))]) (fun _ : Unit => ([] : List (ClassId × FieldType)))) (va_A [(g, .inr (11, [.int n, .ref a1, .ref a2, .ref a3, .ref a4, .ref a5, .ref a6, .ref a7, .ref a8, .ref a9, .ref a10, .ref a11, .int hd, .int wt])), (a1, .inl (cg, 144, .inl (fun _ => 0))), (a2, .inl (ch, 144, .inl (fun _ => 0))), (a4, .inl (csg, 144, .inl (fun _ => 0)))] sz)) 0 0 (va_A [(g, .inr (11, [.int n, .ref a1, .ref a2, .ref a3, .ref a4, .ref a5, .ref a6, .ref a7, .ref a8, .ref a9, .ref a10, .ref a11, .int hd, .int wt])), (a1, .inl (cg, 144, .inl (fun _ => 0))), (a2, .inl (ch, 144, .inl (fun _ => 0))), (a4, .inl (csg, 144, .inl (fun _ => 0)))] sz) := by
  refine op_M (Qc := fun A => (va_Qi (fun (r : Int32) (_ : Unit) => r = 10) (qb D A (fun _ : Unit => [(g, .inr (11, [.int n, .ref a1, .ref a2, .ref a3, .ref a4, .ref a5, .ref a6, .ref a7, .ref a8, .ref a9, .ref a10, .ref a11, .int hd, .int wt])), (a1, .inl (cg, 144, .inl (fun _ => 0))), (a2, .inl (ch, 144, .inl (fun _ => 0))), (a4, .inl (csg, 144, .inl (fun _ => 0)))]) (fun _ : Unit => ([] : List (ClassId × FieldType)))) A)) (by decide +kernel) rfl (Nat.le_of_ble_eq_true rfl) ?_
  intro p e s m args below meth c A ls hx hb hr hml hts hown hlocks hmn htab hA hD hS hP hK hE hsz hl
  have hown : s.vm.findClass RX4 = some m.cls := hown
  have hl : lv_has ls 6 [(0, .ref g), (1, .int (nI ce)), (2, .int (nI cf)), (3, .int mp)] := hl
  have hw_0 := hts (.fieldLink RX4 9 "ControlWood$Terrain" "growths" "[I") (List.mem_cons_of_mem _ (List.mem_append_left _ (List.mem_of_getElem? (i := 0) rfl)))
  have hw_1 := hts (.fieldLink RX4 15 "ControlWood$Terrain" "heights" "[I") (List.mem_cons_of_mem _ (List.mem_append_left _ (List.mem_of_getElem? (i := 1) rfl)))
  have hw_2 := hts (.methodLink RX4 83 Lib.Math.max.name) (List.mem_cons_of_mem _ (List.mem_append_left _ (List.mem_of_getElem? (i := 2) rfl)))
  have hw_3 := hts (.static Lib.Math.max.name) (List.mem_cons_of_mem _ (List.mem_append_left _ (List.mem_of_getElem? (i := 3) rfl)))
  have hw_4 := hts (.initialized "java/lang/Math") (List.mem_cons_of_mem _ (List.mem_append_left _ (List.mem_of_getElem? (i := 4) rfl)))
  have hw_5 := hts (.code Lib.Math.max.name Lib.Math.max.code 2 (some .int)) (List.mem_cons_of_mem _ (List.mem_append_left _ (List.mem_of_getElem? (i := 5) rfl)))
  have hw_6 := hts (.fieldLink RX4 22 "ControlWood$Terrain" "shownGrowths" "[I") (List.mem_cons_of_mem _ (List.mem_append_left _ (List.mem_of_getElem? (i := 6) rfl)))
  have hb_0 : ∀ w ∈ wsX40, w ∈ us_c_step := fun w h => List.mem_cons_of_mem _ (List.mem_append_right _ (List.mem_append_left _ h))
  refine lv_iload_n hx hb dX4_step_0 rfl (lv_at hl 3 rfl) ?_
  refine lv_if_eq (tgt := 13) hx hb dX4_step_1 (by decide) (fun h1 => ?_) (fun h1 => ?_)
  · refine lv_aload_n hx hb dX4_step_13 rfl (lv_at hl 0 rfl) ?_
    refine va_get (D := D) (ci := 11) (v := .ref a1) (C := RX4) (T := TX4) (N := 14) hx hb hts hb_0 hown hK hP 0 rfl rfl 1 (by decide) hw_0 (fun _ h9 => h9) rfl dX4_step_14 ?_
    refine lv_iload_n hx hb dX4_step_17 rfl (lv_at hl 2 rfl) ?_
    refine va_iald hx hb hK hP 1 0 rfl rfl (vp_in_nI (n := cf) (by omega) (by decide)) dX4_step_18 ?_
    refine lv_topi (fun x2 e2 => ?_)
    obtain rfl : x2 = 0 := e2
    refine lv_istore (lv' := [(4, .int 0), (0, .ref g), (1, .int (nI ce)), (2, .int (nI cf)), (3, .int mp)]) hx hb dX4_step_19 hl (by decide) rfl (fun ls hl => ?_)
    refine lv_iconst (v := 0) hx hb dX4_step_21 (by decide) ?_
    refine lv_aload_n hx hb dX4_step_22 rfl (lv_at hl 1 rfl) ?_
    refine va_get (D := D) (ci := 11) (v := .ref a2) (C := RX4) (T := TX4) (N := 14) hx hb hts hb_0 hown hK hP 0 rfl rfl 2 (by decide) hw_1 (fun _ h9 => h9) rfl dX4_step_23 ?_
    refine lv_iload_n hx hb dX4_step_26 rfl (lv_at hl 3 rfl) ?_
    refine va_iald hx hb hK hP 2 1 rfl rfl (vp_in_nI (n := cf) (by omega) (by decide)) dX4_step_27 ?_
    refine lv_topi (fun x3 e3 => ?_)
    obtain rfl : x3 = 0 := e3
    refine lv_aload_n hx hb dX4_step_28 rfl (lv_at hl 1 rfl) ?_
    refine va_get (D := D) (ci := 11) (v := .ref a2) (C := RX4) (T := TX4) (N := 14) hx hb hts hb_0 hown hK hP 0 rfl rfl 2 (by decide) hw_1 (fun _ h9 => h9) rfl dX4_step_29 ?_
    refine lv_iload_n hx hb dX4_step_32 rfl (lv_at hl 2 rfl) ?_
    refine va_iald hx hb hK hP 2 1 rfl rfl (vp_in_nI (n := ce) (by omega) (by decide)) dX4_step_33 ?_
    refine lv_topi (fun x4 e4 => ?_)
    obtain rfl : x4 = 0 := e4
    refine lv_isub hx hb dX4_step_34 ?_
    refine lv_topi (fun x5 e5 => ?_)
    obtain rfl : x5 = 0 := e5.trans (by decide)
    refine va_mmax hx hb (by rw [hml]; exact hl.1.symm) hown hw_2 hw_3 hw_4 hw_5 (Nat.le_of_ble_eq_true rfl) (Nat.le_of_ble_eq_true rfl) (Nat.le_of_ble_eq_true rfl) (Nat.le_of_ble_eq_true rfl) dX4_step_35 ?_
    refine lv_topi (fun x6 e6 => ?_)
    obtain rfl : x6 = 0 := e6.trans (by decide)
    refine lv_istore (lv' := [(5, .int 0), (4, .int 0), (0, .ref g), (1, .int (nI ce)), (2, .int (nI cf)), (3, .int mp)]) hx hb dX4_step_38 hl (by decide) rfl (fun ls hl => ?_)
    refine lv_bipush (v := 10) hx hb dX4_step_40 (by decide) ?_
    refine lv_iconst (v := 5) hx hb dX4_step_42 (by decide) ?_
    refine lv_iload hx hb dX4_step_43 (lv_at hl 1 rfl) ?_
    refine lv_imul hx hb dX4_step_45 ?_
    refine lv_topi (fun x7 e7 => ?_)
    obtain rfl : x7 = 0 := e7.trans (by decide)
    refine lv_iadd hx hb dX4_step_46 ?_
    refine lv_topi (fun x8 e8 => ?_)
    obtain rfl : x8 = 10 := e8.trans (by decide)
    refine lv_bipush (v := 6) hx hb dX4_step_47 (by decide) ?_
    refine lv_iload hx hb dX4_step_49 (lv_at hl 0 rfl) ?_
    refine lv_imul hx hb dX4_step_51 ?_
    refine lv_topi (fun x9 e9 => ?_)
    obtain rfl : x9 = 0 := e9.trans (by decide)
    refine lv_iadd hx hb dX4_step_52 ?_
    refine lv_topi (fun x10 e10 => ?_)
    obtain rfl : x10 = 10 := e10.trans (by decide)
    exact mr_i hx hb hr () (rfl) (hP.sub [0, 1, 2, 3] rfl) (hK.sub [] rfl) (hD.sub [0, 1, 2, 3] (by decide) rfl) hS (Nat.le_of_ble_eq_true rfl) (Nat.le_of_ble_eq_true rfl) hlocks dX4_step_53
  · refine lv_aload_n hx hb dX4_step_4 rfl (lv_at hl 0 rfl) ?_
    refine va_get (D := D) (ci := 11) (v := .ref a4) (C := RX4) (T := TX4) (N := 14) hx hb hts hb_0 hown hK hP 0 rfl rfl 4 (by decide) hw_6 (fun _ h9 => h9) rfl dX4_step_5 ?_
    refine lv_iload_n hx hb dX4_step_8 rfl (lv_at hl 2 rfl) ?_
    refine va_iald hx hb hK hP 3 2 rfl rfl (vp_in_nI (n := cf) (by omega) (by decide)) dX4_step_9 ?_
    refine lv_topi (fun x11 e11 => ?_)
    obtain rfl : x11 = 0 := e11
    refine lv_goto (tgt := 19) hx hb dX4_step_10 (by decide) ?_
    refine lv_istore (lv' := [(4, .int 0), (0, .ref g), (1, .int (nI ce)), (2, .int (nI cf)), (3, .int mp)]) hx hb dX4_step_19 hl (by decide) rfl (fun ls hl => ?_)
    refine lv_iconst (v := 0) hx hb dX4_step_21 (by decide) ?_
    refine lv_aload_n hx hb dX4_step_22 rfl (lv_at hl 1 rfl) ?_
    refine va_get (D := D) (ci := 11) (v := .ref a2) (C := RX4) (T := TX4) (N := 14) hx hb hts hb_0 hown hK hP 0 rfl rfl 2 (by decide) hw_1 (fun _ h9 => h9) rfl dX4_step_23 ?_
    refine lv_iload_n hx hb dX4_step_26 rfl (lv_at hl 3 rfl) ?_
    refine va_iald hx hb hK hP 2 1 rfl rfl (vp_in_nI (n := cf) (by omega) (by decide)) dX4_step_27 ?_
    refine lv_topi (fun x12 e12 => ?_)
    obtain rfl : x12 = 0 := e12
    refine lv_aload_n hx hb dX4_step_28 rfl (lv_at hl 1 rfl) ?_
    refine va_get (D := D) (ci := 11) (v := .ref a2) (C := RX4) (T := TX4) (N := 14) hx hb hts hb_0 hown hK hP 0 rfl rfl 2 (by decide) hw_1 (fun _ h9 => h9) rfl dX4_step_29 ?_
    refine lv_iload_n hx hb dX4_step_32 rfl (lv_at hl 2 rfl) ?_
    refine va_iald hx hb hK hP 2 1 rfl rfl (vp_in_nI (n := ce) (by omega) (by decide)) dX4_step_33 ?_
    refine lv_topi (fun x13 e13 => ?_)
    obtain rfl : x13 = 0 := e13
    refine lv_isub hx hb dX4_step_34 ?_
    refine lv_topi (fun x14 e14 => ?_)
    obtain rfl : x14 = 0 := e14.trans (by decide)
    refine va_mmax hx hb (by rw [hml]; exact hl.1.symm) hown hw_2 hw_3 hw_4 hw_5 (Nat.le_of_ble_eq_true rfl) (Nat.le_of_ble_eq_true rfl) (Nat.le_of_ble_eq_true rfl) (Nat.le_of_ble_eq_true rfl) dX4_step_35 ?_
    refine lv_topi (fun x15 e15 => ?_)
    obtain rfl : x15 = 0 := e15.trans (by decide)
    refine lv_istore (lv' := [(5, .int 0), (4, .int 0), (0, .ref g), (1, .int (nI ce)), (2, .int (nI cf)), (3, .int mp)]) hx hb dX4_step_38 hl (by decide) rfl (fun ls hl => ?_)
    refine lv_bipush (v := 10) hx hb dX4_step_40 (by decide) ?_
    refine lv_iconst (v := 5) hx hb dX4_step_42 (by decide) ?_
    refine lv_iload hx hb dX4_step_43 (lv_at hl 1 rfl) ?_
    refine lv_imul hx hb dX4_step_45 ?_
    refine lv_topi (fun x16 e16 => ?_)
    obtain rfl : x16 = 0 := e16.trans (by decide)
    refine lv_iadd hx hb dX4_step_46 ?_
    refine lv_topi (fun x17 e17 => ?_)
    obtain rfl : x17 = 10 := e17.trans (by decide)
    refine lv_bipush (v := 6) hx hb dX4_step_47 (by decide) ?_
    refine lv_iload hx hb dX4_step_49 (lv_at hl 0 rfl) ?_
    refine lv_imul hx hb dX4_step_51 ?_
    refine lv_topi (fun x18 e18 => ?_)
    obtain rfl : x18 = 0 := e18.trans (by decide)
    refine lv_iadd hx hb dX4_step_52 ?_
    refine lv_topi (fun x19 e19 => ?_)
    obtain rfl : x19 = 10 := e19.trans (by decide)
    exact mr_i hx hb hr () (rfl) (hP.sub [0, 1, 2, 3] rfl) (hK.sub [] rfl) (hD.sub [0, 1, 2, 3] (by decide) rfl) hS (Nat.le_of_ble_eq_true rfl) (Nat.le_of_ble_eq_true rfl) hlocks dX4_step_53

def us_c_reach : List Cond := .code yX4_reach cX4_reach 4 none :: (([.fieldLink RX4 28 "ControlWood$Terrain" "ways" "[I", .fieldLink RX4 43 "ControlWood$Terrain" "isQueued" "[Z", .fieldLink RX4 90 "ControlWood$Terrain" "waiting" "I", .fieldLink RX4 87 "ControlWood$Terrain" "head" "I", .fieldLink RX4 40 "ControlWood$Terrain" "queue" "[I"] : List Cond) ++ (wsX40 ++ ([])))
theorem gw_c_reach : ∀ w ∈ us_c_reach, goodWord w = true := gw_cons rfl (gw_app (by decide +kernel) (gw_app gwf_X4 (fun _ h => nomatch h)))
set_option maxHeartbeats 4000000 in
set_option maxRecDepth 100000 in
/-- reach -/
theorem c_reach (l : Launch) (hst : l.stackTraces = false) (D : va_G) (g : Nat) (a1 : Nat) (a2 : Nat) (a3 : Nat) (a4 : Nat) (a5 : Nat) (a6 : Nat) (a7 : Nat) (a8 : Nat) (a9 : Nat) (a10 : Nat) (a11 : Nat) (n : Int32) (cw : ClassId) (cq : ClassId) (cz : ClassId) (w : List Nat) (q : List Nat) (z : List Nat) (h : Nat) (k : Nat) (ce : Nat) (co : Nat) (sz : Nat) (ok : okS w q z h k) (hc : ce ≤ 24) (hco : co < 2 ^ 31) : Met l yX4_reach us_c_reach { frames := 0, cells := 0, slots := 0, locals := 0 } (pw D [.ref g, .int (nI ce), .int (nI co)] [(cw, .int), (cq, .int), (cz, .boolean)] [(g, .inr (11, [.int n, .ref a1, .ref a2, .ref a3, .ref a4, .ref a5, .ref a6, .ref a7, .ref a8, .ref a9, .ref a10, .ref a11, .int (nI h), .int (nI k)])), (a6, .inl (cw, 144, .inl (fL w))), (a10, .inl (cq, 144, .inl (fL q))), (a11, .inl (cz, 144, .inl (fL z)))] sz) (va_Qv (fun u : sS => u = reM w q z h k ce co) (qb D (va_A [(g, .inr (11, [.int n, .ref a1, .ref a2, .ref a3, .ref a4, .ref a5, .ref a6, .ref a7, .ref a8, .ref a9, .ref a10, .ref a11, .int (nI h), .int (nI k)])), (a6, .inl (cw, 144, .inl (fL w))), (a10, .inl (cq, 144, .inl (fL q))), (a11, .inl (cz, 144, .inl (fL z)))] sz) (fun u : sS => [(g, .inr (11, [.int n, .ref a1, .ref a2, .ref a3, .ref a4, .ref a5, .ref a6, .ref a7, .ref a8, .ref a9, .ref a10, .ref a11, .int (nI u.2.2.2.1), .int (nI u.2.2.2.2)])), (a6, .inl (cw, 144, .inl (fL u.1))), (a10, .inl (cq, 144, .inl (fL u.2.1))), (a11, .inl (cz, 144, .inl (fL u.2.2.1)))]) (fun u : sS => ([] : List (ClassId × FieldType)))) (va_A [(g, .inr (11, [.int n, .ref a1, .ref a2, .ref a3, .ref a4, .ref a5, .ref a6, .ref a7, .ref a8, .ref a9, .ref a10, .ref a11, .int (nI h), .int (nI k)])), (a6, .inl (cw, 144, .inl (fL w))), (a10, .inl (cq, 144, .inl (fL q))), (a11, .inl (cz, 144, .inl (fL z)))] sz)) 0 0 (va_A [(g, .inr (11, [.int n, .ref a1, .ref a2, .ref a3, .ref a4, .ref a5, .ref a6, .ref a7, .ref a8, .ref a9, .ref a10, .ref a11, .int (nI h), .int (nI k)])), (a6, .inl (cw, 144, .inl (fL w))), (a10, .inl (cq, 144, .inl (fL q))), (a11, .inl (cz, 144, .inl (fL z)))] sz) := by
  refine op_M (Qc := fun A => (va_Qv (fun u : sS => u = reM w q z h k ce co) (qb D A (fun u : sS => [(g, .inr (11, [.int n, .ref a1, .ref a2, .ref a3, .ref a4, .ref a5, .ref a6, .ref a7, .ref a8, .ref a9, .ref a10, .ref a11, .int (nI u.2.2.2.1), .int (nI u.2.2.2.2)])), (a6, .inl (cw, 144, .inl (fL u.1))), (a10, .inl (cq, 144, .inl (fL u.2.1))), (a11, .inl (cz, 144, .inl (fL u.2.2.1)))]) (fun u : sS => ([] : List (ClassId × FieldType)))) A)) (by decide +kernel) rfl (Nat.le_of_ble_eq_true rfl) ?_
  intro p e s m args below meth c A ls hx hb hr hml hts hown hlocks hmn htab hA hD hS hP hK hE hsz hl
  have hown : s.vm.findClass RX4 = some m.cls := hown
  have hl : lv_has ls 4 [(0, .ref g), (1, .int (nI ce)), (2, .int (nI co))] := hl
  have hw_0 := hts (.fieldLink RX4 28 "ControlWood$Terrain" "ways" "[I") (List.mem_cons_of_mem _ (List.mem_append_left _ (List.mem_of_getElem? (i := 0) rfl)))
  have hw_1 := hts (.fieldLink RX4 43 "ControlWood$Terrain" "isQueued" "[Z") (List.mem_cons_of_mem _ (List.mem_append_left _ (List.mem_of_getElem? (i := 1) rfl)))
  have hw_2 := hts (.fieldLink RX4 90 "ControlWood$Terrain" "waiting" "I") (List.mem_cons_of_mem _ (List.mem_append_left _ (List.mem_of_getElem? (i := 2) rfl)))
  have hw_3 := hts (.fieldLink RX4 87 "ControlWood$Terrain" "head" "I") (List.mem_cons_of_mem _ (List.mem_append_left _ (List.mem_of_getElem? (i := 3) rfl)))
  have hw_4 := hts (.fieldLink RX4 40 "ControlWood$Terrain" "queue" "[I") (List.mem_cons_of_mem _ (List.mem_append_left _ (List.mem_of_getElem? (i := 4) rfl)))
  have hb_0 : ∀ w ∈ wsX40, w ∈ us_c_reach := fun w h => List.mem_cons_of_mem _ (List.mem_append_right _ (List.mem_append_left _ h))
  obtain ⟨ok1, ok2, ok3, ok4, ok5, ok6, ok7, ok8⟩ := ok
  refine lv_iload_n hx hb dX4_reach_0 rfl (lv_at hl 2 rfl) ?_
  refine lv_aload_n hx hb dX4_reach_1 rfl (lv_at hl 0 rfl) ?_
  refine va_get (D := D) (ci := 11) (v := .ref a6) (C := RX4) (T := TX4) (N := 14) hx hb hts hb_0 hown hK hP 0 rfl rfl 6 (by decide) hw_0 (fun _ h9 => h9) rfl dX4_reach_2 ?_
  refine lv_iload_n hx hb dX4_reach_5 rfl (lv_at hl 1 rfl) ?_
  refine va_iald hx hb hK hP 1 0 rfl rfl (vp_in_nI (n := ce) (by omega) (by decide)) dX4_reach_6 ?_
  have b1 := ok6 ce
  refine lv_topi (fun x2 e2 => ?_)
  obtain rfl : x2 = nI (w.getD ce 0) := e2.trans (fL_at (by omega))
  refine lv_icmp_lt (tgt := 11) hx hb dX4_reach_7 (by decide) (fun h3 => ?_) (fun h3 => ?_)
  · have n3 : co < (w.getD ce 0) := (nI_ltI (a := co) (b := (w.getD ce 0)) (by omega) (by omega)).mp h3
    refine lv_aload_n hx hb dX4_reach_11 rfl (lv_at hl 0 rfl) ?_
    refine va_get (D := D) (ci := 11) (v := .ref a6) (C := RX4) (T := TX4) (N := 14) hx hb hts hb_0 hown hK hP 0 rfl rfl 6 (by decide) hw_0 (fun _ h9 => h9) rfl dX4_reach_12 ?_
    refine lv_iload_n hx hb dX4_reach_15 rfl (lv_at hl 1 rfl) ?_
    refine lv_iload_n hx hb dX4_reach_16 rfl (lv_at hl 2 rfl) ?_
    refine va_iast hx hb hK hP hD hS 1 0 rfl rfl (vp_in_nI (n := ce) (by omega) (by decide)) dX4_reach_17 (fun H locs hP hD hS => ?_)
    have hcf : upd (fL w) ((nI ce).toNatClampNeg) (nI co) = fL (w.set ce co) := fL_up (L := w) (k := ce) (v := co) (by omega) (by omega)
    have hP : va_P D vwCl [(g, .inr (11, [.int n, .ref a1, .ref a2, .ref a3, .ref a4, .ref a5, .ref a6, .ref a7, .ref a8, .ref a9, .ref a10, .ref a11, .int (nI h), .int (nI k)])), (a6, .inl (cw, 144, .inl (upd (fL w) ((nI ce).toNatClampNeg) (nI co)))), (a10, .inl (cq, 144, .inl (fL q))), (a11, .inl (cz, 144, .inl (fL z)))] H := hP
    have hD : va_D A [(g, .inr (11, [.int n, .ref a1, .ref a2, .ref a3, .ref a4, .ref a5, .ref a6, .ref a7, .ref a8, .ref a9, .ref a10, .ref a11, .int (nI h), .int (nI k)])), (a6, .inl (cw, 144, .inl (upd (fL w) ((nI ce).toNatClampNeg) (nI co)))), (a10, .inl (cq, 144, .inl (fL q))), (a11, .inl (cz, 144, .inl (fL z)))] := hD
    rw [hcf] at hP hD
    clear hcf
    have hP : va_P D vwCl [(g, .inr (11, [.int n, .ref a1, .ref a2, .ref a3, .ref a4, .ref a5, .ref a6, .ref a7, .ref a8, .ref a9, .ref a10, .ref a11, .int (nI h), .int (nI k)])), (a6, .inl (cw, 144, .inl (fL (w.set ce co)))), (a10, .inl (cq, 144, .inl (fL q))), (a11, .inl (cz, 144, .inl (fL z)))] H := hP
    have hD : va_D A [(g, .inr (11, [.int n, .ref a1, .ref a2, .ref a3, .ref a4, .ref a5, .ref a6, .ref a7, .ref a8, .ref a9, .ref a10, .ref a11, .int (nI h), .int (nI k)])), (a6, .inl (cw, 144, .inl (fL (w.set ce co)))), (a10, .inl (cq, 144, .inl (fL q))), (a11, .inl (cz, 144, .inl (fL z)))] := hD
    refine lv_aload_n hx hb dX4_reach_18 rfl (lv_at hl 0 rfl) ?_
    refine va_get (D := D) (ci := 11) (v := .ref a11) (C := RX4) (T := TX4) (N := 14) hx hb hts hb_0 hown hK hP 0 rfl rfl 11 (by decide) hw_1 (fun _ h9 => h9) rfl dX4_reach_19 ?_
    refine lv_iload_n hx hb dX4_reach_22 rfl (lv_at hl 1 rfl) ?_
    refine va_zald hx hb hK hP 3 2 rfl rfl (vp_in_nI (n := ce) (by omega) (by decide)) dX4_reach_23 ?_
    have b4 := ok8 ce
    refine lv_topi (fun x5 e5 => ?_)
    obtain rfl : x5 = nI (z.getD ce 0) := e5.trans (fL_at (by omega))
    refine lv_if_ne (tgt := 86) hx hb dX4_reach_24 (by decide) (fun h6 => ?_) (fun h6 => ?_)
    · have n6 : ¬ ((z.getD ce 0) = 0) := fun q9 => h6 ((nI_eq (a := (z.getD ce 0)) (b := 0) (by omega) (by omega)).mpr q9)
      exact mr_v hx hb hr (w.set ce co, q, z, h, k) ((re_2 n3 (fun q9 => n6 q9.1))) (hP.sub [0, 1, 2, 3] rfl) (hK.sub [] rfl) (hD.sub [0, 1, 2, 3] (by decide) rfl) hS (Nat.le_of_ble_eq_true rfl) (Nat.le_of_ble_eq_true rfl) hlocks dX4_reach_86
    · have n6 : (z.getD ce 0) = 0 := (nI_eq (a := (z.getD ce 0)) (b := 0) (by omega) (by omega)).mp h6
      refine lv_aload_n hx hb dX4_reach_27 rfl (lv_at hl 0 rfl) ?_
      refine va_get (D := D) (ci := 11) (v := .int (nI k)) (C := RX4) (T := TX4) (N := 14) hx hb hts hb_0 hown hK hP 0 rfl rfl 13 (by decide) hw_2 (fun _ h9 => h9) rfl dX4_reach_28 ?_
      refine lv_sipush (v := 144) hx hb dX4_reach_31 (by decide) ?_
      refine lv_icmp_ge (tgt := 86) hx hb dX4_reach_34 (by decide) (fun h7 => ?_) (fun h7 => ?_)
      · have n7 : 144 ≤ k := (nI_leI (a := 144) (b := k) (by omega) (by omega)).mp h7
        exact mr_v hx hb hr (w.set ce co, q, z, h, k) ((re_2 n3 (fun q9 => absurd q9.2 (by omega)))) (hP.sub [0, 1, 2, 3] rfl) (hK.sub [] rfl) (hD.sub [0, 1, 2, 3] (by decide) rfl) hS (Nat.le_of_ble_eq_true rfl) (Nat.le_of_ble_eq_true rfl) hlocks dX4_reach_86
      · have n7 : ¬ (144 ≤ k) := fun q9 => h7 ((nI_leI (a := 144) (b := k) (by omega) (by omega)).mpr q9)
        refine lv_aload_n hx hb dX4_reach_37 rfl (lv_at hl 0 rfl) ?_
        refine va_get (D := D) (ci := 11) (v := .int (nI h)) (C := RX4) (T := TX4) (N := 14) hx hb hts hb_0 hown hK hP 0 rfl rfl 12 (by decide) hw_3 (fun _ h9 => h9) rfl dX4_reach_38 ?_
        refine lv_aload_n hx hb dX4_reach_41 rfl (lv_at hl 0 rfl) ?_
        refine va_get (D := D) (ci := 11) (v := .int (nI k)) (C := RX4) (T := TX4) (N := 14) hx hb hts hb_0 hown hK hP 0 rfl rfl 13 (by decide) hw_2 (fun _ h9 => h9) rfl dX4_reach_42 ?_
        refine lv_iadd hx hb dX4_reach_45 ?_
        refine lv_topi (fun x8 e8 => ?_)
        obtain rfl : x8 = nI (h + k) := e8.trans (nI_add h k)
        refine lv_istore_n (lv' := [(3, .int (nI (h + k))), (0, .ref g), (1, .int (nI ce)), (2, .int (nI co))]) hx hb dX4_reach_46 rfl hl (by decide) rfl (fun ls hl => ?_)
        refine lv_aload_n hx hb dX4_reach_47 rfl (lv_at hl 1 rfl) ?_
        refine va_get (D := D) (ci := 11) (v := .ref a10) (C := RX4) (T := TX4) (N := 14) hx hb hts hb_0 hown hK hP 0 rfl rfl 10 (by decide) hw_4 (fun _ h9 => h9) rfl dX4_reach_48 ?_
        refine lv_iload_n hx hb dX4_reach_51 rfl (lv_at hl 0 rfl) ?_
        refine lv_sipush (v := 144) hx hb dX4_reach_52 (by decide) ?_
        refine lv_icmp_ge (tgt := 62) hx hb dX4_reach_55 (by decide) (fun h9 => ?_) (fun h9 => ?_)
        · have n9 : 144 ≤ (h + k) := (nI_leI (a := 144) (b := (h + k)) (by omega) (by omega)).mp h9
          refine lv_iload_n hx hb dX4_reach_62 rfl (lv_at hl 0 rfl) ?_
          refine lv_sipush (v := 144) hx hb dX4_reach_63 (by decide) ?_
          refine lv_isub hx hb dX4_reach_66 ?_
          refine lv_topi (fun x10 e10 => ?_)
          obtain rfl : x10 = nI ((h + k) - 144) := e10.trans (pk_sub (a := h + k) (b := 144) (by omega))
          refine lv_iload_n hx hb dX4_reach_67 rfl (lv_at hl 2 rfl) ?_
          refine va_iast hx hb hK hP hD hS 2 1 rfl rfl (vp_in_nI (n := (h + k) - 144) (by omega) (by decide)) dX4_reach_68 (fun H locs hP hD hS => ?_)
          have hcf : upd (fL q) ((nI ((h + k) - 144)).toNatClampNeg) (nI ce) = fL (q.set ((h + k) - 144) ce) := fL_up (L := q) (k := (h + k) - 144) (v := ce) (by omega) (by omega)
          have hP : va_P D vwCl [(g, .inr (11, [.int n, .ref a1, .ref a2, .ref a3, .ref a4, .ref a5, .ref a6, .ref a7, .ref a8, .ref a9, .ref a10, .ref a11, .int (nI h), .int (nI k)])), (a6, .inl (cw, 144, .inl (fL (w.set ce co)))), (a10, .inl (cq, 144, .inl (upd (fL q) ((nI ((h + k) - 144)).toNatClampNeg) (nI ce)))), (a11, .inl (cz, 144, .inl (fL z)))] H := hP
          have hD : va_D A [(g, .inr (11, [.int n, .ref a1, .ref a2, .ref a3, .ref a4, .ref a5, .ref a6, .ref a7, .ref a8, .ref a9, .ref a10, .ref a11, .int (nI h), .int (nI k)])), (a6, .inl (cw, 144, .inl (fL (w.set ce co)))), (a10, .inl (cq, 144, .inl (upd (fL q) ((nI ((h + k) - 144)).toNatClampNeg) (nI ce)))), (a11, .inl (cz, 144, .inl (fL z)))] := hD
          rw [hcf] at hP hD
          clear hcf
          have hP : va_P D vwCl [(g, .inr (11, [.int n, .ref a1, .ref a2, .ref a3, .ref a4, .ref a5, .ref a6, .ref a7, .ref a8, .ref a9, .ref a10, .ref a11, .int (nI h), .int (nI k)])), (a6, .inl (cw, 144, .inl (fL (w.set ce co)))), (a10, .inl (cq, 144, .inl (fL (q.set ((h + k) - 144) ce)))), (a11, .inl (cz, 144, .inl (fL z)))] H := hP
          have hD : va_D A [(g, .inr (11, [.int n, .ref a1, .ref a2, .ref a3, .ref a4, .ref a5, .ref a6, .ref a7, .ref a8, .ref a9, .ref a10, .ref a11, .int (nI h), .int (nI k)])), (a6, .inl (cw, 144, .inl (fL (w.set ce co)))), (a10, .inl (cq, 144, .inl (fL (q.set ((h + k) - 144) ce)))), (a11, .inl (cz, 144, .inl (fL z)))] := hD
          refine lv_aload_n hx hb dX4_reach_69 rfl (lv_at hl 1 rfl) ?_
          refine va_get (D := D) (ci := 11) (v := .ref a11) (C := RX4) (T := TX4) (N := 14) hx hb hts hb_0 hown hK hP 0 rfl rfl 11 (by decide) hw_1 (fun _ h9 => h9) rfl dX4_reach_70 ?_
          refine lv_iload_n hx hb dX4_reach_73 rfl (lv_at hl 2 rfl) ?_
          refine lv_iconst (v := 1) hx hb dX4_reach_74 (by decide) ?_
          refine va_zast hx hb hK hP hD hS 3 2 rfl rfl (vp_in_nI (n := ce) (by omega) (by decide)) dX4_reach_75 (fun H locs hP hD hS => ?_)
          have hcf : upd (fL z) ((nI ce).toNatClampNeg) (vp_nar .boolean 1) = fL (z.set ce 1) := fL_up (L := z) (k := ce) (v := 1) (by omega) (by omega)
          have hP : va_P D vwCl [(g, .inr (11, [.int n, .ref a1, .ref a2, .ref a3, .ref a4, .ref a5, .ref a6, .ref a7, .ref a8, .ref a9, .ref a10, .ref a11, .int (nI h), .int (nI k)])), (a6, .inl (cw, 144, .inl (fL (w.set ce co)))), (a10, .inl (cq, 144, .inl (fL (q.set ((h + k) - 144) ce)))), (a11, .inl (cz, 144, .inl (upd (fL z) ((nI ce).toNatClampNeg) (vp_nar .boolean 1))))] H := hP
          have hD : va_D A [(g, .inr (11, [.int n, .ref a1, .ref a2, .ref a3, .ref a4, .ref a5, .ref a6, .ref a7, .ref a8, .ref a9, .ref a10, .ref a11, .int (nI h), .int (nI k)])), (a6, .inl (cw, 144, .inl (fL (w.set ce co)))), (a10, .inl (cq, 144, .inl (fL (q.set ((h + k) - 144) ce)))), (a11, .inl (cz, 144, .inl (upd (fL z) ((nI ce).toNatClampNeg) (vp_nar .boolean 1))))] := hD
          rw [hcf] at hP hD
          clear hcf
          have hP : va_P D vwCl [(g, .inr (11, [.int n, .ref a1, .ref a2, .ref a3, .ref a4, .ref a5, .ref a6, .ref a7, .ref a8, .ref a9, .ref a10, .ref a11, .int (nI h), .int (nI k)])), (a6, .inl (cw, 144, .inl (fL (w.set ce co)))), (a10, .inl (cq, 144, .inl (fL (q.set ((h + k) - 144) ce)))), (a11, .inl (cz, 144, .inl (fL (z.set ce 1))))] H := hP
          have hD : va_D A [(g, .inr (11, [.int n, .ref a1, .ref a2, .ref a3, .ref a4, .ref a5, .ref a6, .ref a7, .ref a8, .ref a9, .ref a10, .ref a11, .int (nI h), .int (nI k)])), (a6, .inl (cw, 144, .inl (fL (w.set ce co)))), (a10, .inl (cq, 144, .inl (fL (q.set ((h + k) - 144) ce)))), (a11, .inl (cz, 144, .inl (fL (z.set ce 1))))] := hD
          refine lv_aload_n hx hb dX4_reach_76 rfl (lv_at hl 1 rfl) ?_
          refine lv_dup hx hb dX4_reach_77 rfl ?_
          refine va_get (D := D) (ci := 11) (v := .int (nI k)) (C := RX4) (T := TX4) (N := 14) hx hb hts hb_0 hown hK hP 0 rfl rfl 13 (by decide) hw_2 (fun _ h9 => h9) rfl dX4_reach_78 ?_
          refine lv_iconst (v := 1) hx hb dX4_reach_81 (by decide) ?_
          refine lv_iadd hx hb dX4_reach_82 ?_
          refine lv_topi (fun x11 e11 => ?_)
          obtain rfl : x11 = nI (k + 1) := e11.trans (nI_add k 1)
          refine va_put (D := D) (ci := 11) (v := .int (nI (k + 1))) (ty := .int) (C := RX4) (T := TX4) (N := 14) hx hb hts hb_0 tyX4 tyX4_ok nmX4 hown hK hP hD hS 0 rfl rfl 13 (by decide) hw_2 (fun _ h9 => h9) rfl (by decide +kernel) rfl rfl (Nat.le_of_ble_eq_true rfl) dX4_reach_83 (fun H locs hP hD hS => ?_)
          have hP : va_P D vwCl [(g, .inr (11, [.int n, .ref a1, .ref a2, .ref a3, .ref a4, .ref a5, .ref a6, .ref a7, .ref a8, .ref a9, .ref a10, .ref a11, .int (nI h), .int (nI (k + 1))])), (a6, .inl (cw, 144, .inl (fL (w.set ce co)))), (a10, .inl (cq, 144, .inl (fL (q.set ((h + k) - 144) ce)))), (a11, .inl (cz, 144, .inl (fL (z.set ce 1))))] H := hP
          have hD : va_D A [(g, .inr (11, [.int n, .ref a1, .ref a2, .ref a3, .ref a4, .ref a5, .ref a6, .ref a7, .ref a8, .ref a9, .ref a10, .ref a11, .int (nI h), .int (nI (k + 1))])), (a6, .inl (cw, 144, .inl (fL (w.set ce co)))), (a10, .inl (cq, 144, .inl (fL (q.set ((h + k) - 144) ce)))), (a11, .inl (cz, 144, .inl (fL (z.set ce 1))))] := hD
          exact mr_v hx hb hr (w.set ce co, q.set (h + k - 144) ce, z.set ce 1, h, k + 1) ((re_4 n3 n6 (by omega) (by omega))) (hP.sub [0, 1, 2, 3] rfl) (hK.sub [] rfl) (hD.sub [0, 1, 2, 3] (by decide) rfl) hS (Nat.le_of_ble_eq_true rfl) (Nat.le_of_ble_eq_true rfl) hlocks dX4_reach_86
        · have n9 : ¬ (144 ≤ (h + k)) := fun q9 => h9 ((nI_leI (a := 144) (b := (h + k)) (by omega) (by omega)).mpr q9)
          refine lv_iload_n hx hb dX4_reach_58 rfl (lv_at hl 0 rfl) ?_
          refine lv_goto (tgt := 67) hx hb dX4_reach_59 (by decide) ?_
          refine lv_iload_n hx hb dX4_reach_67 rfl (lv_at hl 2 rfl) ?_
          refine va_iast hx hb hK hP hD hS 2 1 rfl rfl (vp_in_nI (n := h + k) (by omega) (by decide)) dX4_reach_68 (fun H locs hP hD hS => ?_)
          have hcf : upd (fL q) ((nI (h + k)).toNatClampNeg) (nI ce) = fL (q.set (h + k) ce) := fL_up (L := q) (k := h + k) (v := ce) (by omega) (by omega)
          have hP : va_P D vwCl [(g, .inr (11, [.int n, .ref a1, .ref a2, .ref a3, .ref a4, .ref a5, .ref a6, .ref a7, .ref a8, .ref a9, .ref a10, .ref a11, .int (nI h), .int (nI k)])), (a6, .inl (cw, 144, .inl (fL (w.set ce co)))), (a10, .inl (cq, 144, .inl (upd (fL q) ((nI (h + k)).toNatClampNeg) (nI ce)))), (a11, .inl (cz, 144, .inl (fL z)))] H := hP
          have hD : va_D A [(g, .inr (11, [.int n, .ref a1, .ref a2, .ref a3, .ref a4, .ref a5, .ref a6, .ref a7, .ref a8, .ref a9, .ref a10, .ref a11, .int (nI h), .int (nI k)])), (a6, .inl (cw, 144, .inl (fL (w.set ce co)))), (a10, .inl (cq, 144, .inl (upd (fL q) ((nI (h + k)).toNatClampNeg) (nI ce)))), (a11, .inl (cz, 144, .inl (fL z)))] := hD
          rw [hcf] at hP hD
          clear hcf
          have hP : va_P D vwCl [(g, .inr (11, [.int n, .ref a1, .ref a2, .ref a3, .ref a4, .ref a5, .ref a6, .ref a7, .ref a8, .ref a9, .ref a10, .ref a11, .int (nI h), .int (nI k)])), (a6, .inl (cw, 144, .inl (fL (w.set ce co)))), (a10, .inl (cq, 144, .inl (fL (q.set (h + k) ce)))), (a11, .inl (cz, 144, .inl (fL z)))] H := hP
          have hD : va_D A [(g, .inr (11, [.int n, .ref a1, .ref a2, .ref a3, .ref a4, .ref a5, .ref a6, .ref a7, .ref a8, .ref a9, .ref a10, .ref a11, .int (nI h), .int (nI k)])), (a6, .inl (cw, 144, .inl (fL (w.set ce co)))), (a10, .inl (cq, 144, .inl (fL (q.set (h + k) ce)))), (a11, .inl (cz, 144, .inl (fL z)))] := hD
          refine lv_aload_n hx hb dX4_reach_69 rfl (lv_at hl 1 rfl) ?_
          refine va_get (D := D) (ci := 11) (v := .ref a11) (C := RX4) (T := TX4) (N := 14) hx hb hts hb_0 hown hK hP 0 rfl rfl 11 (by decide) hw_1 (fun _ h9 => h9) rfl dX4_reach_70 ?_
          refine lv_iload_n hx hb dX4_reach_73 rfl (lv_at hl 2 rfl) ?_
          refine lv_iconst (v := 1) hx hb dX4_reach_74 (by decide) ?_
          refine va_zast hx hb hK hP hD hS 3 2 rfl rfl (vp_in_nI (n := ce) (by omega) (by decide)) dX4_reach_75 (fun H locs hP hD hS => ?_)
          have hcf : upd (fL z) ((nI ce).toNatClampNeg) (vp_nar .boolean 1) = fL (z.set ce 1) := fL_up (L := z) (k := ce) (v := 1) (by omega) (by omega)
          have hP : va_P D vwCl [(g, .inr (11, [.int n, .ref a1, .ref a2, .ref a3, .ref a4, .ref a5, .ref a6, .ref a7, .ref a8, .ref a9, .ref a10, .ref a11, .int (nI h), .int (nI k)])), (a6, .inl (cw, 144, .inl (fL (w.set ce co)))), (a10, .inl (cq, 144, .inl (fL (q.set (h + k) ce)))), (a11, .inl (cz, 144, .inl (upd (fL z) ((nI ce).toNatClampNeg) (vp_nar .boolean 1))))] H := hP
          have hD : va_D A [(g, .inr (11, [.int n, .ref a1, .ref a2, .ref a3, .ref a4, .ref a5, .ref a6, .ref a7, .ref a8, .ref a9, .ref a10, .ref a11, .int (nI h), .int (nI k)])), (a6, .inl (cw, 144, .inl (fL (w.set ce co)))), (a10, .inl (cq, 144, .inl (fL (q.set (h + k) ce)))), (a11, .inl (cz, 144, .inl (upd (fL z) ((nI ce).toNatClampNeg) (vp_nar .boolean 1))))] := hD
          rw [hcf] at hP hD
          clear hcf
          have hP : va_P D vwCl [(g, .inr (11, [.int n, .ref a1, .ref a2, .ref a3, .ref a4, .ref a5, .ref a6, .ref a7, .ref a8, .ref a9, .ref a10, .ref a11, .int (nI h), .int (nI k)])), (a6, .inl (cw, 144, .inl (fL (w.set ce co)))), (a10, .inl (cq, 144, .inl (fL (q.set (h + k) ce)))), (a11, .inl (cz, 144, .inl (fL (z.set ce 1))))] H := hP
          have hD : va_D A [(g, .inr (11, [.int n, .ref a1, .ref a2, .ref a3, .ref a4, .ref a5, .ref a6, .ref a7, .ref a8, .ref a9, .ref a10, .ref a11, .int (nI h), .int (nI k)])), (a6, .inl (cw, 144, .inl (fL (w.set ce co)))), (a10, .inl (cq, 144, .inl (fL (q.set (h + k) ce)))), (a11, .inl (cz, 144, .inl (fL (z.set ce 1))))] := hD
          refine lv_aload_n hx hb dX4_reach_76 rfl (lv_at hl 1 rfl) ?_
          refine lv_dup hx hb dX4_reach_77 rfl ?_
          refine va_get (D := D) (ci := 11) (v := .int (nI k)) (C := RX4) (T := TX4) (N := 14) hx hb hts hb_0 hown hK hP 0 rfl rfl 13 (by decide) hw_2 (fun _ h9 => h9) rfl dX4_reach_78 ?_
          refine lv_iconst (v := 1) hx hb dX4_reach_81 (by decide) ?_
          refine lv_iadd hx hb dX4_reach_82 ?_
          refine lv_topi (fun x12 e12 => ?_)
          obtain rfl : x12 = nI (k + 1) := e12.trans (nI_add k 1)
          refine va_put (D := D) (ci := 11) (v := .int (nI (k + 1))) (ty := .int) (C := RX4) (T := TX4) (N := 14) hx hb hts hb_0 tyX4 tyX4_ok nmX4 hown hK hP hD hS 0 rfl rfl 13 (by decide) hw_2 (fun _ h9 => h9) rfl (by decide +kernel) rfl rfl (Nat.le_of_ble_eq_true rfl) dX4_reach_83 (fun H locs hP hD hS => ?_)
          have hP : va_P D vwCl [(g, .inr (11, [.int n, .ref a1, .ref a2, .ref a3, .ref a4, .ref a5, .ref a6, .ref a7, .ref a8, .ref a9, .ref a10, .ref a11, .int (nI h), .int (nI (k + 1))])), (a6, .inl (cw, 144, .inl (fL (w.set ce co)))), (a10, .inl (cq, 144, .inl (fL (q.set (h + k) ce)))), (a11, .inl (cz, 144, .inl (fL (z.set ce 1))))] H := hP
          have hD : va_D A [(g, .inr (11, [.int n, .ref a1, .ref a2, .ref a3, .ref a4, .ref a5, .ref a6, .ref a7, .ref a8, .ref a9, .ref a10, .ref a11, .int (nI h), .int (nI (k + 1))])), (a6, .inl (cw, 144, .inl (fL (w.set ce co)))), (a10, .inl (cq, 144, .inl (fL (q.set (h + k) ce)))), (a11, .inl (cz, 144, .inl (fL (z.set ce 1))))] := hD
          exact mr_v hx hb hr (w.set ce co, q.set (h + k) ce, z.set ce 1, h, k + 1) ((re_3 n3 n6 (by omega) (by omega))) (hP.sub [0, 1, 2, 3] rfl) (hK.sub [] rfl) (hD.sub [0, 1, 2, 3] (by decide) rfl) hS (Nat.le_of_ble_eq_true rfl) (Nat.le_of_ble_eq_true rfl) hlocks dX4_reach_86
  · have n3 : ¬ (co < (w.getD ce 0)) := fun q9 => h3 ((nI_ltI (a := co) (b := (w.getD ce 0)) (by omega) (by omega)).mpr q9)
    exact mr_v hx hb hr (w, q, z, h, k) ((re_1 n3)) (hP.sub [0, 1, 2, 3] rfl) (hK.sub [] rfl) (hD.sub [0, 1, 2, 3] (by decide) rfl) hS (Nat.le_of_ble_eq_true rfl) (Nat.le_of_ble_eq_true rfl) hlocks dX4_reach_10

def us_c_takeFirst : List Cond := .code yX4_takeFirst cX4_takeFirst 2 (some .int) :: (([.fieldLink RX4 40 "ControlWood$Terrain" "queue" "[I", .fieldLink RX4 87 "ControlWood$Terrain" "head" "I", .fieldLink RX4 90 "ControlWood$Terrain" "waiting" "I", .fieldLink RX4 43 "ControlWood$Terrain" "isQueued" "[Z"] : List Cond) ++ (wsX40 ++ ([])))
theorem gw_c_takeFirst : ∀ w ∈ us_c_takeFirst, goodWord w = true := gw_cons rfl (gw_app (by decide +kernel) (gw_app gwf_X4 (fun _ h => nomatch h)))
set_option maxHeartbeats 4000000 in
set_option maxRecDepth 100000 in
/-- takeFirst -/
theorem c_takeFirst (l : Launch) (hst : l.stackTraces = false) (D : va_G) (g : Nat) (a1 : Nat) (a2 : Nat) (a3 : Nat) (a4 : Nat) (a5 : Nat) (a6 : Nat) (a7 : Nat) (a8 : Nat) (a9 : Nat) (a10 : Nat) (a11 : Nat) (n : Int32) (cw : ClassId) (cq : ClassId) (cz : ClassId) (w : List Nat) (q : List Nat) (z : List Nat) (h : Nat) (k : Nat) (sz : Nat) (ok : okS w q z h k) (hk : 0 < k) : Met l yX4_takeFirst us_c_takeFirst { frames := 0, cells := 0, slots := 0, locals := 0 } (pw D [.ref g] [(cw, .int), (cq, .int), (cz, .boolean)] [(g, .inr (11, [.int n, .ref a1, .ref a2, .ref a3, .ref a4, .ref a5, .ref a6, .ref a7, .ref a8, .ref a9, .ref a10, .ref a11, .int (nI h), .int (nI k)])), (a6, .inl (cw, 144, .inl (fL w))), (a10, .inl (cq, 144, .inl (fL q))), (a11, .inl (cz, 144, .inl (fL z)))] sz) (va_Qi (fun (r : Int32) (u : sS) => r = nI (q.getD h 0) ∧ u = tkM w q z h k) (qb D (va_A [(g, .inr (11, [.int n, .ref a1, .ref a2, .ref a3, .ref a4, .ref a5, .ref a6, .ref a7, .ref a8, .ref a9, .ref a10, .ref a11, .int (nI h), .int (nI k)])), (a6, .inl (cw, 144, .inl (fL w))), (a10, .inl (cq, 144, .inl (fL q))), (a11, .inl (cz, 144, .inl (fL z)))] sz) (fun u : sS => [(g, .inr (11, [.int n, .ref a1, .ref a2, .ref a3, .ref a4, .ref a5, .ref a6, .ref a7, .ref a8, .ref a9, .ref a10, .ref a11, .int (nI u.2.2.2.1), .int (nI u.2.2.2.2)])), (a6, .inl (cw, 144, .inl (fL u.1))), (a10, .inl (cq, 144, .inl (fL u.2.1))), (a11, .inl (cz, 144, .inl (fL u.2.2.1)))]) (fun u : sS => ([] : List (ClassId × FieldType)))) (va_A [(g, .inr (11, [.int n, .ref a1, .ref a2, .ref a3, .ref a4, .ref a5, .ref a6, .ref a7, .ref a8, .ref a9, .ref a10, .ref a11, .int (nI h), .int (nI k)])), (a6, .inl (cw, 144, .inl (fL w))), (a10, .inl (cq, 144, .inl (fL q))), (a11, .inl (cz, 144, .inl (fL z)))] sz)) 0 0 (va_A [(g, .inr (11, [.int n, .ref a1, .ref a2, .ref a3, .ref a4, .ref a5, .ref a6, .ref a7, .ref a8, .ref a9, .ref a10, .ref a11, .int (nI h), .int (nI k)])), (a6, .inl (cw, 144, .inl (fL w))), (a10, .inl (cq, 144, .inl (fL q))), (a11, .inl (cz, 144, .inl (fL z)))] sz) := by
  refine op_M (Qc := fun A => (va_Qi (fun (r : Int32) (u : sS) => r = nI (q.getD h 0) ∧ u = tkM w q z h k) (qb D A (fun u : sS => [(g, .inr (11, [.int n, .ref a1, .ref a2, .ref a3, .ref a4, .ref a5, .ref a6, .ref a7, .ref a8, .ref a9, .ref a10, .ref a11, .int (nI u.2.2.2.1), .int (nI u.2.2.2.2)])), (a6, .inl (cw, 144, .inl (fL u.1))), (a10, .inl (cq, 144, .inl (fL u.2.1))), (a11, .inl (cz, 144, .inl (fL u.2.2.1)))]) (fun u : sS => ([] : List (ClassId × FieldType)))) A)) (by decide +kernel) rfl (Nat.le_of_ble_eq_true rfl) ?_
  intro p e s m args below meth c A ls hx hb hr hml hts hown hlocks hmn htab hA hD hS hP hK hE hsz hl
  have hown : s.vm.findClass RX4 = some m.cls := hown
  have hl : lv_has ls 2 [(0, .ref g)] := hl
  have hw_0 := hts (.fieldLink RX4 40 "ControlWood$Terrain" "queue" "[I") (List.mem_cons_of_mem _ (List.mem_append_left _ (List.mem_of_getElem? (i := 0) rfl)))
  have hw_1 := hts (.fieldLink RX4 87 "ControlWood$Terrain" "head" "I") (List.mem_cons_of_mem _ (List.mem_append_left _ (List.mem_of_getElem? (i := 1) rfl)))
  have hw_2 := hts (.fieldLink RX4 90 "ControlWood$Terrain" "waiting" "I") (List.mem_cons_of_mem _ (List.mem_append_left _ (List.mem_of_getElem? (i := 2) rfl)))
  have hw_3 := hts (.fieldLink RX4 43 "ControlWood$Terrain" "isQueued" "[Z") (List.mem_cons_of_mem _ (List.mem_append_left _ (List.mem_of_getElem? (i := 3) rfl)))
  have hb_0 : ∀ w ∈ wsX40, w ∈ us_c_takeFirst := fun w h => List.mem_cons_of_mem _ (List.mem_append_right _ (List.mem_append_left _ h))
  obtain ⟨ok1, ok2, ok3, ok4, ok5, ok6, ok7, ok8⟩ := ok
  refine lv_aload_n hx hb dX4_takeFirst_0 rfl (lv_at hl 0 rfl) ?_
  refine va_get (D := D) (ci := 11) (v := .ref a10) (C := RX4) (T := TX4) (N := 14) hx hb hts hb_0 hown hK hP 0 rfl rfl 10 (by decide) hw_0 (fun _ h9 => h9) rfl dX4_takeFirst_1 ?_
  refine lv_aload_n hx hb dX4_takeFirst_4 rfl (lv_at hl 0 rfl) ?_
  refine va_get (D := D) (ci := 11) (v := .int (nI h)) (C := RX4) (T := TX4) (N := 14) hx hb hts hb_0 hown hK hP 0 rfl rfl 12 (by decide) hw_1 (fun _ h9 => h9) rfl dX4_takeFirst_5 ?_
  refine va_iald hx hb hK hP 2 1 rfl rfl (vp_in_nI (n := h) (by omega) (by decide)) dX4_takeFirst_8 ?_
  have b1 := ok7 h
  refine lv_topi (fun x2 e2 => ?_)
  obtain rfl : x2 = nI (q.getD h 0) := e2.trans (fL_at (by omega))
  refine lv_istore_n (lv' := [(1, .int (nI (q.getD h 0))), (0, .ref g)]) hx hb dX4_takeFirst_9 rfl hl (by decide) rfl (fun ls hl => ?_)
  refine lv_aload_n hx hb dX4_takeFirst_10 rfl (lv_at hl 1 rfl) ?_
  refine lv_aload_n hx hb dX4_takeFirst_11 rfl (lv_at hl 1 rfl) ?_
  refine va_get (D := D) (ci := 11) (v := .int (nI h)) (C := RX4) (T := TX4) (N := 14) hx hb hts hb_0 hown hK hP 0 rfl rfl 12 (by decide) hw_1 (fun _ h9 => h9) rfl dX4_takeFirst_12 ?_
  refine lv_iconst (v := 1) hx hb dX4_takeFirst_15 (by decide) ?_
  refine lv_iadd hx hb dX4_takeFirst_16 ?_
  refine lv_topi (fun x3 e3 => ?_)
  obtain rfl : x3 = nI (h + 1) := e3.trans (nI_add h 1)
  refine lv_sipush (v := 144) hx hb dX4_takeFirst_17 (by decide) ?_
  refine lv_icmp_ge (tgt := 32) hx hb dX4_takeFirst_20 (by decide) (fun h4 => ?_) (fun h4 => ?_)
  · have n4 : 144 ≤ (h + 1) := (nI_leI (a := 144) (b := (h + 1)) (by omega) (by omega)).mp h4
    refine lv_iconst (v := 0) hx hb dX4_takeFirst_32 (by decide) ?_
    refine va_put (D := D) (ci := 11) (v := .int 0) (ty := .int) (C := RX4) (T := TX4) (N := 14) hx hb hts hb_0 tyX4 tyX4_ok nmX4 hown hK hP hD hS 0 rfl rfl 12 (by decide) hw_1 (fun _ h9 => h9) rfl (by decide +kernel) rfl rfl (Nat.le_of_ble_eq_true rfl) dX4_takeFirst_33 (fun H locs hP hD hS => ?_)
    have hP : va_P D vwCl [(g, .inr (11, [.int n, .ref a1, .ref a2, .ref a3, .ref a4, .ref a5, .ref a6, .ref a7, .ref a8, .ref a9, .ref a10, .ref a11, .int 0, .int (nI k)])), (a6, .inl (cw, 144, .inl (fL w))), (a10, .inl (cq, 144, .inl (fL q))), (a11, .inl (cz, 144, .inl (fL z)))] H := hP
    have hD : va_D A [(g, .inr (11, [.int n, .ref a1, .ref a2, .ref a3, .ref a4, .ref a5, .ref a6, .ref a7, .ref a8, .ref a9, .ref a10, .ref a11, .int 0, .int (nI k)])), (a6, .inl (cw, 144, .inl (fL w))), (a10, .inl (cq, 144, .inl (fL q))), (a11, .inl (cz, 144, .inl (fL z)))] := hD
    refine lv_aload_n hx hb dX4_takeFirst_36 rfl (lv_at hl 1 rfl) ?_
    refine lv_dup hx hb dX4_takeFirst_37 rfl ?_
    refine va_get (D := D) (ci := 11) (v := .int (nI k)) (C := RX4) (T := TX4) (N := 14) hx hb hts hb_0 hown hK hP 0 rfl rfl 13 (by decide) hw_2 (fun _ h9 => h9) rfl dX4_takeFirst_38 ?_
    refine lv_iconst (v := 1) hx hb dX4_takeFirst_41 (by decide) ?_
    refine lv_isub hx hb dX4_takeFirst_42 ?_
    refine lv_topi (fun x5 e5 => ?_)
    obtain rfl : x5 = nI (k - 1) := e5.trans (pk_sub (a := k) (b := 1) (by omega))
    refine va_put (D := D) (ci := 11) (v := .int (nI (k - 1))) (ty := .int) (C := RX4) (T := TX4) (N := 14) hx hb hts hb_0 tyX4 tyX4_ok nmX4 hown hK hP hD hS 0 rfl rfl 13 (by decide) hw_2 (fun _ h9 => h9) rfl (by decide +kernel) rfl rfl (Nat.le_of_ble_eq_true rfl) dX4_takeFirst_43 (fun H locs hP hD hS => ?_)
    have hP : va_P D vwCl [(g, .inr (11, [.int n, .ref a1, .ref a2, .ref a3, .ref a4, .ref a5, .ref a6, .ref a7, .ref a8, .ref a9, .ref a10, .ref a11, .int 0, .int (nI (k - 1))])), (a6, .inl (cw, 144, .inl (fL w))), (a10, .inl (cq, 144, .inl (fL q))), (a11, .inl (cz, 144, .inl (fL z)))] H := hP
    have hD : va_D A [(g, .inr (11, [.int n, .ref a1, .ref a2, .ref a3, .ref a4, .ref a5, .ref a6, .ref a7, .ref a8, .ref a9, .ref a10, .ref a11, .int 0, .int (nI (k - 1))])), (a6, .inl (cw, 144, .inl (fL w))), (a10, .inl (cq, 144, .inl (fL q))), (a11, .inl (cz, 144, .inl (fL z)))] := hD
    refine lv_aload_n hx hb dX4_takeFirst_46 rfl (lv_at hl 1 rfl) ?_
    refine va_get (D := D) (ci := 11) (v := .ref a11) (C := RX4) (T := TX4) (N := 14) hx hb hts hb_0 hown hK hP 0 rfl rfl 11 (by decide) hw_3 (fun _ h9 => h9) rfl dX4_takeFirst_47 ?_
    refine lv_iload_n hx hb dX4_takeFirst_50 rfl (lv_at hl 0 rfl) ?_
    refine lv_iconst (v := 0) hx hb dX4_takeFirst_51 (by decide) ?_
    refine va_zast hx hb hK hP hD hS 3 2 rfl rfl (vp_in_nI (n := q.getD h 0) (by omega) (by decide)) dX4_takeFirst_52 (fun H locs hP hD hS => ?_)
    have hcf : upd (fL z) ((nI (q.getD h 0)).toNatClampNeg) (vp_nar .boolean 0) = fL (z.set (q.getD h 0) 0) := fL_up (L := z) (k := q.getD h 0) (v := 0) (by omega) (by omega)
    have hP : va_P D vwCl [(g, .inr (11, [.int n, .ref a1, .ref a2, .ref a3, .ref a4, .ref a5, .ref a6, .ref a7, .ref a8, .ref a9, .ref a10, .ref a11, .int 0, .int (nI (k - 1))])), (a6, .inl (cw, 144, .inl (fL w))), (a10, .inl (cq, 144, .inl (fL q))), (a11, .inl (cz, 144, .inl (upd (fL z) ((nI (q.getD h 0)).toNatClampNeg) (vp_nar .boolean 0))))] H := hP
    have hD : va_D A [(g, .inr (11, [.int n, .ref a1, .ref a2, .ref a3, .ref a4, .ref a5, .ref a6, .ref a7, .ref a8, .ref a9, .ref a10, .ref a11, .int 0, .int (nI (k - 1))])), (a6, .inl (cw, 144, .inl (fL w))), (a10, .inl (cq, 144, .inl (fL q))), (a11, .inl (cz, 144, .inl (upd (fL z) ((nI (q.getD h 0)).toNatClampNeg) (vp_nar .boolean 0))))] := hD
    rw [hcf] at hP hD
    clear hcf
    have hP : va_P D vwCl [(g, .inr (11, [.int n, .ref a1, .ref a2, .ref a3, .ref a4, .ref a5, .ref a6, .ref a7, .ref a8, .ref a9, .ref a10, .ref a11, .int 0, .int (nI (k - 1))])), (a6, .inl (cw, 144, .inl (fL w))), (a10, .inl (cq, 144, .inl (fL q))), (a11, .inl (cz, 144, .inl (fL (z.set (q.getD h 0) 0))))] H := hP
    have hD : va_D A [(g, .inr (11, [.int n, .ref a1, .ref a2, .ref a3, .ref a4, .ref a5, .ref a6, .ref a7, .ref a8, .ref a9, .ref a10, .ref a11, .int 0, .int (nI (k - 1))])), (a6, .inl (cw, 144, .inl (fL w))), (a10, .inl (cq, 144, .inl (fL q))), (a11, .inl (cz, 144, .inl (fL (z.set (q.getD h 0) 0))))] := hD
    refine lv_iload_n hx hb dX4_takeFirst_53 rfl (lv_at hl 0 rfl) ?_
    exact mr_i hx hb hr (w, q, z.set (q.getD h 0) 0, 0, k - 1) (⟨rfl, tk_2 (by omega)⟩) (hP.sub [0, 1, 2, 3] rfl) (hK.sub [] rfl) (hD.sub [0, 1, 2, 3] (by decide) rfl) hS (Nat.le_of_ble_eq_true rfl) (Nat.le_of_ble_eq_true rfl) hlocks dX4_takeFirst_54
  · have n4 : ¬ (144 ≤ (h + 1)) := fun q9 => h4 ((nI_leI (a := 144) (b := (h + 1)) (by omega) (by omega)).mpr q9)
    refine lv_aload_n hx hb dX4_takeFirst_23 rfl (lv_at hl 1 rfl) ?_
    refine va_get (D := D) (ci := 11) (v := .int (nI h)) (C := RX4) (T := TX4) (N := 14) hx hb hts hb_0 hown hK hP 0 rfl rfl 12 (by decide) hw_1 (fun _ h9 => h9) rfl dX4_takeFirst_24 ?_
    refine lv_iconst (v := 1) hx hb dX4_takeFirst_27 (by decide) ?_
    refine lv_iadd hx hb dX4_takeFirst_28 ?_
    refine lv_topi (fun x6 e6 => ?_)
    obtain rfl : x6 = nI (h + 1) := e6.trans (nI_add h 1)
    refine lv_goto (tgt := 33) hx hb dX4_takeFirst_29 (by decide) ?_
    refine va_put (D := D) (ci := 11) (v := .int (nI (h + 1))) (ty := .int) (C := RX4) (T := TX4) (N := 14) hx hb hts hb_0 tyX4 tyX4_ok nmX4 hown hK hP hD hS 0 rfl rfl 12 (by decide) hw_1 (fun _ h9 => h9) rfl (by decide +kernel) rfl rfl (Nat.le_of_ble_eq_true rfl) dX4_takeFirst_33 (fun H locs hP hD hS => ?_)
    have hP : va_P D vwCl [(g, .inr (11, [.int n, .ref a1, .ref a2, .ref a3, .ref a4, .ref a5, .ref a6, .ref a7, .ref a8, .ref a9, .ref a10, .ref a11, .int (nI (h + 1)), .int (nI k)])), (a6, .inl (cw, 144, .inl (fL w))), (a10, .inl (cq, 144, .inl (fL q))), (a11, .inl (cz, 144, .inl (fL z)))] H := hP
    have hD : va_D A [(g, .inr (11, [.int n, .ref a1, .ref a2, .ref a3, .ref a4, .ref a5, .ref a6, .ref a7, .ref a8, .ref a9, .ref a10, .ref a11, .int (nI (h + 1)), .int (nI k)])), (a6, .inl (cw, 144, .inl (fL w))), (a10, .inl (cq, 144, .inl (fL q))), (a11, .inl (cz, 144, .inl (fL z)))] := hD
    refine lv_aload_n hx hb dX4_takeFirst_36 rfl (lv_at hl 1 rfl) ?_
    refine lv_dup hx hb dX4_takeFirst_37 rfl ?_
    refine va_get (D := D) (ci := 11) (v := .int (nI k)) (C := RX4) (T := TX4) (N := 14) hx hb hts hb_0 hown hK hP 0 rfl rfl 13 (by decide) hw_2 (fun _ h9 => h9) rfl dX4_takeFirst_38 ?_
    refine lv_iconst (v := 1) hx hb dX4_takeFirst_41 (by decide) ?_
    refine lv_isub hx hb dX4_takeFirst_42 ?_
    refine lv_topi (fun x7 e7 => ?_)
    obtain rfl : x7 = nI (k - 1) := e7.trans (pk_sub (a := k) (b := 1) (by omega))
    refine va_put (D := D) (ci := 11) (v := .int (nI (k - 1))) (ty := .int) (C := RX4) (T := TX4) (N := 14) hx hb hts hb_0 tyX4 tyX4_ok nmX4 hown hK hP hD hS 0 rfl rfl 13 (by decide) hw_2 (fun _ h9 => h9) rfl (by decide +kernel) rfl rfl (Nat.le_of_ble_eq_true rfl) dX4_takeFirst_43 (fun H locs hP hD hS => ?_)
    have hP : va_P D vwCl [(g, .inr (11, [.int n, .ref a1, .ref a2, .ref a3, .ref a4, .ref a5, .ref a6, .ref a7, .ref a8, .ref a9, .ref a10, .ref a11, .int (nI (h + 1)), .int (nI (k - 1))])), (a6, .inl (cw, 144, .inl (fL w))), (a10, .inl (cq, 144, .inl (fL q))), (a11, .inl (cz, 144, .inl (fL z)))] H := hP
    have hD : va_D A [(g, .inr (11, [.int n, .ref a1, .ref a2, .ref a3, .ref a4, .ref a5, .ref a6, .ref a7, .ref a8, .ref a9, .ref a10, .ref a11, .int (nI (h + 1)), .int (nI (k - 1))])), (a6, .inl (cw, 144, .inl (fL w))), (a10, .inl (cq, 144, .inl (fL q))), (a11, .inl (cz, 144, .inl (fL z)))] := hD
    refine lv_aload_n hx hb dX4_takeFirst_46 rfl (lv_at hl 1 rfl) ?_
    refine va_get (D := D) (ci := 11) (v := .ref a11) (C := RX4) (T := TX4) (N := 14) hx hb hts hb_0 hown hK hP 0 rfl rfl 11 (by decide) hw_3 (fun _ h9 => h9) rfl dX4_takeFirst_47 ?_
    refine lv_iload_n hx hb dX4_takeFirst_50 rfl (lv_at hl 0 rfl) ?_
    refine lv_iconst (v := 0) hx hb dX4_takeFirst_51 (by decide) ?_
    refine va_zast hx hb hK hP hD hS 3 2 rfl rfl (vp_in_nI (n := q.getD h 0) (by omega) (by decide)) dX4_takeFirst_52 (fun H locs hP hD hS => ?_)
    have hcf : upd (fL z) ((nI (q.getD h 0)).toNatClampNeg) (vp_nar .boolean 0) = fL (z.set (q.getD h 0) 0) := fL_up (L := z) (k := q.getD h 0) (v := 0) (by omega) (by omega)
    have hP : va_P D vwCl [(g, .inr (11, [.int n, .ref a1, .ref a2, .ref a3, .ref a4, .ref a5, .ref a6, .ref a7, .ref a8, .ref a9, .ref a10, .ref a11, .int (nI (h + 1)), .int (nI (k - 1))])), (a6, .inl (cw, 144, .inl (fL w))), (a10, .inl (cq, 144, .inl (fL q))), (a11, .inl (cz, 144, .inl (upd (fL z) ((nI (q.getD h 0)).toNatClampNeg) (vp_nar .boolean 0))))] H := hP
    have hD : va_D A [(g, .inr (11, [.int n, .ref a1, .ref a2, .ref a3, .ref a4, .ref a5, .ref a6, .ref a7, .ref a8, .ref a9, .ref a10, .ref a11, .int (nI (h + 1)), .int (nI (k - 1))])), (a6, .inl (cw, 144, .inl (fL w))), (a10, .inl (cq, 144, .inl (fL q))), (a11, .inl (cz, 144, .inl (upd (fL z) ((nI (q.getD h 0)).toNatClampNeg) (vp_nar .boolean 0))))] := hD
    rw [hcf] at hP hD
    clear hcf
    have hP : va_P D vwCl [(g, .inr (11, [.int n, .ref a1, .ref a2, .ref a3, .ref a4, .ref a5, .ref a6, .ref a7, .ref a8, .ref a9, .ref a10, .ref a11, .int (nI (h + 1)), .int (nI (k - 1))])), (a6, .inl (cw, 144, .inl (fL w))), (a10, .inl (cq, 144, .inl (fL q))), (a11, .inl (cz, 144, .inl (fL (z.set (q.getD h 0) 0))))] H := hP
    have hD : va_D A [(g, .inr (11, [.int n, .ref a1, .ref a2, .ref a3, .ref a4, .ref a5, .ref a6, .ref a7, .ref a8, .ref a9, .ref a10, .ref a11, .int (nI (h + 1)), .int (nI (k - 1))])), (a6, .inl (cw, 144, .inl (fL w))), (a10, .inl (cq, 144, .inl (fL q))), (a11, .inl (cz, 144, .inl (fL (z.set (q.getD h 0) 0))))] := hD
    refine lv_iload_n hx hb dX4_takeFirst_53 rfl (lv_at hl 0 rfl) ?_
    exact mr_i hx hb hr (w, q, z.set (q.getD h 0) 0, h + 1, k - 1) (⟨rfl, tk_1 (by omega)⟩) (hP.sub [0, 1, 2, 3] rfl) (hK.sub [] rfl) (hD.sub [0, 1, 2, 3] (by decide) rfl) hS (Nat.le_of_ble_eq_true rfl) (Nat.le_of_ble_eq_true rfl) hlocks dX4_takeFirst_54
