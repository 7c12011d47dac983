theorem dJ7_copyOf_6403c_0 : decode cJ7_copyOf_6403c 0 = .ok (.aload_n 2, 1) := by decide +kernel
theorem dJ7_copyOf_6403c_1 : decode cJ7_copyOf_6403c 1 = .ok (.ldc 110, 2) := by decide +kernel
theorem dJ7_copyOf_6403c_3 : decode cJ7_copyOf_6403c 3 = .ok (.if_acmp .ne 10, 3) := by decide +kernel
theorem dJ7_copyOf_6403c_6 : decode cJ7_copyOf_6403c 6 = .ok (.iload_n 1, 1) := by decide +kernel
theorem dJ7_copyOf_6403c_7 : decode cJ7_copyOf_6403c 7 = .ok (.anewarray 2, 3) := by decide +kernel
theorem dJ7_copyOf_6403c_10 : decode cJ7_copyOf_6403c 10 = .ok (.goto 14, 3) := by decide +kernel
theorem dJ7_copyOf_6403c_24 : decode cJ7_copyOf_6403c 24 = .ok (.astore_n 3, 1) := by decide +kernel
theorem dJ7_copyOf_6403c_25 : decode cJ7_copyOf_6403c 25 = .ok (.aload_n 0, 1) := by decide +kernel
theorem dJ7_copyOf_6403c_26 : decode cJ7_copyOf_6403c 26 = .ok (.iconst 0, 1) := by decide +kernel
theorem dJ7_copyOf_6403c_27 : decode cJ7_copyOf_6403c 27 = .ok (.aload_n 3, 1) := by decide +kernel
theorem dJ7_copyOf_6403c_28 : decode cJ7_copyOf_6403c 28 = .ok (.iconst 0, 1) := by decide +kernel
theorem dJ7_copyOf_6403c_29 : decode cJ7_copyOf_6403c 29 = .ok (.aload_n 0, 1) := by decide +kernel
theorem dJ7_copyOf_6403c_30 : decode cJ7_copyOf_6403c 30 = .ok (.arraylength, 1) := by decide +kernel
theorem dJ7_copyOf_6403c_31 : decode cJ7_copyOf_6403c 31 = .ok (.iload_n 1, 1) := by decide +kernel
theorem dJ7_copyOf_6403c_32 : decode cJ7_copyOf_6403c 32 = .ok (.invokestatic 304, 3) := by decide +kernel
theorem dJ7_copyOf_6403c_35 : decode cJ7_copyOf_6403c 35 = .ok (.invokestatic 150, 3) := by decide +kernel
theorem dJ7_copyOf_6403c_38 : decode cJ7_copyOf_6403c 38 = .ok (.aload_n 3, 1) := by decide +kernel
theorem dJ7_copyOf_6403c_39 : decode cJ7_copyOf_6403c 39 = .ok (.areturn, 1) := by decide +kernel
theorem dJ7_copyOf_1904c_0 : decode cJ7_copyOf_1904c 0 = .ok (.aload_n 0, 1) := by decide +kernel
theorem dJ7_copyOf_1904c_1 : decode cJ7_copyOf_1904c 1 = .ok (.iload_n 1, 1) := by decide +kernel
theorem dJ7_copyOf_1904c_2 : decode cJ7_copyOf_1904c 2 = .ok (.aload_n 0, 1) := by decide +kernel
theorem dJ7_copyOf_1904c_3 : decode cJ7_copyOf_1904c 3 = .ok (.invokevirtual 86, 3) := by decide +kernel
theorem dJ7_copyOf_1904c_6 : decode cJ7_copyOf_1904c 6 = .ok (.invokestatic 300, 3) := by decide +kernel
theorem dJ7_copyOf_1904c_9 : decode cJ7_copyOf_1904c 9 = .ok (.areturn, 1) := by decide +kernel
theorem dJx4a65c_toArray_d5877_0 : decode cJx4a65c_toArray_d5877 0 = .ok (.aload_n 0, 1) := by decide +kernel
theorem dJx4a65c_toArray_d5877_1 : decode cJx4a65c_toArray_d5877 1 = .ok (.getfield 9, 3) := by decide +kernel
theorem dJx4a65c_toArray_d5877_4 : decode cJx4a65c_toArray_d5877 4 = .ok (.aload_n 0, 1) := by decide +kernel
theorem dJx4a65c_toArray_d5877_5 : decode cJx4a65c_toArray_d5877 5 = .ok (.getfield 48, 3) := by decide +kernel
theorem dJx4a65c_toArray_d5877_8 : decode cJx4a65c_toArray_d5877 8 = .ok (.invokestatic 66, 3) := by decide +kernel
theorem dJx4a65c_toArray_d5877_11 : decode cJx4a65c_toArray_d5877 11 = .ok (.areturn, 1) := by decide +kernel
theorem dJx4a65c_init_4bcb3_0 : decode cJx4a65c_init_4bcb3 0 = .ok (.aload_n 0, 1) := by decide +kernel
theorem dJx4a65c_init_4bcb3_1 : decode cJx4a65c_init_4bcb3 1 = .ok (.invokespecial 1, 3) := by decide +kernel
theorem dJx4a65c_init_4bcb3_4 : decode cJx4a65c_init_4bcb3 4 = .ok (.aload_n 1, 1) := by decide +kernel
theorem dJx4a65c_init_4bcb3_5 : decode cJx4a65c_init_4bcb3 5 = .ok (.invokeinterface 42 1, 5) := by decide +kernel
theorem dJx4a65c_init_4bcb3_10 : decode cJx4a65c_init_4bcb3 10 = .ok (.astore_n 2, 1) := by decide +kernel
theorem dJx4a65c_init_4bcb3_11 : decode cJx4a65c_init_4bcb3 11 = .ok (.aload_n 0, 1) := by decide +kernel
theorem dJx4a65c_init_4bcb3_12 : decode cJx4a65c_init_4bcb3 12 = .ok (.aload_n 2, 1) := by decide +kernel
theorem dJx4a65c_init_4bcb3_13 : decode cJx4a65c_init_4bcb3 13 = .ok (.arraylength, 1) := by decide +kernel
theorem dJx4a65c_init_4bcb3_14 : decode cJx4a65c_init_4bcb3 14 = .ok (.dup_x1, 1) := by decide +kernel
theorem dJx4a65c_init_4bcb3_15 : decode cJx4a65c_init_4bcb3 15 = .ok (.putfield 48, 3) := by decide +kernel
theorem dJx4a65c_init_4bcb3_18 : decode cJx4a65c_init_4bcb3 18 = .ok (.ifCond .eq 39, 3) := by decide +kernel
theorem dJx4a65c_init_4bcb3_57 : decode cJx4a65c_init_4bcb3 57 = .ok (.aload_n 0, 1) := by decide +kernel
theorem dJx4a65c_init_4bcb3_58 : decode cJx4a65c_init_4bcb3 58 = .ok (.getstatic 15, 3) := by decide +kernel
theorem dJx4a65c_init_4bcb3_61 : decode cJx4a65c_init_4bcb3 61 = .ok (.putfield 9, 3) := by decide +kernel
theorem dJx4a65c_init_4bcb3_64 : decode cJx4a65c_init_4bcb3 64 = .ok (.return_, 1) := by decide +kernel
theorem dX9_fairWays_0 : decode cX9_fairWays 0 = .ok (.iconst 0, 1) := by decide +kernel
theorem dX9_fairWays_1 : decode cX9_fairWays 1 = .ok (.istore_n 1, 1) := by decide +kernel
theorem dX9_fairWays_2 : decode cX9_fairWays 2 = .ok (.aload_n 0, 1) := by decide +kernel
theorem dX9_fairWays_3 : decode cX9_fairWays 3 = .ok (.getfield 52, 3) := by decide +kernel
theorem dX9_fairWays_6 : decode cX9_fairWays 6 = .ok (.invokevirtual 160, 3) := by decide +kernel
theorem dX9_fairWays_9 : decode cX9_fairWays 9 = .ok (.astore_n 2, 1) := by decide +kernel
theorem dX9_fairWays_10 : decode cX9_fairWays 10 = .ok (.aload_n 2, 1) := by decide +kernel
theorem dX9_fairWays_11 : decode cX9_fairWays 11 = .ok (.invokeinterface 164 1, 5) := by decide +kernel
theorem dX9_fairWays_16 : decode cX9_fairWays 16 = .ok (.ifCond .eq 21, 3) := by decide +kernel
theorem dX9_fairWays_37 : decode cX9_fairWays 37 = .ok (.aload_n 0, 1) := by decide +kernel
theorem dX9_fairWays_38 : decode cX9_fairWays 38 = .ok (.getfield 49, 3) := by decide +kernel
theorem dX9_fairWays_41 : decode cX9_fairWays 41 = .ok (.iconst (-1), 1) := by decide +kernel
theorem dX9_fairWays_42 : decode cX9_fairWays 42 = .ok (.if_icmp .ne 7, 3) := by decide +kernel
theorem dX9_fairWays_45 : decode cX9_fairWays 45 = .ok (.iconst 0, 1) := by decide +kernel
theorem dX9_fairWays_46 : decode cX9_fairWays 46 = .ok (.goto 20, 3) := by decide +kernel
theorem dX9_fairWays_66 : decode cX9_fairWays 66 = .ok (.istore_n 2, 1) := by decide +kernel
theorem dX9_fairWays_67 : decode cX9_fairWays 67 = .ok (.iload_n 2, 1) := by decide +kernel
theorem dX9_fairWays_68 : decode cX9_fairWays 68 = .ok (.iload_n 1, 1) := by decide +kernel
theorem dX9_fairWays_69 : decode cX9_fairWays 69 = .ok (.imul, 1) := by decide +kernel
theorem dX9_fairWays_70 : decode cX9_fairWays 70 = .ok (.bipush 12, 2) := by decide +kernel
theorem dX9_fairWays_72 : decode cX9_fairWays 72 = .ok (.if_icmp .le 9, 3) := by decide +kernel
theorem dX9_fairWays_81 : decode cX9_fairWays 81 = .ok (.new 36, 3) := by decide +kernel
theorem dX9_fairWays_84 : decode cX9_fairWays 84 = .ok (.dup, 1) := by decide +kernel
theorem dX9_fairWays_85 : decode cX9_fairWays 85 = .ok (.aload_n 0, 1) := by decide +kernel
theorem dX9_fairWays_86 : decode cX9_fairWays 86 = .ok (.getfield 52, 3) := by decide +kernel
theorem dX9_fairWays_89 : decode cX9_fairWays 89 = .ok (.invokespecial 334, 3) := by decide +kernel
theorem dX9_fairWays_92 : decode cX9_fairWays 92 = .ok (.astore_n 3, 1) := by decide +kernel
theorem dX9_fairWays_93 : decode cX9_fairWays 93 = .ok (.iconst 0, 1) := by decide +kernel
theorem dX9_fairWays_94 : decode cX9_fairWays 94 = .ok (.istore 4, 2) := by decide +kernel
theorem dX9_fairWays_96 : decode cX9_fairWays 96 = .ok (.iconst 0, 1) := by decide +kernel
theorem dX9_fairWays_97 : decode cX9_fairWays 97 = .ok (.istore 5, 2) := by decide +kernel
theorem dX9_fairWays_99 : decode cX9_fairWays 99 = .ok (.iload 5, 2) := by decide +kernel
theorem dX9_fairWays_101 : decode cX9_fairWays 101 = .ok (.iconst 1, 1) := by decide +kernel
theorem dX9_fairWays_102 : decode cX9_fairWays 102 = .ok (.iload_n 2, 1) := by decide +kernel
theorem dX9_fairWays_103 : decode cX9_fairWays 103 = .ok (.iload_n 1, 1) := by decide +kernel
theorem dX9_fairWays_104 : decode cX9_fairWays 104 = .ok (.imul, 1) := by decide +kernel
theorem dX9_fairWays_105 : decode cX9_fairWays 105 = .ok (.ishl, 1) := by decide +kernel
theorem dX9_fairWays_106 : decode cX9_fairWays 106 = .ok (.if_icmp .ge 113, 3) := by decide +kernel
theorem dX9_fairWays_109 : decode cX9_fairWays 109 = .ok (.iload 5, 2) := by decide +kernel
theorem dX9_fairWays_111 : decode cX9_fairWays 111 = .ok (.istore 6, 2) := by decide +kernel
theorem dX9_fairWays_113 : decode cX9_fairWays 113 = .ok (.iconst 0, 1) := by decide +kernel
theorem dX9_fairWays_114 : decode cX9_fairWays 114 = .ok (.istore 7, 2) := by decide +kernel
theorem dX9_fairWays_116 : decode cX9_fairWays 116 = .ok (.iload 7, 2) := by decide +kernel
theorem dX9_fairWays_118 : decode cX9_fairWays 118 = .ok (.aload_n 0, 1) := by decide +kernel
theorem dX9_fairWays_119 : decode cX9_fairWays 119 = .ok (.getfield 52, 3) := by decide +kernel
theorem dX9_fairWays_122 : decode cX9_fairWays 122 = .ok (.invokevirtual 135, 3) := by decide +kernel
theorem dX9_fairWays_125 : decode cX9_fairWays 125 = .ok (.if_icmp .ge 71, 3) := by decide +kernel
theorem dX9_fairWays_196 : decode cX9_fairWays 196 = .ok (.iload 4, 2) := by decide +kernel
theorem dX9_fairWays_198 : decode cX9_fairWays 198 = .ok (.aload_n 0, 1) := by decide +kernel
theorem dX9_fairWays_199 : decode cX9_fairWays 199 = .ok (.invokevirtual 331, 3) := by decide +kernel
theorem dX9_fairWays_202 : decode cX9_fairWays 202 = .ok (.ifCond .eq 7, 3) := by decide +kernel
theorem dX9_fairWays_205 : decode cX9_fairWays 205 = .ok (.iconst 1, 1) := by decide +kernel
theorem dX9_fairWays_206 : decode cX9_fairWays 206 = .ok (.goto 4, 3) := by decide +kernel
theorem dX9_fairWays_210 : decode cX9_fairWays 210 = .ok (.iadd, 1) := by decide +kernel
theorem dX9_fairWays_211 : decode cX9_fairWays 211 = .ok (.istore 4, 2) := by decide +kernel
theorem dX9_fairWays_213 : decode cX9_fairWays 213 = .ok (.iinc 5 1, 3) := by decide +kernel
theorem dX9_fairWays_216 : decode cX9_fairWays 216 = .ok (.goto (-117), 3) := by decide +kernel
theorem dX9_fairWays_219 : decode cX9_fairWays 219 = .ok (.iconst 0, 1) := by decide +kernel
theorem dX9_fairWays_220 : decode cX9_fairWays 220 = .ok (.istore 5, 2) := by decide +kernel
theorem dX9_fairWays_222 : decode cX9_fairWays 222 = .ok (.iload 5, 2) := by decide +kernel
theorem dX9_fairWays_224 : decode cX9_fairWays 224 = .ok (.aload_n 3, 1) := by decide +kernel
theorem dX9_fairWays_225 : decode cX9_fairWays 225 = .ok (.invokevirtual 135, 3) := by decide +kernel
theorem dX9_fairWays_228 : decode cX9_fairWays 228 = .ok (.if_icmp .ge 28, 3) := by decide +kernel
theorem dX9_fairWays_256 : decode cX9_fairWays 256 = .ok (.aload_n 0, 1) := by decide +kernel
theorem dX9_fairWays_257 : decode cX9_fairWays 257 = .ok (.iload 4, 2) := by decide +kernel
theorem dX9_fairWays_259 : decode cX9_fairWays 259 = .ok (.invokevirtual 80, 3) := by decide +kernel
theorem dX9_fairWays_262 : decode cX9_fairWays 262 = .ok (.ireturn, 1) := by decide +kernel
/-! the reference: fairWays on a new object -/
def us_c_copyOf3 : List Cond := .code yJ7_copyOf_6403c cJ7_copyOf_6403c 4 (some (.array (.object "java/lang/Object"))) :: (([.classLink RJ7 110 "[Ljava/lang/Object;", .classLink RJ7 2 "java/lang/Object", .methodLink RJ7 304 Lib.Math.min.name, .static Lib.Math.min.name, .initialized "java/lang/Math", .code Lib.Math.min.name Lib.Math.min.code 2 (some .int), .methodLink RJ7 150 arraycopyName, .native arraycopyName, .static arraycopyName, .initialized "java/lang/System"] : List Cond) ++ ([]))
theorem gw_c_copyOf3 : ∀ w ∈ us_c_copyOf3, goodWord w = true := gw_cons rfl (gw_app (by decide +kernel) (fun _ h => nomatch h))
set_option maxHeartbeats 4000000 in
set_option maxRecDepth 100000 in
/-- copyOf of the empty array -/
theorem c_copyOf3 (l : Launch) (hst : l.stackTraces = false) (D : va_G) (sz : Nat) : Met l yJ7_copyOf_6403c us_c_copyOf3 { frames := 1, cells := 1, slots := 0, locals := 48 } (pw D [.ref (D.1 1000), .int 0, .ref (D.1 1002)] [] [] sz) (va_Qq (fun (r : Option Nat) (u : Nat × ClassId) => r = some u.1) (qb D (va_A [] sz) (fun u : (Nat × ClassId) => [(u.1, .inl (u.2, 0, .inr (.inr (.inr (.inr (fun _ => none))))))]) (fun u : (Nat × ClassId) => ([(u.2, .object "java/lang/Object")] : List (ClassId × FieldType)))) (va_A [] sz)) 1 0 (va_A [] sz) := by
  refine op_M (Qc := fun A => (va_Qq (fun (r : Option Nat) (u : Nat × ClassId) => r = some u.1) (qb D A (fun u : (Nat × ClassId) => [(u.1, .inl (u.2, 0, .inr (.inr (.inr (.inr (fun _ => none))))))]) (fun u : (Nat × ClassId) => ([(u.2, .object "java/lang/Object")] : List (ClassId × FieldType)))) A)) (by decide +kernel) rfl (Nat.le_of_ble_eq_true rfl) ?_
  intro p e s m args below meth c A ls hx hb hr hml hts hown hlocks hmn htab hA hD hS hP hK hE hsz hl
  have hown : s.vm.findClass RJ7 = some m.cls := hown
  have hl : lv_has ls 4 [(0, .ref (D.1 1000)), (1, .int 0), (2, .ref (D.1 1002))] := hl
  have hw_0 := hts (.classLink RJ7 110 "[Ljava/lang/Object;") (List.mem_cons_of_mem _ (List.mem_append_left _ (List.mem_of_getElem? (i := 0) rfl)))
  have hw_1 := hts (.classLink RJ7 2 "java/lang/Object") (List.mem_cons_of_mem _ (List.mem_append_left _ (List.mem_of_getElem? (i := 1) rfl)))
  have hw_2 := hts (.methodLink RJ7 304 Lib.Math.min.name) (List.mem_cons_of_mem _ (List.mem_append_left _ (List.mem_of_getElem? (i := 2) rfl)))
  have hw_3 := hts (.static Lib.Math.min.name) (List.mem_cons_of_mem _ (List.mem_append_left _ (List.mem_of_getElem? (i := 3) rfl)))
  have hw_4 := hts (.initialized "java/lang/Math") (List.mem_cons_of_mem _ (List.mem_append_left _ (List.mem_of_getElem? (i := 4) rfl)))
  have hw_5 := hts (.code Lib.Math.min.name Lib.Math.min.code 2 (some .int)) (List.mem_cons_of_mem _ (List.mem_append_left _ (List.mem_of_getElem? (i := 5) rfl)))
  have hw_6 := hts (.methodLink RJ7 150 arraycopyName) (List.mem_cons_of_mem _ (List.mem_append_left _ (List.mem_of_getElem? (i := 6) rfl)))
  have hw_7 := hts (.native arraycopyName) (List.mem_cons_of_mem _ (List.mem_append_left _ (List.mem_of_getElem? (i := 7) rfl)))
  have hw_8 := hts (.static arraycopyName) (List.mem_cons_of_mem _ (List.mem_append_left _ (List.mem_of_getElem? (i := 8) rfl)))
  have hw_9 := hts (.initialized "java/lang/System") (List.mem_cons_of_mem _ (List.mem_append_left _ (List.mem_of_getElem? (i := 9) rfl)))
  refine lv_aload_n hx hb dJ7_copyOf_6403c_0 rfl (lv_at hl 2 rfl) ?_
  refine va_ldcM (C := "[Ljava/lang/Object;") hx hb hown hw_0 hE.2.2.2.2.2.2.2.2.2.2.1 dJ7_copyOf_6403c_1 ?_
  refine lv_acmp_ne (rx := some (D.1 1002)) (ry := some (D.1 1002)) (tgt := 13) hx hb dJ7_copyOf_6403c_3 (by decide) (fun h1 => absurd rfl h1) (fun h1 => ?_)
  refine lv_iload_n hx hb dJ7_copyOf_6403c_6 rfl (lv_at hl 1 rfl) ?_
  refine va_newq (C := "java/lang/Object") hx hb hown hw_1 (hE.2.2.2.2.2.1.2.2.2.1 "java/lang/Object" (List.mem_of_getElem? (i := 3) rfl)) hK hP hD hS hA (N' := 0) (by decide) (by decide) (Nat.le_of_ble_eq_true rfl) (Nat.le_of_ble_eq_true rfl) (Nat.le_of_ble_eq_true rfl) dJ7_copyOf_6403c_7 (fun q2 cy3 H hK hP hD hS => ?_)
  have hK : va_K D vwCl [(cy3, .object "java/lang/Object")] s := hK
  have hP : va_P D vwCl [(q2, .inl (cy3, 0, .inr (.inr (.inr (.inr (fun _ => none))))))] H := hP
  have hD : va_D A [(q2, .inl (cy3, 0, .inr (.inr (.inr (.inr (fun _ => none))))))] := hD
  refine W.widen (k := 1) (n := 0) (Nat.le_of_ble_eq_true rfl) (Nat.le_of_ble_eq_true rfl) ?_
  refine lv_goto (tgt := 24) hx hb dJ7_copyOf_6403c_10 (by decide) ?_
  refine lv_astore_n (lv' := [(3, .ref q2), (0, .ref (D.1 1000)), (1, .int 0), (2, .ref (D.1 1002))]) hx hb dJ7_copyOf_6403c_24 rfl hl (by decide) rfl (fun ls hl => ?_)
  refine lv_aload_n hx hb dJ7_copyOf_6403c_25 rfl (lv_at hl 1 rfl) ?_
  refine lv_iconst (v := 0) hx hb dJ7_copyOf_6403c_26 (by decide) ?_
  refine lv_aload_n hx hb dJ7_copyOf_6403c_27 rfl (lv_at hl 0 rfl) ?_
  refine lv_iconst (v := 0) hx hb dJ7_copyOf_6403c_28 (by decide) ?_
  refine lv_aload_n hx hb dJ7_copyOf_6403c_29 rfl (lv_at hl 1 rfl) ?_
  refine va_tlen (t := D.1 1000) (N := 0) (v := 0) hx hb hE.2.2.2.2.2.2.2.2.1 hS rfl dJ7_copyOf_6403c_30 ?_
  refine lv_iload_n hx hb dJ7_copyOf_6403c_31 rfl (lv_at hl 2 rfl) ?_
  refine va_mmin hx hb (by rw [hml]; exact hl.1.symm) hown hw_2 hw_3 hw_4 hw_5 (Nat.le_of_ble_eq_true rfl) (Nat.le_of_ble_eq_true rfl) (Nat.le_of_ble_eq_true rfl) (Nat.le_of_ble_eq_true rfl) dJ7_copyOf_6403c_32 ?_
  refine lv_topi (fun x4 e4 => ?_)
  obtain rfl : x4 = 0 := e4.trans (by decide)
  refine va_copyE hx hb (by rw [hml]; exact hl.1.symm) hown hw_6 hw_7 hw_8 hw_9 hK hP hS 0 0 rfl rfl hE.2.2.2.2.2.2.2.2.1 hE.2.2.2.2.2.2.2.2.2.1 (Nat.le_of_ble_eq_true rfl) (by decide) dJ7_copyOf_6403c_35 ?_
  refine lv_aload_n hx hb dJ7_copyOf_6403c_38 rfl (lv_at hl 0 rfl) ?_
  exact mr_q (v := some q2) hx hb hr (Or.inr ⟨_, rfl⟩) (q2, cy3) (rfl) (hP.sub [0] rfl) (hK.sub [0] rfl) (hD.sub [0] (by decide) rfl) hS (Nat.le_of_ble_eq_true rfl) (Nat.le_of_ble_eq_true rfl) hlocks dJ7_copyOf_6403c_39

def us_c_copyOf2 : List Cond := .code yJ7_copyOf_1904c cJ7_copyOf_1904c 2 (some (.array (.object "java/lang/Object"))) :: (([.methodLink RJ7 86 ⟨"java/lang/Object", "getClass", "()Ljava/lang/Class;"⟩, .selects "[Ljava/lang/Object;" ⟨"java/lang/Object", "getClass", "()Ljava/lang/Class;"⟩ ⟨"java/lang/Object", "getClass", "()Ljava/lang/Class;"⟩, .instanceMethod ⟨"java/lang/Object", "getClass", "()Ljava/lang/Class;"⟩, .native ⟨"java/lang/Object", "getClass", "()Ljava/lang/Class;"⟩, .methodLink RJ7 300 yJ7_copyOf_6403c, .static yJ7_copyOf_6403c, .initialized RJ7] : List Cond) ++ (us_c_copyOf3 ++ ([])))
theorem gw_c_copyOf2 : ∀ w ∈ us_c_copyOf2, goodWord w = true := gw_cons rfl (gw_app (by decide +kernel) (gw_app gw_c_copyOf3 (fun _ h => nomatch h)))
set_option maxHeartbeats 4000000 in
set_option maxRecDepth 100000 in
/-- copyOf of the empty array -/
theorem c_copyOf2 (l : Launch) (hst : l.stackTraces = false) (D : va_G) (sz : Nat) : Met l yJ7_copyOf_1904c us_c_copyOf2 { frames := 2, cells := 1, slots := 0, locals := 71 } (pw D [.ref (D.1 1000), .int 0] [] [] sz) (va_Qq (fun (r : Option Nat) (u : Nat × ClassId) => r = some u.1) (qb D (va_A [] sz) (fun u : (Nat × ClassId) => [(u.1, .inl (u.2, 0, .inr (.inr (.inr (.inr (fun _ => none))))))]) (fun u : (Nat × ClassId) => ([(u.2, .object "java/lang/Object")] : List (ClassId × FieldType)))) (va_A [] sz)) 1 0 (va_A [] sz) := by
  refine op_M (Qc := fun A => (va_Qq (fun (r : Option Nat) (u : Nat × ClassId) => r = some u.1) (qb D A (fun u : (Nat × ClassId) => [(u.1, .inl (u.2, 0, .inr (.inr (.inr (.inr (fun _ => none))))))]) (fun u : (Nat × ClassId) => ([(u.2, .object "java/lang/Object")] : List (ClassId × FieldType)))) A)) (by decide +kernel) rfl (Nat.le_of_ble_eq_true rfl) ?_
  intro p e s m args below meth c A ls hx hb hr hml hts hown hlocks hmn htab hA hD hS hP hK hE hsz hl
  have hown : s.vm.findClass RJ7 = some m.cls := hown
  have hl : lv_has ls 2 [(0, .ref (D.1 1000)), (1, .int 0)] := hl
  have hw_0 := hts (.methodLink RJ7 86 ⟨"java/lang/Object", "getClass", "()Ljava/lang/Class;"⟩) (List.mem_cons_of_mem _ (List.mem_append_left _ (List.mem_of_getElem? (i := 0) rfl)))
  have hw_1 := hts (.selects "[Ljava/lang/Object;" ⟨"java/lang/Object", "getClass", "()Ljava/lang/Class;"⟩ ⟨"java/lang/Object", "getClass", "()Ljava/lang/Class;"⟩) (List.mem_cons_of_mem _ (List.mem_append_left _ (List.mem_of_getElem? (i := 1) rfl)))
  have hw_2 := hts (.instanceMethod ⟨"java/lang/Object", "getClass", "()Ljava/lang/Class;"⟩) (List.mem_cons_of_mem _ (List.mem_append_left _ (List.mem_of_getElem? (i := 2) rfl)))
  have hw_3 := hts (.native ⟨"java/lang/Object", "getClass", "()Ljava/lang/Class;"⟩) (List.mem_cons_of_mem _ (List.mem_append_left _ (List.mem_of_getElem? (i := 3) rfl)))
  have hw_4 := hts (.methodLink RJ7 300 yJ7_copyOf_6403c) (List.mem_cons_of_mem _ (List.mem_append_left _ (List.mem_of_getElem? (i := 4) rfl)))
  have hw_5 := hts (.static yJ7_copyOf_6403c) (List.mem_cons_of_mem _ (List.mem_append_left _ (List.mem_of_getElem? (i := 5) rfl)))
  have hw_6 := hts (.initialized RJ7) (List.mem_cons_of_mem _ (List.mem_append_left _ (List.mem_of_getElem? (i := 6) rfl)))
  have hb_0 : ∀ w ∈ us_c_copyOf3, w ∈ us_c_copyOf2 := fun w h => List.mem_cons_of_mem _ (List.mem_append_right _ (List.mem_append_left _ h))
  refine lv_aload_n hx hb dJ7_copyOf_1904c_0 rfl (lv_at hl 0 rfl) ?_
  refine lv_iload_n hx hb dJ7_copyOf_1904c_1 rfl (lv_at hl 1 rfl) ?_
  refine lv_aload_n hx hb dJ7_copyOf_1904c_2 rfl (lv_at hl 0 rfl) ?_
  refine va_getC (C := "[Ljava/lang/Object;") (mi := D.1 1002) hx hb (by rw [hml]; exact hl.1.symm) hown hw_0 hE.2.2.2.2.2.2.2.2.2.2.2.1.use hw_1 hw_2 hw_3 hE.2.2.2.2.2.2.2.2.2.2.1 (by obtain ⟨ce, g1, g2, g3, -⟩ := hE.2.2.2.2.2.2.2.2.2.1; exact ⟨ce, g1, g2, g3⟩) (Nat.le_of_ble_eq_true rfl) (Nat.le_of_ble_eq_true rfl) dJ7_copyOf_1904c_3 ?_
  refine mc_q (wr := []) (va_runS (As := [.ref (D.1 1000), .int 0, .ref (D.1 1002)]) (rest := []) ⟨hx, hb, hml, hown, hts⟩ (c_copyOf3 l hst D s.heap.size) (va_cwS 3 hts (gi_c (List.mem_cons_of_mem _ (List.mem_append_left _ (List.mem_of_getElem? (i := 4) rfl))) rfl (gi_c (List.mem_cons_of_mem _ (List.mem_append_left _ (List.mem_of_getElem? (i := 5) rfl))) rfl (gi_c (List.mem_cons_of_mem _ (List.mem_append_left _ (List.mem_of_getElem? (i := 6) rfl))) rfl (goodIn_sub hb_0 (List.all_eq_true.mpr gw_c_copyOf3))))) rfl rfl rfl (by decide +kernel) ⟨Nat.le_of_ble_eq_true rfl, Nat.le_of_ble_eq_true rfl⟩) (pr_S (As := [.ref (D.1 1000), .int 0, .ref (D.1 1002)]) hP hD hK hS hA hE [] [] rfl rfl rfl) rfl rfl hl.1 rfl (lv_room (Nat.le_of_ble_eq_true rfl)) dJ7_copyOf_1904c_6 ⟨Nat.le_of_ble_eq_true rfl, Nat.le_of_ble_eq_true rfl⟩) hP hD hK hS hA [] [] rfl rfl (by decide) (by decide) (fun r3 u1 H locs w2 hP hD hK hS => ?_)
  have hP : va_P D vwCl [(u1.1, .inl (u1.2, 0, .inr (.inr (.inr (.inr (fun _ => none))))))] H := hP
  have hD : va_D A [(u1.1, .inl (u1.2, 0, .inr (.inr (.inr (.inr (fun _ => none))))))] := hD
  have hK : va_K D vwCl [(u1.2, .object "java/lang/Object")] s := hK
  obtain rfl := w2
  exact mr_q (v := some u1.1) hx hb hr (Or.inr ⟨_, rfl⟩) (u1.1, u1.2) (rfl) (hP.sub [0] rfl) (hK.sub [0] rfl) (hD.sub [0] (by decide) rfl) hS (Nat.le_of_ble_eq_true rfl) (Nat.le_of_ble_eq_true rfl) hlocks dJ7_copyOf_1904c_9

def us_c_toArray : List Cond := .code yJx4a65c_toArray_d5877 cJx4a65c_toArray_d5877 1 (some (.array (.object "java/lang/Object"))) :: (([.fieldLink RJx4a65c 9 "java/util/ArrayList" "elementData" "[Ljava/lang/Object;", .fieldLink RJx4a65c 48 "java/util/ArrayList" "size" "I", .methodLink RJx4a65c 66 yJ7_copyOf_1904c, .static yJ7_copyOf_1904c, .initialized RJ7] : List Cond) ++ (wsJx4a65c0 ++ (us_c_copyOf2 ++ ([]))))
theorem gw_c_toArray : ∀ w ∈ us_c_toArray, goodWord w = true := gw_cons rfl (gw_app (by decide +kernel) (gw_app gwf_Jx4a65c (gw_app gw_c_copyOf2 (fun _ h => nomatch h))))
set_option maxHeartbeats 4000000 in
set_option maxRecDepth 100000 in
/-- toArray of an empty list -/
theorem c_toArray (l : Launch) (hst : l.stackTraces = false) (D : va_G) (b : Nat) (v : Int32) (sz : Nat) : Met l yJx4a65c_toArray_d5877 us_c_toArray { frames := 3, cells := 1, slots := 0, locals := 92 } (pw D [.ref b] [] [(b, .inr (5, [.int v, .ref (D.1 1000), .int 0]))] sz) (va_Qq (fun (r : Option Nat) (u : Nat × ClassId) => r = some u.1) (qb D (va_A [(b, .inr (5, [.int v, .ref (D.1 1000), .int 0]))] sz) (fun u : (Nat × ClassId) => [(b, .inr (5, [.int v, .ref (D.1 1000), .int 0])), (u.1, .inl (u.2, 0, .inr (.inr (.inr (.inr (fun _ => none))))))]) (fun u : (Nat × ClassId) => ([(u.2, .object "java/lang/Object")] : List (ClassId × FieldType)))) (va_A [(b, .inr (5, [.int v, .ref (D.1 1000), .int 0]))] sz)) 1 0 (va_A [(b, .inr (5, [.int v, .ref (D.1 1000), .int 0]))] sz) := by
  refine op_M (Qc := fun A => (va_Qq (fun (r : Option Nat) (u : Nat × ClassId) => r = some u.1) (qb D A (fun u : (Nat × ClassId) => [(b, .inr (5, [.int v, .ref (D.1 1000), .int 0])), (u.1, .inl (u.2, 0, .inr (.inr (.inr (.inr (fun _ => none))))))]) (fun u : (Nat × ClassId) => ([(u.2, .object "java/lang/Object")] : List (ClassId × FieldType)))) A)) (by decide +kernel) rfl (Nat.le_of_ble_eq_true rfl) ?_
  intro p e s m args below meth c A ls hx hb hr hml hts hown hlocks hmn htab hA hD hS hP hK hE hsz hl
  have hown : s.vm.findClass RJx4a65c = some m.cls := hown
  have hl : lv_has ls 1 [(0, .ref b)] := hl
  have hw_0 := hts (.fieldLink RJx4a65c 9 "java/util/ArrayList" "elementData" "[Ljava/lang/Object;") (List.mem_cons_of_mem _ (List.mem_append_left _ (List.mem_of_getElem? (i := 0) rfl)))
  have hw_1 := hts (.fieldLink RJx4a65c 48 "java/util/ArrayList" "size" "I") (List.mem_cons_of_mem _ (List.mem_append_left _ (List.mem_of_getElem? (i := 1) rfl)))
  have hw_2 := hts (.methodLink RJx4a65c 66 yJ7_copyOf_1904c) (List.mem_cons_of_mem _ (List.mem_append_left _ (List.mem_of_getElem? (i := 2) rfl)))
  have hw_3 := hts (.static yJ7_copyOf_1904c) (List.mem_cons_of_mem _ (List.mem_append_left _ (List.mem_of_getElem? (i := 3) rfl)))
  have hw_4 := hts (.initialized RJ7) (List.mem_cons_of_mem _ (List.mem_append_left _ (List.mem_of_getElem? (i := 4) rfl)))
  have hb_0 : ∀ w ∈ wsJx4a65c0, w ∈ us_c_toArray := fun w h => List.mem_cons_of_mem _ (List.mem_append_right _ (List.mem_append_left _ h))
  have hb_1 : ∀ w ∈ us_c_copyOf2, w ∈ us_c_toArray := fun w h => List.mem_cons_of_mem _ (List.mem_append_right _ (List.mem_append_right _ (List.mem_append_left _ h)))
  refine lv_aload_n hx hb dJx4a65c_toArray_d5877_0 rfl (lv_at hl 0 rfl) ?_
  refine va_get (D := D) (ci := 5) (v := .ref (D.1 1000)) (C := RJx4a65c) (T := TJx4a65c) (N := 3) hx hb hts hb_0 hown hK hP 0 rfl rfl 1 (by decide) hw_0 (fun _ h9 => h9) rfl dJx4a65c_toArray_d5877_1 ?_
  refine lv_aload_n hx hb dJx4a65c_toArray_d5877_4 rfl (lv_at hl 0 rfl) ?_
  refine va_get (D := D) (ci := 5) (v := .int 0) (C := RJx4a65c) (T := TJx4a65c) (N := 3) hx hb hts hb_0 hown hK hP 0 rfl rfl 2 (by decide) hw_1 (fun _ h9 => h9) rfl dJx4a65c_toArray_d5877_5 ?_
  refine mc_q (wr := [(b, .inr (5, [.int v, .ref (D.1 1000), .int 0]))]) (va_runS (As := [.ref (D.1 1000), .int 0]) (rest := []) ⟨hx, hb, hml, hown, hts⟩ (c_copyOf2 l hst D s.heap.size) (va_cwS 2 hts (gi_c (List.mem_cons_of_mem _ (List.mem_append_left _ (List.mem_of_getElem? (i := 2) rfl))) rfl (gi_c (List.mem_cons_of_mem _ (List.mem_append_left _ (List.mem_of_getElem? (i := 3) rfl))) rfl (gi_c (List.mem_cons_of_mem _ (List.mem_append_left _ (List.mem_of_getElem? (i := 4) rfl))) rfl (goodIn_sub hb_1 (List.all_eq_true.mpr gw_c_copyOf2))))) rfl rfl rfl (by decide +kernel) ⟨Nat.le_of_ble_eq_true rfl, Nat.le_of_ble_eq_true rfl⟩) (pr_S (As := [.ref (D.1 1000), .int 0]) hP hD hK hS hA hE [] [] rfl rfl rfl) rfl rfl hl.1 rfl (lv_room (Nat.le_of_ble_eq_true rfl)) dJx4a65c_toArray_d5877_8 ⟨Nat.le_of_ble_eq_true rfl, Nat.le_of_ble_eq_true rfl⟩) hP hD hK hS hA [] [0] rfl rfl (by decide) (by decide) (fun r3 u1 H locs w2 hP hD hK hS => ?_)
  have hP : va_P D vwCl [(b, .inr (5, [.int v, .ref (D.1 1000), .int 0])), (u1.1, .inl (u1.2, 0, .inr (.inr (.inr (.inr (fun _ => none))))))] H := hP
  have hD : va_D A [(b, .inr (5, [.int v, .ref (D.1 1000), .int 0])), (u1.1, .inl (u1.2, 0, .inr (.inr (.inr (.inr (fun _ => none))))))] := hD
  have hK : va_K D vwCl [(u1.2, .object "java/lang/Object")] s := hK
  obtain rfl := w2
  exact mr_q (v := some u1.1) hx hb hr (Or.inr ⟨_, rfl⟩) (u1.1, u1.2) (rfl) (hP.sub [0, 1] rfl) (hK.sub [0] rfl) (hD.sub [0, 1] (by decide) rfl) hS (Nat.le_of_ble_eq_true rfl) (Nat.le_of_ble_eq_true rfl) hlocks dJx4a65c_toArray_d5877_11

def us_c_alInitC : List Cond := .code yJx4a65c_init_4bcb3 cJx4a65c_init_4bcb3 3 none :: (([.initialized RJxc12de, .methodLink RJx4a65c 1 yJxc12de_init_da8c8, .instanceMethod yJxc12de_init_da8c8, .methodLink RJx4a65c 42 ⟨"java/util/Collection", "toArray", "()[Ljava/lang/Object;"⟩, .selects RJx4a65c ⟨"java/util/Collection", "toArray", "()[Ljava/lang/Object;"⟩ yJx4a65c_toArray_d5877, .instanceMethod yJx4a65c_toArray_d5877, .initialized RJx4a65c, .fieldLink RJx4a65c 48 "java/util/ArrayList" "size" "I", .fieldLink RJx4a65c 15 "java/util/ArrayList" "EMPTY_ELEMENTDATA" "[Ljava/lang/Object;", .fieldLink RJx4a65c 9 "java/util/ArrayList" "elementData" "[Ljava/lang/Object;"] : List Cond) ++ (us_c_aliInit ++ (us_c_toArray ++ (wsJx4a65c0 ++ ([])))))
theorem gw_c_alInitC : ∀ w ∈ us_c_alInitC, goodWord w = true := gw_cons rfl (gw_app (by decide +kernel) (gw_app gw_c_aliInit (gw_app gw_c_toArray (gw_app gwf_Jx4a65c (fun _ h => nomatch h)))))
set_option maxHeartbeats 4000000 in
set_option maxRecDepth 100000 in
/-- a copy of an empty list -/
theorem c_alInitC (l : Launch) (hst : l.stackTraces = false) (D : va_G) (b : Nat) (v : Int32) (n : Int32) (b2 : Nat) (v2 : Int32) (sz : Nat) : Met l yJx4a65c_init_4bcb3 us_c_alInitC { frames := 4, cells := 1, slots := 0, locals := 112 } (pw D [.ref b, .ref b2] [] [(b, .inr (5, [.int v, .null, .int n])), (b2, .inr (5, [.int v2, .ref (D.1 1000), .int 0]))] sz) (va_Qv (fun _ : Unit => True) (qb D (va_A [(b, .inr (5, [.int v, .null, .int n])), (b2, .inr (5, [.int v2, .ref (D.1 1000), .int 0]))] sz) (fun _ : Unit => [(b, .inr (5, [.int 0, .ref (D.1 1001), .int 0])), (b2, .inr (5, [.int v2, .ref (D.1 1000), .int 0]))]) (fun _ : Unit => ([] : List (ClassId × FieldType)))) (va_A [(b, .inr (5, [.int v, .null, .int n])), (b2, .inr (5, [.int v2, .ref (D.1 1000), .int 0]))] sz)) 1 0 (va_A [(b, .inr (5, [.int v, .null, .int n])), (b2, .inr (5, [.int v2, .ref (D.1 1000), .int 0]))] sz) := by
  refine op_M (Qc := fun A => (va_Qv (fun _ : Unit => True) (qb D A (fun _ : Unit => [(b, .inr (5, [.int 0, .ref (D.1 1001), .int 0])), (b2, .inr (5, [.int v2, .ref (D.1 1000), .int 0]))]) (fun _ : Unit => ([] : List (ClassId × FieldType)))) A)) (by decide +kernel) rfl (Nat.le_of_ble_eq_true rfl) ?_
  intro p e s m args below meth c A ls hx hb hr hml hts hown hlocks hmn htab hA hD hS hP hK hE hsz hl
  have hown : s.vm.findClass RJx4a65c = some m.cls := hown
  have hl : lv_has ls 3 [(0, .ref b), (1, .ref b2)] := hl
  have hw_0 := hts (.initialized RJxc12de) (List.mem_cons_of_mem _ (List.mem_append_left _ (List.mem_of_getElem? (i := 0) rfl)))
  have hw_1 := hts (.methodLink RJx4a65c 1 yJxc12de_init_da8c8) (List.mem_cons_of_mem _ (List.mem_append_left _ (List.mem_of_getElem? (i := 1) rfl)))
  have hw_2 := hts (.instanceMethod yJxc12de_init_da8c8) (List.mem_cons_of_mem _ (List.mem_append_left _ (List.mem_of_getElem? (i := 2) rfl)))
  have hw_3 := hts (.methodLink RJx4a65c 42 ⟨"java/util/Collection", "toArray", "()[Ljava/lang/Object;"⟩) (List.mem_cons_of_mem _ (List.mem_append_left _ (List.mem_of_getElem? (i := 3) rfl)))
  have hw_4 := hts (.selects RJx4a65c ⟨"java/util/Collection", "toArray", "()[Ljava/lang/Object;"⟩ yJx4a65c_toArray_d5877) (List.mem_cons_of_mem _ (List.mem_append_left _ (List.mem_of_getElem? (i := 4) rfl)))
  have hw_5 := hts (.instanceMethod yJx4a65c_toArray_d5877) (List.mem_cons_of_mem _ (List.mem_append_left _ (List.mem_of_getElem? (i := 5) rfl)))
  have hw_6 := hts (.initialized RJx4a65c) (List.mem_cons_of_mem _ (List.mem_append_left _ (List.mem_of_getElem? (i := 6) rfl)))
  have hw_7 := hts (.fieldLink RJx4a65c 48 "java/util/ArrayList" "size" "I") (List.mem_cons_of_mem _ (List.mem_append_left _ (List.mem_of_getElem? (i := 7) rfl)))
  have hw_8 := hts (.fieldLink RJx4a65c 15 "java/util/ArrayList" "EMPTY_ELEMENTDATA" "[Ljava/lang/Object;") (List.mem_cons_of_mem _ (List.mem_append_left _ (List.mem_of_getElem? (i := 8) rfl)))
  have hw_9 := hts (.fieldLink RJx4a65c 9 "java/util/ArrayList" "elementData" "[Ljava/lang/Object;") (List.mem_cons_of_mem _ (List.mem_append_left _ (List.mem_of_getElem? (i := 9) rfl)))
  have hb_0 : ∀ w ∈ us_c_aliInit, w ∈ us_c_alInitC := fun w h => List.mem_cons_of_mem _ (List.mem_append_right _ (List.mem_append_left _ h))
  have hb_1 : ∀ w ∈ us_c_toArray, w ∈ us_c_alInitC := fun w h => List.mem_cons_of_mem _ (List.mem_append_right _ (List.mem_append_right _ (List.mem_append_left _ h)))
  have hb_2 : ∀ w ∈ wsJx4a65c0, w ∈ us_c_alInitC := fun w h => List.mem_cons_of_mem _ (List.mem_append_right _ (List.mem_append_right _ (List.mem_append_right _ (List.mem_append_left _ h))))
  refine lv_aload_n hx hb dJx4a65c_init_4bcb3_0 rfl (lv_at hl 0 rfl) ?_
  refine mc_v (wr := [(b2, .inr (5, [.int v2, .ref (D.1 1000), .int 0]))]) (va_runI (As := []) (rest := []) ⟨hx, hb, hml, hown, hts⟩ (c_aliInit l hst D b v n s.heap.size) (cwI 0 hts (goodIn_sub hb_0 (List.all_eq_true.mpr gw_c_aliInit)) rfl rfl rfl hw_0 hw_1 hw_2 rfl (by decide +kernel) ⟨Nat.le_of_ble_eq_true rfl, Nat.le_of_ble_eq_true rfl⟩) (pr_S (As := [.ref b]) hP hD hK hS hA hE [0] [] rfl rfl rfl) rfl rfl hl.1 rfl (lv_room (Nat.le_of_ble_eq_true rfl)) dJx4a65c_init_4bcb3_1 ⟨Nat.le_of_ble_eq_true rfl, Nat.le_of_ble_eq_true rfl⟩) hP hD hK hS hA [0] [1] rfl rfl (by decide) (by decide) (fun _ H locs w1 hP hD hK hS => ?_)
  have hP : va_P D vwCl [(b2, .inr (5, [.int v2, .ref (D.1 1000), .int 0])), (b, .inr (5, [.int 0, .null, .int n]))] H := hP
  have hD : va_D A [(b2, .inr (5, [.int v2, .ref (D.1 1000), .int 0])), (b, .inr (5, [.int 0, .null, .int n]))] := hD
  have hK : va_K D vwCl [] s := hK
  refine lv_aload_n hx hb dJx4a65c_init_4bcb3_4 rfl (lv_at hl 1 rfl) ?_
  refine mc5_q (wr := [(b, .inr (5, [.int 0, .null, .int n]))]) (va_runF (As := []) (rest := []) (hK.1 5 _ rfl).2 ⟨hx, hb, hml, hown, hts⟩ (c_toArray l hst D b2 v2 H.size) (va_cwF 0 hts (gi_c (List.mem_cons_of_mem _ (List.mem_append_left _ (List.mem_of_getElem? (i := 3) rfl))) rfl (gi_c (List.mem_cons_of_mem _ (List.mem_append_left _ (List.mem_of_getElem? (i := 4) rfl))) rfl (gi_c (List.mem_cons_of_mem _ (List.mem_append_left _ (List.mem_of_getElem? (i := 5) rfl))) rfl (gi_c (List.mem_cons_of_mem _ (List.mem_append_left _ (List.mem_of_getElem? (i := 6) rfl))) rfl (goodIn_sub hb_1 (List.all_eq_true.mpr gw_c_toArray)))))) rfl rfl rfl hE.2.2.2.2.2.2.2.2.2.2.2.2.2 (by decide +kernel) ⟨Nat.le_of_ble_eq_true rfl, Nat.le_of_ble_eq_true rfl⟩) (pr_V (As := []) (b := b2) (C := RJx4a65c) hP hD hK hS hA hE [0] [] rfl rfl rfl 0 5 rfl rfl rfl) rfl rfl hl.1 rfl (lv_room (Nat.le_of_ble_eq_true rfl)) dJx4a65c_init_4bcb3_5 ⟨Nat.le_of_ble_eq_true rfl, Nat.le_of_ble_eq_true rfl⟩) hP hD hK hS hA [0] [1] rfl rfl (by decide) (by decide) (fun r5 u3 H locs w4 hP hD hK hS => ?_)
  have hP : va_P D vwCl [(b, .inr (5, [.int 0, .null, .int n])), (b2, .inr (5, [.int v2, .ref (D.1 1000), .int 0])), (u3.1, .inl (u3.2, 0, .inr (.inr (.inr (.inr (fun _ => none))))))] H := hP
  have hD : va_D A [(b, .inr (5, [.int 0, .null, .int n])), (b2, .inr (5, [.int v2, .ref (D.1 1000), .int 0])), (u3.1, .inl (u3.2, 0, .inr (.inr (.inr (.inr (fun _ => none))))))] := hD
  have hK : va_K D vwCl [(u3.2, .object "java/lang/Object")] s := hK
  obtain rfl := w4
  refine lv_astore_n (lv' := [(2, .ref u3.1), (0, .ref b), (1, .ref b2)]) hx hb dJx4a65c_init_4bcb3_10 rfl hl (by decide) rfl (fun ls hl => ?_)
  refine lv_aload_n hx hb dJx4a65c_init_4bcb3_11 rfl (lv_at hl 1 rfl) ?_
  refine lv_aload_n hx hb dJx4a65c_init_4bcb3_12 rfl (lv_at hl 0 rfl) ?_
  refine va_alen hx hb hK hP 2 0 rfl rfl (v := 0) rfl dJx4a65c_init_4bcb3_13 ?_
  refine lv_dup_x1 hx hb dJx4a65c_init_4bcb3_14 rfl rfl ?_
  refine va_put (D := D) (ci := 5) (v := .int 0) (ty := .int) (C := RJx4a65c) (T := TJx4a65c) (N := 3) hx hb hts hb_2 tyJx4a65c tyJx4a65c_ok nmJx4a65c hown hK hP hD hS 0 rfl rfl 2 (by decide) hw_7 (fun _ h9 => h9) rfl (by decide +kernel) rfl rfl (Nat.le_of_ble_eq_true rfl) dJx4a65c_init_4bcb3_15 (fun H locs hP hD hS => ?_)
  have hP : va_P D vwCl [(b, .inr (5, [.int 0, .null, .int 0])), (b2, .inr (5, [.int v2, .ref (D.1 1000), .int 0])), (u3.1, .inl (u3.2, 0, .inr (.inr (.inr (.inr (fun _ => none))))))] H := hP
  have hD : va_D A [(b, .inr (5, [.int 0, .null, .int 0])), (b2, .inr (5, [.int v2, .ref (D.1 1000), .int 0])), (u3.1, .inl (u3.2, 0, .inr (.inr (.inr (.inr (fun _ => none))))))] := hD
  refine lv_if_eq (tgt := 57) hx hb dJx4a65c_init_4bcb3_18 (by decide) (fun h6 => ?_) (fun h6 => absurd (by decide) h6)
  refine lv_aload_n hx hb dJx4a65c_init_4bcb3_57 rfl (lv_at hl 1 rfl) ?_
  refine va_gets hx hb hE.2.2.2.2.2.2.2.1 hS hown hw_8 (fun _ h9 => h9) dJx4a65c_init_4bcb3_58 ?_
  refine va_put (D := D) (ci := 5) (v := .ref (D.1 1001)) (ty := (.array (.object "java/lang/Object"))) (C := RJx4a65c) (T := TJx4a65c) (N := 3) hx hb hts hb_2 tyJx4a65c tyJx4a65c_ok nmJx4a65c hown hK hP hD hS 0 rfl rfl 1 (by decide) hw_9 (fun _ h9 => h9) rfl (by decide +kernel) rfl rfl (Nat.le_of_ble_eq_true rfl) dJx4a65c_init_4bcb3_61 (fun H locs hP hD hS => ?_)
  have hP : va_P D vwCl [(b, .inr (5, [.int 0, .ref (D.1 1001), .int 0])), (b2, .inr (5, [.int v2, .ref (D.1 1000), .int 0])), (u3.1, .inl (u3.2, 0, .inr (.inr (.inr (.inr (fun _ => none))))))] H := hP
  have hD : va_D A [(b, .inr (5, [.int 0, .ref (D.1 1001), .int 0])), (b2, .inr (5, [.int v2, .ref (D.1 1000), .int 0])), (u3.1, .inl (u3.2, 0, .inr (.inr (.inr (.inr (fun _ => none))))))] := hD
  exact mr_v hx hb hr () (trivial) (hP.sub [0, 1] rfl) (hK.sub [] rfl) (hD.sub [0, 1] (by decide) rfl) hS (Nat.le_of_ble_eq_true rfl) (Nat.le_of_ble_eq_true rfl) hlocks dJx4a65c_init_4bcb3_64

def us_c_misFairK : List Cond := .code yX9_isFairOf cX9_isFairOf 3 (some .boolean) :: (([.fieldLink RX9 52 "ControlWoodModel" "teams" "Ljava/util/ArrayList;", .methodLink RX9 160 yJx4a65c_iterator_32c93, .instanceMethod yJx4a65c_iterator_32c93, .selects RJx4a65c yJx4a65c_iterator_32c93 yJx4a65c_iterator_32c93, .initialized RJx4a65c, .methodLink RX9 164 ⟨"java/util/Iterator", "hasNext", "()Z"⟩, .selects RJx35411 ⟨"java/util/Iterator", "hasNext", "()Z"⟩ yJx35411_hasNext_aae02, .instanceMethod yJx35411_hasNext_aae02, .initialized RJx35411] : List Cond) ++ (wsX90 ++ (us_c_alIter ++ (us_c_itHas ++ ([])))))
theorem gw_c_misFairK : ∀ w ∈ us_c_misFairK, goodWord w = true := gw_cons rfl (gw_app (by decide +kernel) (gw_app gwf_X9 (gw_app gw_c_alIter (gw_app gw_c_itHas (fun _ h => nomatch h)))))
set_option maxHeartbeats 4000000 in
set_option maxRecDepth 100000 in
/-- the reference: isFairOf of no team -/
theorem c_misFairK (l : Launch) (hst : l.stackTraces = false) (D : va_G) (mo : Nat) (th : Int32) (m1 : Nat) (m2 : Nat) (m3 : Nat) (m4 : Nat) (m5 : Nat) (l1 : Nat) (l2 : Nat) (l3 : Nat) (l4 : Nat) (sz : Nat) : Met l yX9_isFairOf us_c_misFairK { frames := 3, cells := 1, slots := 4, locals := 56 } (pw D [.ref mo] [] [(mo, .inr (16, [.int 5, .int 5, .int th, .ref m1, .ref m2, .ref m3, .ref m4, .ref m5, .ref l1, .ref l2, .ref l3, .int (-1), .ref l4])), (l4, .inr (5, [.int 1, .ref (D.1 1000), .int 0]))] sz) (va_Qi (fun (r : Int32) (_ : Unit) => r = 1) (qb D (va_A [(mo, .inr (16, [.int 5, .int 5, .int th, .ref m1, .ref m2, .ref m3, .ref m4, .ref m5, .ref l1, .ref l2, .ref l3, .int (-1), .ref l4])), (l4, .inr (5, [.int 1, .ref (D.1 1000), .int 0]))] sz) (fun _ : Unit => [(mo, .inr (16, [.int 5, .int 5, .int th, .ref m1, .ref m2, .ref m3, .ref m4, .ref m5, .ref l1, .ref l2, .ref l3, .int (-1), .ref l4])), (l4, .inr (5, [.int 1, .ref (D.1 1000), .int 0]))]) (fun _ : Unit => ([] : List (ClassId × FieldType)))) (va_A [(mo, .inr (16, [.int 5, .int 5, .int th, .ref m1, .ref m2, .ref m3, .ref m4, .ref m5, .ref l1, .ref l2, .ref l3, .int (-1), .ref l4])), (l4, .inr (5, [.int 1, .ref (D.1 1000), .int 0]))] sz)) 1 4 (va_A [(mo, .inr (16, [.int 5, .int 5, .int th, .ref m1, .ref m2, .ref m3, .ref m4, .ref m5, .ref l1, .ref l2, .ref l3, .int (-1), .ref l4])), (l4, .inr (5, [.int 1, .ref (D.1 1000), .int 0]))] sz) := by
  refine op_M (Qc := fun A => (va_Qi (fun (r : Int32) (_ : Unit) => r = 1) (qb D A (fun _ : Unit => [(mo, .inr (16, [.int 5, .int 5, .int th, .ref m1, .ref m2, .ref m3, .ref m4, .ref m5, .ref l1, .ref l2, .ref l3, .int (-1), .ref l4])), (l4, .inr (5, [.int 1, .ref (D.1 1000), .int 0]))]) (fun _ : Unit => ([] : List (ClassId × FieldType)))) A)) (by decide +kernel) rfl (Nat.le_of_ble_eq_true rfl) ?_
  intro p e s m args below meth c A ls hx hb hr hml hts hown hlocks hmn htab hA hD hS hP hK hE hsz hl
  have hown : s.vm.findClass RX9 = some m.cls := hown
  have hl : lv_has ls 3 [(0, .ref mo)] := hl
  have hw_0 := hts (.fieldLink RX9 52 "ControlWoodModel" "teams" "Ljava/util/ArrayList;") (List.mem_cons_of_mem _ (List.mem_append_left _ (List.mem_of_getElem? (i := 0) rfl)))
  have hw_1 := hts (.methodLink RX9 160 yJx4a65c_iterator_32c93) (List.mem_cons_of_mem _ (List.mem_append_left _ (List.mem_of_getElem? (i := 1) rfl)))
  have hw_2 := hts (.instanceMethod yJx4a65c_iterator_32c93) (List.mem_cons_of_mem _ (List.mem_append_left _ (List.mem_of_getElem? (i := 2) rfl)))
  have hw_3 := hts (.selects RJx4a65c yJx4a65c_iterator_32c93 yJx4a65c_iterator_32c93) (List.mem_cons_of_mem _ (List.mem_append_left _ (List.mem_of_getElem? (i := 3) rfl)))
  have hw_4 := hts (.initialized RJx4a65c) (List.mem_cons_of_mem _ (List.mem_append_left _ (List.mem_of_getElem? (i := 4) rfl)))
  have hw_5 := hts (.methodLink RX9 164 ⟨"java/util/Iterator", "hasNext", "()Z"⟩) (List.mem_cons_of_mem _ (List.mem_append_left _ (List.mem_of_getElem? (i := 5) rfl)))
  have hw_6 := hts (.selects RJx35411 ⟨"java/util/Iterator", "hasNext", "()Z"⟩ yJx35411_hasNext_aae02) (List.mem_cons_of_mem _ (List.mem_append_left _ (List.mem_of_getElem? (i := 6) rfl)))
  have hw_7 := hts (.instanceMethod yJx35411_hasNext_aae02) (List.mem_cons_of_mem _ (List.mem_append_left _ (List.mem_of_getElem? (i := 7) rfl)))
  have hw_8 := hts (.initialized RJx35411) (List.mem_cons_of_mem _ (List.mem_append_left _ (List.mem_of_getElem? (i := 8) rfl)))
  have hb_0 : ∀ w ∈ wsX90, w ∈ us_c_misFairK := fun w h => List.mem_cons_of_mem _ (List.mem_append_right _ (List.mem_append_left _ h))
  have hb_1 : ∀ w ∈ us_c_alIter, w ∈ us_c_misFairK := fun w h => List.mem_cons_of_mem _ (List.mem_append_right _ (List.mem_append_right _ (List.mem_append_left _ h)))
  have hb_2 : ∀ w ∈ us_c_itHas, w ∈ us_c_misFairK := fun w h => List.mem_cons_of_mem _ (List.mem_append_right _ (List.mem_append_right _ (List.mem_append_right _ (List.mem_append_left _ h))))
  refine lv_aload_n hx hb dX9_isFairOf_0 rfl (lv_at hl 0 rfl) ?_
  refine va_get (D := D) (ci := 16) (v := .ref l4) (C := RX9) (T := TX9) (N := 13) hx hb hts hb_0 hown hK hP 0 rfl rfl 12 (by decide) hw_0 (fun _ h9 => h9) rfl dX9_isFairOf_1 ?_
  refine mc_q (wr := [(mo, .inr (16, [.int 5, .int 5, .int th, .ref m1, .ref m2, .ref m3, .ref m4, .ref m5, .ref l1, .ref l2, .ref l3, .int (-1), .ref l4]))]) (va_runV (As := []) (rest := []) ⟨hx, hb, hml, hown, hts⟩ (c_alIter l hst D l4 1 (D.1 1000) 0 s.heap.size) (cwV 0 hts (gi_c (List.mem_cons_of_mem _ (List.mem_append_left _ (List.mem_of_getElem? (i := 1) rfl))) rfl (gi_c (List.mem_cons_of_mem _ (List.mem_append_left _ (List.mem_of_getElem? (i := 2) rfl))) rfl (gi_c (List.mem_cons_of_mem _ (List.mem_append_left _ (List.mem_of_getElem? (i := 3) rfl))) rfl (gi_c (List.mem_cons_of_mem _ (List.mem_append_left _ (List.mem_of_getElem? (i := 4) rfl))) rfl (goodIn_sub hb_1 (List.all_eq_true.mpr gw_c_alIter)))))) rfl rfl rfl (by decide +kernel) ⟨Nat.le_of_ble_eq_true rfl, Nat.le_of_ble_eq_true rfl⟩) (pr_V (As := []) (b := l4) (C := RJx4a65c) hP hD hK hS hA hE [1] [] rfl rfl rfl 1 5 rfl rfl rfl) rfl rfl hl.1 rfl (lv_room (Nat.le_of_ble_eq_true rfl)) dX9_isFairOf_4 ⟨Nat.le_of_ble_eq_true rfl, Nat.le_of_ble_eq_true rfl⟩) hP hD hK hS hA [1] [0] rfl rfl (by decide) (by decide) (fun r3 u1 H locs w2 hP hD hK hS => ?_)
  have hP : va_P D vwCl [(mo, .inr (16, [.int 5, .int 5, .int th, .ref m1, .ref m2, .ref m3, .ref m4, .ref m5, .ref l1, .ref l2, .ref l3, .int (-1), .ref l4])), (u1, .inr (4, [.int 0, .int (-1), .int 1, .ref l4])), (l4, .inr (5, [.int 1, .ref (D.1 1000), .int 0]))] H := hP
  have hD : va_D A [(mo, .inr (16, [.int 5, .int 5, .int th, .ref m1, .ref m2, .ref m3, .ref m4, .ref m5, .ref l1, .ref l2, .ref l3, .int (-1), .ref l4])), (u1, .inr (4, [.int 0, .int (-1), .int 1, .ref l4])), (l4, .inr (5, [.int 1, .ref (D.1 1000), .int 0]))] := hD
  have hK : va_K D vwCl [] s := hK
  obtain rfl := w2
  refine lv_astore_n (lv' := [(1, .ref u1), (0, .ref mo)]) hx hb dX9_isFairOf_7 rfl hl (by decide) rfl (fun ls hl => ?_)
  refine lv_aload_n hx hb dX9_isFairOf_8 rfl (lv_at hl 0 rfl) ?_
  refine mc5_i (wr := [(mo, .inr (16, [.int 5, .int 5, .int th, .ref m1, .ref m2, .ref m3, .ref m4, .ref m5, .ref l1, .ref l2, .ref l3, .int (-1), .ref l4]))]) (va_runF (As := []) (rest := []) (hK.1 4 _ rfl).2 ⟨hx, hb, hml, hown, hts⟩ (c_itHas l hst D u1 l4 1 1 (D.1 1000) H.size) (va_cwF 0 hts (gi_c (List.mem_cons_of_mem _ (List.mem_append_left _ (List.mem_of_getElem? (i := 5) rfl))) rfl (gi_c (List.mem_cons_of_mem _ (List.mem_append_left _ (List.mem_of_getElem? (i := 6) rfl))) rfl (gi_c (List.mem_cons_of_mem _ (List.mem_append_left _ (List.mem_of_getElem? (i := 7) rfl))) rfl (gi_c (List.mem_cons_of_mem _ (List.mem_append_left _ (List.mem_of_getElem? (i := 8) rfl))) rfl (goodIn_sub hb_2 (List.all_eq_true.mpr gw_c_itHas)))))) rfl rfl rfl hE.2.2.2.2.2.2.2.2.2.2.2.2.1 (by decide +kernel) ⟨Nat.le_of_ble_eq_true rfl, Nat.le_of_ble_eq_true rfl⟩) (pr_V (As := []) (b := u1) (C := RJx35411) hP hD hK hS hA hE [1, 2] [] rfl rfl rfl 1 4 rfl rfl rfl) rfl rfl hl.1 rfl (lv_room (Nat.le_of_ble_eq_true rfl)) dX9_isFairOf_9 ⟨Nat.le_of_ble_eq_true rfl, Nat.le_of_ble_eq_true rfl⟩) hP hD hK hS hA [1, 2] [0] rfl rfl (by decide) (by decide) (fun r5 _ H locs w4 hP hD hK hS => ?_)
  have hP : va_P D vwCl [(mo, .inr (16, [.int 5, .int 5, .int th, .ref m1, .ref m2, .ref m3, .ref m4, .ref m5, .ref l1, .ref l2, .ref l3, .int (-1), .ref l4])), (u1, .inr (4, [.int 0, .int (-1), .int 1, .ref l4])), (l4, .inr (5, [.int 1, .ref (D.1 1000), .int 0]))] H := hP
  have hD : va_D A [(mo, .inr (16, [.int 5, .int 5, .int th, .ref m1, .ref m2, .ref m3, .ref m4, .ref m5, .ref l1, .ref l2, .ref l3, .int (-1), .ref l4])), (u1, .inr (4, [.int 0, .int (-1), .int 1, .ref l4])), (l4, .inr (5, [.int 1, .ref (D.1 1000), .int 0]))] := hD
  have hK : va_K D vwCl [] s := hK
  obtain rfl : r5 = 0 := w4
  refine lv_if_eq (tgt := 75) hx hb dX9_isFairOf_14 (by decide) (fun h6 => ?_) (fun h6 => absurd (by decide) h6)
  refine lv_iconst (v := 1) hx hb dX9_isFairOf_75 (by decide) ?_
  exact mr_z (rfl) hx hb hr () (rfl) (hP.sub [0, 2] rfl) (hK.sub [] rfl) (hD.sub [0, 2] (by decide) rfl) hS (Nat.le_of_ble_eq_true rfl) (Nat.le_of_ble_eq_true rfl) hlocks dX9_isFairOf_76

def us_c_mfairWays : List Cond := .code yX9_fairWays cX9_fairWays 10 (some .int) :: (([.fieldLink RX9 52 "ControlWoodModel" "teams" "Ljava/util/ArrayList;", .methodLink RX9 160 yJx4a65c_iterator_32c93, .instanceMethod yJx4a65c_iterator_32c93, .selects RJx4a65c yJx4a65c_iterator_32c93 yJx4a65c_iterator_32c93, .initialized RJx4a65c, .methodLink RX9 164 ⟨"java/util/Iterator", "hasNext", "()Z"⟩, .selects RJx35411 ⟨"java/util/Iterator", "hasNext", "()Z"⟩ yJx35411_hasNext_aae02, .instanceMethod yJx35411_hasNext_aae02, .initialized RJx35411, .fieldLink RX9 49 "ControlWoodModel" "relay" "I", .classLink RX9 36 RJx4a65c, .instantiable RJx4a65c 3, .methodLink RX9 334 yJx4a65c_init_4bcb3, .instanceMethod yJx4a65c_init_4bcb3, .methodLink RX9 135 yJx4a65c_size_8abf5, .instanceMethod yJx4a65c_size_8abf5, .selects RJx4a65c yJx4a65c_size_8abf5 yJx4a65c_size_8abf5, .methodLink RX9 331 yX9_isFairOf, .instanceMethod yX9_isFairOf, .selects RX9 yX9_isFairOf yX9_isFairOf, .initialized RX9, .methodLink RX9 80 yX9_tells, .instanceMethod yX9_tells, .selects RX9 yX9_tells yX9_tells] : List Cond) ++ (wsX90 ++ (us_c_alIter ++ (us_c_itHas ++ (wsJx4a65c0 ++ (us_c_alInitC ++ (us_c_alSize ++ (us_c_misFairK ++ (us_c_tells ++ ([]))))))))))
theorem gw_c_mfairWays : ∀ w ∈ us_c_mfairWays, goodWord w = true := gw_cons rfl (gw_app (by decide +kernel) (gw_app gwf_X9 (gw_app gw_c_alIter (gw_app gw_c_itHas (gw_app gwf_Jx4a65c (gw_app gw_c_alInitC (gw_app gw_c_alSize (gw_app gw_c_misFairK (gw_app gw_c_tells (fun _ h => nomatch h))))))))))
set_option maxHeartbeats 4000000 in
set_option maxRecDepth 100000 in
/-- the reference: fairWays of no team -/
theorem c_mfairWays (l : Launch) (hst : l.stackTraces = false) (D : va_G) (mo : Nat) (th : Int32) (m1 : Nat) (m2 : Nat) (m3 : Nat) (m4 : Nat) (m5 : Nat) (l1 : Nat) (l2 : Nat) (l3 : Nat) (l4 : Nat) (sz : Nat) : Met l yX9_fairWays us_c_mfairWays { frames := 5, cells := 4, slots := 11, locals := 134 } (pw D [.ref mo] [] [(mo, .inr (16, [.int 5, .int 5, .int th, .ref m1, .ref m2, .ref m3, .ref m4, .ref m5, .ref l1, .ref l2, .ref l3, .int (-1), .ref l4])), (l4, .inr (5, [.int 1, .ref (D.1 1000), .int 0]))] sz) (va_Qi (fun (r : Int32) (u : (Int32 × (Nat → Nat) × (Nat → Int32))) => u.1 = kf_fairWays ∧ (kf_fairWays = 0 → r = rf_fairWays)) (qb D (va_A [(mo, .inr (16, [.int 5, .int 5, .int th, .ref m1, .ref m2, .ref m3, .ref m4, .ref m5, .ref l1, .ref l2, .ref l3, .int (-1), .ref l4])), (l4, .inr (5, [.int 1, .ref (D.1 1000), .int 0]))] sz) (fun u : (Int32 × (Nat → Nat) × (Nat → Int32)) => [(mo, .inr (16, [.int (u.2.2 0), .int (u.2.2 1), .int u.1, .ref (u.2.1 0), .ref (u.2.1 1), .ref (u.2.1 2), .ref (u.2.1 3), .ref (u.2.1 4), .ref (u.2.1 5), .ref (u.2.1 6), .ref (u.2.1 7), .int (u.2.2 2), .ref (u.2.1 8)]))]) (fun u : (Int32 × (Nat → Nat) × (Nat → Int32)) => ([] : List (ClassId × FieldType)))) (va_A [(mo, .inr (16, [.int 5, .int 5, .int th, .ref m1, .ref m2, .ref m3, .ref m4, .ref m5, .ref l1, .ref l2, .ref l3, .int (-1), .ref l4])), (l4, .inr (5, [.int 1, .ref (D.1 1000), .int 0]))] sz)) 4 11 (va_A [(mo, .inr (16, [.int 5, .int 5, .int th, .ref m1, .ref m2, .ref m3, .ref m4, .ref m5, .ref l1, .ref l2, .ref l3, .int (-1), .ref l4])), (l4, .inr (5, [.int 1, .ref (D.1 1000), .int 0]))] sz) := by
  refine op_M (Qc := fun A => (va_Qi (fun (r : Int32) (u : (Int32 × (Nat → Nat) × (Nat → Int32))) => u.1 = kf_fairWays ∧ (kf_fairWays = 0 → r = rf_fairWays)) (qb D A (fun u : (Int32 × (Nat → Nat) × (Nat → Int32)) => [(mo, .inr (16, [.int (u.2.2 0), .int (u.2.2 1), .int u.1, .ref (u.2.1 0), .ref (u.2.1 1), .ref (u.2.1 2), .ref (u.2.1 3), .ref (u.2.1 4), .ref (u.2.1 5), .ref (u.2.1 6), .ref (u.2.1 7), .int (u.2.2 2), .ref (u.2.1 8)]))]) (fun u : (Int32 × (Nat → Nat) × (Nat → Int32)) => ([] : List (ClassId × FieldType)))) A)) (by decide +kernel) rfl (Nat.le_of_ble_eq_true rfl) ?_
  intro p e s m args below meth c A ls hx hb hr hml hts hown hlocks hmn htab hA hD hS hP hK hE hsz hl
  have hown : s.vm.findClass RX9 = some m.cls := hown
  have hl : lv_has ls 10 [(0, .ref mo)] := hl
  have hw_0 := hts (.fieldLink RX9 52 "ControlWoodModel" "teams" "Ljava/util/ArrayList;") (List.mem_cons_of_mem _ (List.mem_append_left _ (List.mem_of_getElem? (i := 0) rfl)))
  have hw_1 := hts (.methodLink RX9 160 yJx4a65c_iterator_32c93) (List.mem_cons_of_mem _ (List.mem_append_left _ (List.mem_of_getElem? (i := 1) rfl)))
  have hw_2 := hts (.instanceMethod yJx4a65c_iterator_32c93) (List.mem_cons_of_mem _ (List.mem_append_left _ (List.mem_of_getElem? (i := 2) rfl)))
  have hw_3 := hts (.selects RJx4a65c yJx4a65c_iterator_32c93 yJx4a65c_iterator_32c93) (List.mem_cons_of_mem _ (List.mem_append_left _ (List.mem_of_getElem? (i := 3) rfl)))
  have hw_4 := hts (.initialized RJx4a65c) (List.mem_cons_of_mem _ (List.mem_append_left _ (List.mem_of_getElem? (i := 4) rfl)))
  have hw_5 := hts (.methodLink RX9 164 ⟨"java/util/Iterator", "hasNext", "()Z"⟩) (List.mem_cons_of_mem _ (List.mem_append_left _ (List.mem_of_getElem? (i := 5) rfl)))
  have hw_6 := hts (.selects RJx35411 ⟨"java/util/Iterator", "hasNext", "()Z"⟩ yJx35411_hasNext_aae02) (List.mem_cons_of_mem _ (List.mem_append_left _ (List.mem_of_getElem? (i := 6) rfl)))
  have hw_7 := hts (.instanceMethod yJx35411_hasNext_aae02) (List.mem_cons_of_mem _ (List.mem_append_left _ (List.mem_of_getElem? (i := 7) rfl)))
  have hw_8 := hts (.initialized RJx35411) (List.mem_cons_of_mem _ (List.mem_append_left _ (List.mem_of_getElem? (i := 8) rfl)))
  have hw_9 := hts (.fieldLink RX9 49 "ControlWoodModel" "relay" "I") (List.mem_cons_of_mem _ (List.mem_append_left _ (List.mem_of_getElem? (i := 9) rfl)))
  have hw_10 := hts (.classLink RX9 36 RJx4a65c) (List.mem_cons_of_mem _ (List.mem_append_left _ (List.mem_of_getElem? (i := 10) rfl)))
  have hw_11 := hts (.instantiable RJx4a65c 3) (List.mem_cons_of_mem _ (List.mem_append_left _ (List.mem_of_getElem? (i := 11) rfl)))
  have hw_12 := hts (.methodLink RX9 334 yJx4a65c_init_4bcb3) (List.mem_cons_of_mem _ (List.mem_append_left _ (List.mem_of_getElem? (i := 12) rfl)))
  have hw_13 := hts (.instanceMethod yJx4a65c_init_4bcb3) (List.mem_cons_of_mem _ (List.mem_append_left _ (List.mem_of_getElem? (i := 13) rfl)))
  have hw_14 := hts (.methodLink RX9 135 yJx4a65c_size_8abf5) (List.mem_cons_of_mem _ (List.mem_append_left _ (List.mem_of_getElem? (i := 14) rfl)))
  have hw_15 := hts (.instanceMethod yJx4a65c_size_8abf5) (List.mem_cons_of_mem _ (List.mem_append_left _ (List.mem_of_getElem? (i := 15) rfl)))
  have hw_16 := hts (.selects RJx4a65c yJx4a65c_size_8abf5 yJx4a65c_size_8abf5) (List.mem_cons_of_mem _ (List.mem_append_left _ (List.mem_of_getElem? (i := 16) rfl)))
  have hw_17 := hts (.methodLink RX9 331 yX9_isFairOf) (List.mem_cons_of_mem _ (List.mem_append_left _ (List.mem_of_getElem? (i := 17) rfl)))
  have hw_18 := hts (.instanceMethod yX9_isFairOf) (List.mem_cons_of_mem _ (List.mem_append_left _ (List.mem_of_getElem? (i := 18) rfl)))
  have hw_19 := hts (.selects RX9 yX9_isFairOf yX9_isFairOf) (List.mem_cons_of_mem _ (List.mem_append_left _ (List.mem_of_getElem? (i := 19) rfl)))
  have hw_20 := hts (.initialized RX9) (List.mem_cons_of_mem _ (List.mem_append_left _ (List.mem_of_getElem? (i := 20) rfl)))
  have hw_21 := hts (.methodLink RX9 80 yX9_tells) (List.mem_cons_of_mem _ (List.mem_append_left _ (List.mem_of_getElem? (i := 21) rfl)))
  have hw_22 := hts (.instanceMethod yX9_tells) (List.mem_cons_of_mem _ (List.mem_append_left _ (List.mem_of_getElem? (i := 22) rfl)))
  have hw_23 := hts (.selects RX9 yX9_tells yX9_tells) (List.mem_cons_of_mem _ (List.mem_append_left _ (List.mem_of_getElem? (i := 23) rfl)))
  have hb_0 : ∀ w ∈ wsX90, w ∈ us_c_mfairWays := fun w h => List.mem_cons_of_mem _ (List.mem_append_right _ (List.mem_append_left _ h))
  have hb_1 : ∀ w ∈ us_c_alIter, w ∈ us_c_mfairWays := fun w h => List.mem_cons_of_mem _ (List.mem_append_right _ (List.mem_append_right _ (List.mem_append_left _ h)))
  have hb_2 : ∀ w ∈ us_c_itHas, w ∈ us_c_mfairWays := fun w h => List.mem_cons_of_mem _ (List.mem_append_right _ (List.mem_append_right _ (List.mem_append_right _ (List.mem_append_left _ h))))
  have hb_3 : ∀ w ∈ wsJx4a65c0, w ∈ us_c_mfairWays := fun w h => List.mem_cons_of_mem _ (List.mem_append_right _ (List.mem_append_right _ (List.mem_append_right _ (List.mem_append_right _ (List.mem_append_left _ h)))))
  have hb_4 : ∀ w ∈ us_c_alInitC, w ∈ us_c_mfairWays := fun w h => List.mem_cons_of_mem _ (List.mem_append_right _ (List.mem_append_right _ (List.mem_append_right _ (List.mem_append_right _ (List.mem_append_right _ (List.mem_append_left _ h))))))
  have hb_5 : ∀ w ∈ us_c_alSize, w ∈ us_c_mfairWays := fun w h => List.mem_cons_of_mem _ (List.mem_append_right _ (List.mem_append_right _ (List.mem_append_right _ (List.mem_append_right _ (List.mem_append_right _ (List.mem_append_right _ (List.mem_append_left _ h)))))))
  have hb_6 : ∀ w ∈ us_c_misFairK, w ∈ us_c_mfairWays := fun w h => List.mem_cons_of_mem _ (List.mem_append_right _ (List.mem_append_right _ (List.mem_append_right _ (List.mem_append_right _ (List.mem_append_right _ (List.mem_append_right _ (List.mem_append_right _ (List.mem_append_left _ h))))))))
  have hb_7 : ∀ w ∈ us_c_tells, w ∈ us_c_mfairWays := fun w h => List.mem_cons_of_mem _ (List.mem_append_right _ (List.mem_append_right _ (List.mem_append_right _ (List.mem_append_right _ (List.mem_append_right _ (List.mem_append_right _ (List.mem_append_right _ (List.mem_append_right _ (List.mem_append_left _ h)))))))))
  refine lv_iconst (v := 0) hx hb dX9_fairWays_0 (by decide) ?_
  refine lv_istore_n (lv' := [(1, .int 0), (0, .ref mo)]) hx hb dX9_fairWays_1 rfl hl (by decide) rfl (fun ls hl => ?_)
  refine lv_aload_n hx hb dX9_fairWays_2 rfl (lv_at hl 1 rfl) ?_
  refine va_get (D := D) (ci := 16) (v := .ref l4) (C := RX9) (T := TX9) (N := 13) hx hb hts hb_0 hown hK hP 0 rfl rfl 12 (by decide) hw_0 (fun _ h9 => h9) rfl dX9_fairWays_3 ?_
  refine mc_q (wr := [(mo, .inr (16, [.int 5, .int 5, .int th, .ref m1, .ref m2, .ref m3, .ref m4, .ref m5, .ref l1, .ref l2, .ref l3, .int (-1), .ref l4]))]) (va_runV (As := []) (rest := []) ⟨hx, hb, hml, hown, hts⟩ (c_alIter l hst D l4 1 (D.1 1000) 0 s.heap.size) (cwV 0 hts (gi_c (List.mem_cons_of_mem _ (List.mem_append_left _ (List.mem_of_getElem? (i := 1) rfl))) rfl (gi_c (List.mem_cons_of_mem _ (List.mem_append_left _ (List.mem_of_getElem? (i := 2) rfl))) rfl (gi_c (List.mem_cons_of_mem _ (List.mem_append_left _ (List.mem_of_getElem? (i := 3) rfl))) rfl (gi_c (List.mem_cons_of_mem _ (List.mem_append_left _ (List.mem_of_getElem? (i := 4) rfl))) rfl (goodIn_sub hb_1 (List.all_eq_true.mpr gw_c_alIter)))))) rfl rfl rfl (by decide +kernel) ⟨Nat.le_of_ble_eq_true rfl, Nat.le_of_ble_eq_true rfl⟩) (pr_V (As := []) (b := l4) (C := RJx4a65c) hP hD hK hS hA hE [1] [] rfl rfl rfl 1 5 rfl rfl rfl) rfl rfl hl.1 rfl (lv_room (Nat.le_of_ble_eq_true rfl)) dX9_fairWays_6 ⟨Nat.le_of_ble_eq_true rfl, Nat.le_of_ble_eq_true rfl⟩) hP hD hK hS hA [1] [0] rfl rfl (by decide) (by decide) (fun r3 u1 H locs w2 hP hD hK hS => ?_)
  have hP : va_P D vwCl [(mo, .inr (16, [.int 5, .int 5, .int th, .ref m1, .ref m2, .ref m3, .ref m4, .ref m5, .ref l1, .ref l2, .ref l3, .int (-1), .ref l4])), (u1, .inr (4, [.int 0, .int (-1), .int 1, .ref l4])), (l4, .inr (5, [.int 1, .ref (D.1 1000), .int 0]))] H := hP
  have hD : va_D A [(mo, .inr (16, [.int 5, .int 5, .int th, .ref m1, .ref m2, .ref m3, .ref m4, .ref m5, .ref l1, .ref l2, .ref l3, .int (-1), .ref l4])), (u1, .inr (4, [.int 0, .int (-1), .int 1, .ref l4])), (l4, .inr (5, [.int 1, .ref (D.1 1000), .int 0]))] := hD
  have hK : va_K D vwCl [] s := hK
  obtain rfl := w2
  refine lv_astore_n (lv' := [(2, .ref u1), (1, .int 0), (0, .ref mo)]) hx hb dX9_fairWays_9 rfl hl (by decide) rfl (fun ls hl => ?_)
  refine lv_aload_n hx hb dX9_fairWays_10 rfl (lv_at hl 0 rfl) ?_
  refine mc5_i (wr := [(mo, .inr (16, [.int 5, .int 5, .int th, .ref m1, .ref m2, .ref m3, .ref m4, .ref m5, .ref l1, .ref l2, .ref l3, .int (-1), .ref l4]))]) (va_runF (As := []) (rest := []) (hK.1 4 _ rfl).2 ⟨hx, hb, hml, hown, hts⟩ (c_itHas l hst D u1 l4 1 1 (D.1 1000) H.size) (va_cwF 0 hts (gi_c (List.mem_cons_of_mem _ (List.mem_append_left _ (List.mem_of_getElem? (i := 5) rfl))) rfl (gi_c (List.mem_cons_of_mem _ (List.mem_append_left _ (List.mem_of_getElem? (i := 6) rfl))) rfl (gi_c (List.mem_cons_of_mem _ (List.mem_append_left _ (List.mem_of_getElem? (i := 7) rfl))) rfl (gi_c (List.mem_cons_of_mem _ (List.mem_append_left _ (List.mem_of_getElem? (i := 8) rfl))) rfl (goodIn_sub hb_2 (List.all_eq_true.mpr gw_c_itHas)))))) rfl rfl rfl hE.2.2.2.2.2.2.2.2.2.2.2.2.1 (by decide +kernel) ⟨Nat.le_of_ble_eq_true rfl, Nat.le_of_ble_eq_true rfl⟩) (pr_V (As := []) (b := u1) (C := RJx35411) hP hD hK hS hA hE [1, 2] [] rfl rfl rfl 1 4 rfl rfl rfl) rfl rfl hl.1 rfl (lv_room (Nat.le_of_ble_eq_true rfl)) dX9_fairWays_11 ⟨Nat.le_of_ble_eq_true rfl, Nat.le_of_ble_eq_true rfl⟩) hP hD hK hS hA [1, 2] [0] rfl rfl (by decide) (by decide) (fun r5 _ H locs w4 hP hD hK hS => ?_)
  have hP : va_P D vwCl [(mo, .inr (16, [.int 5, .int 5, .int th, .ref m1, .ref m2, .ref m3, .ref m4, .ref m5, .ref l1, .ref l2, .ref l3, .int (-1), .ref l4])), (u1, .inr (4, [.int 0, .int (-1), .int 1, .ref l4])), (l4, .inr (5, [.int 1, .ref (D.1 1000), .int 0]))] H := hP
  have hD : va_D A [(mo, .inr (16, [.int 5, .int 5, .int th, .ref m1, .ref m2, .ref m3, .ref m4, .ref m5, .ref l1, .ref l2, .ref l3, .int (-1), .ref l4])), (u1, .inr (4, [.int 0, .int (-1), .int 1, .ref l4])), (l4, .inr (5, [.int 1, .ref (D.1 1000), .int 0]))] := hD
  have hK : va_K D vwCl [] s := hK
  obtain rfl : r5 = 0 := w4
  refine lv_if_eq (tgt := 37) hx hb dX9_fairWays_16 (by decide) (fun h6 => ?_) (fun h6 => absurd (by decide) h6)
  refine lv_aload_n hx hb dX9_fairWays_37 rfl (lv_at hl 2 rfl) ?_
  refine va_get (D := D) (ci := 16) (v := .int (-1)) (C := RX9) (T := TX9) (N := 13) hx hb hts hb_0 hown hK hP 0 rfl rfl 11 (by decide) hw_9 (fun _ h9 => h9) rfl dX9_fairWays_38 ?_
  refine lv_iconst (v := -1) hx hb dX9_fairWays_41 (by decide) ?_
  refine lv_icmp_ne (tgt := 49) hx hb dX9_fairWays_42 (by decide) (fun h7 => absurd (by decide) h7) (fun h7 => ?_)
  refine lv_iconst (v := 0) hx hb dX9_fairWays_45 (by decide) ?_
  refine lv_goto (tgt := 66) hx hb dX9_fairWays_46 (by decide) ?_
  refine lv_istore_n (lv' := [(2, .int 0), (1, .int 0), (0, .ref mo)]) hx hb dX9_fairWays_66 rfl hl (by decide) rfl (fun ls hl => ?_)
  refine lv_iload_n hx hb dX9_fairWays_67 rfl (lv_at hl 0 rfl) ?_
  refine lv_iload_n hx hb dX9_fairWays_68 rfl (lv_at hl 1 rfl) ?_
  refine lv_imul hx hb dX9_fairWays_69 ?_
  refine lv_topi (fun x8 e8 => ?_)
  obtain rfl : x8 = 0 := e8.trans (by decide)
  refine lv_bipush (v := 12) hx hb dX9_fairWays_70 (by decide) ?_
  refine lv_icmp_le (tgt := 81) hx hb dX9_fairWays_72 (by decide) (fun h9 => ?_) (fun h9 => absurd (by decide) h9)
  refine va_new (ci := 5) (fs := [.int 0, .null, .int 0]) (C := RJx4a65c) (T := TJx4a65c) (N := 3) hx hb hts hb_3 tyJx4a65c tyJx4a65c_ok hown hw_10 hw_11 hw_4 hK hP hD hS hA rfl (by decide +kernel) (Nat.le_of_ble_eq_true rfl) (Nat.le_of_ble_eq_true rfl) dX9_fairWays_81 (fun q10 H hP hD hS => ?_)
  have hP : va_P D vwCl [(mo, .inr (16, [.int 5, .int 5, .int th, .ref m1, .ref m2, .ref m3, .ref m4, .ref m5, .ref l1, .ref l2, .ref l3, .int (-1), .ref l4])), (u1, .inr (4, [.int 0, .int (-1), .int 1, .ref l4])), (l4, .inr (5, [.int 1, .ref (D.1 1000), .int 0])), (q10, .inr (5, [.int 0, .null, .int 0]))] H := hP
  have hD : va_D A [(mo, .inr (16, [.int 5, .int 5, .int th, .ref m1, .ref m2, .ref m3, .ref m4, .ref m5, .ref l1, .ref l2, .ref l3, .int (-1), .ref l4])), (u1, .inr (4, [.int 0, .int (-1), .int 1, .ref l4])), (l4, .inr (5, [.int 1, .ref (D.1 1000), .int 0])), (q10, .inr (5, [.int 0, .null, .int 0]))] := hD
  refine W.widen (k := 2) (n := 7) (Nat.le_of_ble_eq_true rfl) (Nat.le_of_ble_eq_true rfl) ?_
  refine lv_dup hx hb dX9_fairWays_84 rfl ?_
  refine lv_aload_n hx hb dX9_fairWays_85 rfl (lv_at hl 2 rfl) ?_
  refine va_get (D := D) (ci := 16) (v := .ref l4) (C := RX9) (T := TX9) (N := 13) hx hb hts hb_0 hown hK hP 0 rfl rfl 12 (by decide) hw_0 (fun _ h9 => h9) rfl dX9_fairWays_86 ?_
  refine mc_v (wr := [(mo, .inr (16, [.int 5, .int 5, .int th, .ref m1, .ref m2, .ref m3, .ref m4, .ref m5, .ref l1, .ref l2, .ref l3, .int (-1), .ref l4])), (u1, .inr (4, [.int 0, .int (-1), .int 1, .ref l4]))]) (va_runI (As := [.ref l4]) (rest := [.ref q10]) ⟨hx, hb, hml, hown, hts⟩ (c_alInitC l hst D q10 0 0 l4 1 H.size) (cwI 1 hts (goodIn_sub hb_4 (List.all_eq_true.mpr gw_c_alInitC)) rfl rfl rfl hw_4 hw_12 hw_13 rfl (by decide +kernel) ⟨Nat.le_of_ble_eq_true rfl, Nat.le_of_ble_eq_true rfl⟩) (pr_S (As := [.ref q10, .ref l4]) hP hD hK hS hA hE [3, 2] [] rfl rfl rfl) rfl rfl hl.1 rfl (lv_room (Nat.le_of_ble_eq_true rfl)) dX9_fairWays_89 ⟨Nat.le_of_ble_eq_true rfl, Nat.le_of_ble_eq_true rfl⟩) hP hD hK hS hA [3, 2] [0, 1] rfl rfl (by decide) (by decide) (fun _ H locs w11 hP hD hK hS => ?_)
  have hP : va_P D vwCl [(mo, .inr (16, [.int 5, .int 5, .int th, .ref m1, .ref m2, .ref m3, .ref m4, .ref m5, .ref l1, .ref l2, .ref l3, .int (-1), .ref l4])), (u1, .inr (4, [.int 0, .int (-1), .int 1, .ref l4])), (q10, .inr (5, [.int 0, .ref (D.1 1001), .int 0])), (l4, .inr (5, [.int 1, .ref (D.1 1000), .int 0]))] H := hP
  have hD : va_D A [(mo, .inr (16, [.int 5, .int 5, .int th, .ref m1, .ref m2, .ref m3, .ref m4, .ref m5, .ref l1, .ref l2, .ref l3, .int (-1), .ref l4])), (u1, .inr (4, [.int 0, .int (-1), .int 1, .ref l4])), (q10, .inr (5, [.int 0, .ref (D.1 1001), .int 0])), (l4, .inr (5, [.int 1, .ref (D.1 1000), .int 0]))] := hD
  have hK : va_K D vwCl [] s := hK
  refine lv_astore_n (lv' := [(3, .ref q10), (2, .int 0), (1, .int 0), (0, .ref mo)]) hx hb dX9_fairWays_92 rfl hl (by decide) rfl (fun ls hl => ?_)
  refine lv_iconst (v := 0) hx hb dX9_fairWays_93 (by decide) ?_
  refine lv_istore (lv' := [(4, .int 0), (3, .ref q10), (2, .int 0), (1, .int 0), (0, .ref mo)]) hx hb dX9_fairWays_94 hl (by decide) rfl (fun ls hl => ?_)
  refine lv_iconst (v := 0) hx hb dX9_fairWays_96 (by decide) ?_
  refine lv_istore (lv' := [(5, .int 0), (4, .int 0), (3, .ref q10), (2, .int 0), (1, .int 0), (0, .ref mo)]) hx hb dX9_fairWays_97 hl (by decide) rfl (fun ls hl => ?_)
  refine lv_iload hx hb dX9_fairWays_99 (lv_at hl 0 rfl) ?_
  refine lv_iconst (v := 1) hx hb dX9_fairWays_101 (by decide) ?_
  refine lv_iload_n hx hb dX9_fairWays_102 rfl (lv_at hl 3 rfl) ?_
  refine lv_iload_n hx hb dX9_fairWays_103 rfl (lv_at hl 4 rfl) ?_
  refine lv_imul hx hb dX9_fairWays_104 ?_
  refine lv_topi (fun x13 e13 => ?_)
  obtain rfl : x13 = 0 := e13.trans (by decide)
  refine lv_ishl hx hb dX9_fairWays_105 ?_
  refine lv_topi (fun x14 e14 => ?_)
  obtain rfl : x14 = 1 := e14.trans (by decide)
  refine lv_icmp_ge (tgt := 219) hx hb dX9_fairWays_106 (by decide) (fun h15 => absurd h15 (by decide)) (fun h15 => ?_)
  refine lv_iload hx hb dX9_fairWays_109 (lv_at hl 0 rfl) ?_
  refine lv_istore (lv' := [(6, .int 0), (5, .int 0), (4, .int 0), (3, .ref q10), (2, .int 0), (1, .int 0), (0, .ref mo)]) hx hb dX9_fairWays_111 hl (by decide) rfl (fun ls hl => ?_)
  refine lv_iconst (v := 0) hx hb dX9_fairWays_113 (by decide) ?_
  refine lv_istore (lv' := [(7, .int 0), (6, .int 0), (5, .int 0), (4, .int 0), (3, .ref q10), (2, .int 0), (1, .int 0), (0, .ref mo)]) hx hb dX9_fairWays_114 hl (by decide) rfl (fun ls hl => ?_)
  refine lv_iload hx hb dX9_fairWays_116 (lv_at hl 0 rfl) ?_
  refine lv_aload_n hx hb dX9_fairWays_118 rfl (lv_at hl 7 rfl) ?_
  refine va_get (D := D) (ci := 16) (v := .ref l4) (C := RX9) (T := TX9) (N := 13) hx hb hts hb_0 hown hK hP 0 rfl rfl 12 (by decide) hw_0 (fun _ h9 => h9) rfl dX9_fairWays_119 ?_
  refine mc_i (wr := [(mo, .inr (16, [.int 5, .int 5, .int th, .ref m1, .ref m2, .ref m3, .ref m4, .ref m5, .ref l1, .ref l2, .ref l3, .int (-1), .ref l4])), (u1, .inr (4, [.int 0, .int (-1), .int 1, .ref l4])), (q10, .inr (5, [.int 0, .ref (D.1 1001), .int 0]))]) (va_runV (As := []) (rest := [.int 0]) ⟨hx, hb, hml, hown, hts⟩ (c_alSize l hst D l4 1 (D.1 1000) 0 H.size) (cwV 0 hts (gi_c (List.mem_cons_of_mem _ (List.mem_append_left _ (List.mem_of_getElem? (i := 14) rfl))) rfl (gi_c (List.mem_cons_of_mem _ (List.mem_append_left _ (List.mem_of_getElem? (i := 15) rfl))) rfl (gi_c (List.mem_cons_of_mem _ (List.mem_append_left _ (List.mem_of_getElem? (i := 16) rfl))) rfl (gi_c (List.mem_cons_of_mem _ (List.mem_append_left _ (List.mem_of_getElem? (i := 4) rfl))) rfl (goodIn_sub hb_5 (List.all_eq_true.mpr gw_c_alSize)))))) rfl rfl rfl (by decide +kernel) ⟨Nat.le_of_ble_eq_true rfl, Nat.le_of_ble_eq_true rfl⟩) (pr_V (As := []) (b := l4) (C := RJx4a65c) hP hD hK hS hA hE [3] [] rfl rfl rfl 3 5 rfl rfl rfl) rfl rfl hl.1 rfl (lv_room (Nat.le_of_ble_eq_true rfl)) dX9_fairWays_122 ⟨Nat.le_of_ble_eq_true rfl, Nat.le_of_ble_eq_true rfl⟩) hP hD hK hS hA [3] [0, 1, 2] rfl rfl (by decide) (by decide) (fun r17 _ H locs w16 hP hD hK hS => ?_)
  have hP : va_P D vwCl [(mo, .inr (16, [.int 5, .int 5, .int th, .ref m1, .ref m2, .ref m3, .ref m4, .ref m5, .ref l1, .ref l2, .ref l3, .int (-1), .ref l4])), (u1, .inr (4, [.int 0, .int (-1), .int 1, .ref l4])), (q10, .inr (5, [.int 0, .ref (D.1 1001), .int 0])), (l4, .inr (5, [.int 1, .ref (D.1 1000), .int 0]))] H := hP
  have hD : va_D A [(mo, .inr (16, [.int 5, .int 5, .int th, .ref m1, .ref m2, .ref m3, .ref m4, .ref m5, .ref l1, .ref l2, .ref l3, .int (-1), .ref l4])), (u1, .inr (4, [.int 0, .int (-1), .int 1, .ref l4])), (q10, .inr (5, [.int 0, .ref (D.1 1001), .int 0])), (l4, .inr (5, [.int 1, .ref (D.1 1000), .int 0]))] := hD
  have hK : va_K D vwCl [] s := hK
  obtain rfl : r17 = 0 := w16
  refine lv_icmp_ge (tgt := 196) hx hb dX9_fairWays_125 (by decide) (fun h18 => ?_) (fun h18 => absurd (by decide) h18)
  refine lv_iload hx hb dX9_fairWays_196 (lv_at hl 3 rfl) ?_
  refine lv_aload_n hx hb dX9_fairWays_198 rfl (lv_at hl 7 rfl) ?_
  refine mc_i (wr := [(u1, .inr (4, [.int 0, .int (-1), .int 1, .ref l4])), (q10, .inr (5, [.int 0, .ref (D.1 1001), .int 0]))]) (va_runV (As := []) (rest := [.int 0]) ⟨hx, hb, hml, hown, hts⟩ (c_misFairK l hst D mo th m1 m2 m3 m4 m5 l1 l2 l3 l4 H.size) (cwV 0 hts (gi_c (List.mem_cons_of_mem _ (List.mem_append_left _ (List.mem_of_getElem? (i := 17) rfl))) rfl (gi_c (List.mem_cons_of_mem _ (List.mem_append_left _ (List.mem_of_getElem? (i := 18) rfl))) rfl (gi_c (List.mem_cons_of_mem _ (List.mem_append_left _ (List.mem_of_getElem? (i := 19) rfl))) rfl (gi_c (List.mem_cons_of_mem _ (List.mem_append_left _ (List.mem_of_getElem? (i := 20) rfl))) rfl (goodIn_sub hb_6 (List.all_eq_true.mpr gw_c_misFairK)))))) rfl rfl rfl (by decide +kernel) ⟨Nat.le_of_ble_eq_true rfl, Nat.le_of_ble_eq_true rfl⟩) (pr_V (As := []) (b := mo) (C := RX9) hP hD hK hS hA hE [0, 3] [] rfl rfl rfl 0 16 rfl rfl rfl) rfl rfl hl.1 rfl (lv_room (Nat.le_of_ble_eq_true rfl)) dX9_fairWays_199 ⟨Nat.le_of_ble_eq_true rfl, Nat.le_of_ble_eq_true rfl⟩) hP hD hK hS hA [0, 3] [1, 2] rfl rfl (by decide) (by decide) (fun r20 _ H locs w19 hP hD hK hS => ?_)
  have hP : va_P D vwCl [(u1, .inr (4, [.int 0, .int (-1), .int 1, .ref l4])), (q10, .inr (5, [.int 0, .ref (D.1 1001), .int 0])), (mo, .inr (16, [.int 5, .int 5, .int th, .ref m1, .ref m2, .ref m3, .ref m4, .ref m5, .ref l1, .ref l2, .ref l3, .int (-1), .ref l4])), (l4, .inr (5, [.int 1, .ref (D.1 1000), .int 0]))] H := hP
  have hD : va_D A [(u1, .inr (4, [.int 0, .int (-1), .int 1, .ref l4])), (q10, .inr (5, [.int 0, .ref (D.1 1001), .int 0])), (mo, .inr (16, [.int 5, .int 5, .int th, .ref m1, .ref m2, .ref m3, .ref m4, .ref m5, .ref l1, .ref l2, .ref l3, .int (-1), .ref l4])), (l4, .inr (5, [.int 1, .ref (D.1 1000), .int 0]))] := hD
  have hK : va_K D vwCl [] s := hK
  obtain rfl : r20 = 1 := w19
  refine lv_if_eq (tgt := 209) hx hb dX9_fairWays_202 (by decide) (fun h21 => absurd h21 (by decide)) (fun h21 => ?_)
  refine lv_iconst (v := 1) hx hb dX9_fairWays_205 (by decide) ?_
  refine lv_goto (tgt := 210) hx hb dX9_fairWays_206 (by decide) ?_
  refine lv_iadd hx hb dX9_fairWays_210 ?_
  refine lv_topi (fun x22 e22 => ?_)
  obtain rfl : x22 = 1 := e22.trans (by decide)
  refine lv_istore (lv' := [(4, .int 1), (7, .int 0), (6, .int 0), (5, .int 0), (3, .ref q10), (2, .int 0), (1, .int 0), (0, .ref mo)]) hx hb dX9_fairWays_211 hl (by decide) rfl (fun ls hl => ?_)
  obtain ⟨x23, e23⟩ : ∃ z : Int32, z = 0 + 1 := ⟨_, rfl⟩
  refine lv_iinc (v := x23) (lv' := [(5, .int x23), (4, .int 1), (7, .int 0), (6, .int 0), (3, .ref q10), (2, .int 0), (1, .int 0), (0, .ref mo)]) hx hb dX9_fairWays_213 hl (k := 3) rfl (by rw [e23]; rfl) (by decide) rfl (fun ls hl => ?_)
  obtain rfl : x23 = 1 := e23.trans (by decide)
  refine lv_goto (tgt := 99) hx hb dX9_fairWays_216 (by decide) ?_
  refine lv_iload hx hb dX9_fairWays_99 (lv_at hl 0 rfl) ?_
  refine lv_iconst (v := 1) hx hb dX9_fairWays_101 (by decide) ?_
  refine lv_iload_n hx hb dX9_fairWays_102 rfl (lv_at hl 5 rfl) ?_
  refine lv_iload_n hx hb dX9_fairWays_103 rfl (lv_at hl 6 rfl) ?_
  refine lv_imul hx hb dX9_fairWays_104 ?_
  refine lv_topi (fun x24 e24 => ?_)
  obtain rfl : x24 = 0 := e24.trans (by decide)
  refine lv_ishl hx hb dX9_fairWays_105 ?_
  refine lv_topi (fun x25 e25 => ?_)
  obtain rfl : x25 = 1 := e25.trans (by decide)
  refine lv_icmp_ge (tgt := 219) hx hb dX9_fairWays_106 (by decide) (fun h26 => ?_) (fun h26 => absurd (by decide) h26)
  refine lv_iconst (v := 0) hx hb dX9_fairWays_219 (by decide) ?_
  refine lv_istore (lv' := [(5, .int 0), (4, .int 1), (7, .int 0), (6, .int 0), (3, .ref q10), (2, .int 0), (1, .int 0), (0, .ref mo)]) hx hb dX9_fairWays_220 hl (by decide) rfl (fun ls hl => ?_)
  refine lv_iload hx hb dX9_fairWays_222 (lv_at hl 0 rfl) ?_
  refine lv_aload_n hx hb dX9_fairWays_224 rfl (lv_at hl 4 rfl) ?_
  refine mc_i (wr := [(u1, .inr (4, [.int 0, .int (-1), .int 1, .ref l4])), (mo, .inr (16, [.int 5, .int 5, .int th, .ref m1, .ref m2, .ref m3, .ref m4, .ref m5, .ref l1, .ref l2, .ref l3, .int (-1), .ref l4])), (l4, .inr (5, [.int 1, .ref (D.1 1000), .int 0]))]) (va_runV (As := []) (rest := [.int 0]) ⟨hx, hb, hml, hown, hts⟩ (c_alSize l hst D q10 0 (D.1 1001) 0 H.size) (cwV 0 hts (gi_c (List.mem_cons_of_mem _ (List.mem_append_left _ (List.mem_of_getElem? (i := 14) rfl))) rfl (gi_c (List.mem_cons_of_mem _ (List.mem_append_left _ (List.mem_of_getElem? (i := 15) rfl))) rfl (gi_c (List.mem_cons_of_mem _ (List.mem_append_left _ (List.mem_of_getElem? (i := 16) rfl))) rfl (gi_c (List.mem_cons_of_mem _ (List.mem_append_left _ (List.mem_of_getElem? (i := 4) rfl))) rfl (goodIn_sub hb_5 (List.all_eq_true.mpr gw_c_alSize)))))) rfl rfl rfl (by decide +kernel) ⟨Nat.le_of_ble_eq_true rfl, Nat.le_of_ble_eq_true rfl⟩) (pr_V (As := []) (b := q10) (C := RJx4a65c) hP hD hK hS hA hE [1] [] rfl rfl rfl 1 5 rfl rfl rfl) rfl rfl hl.1 rfl (lv_room (Nat.le_of_ble_eq_true rfl)) dX9_fairWays_225 ⟨Nat.le_of_ble_eq_true rfl, Nat.le_of_ble_eq_true rfl⟩) hP hD hK hS hA [1] [0, 2, 3] rfl rfl (by decide) (by decide) (fun r28 _ H locs w27 hP hD hK hS => ?_)
  have hP : va_P D vwCl [(u1, .inr (4, [.int 0, .int (-1), .int 1, .ref l4])), (mo, .inr (16, [.int 5, .int 5, .int th, .ref m1, .ref m2, .ref m3, .ref m4, .ref m5, .ref l1, .ref l2, .ref l3, .int (-1), .ref l4])), (l4, .inr (5, [.int 1, .ref (D.1 1000), .int 0])), (q10, .inr (5, [.int 0, .ref (D.1 1001), .int 0]))] H := hP
  have hD : va_D A [(u1, .inr (4, [.int 0, .int (-1), .int 1, .ref l4])), (mo, .inr (16, [.int 5, .int 5, .int th, .ref m1, .ref m2, .ref m3, .ref m4, .ref m5, .ref l1, .ref l2, .ref l3, .int (-1), .ref l4])), (l4, .inr (5, [.int 1, .ref (D.1 1000), .int 0])), (q10, .inr (5, [.int 0, .ref (D.1 1001), .int 0]))] := hD
  have hK : va_K D vwCl [] s := hK
  obtain rfl : r28 = 0 := w27
  refine lv_icmp_ge (tgt := 256) hx hb dX9_fairWays_228 (by decide) (fun h29 => ?_) (fun h29 => absurd (by decide) h29)
  refine lv_aload_n hx hb dX9_fairWays_256 rfl (lv_at hl 7 rfl) ?_
  refine lv_iload hx hb dX9_fairWays_257 (lv_at hl 1 rfl) ?_
  refine mc_i (wr := [(u1, .inr (4, [.int 0, .int (-1), .int 1, .ref l4])), (l4, .inr (5, [.int 1, .ref (D.1 1000), .int 0])), (q10, .inr (5, [.int 0, .ref (D.1 1001), .int 0]))]) (va_runV (As := [.int 1]) (rest := []) ⟨hx, hb, hml, hown, hts⟩ (c_tells l hst D mo 5 5 th m1 m2 m3 m4 m5 l1 l2 l3 (-1) l4 1 H.size) (cwV 1 hts (gi_c (List.mem_cons_of_mem _ (List.mem_append_left _ (List.mem_of_getElem? (i := 21) rfl))) rfl (gi_c (List.mem_cons_of_mem _ (List.mem_append_left _ (List.mem_of_getElem? (i := 22) rfl))) rfl (gi_c (List.mem_cons_of_mem _ (List.mem_append_left _ (List.mem_of_getElem? (i := 23) rfl))) rfl (gi_c (List.mem_cons_of_mem _ (List.mem_append_left _ (List.mem_of_getElem? (i := 20) rfl))) rfl (goodIn_sub hb_7 (List.all_eq_true.mpr gw_c_tells)))))) rfl rfl rfl (by decide +kernel) ⟨Nat.le_of_ble_eq_true rfl, Nat.le_of_ble_eq_true rfl⟩) (pr_V (As := [.int 1]) (b := mo) (C := RX9) hP hD hK hS hA hE [1] [] rfl rfl rfl 1 16 rfl rfl rfl) rfl rfl hl.1 rfl (lv_room (Nat.le_of_ble_eq_true rfl)) dX9_fairWays_259 ⟨Nat.le_of_ble_eq_true rfl, Nat.le_of_ble_eq_true rfl⟩) hP hD hK hS hA [1] [0, 2, 3] rfl rfl (by decide) (by decide) (fun r31 _ H locs w30 hP hD hK hS => ?_)
  have hP : va_P D vwCl [(u1, .inr (4, [.int 0, .int (-1), .int 1, .ref l4])), (l4, .inr (5, [.int 1, .ref (D.1 1000), .int 0])), (q10, .inr (5, [.int 0, .ref (D.1 1001), .int 0])), (mo, .inr (16, [.int 5, .int 5, .int 0, .ref m1, .ref m2, .ref m3, .ref m4, .ref m5, .ref l1, .ref l2, .ref l3, .int (-1), .ref l4]))] H := hP
  have hD : va_D A [(u1, .inr (4, [.int 0, .int (-1), .int 1, .ref l4])), (l4, .inr (5, [.int 1, .ref (D.1 1000), .int 0])), (q10, .inr (5, [.int 0, .ref (D.1 1001), .int 0])), (mo, .inr (16, [.int 5, .int 5, .int 0, .ref m1, .ref m2, .ref m3, .ref m4, .ref m5, .ref l1, .ref l2, .ref l3, .int (-1), .ref l4]))] := hD
  have hK : va_K D vwCl [] s := hK
  obtain rfl : r31 = 1 := w30
  exact mr_i hx hb hr (0, fun k9 => [m1, m2, m3, m4, m5, l1, l2, l3, l4].getD k9 0, fun k9 => [5, 5, -1].getD k9 0) (⟨rfl, fun _ => rfl⟩) (hP.sub [3] rfl) (hK.sub [] rfl) (hD.sub [3] (by decide) rfl) hS (Nat.le_of_ble_eq_true rfl) (Nat.le_of_ble_eq_true rfl) hlocks dX9_fairWays_262
