theorem dJ7_fill_d0a16_0 : decode cJ7_fill_d0a16 0 = .ok (.iconst 0, 1) := by decide +kernel
theorem dJ7_fill_d0a16_1 : decode cJ7_fill_d0a16 1 = .ok (.istore_n 3, 1) := by decide +kernel
theorem dJ7_fill_d0a16_2 : decode cJ7_fill_d0a16 2 = .ok (.aload_n 0, 1) := by decide +kernel
theorem dJ7_fill_d0a16_3 : decode cJ7_fill_d0a16 3 = .ok (.arraylength, 1) := by decide +kernel
theorem dJ7_fill_d0a16_4 : decode cJ7_fill_d0a16 4 = .ok (.istore 4, 2) := by decide +kernel
theorem dJ7_fill_d0a16_6 : decode cJ7_fill_d0a16 6 = .ok (.iload_n 3, 1) := by decide +kernel
theorem dJ7_fill_d0a16_7 : decode cJ7_fill_d0a16 7 = .ok (.iload 4, 2) := by decide +kernel
theorem dJ7_fill_d0a16_9 : decode cJ7_fill_d0a16 9 = .ok (.if_icmp .ge 13, 3) := by decide +kernel
theorem dJ7_fill_d0a16_22 : decode cJ7_fill_d0a16 22 = .ok (.return_, 1) := by decide +kernel
theorem dJ7_fill_d0a16_12 : decode cJ7_fill_d0a16 12 = .ok (.aload_n 0, 1) := by decide +kernel
theorem dJ7_fill_d0a16_13 : decode cJ7_fill_d0a16 13 = .ok (.iload_n 3, 1) := by decide +kernel
theorem dJ7_fill_d0a16_14 : decode cJ7_fill_d0a16 14 = .ok (.lload_n 1, 1) := by decide +kernel
theorem dJ7_fill_d0a16_15 : decode cJ7_fill_d0a16 15 = .ok (.lastore, 1) := by decide +kernel
theorem dJ7_fill_d0a16_16 : decode cJ7_fill_d0a16 16 = .ok (.iinc 3 1, 3) := by decide +kernel
theorem dJ7_fill_d0a16_19 : decode cJ7_fill_d0a16 19 = .ok (.goto (-13), 3) := by decide +kernel
theorem dX9_score_0 : decode cX9_score 0 = .ok (.aload_n 0, 1) := by decide +kernel
theorem dX9_score_1 : decode cX9_score 1 = .ok (.iload_n 1, 1) := by decide +kernel
theorem dX9_score_2 : decode cX9_score 2 = .ok (.invokevirtual 83, 3) := by decide +kernel
theorem dX9_score_5 : decode cX9_score 5 = .ok (.ifCond .ne 9, 3) := by decide +kernel
theorem dX9_score_14 : decode cX9_score 14 = .ok (.iload_n 2, 1) := by decide +kernel
theorem dX9_score_15 : decode cX9_score 15 = .ok (.i2l, 1) := by decide +kernel
theorem dX9_score_16 : decode cX9_score 16 = .ok (.lconst 0, 1) := by decide +kernel
theorem dX9_score_17 : decode cX9_score 17 = .ok (.ldc2_w 240, 3) := by decide +kernel
theorem dX9_score_20 : decode cX9_score 20 = .ok (.invokestatic 72, 3) := by decide +kernel
theorem dX9_score_23 : decode cX9_score 23 = .ok (.ifCond .eq 15, 3) := by decide +kernel
theorem dX9_score_38 : decode cX9_score 38 = .ok (.aload_n 0, 1) := by decide +kernel
theorem dX9_score_39 : decode cX9_score 39 = .ok (.iconst 2, 1) := by decide +kernel
theorem dX9_score_40 : decode cX9_score 40 = .ok (.invokevirtual 76, 3) := by decide +kernel
theorem dX9_score_43 : decode cX9_score 43 = .ok (.ireturn, 1) := by decide +kernel
theorem dX9_score_26 : decode cX9_score 26 = .ok (.iload_n 3, 1) := by decide +kernel
theorem dX9_score_27 : decode cX9_score 27 = .ok (.i2l, 1) := by decide +kernel
theorem dX9_score_28 : decode cX9_score 28 = .ok (.lconst 1, 1) := by decide +kernel
theorem dX9_score_29 : decode cX9_score 29 = .ok (.ldc2_w 240, 3) := by decide +kernel
theorem dX9_score_32 : decode cX9_score 32 = .ok (.invokestatic 72, 3) := by decide +kernel
theorem dX9_score_35 : decode cX9_score 35 = .ok (.ifCond .ne 9, 3) := by decide +kernel
theorem dX9_score_44 : decode cX9_score 44 = .ok (.aload_n 0, 1) := by decide +kernel
theorem dX9_score_45 : decode cX9_score 45 = .ok (.getfield 39, 3) := by decide +kernel
theorem dX9_score_48 : decode cX9_score 48 = .ok (.invokevirtual 135, 3) := by decide +kernel
theorem dX9_score_51 : decode cX9_score 51 = .ok (.istore 4, 2) := by decide +kernel
theorem dX9_score_53 : decode cX9_score 53 = .ok (.iload 4, 2) := by decide +kernel
theorem dX9_score_55 : decode cX9_score 55 = .ok (.iconst 1, 1) := by decide +kernel
theorem dX9_score_56 : decode cX9_score 56 = .ok (.iadd, 1) := by decide +kernel
theorem dX9_score_57 : decode cX9_score 57 = .ok (.iload 4, 2) := by decide +kernel
theorem dX9_score_59 : decode cX9_score 59 = .ok (.iconst 1, 1) := by decide +kernel
theorem dX9_score_60 : decode cX9_score 60 = .ok (.iadd, 1) := by decide +kernel
theorem dX9_score_61 : decode cX9_score 61 = .ok (.multianewarray 348 2, 4) := by decide +kernel
theorem dX9_score_65 : decode cX9_score 65 = .ok (.astore 5, 2) := by decide +kernel
theorem dX9_score_67 : decode cX9_score 67 = .ok (.iconst 0, 1) := by decide +kernel
theorem dX9_score_68 : decode cX9_score 68 = .ok (.istore 6, 2) := by decide +kernel
theorem dX9_score_70 : decode cX9_score 70 = .ok (.iload 6, 2) := by decide +kernel
theorem dX9_score_72 : decode cX9_score 72 = .ok (.iload 4, 2) := by decide +kernel
theorem dX9_score_74 : decode cX9_score 74 = .ok (.if_icmp .gt 118, 3) := by decide +kernel
theorem dX9_score_77 : decode cX9_score 77 = .ok (.aload_n 0, 1) := by decide +kernel
theorem dX9_score_78 : decode cX9_score 78 = .ok (.iload 6, 2) := by decide +kernel
theorem dX9_score_80 : decode cX9_score 80 = .ok (.iload 4, 2) := by decide +kernel
theorem dX9_score_82 : decode cX9_score 82 = .ok (.if_icmp .ne 7, 3) := by decide +kernel
theorem dX9_score_85 : decode cX9_score 85 = .ok (.iload_n 1, 1) := by decide +kernel
theorem dX9_score_86 : decode cX9_score 86 = .ok (.goto 17, 3) := by decide +kernel
theorem dX9_score_103 : decode cX9_score 103 = .ok (.iconst 0, 1) := by decide +kernel
theorem dX9_score_104 : decode cX9_score 104 = .ok (.invokevirtual 128, 3) := by decide +kernel
theorem dX9_score_107 : decode cX9_score 107 = .ok (.astore 7, 2) := by decide +kernel
theorem dX9_score_109 : decode cX9_score 109 = .ok (.iconst 0, 1) := by decide +kernel
theorem dX9_score_110 : decode cX9_score 110 = .ok (.istore 8, 2) := by decide +kernel
theorem dX9_score_112 : decode cX9_score 112 = .ok (.iload 8, 2) := by decide +kernel
theorem dX9_score_114 : decode cX9_score 114 = .ok (.iload 4, 2) := by decide +kernel
theorem dX9_score_116 : decode cX9_score 116 = .ok (.if_icmp .gt 70, 3) := by decide +kernel
theorem dX9_score_119 : decode cX9_score 119 = .ok (.aload 7, 2) := by decide +kernel
theorem dX9_score_121 : decode cX9_score 121 = .ok (.iload 8, 2) := by decide +kernel
theorem dX9_score_123 : decode cX9_score 123 = .ok (.iload 4, 2) := by decide +kernel
theorem dX9_score_125 : decode cX9_score 125 = .ok (.if_icmp .ne 7, 3) := by decide +kernel
theorem dX9_score_128 : decode cX9_score 128 = .ok (.iload_n 1, 1) := by decide +kernel
theorem dX9_score_129 : decode cX9_score 129 = .ok (.goto 17, 3) := by decide +kernel
theorem dX9_score_146 : decode cX9_score 146 = .ok (.iaload, 1) := by decide +kernel
theorem dX9_score_147 : decode cX9_score 147 = .ok (.istore 9, 2) := by decide +kernel
theorem dX9_score_149 : decode cX9_score 149 = .ok (.aload 5, 2) := by decide +kernel
theorem dX9_score_151 : decode cX9_score 151 = .ok (.iload 8, 2) := by decide +kernel
theorem dX9_score_153 : decode cX9_score 153 = .ok (.aaload, 1) := by decide +kernel
theorem dX9_score_154 : decode cX9_score 154 = .ok (.iload 6, 2) := by decide +kernel
theorem dX9_score_156 : decode cX9_score 156 = .ok (.iload 9, 2) := by decide +kernel
theorem dX9_score_158 : decode cX9_score 158 = .ok (.ldc 113, 2) := by decide +kernel
theorem dX9_score_160 : decode cX9_score 160 = .ok (.if_icmp .ne 9, 3) := by decide +kernel
theorem dX9_score_169 : decode cX9_score 169 = .ok (.iload 9, 2) := by decide +kernel
theorem dX9_score_171 : decode cX9_score 171 = .ok (.i2l, 1) := by decide +kernel
theorem dX9_score_172 : decode cX9_score 172 = .ok (.iload_n 3, 1) := by decide +kernel
theorem dX9_score_173 : decode cX9_score 173 = .ok (.i2l, 1) := by decide +kernel
theorem dX9_score_174 : decode cX9_score 174 = .ok (.lmul, 1) := by decide +kernel
theorem dX9_score_175 : decode cX9_score 175 = .ok (.ldc2_w 309, 3) := by decide +kernel
theorem dX9_score_178 : decode cX9_score 178 = .ok (.ldiv, 1) := by decide +kernel
theorem dX9_score_179 : decode cX9_score 179 = .ok (.lastore, 1) := by decide +kernel
theorem dX9_score_180 : decode cX9_score 180 = .ok (.iinc 8 1, 3) := by decide +kernel
theorem dX9_score_183 : decode cX9_score 183 = .ok (.goto (-71), 3) := by decide +kernel
theorem dX9_score_186 : decode cX9_score 186 = .ok (.iinc 6 1, 3) := by decide +kernel
theorem dX9_score_189 : decode cX9_score 189 = .ok (.goto (-119), 3) := by decide +kernel
theorem dX9_score_192 : decode cX9_score 192 = .ok (.iconst 1, 1) := by decide +kernel
theorem dX9_score_193 : decode cX9_score 193 = .ok (.iload 4, 2) := by decide +kernel
theorem dX9_score_195 : decode cX9_score 195 = .ok (.ishl, 1) := by decide +kernel
theorem dX9_score_196 : decode cX9_score 196 = .ok (.iconst 1, 1) := by decide +kernel
theorem dX9_score_197 : decode cX9_score 197 = .ok (.iload 4, 2) := by decide +kernel
theorem dX9_score_199 : decode cX9_score 199 = .ok (.invokestatic 105, 3) := by decide +kernel
theorem dX9_score_202 : decode cX9_score 202 = .ok (.imul, 1) := by decide +kernel
theorem dX9_score_203 : decode cX9_score 203 = .ok (.newarray .long, 2) := by decide +kernel
theorem dX9_score_205 : decode cX9_score 205 = .ok (.astore 6, 2) := by decide +kernel
theorem dX9_score_207 : decode cX9_score 207 = .ok (.aload 6, 2) := by decide +kernel
theorem dX9_score_209 : decode cX9_score 209 = .ok (.ldc2_w 354, 3) := by decide +kernel
theorem dX9_score_212 : decode cX9_score 212 = .ok (.invokestatic 356, 3) := by decide +kernel
theorem dX9_score_215 : decode cX9_score 215 = .ok (.iconst 0, 1) := by decide +kernel
theorem dX9_score_216 : decode cX9_score 216 = .ok (.istore 7, 2) := by decide +kernel
theorem dX9_score_218 : decode cX9_score 218 = .ok (.iconst 1, 1) := by decide +kernel
theorem dX9_score_219 : decode cX9_score 219 = .ok (.istore 8, 2) := by decide +kernel
theorem dX9_score_221 : decode cX9_score 221 = .ok (.iload 8, 2) := by decide +kernel
theorem dX9_score_223 : decode cX9_score 223 = .ok (.iconst 1, 1) := by decide +kernel
theorem dX9_score_224 : decode cX9_score 224 = .ok (.iload 4, 2) := by decide +kernel
theorem dX9_score_226 : decode cX9_score 226 = .ok (.ishl, 1) := by decide +kernel
theorem dX9_score_227 : decode cX9_score 227 = .ok (.if_icmp .ge 290, 3) := by decide +kernel
theorem dX9_score_517 : decode cX9_score 517 = .ok (.aload_n 0, 1) := by decide +kernel
theorem dX9_score_518 : decode cX9_score 518 = .ok (.iload 7, 2) := by decide +kernel
theorem dX9_score_520 : decode cX9_score 520 = .ok (.invokevirtual 80, 3) := by decide +kernel
theorem dX9_score_523 : decode cX9_score 523 = .ok (.ireturn, 1) := by decide +kernel
theorem dX9_score_8 : decode cX9_score 8 = .ok (.aload_n 0, 1) := by decide +kernel
theorem dX9_score_9 : decode cX9_score 9 = .ok (.iconst 1, 1) := by decide +kernel
theorem dX9_score_10 : decode cX9_score 10 = .ok (.invokevirtual 76, 3) := by decide +kernel
theorem dX9_score_13 : decode cX9_score 13 = .ok (.ireturn, 1) := by decide +kernel
/-! the reference: score on a new object -/
theorem dis_self (a : Nat) : dis a a = 0 := by simp [dis]
def us_c_fillL : List Cond := .code yJ7_fill_d0a16 cJ7_fill_d0a16 5 none :: (([] : List Cond) ++ ([]))
theorem gw_c_fillL : ∀ w ∈ us_c_fillL, goodWord w = true := gw_cons rfl (gw_app (by decide +kernel) (fun _ h => nomatch h))
set_option maxHeartbeats 4000000 in
set_option maxRecDepth 100000 in
/-- Arrays.fill of longs -/
theorem c_fillL (l : Launch) (hst : l.stackTraces = false) (D : va_G) (a : Nat) (cy : ClassId) (n : Nat) (f : Nat → Int64) (v : Int64) (sz : Nat) (hn : n < 2 ^ 31) : Met l yJ7_fill_d0a16 us_c_fillL { frames := 0, cells := 0, slots := 0, locals := 0 } (pw D [.ref a, .long v] [(cy, .long)] [(a, .inl (cy, n, .inr (.inl f)))] sz) (va_Qv (fun _ : Unit => True) (qb D (va_A [(a, .inl (cy, n, .inr (.inl f)))] sz) (fun _ : Unit => [(a, .inl (cy, n, .inr (.inl (fa_fill (fun _ => v) f n))))]) (fun _ : Unit => ([] : List (ClassId × FieldType)))) (va_A [(a, .inl (cy, n, .inr (.inl f)))] sz)) 0 0 (va_A [(a, .inl (cy, n, .inr (.inl f)))] sz) := by
  refine op_M (Qc := fun A => (va_Qv (fun _ : Unit => True) (qb D A (fun _ : Unit => [(a, .inl (cy, n, .inr (.inl (fa_fill (fun _ => v) f n))))]) (fun _ : Unit => ([] : List (ClassId × FieldType)))) A)) (by decide +kernel) rfl (Nat.le_of_ble_eq_true rfl) ?_
  intro p e s m args below meth c A ls hx hb hr hml hts hown hlocks hmn htab hA hD hS hP hK hE hsz hl
  have hown : s.vm.findClass RJ7 = some m.cls := hown
  have hl : lv_has ls 5 [(0, .ref a), (1, .long v)] := hl
  refine lv_iconst (v := 0) hx hb dJ7_fill_d0a16_0 (by decide) ?_
  refine lv_istore_n (lv' := [(3, .int 0), (0, .ref a), (1, .long v)]) hx hb dJ7_fill_d0a16_1 rfl hl (by decide) rfl (fun ls hl => ?_)
  refine lv_aload_n hx hb dJ7_fill_d0a16_2 rfl (lv_at hl 1 rfl) ?_
  refine va_alen hx hb hK hP 0 0 rfl rfl (v := nI n) rfl dJ7_fill_d0a16_3 ?_
  refine lv_istore (lv' := [(4, .int (nI n)), (3, .int 0), (0, .ref a), (1, .long v)]) hx hb dJ7_fill_d0a16_4 hl (by decide) rfl (fun ls hl => ?_)
  have hcf : ([(a, .inl (cy, n, .inr (.inl f)))] : va_W) = [(a, .inl (cy, n, .inr (.inl (fa_fill (fun _ => v) f 0))))] := congrArg (fun f9 : Nat → Int64 => ([(a, .inl (cy, n, .inr (.inl f9)))] : va_W)) (show (f : Nat → Int64) = fa_fill (fun _ => v) f 0 from (fa_fill_0 _ _).symm)
  rw [hcf] at hP hD
  clear hcf
  have lp : ∀ (fu : Nat) (i : Nat) (H : Heap) (locs : List Loc) (ls : Array Slot), (i + fu = n) → lv_has ls 5 [(3, .int (nI i)), (4, .int (nI n)), (0, .ref a), (1, .long v)] → va_P D vwCl [(a, .inl (cy, n, .inr (.inl (fa_fill (fun _ => v) f i))))] H → va_D A [(a, .inl (cy, n, .inr (.inl (fa_fill (fun _ => v) f i))))] → va_S A s.heap H locs → W p l e { frames := 0, cells := 0, slots := 0, locals := 0 } s m args below meth c H locs 0 0 (MQ below (va_Qv (fun _ : Unit => True) (qb D A (fun _ : Unit => [(a, .inl (cy, n, .inr (.inl (fa_fill (fun _ => v) f n))))]) (fun _ : Unit => ([] : List (ClassId × FieldType)))) A) args s 0 0 A) (F0 m 6 ls []) := by
    intro fu
    induction fu with
    | zero =>
      intro i H locs ls hi hl hP hD hS
      have hi : i + 0 = n := hi
      refine lv_iload_n hx hb dJ7_fill_d0a16_6 rfl (lv_at hl 0 rfl) ?_
      refine lv_iload hx hb dJ7_fill_d0a16_7 (lv_at hl 1 rfl) ?_
      refine lv_icmp_ge (tgt := 22) hx hb dJ7_fill_d0a16_9 (by decide) (fun h1 => ?_) (fun h1 => absurd (by exact (nI_leI (a := n) (b := i) (by omega) (by omega)).mpr (by omega)) h1)
      have hP : va_P D vwCl [(a, .inl (cy, n, .inr (.inl (fa_fill (fun _ => v) f i))))] H := hP
      have hD : va_D A [(a, .inl (cy, n, .inr (.inl (fa_fill (fun _ => v) f i))))] := hD
      have hcf : ([(a, .inl (cy, n, .inr (.inl (fa_fill (fun _ => v) f i))))] : va_W) = [(a, .inl (cy, n, .inr (.inl (fa_fill (fun _ => v) f n))))] := congrArg (fun f9 : Nat → Int64 => ([(a, .inl (cy, n, .inr (.inl f9)))] : va_W)) (show (fa_fill (fun _ => v) f i : Nat → Int64) = fa_fill (fun _ => v) f n from by rw [show i = n by omega])
      rw [hcf] at hP hD
      clear hcf
      have hP : va_P D vwCl [(a, .inl (cy, n, .inr (.inl (fa_fill (fun _ => v) f n))))] H := hP
      have hD : va_D A [(a, .inl (cy, n, .inr (.inl (fa_fill (fun _ => v) f n))))] := hD
      exact mr_v hx hb hr () (trivial) (hP.sub [0] rfl) (hK.sub [] rfl) (hD.sub [0] (by decide) rfl) hS (Nat.le_of_ble_eq_true rfl) (Nat.le_of_ble_eq_true rfl) hlocks dJ7_fill_d0a16_22
    | succ fu ih =>
      intro i H locs ls hi hl hP hD hS
      have hi : i + (fu + 1) = n := hi
      refine lv_iload_n hx hb dJ7_fill_d0a16_6 rfl (lv_at hl 0 rfl) ?_
      refine lv_iload hx hb dJ7_fill_d0a16_7 (lv_at hl 1 rfl) ?_
      refine lv_icmp_ge (tgt := 22) hx hb dJ7_fill_d0a16_9 (by decide) (fun h2 => absurd h2 (by exact fun q9 => absurd ((nI_leI (a := n) (b := i) (by omega) (by omega)).mp q9) (by omega))) (fun h2 => ?_)
      refine lv_aload_n hx hb dJ7_fill_d0a16_12 rfl (lv_at hl 2 rfl) ?_
      refine lv_iload_n hx hb dJ7_fill_d0a16_13 rfl (lv_at hl 0 rfl) ?_
      refine lv_lload_n hx hb dJ7_fill_d0a16_14 rfl (lv_at hl 3 rfl) ?_
      refine va_last hx hb hK hP hD hS 0 0 rfl rfl (vp_in_nI (by omega) (by omega)) dJ7_fill_d0a16_15 (fun H locs hP hD hS => ?_)
      have hcf : vp_updL (fa_fill (fun _ => v) f i) ((nI i).toNatClampNeg) v = fa_fill (fun _ => v) f (i + 1) := by rw [nI_clamp (by omega)]; exact fill_succL v f i
      have hP : va_P D vwCl [(a, .inl (cy, n, .inr (.inl (vp_updL (fa_fill (fun _ => v) f i) ((nI i).toNatClampNeg) v))))] H := hP
      have hD : va_D A [(a, .inl (cy, n, .inr (.inl (vp_updL (fa_fill (fun _ => v) f i) ((nI i).toNatClampNeg) v))))] := hD
      rw [hcf] at hP hD
      clear hcf
      have hP : va_P D vwCl [(a, .inl (cy, n, .inr (.inl (fa_fill (fun _ => v) f (i + 1)))))] H := hP
      have hD : va_D A [(a, .inl (cy, n, .inr (.inl (fa_fill (fun _ => v) f (i + 1)))))] := hD
      obtain ⟨x3, e3⟩ : ∃ z : Int32, z = nI i + 1 := ⟨_, rfl⟩
      refine lv_iinc (v := x3) (lv' := [(3, .int x3), (4, .int (nI n)), (0, .ref a), (1, .long v)]) hx hb dJ7_fill_d0a16_16 hl (k := 0) rfl (by rw [e3]; rfl) (by decide) rfl (fun ls hl => ?_)
      obtain rfl : x3 = nI (i + 1) := e3.trans (nI_add i 1)
      refine lv_goto (tgt := 6) hx hb dJ7_fill_d0a16_19 (by decide) ?_
      exact ih  (i + 1) _ _ _ (by omega) (lv_sub hl [0, 1, 2, 3] rfl) (hP.sub [0] rfl) (hD.sub [0] (by decide) rfl) hS
  exact lp n 0 _ _ _ (by omega) (lv_sub hl [1, 0, 2, 3] rfl) (hP.sub [0] rfl) (hD.sub [0] (by decide) rfl) hS

def us_c_mscore : List Cond := .code yX9_score cX9_score 15 (some .int) :: (([.methodLink RX9 83 yX9_isCell, .instanceMethod yX9_isCell, .selects RX9 yX9_isCell yX9_isCell, .initialized RX9, .constantLong RX9 240 (9999), .methodLink RX9 72 yX9_in, .static yX9_in, .methodLink RX9 76 yX9_fails, .instanceMethod yX9_fails, .selects RX9 yX9_fails yX9_fails, .fieldLink RX9 39 "ControlWoodModel" "controls" "Ljava/util/ArrayList;", .methodLink RX9 135 yJx4a65c_size_8abf5, .instanceMethod yJx4a65c_size_8abf5, .selects RJx4a65c yJx4a65c_size_8abf5 yJx4a65c_size_8abf5, .initialized RJx4a65c, .classLink RX9 348 "[[J", .arrayClass .long, .methodLink RX9 128 yX9_costsTo, .instanceMethod yX9_costsTo, .selects RX9 yX9_costsTo yX9_costsTo, .constant RX9 113 (1000000000), .constantLong RX9 309 (1000), .methodLink RX9 105 Lib.Math.max.name, .static Lib.Math.max.name, .initialized "java/lang/Math", .code Lib.Math.max.name Lib.Math.max.code 2 (some .int), .constantLong RX9 354 (9223372036854775807), .methodLink RX9 356 yJ7_fill_d0a16, .static yJ7_fill_d0a16, .initialized RJ7, .methodLink RX9 80 yX9_tells, .instanceMethod yX9_tells, .selects RX9 yX9_tells yX9_tells] : List Cond) ++ (us_c_isCell ++ (us_c_in ++ (us_c_fails ++ (wsX90 ++ (us_c_alSize ++ (us_c_costsTo ++ (us_c_fillL ++ (us_c_tells ++ ([]))))))))))
theorem gw_c_mscore : ∀ w ∈ us_c_mscore, goodWord w = true := gw_cons rfl (gw_app (by decide +kernel) (gw_app gw_c_isCell (gw_app gw_c_in (gw_app gw_c_fails (gw_app gwf_X9 (gw_app gw_c_alSize (gw_app gw_c_costsTo (gw_app gw_c_fillL (gw_app gw_c_tells (fun _ h => nomatch h))))))))))
set_option maxHeartbeats 4000000 in
set_option maxRecDepth 100000 in
/-- the reference: score -/
theorem c_mscore (l : Launch) (hst : l.stackTraces = false) (D : va_G) (mo : Nat) (th : Int32) (m1 : Nat) (m2 : Nat) (m3 : Nat) (m4 : Nat) (m5 : Nat) (l1 : Nat) (l2 : Nat) (l3 : Nat) (l4 : Nat) (cm1 : ClassId) (cm2 : ClassId) (cm3 : ClassId) (cm4 : ClassId) (cm5 : ClassId) (p0 : Int32) (p1 : Int32) (p2 : Int32) (sz : Nat) : Met l yX9_score us_c_mscore { frames := 4, cells := 4, slots := 28, locals := 97 } (pw D [.ref mo, .int p0, .int p1, .int p2] [(cm1, .int), (cm2, .int), (cm3, .int), (cm4, .char), (cm5, .char)] [(mo, .inr (16, [.int 5, .int 5, .int th, .ref m1, .ref m2, .ref m3, .ref m4, .ref m5, .ref l1, .ref l2, .ref l3, .int (-1), .ref l4])), (m1, .inl (cm1, 25, .inl (fun _ => 0))), (m2, .inl (cm2, 25, .inl (fun _ => 0))), (m3, .inl (cm3, 25, .inl (fun _ => 0))), (m4, .inl (cm4, 25, .inl fK5)), (m5, .inl (cm5, 25, .inl fK5)), (l1, .inr (5, [.int 1, .ref (D.1 1000), .int 0]))] sz) (va_Qi (fun (r : Int32) (u : (Int32 × (Nat → Nat) × (Nat → Int32))) => u.1 = kf_score p0 p1 p2 ∧ (kf_score p0 p1 p2 = 0 → r = rf_score p0 p1 p2)) (qb D (va_A [(mo, .inr (16, [.int 5, .int 5, .int th, .ref m1, .ref m2, .ref m3, .ref m4, .ref m5, .ref l1, .ref l2, .ref l3, .int (-1), .ref l4])), (m1, .inl (cm1, 25, .inl (fun _ => 0))), (m2, .inl (cm2, 25, .inl (fun _ => 0))), (m3, .inl (cm3, 25, .inl (fun _ => 0))), (m4, .inl (cm4, 25, .inl fK5)), (m5, .inl (cm5, 25, .inl fK5)), (l1, .inr (5, [.int 1, .ref (D.1 1000), .int 0]))] sz) (fun u : (Int32 × (Nat → Nat) × (Nat → Int32)) => [(mo, .inr (16, [.int (u.2.2 0), .int (u.2.2 1), .int u.1, .ref (u.2.1 0), .ref (u.2.1 1), .ref (u.2.1 2), .ref (u.2.1 3), .ref (u.2.1 4), .ref (u.2.1 5), .ref (u.2.1 6), .ref (u.2.1 7), .int (u.2.2 2), .ref (u.2.1 8)]))]) (fun u : (Int32 × (Nat → Nat) × (Nat → Int32)) => ([] : List (ClassId × FieldType)))) (va_A [(mo, .inr (16, [.int 5, .int 5, .int th, .ref m1, .ref m2, .ref m3, .ref m4, .ref m5, .ref l1, .ref l2, .ref l3, .int (-1), .ref l4])), (m1, .inl (cm1, 25, .inl (fun _ => 0))), (m2, .inl (cm2, 25, .inl (fun _ => 0))), (m3, .inl (cm3, 25, .inl (fun _ => 0))), (m4, .inl (cm4, 25, .inl fK5)), (m5, .inl (cm5, 25, .inl fK5)), (l1, .inr (5, [.int 1, .ref (D.1 1000), .int 0]))] sz)) 4 28 (va_A [(mo, .inr (16, [.int 5, .int 5, .int th, .ref m1, .ref m2, .ref m3, .ref m4, .ref m5, .ref l1, .ref l2, .ref l3, .int (-1), .ref l4])), (m1, .inl (cm1, 25, .inl (fun _ => 0))), (m2, .inl (cm2, 25, .inl (fun _ => 0))), (m3, .inl (cm3, 25, .inl (fun _ => 0))), (m4, .inl (cm4, 25, .inl fK5)), (m5, .inl (cm5, 25, .inl fK5)), (l1, .inr (5, [.int 1, .ref (D.1 1000), .int 0]))] sz) := by
  refine op_M (Qc := fun A => (va_Qi (fun (r : Int32) (u : (Int32 × (Nat → Nat) × (Nat → Int32))) => u.1 = kf_score p0 p1 p2 ∧ (kf_score p0 p1 p2 = 0 → r = rf_score p0 p1 p2)) (qb D A (fun u : (Int32 × (Nat → Nat) × (Nat → Int32)) => [(mo, .inr (16, [.int (u.2.2 0), .int (u.2.2 1), .int u.1, .ref (u.2.1 0), .ref (u.2.1 1), .ref (u.2.1 2), .ref (u.2.1 3), .ref (u.2.1 4), .ref (u.2.1 5), .ref (u.2.1 6), .ref (u.2.1 7), .int (u.2.2 2), .ref (u.2.1 8)]))]) (fun u : (Int32 × (Nat → Nat) × (Nat → Int32)) => ([] : List (ClassId × FieldType)))) A)) (by decide +kernel) rfl (Nat.le_of_ble_eq_true rfl) ?_
  intro p e s m args below meth c A ls hx hb hr hml hts hown hlocks hmn htab hA hD hS hP hK hE hsz hl
  have hown : s.vm.findClass RX9 = some m.cls := hown
  have hl : lv_has ls 15 [(0, .ref mo), (1, .int p0), (2, .int p1), (3, .int p2)] := hl
  have hw_0 := hts (.methodLink RX9 83 yX9_isCell) (List.mem_cons_of_mem _ (List.mem_append_left _ (List.mem_of_getElem? (i := 0) rfl)))
  have hw_1 := hts (.instanceMethod yX9_isCell) (List.mem_cons_of_mem _ (List.mem_append_left _ (List.mem_of_getElem? (i := 1) rfl)))
  have hw_2 := hts (.selects RX9 yX9_isCell yX9_isCell) (List.mem_cons_of_mem _ (List.mem_append_left _ (List.mem_of_getElem? (i := 2) rfl)))
  have hw_3 := hts (.initialized RX9) (List.mem_cons_of_mem _ (List.mem_append_left _ (List.mem_of_getElem? (i := 3) rfl)))
  have hw_4 := hts (.constantLong RX9 240 (9999)) (List.mem_cons_of_mem _ (List.mem_append_left _ (List.mem_of_getElem? (i := 4) rfl)))
  have hw_5 := hts (.methodLink RX9 72 yX9_in) (List.mem_cons_of_mem _ (List.mem_append_left _ (List.mem_of_getElem? (i := 5) rfl)))
  have hw_6 := hts (.static yX9_in) (List.mem_cons_of_mem _ (List.mem_append_left _ (List.mem_of_getElem? (i := 6) rfl)))
  have hw_7 := hts (.methodLink RX9 76 yX9_fails) (List.mem_cons_of_mem _ (List.mem_append_left _ (List.mem_of_getElem? (i := 7) rfl)))
  have hw_8 := hts (.instanceMethod yX9_fails) (List.mem_cons_of_mem _ (List.mem_append_left _ (List.mem_of_getElem? (i := 8) rfl)))
  have hw_9 := hts (.selects RX9 yX9_fails yX9_fails) (List.mem_cons_of_mem _ (List.mem_append_left _ (List.mem_of_getElem? (i := 9) rfl)))
  have hw_10 := hts (.fieldLink RX9 39 "ControlWoodModel" "controls" "Ljava/util/ArrayList;") (List.mem_cons_of_mem _ (List.mem_append_left _ (List.mem_of_getElem? (i := 10) rfl)))
  have hw_11 := hts (.methodLink RX9 135 yJx4a65c_size_8abf5) (List.mem_cons_of_mem _ (List.mem_append_left _ (List.mem_of_getElem? (i := 11) rfl)))
  have hw_12 := hts (.instanceMethod yJx4a65c_size_8abf5) (List.mem_cons_of_mem _ (List.mem_append_left _ (List.mem_of_getElem? (i := 12) rfl)))
  have hw_13 := hts (.selects RJx4a65c yJx4a65c_size_8abf5 yJx4a65c_size_8abf5) (List.mem_cons_of_mem _ (List.mem_append_left _ (List.mem_of_getElem? (i := 13) rfl)))
  have hw_14 := hts (.initialized RJx4a65c) (List.mem_cons_of_mem _ (List.mem_append_left _ (List.mem_of_getElem? (i := 14) rfl)))
  have hw_15 := hts (.classLink RX9 348 "[[J") (List.mem_cons_of_mem _ (List.mem_append_left _ (List.mem_of_getElem? (i := 15) rfl)))
  have hw_16 := hts (.arrayClass .long) (List.mem_cons_of_mem _ (List.mem_append_left _ (List.mem_of_getElem? (i := 16) rfl)))
  have hw_17 := hts (.methodLink RX9 128 yX9_costsTo) (List.mem_cons_of_mem _ (List.mem_append_left _ (List.mem_of_getElem? (i := 17) rfl)))
  have hw_18 := hts (.instanceMethod yX9_costsTo) (List.mem_cons_of_mem _ (List.mem_append_left _ (List.mem_of_getElem? (i := 18) rfl)))
  have hw_19 := hts (.selects RX9 yX9_costsTo yX9_costsTo) (List.mem_cons_of_mem _ (List.mem_append_left _ (List.mem_of_getElem? (i := 19) rfl)))
  have hw_20 := hts (.constant RX9 113 (1000000000)) (List.mem_cons_of_mem _ (List.mem_append_left _ (List.mem_of_getElem? (i := 20) rfl)))
  have hw_21 := hts (.constantLong RX9 309 (1000)) (List.mem_cons_of_mem _ (List.mem_append_left _ (List.mem_of_getElem? (i := 21) rfl)))
  have hw_22 := hts (.methodLink RX9 105 Lib.Math.max.name) (List.mem_cons_of_mem _ (List.mem_append_left _ (List.mem_of_getElem? (i := 22) rfl)))
  have hw_23 := hts (.static Lib.Math.max.name) (List.mem_cons_of_mem _ (List.mem_append_left _ (List.mem_of_getElem? (i := 23) rfl)))
  have hw_24 := hts (.initialized "java/lang/Math") (List.mem_cons_of_mem _ (List.mem_append_left _ (List.mem_of_getElem? (i := 24) rfl)))
  have hw_25 := hts (.code Lib.Math.max.name Lib.Math.max.code 2 (some .int)) (List.mem_cons_of_mem _ (List.mem_append_left _ (List.mem_of_getElem? (i := 25) rfl)))
  have hw_26 := hts (.constantLong RX9 354 (9223372036854775807)) (List.mem_cons_of_mem _ (List.mem_append_left _ (List.mem_of_getElem? (i := 26) rfl)))
  have hw_27 := hts (.methodLink RX9 356 yJ7_fill_d0a16) (List.mem_cons_of_mem _ (List.mem_append_left _ (List.mem_of_getElem? (i := 27) rfl)))
  have hw_28 := hts (.static yJ7_fill_d0a16) (List.mem_cons_of_mem _ (List.mem_append_left _ (List.mem_of_getElem? (i := 28) rfl)))
  have hw_29 := hts (.initialized RJ7) (List.mem_cons_of_mem _ (List.mem_append_left _ (List.mem_of_getElem? (i := 29) rfl)))
  have hw_30 := hts (.methodLink RX9 80 yX9_tells) (List.mem_cons_of_mem _ (List.mem_append_left _ (List.mem_of_getElem? (i := 30) rfl)))
  have hw_31 := hts (.instanceMethod yX9_tells) (List.mem_cons_of_mem _ (List.mem_append_left _ (List.mem_of_getElem? (i := 31) rfl)))
  have hw_32 := hts (.selects RX9 yX9_tells yX9_tells) (List.mem_cons_of_mem _ (List.mem_append_left _ (List.mem_of_getElem? (i := 32) rfl)))
  have hb_0 : ∀ w ∈ us_c_isCell, w ∈ us_c_mscore := fun w h => List.mem_cons_of_mem _ (List.mem_append_right _ (List.mem_append_left _ h))
  have hb_1 : ∀ w ∈ us_c_in, w ∈ us_c_mscore := fun w h => List.mem_cons_of_mem _ (List.mem_append_right _ (List.mem_append_right _ (List.mem_append_left _ h)))
  have hb_2 : ∀ w ∈ us_c_fails, w ∈ us_c_mscore := fun w h => List.mem_cons_of_mem _ (List.mem_append_right _ (List.mem_append_right _ (List.mem_append_right _ (List.mem_append_left _ h))))
  have hb_3 : ∀ w ∈ wsX90, w ∈ us_c_mscore := fun w h => List.mem_cons_of_mem _ (List.mem_append_right _ (List.mem_append_right _ (List.mem_append_right _ (List.mem_append_right _ (List.mem_append_left _ h)))))
  have hb_4 : ∀ w ∈ us_c_alSize, w ∈ us_c_mscore := fun w h => List.mem_cons_of_mem _ (List.mem_append_right _ (List.mem_append_right _ (List.mem_append_right _ (List.mem_append_right _ (List.mem_append_right _ (List.mem_append_left _ h))))))
  have hb_5 : ∀ w ∈ us_c_costsTo, w ∈ us_c_mscore := fun w h => List.mem_cons_of_mem _ (List.mem_append_right _ (List.mem_append_right _ (List.mem_append_right _ (List.mem_append_right _ (List.mem_append_right _ (List.mem_append_right _ (List.mem_append_left _ h)))))))
  have hb_6 : ∀ w ∈ us_c_fillL, w ∈ us_c_mscore := fun w h => List.mem_cons_of_mem _ (List.mem_append_right _ (List.mem_append_right _ (List.mem_append_right _ (List.mem_append_right _ (List.mem_append_right _ (List.mem_append_right _ (List.mem_append_right _ (List.mem_append_left _ h))))))))
  have hb_7 : ∀ w ∈ us_c_tells, w ∈ us_c_mscore := fun w h => List.mem_cons_of_mem _ (List.mem_append_right _ (List.mem_append_right _ (List.mem_append_right _ (List.mem_append_right _ (List.mem_append_right _ (List.mem_append_right _ (List.mem_append_right _ (List.mem_append_right _ (List.mem_append_left _ h)))))))))
  refine lv_aload_n hx hb dX9_score_0 rfl (lv_at hl 0 rfl) ?_
  refine lv_iload_n hx hb dX9_score_1 rfl (lv_at hl 1 rfl) ?_
  refine mc_i (wr := [(m2, .inl (cm2, 25, .inl (fun _ => 0))), (m3, .inl (cm3, 25, .inl (fun _ => 0))), (m4, .inl (cm4, 25, .inl fK5)), (m5, .inl (cm5, 25, .inl fK5)), (l1, .inr (5, [.int 1, .ref (D.1 1000), .int 0]))]) (va_runV (As := [.int p0]) (rest := []) ⟨hx, hb, hml, hown, hts⟩ (c_isCell l hst D mo th m1 m2 m3 m4 m5 l1 l2 l3 l4 cm1 p0 s.heap.size) (cwV 1 hts (gi_c (List.mem_cons_of_mem _ (List.mem_append_left _ (List.mem_of_getElem? (i := 0) rfl))) rfl (gi_c (List.mem_cons_of_mem _ (List.mem_append_left _ (List.mem_of_getElem? (i := 1) rfl))) rfl (gi_c (List.mem_cons_of_mem _ (List.mem_append_left _ (List.mem_of_getElem? (i := 2) rfl))) rfl (gi_c (List.mem_cons_of_mem _ (List.mem_append_left _ (List.mem_of_getElem? (i := 3) rfl))) rfl (goodIn_sub hb_0 (List.all_eq_true.mpr gw_c_isCell)))))) rfl rfl rfl (by decide +kernel) ⟨Nat.le_of_ble_eq_true rfl, Nat.le_of_ble_eq_true rfl⟩) (pr_V (As := [.int p0]) (b := mo) (C := RX9) hP hD hK hS hA hE [0, 1] [0] rfl rfl rfl 0 16 rfl rfl rfl) rfl rfl hl.1 rfl (lv_room (Nat.le_of_ble_eq_true rfl)) dX9_score_2 ⟨Nat.le_of_ble_eq_true rfl, Nat.le_of_ble_eq_true rfl⟩) hP hD hK hS hA [0, 1] [2, 3, 4, 5, 6] rfl rfl (by decide) (by decide) (fun r2 _ H locs w1 hP hD hK hS => ?_)
  have hP : va_P D vwCl [(m2, .inl (cm2, 25, .inl (fun _ => 0))), (m3, .inl (cm3, 25, .inl (fun _ => 0))), (m4, .inl (cm4, 25, .inl fK5)), (m5, .inl (cm5, 25, .inl fK5)), (l1, .inr (5, [.int 1, .ref (D.1 1000), .int 0])), (mo, .inr (16, [.int 5, .int 5, .int th, .ref m1, .ref m2, .ref m3, .ref m4, .ref m5, .ref l1, .ref l2, .ref l3, .int (-1), .ref l4])), (m1, .inl (cm1, 25, .inl (fun _ => 0)))] H := hP
  have hD : va_D A [(m2, .inl (cm2, 25, .inl (fun _ => 0))), (m3, .inl (cm3, 25, .inl (fun _ => 0))), (m4, .inl (cm4, 25, .inl fK5)), (m5, .inl (cm5, 25, .inl fK5)), (l1, .inr (5, [.int 1, .ref (D.1 1000), .int 0])), (mo, .inr (16, [.int 5, .int 5, .int th, .ref m1, .ref m2, .ref m3, .ref m4, .ref m5, .ref l1, .ref l2, .ref l3, .int (-1), .ref l4])), (m1, .inl (cm1, 25, .inl (fun _ => 0)))] := hD
  have hK : va_K D vwCl [(cm1, .int), (cm2, .int), (cm3, .int), (cm4, .char), (cm5, .char)] s := hK
  obtain rfl : r2 = (if inI p0 25 then 1 else 0) := w1
  refine lv_if_ne (tgt := 14) hx hb dX9_score_5 (by decide) (fun h3 => ?_) (fun h3 => ?_)
  · obtain ⟨k0, hk0, rfl⟩ := inI_nI (ite01_1 h3)
    refine lv_iload_n hx hb dX9_score_14 rfl (lv_at hl 2 rfl) ?_
    refine lv_i2l hx hb dX9_score_15 rfl ?_
    refine lv_topl (fun x4 e4 => ?_)
    obtain rfl : x4 = p1.toInt64 := e4
    refine lv_lconst (v := 0) hx hb dX9_score_16 (by decide) ?_
    refine lv_ldc2 hx hb hown hw_4 dX9_score_17 ?_
    refine mc_i (wr := [(m2, .inl (cm2, 25, .inl (fun _ => 0))), (m3, .inl (cm3, 25, .inl (fun _ => 0))), (m4, .inl (cm4, 25, .inl fK5)), (m5, .inl (cm5, 25, .inl fK5)), (l1, .inr (5, [.int 1, .ref (D.1 1000), .int 0])), (mo, .inr (16, [.int 5, .int 5, .int th, .ref m1, .ref m2, .ref m3, .ref m4, .ref m5, .ref l1, .ref l2, .ref l3, .int (-1), .ref l4])), (m1, .inl (cm1, 25, .inl (fun _ => 0)))]) (va_runS (As := [.long p1.toInt64, .long 0, .long 9999]) (rest := []) ⟨hx, hb, hml, hown, hts⟩ (c_in l hst D p1 0 9999 0 9999 H.size (by decide) (by decide)) (va_cwS 3 hts (gi_c (List.mem_cons_of_mem _ (List.mem_append_left _ (List.mem_of_getElem? (i := 5) rfl))) rfl (gi_c (List.mem_cons_of_mem _ (List.mem_append_left _ (List.mem_of_getElem? (i := 6) rfl))) rfl (gi_c (List.mem_cons_of_mem _ (List.mem_append_left _ (List.mem_of_getElem? (i := 3) rfl))) rfl (goodIn_sub hb_1 (List.all_eq_true.mpr gw_c_in))))) rfl rfl rfl (by decide +kernel) ⟨Nat.le_of_ble_eq_true rfl, Nat.le_of_ble_eq_true rfl⟩) (pr_S (As := [.long p1.toInt64, .long 0, .long 9999]) hP hD hK hS hA hE [] [] rfl rfl rfl) rfl rfl hl.1 rfl (lv_room (Nat.le_of_ble_eq_true rfl)) dX9_score_20 ⟨Nat.le_of_ble_eq_true rfl, Nat.le_of_ble_eq_true rfl⟩) hP hD hK hS hA [] [0, 1, 2, 3, 4, 5, 6] rfl rfl (by decide) (by decide) (fun r6 _ H locs w5 hP hD hK hS => ?_)
    have hP : va_P D vwCl [(m2, .inl (cm2, 25, .inl (fun _ => 0))), (m3, .inl (cm3, 25, .inl (fun _ => 0))), (m4, .inl (cm4, 25, .inl fK5)), (m5, .inl (cm5, 25, .inl fK5)), (l1, .inr (5, [.int 1, .ref (D.1 1000), .int 0])), (mo, .inr (16, [.int 5, .int 5, .int th, .ref m1, .ref m2, .ref m3, .ref m4, .ref m5, .ref l1, .ref l2, .ref l3, .int (-1), .ref l4])), (m1, .inl (cm1, 25, .inl (fun _ => 0)))] H := hP
    have hD : va_D A [(m2, .inl (cm2, 25, .inl (fun _ => 0))), (m3, .inl (cm3, 25, .inl (fun _ => 0))), (m4, .inl (cm4, 25, .inl fK5)), (m5, .inl (cm5, 25, .inl fK5)), (l1, .inr (5, [.int 1, .ref (D.1 1000), .int 0])), (mo, .inr (16, [.int 5, .int 5, .int th, .ref m1, .ref m2, .ref m3, .ref m4, .ref m5, .ref l1, .ref l2, .ref l3, .int (-1), .ref l4])), (m1, .inl (cm1, 25, .inl (fun _ => 0)))] := hD
    have hK : va_K D vwCl [(cm1, .int), (cm2, .int), (cm3, .int), (cm4, .char), (cm5, .char)] s := hK
    obtain rfl : r6 = (if inR p1 0 9999 then 1 else 0) := w5
    refine lv_if_eq (tgt := 38) hx hb dX9_score_23 (by decide) (fun h7 => ?_) (fun h7 => ?_)
    · refine lv_aload_n hx hb dX9_score_38 rfl (lv_at hl 0 rfl) ?_
      refine lv_iconst (v := 2) hx hb dX9_score_39 (by decide) ?_
      refine mc_i (wr := [(m2, .inl (cm2, 25, .inl (fun _ => 0))), (m3, .inl (cm3, 25, .inl (fun _ => 0))), (m4, .inl (cm4, 25, .inl fK5)), (m5, .inl (cm5, 25, .inl fK5)), (l1, .inr (5, [.int 1, .ref (D.1 1000), .int 0])), (m1, .inl (cm1, 25, .inl (fun _ => 0)))]) (va_runV (As := [.int 2]) (rest := []) ⟨hx, hb, hml, hown, hts⟩ (c_fails l hst D mo 5 5 th m1 m2 m3 m4 m5 l1 l2 l3 (-1) l4 2 H.size) (cwV 1 hts (gi_c (List.mem_cons_of_mem _ (List.mem_append_left _ (List.mem_of_getElem? (i := 7) rfl))) rfl (gi_c (List.mem_cons_of_mem _ (List.mem_append_left _ (List.mem_of_getElem? (i := 8) rfl))) rfl (gi_c (List.mem_cons_of_mem _ (List.mem_append_left _ (List.mem_of_getElem? (i := 9) rfl))) rfl (gi_c (List.mem_cons_of_mem _ (List.mem_append_left _ (List.mem_of_getElem? (i := 3) rfl))) rfl (goodIn_sub hb_2 (List.all_eq_true.mpr gw_c_fails)))))) rfl rfl rfl (by decide +kernel) ⟨Nat.le_of_ble_eq_true rfl, Nat.le_of_ble_eq_true rfl⟩) (pr_V (As := [.int 2]) (b := mo) (C := RX9) hP hD hK hS hA hE [5] [] rfl rfl rfl 5 16 rfl rfl rfl) rfl rfl hl.1 rfl (lv_room (Nat.le_of_ble_eq_true rfl)) dX9_score_40 ⟨Nat.le_of_ble_eq_true rfl, Nat.le_of_ble_eq_true rfl⟩) hP hD hK hS hA [5] [0, 1, 2, 3, 4, 6] rfl rfl (by decide) (by decide) (fun r9 _ H locs w8 hP hD hK hS => ?_)
      have hP : va_P D vwCl [(m2, .inl (cm2, 25, .inl (fun _ => 0))), (m3, .inl (cm3, 25, .inl (fun _ => 0))), (m4, .inl (cm4, 25, .inl fK5)), (m5, .inl (cm5, 25, .inl fK5)), (l1, .inr (5, [.int 1, .ref (D.1 1000), .int 0])), (m1, .inl (cm1, 25, .inl (fun _ => 0))), (mo, .inr (16, [.int 5, .int 5, .int 2, .ref m1, .ref m2, .ref m3, .ref m4, .ref m5, .ref l1, .ref l2, .ref l3, .int (-1), .ref l4]))] H := hP
      have hD : va_D A [(m2, .inl (cm2, 25, .inl (fun _ => 0))), (m3, .inl (cm3, 25, .inl (fun _ => 0))), (m4, .inl (cm4, 25, .inl fK5)), (m5, .inl (cm5, 25, .inl fK5)), (l1, .inr (5, [.int 1, .ref (D.1 1000), .int 0])), (m1, .inl (cm1, 25, .inl (fun _ => 0))), (mo, .inr (16, [.int 5, .int 5, .int 2, .ref m1, .ref m2, .ref m3, .ref m4, .ref m5, .ref l1, .ref l2, .ref l3, .int (-1), .ref l4]))] := hD
      have hK : va_K D vwCl [(cm1, .int), (cm2, .int), (cm3, .int), (cm4, .char), (cm5, .char)] s := hK
      obtain rfl : r9 = 0 := w8
      exact mr_i hx hb hr (2, fun k9 => [m1, m2, m3, m4, m5, l1, l2, l3, l4].getD k9 0, fun k9 => [5, 5, -1].getD k9 0) (⟨((if_pos (ite01_1 h3)).trans (if_neg (ite01_0 h7))).symm, fun q9 => absurd (((if_pos (ite01_1 h3)).trans (if_neg (ite01_0 h7))).symm.trans q9) (by decide)⟩) (hP.sub [6] rfl) (hK.sub [] rfl) (hD.sub [6] (by decide) rfl) hS (Nat.le_of_ble_eq_true rfl) (Nat.le_of_ble_eq_true rfl) hlocks dX9_score_43
    · refine lv_iload_n hx hb dX9_score_26 rfl (lv_at hl 3 rfl) ?_
      refine lv_i2l hx hb dX9_score_27 rfl ?_
      refine lv_topl (fun x10 e10 => ?_)
      obtain rfl : x10 = p2.toInt64 := e10
      refine lv_lconst (v := 1) hx hb dX9_score_28 (by decide) ?_
      refine lv_ldc2 hx hb hown hw_4 dX9_score_29 ?_
      refine mc_i (wr := [(m2, .inl (cm2, 25, .inl (fun _ => 0))), (m3, .inl (cm3, 25, .inl (fun _ => 0))), (m4, .inl (cm4, 25, .inl fK5)), (m5, .inl (cm5, 25, .inl fK5)), (l1, .inr (5, [.int 1, .ref (D.1 1000), .int 0])), (mo, .inr (16, [.int 5, .int 5, .int th, .ref m1, .ref m2, .ref m3, .ref m4, .ref m5, .ref l1, .ref l2, .ref l3, .int (-1), .ref l4])), (m1, .inl (cm1, 25, .inl (fun _ => 0)))]) (va_runS (As := [.long p2.toInt64, .long 1, .long 9999]) (rest := []) ⟨hx, hb, hml, hown, hts⟩ (c_in l hst D p2 1 9999 1 9999 H.size (by decide) (by decide)) (va_cwS 3 hts (gi_c (List.mem_cons_of_mem _ (List.mem_append_left _ (List.mem_of_getElem? (i := 5) rfl))) rfl (gi_c (List.mem_cons_of_mem _ (List.mem_append_left _ (List.mem_of_getElem? (i := 6) rfl))) rfl (gi_c (List.mem_cons_of_mem _ (List.mem_append_left _ (List.mem_of_getElem? (i := 3) rfl))) rfl (goodIn_sub hb_1 (List.all_eq_true.mpr gw_c_in))))) rfl rfl rfl (by decide +kernel) ⟨Nat.le_of_ble_eq_true rfl, Nat.le_of_ble_eq_true rfl⟩) (pr_S (As := [.long p2.toInt64, .long 1, .long 9999]) hP hD hK hS hA hE [] [] rfl rfl rfl) rfl rfl hl.1 rfl (lv_room (Nat.le_of_ble_eq_true rfl)) dX9_score_32 ⟨Nat.le_of_ble_eq_true rfl, Nat.le_of_ble_eq_true rfl⟩) hP hD hK hS hA [] [0, 1, 2, 3, 4, 5, 6] rfl rfl (by decide) (by decide) (fun r12 _ H locs w11 hP hD hK hS => ?_)
      have hP : va_P D vwCl [(m2, .inl (cm2, 25, .inl (fun _ => 0))), (m3, .inl (cm3, 25, .inl (fun _ => 0))), (m4, .inl (cm4, 25, .inl fK5)), (m5, .inl (cm5, 25, .inl fK5)), (l1, .inr (5, [.int 1, .ref (D.1 1000), .int 0])), (mo, .inr (16, [.int 5, .int 5, .int th, .ref m1, .ref m2, .ref m3, .ref m4, .ref m5, .ref l1, .ref l2, .ref l3, .int (-1), .ref l4])), (m1, .inl (cm1, 25, .inl (fun _ => 0)))] H := hP
      have hD : va_D A [(m2, .inl (cm2, 25, .inl (fun _ => 0))), (m3, .inl (cm3, 25, .inl (fun _ => 0))), (m4, .inl (cm4, 25, .inl fK5)), (m5, .inl (cm5, 25, .inl fK5)), (l1, .inr (5, [.int 1, .ref (D.1 1000), .int 0])), (mo, .inr (16, [.int 5, .int 5, .int th, .ref m1, .ref m2, .ref m3, .ref m4, .ref m5, .ref l1, .ref l2, .ref l3, .int (-1), .ref l4])), (m1, .inl (cm1, 25, .inl (fun _ => 0)))] := hD
      have hK : va_K D vwCl [(cm1, .int), (cm2, .int), (cm3, .int), (cm4, .char), (cm5, .char)] s := hK
      obtain rfl : r12 = (if inR p2 1 9999 then 1 else 0) := w11
      refine lv_if_ne (tgt := 44) hx hb dX9_score_35 (by decide) (fun h13 => ?_) (fun h13 => ?_)
      · refine lv_aload_n hx hb dX9_score_44 rfl (lv_at hl 0 rfl) ?_
        refine va_get (D := D) (ci := 16) (v := .ref l1) (C := RX9) (T := TX9) (N := 13) hx hb hts hb_3 hown hK hP 5 rfl rfl 8 (by decide) hw_10 (fun _ h9 => h9) rfl dX9_score_45 ?_
        refine mc_i (wr := [(m2, .inl (cm2, 25, .inl (fun _ => 0))), (m3, .inl (cm3, 25, .inl (fun _ => 0))), (m4, .inl (cm4, 25, .inl fK5)), (m5, .inl (cm5, 25, .inl fK5)), (mo, .inr (16, [.int 5, .int 5, .int th, .ref m1, .ref m2, .ref m3, .ref m4, .ref m5, .ref l1, .ref l2, .ref l3, .int (-1), .ref l4])), (m1, .inl (cm1, 25, .inl (fun _ => 0)))]) (va_runV (As := []) (rest := []) ⟨hx, hb, hml, hown, hts⟩ (c_alSize l hst D l1 1 (D.1 1000) 0 H.size) (cwV 0 hts (gi_c (List.mem_cons_of_mem _ (List.mem_append_left _ (List.mem_of_getElem? (i := 11) rfl))) rfl (gi_c (List.mem_cons_of_mem _ (List.mem_append_left _ (List.mem_of_getElem? (i := 12) rfl))) rfl (gi_c (List.mem_cons_of_mem _ (List.mem_append_left _ (List.mem_of_getElem? (i := 13) rfl))) rfl (gi_c (List.mem_cons_of_mem _ (List.mem_append_left _ (List.mem_of_getElem? (i := 14) rfl))) rfl (goodIn_sub hb_4 (List.all_eq_true.mpr gw_c_alSize)))))) rfl rfl rfl (by decide +kernel) ⟨Nat.le_of_ble_eq_true rfl, Nat.le_of_ble_eq_true rfl⟩) (pr_V (As := []) (b := l1) (C := RJx4a65c) hP hD hK hS hA hE [4] [] rfl rfl rfl 4 5 rfl rfl rfl) rfl rfl hl.1 rfl (lv_room (Nat.le_of_ble_eq_true rfl)) dX9_score_48 ⟨Nat.le_of_ble_eq_true rfl, Nat.le_of_ble_eq_true rfl⟩) hP hD hK hS hA [4] [0, 1, 2, 3, 5, 6] rfl rfl (by decide) (by decide) (fun r15 _ H locs w14 hP hD hK hS => ?_)
        have hP : va_P D vwCl [(m2, .inl (cm2, 25, .inl (fun _ => 0))), (m3, .inl (cm3, 25, .inl (fun _ => 0))), (m4, .inl (cm4, 25, .inl fK5)), (m5, .inl (cm5, 25, .inl fK5)), (mo, .inr (16, [.int 5, .int 5, .int th, .ref m1, .ref m2, .ref m3, .ref m4, .ref m5, .ref l1, .ref l2, .ref l3, .int (-1), .ref l4])), (m1, .inl (cm1, 25, .inl (fun _ => 0))), (l1, .inr (5, [.int 1, .ref (D.1 1000), .int 0]))] H := hP
        have hD : va_D A [(m2, .inl (cm2, 25, .inl (fun _ => 0))), (m3, .inl (cm3, 25, .inl (fun _ => 0))), (m4, .inl (cm4, 25, .inl fK5)), (m5, .inl (cm5, 25, .inl fK5)), (mo, .inr (16, [.int 5, .int 5, .int th, .ref m1, .ref m2, .ref m3, .ref m4, .ref m5, .ref l1, .ref l2, .ref l3, .int (-1), .ref l4])), (m1, .inl (cm1, 25, .inl (fun _ => 0))), (l1, .inr (5, [.int 1, .ref (D.1 1000), .int 0]))] := hD
        have hK : va_K D vwCl [(cm1, .int), (cm2, .int), (cm3, .int), (cm4, .char), (cm5, .char)] s := hK
        obtain rfl : r15 = 0 := w14
        refine lv_istore (lv' := [(4, .int 0), (0, .ref mo), (1, .int (nI k0)), (2, .int p1), (3, .int p2)]) hx hb dX9_score_51 hl (by decide) rfl (fun ls hl => ?_)
        refine lv_iload hx hb dX9_score_53 (lv_at hl 0 rfl) ?_
        refine lv_iconst (v := 1) hx hb dX9_score_55 (by decide) ?_
        refine lv_iadd hx hb dX9_score_56 ?_
        refine lv_topi (fun x16 e16 => ?_)
        obtain rfl : x16 = 1 := e16.trans (by decide)
        refine lv_iload hx hb dX9_score_57 (lv_at hl 0 rfl) ?_
        refine lv_iconst (v := 1) hx hb dX9_score_59 (by decide) ?_
        refine lv_iadd hx hb dX9_score_60 ?_
        refine lv_topi (fun x17 e17 => ?_)
        obtain rfl : x17 = 1 := e17.trans (by decide)
        refine va_mna1 hx hb hown hw_15 hE.2.2.2.2.2.1.2.2.2.2 hw_16 hK hP hD hS hA (Nat.le_of_ble_eq_true rfl) (Nat.le_of_ble_eq_true rfl) dX9_score_61 (fun q18 q19 cy20 cy21 H hK hP hD hS => ?_)
        have hK : va_K D vwCl [(cm1, .int), (cm2, .int), (cm3, .int), (cm4, .char), (cm5, .char), (cy20, .array .long), (cy21, .long)] s := hK
        have hP : va_P D vwCl [(m2, .inl (cm2, 25, .inl (fun _ => 0))), (m3, .inl (cm3, 25, .inl (fun _ => 0))), (m4, .inl (cm4, 25, .inl fK5)), (m5, .inl (cm5, 25, .inl fK5)), (mo, .inr (16, [.int 5, .int 5, .int th, .ref m1, .ref m2, .ref m3, .ref m4, .ref m5, .ref l1, .ref l2, .ref l3, .int (-1), .ref l4])), (m1, .inl (cm1, 25, .inl (fun _ => 0))), (l1, .inr (5, [.int 1, .ref (D.1 1000), .int 0])), (q18, .inl (cy20, 1, .inr (.inr (.inr (.inr (fun i => if i < 1 then some q19 else none)))))), (q19, .inl (cy21, 1, .inr (.inl (fun _ => 0))))] H := hP
        have hD : va_D A [(m2, .inl (cm2, 25, .inl (fun _ => 0))), (m3, .inl (cm3, 25, .inl (fun _ => 0))), (m4, .inl (cm4, 25, .inl fK5)), (m5, .inl (cm5, 25, .inl fK5)), (mo, .inr (16, [.int 5, .int 5, .int th, .ref m1, .ref m2, .ref m3, .ref m4, .ref m5, .ref l1, .ref l2, .ref l3, .int (-1), .ref l4])), (m1, .inl (cm1, 25, .inl (fun _ => 0))), (l1, .inr (5, [.int 1, .ref (D.1 1000), .int 0])), (q18, .inl (cy20, 1, .inr (.inr (.inr (.inr (fun i => if i < 1 then some q19 else none)))))), (q19, .inl (cy21, 1, .inr (.inl (fun _ => 0))))] := hD
        refine W.widen (k := 2) (n := 2) (Nat.le_of_ble_eq_true rfl) (Nat.le_of_ble_eq_true rfl) ?_
        refine lv_astore (lv' := [(5, .ref q18), (4, .int 0), (0, .ref mo), (1, .int (nI k0)), (2, .int p1), (3, .int p2)]) hx hb dX9_score_65 hl (by decide) rfl (fun ls hl => ?_)
        refine lv_iconst (v := 0) hx hb dX9_score_67 (by decide) ?_
        refine lv_istore (lv' := [(6, .int 0), (5, .ref q18), (4, .int 0), (0, .ref mo), (1, .int (nI k0)), (2, .int p1), (3, .int p2)]) hx hb dX9_score_68 hl (by decide) rfl (fun ls hl => ?_)
        refine lv_iload hx hb dX9_score_70 (lv_at hl 0 rfl) ?_
        refine lv_iload hx hb dX9_score_72 (lv_at hl 2 rfl) ?_
        refine lv_icmp_gt (tgt := 192) hx hb dX9_score_74 (by decide) (fun h22 => absurd h22 (by decide)) (fun h22 => ?_)
        refine lv_aload_n hx hb dX9_score_77 rfl (lv_at hl 3 rfl) ?_
        refine lv_iload hx hb dX9_score_78 (lv_at hl 0 rfl) ?_
        refine lv_iload hx hb dX9_score_80 (lv_at hl 2 rfl) ?_
        refine lv_icmp_ne (tgt := 89) hx hb dX9_score_82 (by decide) (fun h23 => absurd (by decide) h23) (fun h23 => ?_)
        refine lv_iload_n hx hb dX9_score_85 rfl (lv_at hl 4 rfl) ?_
        refine lv_goto (tgt := 103) hx hb dX9_score_86 (by decide) ?_
        refine lv_iconst (v := 0) hx hb dX9_score_103 (by decide) ?_
        refine mc_q (wr := [(l1, .inr (5, [.int 1, .ref (D.1 1000), .int 0])), (q18, .inl (cy20, 1, .inr (.inr (.inr (.inr (fun i => if i < 1 then some q19 else none)))))), (q19, .inl (cy21, 1, .inr (.inl (fun _ => 0))))]) (va_runV (As := [.int (nI k0), .int 0]) (rest := []) ⟨hx, hb, hml, hown, hts⟩ (c_costsTo l hst D mo th m1 m2 m3 m4 m5 l1 l2 l3 l4 cm1 cm2 cm3 cm4 cm5 k0 0 H.size (by omega)) (cwV 2 hts (gi_c (List.mem_cons_of_mem _ (List.mem_append_left _ (List.mem_of_getElem? (i := 17) rfl))) rfl (gi_c (List.mem_cons_of_mem _ (List.mem_append_left _ (List.mem_of_getElem? (i := 18) rfl))) rfl (gi_c (List.mem_cons_of_mem _ (List.mem_append_left _ (List.mem_of_getElem? (i := 19) rfl))) rfl (gi_c (List.mem_cons_of_mem _ (List.mem_append_left _ (List.mem_of_getElem? (i := 3) rfl))) rfl (goodIn_sub hb_5 (List.all_eq_true.mpr gw_c_costsTo)))))) rfl rfl rfl (by decide +kernel) ⟨Nat.le_of_ble_eq_true rfl, Nat.le_of_ble_eq_true rfl⟩) (pr_V (As := [.int (nI k0), .int 0]) (b := mo) (C := RX9) hP hD hK hS hA hE [4, 5, 0, 1, 2, 3] [0, 1, 2, 3, 4] rfl rfl rfl 4 16 rfl rfl rfl) rfl rfl hl.1 rfl (lv_room (Nat.le_of_ble_eq_true rfl)) dX9_score_104 ⟨Nat.le_of_ble_eq_true rfl, Nat.le_of_ble_eq_true rfl⟩) hP hD hK hS hA [4, 5, 0, 1, 2, 3] [6, 7, 8] rfl rfl (by decide) (by decide) (fun r26 u24 H locs w25 hP hD hK hS => ?_)
        have hP : va_P D vwCl [(l1, .inr (5, [.int 1, .ref (D.1 1000), .int 0])), (q18, .inl (cy20, 1, .inr (.inr (.inr (.inr (fun i => if i < 1 then some q19 else none)))))), (q19, .inl (cy21, 1, .inr (.inl (fun _ => 0)))), (mo, .inr (16, [.int 5, .int 5, .int th, .ref m1, .ref m2, .ref m3, .ref m4, .ref m5, .ref l1, .ref l2, .ref l3, .int (-1), .ref l4])), (m1, .inl (cm1, 25, .inl (fun _ => 0))), (m2, .inl (cm2, 25, .inl (fun _ => 0))), (m3, .inl (cm3, 25, .inl (fun _ => 0))), (m4, .inl (cm4, 25, .inl fK5)), (m5, .inl (cm5, 25, .inl fK5)), (u24.1, .inl (u24.2, 25, .inl (fL (wayC k0))))] H := hP
        have hD : va_D A [(l1, .inr (5, [.int 1, .ref (D.1 1000), .int 0])), (q18, .inl (cy20, 1, .inr (.inr (.inr (.inr (fun i => if i < 1 then some q19 else none)))))), (q19, .inl (cy21, 1, .inr (.inl (fun _ => 0)))), (mo, .inr (16, [.int 5, .int 5, .int th, .ref m1, .ref m2, .ref m3, .ref m4, .ref m5, .ref l1, .ref l2, .ref l3, .int (-1), .ref l4])), (m1, .inl (cm1, 25, .inl (fun _ => 0))), (m2, .inl (cm2, 25, .inl (fun _ => 0))), (m3, .inl (cm3, 25, .inl (fun _ => 0))), (m4, .inl (cm4, 25, .inl fK5)), (m5, .inl (cm5, 25, .inl fK5)), (u24.1, .inl (u24.2, 25, .inl (fL (wayC k0))))] := hD
        have hK : va_K D vwCl [(cm1, .int), (cm2, .int), (cm3, .int), (cm4, .char), (cm5, .char), (cy20, .array .long), (cy21, .long), (u24.2, .int)] s := hK
        obtain rfl := w25
        refine lv_astore (lv' := [(7, .ref u24.1), (6, .int 0), (5, .ref q18), (4, .int 0), (0, .ref mo), (1, .int (nI k0)), (2, .int p1), (3, .int p2)]) hx hb dX9_score_107 hl (by decide) rfl (fun ls hl => ?_)
        refine lv_iconst (v := 0) hx hb dX9_score_109 (by decide) ?_
        refine lv_istore (lv' := [(8, .int 0), (7, .ref u24.1), (6, .int 0), (5, .ref q18), (4, .int 0), (0, .ref mo), (1, .int (nI k0)), (2, .int p1), (3, .int p2)]) hx hb dX9_score_110 hl (by decide) rfl (fun ls hl => ?_)
        refine lv_iload hx hb dX9_score_112 (lv_at hl 0 rfl) ?_
        refine lv_iload hx hb dX9_score_114 (lv_at hl 4 rfl) ?_
        refine lv_icmp_gt (tgt := 186) hx hb dX9_score_116 (by decide) (fun h27 => absurd h27 (by decide)) (fun h27 => ?_)
        refine lv_aload hx hb dX9_score_119 (lv_at hl 1 rfl) ?_
        refine lv_iload hx hb dX9_score_121 (lv_at hl 0 rfl) ?_
        refine lv_iload hx hb dX9_score_123 (lv_at hl 4 rfl) ?_
        refine lv_icmp_ne (tgt := 132) hx hb dX9_score_125 (by decide) (fun h28 => absurd (by decide) h28) (fun h28 => ?_)
        refine lv_iload_n hx hb dX9_score_128 rfl (lv_at hl 6 rfl) ?_
        refine lv_goto (tgt := 146) hx hb dX9_score_129 (by decide) ?_
        refine va_iald hx hb hK hP 9 7 rfl rfl (vp_in_nI (n := k0) (by omega) (by decide)) dX9_score_146 ?_
        refine lv_topi (fun x29 e29 => ?_)
        obtain rfl : x29 = 0 := e29.trans ((fL_at (by omega)).trans (by rw [wayC_at k0 k0 (by omega), dis_self]; rfl))
        refine lv_istore (lv' := [(9, .int 0), (8, .int 0), (7, .ref u24.1), (6, .int 0), (5, .ref q18), (4, .int 0), (0, .ref mo), (1, .int (nI k0)), (2, .int p1), (3, .int p2)]) hx hb dX9_score_147 hl (by decide) rfl (fun ls hl => ?_)
        refine lv_aload hx hb dX9_score_149 (lv_at hl 4 rfl) ?_
        refine lv_iload hx hb dX9_score_151 (lv_at hl 1 rfl) ?_
        refine va_alda hx hb hK hP 1 5 rfl rfl (vp_in_nI (n := 0) (by decide) (by decide)) dX9_score_153 ?_
        refine W.eq (g2 := F0 m 154 ls [.ref q19]) (by rw [if_pos (show (0 : Int32).toNatClampNeg < 1 from by decide)]; rfl) ?_
        refine lv_iload hx hb dX9_score_154 (lv_at hl 3 rfl) ?_
        refine lv_iload hx hb dX9_score_156 (lv_at hl 0 rfl) ?_
        refine lv_ldc hx hb hown hw_20 dX9_score_158 ?_
        refine lv_icmp_ne (tgt := 169) hx hb dX9_score_160 (by decide) (fun h30 => ?_) (fun h30 => absurd h30 (by decide))
        refine lv_iload hx hb dX9_score_169 (lv_at hl 0 rfl) ?_
        refine lv_i2l hx hb dX9_score_171 rfl ?_
        refine lv_topl (fun x31 e31 => ?_)
        refine lv_iload_n hx hb dX9_score_172 rfl (lv_at hl 9 rfl) ?_
        refine lv_i2l hx hb dX9_score_173 rfl ?_
        refine lv_topl (fun x32 e32 => ?_)
        obtain rfl : x32 = p2.toInt64 := e32
        refine lv_lmul hx hb dX9_score_174 ?_
        refine lv_topl (fun x33 e33 => ?_)
        refine lv_ldc2 hx hb hown hw_21 dX9_score_175 ?_
        refine lv_ldiv hx hb dX9_score_178 (by decide) ?_
        refine lv_topl (fun x34 e34 => ?_)
        refine va_last hx hb hK hP hD hS 2 6 rfl rfl (vp_in_nI (n := 0) (by decide) (by decide)) dX9_score_179 (fun H locs hP hD hS => ?_)
        have hP : va_P D vwCl [(l1, .inr (5, [.int 1, .ref (D.1 1000), .int 0])), (q18, .inl (cy20, 1, .inr (.inr (.inr (.inr (fun i => if i < 1 then some q19 else none)))))), (q19, .inl (cy21, 1, .inr (.inl (vp_updL (fun _ => 0) ((0 : Int32).toNatClampNeg) x34)))), (mo, .inr (16, [.int 5, .int 5, .int th, .ref m1, .ref m2, .ref m3, .ref m4, .ref m5, .ref l1, .ref l2, .ref l3, .int (-1), .ref l4])), (m1, .inl (cm1, 25, .inl (fun _ => 0))), (m2, .inl (cm2, 25, .inl (fun _ => 0))), (m3, .inl (cm3, 25, .inl (fun _ => 0))), (m4, .inl (cm4, 25, .inl fK5)), (m5, .inl (cm5, 25, .inl fK5)), (u24.1, .inl (u24.2, 25, .inl (fL (wayC k0))))] H := hP
        have hD : va_D A [(l1, .inr (5, [.int 1, .ref (D.1 1000), .int 0])), (q18, .inl (cy20, 1, .inr (.inr (.inr (.inr (fun i => if i < 1 then some q19 else none)))))), (q19, .inl (cy21, 1, .inr (.inl (vp_updL (fun _ => 0) ((0 : Int32).toNatClampNeg) x34)))), (mo, .inr (16, [.int 5, .int 5, .int th, .ref m1, .ref m2, .ref m3, .ref m4, .ref m5, .ref l1, .ref l2, .ref l3, .int (-1), .ref l4])), (m1, .inl (cm1, 25, .inl (fun _ => 0))), (m2, .inl (cm2, 25, .inl (fun _ => 0))), (m3, .inl (cm3, 25, .inl (fun _ => 0))), (m4, .inl (cm4, 25, .inl fK5)), (m5, .inl (cm5, 25, .inl fK5)), (u24.1, .inl (u24.2, 25, .inl (fL (wayC k0))))] := hD
        obtain ⟨x35, e35⟩ : ∃ z : Int32, z = 0 + 1 := ⟨_, rfl⟩
        refine lv_iinc (v := x35) (lv' := [(8, .int x35), (9, .int 0), (7, .ref u24.1), (6, .int 0), (5, .ref q18), (4, .int 0), (0, .ref mo), (1, .int (nI k0)), (2, .int p1), (3, .int p2)]) hx hb dX9_score_180 hl (k := 1) rfl (by rw [e35]; rfl) (by decide) rfl (fun ls hl => ?_)
        obtain rfl : x35 = 1 := e35.trans (by decide)
        refine lv_goto (tgt := 112) hx hb dX9_score_183 (by decide) ?_
        refine lv_iload hx hb dX9_score_112 (lv_at hl 0 rfl) ?_
        refine lv_iload hx hb dX9_score_114 (lv_at hl 5 rfl) ?_
        refine lv_icmp_gt (tgt := 186) hx hb dX9_score_116 (by decide) (fun h36 => ?_) (fun h36 => absurd (by decide) h36)
        obtain ⟨x37, e37⟩ : ∃ z : Int32, z = 0 + 1 := ⟨_, rfl⟩
        refine lv_iinc (v := x37) (lv' := [(6, .int x37), (8, .int 1), (9, .int 0), (7, .ref u24.1), (5, .ref q18), (4, .int 0), (0, .ref mo), (1, .int (nI k0)), (2, .int p1), (3, .int p2)]) hx hb dX9_score_186 hl (k := 3) rfl (by rw [e37]; rfl) (by decide) rfl (fun ls hl => ?_)
        obtain rfl : x37 = 1 := e37.trans (by decide)
        refine lv_goto (tgt := 70) hx hb dX9_score_189 (by decide) ?_
        refine lv_iload hx hb dX9_score_70 (lv_at hl 0 rfl) ?_
        refine lv_iload hx hb dX9_score_72 (lv_at hl 5 rfl) ?_
        refine lv_icmp_gt (tgt := 192) hx hb dX9_score_74 (by decide) (fun h38 => ?_) (fun h38 => absurd (by decide) h38)
        refine lv_iconst (v := 1) hx hb dX9_score_192 (by decide) ?_
        refine lv_iload hx hb dX9_score_193 (lv_at hl 5 rfl) ?_
        refine lv_ishl hx hb dX9_score_195 ?_
        refine lv_topi (fun x39 e39 => ?_)
        obtain rfl : x39 = 1 := e39.trans (by decide)
        refine lv_iconst (v := 1) hx hb dX9_score_196 (by decide) ?_
        refine lv_iload hx hb dX9_score_197 (lv_at hl 5 rfl) ?_
        refine va_mmax hx hb (by rw [hml]; exact hl.1.symm) hown hw_22 hw_23 hw_24 hw_25 (Nat.le_of_ble_eq_true rfl) (Nat.le_of_ble_eq_true rfl) (Nat.le_of_ble_eq_true rfl) (Nat.le_of_ble_eq_true rfl) dX9_score_199 ?_
        refine lv_topi (fun x40 e40 => ?_)
        obtain rfl : x40 = 1 := e40.trans (by decide)
        refine lv_imul hx hb dX9_score_202 ?_
        refine lv_topi (fun x41 e41 => ?_)
        obtain rfl : x41 = 1 := e41.trans (by decide)
        refine va_newa (atype := .long) (ty := .long) (a0 := (1, .inr (.inl (fun _ => 0)))) hx hb hw_16 rfl hK hP hD hS hA (N' := 1) (fun _ => rfl) (by decide) (by decide) (Nat.le_of_ble_eq_true rfl) (Nat.le_of_ble_eq_true rfl) (Nat.le_of_ble_eq_true rfl) dX9_score_203 (fun q42 cy43 H hK hP hD hS => ?_)
        have hK : va_K D vwCl [(cm1, .int), (cm2, .int), (cm3, .int), (cm4, .char), (cm5, .char), (cy20, .array .long), (cy21, .long), (u24.2, .int), (cy43, .long)] s := hK
        have hP : va_P D vwCl [(l1, .inr (5, [.int 1, .ref (D.1 1000), .int 0])), (q18, .inl (cy20, 1, .inr (.inr (.inr (.inr (fun i => if i < 1 then some q19 else none)))))), (q19, .inl (cy21, 1, .inr (.inl (vp_updL (fun _ => 0) ((0 : Int32).toNatClampNeg) x34)))), (mo, .inr (16, [.int 5, .int 5, .int th, .ref m1, .ref m2, .ref m3, .ref m4, .ref m5, .ref l1, .ref l2, .ref l3, .int (-1), .ref l4])), (m1, .inl (cm1, 25, .inl (fun _ => 0))), (m2, .inl (cm2, 25, .inl (fun _ => 0))), (m3, .inl (cm3, 25, .inl (fun _ => 0))), (m4, .inl (cm4, 25, .inl fK5)), (m5, .inl (cm5, 25, .inl fK5)), (u24.1, .inl (u24.2, 25, .inl (fL (wayC k0)))), (q42, .inl (cy43, 1, .inr (.inl (fun _ => 0))))] H := hP
        have hD : va_D A [(l1, .inr (5, [.int 1, .ref (D.1 1000), .int 0])), (q18, .inl (cy20, 1, .inr (.inr (.inr (.inr (fun i => if i < 1 then some q19 else none)))))), (q19, .inl (cy21, 1, .inr (.inl (vp_updL (fun _ => 0) ((0 : Int32).toNatClampNeg) x34)))), (mo, .inr (16, [.int 5, .int 5, .int th, .ref m1, .ref m2, .ref m3, .ref m4, .ref m5, .ref l1, .ref l2, .ref l3, .int (-1), .ref l4])), (m1, .inl (cm1, 25, .inl (fun _ => 0))), (m2, .inl (cm2, 25, .inl (fun _ => 0))), (m3, .inl (cm3, 25, .inl (fun _ => 0))), (m4, .inl (cm4, 25, .inl fK5)), (m5, .inl (cm5, 25, .inl fK5)), (u24.1, .inl (u24.2, 25, .inl (fL (wayC k0)))), (q42, .inl (cy43, 1, .inr (.inl (fun _ => 0))))] := hD
        refine W.widen (k := 4) (n := 28) (Nat.le_of_ble_eq_true rfl) (Nat.le_of_ble_eq_true rfl) ?_
        refine lv_astore (lv' := [(6, .ref q42), (8, .int 1), (9, .int 0), (7, .ref u24.1), (5, .ref q18), (4, .int 0), (0, .ref mo), (1, .int (nI k0)), (2, .int p1), (3, .int p2)]) hx hb dX9_score_205 hl (by decide) rfl (fun ls hl => ?_)
        refine lv_aload hx hb dX9_score_207 (lv_at hl 0 rfl) ?_
        refine lv_ldc2 hx hb hown hw_26 dX9_score_209 ?_
        refine mc_v (wr := [(l1, .inr (5, [.int 1, .ref (D.1 1000), .int 0])), (q18, .inl (cy20, 1, .inr (.inr (.inr (.inr (fun i => if i < 1 then some q19 else none)))))), (q19, .inl (cy21, 1, .inr (.inl (vp_updL (fun _ => 0) ((0 : Int32).toNatClampNeg) x34)))), (mo, .inr (16, [.int 5, .int 5, .int th, .ref m1, .ref m2, .ref m3, .ref m4, .ref m5, .ref l1, .ref l2, .ref l3, .int (-1), .ref l4])), (m1, .inl (cm1, 25, .inl (fun _ => 0))), (m2, .inl (cm2, 25, .inl (fun _ => 0))), (m3, .inl (cm3, 25, .inl (fun _ => 0))), (m4, .inl (cm4, 25, .inl fK5)), (m5, .inl (cm5, 25, .inl fK5)), (u24.1, .inl (u24.2, 25, .inl (fL (wayC k0))))]) (va_runS (As := [.ref q42, .long 9223372036854775807]) (rest := []) ⟨hx, hb, hml, hown, hts⟩ (c_fillL l hst D q42 cy43 1 (fun _ => 0) 9223372036854775807 H.size (by decide)) (va_cwS 2 hts (gi_c (List.mem_cons_of_mem _ (List.mem_append_left _ (List.mem_of_getElem? (i := 27) rfl))) rfl (gi_c (List.mem_cons_of_mem _ (List.mem_append_left _ (List.mem_of_getElem? (i := 28) rfl))) rfl (gi_c (List.mem_cons_of_mem _ (List.mem_append_left _ (List.mem_of_getElem? (i := 29) rfl))) rfl (goodIn_sub hb_6 (List.all_eq_true.mpr gw_c_fillL))))) rfl rfl rfl (by decide +kernel) ⟨Nat.le_of_ble_eq_true rfl, Nat.le_of_ble_eq_true rfl⟩) (pr_S (As := [.ref q42, .long 9223372036854775807]) hP hD hK hS hA hE [10] [8] rfl rfl rfl) rfl rfl hl.1 rfl (lv_room (Nat.le_of_ble_eq_true rfl)) dX9_score_212 ⟨Nat.le_of_ble_eq_true rfl, Nat.le_of_ble_eq_true rfl⟩) hP hD hK hS hA [10] [0, 1, 2, 3, 4, 5, 6, 7, 8, 9] rfl rfl (by decide) (by decide) (fun _ H locs w44 hP hD hK hS => ?_)
        have hP : va_P D vwCl [(l1, .inr (5, [.int 1, .ref (D.1 1000), .int 0])), (q18, .inl (cy20, 1, .inr (.inr (.inr (.inr (fun i => if i < 1 then some q19 else none)))))), (q19, .inl (cy21, 1, .inr (.inl (vp_updL (fun _ => 0) ((0 : Int32).toNatClampNeg) x34)))), (mo, .inr (16, [.int 5, .int 5, .int th, .ref m1, .ref m2, .ref m3, .ref m4, .ref m5, .ref l1, .ref l2, .ref l3, .int (-1), .ref l4])), (m1, .inl (cm1, 25, .inl (fun _ => 0))), (m2, .inl (cm2, 25, .inl (fun _ => 0))), (m3, .inl (cm3, 25, .inl (fun _ => 0))), (m4, .inl (cm4, 25, .inl fK5)), (m5, .inl (cm5, 25, .inl fK5)), (u24.1, .inl (u24.2, 25, .inl (fL (wayC k0)))), (q42, .inl (cy43, 1, .inr (.inl (fa_fill (fun _ => 9223372036854775807) (fun _ => 0) 1))))] H := hP
        have hD : va_D A [(l1, .inr (5, [.int 1, .ref (D.1 1000), .int 0])), (q18, .inl (cy20, 1, .inr (.inr (.inr (.inr (fun i => if i < 1 then some q19 else none)))))), (q19, .inl (cy21, 1, .inr (.inl (vp_updL (fun _ => 0) ((0 : Int32).toNatClampNeg) x34)))), (mo, .inr (16, [.int 5, .int 5, .int th, .ref m1, .ref m2, .ref m3, .ref m4, .ref m5, .ref l1, .ref l2, .ref l3, .int (-1), .ref l4])), (m1, .inl (cm1, 25, .inl (fun _ => 0))), (m2, .inl (cm2, 25, .inl (fun _ => 0))), (m3, .inl (cm3, 25, .inl (fun _ => 0))), (m4, .inl (cm4, 25, .inl fK5)), (m5, .inl (cm5, 25, .inl fK5)), (u24.1, .inl (u24.2, 25, .inl (fL (wayC k0)))), (q42, .inl (cy43, 1, .inr (.inl (fa_fill (fun _ => 9223372036854775807) (fun _ => 0) 1))))] := hD
        have hK : va_K D vwCl [(cm1, .int), (cm2, .int), (cm3, .int), (cm4, .char), (cm5, .char), (cy20, .array .long), (cy21, .long), (u24.2, .int), (cy43, .long)] s := hK
        refine lv_iconst (v := 0) hx hb dX9_score_215 (by decide) ?_
        refine lv_istore (lv' := [(7, .int 0), (6, .ref q42), (8, .int 1), (9, .int 0), (5, .ref q18), (4, .int 0), (0, .ref mo), (1, .int (nI k0)), (2, .int p1), (3, .int p2)]) hx hb dX9_score_216 hl (by decide) rfl (fun ls hl => ?_)
        refine lv_iconst (v := 1) hx hb dX9_score_218 (by decide) ?_
        refine lv_istore (lv' := [(8, .int 1), (7, .int 0), (6, .ref q42), (9, .int 0), (5, .ref q18), (4, .int 0), (0, .ref mo), (1, .int (nI k0)), (2, .int p1), (3, .int p2)]) hx hb dX9_score_219 hl (by decide) rfl (fun ls hl => ?_)
        refine lv_iload hx hb dX9_score_221 (lv_at hl 0 rfl) ?_
        refine lv_iconst (v := 1) hx hb dX9_score_223 (by decide) ?_
        refine lv_iload hx hb dX9_score_224 (lv_at hl 5 rfl) ?_
        refine lv_ishl hx hb dX9_score_226 ?_
        refine lv_topi (fun x46 e46 => ?_)
        obtain rfl : x46 = 1 := e46.trans (by decide)
        refine lv_icmp_ge (tgt := 517) hx hb dX9_score_227 (by decide) (fun h47 => ?_) (fun h47 => absurd (by decide) h47)
        refine lv_aload_n hx hb dX9_score_517 rfl (lv_at hl 6 rfl) ?_
        refine lv_iload hx hb dX9_score_518 (lv_at hl 1 rfl) ?_
        refine mc_i (wr := [(l1, .inr (5, [.int 1, .ref (D.1 1000), .int 0])), (q18, .inl (cy20, 1, .inr (.inr (.inr (.inr (fun i => if i < 1 then some q19 else none)))))), (q19, .inl (cy21, 1, .inr (.inl (vp_updL (fun _ => 0) ((0 : Int32).toNatClampNeg) x34)))), (m1, .inl (cm1, 25, .inl (fun _ => 0))), (m2, .inl (cm2, 25, .inl (fun _ => 0))), (m3, .inl (cm3, 25, .inl (fun _ => 0))), (m4, .inl (cm4, 25, .inl fK5)), (m5, .inl (cm5, 25, .inl fK5)), (u24.1, .inl (u24.2, 25, .inl (fL (wayC k0)))), (q42, .inl (cy43, 1, .inr (.inl (fa_fill (fun _ => 9223372036854775807) (fun _ => 0) 1))))]) (va_runV (As := [.int 0]) (rest := []) ⟨hx, hb, hml, hown, hts⟩ (c_tells l hst D mo 5 5 th m1 m2 m3 m4 m5 l1 l2 l3 (-1) l4 0 H.size) (cwV 1 hts (gi_c (List.mem_cons_of_mem _ (List.mem_append_left _ (List.mem_of_getElem? (i := 30) rfl))) rfl (gi_c (List.mem_cons_of_mem _ (List.mem_append_left _ (List.mem_of_getElem? (i := 31) rfl))) rfl (gi_c (List.mem_cons_of_mem _ (List.mem_append_left _ (List.mem_of_getElem? (i := 32) rfl))) rfl (gi_c (List.mem_cons_of_mem _ (List.mem_append_left _ (List.mem_of_getElem? (i := 3) rfl))) rfl (goodIn_sub hb_7 (List.all_eq_true.mpr gw_c_tells)))))) rfl rfl rfl (by decide +kernel) ⟨Nat.le_of_ble_eq_true rfl, Nat.le_of_ble_eq_true rfl⟩) (pr_V (As := [.int 0]) (b := mo) (C := RX9) hP hD hK hS hA hE [3] [] rfl rfl rfl 3 16 rfl rfl rfl) rfl rfl hl.1 rfl (lv_room (Nat.le_of_ble_eq_true rfl)) dX9_score_520 ⟨Nat.le_of_ble_eq_true rfl, Nat.le_of_ble_eq_true rfl⟩) hP hD hK hS hA [3] [0, 1, 2, 4, 5, 6, 7, 8, 9, 10] rfl rfl (by decide) (by decide) (fun r49 _ H locs w48 hP hD hK hS => ?_)
        have hP : va_P D vwCl [(l1, .inr (5, [.int 1, .ref (D.1 1000), .int 0])), (q18, .inl (cy20, 1, .inr (.inr (.inr (.inr (fun i => if i < 1 then some q19 else none)))))), (q19, .inl (cy21, 1, .inr (.inl (vp_updL (fun _ => 0) ((0 : Int32).toNatClampNeg) x34)))), (m1, .inl (cm1, 25, .inl (fun _ => 0))), (m2, .inl (cm2, 25, .inl (fun _ => 0))), (m3, .inl (cm3, 25, .inl (fun _ => 0))), (m4, .inl (cm4, 25, .inl fK5)), (m5, .inl (cm5, 25, .inl fK5)), (u24.1, .inl (u24.2, 25, .inl (fL (wayC k0)))), (q42, .inl (cy43, 1, .inr (.inl (fa_fill (fun _ => 9223372036854775807) (fun _ => 0) 1)))), (mo, .inr (16, [.int 5, .int 5, .int 0, .ref m1, .ref m2, .ref m3, .ref m4, .ref m5, .ref l1, .ref l2, .ref l3, .int (-1), .ref l4]))] H := hP
        have hD : va_D A [(l1, .inr (5, [.int 1, .ref (D.1 1000), .int 0])), (q18, .inl (cy20, 1, .inr (.inr (.inr (.inr (fun i => if i < 1 then some q19 else none)))))), (q19, .inl (cy21, 1, .inr (.inl (vp_updL (fun _ => 0) ((0 : Int32).toNatClampNeg) x34)))), (m1, .inl (cm1, 25, .inl (fun _ => 0))), (m2, .inl (cm2, 25, .inl (fun _ => 0))), (m3, .inl (cm3, 25, .inl (fun _ => 0))), (m4, .inl (cm4, 25, .inl fK5)), (m5, .inl (cm5, 25, .inl fK5)), (u24.1, .inl (u24.2, 25, .inl (fL (wayC k0)))), (q42, .inl (cy43, 1, .inr (.inl (fa_fill (fun _ => 9223372036854775807) (fun _ => 0) 1)))), (mo, .inr (16, [.int 5, .int 5, .int 0, .ref m1, .ref m2, .ref m3, .ref m4, .ref m5, .ref l1, .ref l2, .ref l3, .int (-1), .ref l4]))] := hD
        have hK : va_K D vwCl [(cm1, .int), (cm2, .int), (cm3, .int), (cm4, .char), (cm5, .char), (cy20, .array .long), (cy21, .long), (u24.2, .int), (cy43, .long)] s := hK
        obtain rfl : r49 = 0 := w48
        exact mr_i hx hb hr (0, fun k9 => [m1, m2, m3, m4, m5, l1, l2, l3, l4].getD k9 0, fun k9 => [5, 5, -1].getD k9 0) (⟨((if_pos (ite01_1 h3)).trans ((if_pos (ite01_1 h7)).trans (if_pos (ite01_1 h13)))).symm, fun _ => rfl⟩) (hP.sub [10] rfl) (hK.sub [] rfl) (hD.sub [10] (by decide) rfl) hS (Nat.le_of_ble_eq_true rfl) (Nat.le_of_ble_eq_true rfl) hlocks dX9_score_523
      · refine lv_aload_n hx hb dX9_score_38 rfl (lv_at hl 0 rfl) ?_
        refine lv_iconst (v := 2) hx hb dX9_score_39 (by decide) ?_
        refine mc_i (wr := [(m2, .inl (cm2, 25, .inl (fun _ => 0))), (m3, .inl (cm3, 25, .inl (fun _ => 0))), (m4, .inl (cm4, 25, .inl fK5)), (m5, .inl (cm5, 25, .inl fK5)), (l1, .inr (5, [.int 1, .ref (D.1 1000), .int 0])), (m1, .inl (cm1, 25, .inl (fun _ => 0)))]) (va_runV (As := [.int 2]) (rest := []) ⟨hx, hb, hml, hown, hts⟩ (c_fails l hst D mo 5 5 th m1 m2 m3 m4 m5 l1 l2 l3 (-1) l4 2 H.size) (cwV 1 hts (gi_c (List.mem_cons_of_mem _ (List.mem_append_left _ (List.mem_of_getElem? (i := 7) rfl))) rfl (gi_c (List.mem_cons_of_mem _ (List.mem_append_left _ (List.mem_of_getElem? (i := 8) rfl))) rfl (gi_c (List.mem_cons_of_mem _ (List.mem_append_left _ (List.mem_of_getElem? (i := 9) rfl))) rfl (gi_c (List.mem_cons_of_mem _ (List.mem_append_left _ (List.mem_of_getElem? (i := 3) rfl))) rfl (goodIn_sub hb_2 (List.all_eq_true.mpr gw_c_fails)))))) rfl rfl rfl (by decide +kernel) ⟨Nat.le_of_ble_eq_true rfl, Nat.le_of_ble_eq_true rfl⟩) (pr_V (As := [.int 2]) (b := mo) (C := RX9) hP hD hK hS hA hE [5] [] rfl rfl rfl 5 16 rfl rfl rfl) rfl rfl hl.1 rfl (lv_room (Nat.le_of_ble_eq_true rfl)) dX9_score_40 ⟨Nat.le_of_ble_eq_true rfl, Nat.le_of_ble_eq_true rfl⟩) hP hD hK hS hA [5] [0, 1, 2, 3, 4, 6] rfl rfl (by decide) (by decide) (fun r51 _ H locs w50 hP hD hK hS => ?_)
        have hP : va_P D vwCl [(m2, .inl (cm2, 25, .inl (fun _ => 0))), (m3, .inl (cm3, 25, .inl (fun _ => 0))), (m4, .inl (cm4, 25, .inl fK5)), (m5, .inl (cm5, 25, .inl fK5)), (l1, .inr (5, [.int 1, .ref (D.1 1000), .int 0])), (m1, .inl (cm1, 25, .inl (fun _ => 0))), (mo, .inr (16, [.int 5, .int 5, .int 2, .ref m1, .ref m2, .ref m3, .ref m4, .ref m5, .ref l1, .ref l2, .ref l3, .int (-1), .ref l4]))] H := hP
        have hD : va_D A [(m2, .inl (cm2, 25, .inl (fun _ => 0))), (m3, .inl (cm3, 25, .inl (fun _ => 0))), (m4, .inl (cm4, 25, .inl fK5)), (m5, .inl (cm5, 25, .inl fK5)), (l1, .inr (5, [.int 1, .ref (D.1 1000), .int 0])), (m1, .inl (cm1, 25, .inl (fun _ => 0))), (mo, .inr (16, [.int 5, .int 5, .int 2, .ref m1, .ref m2, .ref m3, .ref m4, .ref m5, .ref l1, .ref l2, .ref l3, .int (-1), .ref l4]))] := hD
        have hK : va_K D vwCl [(cm1, .int), (cm2, .int), (cm3, .int), (cm4, .char), (cm5, .char)] s := hK
        obtain rfl : r51 = 0 := w50
        exact mr_i hx hb hr (2, fun k9 => [m1, m2, m3, m4, m5, l1, l2, l3, l4].getD k9 0, fun k9 => [5, 5, -1].getD k9 0) (⟨((if_pos (ite01_1 h3)).trans ((if_pos (ite01_1 h7)).trans (if_neg (ite01_0 h13)))).symm, fun q9 => absurd (((if_pos (ite01_1 h3)).trans ((if_pos (ite01_1 h7)).trans (if_neg (ite01_0 h13)))).symm.trans q9) (by decide)⟩) (hP.sub [6] rfl) (hK.sub [] rfl) (hD.sub [6] (by decide) rfl) hS (Nat.le_of_ble_eq_true rfl) (Nat.le_of_ble_eq_true rfl) hlocks dX9_score_43
  · refine lv_aload_n hx hb dX9_score_8 rfl (lv_at hl 0 rfl) ?_
    refine lv_iconst (v := 1) hx hb dX9_score_9 (by decide) ?_
    refine mc_i (wr := [(m2, .inl (cm2, 25, .inl (fun _ => 0))), (m3, .inl (cm3, 25, .inl (fun _ => 0))), (m4, .inl (cm4, 25, .inl fK5)), (m5, .inl (cm5, 25, .inl fK5)), (l1, .inr (5, [.int 1, .ref (D.1 1000), .int 0])), (m1, .inl (cm1, 25, .inl (fun _ => 0)))]) (va_runV (As := [.int 1]) (rest := []) ⟨hx, hb, hml, hown, hts⟩ (c_fails l hst D mo 5 5 th m1 m2 m3 m4 m5 l1 l2 l3 (-1) l4 1 H.size) (cwV 1 hts (gi_c (List.mem_cons_of_mem _ (List.mem_append_left _ (List.mem_of_getElem? (i := 7) rfl))) rfl (gi_c (List.mem_cons_of_mem _ (List.mem_append_left _ (List.mem_of_getElem? (i := 8) rfl))) rfl (gi_c (List.mem_cons_of_mem _ (List.mem_append_left _ (List.mem_of_getElem? (i := 9) rfl))) rfl (gi_c (List.mem_cons_of_mem _ (List.mem_append_left _ (List.mem_of_getElem? (i := 3) rfl))) rfl (goodIn_sub hb_2 (List.all_eq_true.mpr gw_c_fails)))))) rfl rfl rfl (by decide +kernel) ⟨Nat.le_of_ble_eq_true rfl, Nat.le_of_ble_eq_true rfl⟩) (pr_V (As := [.int 1]) (b := mo) (C := RX9) hP hD hK hS hA hE [5] [] rfl rfl rfl 5 16 rfl rfl rfl) rfl rfl hl.1 rfl (lv_room (Nat.le_of_ble_eq_true rfl)) dX9_score_10 ⟨Nat.le_of_ble_eq_true rfl, Nat.le_of_ble_eq_true rfl⟩) hP hD hK hS hA [5] [0, 1, 2, 3, 4, 6] rfl rfl (by decide) (by decide) (fun r53 _ H locs w52 hP hD hK hS => ?_)
    have hP : va_P D vwCl [(m2, .inl (cm2, 25, .inl (fun _ => 0))), (m3, .inl (cm3, 25, .inl (fun _ => 0))), (m4, .inl (cm4, 25, .inl fK5)), (m5, .inl (cm5, 25, .inl fK5)), (l1, .inr (5, [.int 1, .ref (D.1 1000), .int 0])), (m1, .inl (cm1, 25, .inl (fun _ => 0))), (mo, .inr (16, [.int 5, .int 5, .int 1, .ref m1, .ref m2, .ref m3, .ref m4, .ref m5, .ref l1, .ref l2, .ref l3, .int (-1), .ref l4]))] H := hP
    have hD : va_D A [(m2, .inl (cm2, 25, .inl (fun _ => 0))), (m3, .inl (cm3, 25, .inl (fun _ => 0))), (m4, .inl (cm4, 25, .inl fK5)), (m5, .inl (cm5, 25, .inl fK5)), (l1, .inr (5, [.int 1, .ref (D.1 1000), .int 0])), (m1, .inl (cm1, 25, .inl (fun _ => 0))), (mo, .inr (16, [.int 5, .int 5, .int 1, .ref m1, .ref m2, .ref m3, .ref m4, .ref m5, .ref l1, .ref l2, .ref l3, .int (-1), .ref l4]))] := hD
    have hK : va_K D vwCl [(cm1, .int), (cm2, .int), (cm3, .int), (cm4, .char), (cm5, .char)] s := hK
    obtain rfl : r53 = 0 := w52
    exact mr_i hx hb hr (1, fun k9 => [m1, m2, m3, m4, m5, l1, l2, l3, l4].getD k9 0, fun k9 => [5, 5, -1].getD k9 0) (⟨(if_neg (ite01_0 h3)).symm, fun q9 => absurd ((if_neg (ite01_0 h3)).symm.trans q9) (by decide)⟩) (hP.sub [6] rfl) (hK.sub [] rfl) (hD.sub [6] (by decide) rfl) hS (Nat.le_of_ble_eq_true rfl) (Nat.le_of_ble_eq_true rfl) hlocks dX9_score_13
