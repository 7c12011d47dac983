/-! System.arraycopy of nothing, out of an empty static array -/
section CPE
variable {p : Program} {l : Launch} {e : Env} {R : Room} {s : State} {m : MethodId} {args : Array Value} {below : List Frame} {meth : Method} {c : Code} {H : Heap} {locs : List Loc} {cells slots : Nat} {Q : State → Prop}
variable {cc : ByteArray} {pc : Nat} {ls : Array Slot} {rest : List Value} {D : va_G} {cl : List vw_C} {A : Nat → Prop} {a : Nat} {tys : List (ClassId × FieldType)} {ws : va_W}
theorem va_copyE (hexec : p.tables.exec = Jvm.exec) (hb : c.code = cc) (hml : c.maxLocals = ls.size) {own : String} {index : Nat} (hown : s.vm.findClass own = some m.cls) (hlink : (Cond.methodLink own index arraycopyName).before args s = true) (hnat : (Cond.native arraycopyName).before args s = true) (hstat : (Cond.static arraycopyName).before args s = true) (hini : (Cond.initialized "java/lang/System").before args s = true)
    (hK : va_K D cl tys s) (hP : va_P D cl ws H) (hS : va_S A s.heap H locs) (q1 t1 : Nat) {c1 : ClassId} {g : Nat → Option Nat} (ha1 : ws[q1]? = some (a, .inl (c1, 0, .inr (.inr (.inr (.inr g)))))) (ht1 : tys[t1]? = some (c1, .object "java/lang/Object")) {t0 : Nat} (hT : va_T (.object "java/lang/Object") t0 0 (fun _ => .null) A s s.heap) (hc4 : ∃ ce : Cell, s.heap[t0]? = some ce ∧ ce.vm.isStatics = false ∧ s.vm.findClass "[Ljava/lang/Object;" = some ce.cls ∧ ¬ A t0)
    (hframes : 1 ≤ R.frames) (hlocals : (rest.map fun v => v.category).sum + (nativeFrameWords "java/lang/System" "arraycopy" 5 + 11) ≤ R.locals) (hdg : decode cc pc = .ok (.invokestatic index, 3))
    (kk : W p l e R s m args below meth c H locs cells slots Q (F0 m (pc + 3) ls rest)) : W p l e R s m args below meth c H locs cells slots Q (F0 m pc ls (.int 0 :: .int 0 :: .ref a :: .int 0 :: .ref t0 :: rest)) := by
  intro T hT0 X
  obtain ⟨ce, g1, g2, g3, g4⟩ := hc4
  have g1' : H[t0]? = some ce := (hS.2.1 t0 (Array.getElem?_eq_some_iff.mp g1).1 g4).trans g1
  obtain ⟨ce2, e1, e2, e3, e4, e5, e6, e7⟩ := hT
  cases g1.symm.trans e1
  obtain ⟨kA, comp, r1, r2, r3, r4⟩ := (hK.2 t1 _ ht1).2
  have ec : ce.cls = c1 := Option.some.inj (g3.symm.trans (show s.vm.findClass "[Ljava/lang/Object;" = some c1 from r4))
  have hc1 : H[a]? = some (vp_cell c1 (0, .inr (.inr (.inr (.inr g))))) := hP q1 _ ha1
  obtain ⟨vm', X', step⟩ := X.arraycopy hexec hown hlink hnat hstat hini (src := t0) (dst := a) (cs := ce) (cd := vp_cell c1 (0, .inr (.inr (.inr (.inr g))))) (srcPos := 0) (destPos := 0) (n := 0) (by rw [hT0]; exact g1') (by rw [hT0]; exact hc1)
    (fun k h => by rw [h] at g2; cases g2) (fun _ h => by cases h) e3 (fun h => by cases h) (by rw [ec]; exact r1) r1 r2 r2 rfl (by decide) (by decide) (by decide)
    (by show ¬ (0 : Int) > _; omega) (by show ¬ (0 : Int) > _; omega)
    (fun vm₁ hal i hi => absurd hi (Nat.not_lt_zero i))
    (g := F0 m pc ls (.int 0 :: .int 0 :: .ref a :: .int 0 :: .ref t0 :: rest)) rfl (by rw [hml]) (rest := rest) rfl (by rw [hb]; exact hdg) hframes (by show 2 * 0 + _ + _ ≤ _; omega)
  have hl : a < H.size := (Array.getElem?_eq_some_iff.mp hc1).1
  have hcp : copied ce (vp_cell c1 (0, .inr (.inr (.inr (.inr g))))) 0 0 0 = vp_cell c1 (0, .inr (.inr (.inr (.inr g)))) := rfl
  rw [hcp] at X' step
  have hheap : ((T.setVm vm').setCell a (vp_cell c1 (0, .inr (.inr (.inr (.inr g)))))).heap = H := by
    show T.heap.setIfInBounds a _ = H
    rw [hT0]
    refine Array.ext_getElem? fun q => ?_
    by_cases hq : q = a
    · subst hq
      exact (show (H.setIfInBounds q (vp_cell c1 (0, .inr (.inr (.inr (.inr g))))))[q]? = some (vp_cell c1 (0, .inr (.inr (.inr (.inr g))))) by simp [Array.getElem?_setIfInBounds, hl]).trans hc1.symm
    · simp [Array.getElem?_setIfInBounds, Ne.symm hq]
  have X2 : Stand p l e R s m args below meth c ((T.setVm vm').setCell a (vp_cell c1 (0, .inr (.inr (.inr (.inr g)))))) locs cells slots := by
    have h : locs ++ (ce.stretch (0 : Int32).toNatClampNeg (0 : Int32).toNatClampNeg).zipIdx.map (fun q => (⟨a, (0 : Int32).toNatClampNeg + q.2⟩ : Loc)) = locs := by
      have h2 : ce.stretch (0 : Int32).toNatClampNeg (0 : Int32).toNatClampNeg = [] := rfl
      rw [h2]
      simp
    rw [h] at X'
    exact X'
  obtain ⟨t, a1, b1⟩ := kk _ hheap X2
  exact ⟨t, step t a1, b1⟩
end CPE
