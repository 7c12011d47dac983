/-! the reference's ways, as plain functions of lists -/
def abE (x : Int32) : Int32 := if 0 ≤ x then x else 0 - x
def abF (a b : Int32) : Int32 := if abE ((a - a / 5 * 5) - (b - b / 5 * 5)) + abE (a / 5 - b / 5) = 1 then 1 else 0
def bsN (ce : Int32) (way : Nat) : Int32 := if way = 0 then ce - 5 else if way = 1 then ce - 1 else if way = 2 then ce + 1 else ce + 5
def bsF (ce : Int32) (way : Nat) : Int32 := if inI (bsN ce way) 25 then (if abF ce (bsN ce way) = 0 then -1 else bsN ce way) else -1
theorem bsF_all : ∀ ce < 25, ∀ way < 4, bsF (nI ce) way = optI (beM ce way) := by decide +kernel
/-- one way of one cell -/
def ctS (c : List Nat) (m ce way : Nat) : List Nat × Nat := match beM ce way with
  | none => (c, m)
  | some n => if c.getD n 0 = 1000000000 then (c, m) else if c.getD n 0 + 10 < c.getD ce 0 then (c.set ce (c.getD n 0 + 10), 1) else (c, m)
def ciM : Nat → List Nat × Nat → Nat → List Nat × Nat
  | 0, s, _ => s
  | n + 1, s, ce => ciM n (ctS s.1 s.2 ce (3 - n)) ce
def coM : Nat → List Nat × Nat → List Nat × Nat
  | 0, s => s
  | n + 1, s => coM n (ciM 4 s (24 - n))
def ctR : Nat → List Nat × Nat → List Nat
  | 0, s => s.1
  | n + 1, s => if s.2 = 0 then s.1 else ctR n (coM 25 (s.1, 0))
def ctOK : Nat → List Nat × Nat → Bool
  | 0, s => decide (s.2 = 0)
  | n + 1, s => decide (s.2 = 0) || ctOK n (coM 25 (s.1, 0))
def ct0 (to : Nat) : List Nat := (List.replicate 25 1000000000).set to 0
def wayC (to : Nat) : List Nat := (List.range 25).map (dis to)
set_option maxRecDepth 100000 in
theorem ct_all : ∀ to < 25, ctR 12 (ct0 to, 1) = wayC to := by decide +kernel
set_option maxRecDepth 100000 in
theorem ct_ok : ∀ to < 25, ctOK 12 (ct0 to, 1) = true := by decide +kernel
theorem wayC_at (t j : Nat) (h : j < 25) : (wayC t).getD j 0 = dis t j := by
  unfold wayC
  rw [List.getD_eq_getElem?_getD, List.getElem?_map, List.getElem?_range h]
  rfl
/-- costs in order -/
def okC (c : List Nat) : Prop := c.length = 25 ∧ ∀ i, c.getD i 0 ≤ 1000000000
theorem okC_S {c : List Nat} {m ce way : Nat} (ok : okC c) : okC (ctS c m ce way).1 := by
  unfold ctS
  split
  · exact ok
  · rename_i n _
    split
    · exact ok
    · split
      · rename_i h
        refine ⟨by simpa using ok.1, getD_set_le (Nat.le_trans (Nat.le_of_lt h) (ok.2 ce)) ok.2⟩
      · exact ok
theorem okC_i {ce : Nat} : ∀ (n : Nat) {s : List Nat × Nat}, okC s.1 → okC (ciM n s ce).1
  | 0, _, h => h
  | n + 1, _, h => okC_i n (okC_S h)
theorem okC_o : ∀ (n : Nat) {s : List Nat × Nat}, okC s.1 → okC (coM n s).1
  | 0, _, h => h
  | n + 1, _, h => okC_o n (okC_i 4 h)
theorem okC_0 (to : Nat) : okC (ct0 to) := ⟨by simp [ct0], getD_set_le (Nat.zero_le _) (fun i => by rw [getD_rep]; split <;> omega)⟩
theorem okC_way (to : Nat) (h : to < 25) : okC (wayC to) := ⟨by simp [wayC], fun i => by
  by_cases g : i < 25
  · rw [wayC_at to i g]
    have := dis_le to h i g
    omega
  · rw [List.getD_eq_getElem?_getD, List.getElem?_eq_none (by simp [wayC]; omega)]
    exact Nat.zero_le _⟩
theorem ctS_none {c : List Nat} {m ce way : Nat} (h : beM ce way = none) : ctS c m ce way = (c, m) := by unfold ctS; rw [h]
theorem ctS_far {c : List Nat} {m ce way n : Nat} (h : beM ce way = some n) (h2 : c.getD n 0 = 1000000000) : ctS c m ce way = (c, m) := by unfold ctS; rw [h]; exact if_pos h2
theorem ctS_lt {c : List Nat} {m ce way n : Nat} (h : beM ce way = some n) (h2 : ¬ c.getD n 0 = 1000000000) (h3 : c.getD n 0 + 10 < c.getD ce 0) : ctS c m ce way = (c.set ce (c.getD n 0 + 10), 1) := by
  unfold ctS
  rw [h]
  exact (if_neg h2).trans (if_pos h3)
theorem ctS_ge {c : List Nat} {m ce way n : Nat} (h : beM ce way = some n) (h2 : ¬ c.getD n 0 = 1000000000) (h3 : ¬ c.getD n 0 + 10 < c.getD ce 0) : ctS c m ce way = (c, m) := by
  unfold ctS
  rw [h]
  exact (if_neg h2).trans (if_neg h3)
theorem ct_stop {n : Nat} {s : List Nat × Nat} (h : s.2 = 0) : ctR n s = s.1 := by cases n with
  | zero => rfl
  | succ n => rw [ctR, if_pos h]
theorem ct_go {n : Nat} {s : List Nat × Nat} (h : ¬ s.2 = 0) : ctR (n + 1) s = ctR n (coM 25 (s.1, 0)) := by rw [ctR, if_neg h]
theorem ctOK_go {n : Nat} {s : List Nat × Nat} (h : ¬ s.2 = 0) (k : ctOK (n + 1) s = true) : ctOK n (coM 25 (s.1, 0)) = true := by
  rw [ctOK, decide_eq_false h, Bool.false_or] at k
  exact k
/-- the first of the cells beside on a best way, by sides that were looked at -/
def nxG : Nat → List Nat → Nat → Option Nat
  | 0, _, _ => none
  | n + 1, w, ce => match nxG n w ce with
    | some x => some x
    | none => match beM ce n with
      | none => none
      | some x => if w.getD x 0 = 1000000000 then none else if w.getD ce 0 = w.getD x 0 + 10 then some x else none
def mmM : Nat → List Nat → Nat → Nat → Nat → Nat
  | 0, _, _, _, su => su
  | n + 1, w, ce, to, su => if ce = to then su else match nxG 4 w ce with
    | none => su
    | some x => mmM n w x to (su + 10)
def mmOK : Nat → List Nat → Nat → Nat → Bool
  | 0, _, ce, to => decide (ce = to)
  | n + 1, w, ce, to => decide (ce = to) || (match nxG 4 w ce with
    | none => false
    | some x => mmOK n w x to)
set_option maxRecDepth 100000 in
theorem mm_all : ∀ t < 25, ∀ f < 25, mmM 10 (wayC t) f t 0 = dis t f := by decide +kernel
set_option maxRecDepth 100000 in
theorem mm_ok : ∀ t < 25, ∀ f < 25, mmOK 10 (wayC t) f t = true := by decide +kernel
theorem nxG_le {ce x : Nat} (hc : ce ≤ 24) : ∀ {n : Nat} {w : List Nat}, nxG n w ce = some x → x ≤ 24
  | 0, _, h => by cases h
  | n + 1, w, h => by
    rw [nxG] at h
    split at h
    · rename_i y hy
      cases h
      exact nxG_le hc hy
    · split at h
      · cases h
      · rename_i y hy
        split at h
        · cases h
        · split at h
          · cases h
            exact beM_le hc hy
          · cases h
theorem nxG_have {n : Nat} {w : List Nat} {ce x : Nat} (h : nxG n w ce = some x) : nxG (n + 1) w ce = some x := by rw [nxG, h]
theorem nxG_none {n : Nat} {w : List Nat} {ce : Nat} (h : nxG n w ce = none) (h2 : beM ce n = none) : nxG (n + 1) w ce = none := by rw [nxG, h, h2]
theorem nxG_far {n : Nat} {w : List Nat} {ce x : Nat} (h : nxG n w ce = none) (h2 : beM ce n = some x) (h3 : w.getD x 0 = 1000000000) : nxG (n + 1) w ce = none := by
  rw [nxG, h, h2]
  exact if_pos h3
theorem nxG_yes {n : Nat} {w : List Nat} {ce x : Nat} (h : nxG n w ce = none) (h2 : beM ce n = some x) (h3 : ¬ w.getD x 0 = 1000000000) (h4 : w.getD ce 0 = w.getD x 0 + 10) : nxG (n + 1) w ce = some x := by
  rw [nxG, h, h2]
  exact (if_neg h3).trans (if_pos h4)
theorem nxG_no {n : Nat} {w : List Nat} {ce x : Nat} (h : nxG n w ce = none) (h2 : beM ce n = some x) (h3 : ¬ w.getD x 0 = 1000000000) (h4 : ¬ w.getD ce 0 = w.getD x 0 + 10) : nxG (n + 1) w ce = none := by
  rw [nxG, h, h2]
  exact (if_neg h3).trans (if_neg h4)
theorem mm_eq {n : Nat} {w : List Nat} {ce to su : Nat} (h : ce = to) : mmM n w ce to su = su := by cases n with
  | zero => rfl
  | succ n => rw [mmM, if_pos h]
theorem mm_go {n : Nat} {w : List Nat} {ce to su x : Nat} (h : ¬ ce = to) (h2 : nxG 4 w ce = some x) : mmM (n + 1) w ce to su = mmM n w x to (su + 10) := by rw [mmM, if_neg h, h2]
theorem mmOK_go {n : Nat} {w : List Nat} {ce to : Nat} (h : ¬ ce = to) (k : mmOK (n + 1) w ce to = true) : ∃ x, nxG 4 w ce = some x ∧ mmOK n w x to = true := by
  rw [mmOK, decide_eq_false h, Bool.false_or] at k
  split at k
  · cases k
  · rename_i x hx
    exact ⟨x, hx, k⟩
