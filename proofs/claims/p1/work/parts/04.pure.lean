/-! the land of a new object, 5 by 5, and what ways cost on it: the class's search as a plain function of lists -/
def fL (L : List Nat) : Nat → Int32 := fun j => nI (L.getD j 0)
theorem fL_at {L : List Nat} {k : Nat} (h : k < 2 ^ 31) : fL L (nI k).toNatClampNeg = nI (L.getD k 0) := by rw [nI_clamp h]; rfl
theorem fL_up {L : List Nat} {k v : Nat} (h : k < L.length) (h2 : k < 2 ^ 31) : upd (fL L) (nI k).toNatClampNeg (nI v) = fL (L.set k v) := by
  rw [nI_clamp h2]
  funext j
  unfold fL upd
  by_cases e : j = k
  · subst e
    simp [List.getD_eq_getElem?_getD, h]
  · have e' : ¬ k = j := fun q => e q.symm
    simp [List.getD_eq_getElem?_getD, e, List.getElem?_set_ne e']
theorem getD_set_le {L : List Nat} {k v b : Nat} (hv : v ≤ b) (hL : ∀ i, L.getD i 0 ≤ b) : ∀ i, (L.set k v).getD i 0 ≤ b := by
  intro i
  rw [List.getD_eq_getElem?_getD]
  by_cases e : k = i
  · subst e
    by_cases h : k < L.length
    · rw [List.getElem?_set_self h]; exact hv
    · rw [List.set_eq_of_length_le (Nat.le_of_not_lt h), ← List.getD_eq_getElem?_getD]; exact hL k
  · rw [List.getElem?_set_ne e, ← List.getD_eq_getElem?_getD]; exact hL i
/-- costs, queue, who is queued, head, how many wait -/
abbrev sS : Type := List Nat × List Nat × List Nat × Nat × Nat
def okS (w q z : List Nat) (h k : Nat) : Prop := w.length = 144 ∧ q.length = 144 ∧ z.length = 144 ∧ h < 144 ∧ k ≤ 144 ∧ (∀ i, w.getD i 0 ≤ 1000000) ∧ (∀ i, q.getD i 0 ≤ 24) ∧ ∀ i, z.getD i 0 ≤ 1
def reM (w q z : List Nat) (h k ce cost : Nat) : sS :=
  if w.getD ce 0 ≤ cost then (w, q, z, h, k) else
  if z.getD ce 0 = 0 ∧ k < 144 then (w.set ce cost, q.set (if h + k < 144 then h + k else h + k - 144) ce, z.set ce 1, h, k + 1) else (w.set ce cost, q, z, h, k)
def tkM (w q z : List Nat) (h k : Nat) : sS := (w, q, z.set (q.getD h 0) 0, if h + 1 < 144 then h + 1 else 0, k - 1)
/-- the ce beside one, by sides 0 to 3 -/
def beM (ce side : Nat) : Option Nat :=
  if side = 0 then (if 5 ≤ ce then some (ce - 5) else none) else
  if side = 1 then (if ce % 5 = 0 then none else some (ce - 1)) else
  if side = 2 then (if ce % 5 = 4 then none else some (ce + 1)) else
  if ce < 20 then some (ce + 5) else none
def okSt (s : sS) : Prop := okS s.1 s.2.1 s.2.2.1 s.2.2.2.1 s.2.2.2.2
def sideM (s : sS) (ce side : Nat) : sS := match beM ce side with
  | none => s
  | some n => reM s.1 s.2.1 s.2.2.1 s.2.2.2.1 s.2.2.2.2 n (s.1.getD ce 0 + 10)
/-- n sides more, the last of them side 3 -/
def sfM : Nat → sS → Nat → sS
  | 0, s, _ => s
  | n + 1, s, ce => sfM n (sideM s ce (3 - n)) ce
def turnM (far : Nat) (s : sS) : sS := match tkM s.1 s.2.1 s.2.2.1 s.2.2.2.1 s.2.2.2.2 with
  | t => if t.1.getD (s.2.1.getD s.2.2.2.1 0) 0 < far then sfM 4 t (s.2.1.getD s.2.2.2.1 0) else t
def spM : Nat → Nat → sS → sS
  | 0, _, s => s
  | n + 1, far, s => if s.2.2.2.2 = 0 then s else spM n far (turnM far s)
/-- a spread from a ce: what was queued before doesn't matter but for the queue's rest -/
def goM (far o : Nat) (q z : List Nat) : sS := spM 20736 far (reM (List.replicate 144 1000000) q z 0 0 o 0)
theorem okS_re {w q z : List Nat} {h k ce cost : Nat} (ok : okS w q z h k) (hc : ce ≤ 24) : okSt (reM w q z h k ce cost) := by
  obtain ⟨h1, h2, h3, h4, h5, h6, h7, h8⟩ := ok
  unfold reM
  split
  · exact ⟨h1, h2, h3, h4, h5, h6, h7, h8⟩
  · rename_i hlt
    have hlt2 : cost ≤ 1000000 := by have := h6 ce; omega
    split
    · rename_i hz
      refine ⟨by simpa using h1, by simpa using h2, by simpa using h3, h4, ?_, getD_set_le hlt2 h6, getD_set_le hc h7, getD_set_le (Nat.le_refl 1) h8⟩
      show k + 1 ≤ 144
      omega
    · exact ⟨by simpa using h1, h2, h3, h4, h5, getD_set_le hlt2 h6, h7, h8⟩
theorem okS_tk {w q z : List Nat} {h k : Nat} (ok : okS w q z h k) : okSt (tkM w q z h k) := by
  obtain ⟨h1, h2, h3, h4, h5, h6, h7, h8⟩ := ok
  refine ⟨h1, h2, by simpa [tkM] using h3, ?_, ?_, h6, h7, getD_set_le (Nat.zero_le 1) h8⟩
  · show (if h + 1 < 144 then h + 1 else 0) < 144
    split <;> omega
  · show k - 1 ≤ 144
    omega
theorem beM_le {ce side n : Nat} (hc : ce ≤ 24) (h : beM ce side = some n) : n ≤ 24 := by
  unfold beM at h
  split at h
  · split at h <;> cases h
    omega
  · split at h
    · split at h <;> cases h
      omega
    · split at h
      · split at h <;> cases h
        omega
      · split at h <;> cases h
        omega
theorem okS_side {s : sS} {ce side : Nat} (ok : okSt s) (hc : ce ≤ 24) : okSt (sideM s ce side) := by
  unfold sideM
  split
  · exact ok
  · rename_i n hn
    exact okS_re ok (beM_le hc hn)
/-- what lies beside the cells, as the class keeps it: -1 beyond the edge -/
def beF : Nat → Int32 := fun j => if j < 100 then (match beM (j / 4) (j % 4) with | none => -1 | some n => nI n) else 0
theorem beF_at {ce side : Nat} (hc : ce ≤ 24) (hs : side < 4) : beF (nI (ce * 4 + side)).toNatClampNeg = (match beM ce side with | none => -1 | some n => nI n) := by
  rw [nI_clamp (by omega)]
  unfold beF
  rw [if_pos (by omega), show (ce * 4 + side) / 4 = ce by omega, show (ce * 4 + side) % 4 = side by omega]
theorem re_1 {w q z : List Nat} {h k ce co : Nat} (n : ¬ co < w.getD ce 0) : (w, q, z, h, k) = reM w q z h k ce co := by
  unfold reM
  rw [if_pos (Nat.not_lt.mp n)]
theorem re_2 {w q z : List Nat} {h k ce co : Nat} (n : co < w.getD ce 0) (h2 : ¬ (z.getD ce 0 = 0 ∧ k < 144)) : (w.set ce co, q, z, h, k) = reM w q z h k ce co := by
  unfold reM
  rw [if_neg (Nat.not_le.mpr n), if_neg h2]
theorem re_3 {w q z : List Nat} {h k ce co : Nat} (n : co < w.getD ce 0) (h2 : z.getD ce 0 = 0) (h3 : k < 144) (h4 : h + k < 144) : (w.set ce co, q.set (h + k) ce, z.set ce 1, h, k + 1) = reM w q z h k ce co := by
  unfold reM
  rw [if_neg (Nat.not_le.mpr n), if_pos ⟨h2, h3⟩, if_pos h4]
theorem re_4 {w q z : List Nat} {h k ce co : Nat} (n : co < w.getD ce 0) (h2 : z.getD ce 0 = 0) (h3 : k < 144) (h4 : ¬ h + k < 144) : (w.set ce co, q.set (h + k - 144) ce, z.set ce 1, h, k + 1) = reM w q z h k ce co := by
  unfold reM
  rw [if_neg (Nat.not_le.mpr n), if_pos ⟨h2, h3⟩, if_neg h4]
theorem tk_1 {w q z : List Nat} {h k : Nat} (n : h + 1 < 144) : (w, q, z.set (q.getD h 0) 0, h + 1, k - 1) = tkM w q z h k := by
  unfold tkM
  rw [if_pos n]
theorem tk_2 {w q z : List Nat} {h k : Nat} (n : ¬ h + 1 < 144) : (w, q, z.set (q.getD h 0) 0, 0, k - 1) = tkM w q z h k := by
  unfold tkM
  rw [if_neg n]
theorem nI_nm1 {n : Nat} (h : n < 2 ^ 31) : ¬ nI n = -1 := fun q => by
  have h1 := congrArg Int32.toInt q
  rw [nI_toInt h, show (-1 : Int32).toInt = -1 from by decide] at h1
  omega
theorem beF_none {ce i : Nat} (hc : ce ≤ 24) (hs : i < 4) (h : beM ce i = none) : beF (nI (ce * 4 + i)).toNatClampNeg = -1 := by rw [beF_at hc hs, h]
theorem beF_some {ce i n : Nat} (hc : ce ≤ 24) (hs : i < 4) (h : beM ce i = some n) : beF (nI (ce * 4 + i)).toNatClampNeg = nI n := by rw [beF_at hc hs, h]
theorem side_none {s : sS} {ce i : Nat} (h : beM ce i = none) : sideM s ce i = s := by
  unfold sideM
  rw [h]
theorem side_some {s : sS} {ce i n : Nat} (h : beM ce i = some n) : sideM s ce i = reM s.1 s.2.1 s.2.2.1 s.2.2.2.1 s.2.2.2.2 n (s.1.getD ce 0 + 10) := by
  unfold sideM
  rw [h]
theorem okS_sf {ce : Nat} (hc : ce ≤ 24) : ∀ (n : Nat) {s : sS}, okSt s → okSt (sfM n s ce)
  | 0, _, h => h
  | n + 1, _, h => okS_sf hc n (okS_side h hc)
theorem turn_no {far : Nat} {s u : sS} (hu : u = tkM s.1 s.2.1 s.2.2.1 s.2.2.2.1 s.2.2.2.2) (h : ¬ u.1.getD (s.2.1.getD s.2.2.2.1 0) 0 < far) : turnM far s = u := by
  unfold turnM
  rw [← hu]
  exact if_neg h
theorem turn_yes {far : Nat} {s u : sS} (hu : u = tkM s.1 s.2.1 s.2.2.1 s.2.2.2.1 s.2.2.2.2) (h : u.1.getD (s.2.1.getD s.2.2.2.1 0) 0 < far) : turnM far s = sfM 4 u (s.2.1.getD s.2.2.2.1 0) := by
  unfold turnM
  rw [← hu]
  exact if_pos h
theorem sp_stop {n far : Nat} {s : sS} (h : s.2.2.2.2 = 0) : spM (n + 1) far s = s := by
  rw [spM, if_pos h]
theorem sp_go {n far : Nat} {s : sS} (h : ¬ s.2.2.2.2 = 0) : spM (n + 1) far s = spM n far (turnM far s) := by
  rw [spM, if_neg h]
/-- what a spread finds of the queue -/
def okQ (q z : List Nat) : Prop := q.length = 144 ∧ z.length = 144 ∧ (∀ i, q.getD i 0 ≤ 24) ∧ ∀ i, z.getD i 0 ≤ 1
theorem getD_rep (n v i : Nat) : (List.replicate n v).getD i 0 = if i < n then v else 0 := by
  rw [List.getD_eq_getElem?_getD, List.getElem?_replicate]
  split <;> rfl
theorem okS_start {q z : List Nat} (h : okQ q z) : okS (List.replicate 144 1000000) q z 0 0 := ⟨List.length_replicate, h.1, h.2.1, by decide, by decide, fun i => by rw [getD_rep]; split <;> omega, h.2.2.1, h.2.2.2⟩
theorem okQ_of {s : sS} (h : okSt s) : okQ s.2.1 s.2.2.1 := ⟨h.2.1, h.2.2.1, h.2.2.2.2.2.2.1, h.2.2.2.2.2.2.2⟩
theorem fill_rep {w : List Nat} {n v : Nat} (h : w.length = n) : fa_fill (fun _ => nI v) (fL w) n = fL (List.replicate n v) := by
  funext i
  unfold fa_fill fL
  rw [getD_rep]
  split
  · rfl
  · rw [List.getD_eq_getElem?_getD, List.getElem?_eq_none (by omega)]
    rfl
theorem fL_zero (n : Nat) : (fun _ => 0 : Nat → Int32) = fL (List.replicate n 0) := by
  funext i
  unfold fL
  rw [getD_rep]
  split <;> rfl
/-- the first cell beside one that is on a best way -/
def nxF : Nat → List Nat → Nat → Option Nat
  | 0, _, _ => none
  | n + 1, w, ce => match beM ce (3 - n) with
    | none => nxF n w ce
    | some x => if w.getD x 0 + 10 = w.getD ce 0 then some x else nxF n w ce
def optI : Option Nat → Int32
  | none => -1
  | some n => nI n
theorem nxF_none {n : Nat} {w : List Nat} {ce : Nat} (h : beM ce (3 - n) = none) : nxF (n + 1) w ce = nxF n w ce := by rw [nxF, h]
theorem nxF_yes {n : Nat} {w : List Nat} {ce x : Nat} (h : beM ce (3 - n) = some x) (h2 : w.getD x 0 + 10 = w.getD ce 0) : nxF (n + 1) w ce = some x := by
  rw [nxF, h]
  exact if_pos h2
theorem nxF_no {n : Nat} {w : List Nat} {ce x : Nat} (h : beM ce (3 - n) = some x) (h2 : ¬ w.getD x 0 + 10 = w.getD ce 0) : nxF (n + 1) w ce = nxF n w ce := by
  rw [nxF, h]
  exact if_neg h2
theorem nxF_le {ce x : Nat} (hc : ce ≤ 24) : ∀ {n : Nat} {w : List Nat}, nxF n w ce = some x → x ≤ 24
  | 0, _, h => by cases h
  | n + 1, w, h => by
    rw [nxF] at h
    split at h
    · exact nxF_le hc h
    · rename_i y hy
      split at h
      · cases h
        exact beM_le hc hy
      · exact nxF_le hc h
/-- what the first of the best ways costs -/
def cmM : Nat → List Nat → Nat → Nat → Nat → Nat
  | 0, _, _, _, su => su
  | n + 1, w, ce, to, su => if ce = to then su else match nxF 4 w ce with
    | none => 1000000
    | some x => cmM n w x to (su + 10)
theorem cmM_eq {n : Nat} {w : List Nat} {ce to su : Nat} (h : ce = to) : cmM (n + 1) w ce to su = su := by rw [cmM, if_pos h]
theorem cmM_none {n : Nat} {w : List Nat} {ce to su : Nat} (h : ¬ ce = to) (h2 : nxF 4 w ce = none) : cmM (n + 1) w ce to su = 1000000 := by rw [cmM, if_neg h, h2]
theorem cmM_go {n : Nat} {w : List Nat} {ce to su x : Nat} (h : ¬ ce = to) (h2 : nxF 4 w ce = some x) : cmM (n + 1) w ce to su = cmM n w x to (su + 10) := by rw [cmM, if_neg h, h2]
/-- the dearest step of the first sides -/
def dsM : Nat → Nat → Nat
  | 0, _ => 0
  | n + 1, ce => match beM ce n with
    | none => dsM n ce
    | some _ => 10
theorem dsM_le : ∀ (n ce : Nat), dsM n ce = 0 ∨ dsM n ce = 10
  | 0, _ => Or.inl rfl
  | n + 1, ce => by
    rw [dsM]
    split
    · exact dsM_le n ce
    · exact Or.inr rfl
theorem dsM_none {n ce : Nat} (h : beM ce n = none) : dsM (n + 1) ce = dsM n ce := by rw [dsM, h]
theorem dsM_some {n ce x : Nat} (h : beM ce n = some x) : (if nI (dsM n ce) < 10 then 10 else nI (dsM n ce)) = nI (dsM (n + 1) ce) := by
  rw [show dsM (n + 1) ce = 10 by rw [dsM, h]]
  rcases dsM_le n ce with q | q <;> rw [q] <;> decide
theorem dsM_4 : ∀ ce, ce ≤ 24 → dsM 4 ce = 10 := by
  intro ce h
  have k : ∀ ce < 25, dsM 4 ce = 10 := by decide +kernel
  exact k ce (by omega)
def hnOK : Nat → Nat → List Nat → List Nat → Bool
  | 0, _, _, _ => true
  | n + 1, ce, q, z => (List.range 4).all (fun j => match beM ce j with
      | none => true
      | some x => decide ((goM 10 ce q z).1.getD x 0 ≤ 10)) && hnOK n (ce + 1) (goM 10 ce q z).2.1 (goM 10 ce q z).2.2.1
theorem hnOK_go {n ce : Nat} {q z : List Nat} (h : hnOK (n + 1) ce q z = true) : (∀ j, j < 4 → ∀ x, beM ce j = some x → (goM 10 ce q z).1.getD x 0 ≤ 10) ∧ hnOK n (ce + 1) (goM 10 ce q z).2.1 (goM 10 ce q z).2.2.1 = true := by
  rw [hnOK, Bool.and_eq_true, List.all_eq_true] at h
  refine ⟨fun j hj x hx => ?_, h.2⟩
  have h1 := h.1 j (List.mem_range.mpr hj)
  rw [hx] at h1
  exact of_decide_eq_true h1
