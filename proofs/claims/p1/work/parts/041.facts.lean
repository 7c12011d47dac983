/-! what ways cost on a new land -/
def dis (o t : Nat) : Nat := 10 * ((if o % 5 < t % 5 then t % 5 - o % 5 else o % 5 - t % 5) + (if o / 5 < t / 5 then t / 5 - o / 5 else o / 5 - t / 5))
def wayL (t : Nat) : List Nat := (List.range 144).map (fun j => if j < 25 then dis t j else 1000000)
def zL : List Nat := List.replicate 144 0
set_option maxRecDepth 100000 in
theorem go_all : ∀ t < 25, (goM 1000000 t zL zL).1 = wayL t := by decide +kernel
theorem wayL_at (t j : Nat) (h : j < 25) : (wayL t).getD j 0 = dis t j := by
  unfold wayL
  rw [List.getD_eq_getElem?_getD, List.getElem?_map, List.getElem?_range (by omega)]
  exact if_pos h
set_option maxRecDepth 100000 in
theorem cm_all : ∀ t < 25, ∀ f < 25, cmM 144 (wayL t) f t 0 = dis t f := by decide +kernel
set_option maxRecDepth 100000 in
theorem hn_ok : hnOK 25 0 zL zL = true := by decide +kernel
theorem okQ_0 : okQ zL zL := ⟨List.length_replicate, List.length_replicate, fun i => by rw [zL, getD_rep]; split <;> decide, fun i => by rw [zL, getD_rep]; split <;> decide⟩
theorem dis_le : ∀ t < 25, ∀ f < 25, dis t f ≤ 80 := by decide +kernel
