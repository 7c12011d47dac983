theorem dX6_areNear_0 : decode cX6_areNear 0 = .ok (.aload_n 0, 1) := by decide +kernel
theorem dX6_areNear_1 : decode cX6_areNear 1 = .ok (.iload_n 1, 1) := by decide +kernel
theorem dX6_areNear_2 : decode cX6_areNear 2 = .ok (.invokevirtual 145, 3) := by decide +kernel
theorem dX6_add_0 : decode cX6_add 0 = .ok (.aload_n 0, 1) := by decide +kernel
theorem dX6_add_1 : decode cX6_add 1 = .ok (.iload_n 1, 1) := by decide +kernel
theorem dX6_add_2 : decode cX6_add 2 = .ok (.invokevirtual 157, 3) := by decide +kernel
theorem dX6_fork_0 : decode cX6_fork 0 = .ok (.aload_n 0, 1) := by decide +kernel
theorem dX6_fork_1 : decode cX6_fork 1 = .ok (.iload_n 1, 1) := by decide +kernel
theorem dX6_fork_2 : decode cX6_fork 2 = .ok (.invokevirtual 157, 3) := by decide +kernel
theorem dX6_isLawful_0 : decode cX6_isLawful 0 = .ok (.aload_n 0, 1) := by decide +kernel
theorem dX6_isLawful_1 : decode cX6_isLawful 1 = .ok (.iload_n 1, 1) := by decide +kernel
theorem dX6_isLawful_2 : decode cX6_isLawful 2 = .ok (.invokevirtual 157, 3) := by decide +kernel
theorem dX6_lengthOf_0 : decode cX6_lengthOf 0 = .ok (.aload_n 0, 1) := by decide +kernel
theorem dX6_lengthOf_1 : decode cX6_lengthOf 1 = .ok (.aload_n 0, 1) := by decide +kernel
theorem dX6_lengthOf_2 : decode cX6_lengthOf 2 = .ok (.iload_n 1, 1) := by decide +kernel
theorem dX6_lengthOf_3 : decode cX6_lengthOf 3 = .ok (.invokevirtual 157, 3) := by decide +kernel
theorem dX6_branches_0 : decode cX6_branches 0 = .ok (.aload_n 0, 1) := by decide +kernel
theorem dX6_branches_1 : decode cX6_branches 1 = .ok (.iload_n 1, 1) := by decide +kernel
theorem dX6_branches_2 : decode cX6_branches 2 = .ok (.invokevirtual 200, 3) := by decide +kernel
theorem dX6_start_0 : decode cX6_start 0 = .ok (.aload_n 0, 1) := by decide +kernel
theorem dX6_start_1 : decode cX6_start 1 = .ok (.iload_n 1, 1) := by decide +kernel
theorem dX6_start_2 : decode cX6_start 2 = .ok (.invokevirtual 200, 3) := by decide +kernel
theorem dX6_draw_0 : decode cX6_draw 0 = .ok (.aload_n 0, 1) := by decide +kernel
theorem dX6_draw_1 : decode cX6_draw 1 = .ok (.iload_n 1, 1) := by decide +kernel
theorem dX6_draw_2 : decode cX6_draw 2 = .ok (.invokevirtual 157, 3) := by decide +kernel
theorem dX6_startOf_0 : decode cX6_startOf 0 = .ok (.aload_n 0, 1) := by decide +kernel
theorem dX6_startOf_1 : decode cX6_startOf 1 = .ok (.iload_n 1, 1) := by decide +kernel
theorem dX6_startOf_2 : decode cX6_startOf 2 = .ok (.invokevirtual 200, 3) := by decide +kernel
theorem dX6_punch_0 : decode cX6_punch 0 = .ok (.aload_n 0, 1) := by decide +kernel
theorem dX6_punch_1 : decode cX6_punch 1 = .ok (.iload_n 1, 1) := by decide +kernel
theorem dX6_punch_2 : decode cX6_punch 2 = .ok (.invokevirtual 200, 3) := by decide +kernel
theorem dX6_finish_0 : decode cX6_finish 0 = .ok (.aload_n 0, 1) := by decide +kernel
theorem dX6_finish_1 : decode cX6_finish 1 = .ok (.iload_n 1, 1) := by decide +kernel
theorem dX6_finish_2 : decode cX6_finish 2 = .ok (.invokevirtual 200, 3) := by decide +kernel
theorem dX6_dead_0 : decode cX6_dead 0 = .ok (.aload_n 0, 1) := by decide +kernel
theorem dX6_dead_1 : decode cX6_dead 1 = .ok (.iload_n 1, 1) := by decide +kernel
theorem dX6_dead_2 : decode cX6_dead 2 = .ok (.invokevirtual 145, 3) := by decide +kernel
theorem dX6_stolen_0 : decode cX6_stolen 0 = .ok (.aload_n 0, 1) := by decide +kernel
theorem dX6_stolen_1 : decode cX6_stolen 1 = .ok (.iload_n 1, 1) := by decide +kernel
theorem dX6_stolen_2 : decode cX6_stolen 2 = .ok (.invokevirtual 145, 3) := by decide +kernel
theorem dX6_voided_0 : decode cX6_voided 0 = .ok (.aload_n 0, 1) := by decide +kernel
theorem dX6_voided_1 : decode cX6_voided 1 = .ok (.iload_n 1, 1) := by decide +kernel
theorem dX6_voided_2 : decode cX6_voided 2 = .ok (.invokevirtual 157, 3) := by decide +kernel
theorem dX6_rule_0 : decode cX6_rule 0 = .ok (.aload_n 0, 1) := by decide +kernel
theorem dX6_rule_1 : decode cX6_rule 1 = .ok (.iload_n 1, 1) := by decide +kernel
theorem dX6_rule_2 : decode cX6_rule 2 = .ok (.invokevirtual 200, 3) := by decide +kernel
theorem dX6_state_0 : decode cX6_state 0 = .ok (.aload_n 0, 1) := by decide +kernel
theorem dX6_state_1 : decode cX6_state 1 = .ok (.iload_n 1, 1) := by decide +kernel
theorem dX6_state_2 : decode cX6_state 2 = .ok (.invokevirtual 200, 3) := by decide +kernel
theorem dX6_time_0 : decode cX6_time 0 = .ok (.aload_n 0, 1) := by decide +kernel
theorem dX6_time_1 : decode cX6_time 1 = .ok (.aload_n 0, 1) := by decide +kernel
theorem dX6_time_2 : decode cX6_time 2 = .ok (.iload_n 1, 1) := by decide +kernel
theorem dX6_time_3 : decode cX6_time 3 = .ok (.invokevirtual 200, 3) := by decide +kernel
theorem dX6_split_0 : decode cX6_split 0 = .ok (.aload_n 0, 1) := by decide +kernel
theorem dX6_split_1 : decode cX6_split 1 = .ok (.iload_n 1, 1) := by decide +kernel
theorem dX6_split_2 : decode cX6_split 2 = .ok (.invokevirtual 200, 3) := by decide +kernel
theorem dX6_place_0 : decode cX6_place 0 = .ok (.aload_n 0, 1) := by decide +kernel
theorem dX6_place_1 : decode cX6_place 1 = .ok (.aload_n 0, 1) := by decide +kernel
theorem dX6_place_2 : decode cX6_place 2 = .ok (.iload_n 1, 1) := by decide +kernel
theorem dX6_place_3 : decode cX6_place 3 = .ok (.invokevirtual 200, 3) := by decide +kernel
theorem dX6_reference_0 : decode cX6_reference 0 = .ok (.aload_n 0, 1) := by decide +kernel
theorem dX6_reference_1 : decode cX6_reference 1 = .ok (.iload_n 1, 1) := by decide +kernel
theorem dX6_reference_2 : decode cX6_reference 2 = .ok (.invokevirtual 200, 3) := by decide +kernel
theorem dX6_pace_0 : decode cX6_pace 0 = .ok (.aload_n 0, 1) := by decide +kernel
theorem dX6_pace_1 : decode cX6_pace 1 = .ok (.aload_n 0, 1) := by decide +kernel
theorem dX6_pace_2 : decode cX6_pace 2 = .ok (.iload_n 1, 1) := by decide +kernel
theorem dX6_pace_3 : decode cX6_pace 3 = .ok (.invokevirtual 200, 3) := by decide +kernel
theorem dX6_loss_0 : decode cX6_loss 0 = .ok (.aload_n 0, 1) := by decide +kernel
theorem dX6_loss_1 : decode cX6_loss 1 = .ok (.iload_n 1, 1) := by decide +kernel
theorem dX6_loss_2 : decode cX6_loss 2 = .ok (.invokevirtual 200, 3) := by decide +kernel
theorem dX6_points_0 : decode cX6_points 0 = .ok (.aload_n 0, 1) := by decide +kernel
theorem dX6_points_1 : decode cX6_points 1 = .ok (.aload_n 0, 1) := by decide +kernel
theorem dX6_points_2 : decode cX6_points 2 = .ok (.iload_n 1, 1) := by decide +kernel
theorem dX6_points_3 : decode cX6_points 3 = .ok (.invokevirtual 200, 3) := by decide +kernel
theorem dX6_team_0 : decode cX6_team 0 = .ok (.aload_n 0, 1) := by decide +kernel
theorem dX6_team_1 : decode cX6_team 1 = .ok (.iload_n 1, 1) := by decide +kernel
theorem dX6_team_2 : decode cX6_team 2 = .ok (.invokevirtual 157, 3) := by decide +kernel
theorem dX6_runs_0 : decode cX6_runs 0 = .ok (.iload_n 1, 1) := by decide +kernel
theorem dX6_runs_1 : decode cX6_runs 1 = .ok (.aload_n 0, 1) := by decide +kernel
theorem dX6_runs_2 : decode cX6_runs 2 = .ok (.getfield 37, 3) := by decide +kernel
theorem dX6_runs_5 : decode cX6_runs 5 = .ok (.getfield 85, 3) := by decide +kernel
theorem dX6_runs_8 : decode cX6_runs 8 = .ok (.invokestatic 174, 3) := by decide +kernel
theorem dX6_chase_0 : decode cX6_chase 0 = .ok (.aload_n 0, 1) := by decide +kernel
theorem dX6_chase_1 : decode cX6_chase 1 = .ok (.iload_n 1, 1) := by decide +kernel
theorem dX6_chase_2 : decode cX6_chase 2 = .ok (.invokevirtual 157, 3) := by decide +kernel
theorem dX6_fix_0 : decode cX6_fix 0 = .ok (.aload_n 0, 1) := by decide +kernel
theorem dX6_fix_1 : decode cX6_fix 1 = .ok (.iload_n 1, 1) := by decide +kernel
theorem dX6_fix_2 : decode cX6_fix 2 = .ok (.invokevirtual 200, 3) := by decide +kernel
theorem dX6_mayHave_0 : decode cX6_mayHave 0 = .ok (.aload_n 0, 1) := by decide +kernel
theorem dX6_mayHave_1 : decode cX6_mayHave 1 = .ok (.iload_n 1, 1) := by decide +kernel
theorem dX6_mayHave_2 : decode cX6_mayHave 2 = .ok (.invokevirtual 200, 3) := by decide +kernel
theorem dX6_okShare_0 : decode cX6_okShare 0 = .ok (.aload_n 0, 1) := by decide +kernel
theorem dX6_okShare_1 : decode cX6_okShare 1 = .ok (.iload_n 1, 1) := by decide +kernel
theorem dX6_okShare_2 : decode cX6_okShare 2 = .ok (.invokevirtual 157, 3) := by decide +kernel
theorem dX6_meanTime_0 : decode cX6_meanTime 0 = .ok (.aload_n 0, 1) := by decide +kernel
theorem dX6_meanTime_1 : decode cX6_meanTime 1 = .ok (.iload_n 1, 1) := by decide +kernel
theorem dX6_meanTime_2 : decode cX6_meanTime 2 = .ok (.invokevirtual 157, 3) := by decide +kernel
theorem dX6_runner_0 : decode cX6_runner 0 = .ok (.iload_n 1, 1) := by decide +kernel
theorem dX6_runner_1 : decode cX6_runner 1 = .ok (.iconst 0, 1) := by decide +kernel
theorem dX6_runner_2 : decode cX6_runner 2 = .ok (.bipush 9, 2) := by decide +kernel
theorem dX6_runner_4 : decode cX6_runner 4 = .ok (.invokestatic 71, 3) := by decide +kernel
theorem dX6_runner_7 : decode cX6_runner 7 = .ok (.aload_n 0, 1) := by decide +kernel
theorem dX6_runner_8 : decode cX6_runner 8 = .ok (.iload_n 2, 1) := by decide +kernel
theorem dX6_runner_9 : decode cX6_runner 9 = .ok (.invokevirtual 157, 3) := by decide +kernel
/-! what a new object answers: the numbers of what is thrown, and the answers -/
theorem inI_nI {p : Int32} (h : inI p 25) : ∃ j : Nat, j < 25 ∧ p = nI j := by
  obtain ⟨j, hj, e⟩ := nI_of h.1
  refine ⟨j, ?_, e⟩
  have h2 := h.2
  rw [e] at h2
  exact (nI_ltI (a := j) (b := 25) hj (by decide)).mp h2
theorem inR_nI {p lo : Int32} {M : Nat} (hM : M < 2 ^ 31) (hlo : 0 ≤ lo) (h : inR p lo (nI M)) : ∃ j : Nat, j ≤ M ∧ p = nI j := by
  have h1 := h.1
  have h2 := h.2
  have h3 : ¬ p < 0 := fun q => h1 (by rw [Int32.lt_iff_toInt_lt] at q ⊢; rw [Int32.le_iff_toInt_le] at hlo; omega)
  obtain ⟨j, hj, e⟩ := nI_of h3
  rw [e] at h2
  exact ⟨j, (nI_leI hj hM).mp h2, e⟩
def cvS (s t a : Int32) : Int32 := if ¬ t = -1 ∧ t < a + s then t else a + s
/-- the seconds of a changeover -/
def cvR (p0 p1 p2 p3 : Int32) : Int32 := if p0 = 0 then p1 else if p0 = 1 then cvS p2 p3 p1 else cvS p2 p3 (cvS p2 p3 p1)
def ltR (p0 p1 p2 : Int32) : Int32 := if 0 < p0 - (p1 + 59) / 60 * p2 then p0 - (p1 + 59) / 60 * p2 else 0
def kf_land (p0 p1 : Int32) : Int32 := if inR p0 3 12 then (if inR p1 3 12 then 0 else 1) else 1
def rf_land (p0 p1 : Int32) : Int32 := p0 * p1
def kf_cell (p0 p1 p2 p3 : Int32) : Int32 := if inI p0 25 then (if inR p1 0 9 then (if inR p2 0 9 then (if okK p3 then 0 else 2) else 2) else 2) else 1
def rf_cell (p0 p1 p2 p3 : Int32) : Int32 := 0
def kf_show (p0 p1 p2 : Int32) : Int32 := if inI p0 25 then (if inR p1 0 9 then (if okK p2 then 0 else 2) else 2) else 1
def rf_show (p0 p1 p2 : Int32) : Int32 := 0
def kf_cost (p0 p1 p2 : Int32) : Int32 := if inI p0 25 then (if inI p1 25 then 0 else 1) else 1
def rf_cost (p0 p1 p2 : Int32) : Int32 := nI (dis p0.toNatClampNeg p1.toNatClampNeg)
def kf_misled (p0 p1 : Int32) : Int32 := if inI p0 25 then (if inI p1 25 then 0 else 1) else 1
def rf_misled (p0 p1 : Int32) : Int32 := nI (dis p1.toNatClampNeg p0.toNatClampNeg)
def kf_control (p0 p1 p2 : Int32) : Int32 := if inI p0 25 then (if inR p1 0 3 then (if inR p2 0 99 then 0 else 2) else 2) else 1
def rf_control (p0 p1 p2 : Int32) : Int32 := 0
def kf_course (p0 : Int32) : Int32 := if inI p0 25 then 0 else 1
def rf_course (p0 : Int32) : Int32 := 0
def kf_changeover (p0 p1 p2 p3 : Int32) : Int32 := if inR p0 0 2 then (if inR p1 0 99999 then (if inR p2 0 99999 then (if inR p3 (-1) 99999 then 0 else 1) else 1) else 1) else 1
def rf_changeover (p0 p1 p2 p3 : Int32) : Int32 := cvR p0 p1 p2 p3
def kf_score (p0 p1 p2 : Int32) : Int32 := if inI p0 25 then (if inR p1 0 9999 then (if inR p2 1 9999 then 0 else 2) else 2) else 1
def rf_score (p0 p1 p2 : Int32) : Int32 := 0
def kf_late (p0 p1 p2 : Int32) : Int32 := if inR p0 0 9999 then (if inR p1 0 9999 then (if inR p2 0 99 then 0 else 1) else 1) else 1
def rf_late (p0 p1 p2 : Int32) : Int32 := ltR p0 p1 p2
def kf_areNear (_p0 _p1 : Int32) : Int32 := 1
def rf_areNear (_p0 _p1 : Int32) : Int32 := 0
def kf_add (_p0 _p1 : Int32) : Int32 := 1
def rf_add (_p0 _p1 : Int32) : Int32 := 0
def kf_fork (_p0 _p1 _p2 : Int32) : Int32 := 1
def rf_fork (_p0 _p1 _p2 : Int32) : Int32 := 0
def kf_isLawful (_p0 : Int32) : Int32 := 1
def rf_isLawful (_p0 : Int32) : Int32 := 0
def kf_lengthOf (_p0 : Int32) : Int32 := 1
def rf_lengthOf (_p0 : Int32) : Int32 := 0
def kf_branches (_p0 _p1 : Int32) : Int32 := 1
def rf_branches (_p0 _p1 : Int32) : Int32 := 0
def kf_start (_p0 _p1 : Int32) : Int32 := 1
def rf_start (_p0 _p1 : Int32) : Int32 := 0
def kf_draw (_p0 _p1 _p2 _p3 : Int32) : Int32 := 1
def rf_draw (_p0 _p1 _p2 _p3 : Int32) : Int32 := 0
def kf_startOf (_p0 : Int32) : Int32 := 1
def rf_startOf (_p0 : Int32) : Int32 := 0
def kf_punch (_p0 _p1 _p2 : Int32) : Int32 := 1
def rf_punch (_p0 _p1 _p2 : Int32) : Int32 := 0
def kf_finish (_p0 _p1 : Int32) : Int32 := 1
def rf_finish (_p0 _p1 : Int32) : Int32 := 0
def kf_dead (_p0 _p1 _p2 : Int32) : Int32 := 1
def rf_dead (_p0 _p1 _p2 : Int32) : Int32 := 0
def kf_stolen (_p0 _p1 : Int32) : Int32 := 1
def rf_stolen (_p0 _p1 : Int32) : Int32 := 0
def kf_voided (_p0 _p1 _p2 : Int32) : Int32 := 1
def rf_voided (_p0 _p1 _p2 : Int32) : Int32 := 0
def kf_rule (_p0 _p1 : Int32) : Int32 := 1
def rf_rule (_p0 _p1 : Int32) : Int32 := 0
def kf_state (_p0 : Int32) : Int32 := 1
def rf_state (_p0 : Int32) : Int32 := 0
def kf_time (_p0 : Int32) : Int32 := 1
def rf_time (_p0 : Int32) : Int32 := 0
def kf_split (_p0 _p1 : Int32) : Int32 := 1
def rf_split (_p0 _p1 : Int32) : Int32 := 0
def kf_place (_p0 : Int32) : Int32 := 1
def rf_place (_p0 : Int32) : Int32 := 0
def kf_reference (_p0 _p1 : Int32) : Int32 := 1
def rf_reference (_p0 _p1 : Int32) : Int32 := 0
def kf_pace (_p0 : Int32) : Int32 := 1
def rf_pace (_p0 : Int32) : Int32 := 0
def kf_loss (_p0 _p1 : Int32) : Int32 := 1
def rf_loss (_p0 _p1 : Int32) : Int32 := 0
def kf_points (_p0 : Int32) : Int32 := 1
def rf_points (_p0 : Int32) : Int32 := 0
def kf_team (_p0 _p1 : Int32) : Int32 := 1
def rf_team (_p0 _p1 : Int32) : Int32 := 0
def kf_runs (_p0 _p1 _p2 : Int32) : Int32 := 1
def rf_runs (_p0 _p1 _p2 : Int32) : Int32 := 0
def kf_chase (_p0 _p1 _p2 : Int32) : Int32 := 1
def rf_chase (_p0 _p1 _p2 : Int32) : Int32 := 0
def kf_fix (_p0 _p1 _p2 : Int32) : Int32 := 1
def rf_fix (_p0 _p1 _p2 : Int32) : Int32 := 0
def kf_mayHave (_p0 _p1 : Int32) : Int32 := 1
def rf_mayHave (_p0 _p1 : Int32) : Int32 := 0
def kf_okShare (_p0 : Int32) : Int32 := 1
def rf_okShare (_p0 : Int32) : Int32 := 0
def kf_meanTime (_p0 : Int32) : Int32 := 1
def rf_meanTime (_p0 : Int32) : Int32 := 0
def kf_runner (p0 _p1 : Int32) : Int32 := if inR p0 0 9 then 2 else 1
def rf_runner (_p0 _p1 : Int32) : Int32 := 0
def kf_fairWays : Int32 := 0
def rf_fairWays : Int32 := 1
def us_c_areNear : List Cond := .code yX6_areNear cX6_areNear 4 (some .boolean) :: (([.methodLink RX6 145 yX6_needControl, .instanceMethod yX6_needControl, .selects RX6 yX6_needControl yX6_needControl, .initialized RX6] : List Cond) ++ (us_c_needControl ++ ([])))
theorem gw_c_areNear : ∀ w ∈ us_c_areNear, goodWord w = true := gw_cons rfl (gw_app (by decide +kernel) (gw_app gw_c_needControl (fun _ h => nomatch h)))
set_option maxHeartbeats 4000000 in
set_option maxRecDepth 100000 in
/-- areNear: there is no such number yet -/
theorem c_areNear (l : Launch) (hst : l.stackTraces = false) (D : va_G) (x : Nat) (g : Nat) (ca : Nat) (co : Nat) (ra : Nat) (rl : Nat) (tr : Nat) (f9 : Nat) (f10 : Nat) (f11 : Nat) (f12 : Nat) (f13 : Nat) (p0 : Int32) (p1 : Int32) (sz : Nat) : vx_Met l yX6_areNear us_c_areNear { frames := 8, cells := 1, slots := 6, locals := 124 } (pw D [.ref x, .int p0, .int p1] [] [(x, .inr (13, [.ref g, .ref ca, .int 0, .ref co, .int 0, .ref ra, .int 0, .ref rl, .ref tr, .ref f9, .ref f10, .ref f11, .ref f12, .ref f13]))] sz) qN (vx_X (fun E => E = "java/lang/IndexOutOfBoundsException") xb (va_A [(x, .inr (13, [.ref g, .ref ca, .int 0, .ref co, .int 0, .ref ra, .int 0, .ref rl, .ref tr, .ref f9, .ref f10, .ref f11, .ref f12, .ref f13]))] sz)) 1 6 (va_A [(x, .inr (13, [.ref g, .ref ca, .int 0, .ref co, .int 0, .ref ra, .int 0, .ref rl, .ref tr, .ref f9, .ref f10, .ref f11, .ref f12, .ref f13]))] sz) := by
  refine op_X (Qc := fun _ => qN) (px := (fun E => E = "java/lang/IndexOutOfBoundsException")) (by decide +kernel) rfl (Nat.le_of_ble_eq_true rfl) ?_
  intro p e s m args below meth c A ls hx hb hr hml hts hown hlocks hmn htab hA hD hS hP hK hE hsz hl
  have hown : s.vm.findClass RX6 = some m.cls := hown
  have hl : lv_has ls 4 [(0, .ref x), (1, .int p0), (2, .int p1)] := hl
  have hw_0 := hts (.methodLink RX6 145 yX6_needControl) (List.mem_cons_of_mem _ (List.mem_append_left _ (List.mem_of_getElem? (i := 0) rfl)))
  have hw_1 := hts (.instanceMethod yX6_needControl) (List.mem_cons_of_mem _ (List.mem_append_left _ (List.mem_of_getElem? (i := 1) rfl)))
  have hw_2 := hts (.selects RX6 yX6_needControl yX6_needControl) (List.mem_cons_of_mem _ (List.mem_append_left _ (List.mem_of_getElem? (i := 2) rfl)))
  have hw_3 := hts (.initialized RX6) (List.mem_cons_of_mem _ (List.mem_append_left _ (List.mem_of_getElem? (i := 3) rfl)))
  have hb_0 : ∀ w ∈ us_c_needControl, w ∈ us_c_areNear := fun w h => List.mem_cons_of_mem _ (List.mem_append_right _ (List.mem_append_left _ h))
  refine lv_aload_n hx hb dX6_areNear_0 rfl (lv_at hl 0 rfl) ?_
  refine lv_iload_n hx hb dX6_areNear_1 rfl (lv_at hl 1 rfl) ?_
  exact mt_out (vx_runV (As := [.int p0]) (rest := []) ⟨hx, hb, hml, hown, hts⟩ (c_needControl l hst D x g ca co ra rl tr f9 f10 f11 f12 f13 p0 s.heap.size) (cwV 1 hts (gi_c (List.mem_cons_of_mem _ (List.mem_append_left _ (List.mem_of_getElem? (i := 0) rfl))) rfl (gi_c (List.mem_cons_of_mem _ (List.mem_append_left _ (List.mem_of_getElem? (i := 1) rfl))) rfl (gi_c (List.mem_cons_of_mem _ (List.mem_append_left _ (List.mem_of_getElem? (i := 2) rfl))) rfl (gi_c (List.mem_cons_of_mem _ (List.mem_append_left _ (List.mem_of_getElem? (i := 3) rfl))) rfl (goodIn_sub hb_0 (List.all_eq_true.mpr gw_c_needControl)))))) rfl rfl rfl (by decide +kernel) ⟨Nat.le_of_ble_eq_true rfl, Nat.le_of_ble_eq_true rfl⟩) (pr_V (As := [.int p0]) (b := x) (C := RX6) hP hD hK hS hA hE [0] [] rfl rfl rfl 0 13 rfl rfl rfl) rfl rfl hl.1 rfl (lv_room (Nat.le_of_ble_eq_true rfl)) dX6_areNear_2 ⟨Nat.le_of_ble_eq_true rfl, Nat.le_of_ble_eq_true rfl⟩) hD hS hA [0] rfl htab hlocks (fun _ h => h) (Nat.le_of_ble_eq_true rfl) (Nat.le_of_ble_eq_true rfl)

def us_c_add : List Cond := .code yX6_add cX6_add 4 (some .int) :: (([.methodLink RX6 157 yX6_needCourse, .instanceMethod yX6_needCourse, .selects RX6 yX6_needCourse yX6_needCourse, .initialized RX6] : List Cond) ++ (us_c_needCourse ++ ([])))
theorem gw_c_add : ∀ w ∈ us_c_add, goodWord w = true := gw_cons rfl (gw_app (by decide +kernel) (gw_app gw_c_needCourse (fun _ h => nomatch h)))
set_option maxHeartbeats 4000000 in
set_option maxRecDepth 100000 in
/-- add: there is no such number yet -/
theorem c_add (l : Launch) (hst : l.stackTraces = false) (D : va_G) (x : Nat) (g : Nat) (ca : Nat) (co : Nat) (ra : Nat) (rl : Nat) (tr : Nat) (f9 : Nat) (f10 : Nat) (f11 : Nat) (f12 : Nat) (f13 : Nat) (p0 : Int32) (p1 : Int32) (sz : Nat) : vx_Met l yX6_add us_c_add { frames := 8, cells := 1, slots := 6, locals := 124 } (pw D [.ref x, .int p0, .int p1] [] [(x, .inr (13, [.ref g, .ref ca, .int 0, .ref co, .int 0, .ref ra, .int 0, .ref rl, .ref tr, .ref f9, .ref f10, .ref f11, .ref f12, .ref f13]))] sz) qN (vx_X (fun E => E = "java/lang/IndexOutOfBoundsException") xb (va_A [(x, .inr (13, [.ref g, .ref ca, .int 0, .ref co, .int 0, .ref ra, .int 0, .ref rl, .ref tr, .ref f9, .ref f10, .ref f11, .ref f12, .ref f13]))] sz)) 1 6 (va_A [(x, .inr (13, [.ref g, .ref ca, .int 0, .ref co, .int 0, .ref ra, .int 0, .ref rl, .ref tr, .ref f9, .ref f10, .ref f11, .ref f12, .ref f13]))] sz) := by
  refine op_X (Qc := fun _ => qN) (px := (fun E => E = "java/lang/IndexOutOfBoundsException")) (by decide +kernel) rfl (Nat.le_of_ble_eq_true rfl) ?_
  intro p e s m args below meth c A ls hx hb hr hml hts hown hlocks hmn htab hA hD hS hP hK hE hsz hl
  have hown : s.vm.findClass RX6 = some m.cls := hown
  have hl : lv_has ls 4 [(0, .ref x), (1, .int p0), (2, .int p1)] := hl
  have hw_0 := hts (.methodLink RX6 157 yX6_needCourse) (List.mem_cons_of_mem _ (List.mem_append_left _ (List.mem_of_getElem? (i := 0) rfl)))
  have hw_1 := hts (.instanceMethod yX6_needCourse) (List.mem_cons_of_mem _ (List.mem_append_left _ (List.mem_of_getElem? (i := 1) rfl)))
  have hw_2 := hts (.selects RX6 yX6_needCourse yX6_needCourse) (List.mem_cons_of_mem _ (List.mem_append_left _ (List.mem_of_getElem? (i := 2) rfl)))
  have hw_3 := hts (.initialized RX6) (List.mem_cons_of_mem _ (List.mem_append_left _ (List.mem_of_getElem? (i := 3) rfl)))
  have hb_0 : ∀ w ∈ us_c_needCourse, w ∈ us_c_add := fun w h => List.mem_cons_of_mem _ (List.mem_append_right _ (List.mem_append_left _ h))
  refine lv_aload_n hx hb dX6_add_0 rfl (lv_at hl 0 rfl) ?_
  refine lv_iload_n hx hb dX6_add_1 rfl (lv_at hl 1 rfl) ?_
  exact mt_out (vx_runV (As := [.int p0]) (rest := []) ⟨hx, hb, hml, hown, hts⟩ (c_needCourse l hst D x g ca co ra rl tr f9 f10 f11 f12 f13 p0 s.heap.size) (cwV 1 hts (gi_c (List.mem_cons_of_mem _ (List.mem_append_left _ (List.mem_of_getElem? (i := 0) rfl))) rfl (gi_c (List.mem_cons_of_mem _ (List.mem_append_left _ (List.mem_of_getElem? (i := 1) rfl))) rfl (gi_c (List.mem_cons_of_mem _ (List.mem_append_left _ (List.mem_of_getElem? (i := 2) rfl))) rfl (gi_c (List.mem_cons_of_mem _ (List.mem_append_left _ (List.mem_of_getElem? (i := 3) rfl))) rfl (goodIn_sub hb_0 (List.all_eq_true.mpr gw_c_needCourse)))))) rfl rfl rfl (by decide +kernel) ⟨Nat.le_of_ble_eq_true rfl, Nat.le_of_ble_eq_true rfl⟩) (pr_V (As := [.int p0]) (b := x) (C := RX6) hP hD hK hS hA hE [0] [] rfl rfl rfl 0 13 rfl rfl rfl) rfl rfl hl.1 rfl (lv_room (Nat.le_of_ble_eq_true rfl)) dX6_add_2 ⟨Nat.le_of_ble_eq_true rfl, Nat.le_of_ble_eq_true rfl⟩) hD hS hA [0] rfl htab hlocks (fun _ h => h) (Nat.le_of_ble_eq_true rfl) (Nat.le_of_ble_eq_true rfl)

def us_c_fork : List Cond := .code yX6_fork cX6_fork 5 (some .int) :: (([.methodLink RX6 157 yX6_needCourse, .instanceMethod yX6_needCourse, .selects RX6 yX6_needCourse yX6_needCourse, .initialized RX6] : List Cond) ++ (us_c_needCourse ++ ([])))
theorem gw_c_fork : ∀ w ∈ us_c_fork, goodWord w = true := gw_cons rfl (gw_app (by decide +kernel) (gw_app gw_c_needCourse (fun _ h => nomatch h)))
set_option maxHeartbeats 4000000 in
set_option maxRecDepth 100000 in
/-- fork: there is no such number yet -/
theorem c_fork (l : Launch) (hst : l.stackTraces = false) (D : va_G) (x : Nat) (g : Nat) (ca : Nat) (co : Nat) (ra : Nat) (rl : Nat) (tr : Nat) (f9 : Nat) (f10 : Nat) (f11 : Nat) (f12 : Nat) (f13 : Nat) (p0 : Int32) (p1 : Int32) (p2 : Int32) (sz : Nat) : vx_Met l yX6_fork us_c_fork { frames := 8, cells := 1, slots := 6, locals := 124 } (pw D [.ref x, .int p0, .int p1, .int p2] [] [(x, .inr (13, [.ref g, .ref ca, .int 0, .ref co, .int 0, .ref ra, .int 0, .ref rl, .ref tr, .ref f9, .ref f10, .ref f11, .ref f12, .ref f13]))] sz) qN (vx_X (fun E => E = "java/lang/IndexOutOfBoundsException") xb (va_A [(x, .inr (13, [.ref g, .ref ca, .int 0, .ref co, .int 0, .ref ra, .int 0, .ref rl, .ref tr, .ref f9, .ref f10, .ref f11, .ref f12, .ref f13]))] sz)) 1 6 (va_A [(x, .inr (13, [.ref g, .ref ca, .int 0, .ref co, .int 0, .ref ra, .int 0, .ref rl, .ref tr, .ref f9, .ref f10, .ref f11, .ref f12, .ref f13]))] sz) := by
  refine op_X (Qc := fun _ => qN) (px := (fun E => E = "java/lang/IndexOutOfBoundsException")) (by decide +kernel) rfl (Nat.le_of_ble_eq_true rfl) ?_
  intro p e s m args below meth c A ls hx hb hr hml hts hown hlocks hmn htab hA hD hS hP hK hE hsz hl
  have hown : s.vm.findClass RX6 = some m.cls := hown
  have hl : lv_has ls 5 [(0, .ref x), (1, .int p0), (2, .int p1), (3, .int p2)] := hl
  have hw_0 := hts (.methodLink RX6 157 yX6_needCourse) (List.mem_cons_of_mem _ (List.mem_append_left _ (List.mem_of_getElem? (i := 0) rfl)))
  have hw_1 := hts (.instanceMethod yX6_needCourse) (List.mem_cons_of_mem _ (List.mem_append_left _ (List.mem_of_getElem? (i := 1) rfl)))
  have hw_2 := hts (.selects RX6 yX6_needCourse yX6_needCourse) (List.mem_cons_of_mem _ (List.mem_append_left _ (List.mem_of_getElem? (i := 2) rfl)))
  have hw_3 := hts (.initialized RX6) (List.mem_cons_of_mem _ (List.mem_append_left _ (List.mem_of_getElem? (i := 3) rfl)))
  have hb_0 : ∀ w ∈ us_c_needCourse, w ∈ us_c_fork := fun w h => List.mem_cons_of_mem _ (List.mem_append_right _ (List.mem_append_left _ h))
  refine lv_aload_n hx hb dX6_fork_0 rfl (lv_at hl 0 rfl) ?_
  refine lv_iload_n hx hb dX6_fork_1 rfl (lv_at hl 1 rfl) ?_
  exact mt_out (vx_runV (As := [.int p0]) (rest := []) ⟨hx, hb, hml, hown, hts⟩ (c_needCourse l hst D x g ca co ra rl tr f9 f10 f11 f12 f13 p0 s.heap.size) (cwV 1 hts (gi_c (List.mem_cons_of_mem _ (List.mem_append_left _ (List.mem_of_getElem? (i := 0) rfl))) rfl (gi_c (List.mem_cons_of_mem _ (List.mem_append_left _ (List.mem_of_getElem? (i := 1) rfl))) rfl (gi_c (List.mem_cons_of_mem _ (List.mem_append_left _ (List.mem_of_getElem? (i := 2) rfl))) rfl (gi_c (List.mem_cons_of_mem _ (List.mem_append_left _ (List.mem_of_getElem? (i := 3) rfl))) rfl (goodIn_sub hb_0 (List.all_eq_true.mpr gw_c_needCourse)))))) rfl rfl rfl (by decide +kernel) ⟨Nat.le_of_ble_eq_true rfl, Nat.le_of_ble_eq_true rfl⟩) (pr_V (As := [.int p0]) (b := x) (C := RX6) hP hD hK hS hA hE [0] [] rfl rfl rfl 0 13 rfl rfl rfl) rfl rfl hl.1 rfl (lv_room (Nat.le_of_ble_eq_true rfl)) dX6_fork_2 ⟨Nat.le_of_ble_eq_true rfl, Nat.le_of_ble_eq_true rfl⟩) hD hS hA [0] rfl htab hlocks (fun _ h => h) (Nat.le_of_ble_eq_true rfl) (Nat.le_of_ble_eq_true rfl)

def us_c_isLawful : List Cond := .code yX6_isLawful cX6_isLawful 3 (some .boolean) :: (([.methodLink RX6 157 yX6_needCourse, .instanceMethod yX6_needCourse, .selects RX6 yX6_needCourse yX6_needCourse, .initialized RX6] : List Cond) ++ (us_c_needCourse ++ ([])))
theorem gw_c_isLawful : ∀ w ∈ us_c_isLawful, goodWord w = true := gw_cons rfl (gw_app (by decide +kernel) (gw_app gw_c_needCourse (fun _ h => nomatch h)))
set_option maxHeartbeats 4000000 in
set_option maxRecDepth 100000 in
/-- isLawful: there is no such number yet -/
theorem c_isLawful (l : Launch) (hst : l.stackTraces = false) (D : va_G) (x : Nat) (g : Nat) (ca : Nat) (co : Nat) (ra : Nat) (rl : Nat) (tr : Nat) (f9 : Nat) (f10 : Nat) (f11 : Nat) (f12 : Nat) (f13 : Nat) (p0 : Int32) (sz : Nat) : vx_Met l yX6_isLawful us_c_isLawful { frames := 8, cells := 1, slots := 6, locals := 124 } (pw D [.ref x, .int p0] [] [(x, .inr (13, [.ref g, .ref ca, .int 0, .ref co, .int 0, .ref ra, .int 0, .ref rl, .ref tr, .ref f9, .ref f10, .ref f11, .ref f12, .ref f13]))] sz) qN (vx_X (fun E => E = "java/lang/IndexOutOfBoundsException") xb (va_A [(x, .inr (13, [.ref g, .ref ca, .int 0, .ref co, .int 0, .ref ra, .int 0, .ref rl, .ref tr, .ref f9, .ref f10, .ref f11, .ref f12, .ref f13]))] sz)) 1 6 (va_A [(x, .inr (13, [.ref g, .ref ca, .int 0, .ref co, .int 0, .ref ra, .int 0, .ref rl, .ref tr, .ref f9, .ref f10, .ref f11, .ref f12, .ref f13]))] sz) := by
  refine op_X (Qc := fun _ => qN) (px := (fun E => E = "java/lang/IndexOutOfBoundsException")) (by decide +kernel) rfl (Nat.le_of_ble_eq_true rfl) ?_
  intro p e s m args below meth c A ls hx hb hr hml hts hown hlocks hmn htab hA hD hS hP hK hE hsz hl
  have hown : s.vm.findClass RX6 = some m.cls := hown
  have hl : lv_has ls 3 [(0, .ref x), (1, .int p0)] := hl
  have hw_0 := hts (.methodLink RX6 157 yX6_needCourse) (List.mem_cons_of_mem _ (List.mem_append_left _ (List.mem_of_getElem? (i := 0) rfl)))
  have hw_1 := hts (.instanceMethod yX6_needCourse) (List.mem_cons_of_mem _ (List.mem_append_left _ (List.mem_of_getElem? (i := 1) rfl)))
  have hw_2 := hts (.selects RX6 yX6_needCourse yX6_needCourse) (List.mem_cons_of_mem _ (List.mem_append_left _ (List.mem_of_getElem? (i := 2) rfl)))
  have hw_3 := hts (.initialized RX6) (List.mem_cons_of_mem _ (List.mem_append_left _ (List.mem_of_getElem? (i := 3) rfl)))
  have hb_0 : ∀ w ∈ us_c_needCourse, w ∈ us_c_isLawful := fun w h => List.mem_cons_of_mem _ (List.mem_append_right _ (List.mem_append_left _ h))
  refine lv_aload_n hx hb dX6_isLawful_0 rfl (lv_at hl 0 rfl) ?_
  refine lv_iload_n hx hb dX6_isLawful_1 rfl (lv_at hl 1 rfl) ?_
  exact mt_out (vx_runV (As := [.int p0]) (rest := []) ⟨hx, hb, hml, hown, hts⟩ (c_needCourse l hst D x g ca co ra rl tr f9 f10 f11 f12 f13 p0 s.heap.size) (cwV 1 hts (gi_c (List.mem_cons_of_mem _ (List.mem_append_left _ (List.mem_of_getElem? (i := 0) rfl))) rfl (gi_c (List.mem_cons_of_mem _ (List.mem_append_left _ (List.mem_of_getElem? (i := 1) rfl))) rfl (gi_c (List.mem_cons_of_mem _ (List.mem_append_left _ (List.mem_of_getElem? (i := 2) rfl))) rfl (gi_c (List.mem_cons_of_mem _ (List.mem_append_left _ (List.mem_of_getElem? (i := 3) rfl))) rfl (goodIn_sub hb_0 (List.all_eq_true.mpr gw_c_needCourse)))))) rfl rfl rfl (by decide +kernel) ⟨Nat.le_of_ble_eq_true rfl, Nat.le_of_ble_eq_true rfl⟩) (pr_V (As := [.int p0]) (b := x) (C := RX6) hP hD hK hS hA hE [0] [] rfl rfl rfl 0 13 rfl rfl rfl) rfl rfl hl.1 rfl (lv_room (Nat.le_of_ble_eq_true rfl)) dX6_isLawful_2 ⟨Nat.le_of_ble_eq_true rfl, Nat.le_of_ble_eq_true rfl⟩) hD hS hA [0] rfl htab hlocks (fun _ h => h) (Nat.le_of_ble_eq_true rfl) (Nat.le_of_ble_eq_true rfl)

def us_c_lengthOf : List Cond := .code yX6_lengthOf cX6_lengthOf 2 (some .int) :: (([.methodLink RX6 157 yX6_needCourse, .instanceMethod yX6_needCourse, .selects RX6 yX6_needCourse yX6_needCourse, .initialized RX6] : List Cond) ++ (us_c_needCourse ++ ([])))
theorem gw_c_lengthOf : ∀ w ∈ us_c_lengthOf, goodWord w = true := gw_cons rfl (gw_app (by decide +kernel) (gw_app gw_c_needCourse (fun _ h => nomatch h)))
set_option maxHeartbeats 4000000 in
set_option maxRecDepth 100000 in
/-- lengthOf: there is no such number yet -/
theorem c_lengthOf (l : Launch) (hst : l.stackTraces = false) (D : va_G) (x : Nat) (g : Nat) (ca : Nat) (co : Nat) (ra : Nat) (rl : Nat) (tr : Nat) (f9 : Nat) (f10 : Nat) (f11 : Nat) (f12 : Nat) (f13 : Nat) (p0 : Int32) (sz : Nat) : vx_Met l yX6_lengthOf us_c_lengthOf { frames := 8, cells := 1, slots := 6, locals := 124 } (pw D [.ref x, .int p0] [] [(x, .inr (13, [.ref g, .ref ca, .int 0, .ref co, .int 0, .ref ra, .int 0, .ref rl, .ref tr, .ref f9, .ref f10, .ref f11, .ref f12, .ref f13]))] sz) qN (vx_X (fun E => E = "java/lang/IndexOutOfBoundsException") xb (va_A [(x, .inr (13, [.ref g, .ref ca, .int 0, .ref co, .int 0, .ref ra, .int 0, .ref rl, .ref tr, .ref f9, .ref f10, .ref f11, .ref f12, .ref f13]))] sz)) 1 6 (va_A [(x, .inr (13, [.ref g, .ref ca, .int 0, .ref co, .int 0, .ref ra, .int 0, .ref rl, .ref tr, .ref f9, .ref f10, .ref f11, .ref f12, .ref f13]))] sz) := by
  refine op_X (Qc := fun _ => qN) (px := (fun E => E = "java/lang/IndexOutOfBoundsException")) (by decide +kernel) rfl (Nat.le_of_ble_eq_true rfl) ?_
  intro p e s m args below meth c A ls hx hb hr hml hts hown hlocks hmn htab hA hD hS hP hK hE hsz hl
  have hown : s.vm.findClass RX6 = some m.cls := hown
  have hl : lv_has ls 2 [(0, .ref x), (1, .int p0)] := hl
  have hw_0 := hts (.methodLink RX6 157 yX6_needCourse) (List.mem_cons_of_mem _ (List.mem_append_left _ (List.mem_of_getElem? (i := 0) rfl)))
  have hw_1 := hts (.instanceMethod yX6_needCourse) (List.mem_cons_of_mem _ (List.mem_append_left _ (List.mem_of_getElem? (i := 1) rfl)))
  have hw_2 := hts (.selects RX6 yX6_needCourse yX6_needCourse) (List.mem_cons_of_mem _ (List.mem_append_left _ (List.mem_of_getElem? (i := 2) rfl)))
  have hw_3 := hts (.initialized RX6) (List.mem_cons_of_mem _ (List.mem_append_left _ (List.mem_of_getElem? (i := 3) rfl)))
  have hb_0 : ∀ w ∈ us_c_needCourse, w ∈ us_c_lengthOf := fun w h => List.mem_cons_of_mem _ (List.mem_append_right _ (List.mem_append_left _ h))
  refine lv_aload_n hx hb dX6_lengthOf_0 rfl (lv_at hl 0 rfl) ?_
  refine lv_aload_n hx hb dX6_lengthOf_1 rfl (lv_at hl 0 rfl) ?_
  refine lv_iload_n hx hb dX6_lengthOf_2 rfl (lv_at hl 1 rfl) ?_
  exact mt_out (vx_runV (As := [.int p0]) (rest := [.ref x]) ⟨hx, hb, hml, hown, hts⟩ (c_needCourse l hst D x g ca co ra rl tr f9 f10 f11 f12 f13 p0 s.heap.size) (cwV 1 hts (gi_c (List.mem_cons_of_mem _ (List.mem_append_left _ (List.mem_of_getElem? (i := 0) rfl))) rfl (gi_c (List.mem_cons_of_mem _ (List.mem_append_left _ (List.mem_of_getElem? (i := 1) rfl))) rfl (gi_c (List.mem_cons_of_mem _ (List.mem_append_left _ (List.mem_of_getElem? (i := 2) rfl))) rfl (gi_c (List.mem_cons_of_mem _ (List.mem_append_left _ (List.mem_of_getElem? (i := 3) rfl))) rfl (goodIn_sub hb_0 (List.all_eq_true.mpr gw_c_needCourse)))))) rfl rfl rfl (by decide +kernel) ⟨Nat.le_of_ble_eq_true rfl, Nat.le_of_ble_eq_true rfl⟩) (pr_V (As := [.int p0]) (b := x) (C := RX6) hP hD hK hS hA hE [0] [] rfl rfl rfl 0 13 rfl rfl rfl) rfl rfl hl.1 rfl (lv_room (Nat.le_of_ble_eq_true rfl)) dX6_lengthOf_3 ⟨Nat.le_of_ble_eq_true rfl, Nat.le_of_ble_eq_true rfl⟩) hD hS hA [0] rfl htab hlocks (fun _ h => h) (Nat.le_of_ble_eq_true rfl) (Nat.le_of_ble_eq_true rfl)

def us_c_branches : List Cond := .code yX6_branches cX6_branches 5 (some .int) :: (([.methodLink RX6 200 yX6_needRunner, .instanceMethod yX6_needRunner, .selects RX6 yX6_needRunner yX6_needRunner, .initialized RX6] : List Cond) ++ (us_c_needRunner ++ ([])))
theorem gw_c_branches : ∀ w ∈ us_c_branches, goodWord w = true := gw_cons rfl (gw_app (by decide +kernel) (gw_app gw_c_needRunner (fun _ h => nomatch h)))
set_option maxHeartbeats 4000000 in
set_option maxRecDepth 100000 in
/-- branches: there is no such number yet -/
theorem c_branches (l : Launch) (hst : l.stackTraces = false) (D : va_G) (x : Nat) (g : Nat) (ca : Nat) (co : Nat) (ra : Nat) (rl : Nat) (tr : Nat) (f9 : Nat) (f10 : Nat) (f11 : Nat) (f12 : Nat) (f13 : Nat) (p0 : Int32) (p1 : Int32) (sz : Nat) : vx_Met l yX6_branches us_c_branches { frames := 8, cells := 1, slots := 6, locals := 124 } (pw D [.ref x, .int p0, .int p1] [] [(x, .inr (13, [.ref g, .ref ca, .int 0, .ref co, .int 0, .ref ra, .int 0, .ref rl, .ref tr, .ref f9, .ref f10, .ref f11, .ref f12, .ref f13]))] sz) qN (vx_X (fun E => E = "java/lang/IndexOutOfBoundsException") xb (va_A [(x, .inr (13, [.ref g, .ref ca, .int 0, .ref co, .int 0, .ref ra, .int 0, .ref rl, .ref tr, .ref f9, .ref f10, .ref f11, .ref f12, .ref f13]))] sz)) 1 6 (va_A [(x, .inr (13, [.ref g, .ref ca, .int 0, .ref co, .int 0, .ref ra, .int 0, .ref rl, .ref tr, .ref f9, .ref f10, .ref f11, .ref f12, .ref f13]))] sz) := by
  refine op_X (Qc := fun _ => qN) (px := (fun E => E = "java/lang/IndexOutOfBoundsException")) (by decide +kernel) rfl (Nat.le_of_ble_eq_true rfl) ?_
  intro p e s m args below meth c A ls hx hb hr hml hts hown hlocks hmn htab hA hD hS hP hK hE hsz hl
  have hown : s.vm.findClass RX6 = some m.cls := hown
  have hl : lv_has ls 5 [(0, .ref x), (1, .int p0), (2, .int p1)] := hl
  have hw_0 := hts (.methodLink RX6 200 yX6_needRunner) (List.mem_cons_of_mem _ (List.mem_append_left _ (List.mem_of_getElem? (i := 0) rfl)))
  have hw_1 := hts (.instanceMethod yX6_needRunner) (List.mem_cons_of_mem _ (List.mem_append_left _ (List.mem_of_getElem? (i := 1) rfl)))
  have hw_2 := hts (.selects RX6 yX6_needRunner yX6_needRunner) (List.mem_cons_of_mem _ (List.mem_append_left _ (List.mem_of_getElem? (i := 2) rfl)))
  have hw_3 := hts (.initialized RX6) (List.mem_cons_of_mem _ (List.mem_append_left _ (List.mem_of_getElem? (i := 3) rfl)))
  have hb_0 : ∀ w ∈ us_c_needRunner, w ∈ us_c_branches := fun w h => List.mem_cons_of_mem _ (List.mem_append_right _ (List.mem_append_left _ h))
  refine lv_aload_n hx hb dX6_branches_0 rfl (lv_at hl 0 rfl) ?_
  refine lv_iload_n hx hb dX6_branches_1 rfl (lv_at hl 1 rfl) ?_
  exact mt_out (vx_runV (As := [.int p0]) (rest := []) ⟨hx, hb, hml, hown, hts⟩ (c_needRunner l hst D x g ca co ra rl tr f9 f10 f11 f12 f13 p0 s.heap.size) (cwV 1 hts (gi_c (List.mem_cons_of_mem _ (List.mem_append_left _ (List.mem_of_getElem? (i := 0) rfl))) rfl (gi_c (List.mem_cons_of_mem _ (List.mem_append_left _ (List.mem_of_getElem? (i := 1) rfl))) rfl (gi_c (List.mem_cons_of_mem _ (List.mem_append_left _ (List.mem_of_getElem? (i := 2) rfl))) rfl (gi_c (List.mem_cons_of_mem _ (List.mem_append_left _ (List.mem_of_getElem? (i := 3) rfl))) rfl (goodIn_sub hb_0 (List.all_eq_true.mpr gw_c_needRunner)))))) rfl rfl rfl (by decide +kernel) ⟨Nat.le_of_ble_eq_true rfl, Nat.le_of_ble_eq_true rfl⟩) (pr_V (As := [.int p0]) (b := x) (C := RX6) hP hD hK hS hA hE [0] [] rfl rfl rfl 0 13 rfl rfl rfl) rfl rfl hl.1 rfl (lv_room (Nat.le_of_ble_eq_true rfl)) dX6_branches_2 ⟨Nat.le_of_ble_eq_true rfl, Nat.le_of_ble_eq_true rfl⟩) hD hS hA [0] rfl htab hlocks (fun _ h => h) (Nat.le_of_ble_eq_true rfl) (Nat.le_of_ble_eq_true rfl)

def us_c_start : List Cond := .code yX6_start cX6_start 5 (some .int) :: (([.methodLink RX6 200 yX6_needRunner, .instanceMethod yX6_needRunner, .selects RX6 yX6_needRunner yX6_needRunner, .initialized RX6] : List Cond) ++ (us_c_needRunner ++ ([])))
theorem gw_c_start : ∀ w ∈ us_c_start, goodWord w = true := gw_cons rfl (gw_app (by decide +kernel) (gw_app gw_c_needRunner (fun _ h => nomatch h)))
set_option maxHeartbeats 4000000 in
set_option maxRecDepth 100000 in
/-- start: there is no such number yet -/
theorem c_start (l : Launch) (hst : l.stackTraces = false) (D : va_G) (x : Nat) (g : Nat) (ca : Nat) (co : Nat) (ra : Nat) (rl : Nat) (tr : Nat) (f9 : Nat) (f10 : Nat) (f11 : Nat) (f12 : Nat) (f13 : Nat) (p0 : Int32) (p1 : Int32) (sz : Nat) : vx_Met l yX6_start us_c_start { frames := 8, cells := 1, slots := 6, locals := 124 } (pw D [.ref x, .int p0, .int p1] [] [(x, .inr (13, [.ref g, .ref ca, .int 0, .ref co, .int 0, .ref ra, .int 0, .ref rl, .ref tr, .ref f9, .ref f10, .ref f11, .ref f12, .ref f13]))] sz) qN (vx_X (fun E => E = "java/lang/IndexOutOfBoundsException") xb (va_A [(x, .inr (13, [.ref g, .ref ca, .int 0, .ref co, .int 0, .ref ra, .int 0, .ref rl, .ref tr, .ref f9, .ref f10, .ref f11, .ref f12, .ref f13]))] sz)) 1 6 (va_A [(x, .inr (13, [.ref g, .ref ca, .int 0, .ref co, .int 0, .ref ra, .int 0, .ref rl, .ref tr, .ref f9, .ref f10, .ref f11, .ref f12, .ref f13]))] sz) := by
  refine op_X (Qc := fun _ => qN) (px := (fun E => E = "java/lang/IndexOutOfBoundsException")) (by decide +kernel) rfl (Nat.le_of_ble_eq_true rfl) ?_
  intro p e s m args below meth c A ls hx hb hr hml hts hown hlocks hmn htab hA hD hS hP hK hE hsz hl
  have hown : s.vm.findClass RX6 = some m.cls := hown
  have hl : lv_has ls 5 [(0, .ref x), (1, .int p0), (2, .int p1)] := hl
  have hw_0 := hts (.methodLink RX6 200 yX6_needRunner) (List.mem_cons_of_mem _ (List.mem_append_left _ (List.mem_of_getElem? (i := 0) rfl)))
  have hw_1 := hts (.instanceMethod yX6_needRunner) (List.mem_cons_of_mem _ (List.mem_append_left _ (List.mem_of_getElem? (i := 1) rfl)))
  have hw_2 := hts (.selects RX6 yX6_needRunner yX6_needRunner) (List.mem_cons_of_mem _ (List.mem_append_left _ (List.mem_of_getElem? (i := 2) rfl)))
  have hw_3 := hts (.initialized RX6) (List.mem_cons_of_mem _ (List.mem_append_left _ (List.mem_of_getElem? (i := 3) rfl)))
  have hb_0 : ∀ w ∈ us_c_needRunner, w ∈ us_c_start := fun w h => List.mem_cons_of_mem _ (List.mem_append_right _ (List.mem_append_left _ h))
  refine lv_aload_n hx hb dX6_start_0 rfl (lv_at hl 0 rfl) ?_
  refine lv_iload_n hx hb dX6_start_1 rfl (lv_at hl 1 rfl) ?_
  exact mt_out (vx_runV (As := [.int p0]) (rest := []) ⟨hx, hb, hml, hown, hts⟩ (c_needRunner l hst D x g ca co ra rl tr f9 f10 f11 f12 f13 p0 s.heap.size) (cwV 1 hts (gi_c (List.mem_cons_of_mem _ (List.mem_append_left _ (List.mem_of_getElem? (i := 0) rfl))) rfl (gi_c (List.mem_cons_of_mem _ (List.mem_append_left _ (List.mem_of_getElem? (i := 1) rfl))) rfl (gi_c (List.mem_cons_of_mem _ (List.mem_append_left _ (List.mem_of_getElem? (i := 2) rfl))) rfl (gi_c (List.mem_cons_of_mem _ (List.mem_append_left _ (List.mem_of_getElem? (i := 3) rfl))) rfl (goodIn_sub hb_0 (List.all_eq_true.mpr gw_c_needRunner)))))) rfl rfl rfl (by decide +kernel) ⟨Nat.le_of_ble_eq_true rfl, Nat.le_of_ble_eq_true rfl⟩) (pr_V (As := [.int p0]) (b := x) (C := RX6) hP hD hK hS hA hE [0] [] rfl rfl rfl 0 13 rfl rfl rfl) rfl rfl hl.1 rfl (lv_room (Nat.le_of_ble_eq_true rfl)) dX6_start_2 ⟨Nat.le_of_ble_eq_true rfl, Nat.le_of_ble_eq_true rfl⟩) hD hS hA [0] rfl htab hlocks (fun _ h => h) (Nat.le_of_ble_eq_true rfl) (Nat.le_of_ble_eq_true rfl)

def us_c_draw : List Cond := .code yX6_draw cX6_draw 6 (some .int) :: (([.methodLink RX6 157 yX6_needCourse, .instanceMethod yX6_needCourse, .selects RX6 yX6_needCourse yX6_needCourse, .initialized RX6] : List Cond) ++ (us_c_needCourse ++ ([])))
theorem gw_c_draw : ∀ w ∈ us_c_draw, goodWord w = true := gw_cons rfl (gw_app (by decide +kernel) (gw_app gw_c_needCourse (fun _ h => nomatch h)))
set_option maxHeartbeats 4000000 in
set_option maxRecDepth 100000 in
/-- draw: there is no such number yet -/
theorem c_draw (l : Launch) (hst : l.stackTraces = false) (D : va_G) (x : Nat) (g : Nat) (ca : Nat) (co : Nat) (ra : Nat) (rl : Nat) (tr : Nat) (f9 : Nat) (f10 : Nat) (f11 : Nat) (f12 : Nat) (f13 : Nat) (p0 : Int32) (p1 : Int32) (p2 : Int32) (p3 : Int32) (sz : Nat) : vx_Met l yX6_draw us_c_draw { frames := 8, cells := 1, slots := 6, locals := 124 } (pw D [.ref x, .int p0, .int p1, .int p2, .int p3] [] [(x, .inr (13, [.ref g, .ref ca, .int 0, .ref co, .int 0, .ref ra, .int 0, .ref rl, .ref tr, .ref f9, .ref f10, .ref f11, .ref f12, .ref f13]))] sz) qN (vx_X (fun E => E = "java/lang/IndexOutOfBoundsException") xb (va_A [(x, .inr (13, [.ref g, .ref ca, .int 0, .ref co, .int 0, .ref ra, .int 0, .ref rl, .ref tr, .ref f9, .ref f10, .ref f11, .ref f12, .ref f13]))] sz)) 1 6 (va_A [(x, .inr (13, [.ref g, .ref ca, .int 0, .ref co, .int 0, .ref ra, .int 0, .ref rl, .ref tr, .ref f9, .ref f10, .ref f11, .ref f12, .ref f13]))] sz) := by
  refine op_X (Qc := fun _ => qN) (px := (fun E => E = "java/lang/IndexOutOfBoundsException")) (by decide +kernel) rfl (Nat.le_of_ble_eq_true rfl) ?_
  intro p e s m args below meth c A ls hx hb hr hml hts hown hlocks hmn htab hA hD hS hP hK hE hsz hl
  have hown : s.vm.findClass RX6 = some m.cls := hown
  have hl : lv_has ls 6 [(0, .ref x), (1, .int p0), (2, .int p1), (3, .int p2), (4, .int p3)] := hl
  have hw_0 := hts (.methodLink RX6 157 yX6_needCourse) (List.mem_cons_of_mem _ (List.mem_append_left _ (List.mem_of_getElem? (i := 0) rfl)))
  have hw_1 := hts (.instanceMethod yX6_needCourse) (List.mem_cons_of_mem _ (List.mem_append_left _ (List.mem_of_getElem? (i := 1) rfl)))
  have hw_2 := hts (.selects RX6 yX6_needCourse yX6_needCourse) (List.mem_cons_of_mem _ (List.mem_append_left _ (List.mem_of_getElem? (i := 2) rfl)))
  have hw_3 := hts (.initialized RX6) (List.mem_cons_of_mem _ (List.mem_append_left _ (List.mem_of_getElem? (i := 3) rfl)))
  have hb_0 : ∀ w ∈ us_c_needCourse, w ∈ us_c_draw := fun w h => List.mem_cons_of_mem _ (List.mem_append_right _ (List.mem_append_left _ h))
  refine lv_aload_n hx hb dX6_draw_0 rfl (lv_at hl 0 rfl) ?_
  refine lv_iload_n hx hb dX6_draw_1 rfl (lv_at hl 1 rfl) ?_
  exact mt_out (vx_runV (As := [.int p0]) (rest := []) ⟨hx, hb, hml, hown, hts⟩ (c_needCourse l hst D x g ca co ra rl tr f9 f10 f11 f12 f13 p0 s.heap.size) (cwV 1 hts (gi_c (List.mem_cons_of_mem _ (List.mem_append_left _ (List.mem_of_getElem? (i := 0) rfl))) rfl (gi_c (List.mem_cons_of_mem _ (List.mem_append_left _ (List.mem_of_getElem? (i := 1) rfl))) rfl (gi_c (List.mem_cons_of_mem _ (List.mem_append_left _ (List.mem_of_getElem? (i := 2) rfl))) rfl (gi_c (List.mem_cons_of_mem _ (List.mem_append_left _ (List.mem_of_getElem? (i := 3) rfl))) rfl (goodIn_sub hb_0 (List.all_eq_true.mpr gw_c_needCourse)))))) rfl rfl rfl (by decide +kernel) ⟨Nat.le_of_ble_eq_true rfl, Nat.le_of_ble_eq_true rfl⟩) (pr_V (As := [.int p0]) (b := x) (C := RX6) hP hD hK hS hA hE [0] [] rfl rfl rfl 0 13 rfl rfl rfl) rfl rfl hl.1 rfl (lv_room (Nat.le_of_ble_eq_true rfl)) dX6_draw_2 ⟨Nat.le_of_ble_eq_true rfl, Nat.le_of_ble_eq_true rfl⟩) hD hS hA [0] rfl htab hlocks (fun _ h => h) (Nat.le_of_ble_eq_true rfl) (Nat.le_of_ble_eq_true rfl)

def us_c_startOf : List Cond := .code yX6_startOf cX6_startOf 3 (some .int) :: (([.methodLink RX6 200 yX6_needRunner, .instanceMethod yX6_needRunner, .selects RX6 yX6_needRunner yX6_needRunner, .initialized RX6] : List Cond) ++ (us_c_needRunner ++ ([])))
theorem gw_c_startOf : ∀ w ∈ us_c_startOf, goodWord w = true := gw_cons rfl (gw_app (by decide +kernel) (gw_app gw_c_needRunner (fun _ h => nomatch h)))
set_option maxHeartbeats 4000000 in
set_option maxRecDepth 100000 in
/-- startOf: there is no such number yet -/
theorem c_startOf (l : Launch) (hst : l.stackTraces = false) (D : va_G) (x : Nat) (g : Nat) (ca : Nat) (co : Nat) (ra : Nat) (rl : Nat) (tr : Nat) (f9 : Nat) (f10 : Nat) (f11 : Nat) (f12 : Nat) (f13 : Nat) (p0 : Int32) (sz : Nat) : vx_Met l yX6_startOf us_c_startOf { frames := 8, cells := 1, slots := 6, locals := 124 } (pw D [.ref x, .int p0] [] [(x, .inr (13, [.ref g, .ref ca, .int 0, .ref co, .int 0, .ref ra, .int 0, .ref rl, .ref tr, .ref f9, .ref f10, .ref f11, .ref f12, .ref f13]))] sz) qN (vx_X (fun E => E = "java/lang/IndexOutOfBoundsException") xb (va_A [(x, .inr (13, [.ref g, .ref ca, .int 0, .ref co, .int 0, .ref ra, .int 0, .ref rl, .ref tr, .ref f9, .ref f10, .ref f11, .ref f12, .ref f13]))] sz)) 1 6 (va_A [(x, .inr (13, [.ref g, .ref ca, .int 0, .ref co, .int 0, .ref ra, .int 0, .ref rl, .ref tr, .ref f9, .ref f10, .ref f11, .ref f12, .ref f13]))] sz) := by
  refine op_X (Qc := fun _ => qN) (px := (fun E => E = "java/lang/IndexOutOfBoundsException")) (by decide +kernel) rfl (Nat.le_of_ble_eq_true rfl) ?_
  intro p e s m args below meth c A ls hx hb hr hml hts hown hlocks hmn htab hA hD hS hP hK hE hsz hl
  have hown : s.vm.findClass RX6 = some m.cls := hown
  have hl : lv_has ls 3 [(0, .ref x), (1, .int p0)] := hl
  have hw_0 := hts (.methodLink RX6 200 yX6_needRunner) (List.mem_cons_of_mem _ (List.mem_append_left _ (List.mem_of_getElem? (i := 0) rfl)))
  have hw_1 := hts (.instanceMethod yX6_needRunner) (List.mem_cons_of_mem _ (List.mem_append_left _ (List.mem_of_getElem? (i := 1) rfl)))
  have hw_2 := hts (.selects RX6 yX6_needRunner yX6_needRunner) (List.mem_cons_of_mem _ (List.mem_append_left _ (List.mem_of_getElem? (i := 2) rfl)))
  have hw_3 := hts (.initialized RX6) (List.mem_cons_of_mem _ (List.mem_append_left _ (List.mem_of_getElem? (i := 3) rfl)))
  have hb_0 : ∀ w ∈ us_c_needRunner, w ∈ us_c_startOf := fun w h => List.mem_cons_of_mem _ (List.mem_append_right _ (List.mem_append_left _ h))
  refine lv_aload_n hx hb dX6_startOf_0 rfl (lv_at hl 0 rfl) ?_
  refine lv_iload_n hx hb dX6_startOf_1 rfl (lv_at hl 1 rfl) ?_
  exact mt_out (vx_runV (As := [.int p0]) (rest := []) ⟨hx, hb, hml, hown, hts⟩ (c_needRunner l hst D x g ca co ra rl tr f9 f10 f11 f12 f13 p0 s.heap.size) (cwV 1 hts (gi_c (List.mem_cons_of_mem _ (List.mem_append_left _ (List.mem_of_getElem? (i := 0) rfl))) rfl (gi_c (List.mem_cons_of_mem _ (List.mem_append_left _ (List.mem_of_getElem? (i := 1) rfl))) rfl (gi_c (List.mem_cons_of_mem _ (List.mem_append_left _ (List.mem_of_getElem? (i := 2) rfl))) rfl (gi_c (List.mem_cons_of_mem _ (List.mem_append_left _ (List.mem_of_getElem? (i := 3) rfl))) rfl (goodIn_sub hb_0 (List.all_eq_true.mpr gw_c_needRunner)))))) rfl rfl rfl (by decide +kernel) ⟨Nat.le_of_ble_eq_true rfl, Nat.le_of_ble_eq_true rfl⟩) (pr_V (As := [.int p0]) (b := x) (C := RX6) hP hD hK hS hA hE [0] [] rfl rfl rfl 0 13 rfl rfl rfl) rfl rfl hl.1 rfl (lv_room (Nat.le_of_ble_eq_true rfl)) dX6_startOf_2 ⟨Nat.le_of_ble_eq_true rfl, Nat.le_of_ble_eq_true rfl⟩) hD hS hA [0] rfl htab hlocks (fun _ h => h) (Nat.le_of_ble_eq_true rfl) (Nat.le_of_ble_eq_true rfl)

def us_c_punch : List Cond := .code yX6_punch cX6_punch 6 (some .int) :: (([.methodLink RX6 200 yX6_needRunner, .instanceMethod yX6_needRunner, .selects RX6 yX6_needRunner yX6_needRunner, .initialized RX6] : List Cond) ++ (us_c_needRunner ++ ([])))
theorem gw_c_punch : ∀ w ∈ us_c_punch, goodWord w = true := gw_cons rfl (gw_app (by decide +kernel) (gw_app gw_c_needRunner (fun _ h => nomatch h)))
set_option maxHeartbeats 4000000 in
set_option maxRecDepth 100000 in
/-- punch: there is no such number yet -/
theorem c_punch (l : Launch) (hst : l.stackTraces = false) (D : va_G) (x : Nat) (g : Nat) (ca : Nat) (co : Nat) (ra : Nat) (rl : Nat) (tr : Nat) (f9 : Nat) (f10 : Nat) (f11 : Nat) (f12 : Nat) (f13 : Nat) (p0 : Int32) (p1 : Int32) (p2 : Int32) (sz : Nat) : vx_Met l yX6_punch us_c_punch { frames := 8, cells := 1, slots := 6, locals := 124 } (pw D [.ref x, .int p0, .int p1, .int p2] [] [(x, .inr (13, [.ref g, .ref ca, .int 0, .ref co, .int 0, .ref ra, .int 0, .ref rl, .ref tr, .ref f9, .ref f10, .ref f11, .ref f12, .ref f13]))] sz) qN (vx_X (fun E => E = "java/lang/IndexOutOfBoundsException") xb (va_A [(x, .inr (13, [.ref g, .ref ca, .int 0, .ref co, .int 0, .ref ra, .int 0, .ref rl, .ref tr, .ref f9, .ref f10, .ref f11, .ref f12, .ref f13]))] sz)) 1 6 (va_A [(x, .inr (13, [.ref g, .ref ca, .int 0, .ref co, .int 0, .ref ra, .int 0, .ref rl, .ref tr, .ref f9, .ref f10, .ref f11, .ref f12, .ref f13]))] sz) := by
  refine op_X (Qc := fun _ => qN) (px := (fun E => E = "java/lang/IndexOutOfBoundsException")) (by decide +kernel) rfl (Nat.le_of_ble_eq_true rfl) ?_
  intro p e s m args below meth c A ls hx hb hr hml hts hown hlocks hmn htab hA hD hS hP hK hE hsz hl
  have hown : s.vm.findClass RX6 = some m.cls := hown
  have hl : lv_has ls 6 [(0, .ref x), (1, .int p0), (2, .int p1), (3, .int p2)] := hl
  have hw_0 := hts (.methodLink RX6 200 yX6_needRunner) (List.mem_cons_of_mem _ (List.mem_append_left _ (List.mem_of_getElem? (i := 0) rfl)))
  have hw_1 := hts (.instanceMethod yX6_needRunner) (List.mem_cons_of_mem _ (List.mem_append_left _ (List.mem_of_getElem? (i := 1) rfl)))
  have hw_2 := hts (.selects RX6 yX6_needRunner yX6_needRunner) (List.mem_cons_of_mem _ (List.mem_append_left _ (List.mem_of_getElem? (i := 2) rfl)))
  have hw_3 := hts (.initialized RX6) (List.mem_cons_of_mem _ (List.mem_append_left _ (List.mem_of_getElem? (i := 3) rfl)))
  have hb_0 : ∀ w ∈ us_c_needRunner, w ∈ us_c_punch := fun w h => List.mem_cons_of_mem _ (List.mem_append_right _ (List.mem_append_left _ h))
  refine lv_aload_n hx hb dX6_punch_0 rfl (lv_at hl 0 rfl) ?_
  refine lv_iload_n hx hb dX6_punch_1 rfl (lv_at hl 1 rfl) ?_
  exact mt_out (vx_runV (As := [.int p0]) (rest := []) ⟨hx, hb, hml, hown, hts⟩ (c_needRunner l hst D x g ca co ra rl tr f9 f10 f11 f12 f13 p0 s.heap.size) (cwV 1 hts (gi_c (List.mem_cons_of_mem _ (List.mem_append_left _ (List.mem_of_getElem? (i := 0) rfl))) rfl (gi_c (List.mem_cons_of_mem _ (List.mem_append_left _ (List.mem_of_getElem? (i := 1) rfl))) rfl (gi_c (List.mem_cons_of_mem _ (List.mem_append_left _ (List.mem_of_getElem? (i := 2) rfl))) rfl (gi_c (List.mem_cons_of_mem _ (List.mem_append_left _ (List.mem_of_getElem? (i := 3) rfl))) rfl (goodIn_sub hb_0 (List.all_eq_true.mpr gw_c_needRunner)))))) rfl rfl rfl (by decide +kernel) ⟨Nat.le_of_ble_eq_true rfl, Nat.le_of_ble_eq_true rfl⟩) (pr_V (As := [.int p0]) (b := x) (C := RX6) hP hD hK hS hA hE [0] [] rfl rfl rfl 0 13 rfl rfl rfl) rfl rfl hl.1 rfl (lv_room (Nat.le_of_ble_eq_true rfl)) dX6_punch_2 ⟨Nat.le_of_ble_eq_true rfl, Nat.le_of_ble_eq_true rfl⟩) hD hS hA [0] rfl htab hlocks (fun _ h => h) (Nat.le_of_ble_eq_true rfl) (Nat.le_of_ble_eq_true rfl)

def us_c_finish : List Cond := .code yX6_finish cX6_finish 4 (some .int) :: (([.methodLink RX6 200 yX6_needRunner, .instanceMethod yX6_needRunner, .selects RX6 yX6_needRunner yX6_needRunner, .initialized RX6] : List Cond) ++ (us_c_needRunner ++ ([])))
theorem gw_c_finish : ∀ w ∈ us_c_finish, goodWord w = true := gw_cons rfl (gw_app (by decide +kernel) (gw_app gw_c_needRunner (fun _ h => nomatch h)))
set_option maxHeartbeats 4000000 in
set_option maxRecDepth 100000 in
/-- finish: there is no such number yet -/
theorem c_finish (l : Launch) (hst : l.stackTraces = false) (D : va_G) (x : Nat) (g : Nat) (ca : Nat) (co : Nat) (ra : Nat) (rl : Nat) (tr : Nat) (f9 : Nat) (f10 : Nat) (f11 : Nat) (f12 : Nat) (f13 : Nat) (p0 : Int32) (p1 : Int32) (sz : Nat) : vx_Met l yX6_finish us_c_finish { frames := 8, cells := 1, slots := 6, locals := 124 } (pw D [.ref x, .int p0, .int p1] [] [(x, .inr (13, [.ref g, .ref ca, .int 0, .ref co, .int 0, .ref ra, .int 0, .ref rl, .ref tr, .ref f9, .ref f10, .ref f11, .ref f12, .ref f13]))] sz) qN (vx_X (fun E => E = "java/lang/IndexOutOfBoundsException") xb (va_A [(x, .inr (13, [.ref g, .ref ca, .int 0, .ref co, .int 0, .ref ra, .int 0, .ref rl, .ref tr, .ref f9, .ref f10, .ref f11, .ref f12, .ref f13]))] sz)) 1 6 (va_A [(x, .inr (13, [.ref g, .ref ca, .int 0, .ref co, .int 0, .ref ra, .int 0, .ref rl, .ref tr, .ref f9, .ref f10, .ref f11, .ref f12, .ref f13]))] sz) := by
  refine op_X (Qc := fun _ => qN) (px := (fun E => E = "java/lang/IndexOutOfBoundsException")) (by decide +kernel) rfl (Nat.le_of_ble_eq_true rfl) ?_
  intro p e s m args below meth c A ls hx hb hr hml hts hown hlocks hmn htab hA hD hS hP hK hE hsz hl
  have hown : s.vm.findClass RX6 = some m.cls := hown
  have hl : lv_has ls 4 [(0, .ref x), (1, .int p0), (2, .int p1)] := hl
  have hw_0 := hts (.methodLink RX6 200 yX6_needRunner) (List.mem_cons_of_mem _ (List.mem_append_left _ (List.mem_of_getElem? (i := 0) rfl)))
  have hw_1 := hts (.instanceMethod yX6_needRunner) (List.mem_cons_of_mem _ (List.mem_append_left _ (List.mem_of_getElem? (i := 1) rfl)))
  have hw_2 := hts (.selects RX6 yX6_needRunner yX6_needRunner) (List.mem_cons_of_mem _ (List.mem_append_left _ (List.mem_of_getElem? (i := 2) rfl)))
  have hw_3 := hts (.initialized RX6) (List.mem_cons_of_mem _ (List.mem_append_left _ (List.mem_of_getElem? (i := 3) rfl)))
  have hb_0 : ∀ w ∈ us_c_needRunner, w ∈ us_c_finish := fun w h => List.mem_cons_of_mem _ (List.mem_append_right _ (List.mem_append_left _ h))
  refine lv_aload_n hx hb dX6_finish_0 rfl (lv_at hl 0 rfl) ?_
  refine lv_iload_n hx hb dX6_finish_1 rfl (lv_at hl 1 rfl) ?_
  exact mt_out (vx_runV (As := [.int p0]) (rest := []) ⟨hx, hb, hml, hown, hts⟩ (c_needRunner l hst D x g ca co ra rl tr f9 f10 f11 f12 f13 p0 s.heap.size) (cwV 1 hts (gi_c (List.mem_cons_of_mem _ (List.mem_append_left _ (List.mem_of_getElem? (i := 0) rfl))) rfl (gi_c (List.mem_cons_of_mem _ (List.mem_append_left _ (List.mem_of_getElem? (i := 1) rfl))) rfl (gi_c (List.mem_cons_of_mem _ (List.mem_append_left _ (List.mem_of_getElem? (i := 2) rfl))) rfl (gi_c (List.mem_cons_of_mem _ (List.mem_append_left _ (List.mem_of_getElem? (i := 3) rfl))) rfl (goodIn_sub hb_0 (List.all_eq_true.mpr gw_c_needRunner)))))) rfl rfl rfl (by decide +kernel) ⟨Nat.le_of_ble_eq_true rfl, Nat.le_of_ble_eq_true rfl⟩) (pr_V (As := [.int p0]) (b := x) (C := RX6) hP hD hK hS hA hE [0] [] rfl rfl rfl 0 13 rfl rfl rfl) rfl rfl hl.1 rfl (lv_room (Nat.le_of_ble_eq_true rfl)) dX6_finish_2 ⟨Nat.le_of_ble_eq_true rfl, Nat.le_of_ble_eq_true rfl⟩) hD hS hA [0] rfl htab hlocks (fun _ h => h) (Nat.le_of_ble_eq_true rfl) (Nat.le_of_ble_eq_true rfl)

def us_c_dead : List Cond := .code yX6_dead cX6_dead 5 (some .int) :: (([.methodLink RX6 145 yX6_needControl, .instanceMethod yX6_needControl, .selects RX6 yX6_needControl yX6_needControl, .initialized RX6] : List Cond) ++ (us_c_needControl ++ ([])))
theorem gw_c_dead : ∀ w ∈ us_c_dead, goodWord w = true := gw_cons rfl (gw_app (by decide +kernel) (gw_app gw_c_needControl (fun _ h => nomatch h)))
set_option maxHeartbeats 4000000 in
set_option maxRecDepth 100000 in
/-- dead: there is no such number yet -/
theorem c_dead (l : Launch) (hst : l.stackTraces = false) (D : va_G) (x : Nat) (g : Nat) (ca : Nat) (co : Nat) (ra : Nat) (rl : Nat) (tr : Nat) (f9 : Nat) (f10 : Nat) (f11 : Nat) (f12 : Nat) (f13 : Nat) (p0 : Int32) (p1 : Int32) (p2 : Int32) (sz : Nat) : vx_Met l yX6_dead us_c_dead { frames := 8, cells := 1, slots := 6, locals := 124 } (pw D [.ref x, .int p0, .int p1, .int p2] [] [(x, .inr (13, [.ref g, .ref ca, .int 0, .ref co, .int 0, .ref ra, .int 0, .ref rl, .ref tr, .ref f9, .ref f10, .ref f11, .ref f12, .ref f13]))] sz) qN (vx_X (fun E => E = "java/lang/IndexOutOfBoundsException") xb (va_A [(x, .inr (13, [.ref g, .ref ca, .int 0, .ref co, .int 0, .ref ra, .int 0, .ref rl, .ref tr, .ref f9, .ref f10, .ref f11, .ref f12, .ref f13]))] sz)) 1 6 (va_A [(x, .inr (13, [.ref g, .ref ca, .int 0, .ref co, .int 0, .ref ra, .int 0, .ref rl, .ref tr, .ref f9, .ref f10, .ref f11, .ref f12, .ref f13]))] sz) := by
  refine op_X (Qc := fun _ => qN) (px := (fun E => E = "java/lang/IndexOutOfBoundsException")) (by decide +kernel) rfl (Nat.le_of_ble_eq_true rfl) ?_
  intro p e s m args below meth c A ls hx hb hr hml hts hown hlocks hmn htab hA hD hS hP hK hE hsz hl
  have hown : s.vm.findClass RX6 = some m.cls := hown
  have hl : lv_has ls 5 [(0, .ref x), (1, .int p0), (2, .int p1), (3, .int p2)] := hl
  have hw_0 := hts (.methodLink RX6 145 yX6_needControl) (List.mem_cons_of_mem _ (List.mem_append_left _ (List.mem_of_getElem? (i := 0) rfl)))
  have hw_1 := hts (.instanceMethod yX6_needControl) (List.mem_cons_of_mem _ (List.mem_append_left _ (List.mem_of_getElem? (i := 1) rfl)))
  have hw_2 := hts (.selects RX6 yX6_needControl yX6_needControl) (List.mem_cons_of_mem _ (List.mem_append_left _ (List.mem_of_getElem? (i := 2) rfl)))
  have hw_3 := hts (.initialized RX6) (List.mem_cons_of_mem _ (List.mem_append_left _ (List.mem_of_getElem? (i := 3) rfl)))
  have hb_0 : ∀ w ∈ us_c_needControl, w ∈ us_c_dead := fun w h => List.mem_cons_of_mem _ (List.mem_append_right _ (List.mem_append_left _ h))
  refine lv_aload_n hx hb dX6_dead_0 rfl (lv_at hl 0 rfl) ?_
  refine lv_iload_n hx hb dX6_dead_1 rfl (lv_at hl 1 rfl) ?_
  exact mt_out (vx_runV (As := [.int p0]) (rest := []) ⟨hx, hb, hml, hown, hts⟩ (c_needControl l hst D x g ca co ra rl tr f9 f10 f11 f12 f13 p0 s.heap.size) (cwV 1 hts (gi_c (List.mem_cons_of_mem _ (List.mem_append_left _ (List.mem_of_getElem? (i := 0) rfl))) rfl (gi_c (List.mem_cons_of_mem _ (List.mem_append_left _ (List.mem_of_getElem? (i := 1) rfl))) rfl (gi_c (List.mem_cons_of_mem _ (List.mem_append_left _ (List.mem_of_getElem? (i := 2) rfl))) rfl (gi_c (List.mem_cons_of_mem _ (List.mem_append_left _ (List.mem_of_getElem? (i := 3) rfl))) rfl (goodIn_sub hb_0 (List.all_eq_true.mpr gw_c_needControl)))))) rfl rfl rfl (by decide +kernel) ⟨Nat.le_of_ble_eq_true rfl, Nat.le_of_ble_eq_true rfl⟩) (pr_V (As := [.int p0]) (b := x) (C := RX6) hP hD hK hS hA hE [0] [] rfl rfl rfl 0 13 rfl rfl rfl) rfl rfl hl.1 rfl (lv_room (Nat.le_of_ble_eq_true rfl)) dX6_dead_2 ⟨Nat.le_of_ble_eq_true rfl, Nat.le_of_ble_eq_true rfl⟩) hD hS hA [0] rfl htab hlocks (fun _ h => h) (Nat.le_of_ble_eq_true rfl) (Nat.le_of_ble_eq_true rfl)

def us_c_stolen : List Cond := .code yX6_stolen cX6_stolen 5 (some .int) :: (([.methodLink RX6 145 yX6_needControl, .instanceMethod yX6_needControl, .selects RX6 yX6_needControl yX6_needControl, .initialized RX6] : List Cond) ++ (us_c_needControl ++ ([])))
theorem gw_c_stolen : ∀ w ∈ us_c_stolen, goodWord w = true := gw_cons rfl (gw_app (by decide +kernel) (gw_app gw_c_needControl (fun _ h => nomatch h)))
set_option maxHeartbeats 4000000 in
set_option maxRecDepth 100000 in
/-- stolen: there is no such number yet -/
theorem c_stolen (l : Launch) (hst : l.stackTraces = false) (D : va_G) (x : Nat) (g : Nat) (ca : Nat) (co : Nat) (ra : Nat) (rl : Nat) (tr : Nat) (f9 : Nat) (f10 : Nat) (f11 : Nat) (f12 : Nat) (f13 : Nat) (p0 : Int32) (p1 : Int32) (sz : Nat) : vx_Met l yX6_stolen us_c_stolen { frames := 8, cells := 1, slots := 6, locals := 124 } (pw D [.ref x, .int p0, .int p1] [] [(x, .inr (13, [.ref g, .ref ca, .int 0, .ref co, .int 0, .ref ra, .int 0, .ref rl, .ref tr, .ref f9, .ref f10, .ref f11, .ref f12, .ref f13]))] sz) qN (vx_X (fun E => E = "java/lang/IndexOutOfBoundsException") xb (va_A [(x, .inr (13, [.ref g, .ref ca, .int 0, .ref co, .int 0, .ref ra, .int 0, .ref rl, .ref tr, .ref f9, .ref f10, .ref f11, .ref f12, .ref f13]))] sz)) 1 6 (va_A [(x, .inr (13, [.ref g, .ref ca, .int 0, .ref co, .int 0, .ref ra, .int 0, .ref rl, .ref tr, .ref f9, .ref f10, .ref f11, .ref f12, .ref f13]))] sz) := by
  refine op_X (Qc := fun _ => qN) (px := (fun E => E = "java/lang/IndexOutOfBoundsException")) (by decide +kernel) rfl (Nat.le_of_ble_eq_true rfl) ?_
  intro p e s m args below meth c A ls hx hb hr hml hts hown hlocks hmn htab hA hD hS hP hK hE hsz hl
  have hown : s.vm.findClass RX6 = some m.cls := hown
  have hl : lv_has ls 5 [(0, .ref x), (1, .int p0), (2, .int p1)] := hl
  have hw_0 := hts (.methodLink RX6 145 yX6_needControl) (List.mem_cons_of_mem _ (List.mem_append_left _ (List.mem_of_getElem? (i := 0) rfl)))
  have hw_1 := hts (.instanceMethod yX6_needControl) (List.mem_cons_of_mem _ (List.mem_append_left _ (List.mem_of_getElem? (i := 1) rfl)))
  have hw_2 := hts (.selects RX6 yX6_needControl yX6_needControl) (List.mem_cons_of_mem _ (List.mem_append_left _ (List.mem_of_getElem? (i := 2) rfl)))
  have hw_3 := hts (.initialized RX6) (List.mem_cons_of_mem _ (List.mem_append_left _ (List.mem_of_getElem? (i := 3) rfl)))
  have hb_0 : ∀ w ∈ us_c_needControl, w ∈ us_c_stolen := fun w h => List.mem_cons_of_mem _ (List.mem_append_right _ (List.mem_append_left _ h))
  refine lv_aload_n hx hb dX6_stolen_0 rfl (lv_at hl 0 rfl) ?_
  refine lv_iload_n hx hb dX6_stolen_1 rfl (lv_at hl 1 rfl) ?_
  exact mt_out (vx_runV (As := [.int p0]) (rest := []) ⟨hx, hb, hml, hown, hts⟩ (c_needControl l hst D x g ca co ra rl tr f9 f10 f11 f12 f13 p0 s.heap.size) (cwV 1 hts (gi_c (List.mem_cons_of_mem _ (List.mem_append_left _ (List.mem_of_getElem? (i := 0) rfl))) rfl (gi_c (List.mem_cons_of_mem _ (List.mem_append_left _ (List.mem_of_getElem? (i := 1) rfl))) rfl (gi_c (List.mem_cons_of_mem _ (List.mem_append_left _ (List.mem_of_getElem? (i := 2) rfl))) rfl (gi_c (List.mem_cons_of_mem _ (List.mem_append_left _ (List.mem_of_getElem? (i := 3) rfl))) rfl (goodIn_sub hb_0 (List.all_eq_true.mpr gw_c_needControl)))))) rfl rfl rfl (by decide +kernel) ⟨Nat.le_of_ble_eq_true rfl, Nat.le_of_ble_eq_true rfl⟩) (pr_V (As := [.int p0]) (b := x) (C := RX6) hP hD hK hS hA hE [0] [] rfl rfl rfl 0 13 rfl rfl rfl) rfl rfl hl.1 rfl (lv_room (Nat.le_of_ble_eq_true rfl)) dX6_stolen_2 ⟨Nat.le_of_ble_eq_true rfl, Nat.le_of_ble_eq_true rfl⟩) hD hS hA [0] rfl htab hlocks (fun _ h => h) (Nat.le_of_ble_eq_true rfl) (Nat.le_of_ble_eq_true rfl)

def us_c_voided : List Cond := .code yX6_voided cX6_voided 6 (some .boolean) :: (([.methodLink RX6 157 yX6_needCourse, .instanceMethod yX6_needCourse, .selects RX6 yX6_needCourse yX6_needCourse, .initialized RX6] : List Cond) ++ (us_c_needCourse ++ ([])))
theorem gw_c_voided : ∀ w ∈ us_c_voided, goodWord w = true := gw_cons rfl (gw_app (by decide +kernel) (gw_app gw_c_needCourse (fun _ h => nomatch h)))
set_option maxHeartbeats 4000000 in
set_option maxRecDepth 100000 in
/-- voided: there is no such number yet -/
theorem c_voided (l : Launch) (hst : l.stackTraces = false) (D : va_G) (x : Nat) (g : Nat) (ca : Nat) (co : Nat) (ra : Nat) (rl : Nat) (tr : Nat) (f9 : Nat) (f10 : Nat) (f11 : Nat) (f12 : Nat) (f13 : Nat) (p0 : Int32) (p1 : Int32) (p2 : Int32) (sz : Nat) : vx_Met l yX6_voided us_c_voided { frames := 8, cells := 1, slots := 6, locals := 124 } (pw D [.ref x, .int p0, .int p1, .int p2] [] [(x, .inr (13, [.ref g, .ref ca, .int 0, .ref co, .int 0, .ref ra, .int 0, .ref rl, .ref tr, .ref f9, .ref f10, .ref f11, .ref f12, .ref f13]))] sz) qN (vx_X (fun E => E = "java/lang/IndexOutOfBoundsException") xb (va_A [(x, .inr (13, [.ref g, .ref ca, .int 0, .ref co, .int 0, .ref ra, .int 0, .ref rl, .ref tr, .ref f9, .ref f10, .ref f11, .ref f12, .ref f13]))] sz)) 1 6 (va_A [(x, .inr (13, [.ref g, .ref ca, .int 0, .ref co, .int 0, .ref ra, .int 0, .ref rl, .ref tr, .ref f9, .ref f10, .ref f11, .ref f12, .ref f13]))] sz) := by
  refine op_X (Qc := fun _ => qN) (px := (fun E => E = "java/lang/IndexOutOfBoundsException")) (by decide +kernel) rfl (Nat.le_of_ble_eq_true rfl) ?_
  intro p e s m args below meth c A ls hx hb hr hml hts hown hlocks hmn htab hA hD hS hP hK hE hsz hl
  have hown : s.vm.findClass RX6 = some m.cls := hown
  have hl : lv_has ls 6 [(0, .ref x), (1, .int p0), (2, .int p1), (3, .int p2)] := hl
  have hw_0 := hts (.methodLink RX6 157 yX6_needCourse) (List.mem_cons_of_mem _ (List.mem_append_left _ (List.mem_of_getElem? (i := 0) rfl)))
  have hw_1 := hts (.instanceMethod yX6_needCourse) (List.mem_cons_of_mem _ (List.mem_append_left _ (List.mem_of_getElem? (i := 1) rfl)))
  have hw_2 := hts (.selects RX6 yX6_needCourse yX6_needCourse) (List.mem_cons_of_mem _ (List.mem_append_left _ (List.mem_of_getElem? (i := 2) rfl)))
  have hw_3 := hts (.initialized RX6) (List.mem_cons_of_mem _ (List.mem_append_left _ (List.mem_of_getElem? (i := 3) rfl)))
  have hb_0 : ∀ w ∈ us_c_needCourse, w ∈ us_c_voided := fun w h => List.mem_cons_of_mem _ (List.mem_append_right _ (List.mem_append_left _ h))
  refine lv_aload_n hx hb dX6_voided_0 rfl (lv_at hl 0 rfl) ?_
  refine lv_iload_n hx hb dX6_voided_1 rfl (lv_at hl 1 rfl) ?_
  exact mt_out (vx_runV (As := [.int p0]) (rest := []) ⟨hx, hb, hml, hown, hts⟩ (c_needCourse l hst D x g ca co ra rl tr f9 f10 f11 f12 f13 p0 s.heap.size) (cwV 1 hts (gi_c (List.mem_cons_of_mem _ (List.mem_append_left _ (List.mem_of_getElem? (i := 0) rfl))) rfl (gi_c (List.mem_cons_of_mem _ (List.mem_append_left _ (List.mem_of_getElem? (i := 1) rfl))) rfl (gi_c (List.mem_cons_of_mem _ (List.mem_append_left _ (List.mem_of_getElem? (i := 2) rfl))) rfl (gi_c (List.mem_cons_of_mem _ (List.mem_append_left _ (List.mem_of_getElem? (i := 3) rfl))) rfl (goodIn_sub hb_0 (List.all_eq_true.mpr gw_c_needCourse)))))) rfl rfl rfl (by decide +kernel) ⟨Nat.le_of_ble_eq_true rfl, Nat.le_of_ble_eq_true rfl⟩) (pr_V (As := [.int p0]) (b := x) (C := RX6) hP hD hK hS hA hE [0] [] rfl rfl rfl 0 13 rfl rfl rfl) rfl rfl hl.1 rfl (lv_room (Nat.le_of_ble_eq_true rfl)) dX6_voided_2 ⟨Nat.le_of_ble_eq_true rfl, Nat.le_of_ble_eq_true rfl⟩) hD hS hA [0] rfl htab hlocks (fun _ h => h) (Nat.le_of_ble_eq_true rfl) (Nat.le_of_ble_eq_true rfl)

def us_c_rule : List Cond := .code yX6_rule cX6_rule 5 (some .int) :: (([.methodLink RX6 200 yX6_needRunner, .instanceMethod yX6_needRunner, .selects RX6 yX6_needRunner yX6_needRunner, .initialized RX6] : List Cond) ++ (us_c_needRunner ++ ([])))
theorem gw_c_rule : ∀ w ∈ us_c_rule, goodWord w = true := gw_cons rfl (gw_app (by decide +kernel) (gw_app gw_c_needRunner (fun _ h => nomatch h)))
set_option maxHeartbeats 4000000 in
set_option maxRecDepth 100000 in
/-- rule: there is no such number yet -/
theorem c_rule (l : Launch) (hst : l.stackTraces = false) (D : va_G) (x : Nat) (g : Nat) (ca : Nat) (co : Nat) (ra : Nat) (rl : Nat) (tr : Nat) (f9 : Nat) (f10 : Nat) (f11 : Nat) (f12 : Nat) (f13 : Nat) (p0 : Int32) (p1 : Int32) (sz : Nat) : vx_Met l yX6_rule us_c_rule { frames := 8, cells := 1, slots := 6, locals := 124 } (pw D [.ref x, .int p0, .int p1] [] [(x, .inr (13, [.ref g, .ref ca, .int 0, .ref co, .int 0, .ref ra, .int 0, .ref rl, .ref tr, .ref f9, .ref f10, .ref f11, .ref f12, .ref f13]))] sz) qN (vx_X (fun E => E = "java/lang/IndexOutOfBoundsException") xb (va_A [(x, .inr (13, [.ref g, .ref ca, .int 0, .ref co, .int 0, .ref ra, .int 0, .ref rl, .ref tr, .ref f9, .ref f10, .ref f11, .ref f12, .ref f13]))] sz)) 1 6 (va_A [(x, .inr (13, [.ref g, .ref ca, .int 0, .ref co, .int 0, .ref ra, .int 0, .ref rl, .ref tr, .ref f9, .ref f10, .ref f11, .ref f12, .ref f13]))] sz) := by
  refine op_X (Qc := fun _ => qN) (px := (fun E => E = "java/lang/IndexOutOfBoundsException")) (by decide +kernel) rfl (Nat.le_of_ble_eq_true rfl) ?_
  intro p e s m args below meth c A ls hx hb hr hml hts hown hlocks hmn htab hA hD hS hP hK hE hsz hl
  have hown : s.vm.findClass RX6 = some m.cls := hown
  have hl : lv_has ls 5 [(0, .ref x), (1, .int p0), (2, .int p1)] := hl
  have hw_0 := hts (.methodLink RX6 200 yX6_needRunner) (List.mem_cons_of_mem _ (List.mem_append_left _ (List.mem_of_getElem? (i := 0) rfl)))
  have hw_1 := hts (.instanceMethod yX6_needRunner) (List.mem_cons_of_mem _ (List.mem_append_left _ (List.mem_of_getElem? (i := 1) rfl)))
  have hw_2 := hts (.selects RX6 yX6_needRunner yX6_needRunner) (List.mem_cons_of_mem _ (List.mem_append_left _ (List.mem_of_getElem? (i := 2) rfl)))
  have hw_3 := hts (.initialized RX6) (List.mem_cons_of_mem _ (List.mem_append_left _ (List.mem_of_getElem? (i := 3) rfl)))
  have hb_0 : ∀ w ∈ us_c_needRunner, w ∈ us_c_rule := fun w h => List.mem_cons_of_mem _ (List.mem_append_right _ (List.mem_append_left _ h))
  refine lv_aload_n hx hb dX6_rule_0 rfl (lv_at hl 0 rfl) ?_
  refine lv_iload_n hx hb dX6_rule_1 rfl (lv_at hl 1 rfl) ?_
  exact mt_out (vx_runV (As := [.int p0]) (rest := []) ⟨hx, hb, hml, hown, hts⟩ (c_needRunner l hst D x g ca co ra rl tr f9 f10 f11 f12 f13 p0 s.heap.size) (cwV 1 hts (gi_c (List.mem_cons_of_mem _ (List.mem_append_left _ (List.mem_of_getElem? (i := 0) rfl))) rfl (gi_c (List.mem_cons_of_mem _ (List.mem_append_left _ (List.mem_of_getElem? (i := 1) rfl))) rfl (gi_c (List.mem_cons_of_mem _ (List.mem_append_left _ (List.mem_of_getElem? (i := 2) rfl))) rfl (gi_c (List.mem_cons_of_mem _ (List.mem_append_left _ (List.mem_of_getElem? (i := 3) rfl))) rfl (goodIn_sub hb_0 (List.all_eq_true.mpr gw_c_needRunner)))))) rfl rfl rfl (by decide +kernel) ⟨Nat.le_of_ble_eq_true rfl, Nat.le_of_ble_eq_true rfl⟩) (pr_V (As := [.int p0]) (b := x) (C := RX6) hP hD hK hS hA hE [0] [] rfl rfl rfl 0 13 rfl rfl rfl) rfl rfl hl.1 rfl (lv_room (Nat.le_of_ble_eq_true rfl)) dX6_rule_2 ⟨Nat.le_of_ble_eq_true rfl, Nat.le_of_ble_eq_true rfl⟩) hD hS hA [0] rfl htab hlocks (fun _ h => h) (Nat.le_of_ble_eq_true rfl) (Nat.le_of_ble_eq_true rfl)

def us_c_state : List Cond := .code yX6_state cX6_state 3 (some .char) :: (([.methodLink RX6 200 yX6_needRunner, .instanceMethod yX6_needRunner, .selects RX6 yX6_needRunner yX6_needRunner, .initialized RX6] : List Cond) ++ (us_c_needRunner ++ ([])))
theorem gw_c_state : ∀ w ∈ us_c_state, goodWord w = true := gw_cons rfl (gw_app (by decide +kernel) (gw_app gw_c_needRunner (fun _ h => nomatch h)))
set_option maxHeartbeats 4000000 in
set_option maxRecDepth 100000 in
/-- state: there is no such number yet -/
theorem c_state (l : Launch) (hst : l.stackTraces = false) (D : va_G) (x : Nat) (g : Nat) (ca : Nat) (co : Nat) (ra : Nat) (rl : Nat) (tr : Nat) (f9 : Nat) (f10 : Nat) (f11 : Nat) (f12 : Nat) (f13 : Nat) (p0 : Int32) (sz : Nat) : vx_Met l yX6_state us_c_state { frames := 8, cells := 1, slots := 6, locals := 124 } (pw D [.ref x, .int p0] [] [(x, .inr (13, [.ref g, .ref ca, .int 0, .ref co, .int 0, .ref ra, .int 0, .ref rl, .ref tr, .ref f9, .ref f10, .ref f11, .ref f12, .ref f13]))] sz) qN (vx_X (fun E => E = "java/lang/IndexOutOfBoundsException") xb (va_A [(x, .inr (13, [.ref g, .ref ca, .int 0, .ref co, .int 0, .ref ra, .int 0, .ref rl, .ref tr, .ref f9, .ref f10, .ref f11, .ref f12, .ref f13]))] sz)) 1 6 (va_A [(x, .inr (13, [.ref g, .ref ca, .int 0, .ref co, .int 0, .ref ra, .int 0, .ref rl, .ref tr, .ref f9, .ref f10, .ref f11, .ref f12, .ref f13]))] sz) := by
  refine op_X (Qc := fun _ => qN) (px := (fun E => E = "java/lang/IndexOutOfBoundsException")) (by decide +kernel) rfl (Nat.le_of_ble_eq_true rfl) ?_
  intro p e s m args below meth c A ls hx hb hr hml hts hown hlocks hmn htab hA hD hS hP hK hE hsz hl
  have hown : s.vm.findClass RX6 = some m.cls := hown
  have hl : lv_has ls 3 [(0, .ref x), (1, .int p0)] := hl
  have hw_0 := hts (.methodLink RX6 200 yX6_needRunner) (List.mem_cons_of_mem _ (List.mem_append_left _ (List.mem_of_getElem? (i := 0) rfl)))
  have hw_1 := hts (.instanceMethod yX6_needRunner) (List.mem_cons_of_mem _ (List.mem_append_left _ (List.mem_of_getElem? (i := 1) rfl)))
  have hw_2 := hts (.selects RX6 yX6_needRunner yX6_needRunner) (List.mem_cons_of_mem _ (List.mem_append_left _ (List.mem_of_getElem? (i := 2) rfl)))
  have hw_3 := hts (.initialized RX6) (List.mem_cons_of_mem _ (List.mem_append_left _ (List.mem_of_getElem? (i := 3) rfl)))
  have hb_0 : ∀ w ∈ us_c_needRunner, w ∈ us_c_state := fun w h => List.mem_cons_of_mem _ (List.mem_append_right _ (List.mem_append_left _ h))
  refine lv_aload_n hx hb dX6_state_0 rfl (lv_at hl 0 rfl) ?_
  refine lv_iload_n hx hb dX6_state_1 rfl (lv_at hl 1 rfl) ?_
  exact mt_out (vx_runV (As := [.int p0]) (rest := []) ⟨hx, hb, hml, hown, hts⟩ (c_needRunner l hst D x g ca co ra rl tr f9 f10 f11 f12 f13 p0 s.heap.size) (cwV 1 hts (gi_c (List.mem_cons_of_mem _ (List.mem_append_left _ (List.mem_of_getElem? (i := 0) rfl))) rfl (gi_c (List.mem_cons_of_mem _ (List.mem_append_left _ (List.mem_of_getElem? (i := 1) rfl))) rfl (gi_c (List.mem_cons_of_mem _ (List.mem_append_left _ (List.mem_of_getElem? (i := 2) rfl))) rfl (gi_c (List.mem_cons_of_mem _ (List.mem_append_left _ (List.mem_of_getElem? (i := 3) rfl))) rfl (goodIn_sub hb_0 (List.all_eq_true.mpr gw_c_needRunner)))))) rfl rfl rfl (by decide +kernel) ⟨Nat.le_of_ble_eq_true rfl, Nat.le_of_ble_eq_true rfl⟩) (pr_V (As := [.int p0]) (b := x) (C := RX6) hP hD hK hS hA hE [0] [] rfl rfl rfl 0 13 rfl rfl rfl) rfl rfl hl.1 rfl (lv_room (Nat.le_of_ble_eq_true rfl)) dX6_state_2 ⟨Nat.le_of_ble_eq_true rfl, Nat.le_of_ble_eq_true rfl⟩) hD hS hA [0] rfl htab hlocks (fun _ h => h) (Nat.le_of_ble_eq_true rfl) (Nat.le_of_ble_eq_true rfl)

def us_c_time : List Cond := .code yX6_time cX6_time 2 (some .int) :: (([.methodLink RX6 200 yX6_needRunner, .instanceMethod yX6_needRunner, .selects RX6 yX6_needRunner yX6_needRunner, .initialized RX6] : List Cond) ++ (us_c_needRunner ++ ([])))
theorem gw_c_time : ∀ w ∈ us_c_time, goodWord w = true := gw_cons rfl (gw_app (by decide +kernel) (gw_app gw_c_needRunner (fun _ h => nomatch h)))
set_option maxHeartbeats 4000000 in
set_option maxRecDepth 100000 in
/-- time: there is no such number yet -/
theorem c_time (l : Launch) (hst : l.stackTraces = false) (D : va_G) (x : Nat) (g : Nat) (ca : Nat) (co : Nat) (ra : Nat) (rl : Nat) (tr : Nat) (f9 : Nat) (f10 : Nat) (f11 : Nat) (f12 : Nat) (f13 : Nat) (p0 : Int32) (sz : Nat) : vx_Met l yX6_time us_c_time { frames := 8, cells := 1, slots := 6, locals := 124 } (pw D [.ref x, .int p0] [] [(x, .inr (13, [.ref g, .ref ca, .int 0, .ref co, .int 0, .ref ra, .int 0, .ref rl, .ref tr, .ref f9, .ref f10, .ref f11, .ref f12, .ref f13]))] sz) qN (vx_X (fun E => E = "java/lang/IndexOutOfBoundsException") xb (va_A [(x, .inr (13, [.ref g, .ref ca, .int 0, .ref co, .int 0, .ref ra, .int 0, .ref rl, .ref tr, .ref f9, .ref f10, .ref f11, .ref f12, .ref f13]))] sz)) 1 6 (va_A [(x, .inr (13, [.ref g, .ref ca, .int 0, .ref co, .int 0, .ref ra, .int 0, .ref rl, .ref tr, .ref f9, .ref f10, .ref f11, .ref f12, .ref f13]))] sz) := by
  refine op_X (Qc := fun _ => qN) (px := (fun E => E = "java/lang/IndexOutOfBoundsException")) (by decide +kernel) rfl (Nat.le_of_ble_eq_true rfl) ?_
  intro p e s m args below meth c A ls hx hb hr hml hts hown hlocks hmn htab hA hD hS hP hK hE hsz hl
  have hown : s.vm.findClass RX6 = some m.cls := hown
  have hl : lv_has ls 2 [(0, .ref x), (1, .int p0)] := hl
  have hw_0 := hts (.methodLink RX6 200 yX6_needRunner) (List.mem_cons_of_mem _ (List.mem_append_left _ (List.mem_of_getElem? (i := 0) rfl)))
  have hw_1 := hts (.instanceMethod yX6_needRunner) (List.mem_cons_of_mem _ (List.mem_append_left _ (List.mem_of_getElem? (i := 1) rfl)))
  have hw_2 := hts (.selects RX6 yX6_needRunner yX6_needRunner) (List.mem_cons_of_mem _ (List.mem_append_left _ (List.mem_of_getElem? (i := 2) rfl)))
  have hw_3 := hts (.initialized RX6) (List.mem_cons_of_mem _ (List.mem_append_left _ (List.mem_of_getElem? (i := 3) rfl)))
  have hb_0 : ∀ w ∈ us_c_needRunner, w ∈ us_c_time := fun w h => List.mem_cons_of_mem _ (List.mem_append_right _ (List.mem_append_left _ h))
  refine lv_aload_n hx hb dX6_time_0 rfl (lv_at hl 0 rfl) ?_
  refine lv_aload_n hx hb dX6_time_1 rfl (lv_at hl 0 rfl) ?_
  refine lv_iload_n hx hb dX6_time_2 rfl (lv_at hl 1 rfl) ?_
  exact mt_out (vx_runV (As := [.int p0]) (rest := [.ref x]) ⟨hx, hb, hml, hown, hts⟩ (c_needRunner l hst D x g ca co ra rl tr f9 f10 f11 f12 f13 p0 s.heap.size) (cwV 1 hts (gi_c (List.mem_cons_of_mem _ (List.mem_append_left _ (List.mem_of_getElem? (i := 0) rfl))) rfl (gi_c (List.mem_cons_of_mem _ (List.mem_append_left _ (List.mem_of_getElem? (i := 1) rfl))) rfl (gi_c (List.mem_cons_of_mem _ (List.mem_append_left _ (List.mem_of_getElem? (i := 2) rfl))) rfl (gi_c (List.mem_cons_of_mem _ (List.mem_append_left _ (List.mem_of_getElem? (i := 3) rfl))) rfl (goodIn_sub hb_0 (List.all_eq_true.mpr gw_c_needRunner)))))) rfl rfl rfl (by decide +kernel) ⟨Nat.le_of_ble_eq_true rfl, Nat.le_of_ble_eq_true rfl⟩) (pr_V (As := [.int p0]) (b := x) (C := RX6) hP hD hK hS hA hE [0] [] rfl rfl rfl 0 13 rfl rfl rfl) rfl rfl hl.1 rfl (lv_room (Nat.le_of_ble_eq_true rfl)) dX6_time_3 ⟨Nat.le_of_ble_eq_true rfl, Nat.le_of_ble_eq_true rfl⟩) hD hS hA [0] rfl htab hlocks (fun _ h => h) (Nat.le_of_ble_eq_true rfl) (Nat.le_of_ble_eq_true rfl)

def us_c_split : List Cond := .code yX6_split cX6_split 4 (some .int) :: (([.methodLink RX6 200 yX6_needRunner, .instanceMethod yX6_needRunner, .selects RX6 yX6_needRunner yX6_needRunner, .initialized RX6] : List Cond) ++ (us_c_needRunner ++ ([])))
theorem gw_c_split : ∀ w ∈ us_c_split, goodWord w = true := gw_cons rfl (gw_app (by decide +kernel) (gw_app gw_c_needRunner (fun _ h => nomatch h)))
set_option maxHeartbeats 4000000 in
set_option maxRecDepth 100000 in
/-- split: there is no such number yet -/
theorem c_split (l : Launch) (hst : l.stackTraces = false) (D : va_G) (x : Nat) (g : Nat) (ca : Nat) (co : Nat) (ra : Nat) (rl : Nat) (tr : Nat) (f9 : Nat) (f10 : Nat) (f11 : Nat) (f12 : Nat) (f13 : Nat) (p0 : Int32) (p1 : Int32) (sz : Nat) : vx_Met l yX6_split us_c_split { frames := 8, cells := 1, slots := 6, locals := 124 } (pw D [.ref x, .int p0, .int p1] [] [(x, .inr (13, [.ref g, .ref ca, .int 0, .ref co, .int 0, .ref ra, .int 0, .ref rl, .ref tr, .ref f9, .ref f10, .ref f11, .ref f12, .ref f13]))] sz) qN (vx_X (fun E => E = "java/lang/IndexOutOfBoundsException") xb (va_A [(x, .inr (13, [.ref g, .ref ca, .int 0, .ref co, .int 0, .ref ra, .int 0, .ref rl, .ref tr, .ref f9, .ref f10, .ref f11, .ref f12, .ref f13]))] sz)) 1 6 (va_A [(x, .inr (13, [.ref g, .ref ca, .int 0, .ref co, .int 0, .ref ra, .int 0, .ref rl, .ref tr, .ref f9, .ref f10, .ref f11, .ref f12, .ref f13]))] sz) := by
  refine op_X (Qc := fun _ => qN) (px := (fun E => E = "java/lang/IndexOutOfBoundsException")) (by decide +kernel) rfl (Nat.le_of_ble_eq_true rfl) ?_
  intro p e s m args below meth c A ls hx hb hr hml hts hown hlocks hmn htab hA hD hS hP hK hE hsz hl
  have hown : s.vm.findClass RX6 = some m.cls := hown
  have hl : lv_has ls 4 [(0, .ref x), (1, .int p0), (2, .int p1)] := hl
  have hw_0 := hts (.methodLink RX6 200 yX6_needRunner) (List.mem_cons_of_mem _ (List.mem_append_left _ (List.mem_of_getElem? (i := 0) rfl)))
  have hw_1 := hts (.instanceMethod yX6_needRunner) (List.mem_cons_of_mem _ (List.mem_append_left _ (List.mem_of_getElem? (i := 1) rfl)))
  have hw_2 := hts (.selects RX6 yX6_needRunner yX6_needRunner) (List.mem_cons_of_mem _ (List.mem_append_left _ (List.mem_of_getElem? (i := 2) rfl)))
  have hw_3 := hts (.initialized RX6) (List.mem_cons_of_mem _ (List.mem_append_left _ (List.mem_of_getElem? (i := 3) rfl)))
  have hb_0 : ∀ w ∈ us_c_needRunner, w ∈ us_c_split := fun w h => List.mem_cons_of_mem _ (List.mem_append_right _ (List.mem_append_left _ h))
  refine lv_aload_n hx hb dX6_split_0 rfl (lv_at hl 0 rfl) ?_
  refine lv_iload_n hx hb dX6_split_1 rfl (lv_at hl 1 rfl) ?_
  exact mt_out (vx_runV (As := [.int p0]) (rest := []) ⟨hx, hb, hml, hown, hts⟩ (c_needRunner l hst D x g ca co ra rl tr f9 f10 f11 f12 f13 p0 s.heap.size) (cwV 1 hts (gi_c (List.mem_cons_of_mem _ (List.mem_append_left _ (List.mem_of_getElem? (i := 0) rfl))) rfl (gi_c (List.mem_cons_of_mem _ (List.mem_append_left _ (List.mem_of_getElem? (i := 1) rfl))) rfl (gi_c (List.mem_cons_of_mem _ (List.mem_append_left _ (List.mem_of_getElem? (i := 2) rfl))) rfl (gi_c (List.mem_cons_of_mem _ (List.mem_append_left _ (List.mem_of_getElem? (i := 3) rfl))) rfl (goodIn_sub hb_0 (List.all_eq_true.mpr gw_c_needRunner)))))) rfl rfl rfl (by decide +kernel) ⟨Nat.le_of_ble_eq_true rfl, Nat.le_of_ble_eq_true rfl⟩) (pr_V (As := [.int p0]) (b := x) (C := RX6) hP hD hK hS hA hE [0] [] rfl rfl rfl 0 13 rfl rfl rfl) rfl rfl hl.1 rfl (lv_room (Nat.le_of_ble_eq_true rfl)) dX6_split_2 ⟨Nat.le_of_ble_eq_true rfl, Nat.le_of_ble_eq_true rfl⟩) hD hS hA [0] rfl htab hlocks (fun _ h => h) (Nat.le_of_ble_eq_true rfl) (Nat.le_of_ble_eq_true rfl)

def us_c_place : List Cond := .code yX6_place cX6_place 5 (some .int) :: (([.methodLink RX6 200 yX6_needRunner, .instanceMethod yX6_needRunner, .selects RX6 yX6_needRunner yX6_needRunner, .initialized RX6] : List Cond) ++ (us_c_needRunner ++ ([])))
theorem gw_c_place : ∀ w ∈ us_c_place, goodWord w = true := gw_cons rfl (gw_app (by decide +kernel) (gw_app gw_c_needRunner (fun _ h => nomatch h)))
set_option maxHeartbeats 4000000 in
set_option maxRecDepth 100000 in
/-- place: there is no such number yet -/
theorem c_place (l : Launch) (hst : l.stackTraces = false) (D : va_G) (x : Nat) (g : Nat) (ca : Nat) (co : Nat) (ra : Nat) (rl : Nat) (tr : Nat) (f9 : Nat) (f10 : Nat) (f11 : Nat) (f12 : Nat) (f13 : Nat) (p0 : Int32) (sz : Nat) : vx_Met l yX6_place us_c_place { frames := 8, cells := 1, slots := 6, locals := 124 } (pw D [.ref x, .int p0] [] [(x, .inr (13, [.ref g, .ref ca, .int 0, .ref co, .int 0, .ref ra, .int 0, .ref rl, .ref tr, .ref f9, .ref f10, .ref f11, .ref f12, .ref f13]))] sz) qN (vx_X (fun E => E = "java/lang/IndexOutOfBoundsException") xb (va_A [(x, .inr (13, [.ref g, .ref ca, .int 0, .ref co, .int 0, .ref ra, .int 0, .ref rl, .ref tr, .ref f9, .ref f10, .ref f11, .ref f12, .ref f13]))] sz)) 1 6 (va_A [(x, .inr (13, [.ref g, .ref ca, .int 0, .ref co, .int 0, .ref ra, .int 0, .ref rl, .ref tr, .ref f9, .ref f10, .ref f11, .ref f12, .ref f13]))] sz) := by
  refine op_X (Qc := fun _ => qN) (px := (fun E => E = "java/lang/IndexOutOfBoundsException")) (by decide +kernel) rfl (Nat.le_of_ble_eq_true rfl) ?_
  intro p e s m args below meth c A ls hx hb hr hml hts hown hlocks hmn htab hA hD hS hP hK hE hsz hl
  have hown : s.vm.findClass RX6 = some m.cls := hown
  have hl : lv_has ls 5 [(0, .ref x), (1, .int p0)] := hl
  have hw_0 := hts (.methodLink RX6 200 yX6_needRunner) (List.mem_cons_of_mem _ (List.mem_append_left _ (List.mem_of_getElem? (i := 0) rfl)))
  have hw_1 := hts (.instanceMethod yX6_needRunner) (List.mem_cons_of_mem _ (List.mem_append_left _ (List.mem_of_getElem? (i := 1) rfl)))
  have hw_2 := hts (.selects RX6 yX6_needRunner yX6_needRunner) (List.mem_cons_of_mem _ (List.mem_append_left _ (List.mem_of_getElem? (i := 2) rfl)))
  have hw_3 := hts (.initialized RX6) (List.mem_cons_of_mem _ (List.mem_append_left _ (List.mem_of_getElem? (i := 3) rfl)))
  have hb_0 : ∀ w ∈ us_c_needRunner, w ∈ us_c_place := fun w h => List.mem_cons_of_mem _ (List.mem_append_right _ (List.mem_append_left _ h))
  refine lv_aload_n hx hb dX6_place_0 rfl (lv_at hl 0 rfl) ?_
  refine lv_aload_n hx hb dX6_place_1 rfl (lv_at hl 0 rfl) ?_
  refine lv_iload_n hx hb dX6_place_2 rfl (lv_at hl 1 rfl) ?_
  exact mt_out (vx_runV (As := [.int p0]) (rest := [.ref x]) ⟨hx, hb, hml, hown, hts⟩ (c_needRunner l hst D x g ca co ra rl tr f9 f10 f11 f12 f13 p0 s.heap.size) (cwV 1 hts (gi_c (List.mem_cons_of_mem _ (List.mem_append_left _ (List.mem_of_getElem? (i := 0) rfl))) rfl (gi_c (List.mem_cons_of_mem _ (List.mem_append_left _ (List.mem_of_getElem? (i := 1) rfl))) rfl (gi_c (List.mem_cons_of_mem _ (List.mem_append_left _ (List.mem_of_getElem? (i := 2) rfl))) rfl (gi_c (List.mem_cons_of_mem _ (List.mem_append_left _ (List.mem_of_getElem? (i := 3) rfl))) rfl (goodIn_sub hb_0 (List.all_eq_true.mpr gw_c_needRunner)))))) rfl rfl rfl (by decide +kernel) ⟨Nat.le_of_ble_eq_true rfl, Nat.le_of_ble_eq_true rfl⟩) (pr_V (As := [.int p0]) (b := x) (C := RX6) hP hD hK hS hA hE [0] [] rfl rfl rfl 0 13 rfl rfl rfl) rfl rfl hl.1 rfl (lv_room (Nat.le_of_ble_eq_true rfl)) dX6_place_3 ⟨Nat.le_of_ble_eq_true rfl, Nat.le_of_ble_eq_true rfl⟩) hD hS hA [0] rfl htab hlocks (fun _ h => h) (Nat.le_of_ble_eq_true rfl) (Nat.le_of_ble_eq_true rfl)

def us_c_reference : List Cond := .code yX6_reference cX6_reference 4 (some .int) :: (([.methodLink RX6 200 yX6_needRunner, .instanceMethod yX6_needRunner, .selects RX6 yX6_needRunner yX6_needRunner, .initialized RX6] : List Cond) ++ (us_c_needRunner ++ ([])))
theorem gw_c_reference : ∀ w ∈ us_c_reference, goodWord w = true := gw_cons rfl (gw_app (by decide +kernel) (gw_app gw_c_needRunner (fun _ h => nomatch h)))
set_option maxHeartbeats 4000000 in
set_option maxRecDepth 100000 in
/-- reference: there is no such number yet -/
theorem c_reference (l : Launch) (hst : l.stackTraces = false) (D : va_G) (x : Nat) (g : Nat) (ca : Nat) (co : Nat) (ra : Nat) (rl : Nat) (tr : Nat) (f9 : Nat) (f10 : Nat) (f11 : Nat) (f12 : Nat) (f13 : Nat) (p0 : Int32) (p1 : Int32) (sz : Nat) : vx_Met l yX6_reference us_c_reference { frames := 8, cells := 1, slots := 6, locals := 124 } (pw D [.ref x, .int p0, .int p1] [] [(x, .inr (13, [.ref g, .ref ca, .int 0, .ref co, .int 0, .ref ra, .int 0, .ref rl, .ref tr, .ref f9, .ref f10, .ref f11, .ref f12, .ref f13]))] sz) qN (vx_X (fun E => E = "java/lang/IndexOutOfBoundsException") xb (va_A [(x, .inr (13, [.ref g, .ref ca, .int 0, .ref co, .int 0, .ref ra, .int 0, .ref rl, .ref tr, .ref f9, .ref f10, .ref f11, .ref f12, .ref f13]))] sz)) 1 6 (va_A [(x, .inr (13, [.ref g, .ref ca, .int 0, .ref co, .int 0, .ref ra, .int 0, .ref rl, .ref tr, .ref f9, .ref f10, .ref f11, .ref f12, .ref f13]))] sz) := by
  refine op_X (Qc := fun _ => qN) (px := (fun E => E = "java/lang/IndexOutOfBoundsException")) (by decide +kernel) rfl (Nat.le_of_ble_eq_true rfl) ?_
  intro p e s m args below meth c A ls hx hb hr hml hts hown hlocks hmn htab hA hD hS hP hK hE hsz hl
  have hown : s.vm.findClass RX6 = some m.cls := hown
  have hl : lv_has ls 4 [(0, .ref x), (1, .int p0), (2, .int p1)] := hl
  have hw_0 := hts (.methodLink RX6 200 yX6_needRunner) (List.mem_cons_of_mem _ (List.mem_append_left _ (List.mem_of_getElem? (i := 0) rfl)))
  have hw_1 := hts (.instanceMethod yX6_needRunner) (List.mem_cons_of_mem _ (List.mem_append_left _ (List.mem_of_getElem? (i := 1) rfl)))
  have hw_2 := hts (.selects RX6 yX6_needRunner yX6_needRunner) (List.mem_cons_of_mem _ (List.mem_append_left _ (List.mem_of_getElem? (i := 2) rfl)))
  have hw_3 := hts (.initialized RX6) (List.mem_cons_of_mem _ (List.mem_append_left _ (List.mem_of_getElem? (i := 3) rfl)))
  have hb_0 : ∀ w ∈ us_c_needRunner, w ∈ us_c_reference := fun w h => List.mem_cons_of_mem _ (List.mem_append_right _ (List.mem_append_left _ h))
  refine lv_aload_n hx hb dX6_reference_0 rfl (lv_at hl 0 rfl) ?_
  refine lv_iload_n hx hb dX6_reference_1 rfl (lv_at hl 1 rfl) ?_
  exact mt_out (vx_runV (As := [.int p0]) (rest := []) ⟨hx, hb, hml, hown, hts⟩ (c_needRunner l hst D x g ca co ra rl tr f9 f10 f11 f12 f13 p0 s.heap.size) (cwV 1 hts (gi_c (List.mem_cons_of_mem _ (List.mem_append_left _ (List.mem_of_getElem? (i := 0) rfl))) rfl (gi_c (List.mem_cons_of_mem _ (List.mem_append_left _ (List.mem_of_getElem? (i := 1) rfl))) rfl (gi_c (List.mem_cons_of_mem _ (List.mem_append_left _ (List.mem_of_getElem? (i := 2) rfl))) rfl (gi_c (List.mem_cons_of_mem _ (List.mem_append_left _ (List.mem_of_getElem? (i := 3) rfl))) rfl (goodIn_sub hb_0 (List.all_eq_true.mpr gw_c_needRunner)))))) rfl rfl rfl (by decide +kernel) ⟨Nat.le_of_ble_eq_true rfl, Nat.le_of_ble_eq_true rfl⟩) (pr_V (As := [.int p0]) (b := x) (C := RX6) hP hD hK hS hA hE [0] [] rfl rfl rfl 0 13 rfl rfl rfl) rfl rfl hl.1 rfl (lv_room (Nat.le_of_ble_eq_true rfl)) dX6_reference_2 ⟨Nat.le_of_ble_eq_true rfl, Nat.le_of_ble_eq_true rfl⟩) hD hS hA [0] rfl htab hlocks (fun _ h => h) (Nat.le_of_ble_eq_true rfl) (Nat.le_of_ble_eq_true rfl)

def us_c_pace : List Cond := .code yX6_pace cX6_pace 3 (some .int) :: (([.methodLink RX6 200 yX6_needRunner, .instanceMethod yX6_needRunner, .selects RX6 yX6_needRunner yX6_needRunner, .initialized RX6] : List Cond) ++ (us_c_needRunner ++ ([])))
theorem gw_c_pace : ∀ w ∈ us_c_pace, goodWord w = true := gw_cons rfl (gw_app (by decide +kernel) (gw_app gw_c_needRunner (fun _ h => nomatch h)))
set_option maxHeartbeats 4000000 in
set_option maxRecDepth 100000 in
/-- pace: there is no such number yet -/
theorem c_pace (l : Launch) (hst : l.stackTraces = false) (D : va_G) (x : Nat) (g : Nat) (ca : Nat) (co : Nat) (ra : Nat) (rl : Nat) (tr : Nat) (f9 : Nat) (f10 : Nat) (f11 : Nat) (f12 : Nat) (f13 : Nat) (p0 : Int32) (sz : Nat) : vx_Met l yX6_pace us_c_pace { frames := 8, cells := 1, slots := 6, locals := 124 } (pw D [.ref x, .int p0] [] [(x, .inr (13, [.ref g, .ref ca, .int 0, .ref co, .int 0, .ref ra, .int 0, .ref rl, .ref tr, .ref f9, .ref f10, .ref f11, .ref f12, .ref f13]))] sz) qN (vx_X (fun E => E = "java/lang/IndexOutOfBoundsException") xb (va_A [(x, .inr (13, [.ref g, .ref ca, .int 0, .ref co, .int 0, .ref ra, .int 0, .ref rl, .ref tr, .ref f9, .ref f10, .ref f11, .ref f12, .ref f13]))] sz)) 1 6 (va_A [(x, .inr (13, [.ref g, .ref ca, .int 0, .ref co, .int 0, .ref ra, .int 0, .ref rl, .ref tr, .ref f9, .ref f10, .ref f11, .ref f12, .ref f13]))] sz) := by
  refine op_X (Qc := fun _ => qN) (px := (fun E => E = "java/lang/IndexOutOfBoundsException")) (by decide +kernel) rfl (Nat.le_of_ble_eq_true rfl) ?_
  intro p e s m args below meth c A ls hx hb hr hml hts hown hlocks hmn htab hA hD hS hP hK hE hsz hl
  have hown : s.vm.findClass RX6 = some m.cls := hown
  have hl : lv_has ls 3 [(0, .ref x), (1, .int p0)] := hl
  have hw_0 := hts (.methodLink RX6 200 yX6_needRunner) (List.mem_cons_of_mem _ (List.mem_append_left _ (List.mem_of_getElem? (i := 0) rfl)))
  have hw_1 := hts (.instanceMethod yX6_needRunner) (List.mem_cons_of_mem _ (List.mem_append_left _ (List.mem_of_getElem? (i := 1) rfl)))
  have hw_2 := hts (.selects RX6 yX6_needRunner yX6_needRunner) (List.mem_cons_of_mem _ (List.mem_append_left _ (List.mem_of_getElem? (i := 2) rfl)))
  have hw_3 := hts (.initialized RX6) (List.mem_cons_of_mem _ (List.mem_append_left _ (List.mem_of_getElem? (i := 3) rfl)))
  have hb_0 : ∀ w ∈ us_c_needRunner, w ∈ us_c_pace := fun w h => List.mem_cons_of_mem _ (List.mem_append_right _ (List.mem_append_left _ h))
  refine lv_aload_n hx hb dX6_pace_0 rfl (lv_at hl 0 rfl) ?_
  refine lv_aload_n hx hb dX6_pace_1 rfl (lv_at hl 0 rfl) ?_
  refine lv_iload_n hx hb dX6_pace_2 rfl (lv_at hl 1 rfl) ?_
  exact mt_out (vx_runV (As := [.int p0]) (rest := [.ref x]) ⟨hx, hb, hml, hown, hts⟩ (c_needRunner l hst D x g ca co ra rl tr f9 f10 f11 f12 f13 p0 s.heap.size) (cwV 1 hts (gi_c (List.mem_cons_of_mem _ (List.mem_append_left _ (List.mem_of_getElem? (i := 0) rfl))) rfl (gi_c (List.mem_cons_of_mem _ (List.mem_append_left _ (List.mem_of_getElem? (i := 1) rfl))) rfl (gi_c (List.mem_cons_of_mem _ (List.mem_append_left _ (List.mem_of_getElem? (i := 2) rfl))) rfl (gi_c (List.mem_cons_of_mem _ (List.mem_append_left _ (List.mem_of_getElem? (i := 3) rfl))) rfl (goodIn_sub hb_0 (List.all_eq_true.mpr gw_c_needRunner)))))) rfl rfl rfl (by decide +kernel) ⟨Nat.le_of_ble_eq_true rfl, Nat.le_of_ble_eq_true rfl⟩) (pr_V (As := [.int p0]) (b := x) (C := RX6) hP hD hK hS hA hE [0] [] rfl rfl rfl 0 13 rfl rfl rfl) rfl rfl hl.1 rfl (lv_room (Nat.le_of_ble_eq_true rfl)) dX6_pace_3 ⟨Nat.le_of_ble_eq_true rfl, Nat.le_of_ble_eq_true rfl⟩) hD hS hA [0] rfl htab hlocks (fun _ h => h) (Nat.le_of_ble_eq_true rfl) (Nat.le_of_ble_eq_true rfl)

def us_c_loss : List Cond := .code yX6_loss cX6_loss 8 (some .int) :: (([.methodLink RX6 200 yX6_needRunner, .instanceMethod yX6_needRunner, .selects RX6 yX6_needRunner yX6_needRunner, .initialized RX6] : List Cond) ++ (us_c_needRunner ++ ([])))
theorem gw_c_loss : ∀ w ∈ us_c_loss, goodWord w = true := gw_cons rfl (gw_app (by decide +kernel) (gw_app gw_c_needRunner (fun _ h => nomatch h)))
set_option maxHeartbeats 4000000 in
set_option maxRecDepth 100000 in
/-- loss: there is no such number yet -/
theorem c_loss (l : Launch) (hst : l.stackTraces = false) (D : va_G) (x : Nat) (g : Nat) (ca : Nat) (co : Nat) (ra : Nat) (rl : Nat) (tr : Nat) (f9 : Nat) (f10 : Nat) (f11 : Nat) (f12 : Nat) (f13 : Nat) (p0 : Int32) (p1 : Int32) (sz : Nat) : vx_Met l yX6_loss us_c_loss { frames := 8, cells := 1, slots := 6, locals := 124 } (pw D [.ref x, .int p0, .int p1] [] [(x, .inr (13, [.ref g, .ref ca, .int 0, .ref co, .int 0, .ref ra, .int 0, .ref rl, .ref tr, .ref f9, .ref f10, .ref f11, .ref f12, .ref f13]))] sz) qN (vx_X (fun E => E = "java/lang/IndexOutOfBoundsException") xb (va_A [(x, .inr (13, [.ref g, .ref ca, .int 0, .ref co, .int 0, .ref ra, .int 0, .ref rl, .ref tr, .ref f9, .ref f10, .ref f11, .ref f12, .ref f13]))] sz)) 1 6 (va_A [(x, .inr (13, [.ref g, .ref ca, .int 0, .ref co, .int 0, .ref ra, .int 0, .ref rl, .ref tr, .ref f9, .ref f10, .ref f11, .ref f12, .ref f13]))] sz) := by
  refine op_X (Qc := fun _ => qN) (px := (fun E => E = "java/lang/IndexOutOfBoundsException")) (by decide +kernel) rfl (Nat.le_of_ble_eq_true rfl) ?_
  intro p e s m args below meth c A ls hx hb hr hml hts hown hlocks hmn htab hA hD hS hP hK hE hsz hl
  have hown : s.vm.findClass RX6 = some m.cls := hown
  have hl : lv_has ls 8 [(0, .ref x), (1, .int p0), (2, .int p1)] := hl
  have hw_0 := hts (.methodLink RX6 200 yX6_needRunner) (List.mem_cons_of_mem _ (List.mem_append_left _ (List.mem_of_getElem? (i := 0) rfl)))
  have hw_1 := hts (.instanceMethod yX6_needRunner) (List.mem_cons_of_mem _ (List.mem_append_left _ (List.mem_of_getElem? (i := 1) rfl)))
  have hw_2 := hts (.selects RX6 yX6_needRunner yX6_needRunner) (List.mem_cons_of_mem _ (List.mem_append_left _ (List.mem_of_getElem? (i := 2) rfl)))
  have hw_3 := hts (.initialized RX6) (List.mem_cons_of_mem _ (List.mem_append_left _ (List.mem_of_getElem? (i := 3) rfl)))
  have hb_0 : ∀ w ∈ us_c_needRunner, w ∈ us_c_loss := fun w h => List.mem_cons_of_mem _ (List.mem_append_right _ (List.mem_append_left _ h))
  refine lv_aload_n hx hb dX6_loss_0 rfl (lv_at hl 0 rfl) ?_
  refine lv_iload_n hx hb dX6_loss_1 rfl (lv_at hl 1 rfl) ?_
  exact mt_out (vx_runV (As := [.int p0]) (rest := []) ⟨hx, hb, hml, hown, hts⟩ (c_needRunner l hst D x g ca co ra rl tr f9 f10 f11 f12 f13 p0 s.heap.size) (cwV 1 hts (gi_c (List.mem_cons_of_mem _ (List.mem_append_left _ (List.mem_of_getElem? (i := 0) rfl))) rfl (gi_c (List.mem_cons_of_mem _ (List.mem_append_left _ (List.mem_of_getElem? (i := 1) rfl))) rfl (gi_c (List.mem_cons_of_mem _ (List.mem_append_left _ (List.mem_of_getElem? (i := 2) rfl))) rfl (gi_c (List.mem_cons_of_mem _ (List.mem_append_left _ (List.mem_of_getElem? (i := 3) rfl))) rfl (goodIn_sub hb_0 (List.all_eq_true.mpr gw_c_needRunner)))))) rfl rfl rfl (by decide +kernel) ⟨Nat.le_of_ble_eq_true rfl, Nat.le_of_ble_eq_true rfl⟩) (pr_V (As := [.int p0]) (b := x) (C := RX6) hP hD hK hS hA hE [0] [] rfl rfl rfl 0 13 rfl rfl rfl) rfl rfl hl.1 rfl (lv_room (Nat.le_of_ble_eq_true rfl)) dX6_loss_2 ⟨Nat.le_of_ble_eq_true rfl, Nat.le_of_ble_eq_true rfl⟩) hD hS hA [0] rfl htab hlocks (fun _ h => h) (Nat.le_of_ble_eq_true rfl) (Nat.le_of_ble_eq_true rfl)

def us_c_points : List Cond := .code yX6_points cX6_points 4 (some .int) :: (([.methodLink RX6 200 yX6_needRunner, .instanceMethod yX6_needRunner, .selects RX6 yX6_needRunner yX6_needRunner, .initialized RX6] : List Cond) ++ (us_c_needRunner ++ ([])))
theorem gw_c_points : ∀ w ∈ us_c_points, goodWord w = true := gw_cons rfl (gw_app (by decide +kernel) (gw_app gw_c_needRunner (fun _ h => nomatch h)))
set_option maxHeartbeats 4000000 in
set_option maxRecDepth 100000 in
/-- points: there is no such number yet -/
theorem c_points (l : Launch) (hst : l.stackTraces = false) (D : va_G) (x : Nat) (g : Nat) (ca : Nat) (co : Nat) (ra : Nat) (rl : Nat) (tr : Nat) (f9 : Nat) (f10 : Nat) (f11 : Nat) (f12 : Nat) (f13 : Nat) (p0 : Int32) (sz : Nat) : vx_Met l yX6_points us_c_points { frames := 8, cells := 1, slots := 6, locals := 124 } (pw D [.ref x, .int p0] [] [(x, .inr (13, [.ref g, .ref ca, .int 0, .ref co, .int 0, .ref ra, .int 0, .ref rl, .ref tr, .ref f9, .ref f10, .ref f11, .ref f12, .ref f13]))] sz) qN (vx_X (fun E => E = "java/lang/IndexOutOfBoundsException") xb (va_A [(x, .inr (13, [.ref g, .ref ca, .int 0, .ref co, .int 0, .ref ra, .int 0, .ref rl, .ref tr, .ref f9, .ref f10, .ref f11, .ref f12, .ref f13]))] sz)) 1 6 (va_A [(x, .inr (13, [.ref g, .ref ca, .int 0, .ref co, .int 0, .ref ra, .int 0, .ref rl, .ref tr, .ref f9, .ref f10, .ref f11, .ref f12, .ref f13]))] sz) := by
  refine op_X (Qc := fun _ => qN) (px := (fun E => E = "java/lang/IndexOutOfBoundsException")) (by decide +kernel) rfl (Nat.le_of_ble_eq_true rfl) ?_
  intro p e s m args below meth c A ls hx hb hr hml hts hown hlocks hmn htab hA hD hS hP hK hE hsz hl
  have hown : s.vm.findClass RX6 = some m.cls := hown
  have hl : lv_has ls 4 [(0, .ref x), (1, .int p0)] := hl
  have hw_0 := hts (.methodLink RX6 200 yX6_needRunner) (List.mem_cons_of_mem _ (List.mem_append_left _ (List.mem_of_getElem? (i := 0) rfl)))
  have hw_1 := hts (.instanceMethod yX6_needRunner) (List.mem_cons_of_mem _ (List.mem_append_left _ (List.mem_of_getElem? (i := 1) rfl)))
  have hw_2 := hts (.selects RX6 yX6_needRunner yX6_needRunner) (List.mem_cons_of_mem _ (List.mem_append_left _ (List.mem_of_getElem? (i := 2) rfl)))
  have hw_3 := hts (.initialized RX6) (List.mem_cons_of_mem _ (List.mem_append_left _ (List.mem_of_getElem? (i := 3) rfl)))
  have hb_0 : ∀ w ∈ us_c_needRunner, w ∈ us_c_points := fun w h => List.mem_cons_of_mem _ (List.mem_append_right _ (List.mem_append_left _ h))
  refine lv_aload_n hx hb dX6_points_0 rfl (lv_at hl 0 rfl) ?_
  refine lv_aload_n hx hb dX6_points_1 rfl (lv_at hl 0 rfl) ?_
  refine lv_iload_n hx hb dX6_points_2 rfl (lv_at hl 1 rfl) ?_
  exact mt_out (vx_runV (As := [.int p0]) (rest := [.ref x]) ⟨hx, hb, hml, hown, hts⟩ (c_needRunner l hst D x g ca co ra rl tr f9 f10 f11 f12 f13 p0 s.heap.size) (cwV 1 hts (gi_c (List.mem_cons_of_mem _ (List.mem_append_left _ (List.mem_of_getElem? (i := 0) rfl))) rfl (gi_c (List.mem_cons_of_mem _ (List.mem_append_left _ (List.mem_of_getElem? (i := 1) rfl))) rfl (gi_c (List.mem_cons_of_mem _ (List.mem_append_left _ (List.mem_of_getElem? (i := 2) rfl))) rfl (gi_c (List.mem_cons_of_mem _ (List.mem_append_left _ (List.mem_of_getElem? (i := 3) rfl))) rfl (goodIn_sub hb_0 (List.all_eq_true.mpr gw_c_needRunner)))))) rfl rfl rfl (by decide +kernel) ⟨Nat.le_of_ble_eq_true rfl, Nat.le_of_ble_eq_true rfl⟩) (pr_V (As := [.int p0]) (b := x) (C := RX6) hP hD hK hS hA hE [0] [] rfl rfl rfl 0 13 rfl rfl rfl) rfl rfl hl.1 rfl (lv_room (Nat.le_of_ble_eq_true rfl)) dX6_points_3 ⟨Nat.le_of_ble_eq_true rfl, Nat.le_of_ble_eq_true rfl⟩) hD hS hA [0] rfl htab hlocks (fun _ h => h) (Nat.le_of_ble_eq_true rfl) (Nat.le_of_ble_eq_true rfl)

def us_c_team : List Cond := .code yX6_team cX6_team 4 (some .int) :: (([.methodLink RX6 157 yX6_needCourse, .instanceMethod yX6_needCourse, .selects RX6 yX6_needCourse yX6_needCourse, .initialized RX6] : List Cond) ++ (us_c_needCourse ++ ([])))
theorem gw_c_team : ∀ w ∈ us_c_team, goodWord w = true := gw_cons rfl (gw_app (by decide +kernel) (gw_app gw_c_needCourse (fun _ h => nomatch h)))
set_option maxHeartbeats 4000000 in
set_option maxRecDepth 100000 in
/-- team: there is no such number yet -/
theorem c_team (l : Launch) (hst : l.stackTraces = false) (D : va_G) (x : Nat) (g : Nat) (ca : Nat) (co : Nat) (ra : Nat) (rl : Nat) (tr : Nat) (f9 : Nat) (f10 : Nat) (f11 : Nat) (f12 : Nat) (f13 : Nat) (p0 : Int32) (p1 : Int32) (sz : Nat) : vx_Met l yX6_team us_c_team { frames := 8, cells := 1, slots := 6, locals := 124 } (pw D [.ref x, .int p0, .int p1] [] [(x, .inr (13, [.ref g, .ref ca, .int 0, .ref co, .int 0, .ref ra, .int 0, .ref rl, .ref tr, .ref f9, .ref f10, .ref f11, .ref f12, .ref f13]))] sz) qN (vx_X (fun E => E = "java/lang/IndexOutOfBoundsException") xb (va_A [(x, .inr (13, [.ref g, .ref ca, .int 0, .ref co, .int 0, .ref ra, .int 0, .ref rl, .ref tr, .ref f9, .ref f10, .ref f11, .ref f12, .ref f13]))] sz)) 1 6 (va_A [(x, .inr (13, [.ref g, .ref ca, .int 0, .ref co, .int 0, .ref ra, .int 0, .ref rl, .ref tr, .ref f9, .ref f10, .ref f11, .ref f12, .ref f13]))] sz) := by
  refine op_X (Qc := fun _ => qN) (px := (fun E => E = "java/lang/IndexOutOfBoundsException")) (by decide +kernel) rfl (Nat.le_of_ble_eq_true rfl) ?_
  intro p e s m args below meth c A ls hx hb hr hml hts hown hlocks hmn htab hA hD hS hP hK hE hsz hl
  have hown : s.vm.findClass RX6 = some m.cls := hown
  have hl : lv_has ls 4 [(0, .ref x), (1, .int p0), (2, .int p1)] := hl
  have hw_0 := hts (.methodLink RX6 157 yX6_needCourse) (List.mem_cons_of_mem _ (List.mem_append_left _ (List.mem_of_getElem? (i := 0) rfl)))
  have hw_1 := hts (.instanceMethod yX6_needCourse) (List.mem_cons_of_mem _ (List.mem_append_left _ (List.mem_of_getElem? (i := 1) rfl)))
  have hw_2 := hts (.selects RX6 yX6_needCourse yX6_needCourse) (List.mem_cons_of_mem _ (List.mem_append_left _ (List.mem_of_getElem? (i := 2) rfl)))
  have hw_3 := hts (.initialized RX6) (List.mem_cons_of_mem _ (List.mem_append_left _ (List.mem_of_getElem? (i := 3) rfl)))
  have hb_0 : ∀ w ∈ us_c_needCourse, w ∈ us_c_team := fun w h => List.mem_cons_of_mem _ (List.mem_append_right _ (List.mem_append_left _ h))
  refine lv_aload_n hx hb dX6_team_0 rfl (lv_at hl 0 rfl) ?_
  refine lv_iload_n hx hb dX6_team_1 rfl (lv_at hl 1 rfl) ?_
  exact mt_out (vx_runV (As := [.int p0]) (rest := []) ⟨hx, hb, hml, hown, hts⟩ (c_needCourse l hst D x g ca co ra rl tr f9 f10 f11 f12 f13 p0 s.heap.size) (cwV 1 hts (gi_c (List.mem_cons_of_mem _ (List.mem_append_left _ (List.mem_of_getElem? (i := 0) rfl))) rfl (gi_c (List.mem_cons_of_mem _ (List.mem_append_left _ (List.mem_of_getElem? (i := 1) rfl))) rfl (gi_c (List.mem_cons_of_mem _ (List.mem_append_left _ (List.mem_of_getElem? (i := 2) rfl))) rfl (gi_c (List.mem_cons_of_mem _ (List.mem_append_left _ (List.mem_of_getElem? (i := 3) rfl))) rfl (goodIn_sub hb_0 (List.all_eq_true.mpr gw_c_needCourse)))))) rfl rfl rfl (by decide +kernel) ⟨Nat.le_of_ble_eq_true rfl, Nat.le_of_ble_eq_true rfl⟩) (pr_V (As := [.int p0]) (b := x) (C := RX6) hP hD hK hS hA hE [0] [] rfl rfl rfl 0 13 rfl rfl rfl) rfl rfl hl.1 rfl (lv_room (Nat.le_of_ble_eq_true rfl)) dX6_team_2 ⟨Nat.le_of_ble_eq_true rfl, Nat.le_of_ble_eq_true rfl⟩) hD hS hA [0] rfl htab hlocks (fun _ h => h) (Nat.le_of_ble_eq_true rfl) (Nat.le_of_ble_eq_true rfl)

def us_c_runs : List Cond := .code yX6_runs cX6_runs 5 (some .int) :: (([.fieldLink RX6 37 "ControlWood" "relay" "LControlWood$Relay;", .fieldLink RX6 85 "ControlWood$Relay" "teams" "I", .methodLink RX6 174 yX6_needIndex, .static yX6_needIndex, .initialized RX6] : List Cond) ++ (wsX60 ++ (wsX20 ++ (us_c_needIndexT ++ ([])))))
theorem gw_c_runs : ∀ w ∈ us_c_runs, goodWord w = true := gw_cons rfl (gw_app (by decide +kernel) (gw_app gwf_X6 (gw_app gwf_X2 (gw_app gw_c_needIndexT (fun _ h => nomatch h)))))
set_option maxHeartbeats 4000000 in
set_option maxRecDepth 100000 in
/-- runs: there is no such number yet -/
theorem c_runs (l : Launch) (hst : l.stackTraces = false) (D : va_G) (x : Nat) (g : Nat) (ca : Nat) (co : Nat) (ra : Nat) (rl : Nat) (tr : Nat) (f9 : Nat) (f10 : Nat) (f11 : Nat) (f12 : Nat) (f13 : Nat) (re1 : Nat) (re2 : Nat) (re3 : Nat) (re4 : Nat) (p0 : Int32) (p1 : Int32) (p2 : Int32) (sz : Nat) : vx_Met l yX6_runs us_c_runs { frames := 7, cells := 1, slots := 6, locals := 103 } (pw D [.ref x, .int p0, .int p1, .int p2] [] [(x, .inr (13, [.ref g, .ref ca, .int 0, .ref co, .int 0, .ref ra, .int 0, .ref rl, .ref tr, .ref f9, .ref f10, .ref f11, .ref f12, .ref f13])), (rl, .inr (9, [.int 0, .int 0, .ref re1, .ref re2, .ref re3, .ref re4]))] sz) qN (vx_X (fun E => E = "java/lang/IndexOutOfBoundsException") xb (va_A [(x, .inr (13, [.ref g, .ref ca, .int 0, .ref co, .int 0, .ref ra, .int 0, .ref rl, .ref tr, .ref f9, .ref f10, .ref f11, .ref f12, .ref f13])), (rl, .inr (9, [.int 0, .int 0, .ref re1, .ref re2, .ref re3, .ref re4]))] sz)) 1 6 (va_A [(x, .inr (13, [.ref g, .ref ca, .int 0, .ref co, .int 0, .ref ra, .int 0, .ref rl, .ref tr, .ref f9, .ref f10, .ref f11, .ref f12, .ref f13])), (rl, .inr (9, [.int 0, .int 0, .ref re1, .ref re2, .ref re3, .ref re4]))] sz) := by
  refine op_X (Qc := fun _ => qN) (px := (fun E => E = "java/lang/IndexOutOfBoundsException")) (by decide +kernel) rfl (Nat.le_of_ble_eq_true rfl) ?_
  intro p e s m args below meth c A ls hx hb hr hml hts hown hlocks hmn htab hA hD hS hP hK hE hsz hl
  have hown : s.vm.findClass RX6 = some m.cls := hown
  have hl : lv_has ls 5 [(0, .ref x), (1, .int p0), (2, .int p1), (3, .int p2)] := hl
  have hw_0 := hts (.fieldLink RX6 37 "ControlWood" "relay" "LControlWood$Relay;") (List.mem_cons_of_mem _ (List.mem_append_left _ (List.mem_of_getElem? (i := 0) rfl)))
  have hw_1 := hts (.fieldLink RX6 85 "ControlWood$Relay" "teams" "I") (List.mem_cons_of_mem _ (List.mem_append_left _ (List.mem_of_getElem? (i := 1) rfl)))
  have hw_2 := hts (.methodLink RX6 174 yX6_needIndex) (List.mem_cons_of_mem _ (List.mem_append_left _ (List.mem_of_getElem? (i := 2) rfl)))
  have hw_3 := hts (.static yX6_needIndex) (List.mem_cons_of_mem _ (List.mem_append_left _ (List.mem_of_getElem? (i := 3) rfl)))
  have hw_4 := hts (.initialized RX6) (List.mem_cons_of_mem _ (List.mem_append_left _ (List.mem_of_getElem? (i := 4) rfl)))
  have hb_0 : ∀ w ∈ wsX60, w ∈ us_c_runs := fun w h => List.mem_cons_of_mem _ (List.mem_append_right _ (List.mem_append_left _ h))
  have hb_1 : ∀ w ∈ wsX20, w ∈ us_c_runs := fun w h => List.mem_cons_of_mem _ (List.mem_append_right _ (List.mem_append_right _ (List.mem_append_left _ h)))
  have hb_2 : ∀ w ∈ us_c_needIndexT, w ∈ us_c_runs := fun w h => List.mem_cons_of_mem _ (List.mem_append_right _ (List.mem_append_right _ (List.mem_append_right _ (List.mem_append_left _ h))))
  refine lv_iload_n hx hb dX6_runs_0 rfl (lv_at hl 1 rfl) ?_
  refine lv_aload_n hx hb dX6_runs_1 rfl (lv_at hl 0 rfl) ?_
  refine va_get (D := D) (ci := 13) (v := .ref rl) (C := RX6) (T := TX6) (N := 14) hx hb hts hb_0 hown hK hP 0 rfl rfl 7 (by decide) hw_0 (fun _ h9 => h9) rfl dX6_runs_2 ?_
  refine va_get (D := D) (ci := 9) (v := .int 0) (C := RX2) (T := TX2) (N := 6) hx hb hts hb_1 hown hK hP 1 rfl rfl 1 (by decide) hw_1 (fun _ h9 => h9) rfl dX6_runs_5 ?_
  exact mt_out (vx_runS (As := [.int p0, .int 0]) (rest := []) ⟨hx, hb, hml, hown, hts⟩ (c_needIndexT l hst D p0 0 s.heap.size (inI_0 p0)) (va_cwS 2 hts (gi_c (List.mem_cons_of_mem _ (List.mem_append_left _ (List.mem_of_getElem? (i := 2) rfl))) rfl (gi_c (List.mem_cons_of_mem _ (List.mem_append_left _ (List.mem_of_getElem? (i := 3) rfl))) rfl (gi_c (List.mem_cons_of_mem _ (List.mem_append_left _ (List.mem_of_getElem? (i := 4) rfl))) rfl (goodIn_sub hb_2 (List.all_eq_true.mpr gw_c_needIndexT))))) rfl rfl rfl (by decide +kernel) ⟨Nat.le_of_ble_eq_true rfl, Nat.le_of_ble_eq_true rfl⟩) (pr_S (As := [.int p0, .int 0]) hP hD hK hS hA hE [] [] rfl rfl rfl) rfl rfl hl.1 rfl (lv_room (Nat.le_of_ble_eq_true rfl)) dX6_runs_8 ⟨Nat.le_of_ble_eq_true rfl, Nat.le_of_ble_eq_true rfl⟩) hD hS hA [] rfl htab hlocks (fun _ h => h) (Nat.le_of_ble_eq_true rfl) (Nat.le_of_ble_eq_true rfl)

def us_c_chase : List Cond := .code yX6_chase cX6_chase 7 (some .int) :: (([.methodLink RX6 157 yX6_needCourse, .instanceMethod yX6_needCourse, .selects RX6 yX6_needCourse yX6_needCourse, .initialized RX6] : List Cond) ++ (us_c_needCourse ++ ([])))
theorem gw_c_chase : ∀ w ∈ us_c_chase, goodWord w = true := gw_cons rfl (gw_app (by decide +kernel) (gw_app gw_c_needCourse (fun _ h => nomatch h)))
set_option maxHeartbeats 4000000 in
set_option maxRecDepth 100000 in
/-- chase: there is no such number yet -/
theorem c_chase (l : Launch) (hst : l.stackTraces = false) (D : va_G) (x : Nat) (g : Nat) (ca : Nat) (co : Nat) (ra : Nat) (rl : Nat) (tr : Nat) (f9 : Nat) (f10 : Nat) (f11 : Nat) (f12 : Nat) (f13 : Nat) (p0 : Int32) (p1 : Int32) (p2 : Int32) (sz : Nat) : vx_Met l yX6_chase us_c_chase { frames := 8, cells := 1, slots := 6, locals := 124 } (pw D [.ref x, .int p0, .int p1, .int p2] [] [(x, .inr (13, [.ref g, .ref ca, .int 0, .ref co, .int 0, .ref ra, .int 0, .ref rl, .ref tr, .ref f9, .ref f10, .ref f11, .ref f12, .ref f13]))] sz) qN (vx_X (fun E => E = "java/lang/IndexOutOfBoundsException") xb (va_A [(x, .inr (13, [.ref g, .ref ca, .int 0, .ref co, .int 0, .ref ra, .int 0, .ref rl, .ref tr, .ref f9, .ref f10, .ref f11, .ref f12, .ref f13]))] sz)) 1 6 (va_A [(x, .inr (13, [.ref g, .ref ca, .int 0, .ref co, .int 0, .ref ra, .int 0, .ref rl, .ref tr, .ref f9, .ref f10, .ref f11, .ref f12, .ref f13]))] sz) := by
  refine op_X (Qc := fun _ => qN) (px := (fun E => E = "java/lang/IndexOutOfBoundsException")) (by decide +kernel) rfl (Nat.le_of_ble_eq_true rfl) ?_
  intro p e s m args below meth c A ls hx hb hr hml hts hown hlocks hmn htab hA hD hS hP hK hE hsz hl
  have hown : s.vm.findClass RX6 = some m.cls := hown
  have hl : lv_has ls 7 [(0, .ref x), (1, .int p0), (2, .int p1), (3, .int p2)] := hl
  have hw_0 := hts (.methodLink RX6 157 yX6_needCourse) (List.mem_cons_of_mem _ (List.mem_append_left _ (List.mem_of_getElem? (i := 0) rfl)))
  have hw_1 := hts (.instanceMethod yX6_needCourse) (List.mem_cons_of_mem _ (List.mem_append_left _ (List.mem_of_getElem? (i := 1) rfl)))
  have hw_2 := hts (.selects RX6 yX6_needCourse yX6_needCourse) (List.mem_cons_of_mem _ (List.mem_append_left _ (List.mem_of_getElem? (i := 2) rfl)))
  have hw_3 := hts (.initialized RX6) (List.mem_cons_of_mem _ (List.mem_append_left _ (List.mem_of_getElem? (i := 3) rfl)))
  have hb_0 : ∀ w ∈ us_c_needCourse, w ∈ us_c_chase := fun w h => List.mem_cons_of_mem _ (List.mem_append_right _ (List.mem_append_left _ h))
  refine lv_aload_n hx hb dX6_chase_0 rfl (lv_at hl 0 rfl) ?_
  refine lv_iload_n hx hb dX6_chase_1 rfl (lv_at hl 1 rfl) ?_
  exact mt_out (vx_runV (As := [.int p0]) (rest := []) ⟨hx, hb, hml, hown, hts⟩ (c_needCourse l hst D x g ca co ra rl tr f9 f10 f11 f12 f13 p0 s.heap.size) (cwV 1 hts (gi_c (List.mem_cons_of_mem _ (List.mem_append_left _ (List.mem_of_getElem? (i := 0) rfl))) rfl (gi_c (List.mem_cons_of_mem _ (List.mem_append_left _ (List.mem_of_getElem? (i := 1) rfl))) rfl (gi_c (List.mem_cons_of_mem _ (List.mem_append_left _ (List.mem_of_getElem? (i := 2) rfl))) rfl (gi_c (List.mem_cons_of_mem _ (List.mem_append_left _ (List.mem_of_getElem? (i := 3) rfl))) rfl (goodIn_sub hb_0 (List.all_eq_true.mpr gw_c_needCourse)))))) rfl rfl rfl (by decide +kernel) ⟨Nat.le_of_ble_eq_true rfl, Nat.le_of_ble_eq_true rfl⟩) (pr_V (As := [.int p0]) (b := x) (C := RX6) hP hD hK hS hA hE [0] [] rfl rfl rfl 0 13 rfl rfl rfl) rfl rfl hl.1 rfl (lv_room (Nat.le_of_ble_eq_true rfl)) dX6_chase_2 ⟨Nat.le_of_ble_eq_true rfl, Nat.le_of_ble_eq_true rfl⟩) hD hS hA [0] rfl htab hlocks (fun _ h => h) (Nat.le_of_ble_eq_true rfl) (Nat.le_of_ble_eq_true rfl)

def us_c_fix : List Cond := .code yX6_fix cX6_fix 5 (some .int) :: (([.methodLink RX6 200 yX6_needRunner, .instanceMethod yX6_needRunner, .selects RX6 yX6_needRunner yX6_needRunner, .initialized RX6] : List Cond) ++ (us_c_needRunner ++ ([])))
theorem gw_c_fix : ∀ w ∈ us_c_fix, goodWord w = true := gw_cons rfl (gw_app (by decide +kernel) (gw_app gw_c_needRunner (fun _ h => nomatch h)))
set_option maxHeartbeats 4000000 in
set_option maxRecDepth 100000 in
/-- fix: there is no such number yet -/
theorem c_fix (l : Launch) (hst : l.stackTraces = false) (D : va_G) (x : Nat) (g : Nat) (ca : Nat) (co : Nat) (ra : Nat) (rl : Nat) (tr : Nat) (f9 : Nat) (f10 : Nat) (f11 : Nat) (f12 : Nat) (f13 : Nat) (p0 : Int32) (p1 : Int32) (p2 : Int32) (sz : Nat) : vx_Met l yX6_fix us_c_fix { frames := 8, cells := 1, slots := 6, locals := 124 } (pw D [.ref x, .int p0, .int p1, .int p2] [] [(x, .inr (13, [.ref g, .ref ca, .int 0, .ref co, .int 0, .ref ra, .int 0, .ref rl, .ref tr, .ref f9, .ref f10, .ref f11, .ref f12, .ref f13]))] sz) qN (vx_X (fun E => E = "java/lang/IndexOutOfBoundsException") xb (va_A [(x, .inr (13, [.ref g, .ref ca, .int 0, .ref co, .int 0, .ref ra, .int 0, .ref rl, .ref tr, .ref f9, .ref f10, .ref f11, .ref f12, .ref f13]))] sz)) 1 6 (va_A [(x, .inr (13, [.ref g, .ref ca, .int 0, .ref co, .int 0, .ref ra, .int 0, .ref rl, .ref tr, .ref f9, .ref f10, .ref f11, .ref f12, .ref f13]))] sz) := by
  refine op_X (Qc := fun _ => qN) (px := (fun E => E = "java/lang/IndexOutOfBoundsException")) (by decide +kernel) rfl (Nat.le_of_ble_eq_true rfl) ?_
  intro p e s m args below meth c A ls hx hb hr hml hts hown hlocks hmn htab hA hD hS hP hK hE hsz hl
  have hown : s.vm.findClass RX6 = some m.cls := hown
  have hl : lv_has ls 5 [(0, .ref x), (1, .int p0), (2, .int p1), (3, .int p2)] := hl
  have hw_0 := hts (.methodLink RX6 200 yX6_needRunner) (List.mem_cons_of_mem _ (List.mem_append_left _ (List.mem_of_getElem? (i := 0) rfl)))
  have hw_1 := hts (.instanceMethod yX6_needRunner) (List.mem_cons_of_mem _ (List.mem_append_left _ (List.mem_of_getElem? (i := 1) rfl)))
  have hw_2 := hts (.selects RX6 yX6_needRunner yX6_needRunner) (List.mem_cons_of_mem _ (List.mem_append_left _ (List.mem_of_getElem? (i := 2) rfl)))
  have hw_3 := hts (.initialized RX6) (List.mem_cons_of_mem _ (List.mem_append_left _ (List.mem_of_getElem? (i := 3) rfl)))
  have hb_0 : ∀ w ∈ us_c_needRunner, w ∈ us_c_fix := fun w h => List.mem_cons_of_mem _ (List.mem_append_right _ (List.mem_append_left _ h))
  refine lv_aload_n hx hb dX6_fix_0 rfl (lv_at hl 0 rfl) ?_
  refine lv_iload_n hx hb dX6_fix_1 rfl (lv_at hl 1 rfl) ?_
  exact mt_out (vx_runV (As := [.int p0]) (rest := []) ⟨hx, hb, hml, hown, hts⟩ (c_needRunner l hst D x g ca co ra rl tr f9 f10 f11 f12 f13 p0 s.heap.size) (cwV 1 hts (gi_c (List.mem_cons_of_mem _ (List.mem_append_left _ (List.mem_of_getElem? (i := 0) rfl))) rfl (gi_c (List.mem_cons_of_mem _ (List.mem_append_left _ (List.mem_of_getElem? (i := 1) rfl))) rfl (gi_c (List.mem_cons_of_mem _ (List.mem_append_left _ (List.mem_of_getElem? (i := 2) rfl))) rfl (gi_c (List.mem_cons_of_mem _ (List.mem_append_left _ (List.mem_of_getElem? (i := 3) rfl))) rfl (goodIn_sub hb_0 (List.all_eq_true.mpr gw_c_needRunner)))))) rfl rfl rfl (by decide +kernel) ⟨Nat.le_of_ble_eq_true rfl, Nat.le_of_ble_eq_true rfl⟩) (pr_V (As := [.int p0]) (b := x) (C := RX6) hP hD hK hS hA hE [0] [] rfl rfl rfl 0 13 rfl rfl rfl) rfl rfl hl.1 rfl (lv_room (Nat.le_of_ble_eq_true rfl)) dX6_fix_2 ⟨Nat.le_of_ble_eq_true rfl, Nat.le_of_ble_eq_true rfl⟩) hD hS hA [0] rfl htab hlocks (fun _ h => h) (Nat.le_of_ble_eq_true rfl) (Nat.le_of_ble_eq_true rfl)

def us_c_mayHave : List Cond := .code yX6_mayHave cX6_mayHave 6 (some .boolean) :: (([.methodLink RX6 200 yX6_needRunner, .instanceMethod yX6_needRunner, .selects RX6 yX6_needRunner yX6_needRunner, .initialized RX6] : List Cond) ++ (us_c_needRunner ++ ([])))
theorem gw_c_mayHave : ∀ w ∈ us_c_mayHave, goodWord w = true := gw_cons rfl (gw_app (by decide +kernel) (gw_app gw_c_needRunner (fun _ h => nomatch h)))
set_option maxHeartbeats 4000000 in
set_option maxRecDepth 100000 in
/-- mayHave: there is no such number yet -/
theorem c_mayHave (l : Launch) (hst : l.stackTraces = false) (D : va_G) (x : Nat) (g : Nat) (ca : Nat) (co : Nat) (ra : Nat) (rl : Nat) (tr : Nat) (f9 : Nat) (f10 : Nat) (f11 : Nat) (f12 : Nat) (f13 : Nat) (p0 : Int32) (p1 : Int32) (sz : Nat) : vx_Met l yX6_mayHave us_c_mayHave { frames := 8, cells := 1, slots := 6, locals := 124 } (pw D [.ref x, .int p0, .int p1] [] [(x, .inr (13, [.ref g, .ref ca, .int 0, .ref co, .int 0, .ref ra, .int 0, .ref rl, .ref tr, .ref f9, .ref f10, .ref f11, .ref f12, .ref f13]))] sz) qN (vx_X (fun E => E = "java/lang/IndexOutOfBoundsException") xb (va_A [(x, .inr (13, [.ref g, .ref ca, .int 0, .ref co, .int 0, .ref ra, .int 0, .ref rl, .ref tr, .ref f9, .ref f10, .ref f11, .ref f12, .ref f13]))] sz)) 1 6 (va_A [(x, .inr (13, [.ref g, .ref ca, .int 0, .ref co, .int 0, .ref ra, .int 0, .ref rl, .ref tr, .ref f9, .ref f10, .ref f11, .ref f12, .ref f13]))] sz) := by
  refine op_X (Qc := fun _ => qN) (px := (fun E => E = "java/lang/IndexOutOfBoundsException")) (by decide +kernel) rfl (Nat.le_of_ble_eq_true rfl) ?_
  intro p e s m args below meth c A ls hx hb hr hml hts hown hlocks hmn htab hA hD hS hP hK hE hsz hl
  have hown : s.vm.findClass RX6 = some m.cls := hown
  have hl : lv_has ls 6 [(0, .ref x), (1, .int p0), (2, .int p1)] := hl
  have hw_0 := hts (.methodLink RX6 200 yX6_needRunner) (List.mem_cons_of_mem _ (List.mem_append_left _ (List.mem_of_getElem? (i := 0) rfl)))
  have hw_1 := hts (.instanceMethod yX6_needRunner) (List.mem_cons_of_mem _ (List.mem_append_left _ (List.mem_of_getElem? (i := 1) rfl)))
  have hw_2 := hts (.selects RX6 yX6_needRunner yX6_needRunner) (List.mem_cons_of_mem _ (List.mem_append_left _ (List.mem_of_getElem? (i := 2) rfl)))
  have hw_3 := hts (.initialized RX6) (List.mem_cons_of_mem _ (List.mem_append_left _ (List.mem_of_getElem? (i := 3) rfl)))
  have hb_0 : ∀ w ∈ us_c_needRunner, w ∈ us_c_mayHave := fun w h => List.mem_cons_of_mem _ (List.mem_append_right _ (List.mem_append_left _ h))
  refine lv_aload_n hx hb dX6_mayHave_0 rfl (lv_at hl 0 rfl) ?_
  refine lv_iload_n hx hb dX6_mayHave_1 rfl (lv_at hl 1 rfl) ?_
  exact mt_out (vx_runV (As := [.int p0]) (rest := []) ⟨hx, hb, hml, hown, hts⟩ (c_needRunner l hst D x g ca co ra rl tr f9 f10 f11 f12 f13 p0 s.heap.size) (cwV 1 hts (gi_c (List.mem_cons_of_mem _ (List.mem_append_left _ (List.mem_of_getElem? (i := 0) rfl))) rfl (gi_c (List.mem_cons_of_mem _ (List.mem_append_left _ (List.mem_of_getElem? (i := 1) rfl))) rfl (gi_c (List.mem_cons_of_mem _ (List.mem_append_left _ (List.mem_of_getElem? (i := 2) rfl))) rfl (gi_c (List.mem_cons_of_mem _ (List.mem_append_left _ (List.mem_of_getElem? (i := 3) rfl))) rfl (goodIn_sub hb_0 (List.all_eq_true.mpr gw_c_needRunner)))))) rfl rfl rfl (by decide +kernel) ⟨Nat.le_of_ble_eq_true rfl, Nat.le_of_ble_eq_true rfl⟩) (pr_V (As := [.int p0]) (b := x) (C := RX6) hP hD hK hS hA hE [0] [] rfl rfl rfl 0 13 rfl rfl rfl) rfl rfl hl.1 rfl (lv_room (Nat.le_of_ble_eq_true rfl)) dX6_mayHave_2 ⟨Nat.le_of_ble_eq_true rfl, Nat.le_of_ble_eq_true rfl⟩) hD hS hA [0] rfl htab hlocks (fun _ h => h) (Nat.le_of_ble_eq_true rfl) (Nat.le_of_ble_eq_true rfl)

def us_c_okShare : List Cond := .code yX6_okShare cX6_okShare 3 (some .float) :: (([.methodLink RX6 157 yX6_needCourse, .instanceMethod yX6_needCourse, .selects RX6 yX6_needCourse yX6_needCourse, .initialized RX6] : List Cond) ++ (us_c_needCourse ++ ([])))
theorem gw_c_okShare : ∀ w ∈ us_c_okShare, goodWord w = true := gw_cons rfl (gw_app (by decide +kernel) (gw_app gw_c_needCourse (fun _ h => nomatch h)))
set_option maxHeartbeats 4000000 in
set_option maxRecDepth 100000 in
/-- okShare: there is no such number yet -/
theorem c_okShare (l : Launch) (hst : l.stackTraces = false) (D : va_G) (x : Nat) (g : Nat) (ca : Nat) (co : Nat) (ra : Nat) (rl : Nat) (tr : Nat) (f9 : Nat) (f10 : Nat) (f11 : Nat) (f12 : Nat) (f13 : Nat) (p0 : Int32) (sz : Nat) : vx_Met l yX6_okShare us_c_okShare { frames := 8, cells := 1, slots := 6, locals := 124 } (pw D [.ref x, .int p0] [] [(x, .inr (13, [.ref g, .ref ca, .int 0, .ref co, .int 0, .ref ra, .int 0, .ref rl, .ref tr, .ref f9, .ref f10, .ref f11, .ref f12, .ref f13]))] sz) qN (vx_X (fun E => E = "java/lang/IndexOutOfBoundsException") xb (va_A [(x, .inr (13, [.ref g, .ref ca, .int 0, .ref co, .int 0, .ref ra, .int 0, .ref rl, .ref tr, .ref f9, .ref f10, .ref f11, .ref f12, .ref f13]))] sz)) 1 6 (va_A [(x, .inr (13, [.ref g, .ref ca, .int 0, .ref co, .int 0, .ref ra, .int 0, .ref rl, .ref tr, .ref f9, .ref f10, .ref f11, .ref f12, .ref f13]))] sz) := by
  refine op_X (Qc := fun _ => qN) (px := (fun E => E = "java/lang/IndexOutOfBoundsException")) (by decide +kernel) rfl (Nat.le_of_ble_eq_true rfl) ?_
  intro p e s m args below meth c A ls hx hb hr hml hts hown hlocks hmn htab hA hD hS hP hK hE hsz hl
  have hown : s.vm.findClass RX6 = some m.cls := hown
  have hl : lv_has ls 3 [(0, .ref x), (1, .int p0)] := hl
  have hw_0 := hts (.methodLink RX6 157 yX6_needCourse) (List.mem_cons_of_mem _ (List.mem_append_left _ (List.mem_of_getElem? (i := 0) rfl)))
  have hw_1 := hts (.instanceMethod yX6_needCourse) (List.mem_cons_of_mem _ (List.mem_append_left _ (List.mem_of_getElem? (i := 1) rfl)))
  have hw_2 := hts (.selects RX6 yX6_needCourse yX6_needCourse) (List.mem_cons_of_mem _ (List.mem_append_left _ (List.mem_of_getElem? (i := 2) rfl)))
  have hw_3 := hts (.initialized RX6) (List.mem_cons_of_mem _ (List.mem_append_left _ (List.mem_of_getElem? (i := 3) rfl)))
  have hb_0 : ∀ w ∈ us_c_needCourse, w ∈ us_c_okShare := fun w h => List.mem_cons_of_mem _ (List.mem_append_right _ (List.mem_append_left _ h))
  refine lv_aload_n hx hb dX6_okShare_0 rfl (lv_at hl 0 rfl) ?_
  refine lv_iload_n hx hb dX6_okShare_1 rfl (lv_at hl 1 rfl) ?_
  exact mt_out (vx_runV (As := [.int p0]) (rest := []) ⟨hx, hb, hml, hown, hts⟩ (c_needCourse l hst D x g ca co ra rl tr f9 f10 f11 f12 f13 p0 s.heap.size) (cwV 1 hts (gi_c (List.mem_cons_of_mem _ (List.mem_append_left _ (List.mem_of_getElem? (i := 0) rfl))) rfl (gi_c (List.mem_cons_of_mem _ (List.mem_append_left _ (List.mem_of_getElem? (i := 1) rfl))) rfl (gi_c (List.mem_cons_of_mem _ (List.mem_append_left _ (List.mem_of_getElem? (i := 2) rfl))) rfl (gi_c (List.mem_cons_of_mem _ (List.mem_append_left _ (List.mem_of_getElem? (i := 3) rfl))) rfl (goodIn_sub hb_0 (List.all_eq_true.mpr gw_c_needCourse)))))) rfl rfl rfl (by decide +kernel) ⟨Nat.le_of_ble_eq_true rfl, Nat.le_of_ble_eq_true rfl⟩) (pr_V (As := [.int p0]) (b := x) (C := RX6) hP hD hK hS hA hE [0] [] rfl rfl rfl 0 13 rfl rfl rfl) rfl rfl hl.1 rfl (lv_room (Nat.le_of_ble_eq_true rfl)) dX6_okShare_2 ⟨Nat.le_of_ble_eq_true rfl, Nat.le_of_ble_eq_true rfl⟩) hD hS hA [0] rfl htab hlocks (fun _ h => h) (Nat.le_of_ble_eq_true rfl) (Nat.le_of_ble_eq_true rfl)

def us_c_meanTime : List Cond := .code yX6_meanTime cX6_meanTime 5 (some .double) :: (([.methodLink RX6 157 yX6_needCourse, .instanceMethod yX6_needCourse, .selects RX6 yX6_needCourse yX6_needCourse, .initialized RX6] : List Cond) ++ (us_c_needCourse ++ ([])))
theorem gw_c_meanTime : ∀ w ∈ us_c_meanTime, goodWord w = true := gw_cons rfl (gw_app (by decide +kernel) (gw_app gw_c_needCourse (fun _ h => nomatch h)))
set_option maxHeartbeats 4000000 in
set_option maxRecDepth 100000 in
/-- meanTime: there is no such number yet -/
theorem c_meanTime (l : Launch) (hst : l.stackTraces = false) (D : va_G) (x : Nat) (g : Nat) (ca : Nat) (co : Nat) (ra : Nat) (rl : Nat) (tr : Nat) (f9 : Nat) (f10 : Nat) (f11 : Nat) (f12 : Nat) (f13 : Nat) (p0 : Int32) (sz : Nat) : vx_Met l yX6_meanTime us_c_meanTime { frames := 8, cells := 1, slots := 6, locals := 124 } (pw D [.ref x, .int p0] [] [(x, .inr (13, [.ref g, .ref ca, .int 0, .ref co, .int 0, .ref ra, .int 0, .ref rl, .ref tr, .ref f9, .ref f10, .ref f11, .ref f12, .ref f13]))] sz) qN (vx_X (fun E => E = "java/lang/IndexOutOfBoundsException") xb (va_A [(x, .inr (13, [.ref g, .ref ca, .int 0, .ref co, .int 0, .ref ra, .int 0, .ref rl, .ref tr, .ref f9, .ref f10, .ref f11, .ref f12, .ref f13]))] sz)) 1 6 (va_A [(x, .inr (13, [.ref g, .ref ca, .int 0, .ref co, .int 0, .ref ra, .int 0, .ref rl, .ref tr, .ref f9, .ref f10, .ref f11, .ref f12, .ref f13]))] sz) := by
  refine op_X (Qc := fun _ => qN) (px := (fun E => E = "java/lang/IndexOutOfBoundsException")) (by decide +kernel) rfl (Nat.le_of_ble_eq_true rfl) ?_
  intro p e s m args below meth c A ls hx hb hr hml hts hown hlocks hmn htab hA hD hS hP hK hE hsz hl
  have hown : s.vm.findClass RX6 = some m.cls := hown
  have hl : lv_has ls 5 [(0, .ref x), (1, .int p0)] := hl
  have hw_0 := hts (.methodLink RX6 157 yX6_needCourse) (List.mem_cons_of_mem _ (List.mem_append_left _ (List.mem_of_getElem? (i := 0) rfl)))
  have hw_1 := hts (.instanceMethod yX6_needCourse) (List.mem_cons_of_mem _ (List.mem_append_left _ (List.mem_of_getElem? (i := 1) rfl)))
  have hw_2 := hts (.selects RX6 yX6_needCourse yX6_needCourse) (List.mem_cons_of_mem _ (List.mem_append_left _ (List.mem_of_getElem? (i := 2) rfl)))
  have hw_3 := hts (.initialized RX6) (List.mem_cons_of_mem _ (List.mem_append_left _ (List.mem_of_getElem? (i := 3) rfl)))
  have hb_0 : ∀ w ∈ us_c_needCourse, w ∈ us_c_meanTime := fun w h => List.mem_cons_of_mem _ (List.mem_append_right _ (List.mem_append_left _ h))
  refine lv_aload_n hx hb dX6_meanTime_0 rfl (lv_at hl 0 rfl) ?_
  refine lv_iload_n hx hb dX6_meanTime_1 rfl (lv_at hl 1 rfl) ?_
  exact mt_out (vx_runV (As := [.int p0]) (rest := []) ⟨hx, hb, hml, hown, hts⟩ (c_needCourse l hst D x g ca co ra rl tr f9 f10 f11 f12 f13 p0 s.heap.size) (cwV 1 hts (gi_c (List.mem_cons_of_mem _ (List.mem_append_left _ (List.mem_of_getElem? (i := 0) rfl))) rfl (gi_c (List.mem_cons_of_mem _ (List.mem_append_left _ (List.mem_of_getElem? (i := 1) rfl))) rfl (gi_c (List.mem_cons_of_mem _ (List.mem_append_left _ (List.mem_of_getElem? (i := 2) rfl))) rfl (gi_c (List.mem_cons_of_mem _ (List.mem_append_left _ (List.mem_of_getElem? (i := 3) rfl))) rfl (goodIn_sub hb_0 (List.all_eq_true.mpr gw_c_needCourse)))))) rfl rfl rfl (by decide +kernel) ⟨Nat.le_of_ble_eq_true rfl, Nat.le_of_ble_eq_true rfl⟩) (pr_V (As := [.int p0]) (b := x) (C := RX6) hP hD hK hS hA hE [0] [] rfl rfl rfl 0 13 rfl rfl rfl) rfl rfl hl.1 rfl (lv_room (Nat.le_of_ble_eq_true rfl)) dX6_meanTime_2 ⟨Nat.le_of_ble_eq_true rfl, Nat.le_of_ble_eq_true rfl⟩) hD hS hA [0] rfl htab hlocks (fun _ h => h) (Nat.le_of_ble_eq_true rfl) (Nat.le_of_ble_eq_true rfl)

def us_c_runner : List Cond := .code yX6_runner cX6_runner 3 (some .int) :: (([.methodLink RX6 71 yX6_needRange, .static yX6_needRange, .initialized RX6, .methodLink RX6 157 yX6_needCourse, .instanceMethod yX6_needCourse, .selects RX6 yX6_needCourse yX6_needCourse] : List Cond) ++ (us_c_needRange ++ (us_c_needCourse ++ ([]))))
theorem gw_c_runner : ∀ w ∈ us_c_runner, goodWord w = true := gw_cons rfl (gw_app (by decide +kernel) (gw_app gw_c_needRange (gw_app gw_c_needCourse (fun _ h => nomatch h))))
set_option maxHeartbeats 4000000 in
set_option maxRecDepth 100000 in
/-- runner: there is no course yet -/
theorem c_runner (l : Launch) (hst : l.stackTraces = false) (D : va_G) (x : Nat) (g : Nat) (ca : Nat) (co : Nat) (ra : Nat) (rl : Nat) (tr : Nat) (f9 : Nat) (f10 : Nat) (f11 : Nat) (f12 : Nat) (f13 : Nat) (p0 : Int32) (p1 : Int32) (sz : Nat) : vx_Met l yX6_runner us_c_runner { frames := 8, cells := 2, slots := 12, locals := 124 } (pw D [.ref x, .int p0, .int p1] [] [(x, .inr (13, [.ref g, .ref ca, .int 0, .ref co, .int 0, .ref ra, .int 0, .ref rl, .ref tr, .ref f9, .ref f10, .ref f11, .ref f12, .ref f13]))] sz) qN (vx_X (fun E => (E = "java/lang/IllegalArgumentException" ∧ kf_runner p0 p1 = 1) ∨ (E = "java/lang/IndexOutOfBoundsException" ∧ kf_runner p0 p1 = 2)) xb (va_A [(x, .inr (13, [.ref g, .ref ca, .int 0, .ref co, .int 0, .ref ra, .int 0, .ref rl, .ref tr, .ref f9, .ref f10, .ref f11, .ref f12, .ref f13]))] sz)) 2 12 (va_A [(x, .inr (13, [.ref g, .ref ca, .int 0, .ref co, .int 0, .ref ra, .int 0, .ref rl, .ref tr, .ref f9, .ref f10, .ref f11, .ref f12, .ref f13]))] sz) := by
  refine op_X (Qc := fun _ => qN) (px := (fun E => (E = "java/lang/IllegalArgumentException" ∧ kf_runner p0 p1 = 1) ∨ (E = "java/lang/IndexOutOfBoundsException" ∧ kf_runner p0 p1 = 2))) (by decide +kernel) rfl (Nat.le_of_ble_eq_true rfl) ?_
  intro p e s m args below meth c A ls hx hb hr hml hts hown hlocks hmn htab hA hD hS hP hK hE hsz hl
  have hown : s.vm.findClass RX6 = some m.cls := hown
  have hl : lv_has ls 3 [(0, .ref x), (1, .int p0), (2, .int p1)] := hl
  have hw_0 := hts (.methodLink RX6 71 yX6_needRange) (List.mem_cons_of_mem _ (List.mem_append_left _ (List.mem_of_getElem? (i := 0) rfl)))
  have hw_1 := hts (.static yX6_needRange) (List.mem_cons_of_mem _ (List.mem_append_left _ (List.mem_of_getElem? (i := 1) rfl)))
  have hw_2 := hts (.initialized RX6) (List.mem_cons_of_mem _ (List.mem_append_left _ (List.mem_of_getElem? (i := 2) rfl)))
  have hw_3 := hts (.methodLink RX6 157 yX6_needCourse) (List.mem_cons_of_mem _ (List.mem_append_left _ (List.mem_of_getElem? (i := 3) rfl)))
  have hw_4 := hts (.instanceMethod yX6_needCourse) (List.mem_cons_of_mem _ (List.mem_append_left _ (List.mem_of_getElem? (i := 4) rfl)))
  have hw_5 := hts (.selects RX6 yX6_needCourse yX6_needCourse) (List.mem_cons_of_mem _ (List.mem_append_left _ (List.mem_of_getElem? (i := 5) rfl)))
  have hb_0 : ∀ w ∈ us_c_needRange, w ∈ us_c_runner := fun w h => List.mem_cons_of_mem _ (List.mem_append_right _ (List.mem_append_left _ h))
  have hb_1 : ∀ w ∈ us_c_needCourse, w ∈ us_c_runner := fun w h => List.mem_cons_of_mem _ (List.mem_append_right _ (List.mem_append_right _ (List.mem_append_left _ h)))
  refine lv_iload_n hx hb dX6_runner_0 rfl (lv_at hl 1 rfl) ?_
  refine lv_iconst (v := 0) hx hb dX6_runner_1 (by decide) ?_
  refine lv_bipush (v := 9) hx hb dX6_runner_2 (by decide) ?_
  refine mx_v (wr := [(x, .inr (13, [.ref g, .ref ca, .int 0, .ref co, .int 0, .ref ra, .int 0, .ref rl, .ref tr, .ref f9, .ref f10, .ref f11, .ref f12, .ref f13]))]) (vx_runS (As := [.int p0, .int 0, .int 9]) (rest := []) ⟨hx, hb, hml, hown, hts⟩ (c_needRange l hst D p0 0 9 s.heap.size) (va_cwS 3 hts (gi_c (List.mem_cons_of_mem _ (List.mem_append_left _ (List.mem_of_getElem? (i := 0) rfl))) rfl (gi_c (List.mem_cons_of_mem _ (List.mem_append_left _ (List.mem_of_getElem? (i := 1) rfl))) rfl (gi_c (List.mem_cons_of_mem _ (List.mem_append_left _ (List.mem_of_getElem? (i := 2) rfl))) rfl (goodIn_sub hb_0 (List.all_eq_true.mpr gw_c_needRange))))) rfl rfl rfl (by decide +kernel) ⟨Nat.le_of_ble_eq_true rfl, Nat.le_of_ble_eq_true rfl⟩) (pr_S (As := [.int p0, .int 0, .int 9]) hP hD hK hS hA hE [] [] rfl rfl rfl) rfl rfl hl.1 rfl (lv_room (Nat.le_of_ble_eq_true rfl)) dX6_runner_4 ⟨Nat.le_of_ble_eq_true rfl, Nat.le_of_ble_eq_true rfl⟩) hP hD hK hS hA [] [0] rfl rfl (by decide) (by decide) htab hlocks (fun E h => Or.inl ⟨h.1, if_neg h.2⟩) (Nat.le_of_ble_eq_true rfl) (Nat.le_of_ble_eq_true rfl) (fun _ H locs w1 hP hD hK hS => ?_)
  have hP : va_P D vwCl [(x, .inr (13, [.ref g, .ref ca, .int 0, .ref co, .int 0, .ref ra, .int 0, .ref rl, .ref tr, .ref f9, .ref f10, .ref f11, .ref f12, .ref f13]))] H := hP
  have hD : va_D A [(x, .inr (13, [.ref g, .ref ca, .int 0, .ref co, .int 0, .ref ra, .int 0, .ref rl, .ref tr, .ref f9, .ref f10, .ref f11, .ref f12, .ref f13]))] := hD
  have hK : va_K D vwCl [] s := hK
  have v0 := w1
  refine lv_aload_n hx hb dX6_runner_7 rfl (lv_at hl 0 rfl) ?_
  refine lv_iload_n hx hb dX6_runner_8 rfl (lv_at hl 2 rfl) ?_
  exact mt_out (vx_runV (As := [.int p1]) (rest := []) ⟨hx, hb, hml, hown, hts⟩ (c_needCourse l hst D x g ca co ra rl tr f9 f10 f11 f12 f13 p1 H.size) (cwV 1 hts (gi_c (List.mem_cons_of_mem _ (List.mem_append_left _ (List.mem_of_getElem? (i := 3) rfl))) rfl (gi_c (List.mem_cons_of_mem _ (List.mem_append_left _ (List.mem_of_getElem? (i := 4) rfl))) rfl (gi_c (List.mem_cons_of_mem _ (List.mem_append_left _ (List.mem_of_getElem? (i := 5) rfl))) rfl (gi_c (List.mem_cons_of_mem _ (List.mem_append_left _ (List.mem_of_getElem? (i := 2) rfl))) rfl (goodIn_sub hb_1 (List.all_eq_true.mpr gw_c_needCourse)))))) rfl rfl rfl (by decide +kernel) ⟨Nat.le_of_ble_eq_true rfl, Nat.le_of_ble_eq_true rfl⟩) (pr_V (As := [.int p1]) (b := x) (C := RX6) hP hD hK hS hA hE [0] [] rfl rfl rfl 0 13 rfl rfl rfl) rfl rfl hl.1 rfl (lv_room (Nat.le_of_ble_eq_true rfl)) dX6_runner_9 ⟨Nat.le_of_ble_eq_true rfl, Nat.le_of_ble_eq_true rfl⟩) hD hS hA [0] rfl htab hlocks (fun E h => Or.inr ⟨h, if_pos v0⟩) (Nat.le_of_ble_eq_true rfl) (Nat.le_of_ble_eq_true rfl)
