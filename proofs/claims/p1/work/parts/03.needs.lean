theorem dX6_needRange_0 : decode cX6_needRange 0 = .ok (.iload_n 0, 1) := by decide +kernel
theorem dX6_needRange_1 : decode cX6_needRange 1 = .ok (.iload_n 1, 1) := by decide +kernel
theorem dX6_needRange_2 : decode cX6_needRange 2 = .ok (.if_icmp .lt 8, 3) := by decide +kernel
theorem dX6_needRange_10 : decode cX6_needRange 10 = .ok (.new 177, 3) := by decide +kernel
theorem dX6_needRange_13 : decode cX6_needRange 13 = .ok (.dup, 1) := by decide +kernel
theorem dX6_needRange_14 : decode cX6_needRange 14 = .ok (.ldc_w 441, 3) := by decide +kernel
theorem dX6_needRange_17 : decode cX6_needRange 17 = .ok (.invokespecial 181, 3) := by decide +kernel
theorem dX6_needRange_20 : decode cX6_needRange 20 = .ok (.athrow, 1) := by decide +kernel
theorem dX6_needRange_5 : decode cX6_needRange 5 = .ok (.iload_n 0, 1) := by decide +kernel
theorem dX6_needRange_6 : decode cX6_needRange 6 = .ok (.iload_n 2, 1) := by decide +kernel
theorem dX6_needRange_7 : decode cX6_needRange 7 = .ok (.if_icmp .le 14, 3) := by decide +kernel
theorem dX6_needRange_21 : decode cX6_needRange 21 = .ok (.return_, 1) := by decide +kernel
theorem dX6_needIndex_0 : decode cX6_needIndex 0 = .ok (.iload_n 0, 1) := by decide +kernel
theorem dX6_needIndex_1 : decode cX6_needIndex 1 = .ok (.ifCond .lt 8, 3) := by decide +kernel
theorem dX6_needIndex_9 : decode cX6_needIndex 9 = .ok (.new 443, 3) := by decide +kernel
theorem dX6_needIndex_12 : decode cX6_needIndex 12 = .ok (.dup, 1) := by decide +kernel
theorem dX6_needIndex_13 : decode cX6_needIndex 13 = .ok (.ldc_w 445, 3) := by decide +kernel
theorem dX6_needIndex_16 : decode cX6_needIndex 16 = .ok (.invokespecial 447, 3) := by decide +kernel
theorem dX6_needIndex_19 : decode cX6_needIndex 19 = .ok (.athrow, 1) := by decide +kernel
theorem dX6_needIndex_4 : decode cX6_needIndex 4 = .ok (.iload_n 0, 1) := by decide +kernel
theorem dX6_needIndex_5 : decode cX6_needIndex 5 = .ok (.iload_n 1, 1) := by decide +kernel
theorem dX6_needIndex_6 : decode cX6_needIndex 6 = .ok (.if_icmp .lt 14, 3) := by decide +kernel
theorem dX6_needIndex_20 : decode cX6_needIndex 20 = .ok (.return_, 1) := by decide +kernel
theorem dX6_needKind_0 : decode cX6_needKind 0 = .ok (.iload_n 0, 1) := by decide +kernel
theorem dX6_needKind_1 : decode cX6_needKind 1 = .ok (.bipush 46, 2) := by decide +kernel
theorem dX6_needKind_3 : decode cX6_needKind 3 = .ok (.if_icmp .eq 26, 3) := by decide +kernel
theorem dX6_needKind_29 : decode cX6_needKind 29 = .ok (.return_, 1) := by decide +kernel
theorem dX6_needKind_6 : decode cX6_needKind 6 = .ok (.iload_n 0, 1) := by decide +kernel
theorem dX6_needKind_7 : decode cX6_needKind 7 = .ok (.bipush 119, 2) := by decide +kernel
theorem dX6_needKind_9 : decode cX6_needKind 9 = .ok (.if_icmp .eq 20, 3) := by decide +kernel
theorem dX6_needKind_12 : decode cX6_needKind 12 = .ok (.iload_n 0, 1) := by decide +kernel
theorem dX6_needKind_13 : decode cX6_needKind 13 = .ok (.bipush 120, 2) := by decide +kernel
theorem dX6_needKind_15 : decode cX6_needKind 15 = .ok (.if_icmp .eq 14, 3) := by decide +kernel
theorem dX6_needKind_18 : decode cX6_needKind 18 = .ok (.new 177, 3) := by decide +kernel
theorem dX6_needKind_21 : decode cX6_needKind 21 = .ok (.dup, 1) := by decide +kernel
theorem dX6_needKind_22 : decode cX6_needKind 22 = .ok (.ldc_w 448, 3) := by decide +kernel
theorem dX6_needKind_25 : decode cX6_needKind 25 = .ok (.invokespecial 181, 3) := by decide +kernel
theorem dX6_needKind_28 : decode cX6_needKind 28 = .ok (.athrow, 1) := by decide +kernel
theorem dX6_needCell_0 : decode cX6_needCell 0 = .ok (.iload_n 1, 1) := by decide +kernel
theorem dX6_needCell_1 : decode cX6_needCell 1 = .ok (.aload_n 0, 1) := by decide +kernel
theorem dX6_needCell_2 : decode cX6_needCell 2 = .ok (.getfield 12, 3) := by decide +kernel
theorem dX6_needCell_5 : decode cX6_needCell 5 = .ok (.getfield 88, 3) := by decide +kernel
theorem dX6_needCell_8 : decode cX6_needCell 8 = .ok (.invokestatic 174, 3) := by decide +kernel
theorem dX6_needCell_11 : decode cX6_needCell 11 = .ok (.return_, 1) := by decide +kernel
theorem dX6_needControl_0 : decode cX6_needControl 0 = .ok (.iload_n 1, 1) := by decide +kernel
theorem dX6_needControl_1 : decode cX6_needControl 1 = .ok (.aload_n 0, 1) := by decide +kernel
theorem dX6_needControl_2 : decode cX6_needControl 2 = .ok (.getfield 75, 3) := by decide +kernel
theorem dX6_needControl_5 : decode cX6_needControl 5 = .ok (.invokestatic 174, 3) := by decide +kernel
theorem dX6_needCourse_0 : decode cX6_needCourse 0 = .ok (.iload_n 1, 1) := by decide +kernel
theorem dX6_needCourse_1 : decode cX6_needCourse 1 = .ok (.aload_n 0, 1) := by decide +kernel
theorem dX6_needCourse_2 : decode cX6_needCourse 2 = .ok (.getfield 79, 3) := by decide +kernel
theorem dX6_needCourse_5 : decode cX6_needCourse 5 = .ok (.invokestatic 174, 3) := by decide +kernel
theorem dX6_needRunner_0 : decode cX6_needRunner 0 = .ok (.iload_n 1, 1) := by decide +kernel
theorem dX6_needRunner_1 : decode cX6_needRunner 1 = .ok (.aload_n 0, 1) := by decide +kernel
theorem dX6_needRunner_2 : decode cX6_needRunner 2 = .ok (.getfield 82, 3) := by decide +kernel
theorem dX6_needRunner_5 : decode cX6_needRunner 5 = .ok (.invokestatic 174, 3) := by decide +kernel
/-! the class's needs: a range, an index, a kind; where nothing is there yet, every number throws -/
abbrev inR (v a b : Int32) : Prop := ¬ v < a ∧ v ≤ b
abbrev inI (v n : Int32) : Prop := ¬ v < 0 ∧ v < n
abbrev okK (v : Int32) : Prop := v = 46 ∨ v = 119 ∨ v = 120
theorem inI_0 (v : Int32) : ¬ inI v 0 := fun h => h.1 h.2
def us_c_needRange : List Cond := .code yX6_needRange cX6_needRange 3 none :: (([.classLink RX6 177 "java/lang/IllegalArgumentException", .initialized "java/lang/IllegalArgumentException"] : List Cond) ++ ((vx_atS RX6 181 "java/lang/IllegalArgumentException" ["java/lang/RuntimeException", "java/lang/Exception"]).filter goodWord ++ ([])))
theorem gw_c_needRange : ∀ w ∈ us_c_needRange, goodWord w = true := gw_cons rfl (gw_app (by decide +kernel) (gw_app (fun _ h => (List.mem_filter.mp h).2) (fun _ h => nomatch h)))
set_option maxHeartbeats 4000000 in
set_option maxRecDepth 100000 in
/-- needRange: in range, or IllegalArgumentException -/
theorem c_needRange (l : Launch) (hst : l.stackTraces = false) (D : va_G) (v : Int32) (a : Int32) (b : Int32) (sz : Nat) : vx_Met l yX6_needRange us_c_needRange { frames := 6, cells := 1, slots := 6, locals := 82 } (pw D [.int v, .int a, .int b] [] [] sz) (va_Qv (fun _ : Unit => inR v a b) (qb D (va_A [] sz) (fun _ : Unit => []) (fun _ : Unit => ([] : List (ClassId × FieldType)))) (va_A [] sz)) (vx_X (fun E => E = "java/lang/IllegalArgumentException" ∧ ¬ inR v a b) xb (va_A [] sz)) 1 6 (va_A [] sz) := by
  refine op_X (Qc := fun A => (va_Qv (fun _ : Unit => inR v a b) (qb D A (fun _ : Unit => []) (fun _ : Unit => ([] : List (ClassId × FieldType)))) A)) (px := (fun E => E = "java/lang/IllegalArgumentException" ∧ ¬ inR v a b)) (by decide +kernel) rfl (Nat.le_of_ble_eq_true rfl) ?_
  intro p e s m args below meth c A ls hx hb hr hml hts hown hlocks hmn htab hA hD hS hP hK hE hsz hl
  have hown : s.vm.findClass RX6 = some m.cls := hown
  have hl : lv_has ls 3 [(0, .int v), (1, .int a), (2, .int b)] := hl
  have hw_0 := hts (.classLink RX6 177 "java/lang/IllegalArgumentException") (List.mem_cons_of_mem _ (List.mem_append_left _ (List.mem_of_getElem? (i := 0) rfl)))
  have hw_1 := hts (.initialized "java/lang/IllegalArgumentException") (List.mem_cons_of_mem _ (List.mem_append_left _ (List.mem_of_getElem? (i := 1) rfl)))
  have hb_0 : ∀ w ∈ (vx_atS RX6 181 "java/lang/IllegalArgumentException" ["java/lang/RuntimeException", "java/lang/Exception"]).filter goodWord, w ∈ us_c_needRange := fun w h => List.mem_cons_of_mem _ (List.mem_append_right _ (List.mem_append_left _ h))
  refine lv_iload_n hx hb dX6_needRange_0 rfl (lv_at hl 0 rfl) ?_
  refine lv_iload_n hx hb dX6_needRange_1 rfl (lv_at hl 1 rfl) ?_
  refine lv_icmp_lt (tgt := 10) hx hb dX6_needRange_2 (by decide) (fun h1 => ?_) (fun h1 => ?_)
  · have hE0 := hE
    obtain ⟨⟨a1, hs1⟩, ⟨a2, hs2⟩, ⟨a3, hs3⟩, hU, hN, hKx, -⟩ := hE
    exact vx_throwSW (own := RX6) (cls := "java/lang/IllegalArgumentException") (names := ["java/lang/RuntimeException", "java/lang/Exception"]) hx hb hst hown (by decide +kernel) (by decide +kernel) hw_0 hw_1 hs1 (vx_hat (B := ex_nw) (fun w h => hts w (hb_0 w h)) (by decide +kernel) hKx.use) (by decide +kernel) hU hN hS (by rw [hml]; exact hl.1) dX6_needRange_10 dX6_needRange_13 dX6_needRange_14 dX6_needRange_17 dX6_needRange_20 (fun x hx => (htab x hx).elim) (by decide) (by decide) (by decide) (by decide) hlocks (fun t _ g1 g2 => ⟨"java/lang/IllegalArgumentException", ⟨rfl, fun h => h.1 h1⟩, rfl, ⟨Nat.le_trans hS.1 g1, fun q hq hq2 => (g2 q (Nat.lt_of_lt_of_le hq hS.1)).trans (hS.2.1 q hq hq2)⟩⟩) hS.2.2 (by decide) (by decide)
  · refine lv_iload_n hx hb dX6_needRange_5 rfl (lv_at hl 0 rfl) ?_
    refine lv_iload_n hx hb dX6_needRange_6 rfl (lv_at hl 2 rfl) ?_
    refine lv_icmp_le (tgt := 21) hx hb dX6_needRange_7 (by decide) (fun h2 => ?_) (fun h2 => ?_)
    · exact vx_ret (mr_v hx hb hr () (⟨h1, h2⟩) (hP.sub [] rfl) (hK.sub [] rfl) (hD.sub [] (by decide) rfl) hS (Nat.le_of_ble_eq_true rfl) (Nat.le_of_ble_eq_true rfl) hlocks dX6_needRange_21)
    · have hE0 := hE
      obtain ⟨⟨a1, hs1⟩, ⟨a2, hs2⟩, ⟨a3, hs3⟩, hU, hN, hKx, -⟩ := hE
      exact vx_throwSW (own := RX6) (cls := "java/lang/IllegalArgumentException") (names := ["java/lang/RuntimeException", "java/lang/Exception"]) hx hb hst hown (by decide +kernel) (by decide +kernel) hw_0 hw_1 hs1 (vx_hat (B := ex_nw) (fun w h => hts w (hb_0 w h)) (by decide +kernel) hKx.use) (by decide +kernel) hU hN hS (by rw [hml]; exact hl.1) dX6_needRange_10 dX6_needRange_13 dX6_needRange_14 dX6_needRange_17 dX6_needRange_20 (fun x hx => (htab x hx).elim) (by decide) (by decide) (by decide) (by decide) hlocks (fun t _ g1 g2 => ⟨"java/lang/IllegalArgumentException", ⟨rfl, fun h => h2 h.2⟩, rfl, ⟨Nat.le_trans hS.1 g1, fun q hq hq2 => (g2 q (Nat.lt_of_lt_of_le hq hS.1)).trans (hS.2.1 q hq hq2)⟩⟩) hS.2.2 (by decide) (by decide)

def us_c_needRangeT : List Cond := .code yX6_needRange cX6_needRange 3 none :: (([.classLink RX6 177 "java/lang/IllegalArgumentException", .initialized "java/lang/IllegalArgumentException"] : List Cond) ++ ((vx_atS RX6 181 "java/lang/IllegalArgumentException" ["java/lang/RuntimeException", "java/lang/Exception"]).filter goodWord ++ ([])))
theorem gw_c_needRangeT : ∀ w ∈ us_c_needRangeT, goodWord w = true := gw_cons rfl (gw_app (by decide +kernel) (gw_app (fun _ h => (List.mem_filter.mp h).2) (fun _ h => nomatch h)))
set_option maxHeartbeats 4000000 in
set_option maxRecDepth 100000 in
/-- needRange out of range throws -/
theorem c_needRangeT (l : Launch) (hst : l.stackTraces = false) (D : va_G) (v : Int32) (a : Int32) (b : Int32) (sz : Nat) (hbad : ¬ inR v a b) : vx_Met l yX6_needRange us_c_needRangeT { frames := 6, cells := 1, slots := 6, locals := 82 } (pw D [.int v, .int a, .int b] [] [] sz) qN (vx_X (fun E => E = "java/lang/IllegalArgumentException") xb (va_A [] sz)) 1 6 (va_A [] sz) := by
  refine op_X (Qc := fun _ => qN) (px := (fun E => E = "java/lang/IllegalArgumentException")) (by decide +kernel) rfl (Nat.le_of_ble_eq_true rfl) ?_
  intro p e s m args below meth c A ls hx hb hr hml hts hown hlocks hmn htab hA hD hS hP hK hE hsz hl
  have hown : s.vm.findClass RX6 = some m.cls := hown
  have hl : lv_has ls 3 [(0, .int v), (1, .int a), (2, .int b)] := hl
  have hw_0 := hts (.classLink RX6 177 "java/lang/IllegalArgumentException") (List.mem_cons_of_mem _ (List.mem_append_left _ (List.mem_of_getElem? (i := 0) rfl)))
  have hw_1 := hts (.initialized "java/lang/IllegalArgumentException") (List.mem_cons_of_mem _ (List.mem_append_left _ (List.mem_of_getElem? (i := 1) rfl)))
  have hb_0 : ∀ w ∈ (vx_atS RX6 181 "java/lang/IllegalArgumentException" ["java/lang/RuntimeException", "java/lang/Exception"]).filter goodWord, w ∈ us_c_needRangeT := fun w h => List.mem_cons_of_mem _ (List.mem_append_right _ (List.mem_append_left _ h))
  refine lv_iload_n hx hb dX6_needRange_0 rfl (lv_at hl 0 rfl) ?_
  refine lv_iload_n hx hb dX6_needRange_1 rfl (lv_at hl 1 rfl) ?_
  refine lv_icmp_lt (tgt := 10) hx hb dX6_needRange_2 (by decide) (fun h1 => ?_) (fun h1 => ?_)
  · have hE0 := hE
    obtain ⟨⟨a1, hs1⟩, ⟨a2, hs2⟩, ⟨a3, hs3⟩, hU, hN, hKx, -⟩ := hE
    exact vx_throwSW (own := RX6) (cls := "java/lang/IllegalArgumentException") (names := ["java/lang/RuntimeException", "java/lang/Exception"]) hx hb hst hown (by decide +kernel) (by decide +kernel) hw_0 hw_1 hs1 (vx_hat (B := ex_nw) (fun w h => hts w (hb_0 w h)) (by decide +kernel) hKx.use) (by decide +kernel) hU hN hS (by rw [hml]; exact hl.1) dX6_needRange_10 dX6_needRange_13 dX6_needRange_14 dX6_needRange_17 dX6_needRange_20 (fun x hx => (htab x hx).elim) (by decide) (by decide) (by decide) (by decide) hlocks (fun t _ g1 g2 => ⟨"java/lang/IllegalArgumentException", rfl, rfl, ⟨Nat.le_trans hS.1 g1, fun q hq hq2 => (g2 q (Nat.lt_of_lt_of_le hq hS.1)).trans (hS.2.1 q hq hq2)⟩⟩) hS.2.2 (by decide) (by decide)
  · refine lv_iload_n hx hb dX6_needRange_5 rfl (lv_at hl 0 rfl) ?_
    refine lv_iload_n hx hb dX6_needRange_6 rfl (lv_at hl 2 rfl) ?_
    refine lv_icmp_le (tgt := 21) hx hb dX6_needRange_7 (by decide) (fun h2 => ?_) (fun h2 => ?_)
    · exact absurd ⟨h1, h2⟩ hbad
    · have hE0 := hE
      obtain ⟨⟨a1, hs1⟩, ⟨a2, hs2⟩, ⟨a3, hs3⟩, hU, hN, hKx, -⟩ := hE
      exact vx_throwSW (own := RX6) (cls := "java/lang/IllegalArgumentException") (names := ["java/lang/RuntimeException", "java/lang/Exception"]) hx hb hst hown (by decide +kernel) (by decide +kernel) hw_0 hw_1 hs1 (vx_hat (B := ex_nw) (fun w h => hts w (hb_0 w h)) (by decide +kernel) hKx.use) (by decide +kernel) hU hN hS (by rw [hml]; exact hl.1) dX6_needRange_10 dX6_needRange_13 dX6_needRange_14 dX6_needRange_17 dX6_needRange_20 (fun x hx => (htab x hx).elim) (by decide) (by decide) (by decide) (by decide) hlocks (fun t _ g1 g2 => ⟨"java/lang/IllegalArgumentException", rfl, rfl, ⟨Nat.le_trans hS.1 g1, fun q hq hq2 => (g2 q (Nat.lt_of_lt_of_le hq hS.1)).trans (hS.2.1 q hq hq2)⟩⟩) hS.2.2 (by decide) (by decide)

def us_c_needIndex : List Cond := .code yX6_needIndex cX6_needIndex 2 none :: (([.classLink RX6 443 "java/lang/IndexOutOfBoundsException", .initialized "java/lang/IndexOutOfBoundsException"] : List Cond) ++ ((vx_atS RX6 447 "java/lang/IndexOutOfBoundsException" ["java/lang/RuntimeException", "java/lang/Exception"]).filter goodWord ++ ([])))
theorem gw_c_needIndex : ∀ w ∈ us_c_needIndex, goodWord w = true := gw_cons rfl (gw_app (by decide +kernel) (gw_app (fun _ h => (List.mem_filter.mp h).2) (fun _ h => nomatch h)))
set_option maxHeartbeats 4000000 in
set_option maxRecDepth 100000 in
/-- needIndex: an index, or IndexOutOfBoundsException -/
theorem c_needIndex (l : Launch) (hst : l.stackTraces = false) (D : va_G) (v : Int32) (n : Int32) (sz : Nat) : vx_Met l yX6_needIndex us_c_needIndex { frames := 6, cells := 1, slots := 6, locals := 82 } (pw D [.int v, .int n] [] [] sz) (va_Qv (fun _ : Unit => inI v n) (qb D (va_A [] sz) (fun _ : Unit => []) (fun _ : Unit => ([] : List (ClassId × FieldType)))) (va_A [] sz)) (vx_X (fun E => E = "java/lang/IndexOutOfBoundsException" ∧ ¬ inI v n) xb (va_A [] sz)) 1 6 (va_A [] sz) := by
  refine op_X (Qc := fun A => (va_Qv (fun _ : Unit => inI v n) (qb D A (fun _ : Unit => []) (fun _ : Unit => ([] : List (ClassId × FieldType)))) A)) (px := (fun E => E = "java/lang/IndexOutOfBoundsException" ∧ ¬ inI v n)) (by decide +kernel) rfl (Nat.le_of_ble_eq_true rfl) ?_
  intro p e s m args below meth c A ls hx hb hr hml hts hown hlocks hmn htab hA hD hS hP hK hE hsz hl
  have hown : s.vm.findClass RX6 = some m.cls := hown
  have hl : lv_has ls 2 [(0, .int v), (1, .int n)] := hl
  have hw_0 := hts (.classLink RX6 443 "java/lang/IndexOutOfBoundsException") (List.mem_cons_of_mem _ (List.mem_append_left _ (List.mem_of_getElem? (i := 0) rfl)))
  have hw_1 := hts (.initialized "java/lang/IndexOutOfBoundsException") (List.mem_cons_of_mem _ (List.mem_append_left _ (List.mem_of_getElem? (i := 1) rfl)))
  have hb_0 : ∀ w ∈ (vx_atS RX6 447 "java/lang/IndexOutOfBoundsException" ["java/lang/RuntimeException", "java/lang/Exception"]).filter goodWord, w ∈ us_c_needIndex := fun w h => List.mem_cons_of_mem _ (List.mem_append_right _ (List.mem_append_left _ h))
  refine lv_iload_n hx hb dX6_needIndex_0 rfl (lv_at hl 0 rfl) ?_
  refine lv_if_lt (tgt := 9) hx hb dX6_needIndex_1 (by decide) (fun h1 => ?_) (fun h1 => ?_)
  · have hE0 := hE
    obtain ⟨⟨a1, hs1⟩, ⟨a2, hs2⟩, ⟨a3, hs3⟩, hU, hN, hKx, -⟩ := hE
    exact vx_throwSW (own := RX6) (cls := "java/lang/IndexOutOfBoundsException") (names := ["java/lang/RuntimeException", "java/lang/Exception"]) hx hb hst hown (by decide +kernel) (by decide +kernel) hw_0 hw_1 hs2 (vx_hat (B := ex_nw) (fun w h => hts w (hb_0 w h)) (by decide +kernel) hKx.use) (by decide +kernel) hU hN hS (by rw [hml]; exact hl.1) dX6_needIndex_9 dX6_needIndex_12 dX6_needIndex_13 dX6_needIndex_16 dX6_needIndex_19 (fun x hx => (htab x hx).elim) (by decide) (by decide) (by decide) (by decide) hlocks (fun t _ g1 g2 => ⟨"java/lang/IndexOutOfBoundsException", ⟨rfl, fun h => h.1 h1⟩, rfl, ⟨Nat.le_trans hS.1 g1, fun q hq hq2 => (g2 q (Nat.lt_of_lt_of_le hq hS.1)).trans (hS.2.1 q hq hq2)⟩⟩) hS.2.2 (by decide) (by decide)
  · refine lv_iload_n hx hb dX6_needIndex_4 rfl (lv_at hl 0 rfl) ?_
    refine lv_iload_n hx hb dX6_needIndex_5 rfl (lv_at hl 1 rfl) ?_
    refine lv_icmp_lt (tgt := 20) hx hb dX6_needIndex_6 (by decide) (fun h2 => ?_) (fun h2 => ?_)
    · exact vx_ret (mr_v hx hb hr () (⟨h1, h2⟩) (hP.sub [] rfl) (hK.sub [] rfl) (hD.sub [] (by decide) rfl) hS (Nat.le_of_ble_eq_true rfl) (Nat.le_of_ble_eq_true rfl) hlocks dX6_needIndex_20)
    · have hE0 := hE
      obtain ⟨⟨a1, hs1⟩, ⟨a2, hs2⟩, ⟨a3, hs3⟩, hU, hN, hKx, -⟩ := hE
      exact vx_throwSW (own := RX6) (cls := "java/lang/IndexOutOfBoundsException") (names := ["java/lang/RuntimeException", "java/lang/Exception"]) hx hb hst hown (by decide +kernel) (by decide +kernel) hw_0 hw_1 hs2 (vx_hat (B := ex_nw) (fun w h => hts w (hb_0 w h)) (by decide +kernel) hKx.use) (by decide +kernel) hU hN hS (by rw [hml]; exact hl.1) dX6_needIndex_9 dX6_needIndex_12 dX6_needIndex_13 dX6_needIndex_16 dX6_needIndex_19 (fun x hx => (htab x hx).elim) (by decide) (by decide) (by decide) (by decide) hlocks (fun t _ g1 g2 => ⟨"java/lang/IndexOutOfBoundsException", ⟨rfl, fun h => h2 h.2⟩, rfl, ⟨Nat.le_trans hS.1 g1, fun q hq hq2 => (g2 q (Nat.lt_of_lt_of_le hq hS.1)).trans (hS.2.1 q hq hq2)⟩⟩) hS.2.2 (by decide) (by decide)

def us_c_needIndexT : List Cond := .code yX6_needIndex cX6_needIndex 2 none :: (([.classLink RX6 443 "java/lang/IndexOutOfBoundsException", .initialized "java/lang/IndexOutOfBoundsException"] : List Cond) ++ ((vx_atS RX6 447 "java/lang/IndexOutOfBoundsException" ["java/lang/RuntimeException", "java/lang/Exception"]).filter goodWord ++ ([])))
theorem gw_c_needIndexT : ∀ w ∈ us_c_needIndexT, goodWord w = true := gw_cons rfl (gw_app (by decide +kernel) (gw_app (fun _ h => (List.mem_filter.mp h).2) (fun _ h => nomatch h)))
set_option maxHeartbeats 4000000 in
set_option maxRecDepth 100000 in
/-- needIndex out of range throws -/
theorem c_needIndexT (l : Launch) (hst : l.stackTraces = false) (D : va_G) (v : Int32) (n : Int32) (sz : Nat) (hbad : ¬ inI v n) : vx_Met l yX6_needIndex us_c_needIndexT { frames := 6, cells := 1, slots := 6, locals := 82 } (pw D [.int v, .int n] [] [] sz) qN (vx_X (fun E => E = "java/lang/IndexOutOfBoundsException") xb (va_A [] sz)) 1 6 (va_A [] sz) := by
  refine op_X (Qc := fun _ => qN) (px := (fun E => E = "java/lang/IndexOutOfBoundsException")) (by decide +kernel) rfl (Nat.le_of_ble_eq_true rfl) ?_
  intro p e s m args below meth c A ls hx hb hr hml hts hown hlocks hmn htab hA hD hS hP hK hE hsz hl
  have hown : s.vm.findClass RX6 = some m.cls := hown
  have hl : lv_has ls 2 [(0, .int v), (1, .int n)] := hl
  have hw_0 := hts (.classLink RX6 443 "java/lang/IndexOutOfBoundsException") (List.mem_cons_of_mem _ (List.mem_append_left _ (List.mem_of_getElem? (i := 0) rfl)))
  have hw_1 := hts (.initialized "java/lang/IndexOutOfBoundsException") (List.mem_cons_of_mem _ (List.mem_append_left _ (List.mem_of_getElem? (i := 1) rfl)))
  have hb_0 : ∀ w ∈ (vx_atS RX6 447 "java/lang/IndexOutOfBoundsException" ["java/lang/RuntimeException", "java/lang/Exception"]).filter goodWord, w ∈ us_c_needIndexT := fun w h => List.mem_cons_of_mem _ (List.mem_append_right _ (List.mem_append_left _ h))
  refine lv_iload_n hx hb dX6_needIndex_0 rfl (lv_at hl 0 rfl) ?_
  refine lv_if_lt (tgt := 9) hx hb dX6_needIndex_1 (by decide) (fun h1 => ?_) (fun h1 => ?_)
  · have hE0 := hE
    obtain ⟨⟨a1, hs1⟩, ⟨a2, hs2⟩, ⟨a3, hs3⟩, hU, hN, hKx, -⟩ := hE
    exact vx_throwSW (own := RX6) (cls := "java/lang/IndexOutOfBoundsException") (names := ["java/lang/RuntimeException", "java/lang/Exception"]) hx hb hst hown (by decide +kernel) (by decide +kernel) hw_0 hw_1 hs2 (vx_hat (B := ex_nw) (fun w h => hts w (hb_0 w h)) (by decide +kernel) hKx.use) (by decide +kernel) hU hN hS (by rw [hml]; exact hl.1) dX6_needIndex_9 dX6_needIndex_12 dX6_needIndex_13 dX6_needIndex_16 dX6_needIndex_19 (fun x hx => (htab x hx).elim) (by decide) (by decide) (by decide) (by decide) hlocks (fun t _ g1 g2 => ⟨"java/lang/IndexOutOfBoundsException", rfl, rfl, ⟨Nat.le_trans hS.1 g1, fun q hq hq2 => (g2 q (Nat.lt_of_lt_of_le hq hS.1)).trans (hS.2.1 q hq hq2)⟩⟩) hS.2.2 (by decide) (by decide)
  · refine lv_iload_n hx hb dX6_needIndex_4 rfl (lv_at hl 0 rfl) ?_
    refine lv_iload_n hx hb dX6_needIndex_5 rfl (lv_at hl 1 rfl) ?_
    refine lv_icmp_lt (tgt := 20) hx hb dX6_needIndex_6 (by decide) (fun h2 => ?_) (fun h2 => ?_)
    · exact absurd ⟨h1, h2⟩ hbad
    · have hE0 := hE
      obtain ⟨⟨a1, hs1⟩, ⟨a2, hs2⟩, ⟨a3, hs3⟩, hU, hN, hKx, -⟩ := hE
      exact vx_throwSW (own := RX6) (cls := "java/lang/IndexOutOfBoundsException") (names := ["java/lang/RuntimeException", "java/lang/Exception"]) hx hb hst hown (by decide +kernel) (by decide +kernel) hw_0 hw_1 hs2 (vx_hat (B := ex_nw) (fun w h => hts w (hb_0 w h)) (by decide +kernel) hKx.use) (by decide +kernel) hU hN hS (by rw [hml]; exact hl.1) dX6_needIndex_9 dX6_needIndex_12 dX6_needIndex_13 dX6_needIndex_16 dX6_needIndex_19 (fun x hx => (htab x hx).elim) (by decide) (by decide) (by decide) (by decide) hlocks (fun t _ g1 g2 => ⟨"java/lang/IndexOutOfBoundsException", rfl, rfl, ⟨Nat.le_trans hS.1 g1, fun q hq hq2 => (g2 q (Nat.lt_of_lt_of_le hq hS.1)).trans (hS.2.1 q hq hq2)⟩⟩) hS.2.2 (by decide) (by decide)

def us_c_needKind : List Cond := .code yX6_needKind cX6_needKind 1 none :: (([.classLink RX6 177 "java/lang/IllegalArgumentException", .initialized "java/lang/IllegalArgumentException"] : List Cond) ++ ((vx_atS RX6 181 "java/lang/IllegalArgumentException" ["java/lang/RuntimeException", "java/lang/Exception"]).filter goodWord ++ ([])))
theorem gw_c_needKind : ∀ w ∈ us_c_needKind, goodWord w = true := gw_cons rfl (gw_app (by decide +kernel) (gw_app (fun _ h => (List.mem_filter.mp h).2) (fun _ h => nomatch h)))
set_option maxHeartbeats 4000000 in
set_option maxRecDepth 100000 in
/-- needKind: a kind, or IllegalArgumentException -/
theorem c_needKind (l : Launch) (hst : l.stackTraces = false) (D : va_G) (v : Int32) (sz : Nat) : vx_Met l yX6_needKind us_c_needKind { frames := 6, cells := 1, slots := 6, locals := 82 } (pw D [.int v] [] [] sz) (va_Qv (fun _ : Unit => okK v) (qb D (va_A [] sz) (fun _ : Unit => []) (fun _ : Unit => ([] : List (ClassId × FieldType)))) (va_A [] sz)) (vx_X (fun E => E = "java/lang/IllegalArgumentException" ∧ ¬ okK v) xb (va_A [] sz)) 1 6 (va_A [] sz) := by
  refine op_X (Qc := fun A => (va_Qv (fun _ : Unit => okK v) (qb D A (fun _ : Unit => []) (fun _ : Unit => ([] : List (ClassId × FieldType)))) A)) (px := (fun E => E = "java/lang/IllegalArgumentException" ∧ ¬ okK v)) (by decide +kernel) rfl (Nat.le_of_ble_eq_true rfl) ?_
  intro p e s m args below meth c A ls hx hb hr hml hts hown hlocks hmn htab hA hD hS hP hK hE hsz hl
  have hown : s.vm.findClass RX6 = some m.cls := hown
  have hl : lv_has ls 1 [(0, .int v)] := hl
  have hw_0 := hts (.classLink RX6 177 "java/lang/IllegalArgumentException") (List.mem_cons_of_mem _ (List.mem_append_left _ (List.mem_of_getElem? (i := 0) rfl)))
  have hw_1 := hts (.initialized "java/lang/IllegalArgumentException") (List.mem_cons_of_mem _ (List.mem_append_left _ (List.mem_of_getElem? (i := 1) rfl)))
  have hb_0 : ∀ w ∈ (vx_atS RX6 181 "java/lang/IllegalArgumentException" ["java/lang/RuntimeException", "java/lang/Exception"]).filter goodWord, w ∈ us_c_needKind := fun w h => List.mem_cons_of_mem _ (List.mem_append_right _ (List.mem_append_left _ h))
  refine lv_iload_n hx hb dX6_needKind_0 rfl (lv_at hl 0 rfl) ?_
  refine lv_bipush (v := 46) hx hb dX6_needKind_1 (by decide) ?_
  refine lv_icmp_eq (tgt := 29) hx hb dX6_needKind_3 (by decide) (fun h1 => ?_) (fun h1 => ?_)
  · exact vx_ret (mr_v hx hb hr () (Or.inl h1) (hP.sub [] rfl) (hK.sub [] rfl) (hD.sub [] (by decide) rfl) hS (Nat.le_of_ble_eq_true rfl) (Nat.le_of_ble_eq_true rfl) hlocks dX6_needKind_29)
  · refine lv_iload_n hx hb dX6_needKind_6 rfl (lv_at hl 0 rfl) ?_
    refine lv_bipush (v := 119) hx hb dX6_needKind_7 (by decide) ?_
    refine lv_icmp_eq (tgt := 29) hx hb dX6_needKind_9 (by decide) (fun h2 => ?_) (fun h2 => ?_)
    · exact vx_ret (mr_v hx hb hr () (Or.inr (Or.inl h2)) (hP.sub [] rfl) (hK.sub [] rfl) (hD.sub [] (by decide) rfl) hS (Nat.le_of_ble_eq_true rfl) (Nat.le_of_ble_eq_true rfl) hlocks dX6_needKind_29)
    · refine lv_iload_n hx hb dX6_needKind_12 rfl (lv_at hl 0 rfl) ?_
      refine lv_bipush (v := 120) hx hb dX6_needKind_13 (by decide) ?_
      refine lv_icmp_eq (tgt := 29) hx hb dX6_needKind_15 (by decide) (fun h3 => ?_) (fun h3 => ?_)
      · exact vx_ret (mr_v hx hb hr () (Or.inr (Or.inr h3)) (hP.sub [] rfl) (hK.sub [] rfl) (hD.sub [] (by decide) rfl) hS (Nat.le_of_ble_eq_true rfl) (Nat.le_of_ble_eq_true rfl) hlocks dX6_needKind_29)
      · have hE0 := hE
        obtain ⟨⟨a1, hs1⟩, ⟨a2, hs2⟩, ⟨a3, hs3⟩, hU, hN, hKx, -⟩ := hE
        exact vx_throwSW (own := RX6) (cls := "java/lang/IllegalArgumentException") (names := ["java/lang/RuntimeException", "java/lang/Exception"]) hx hb hst hown (by decide +kernel) (by decide +kernel) hw_0 hw_1 hs3 (vx_hat (B := ex_nw) (fun w h => hts w (hb_0 w h)) (by decide +kernel) hKx.use) (by decide +kernel) hU hN hS (by rw [hml]; exact hl.1) dX6_needKind_18 dX6_needKind_21 dX6_needKind_22 dX6_needKind_25 dX6_needKind_28 (fun x hx => (htab x hx).elim) (by decide) (by decide) (by decide) (by decide) hlocks (fun t _ g1 g2 => ⟨"java/lang/IllegalArgumentException", ⟨rfl, fun h => h.elim h1 (fun h => h.elim h2 h3)⟩, rfl, ⟨Nat.le_trans hS.1 g1, fun q hq hq2 => (g2 q (Nat.lt_of_lt_of_le hq hS.1)).trans (hS.2.1 q hq hq2)⟩⟩) hS.2.2 (by decide) (by decide)

def us_c_needCell : List Cond := .code yX6_needCell cX6_needCell 2 none :: (([.fieldLink RX6 12 "ControlWood" "ground" "LControlWood$Terrain;", .fieldLink RX6 88 "ControlWood$Terrain" "cells" "I", .methodLink RX6 174 yX6_needIndex, .static yX6_needIndex, .initialized RX6] : List Cond) ++ (wsX60 ++ (wsX40 ++ (us_c_needIndex ++ ([])))))
theorem gw_c_needCell : ∀ w ∈ us_c_needCell, goodWord w = true := gw_cons rfl (gw_app (by decide +kernel) (gw_app gwf_X6 (gw_app gwf_X4 (gw_app gw_c_needIndex (fun _ h => nomatch h)))))
set_option maxHeartbeats 4000000 in
set_option maxRecDepth 100000 in
/-- needCell -/
theorem c_needCell (l : Launch) (hst : l.stackTraces = false) (D : va_G) (x : Nat) (g : Nat) (ca : Nat) (co : Nat) (ra : Nat) (rl : Nat) (tr : Nat) (f9 : Nat) (f10 : Nat) (f11 : Nat) (f12 : Nat) (f13 : Nat) (n : Int32) (a1 : Nat) (a2 : Nat) (a3 : Nat) (a4 : Nat) (a5 : Nat) (a6 : Nat) (a7 : Nat) (a8 : Nat) (a9 : Nat) (a10 : Nat) (a11 : Nat) (hd : Int32) (wt : Int32) (v : Int32) (sz : Nat) : vx_Met l yX6_needCell us_c_needCell { frames := 7, cells := 1, slots := 6, locals := 103 } (pw D [.ref x, .int v] [] [(x, .inr (13, [.ref g, .ref ca, .int 0, .ref co, .int 0, .ref ra, .int 0, .ref rl, .ref tr, .ref f9, .ref f10, .ref f11, .ref f12, .ref f13])), (g, .inr (11, [.int n, .ref a1, .ref a2, .ref a3, .ref a4, .ref a5, .ref a6, .ref a7, .ref a8, .ref a9, .ref a10, .ref a11, .int hd, .int wt]))] sz) (va_Qv (fun _ : Unit => inI v n) (qb D (va_A [(x, .inr (13, [.ref g, .ref ca, .int 0, .ref co, .int 0, .ref ra, .int 0, .ref rl, .ref tr, .ref f9, .ref f10, .ref f11, .ref f12, .ref f13])), (g, .inr (11, [.int n, .ref a1, .ref a2, .ref a3, .ref a4, .ref a5, .ref a6, .ref a7, .ref a8, .ref a9, .ref a10, .ref a11, .int hd, .int wt]))] sz) (fun _ : Unit => [(x, .inr (13, [.ref g, .ref ca, .int 0, .ref co, .int 0, .ref ra, .int 0, .ref rl, .ref tr, .ref f9, .ref f10, .ref f11, .ref f12, .ref f13])), (g, .inr (11, [.int n, .ref a1, .ref a2, .ref a3, .ref a4, .ref a5, .ref a6, .ref a7, .ref a8, .ref a9, .ref a10, .ref a11, .int hd, .int wt]))]) (fun _ : Unit => ([] : List (ClassId × FieldType)))) (va_A [(x, .inr (13, [.ref g, .ref ca, .int 0, .ref co, .int 0, .ref ra, .int 0, .ref rl, .ref tr, .ref f9, .ref f10, .ref f11, .ref f12, .ref f13])), (g, .inr (11, [.int n, .ref a1, .ref a2, .ref a3, .ref a4, .ref a5, .ref a6, .ref a7, .ref a8, .ref a9, .ref a10, .ref a11, .int hd, .int wt]))] sz)) (vx_X (fun E => E = "java/lang/IndexOutOfBoundsException" ∧ ¬ inI v n) xb (va_A [(x, .inr (13, [.ref g, .ref ca, .int 0, .ref co, .int 0, .ref ra, .int 0, .ref rl, .ref tr, .ref f9, .ref f10, .ref f11, .ref f12, .ref f13])), (g, .inr (11, [.int n, .ref a1, .ref a2, .ref a3, .ref a4, .ref a5, .ref a6, .ref a7, .ref a8, .ref a9, .ref a10, .ref a11, .int hd, .int wt]))] sz)) 1 6 (va_A [(x, .inr (13, [.ref g, .ref ca, .int 0, .ref co, .int 0, .ref ra, .int 0, .ref rl, .ref tr, .ref f9, .ref f10, .ref f11, .ref f12, .ref f13])), (g, .inr (11, [.int n, .ref a1, .ref a2, .ref a3, .ref a4, .ref a5, .ref a6, .ref a7, .ref a8, .ref a9, .ref a10, .ref a11, .int hd, .int wt]))] sz) := by
  refine op_X (Qc := fun A => (va_Qv (fun _ : Unit => inI v n) (qb D A (fun _ : Unit => [(x, .inr (13, [.ref g, .ref ca, .int 0, .ref co, .int 0, .ref ra, .int 0, .ref rl, .ref tr, .ref f9, .ref f10, .ref f11, .ref f12, .ref f13])), (g, .inr (11, [.int n, .ref a1, .ref a2, .ref a3, .ref a4, .ref a5, .ref a6, .ref a7, .ref a8, .ref a9, .ref a10, .ref a11, .int hd, .int wt]))]) (fun _ : Unit => ([] : List (ClassId × FieldType)))) A)) (px := (fun E => E = "java/lang/IndexOutOfBoundsException" ∧ ¬ inI v n)) (by decide +kernel) rfl (Nat.le_of_ble_eq_true rfl) ?_
  intro p e s m args below meth c A ls hx hb hr hml hts hown hlocks hmn htab hA hD hS hP hK hE hsz hl
  have hown : s.vm.findClass RX6 = some m.cls := hown
  have hl : lv_has ls 2 [(0, .ref x), (1, .int v)] := hl
  have hw_0 := hts (.fieldLink RX6 12 "ControlWood" "ground" "LControlWood$Terrain;") (List.mem_cons_of_mem _ (List.mem_append_left _ (List.mem_of_getElem? (i := 0) rfl)))
  have hw_1 := hts (.fieldLink RX6 88 "ControlWood$Terrain" "cells" "I") (List.mem_cons_of_mem _ (List.mem_append_left _ (List.mem_of_getElem? (i := 1) rfl)))
  have hw_2 := hts (.methodLink RX6 174 yX6_needIndex) (List.mem_cons_of_mem _ (List.mem_append_left _ (List.mem_of_getElem? (i := 2) rfl)))
  have hw_3 := hts (.static yX6_needIndex) (List.mem_cons_of_mem _ (List.mem_append_left _ (List.mem_of_getElem? (i := 3) rfl)))
  have hw_4 := hts (.initialized RX6) (List.mem_cons_of_mem _ (List.mem_append_left _ (List.mem_of_getElem? (i := 4) rfl)))
  have hb_0 : ∀ w ∈ wsX60, w ∈ us_c_needCell := fun w h => List.mem_cons_of_mem _ (List.mem_append_right _ (List.mem_append_left _ h))
  have hb_1 : ∀ w ∈ wsX40, w ∈ us_c_needCell := fun w h => List.mem_cons_of_mem _ (List.mem_append_right _ (List.mem_append_right _ (List.mem_append_left _ h)))
  have hb_2 : ∀ w ∈ us_c_needIndex, w ∈ us_c_needCell := fun w h => List.mem_cons_of_mem _ (List.mem_append_right _ (List.mem_append_right _ (List.mem_append_right _ (List.mem_append_left _ h))))
  refine lv_iload_n hx hb dX6_needCell_0 rfl (lv_at hl 1 rfl) ?_
  refine lv_aload_n hx hb dX6_needCell_1 rfl (lv_at hl 0 rfl) ?_
  refine va_get (D := D) (ci := 13) (v := .ref g) (C := RX6) (T := TX6) (N := 14) hx hb hts hb_0 hown hK hP 0 rfl rfl 0 (by decide) hw_0 (fun _ h9 => h9) rfl dX6_needCell_2 ?_
  refine va_get (D := D) (ci := 11) (v := .int n) (C := RX4) (T := TX4) (N := 14) hx hb hts hb_1 hown hK hP 1 rfl rfl 0 (by decide) hw_1 (fun _ h9 => h9) rfl dX6_needCell_5 ?_
  refine mx_v (wr := [(x, .inr (13, [.ref g, .ref ca, .int 0, .ref co, .int 0, .ref ra, .int 0, .ref rl, .ref tr, .ref f9, .ref f10, .ref f11, .ref f12, .ref f13])), (g, .inr (11, [.int n, .ref a1, .ref a2, .ref a3, .ref a4, .ref a5, .ref a6, .ref a7, .ref a8, .ref a9, .ref a10, .ref a11, .int hd, .int wt]))]) (vx_runS (As := [.int v, .int n]) (rest := []) ⟨hx, hb, hml, hown, hts⟩ (c_needIndex l hst D v n s.heap.size) (va_cwS 2 hts (gi_c (List.mem_cons_of_mem _ (List.mem_append_left _ (List.mem_of_getElem? (i := 2) rfl))) rfl (gi_c (List.mem_cons_of_mem _ (List.mem_append_left _ (List.mem_of_getElem? (i := 3) rfl))) rfl (gi_c (List.mem_cons_of_mem _ (List.mem_append_left _ (List.mem_of_getElem? (i := 4) rfl))) rfl (goodIn_sub hb_2 (List.all_eq_true.mpr gw_c_needIndex))))) rfl rfl rfl (by decide +kernel) ⟨Nat.le_of_ble_eq_true rfl, Nat.le_of_ble_eq_true rfl⟩) (pr_S (As := [.int v, .int n]) hP hD hK hS hA hE [] [] rfl rfl rfl) rfl rfl hl.1 rfl (lv_room (Nat.le_of_ble_eq_true rfl)) dX6_needCell_8 ⟨Nat.le_of_ble_eq_true rfl, Nat.le_of_ble_eq_true rfl⟩) hP hD hK hS hA [] [0, 1] rfl rfl (by decide) (by decide) htab hlocks (fun _ h => h) (Nat.le_of_ble_eq_true rfl) (Nat.le_of_ble_eq_true rfl) (fun _ H locs w1 hP hD hK hS => ?_)
  have hP : va_P D vwCl [(x, .inr (13, [.ref g, .ref ca, .int 0, .ref co, .int 0, .ref ra, .int 0, .ref rl, .ref tr, .ref f9, .ref f10, .ref f11, .ref f12, .ref f13])), (g, .inr (11, [.int n, .ref a1, .ref a2, .ref a3, .ref a4, .ref a5, .ref a6, .ref a7, .ref a8, .ref a9, .ref a10, .ref a11, .int hd, .int wt]))] H := hP
  have hD : va_D A [(x, .inr (13, [.ref g, .ref ca, .int 0, .ref co, .int 0, .ref ra, .int 0, .ref rl, .ref tr, .ref f9, .ref f10, .ref f11, .ref f12, .ref f13])), (g, .inr (11, [.int n, .ref a1, .ref a2, .ref a3, .ref a4, .ref a5, .ref a6, .ref a7, .ref a8, .ref a9, .ref a10, .ref a11, .int hd, .int wt]))] := hD
  have hK : va_K D vwCl [] s := hK
  exact vx_ret (mr_v hx hb hr () (w1) (hP.sub [0, 1] rfl) (hK.sub [] rfl) (hD.sub [0, 1] (by decide) rfl) hS (Nat.le_of_ble_eq_true rfl) (Nat.le_of_ble_eq_true rfl) hlocks dX6_needCell_11)

def us_c_needCellT : List Cond := .code yX6_needCell cX6_needCell 2 none :: (([.fieldLink RX6 12 "ControlWood" "ground" "LControlWood$Terrain;", .fieldLink RX6 88 "ControlWood$Terrain" "cells" "I", .methodLink RX6 174 yX6_needIndex, .static yX6_needIndex, .initialized RX6] : List Cond) ++ (wsX60 ++ (wsX40 ++ (us_c_needIndexT ++ ([])))))
theorem gw_c_needCellT : ∀ w ∈ us_c_needCellT, goodWord w = true := gw_cons rfl (gw_app (by decide +kernel) (gw_app gwf_X6 (gw_app gwf_X4 (gw_app gw_c_needIndexT (fun _ h => nomatch h)))))
set_option maxHeartbeats 4000000 in
set_option maxRecDepth 100000 in
/-- needCell -/
theorem c_needCellT (l : Launch) (hst : l.stackTraces = false) (D : va_G) (x : Nat) (g : Nat) (ca : Nat) (co : Nat) (ra : Nat) (rl : Nat) (tr : Nat) (f9 : Nat) (f10 : Nat) (f11 : Nat) (f12 : Nat) (f13 : Nat) (n : Int32) (a1 : Nat) (a2 : Nat) (a3 : Nat) (a4 : Nat) (a5 : Nat) (a6 : Nat) (a7 : Nat) (a8 : Nat) (a9 : Nat) (a10 : Nat) (a11 : Nat) (hd : Int32) (wt : Int32) (v : Int32) (sz : Nat) (hbad : ¬ inI v n) : vx_Met l yX6_needCell us_c_needCellT { frames := 7, cells := 1, slots := 6, locals := 103 } (pw D [.ref x, .int v] [] [(x, .inr (13, [.ref g, .ref ca, .int 0, .ref co, .int 0, .ref ra, .int 0, .ref rl, .ref tr, .ref f9, .ref f10, .ref f11, .ref f12, .ref f13])), (g, .inr (11, [.int n, .ref a1, .ref a2, .ref a3, .ref a4, .ref a5, .ref a6, .ref a7, .ref a8, .ref a9, .ref a10, .ref a11, .int hd, .int wt]))] sz) qN (vx_X (fun E => E = "java/lang/IndexOutOfBoundsException") xb (va_A [(x, .inr (13, [.ref g, .ref ca, .int 0, .ref co, .int 0, .ref ra, .int 0, .ref rl, .ref tr, .ref f9, .ref f10, .ref f11, .ref f12, .ref f13])), (g, .inr (11, [.int n, .ref a1, .ref a2, .ref a3, .ref a4, .ref a5, .ref a6, .ref a7, .ref a8, .ref a9, .ref a10, .ref a11, .int hd, .int wt]))] sz)) 1 6 (va_A [(x, .inr (13, [.ref g, .ref ca, .int 0, .ref co, .int 0, .ref ra, .int 0, .ref rl, .ref tr, .ref f9, .ref f10, .ref f11, .ref f12, .ref f13])), (g, .inr (11, [.int n, .ref a1, .ref a2, .ref a3, .ref a4, .ref a5, .ref a6, .ref a7, .ref a8, .ref a9, .ref a10, .ref a11, .int hd, .int wt]))] sz) := by
  refine op_X (Qc := fun _ => qN) (px := (fun E => E = "java/lang/IndexOutOfBoundsException")) (by decide +kernel) rfl (Nat.le_of_ble_eq_true rfl) ?_
  intro p e s m args below meth c A ls hx hb hr hml hts hown hlocks hmn htab hA hD hS hP hK hE hsz hl
  have hown : s.vm.findClass RX6 = some m.cls := hown
  have hl : lv_has ls 2 [(0, .ref x), (1, .int v)] := hl
  have hw_0 := hts (.fieldLink RX6 12 "ControlWood" "ground" "LControlWood$Terrain;") (List.mem_cons_of_mem _ (List.mem_append_left _ (List.mem_of_getElem? (i := 0) rfl)))
  have hw_1 := hts (.fieldLink RX6 88 "ControlWood$Terrain" "cells" "I") (List.mem_cons_of_mem _ (List.mem_append_left _ (List.mem_of_getElem? (i := 1) rfl)))
  have hw_2 := hts (.methodLink RX6 174 yX6_needIndex) (List.mem_cons_of_mem _ (List.mem_append_left _ (List.mem_of_getElem? (i := 2) rfl)))
  have hw_3 := hts (.static yX6_needIndex) (List.mem_cons_of_mem _ (List.mem_append_left _ (List.mem_of_getElem? (i := 3) rfl)))
  have hw_4 := hts (.initialized RX6) (List.mem_cons_of_mem _ (List.mem_append_left _ (List.mem_of_getElem? (i := 4) rfl)))
  have hb_0 : ∀ w ∈ wsX60, w ∈ us_c_needCellT := fun w h => List.mem_cons_of_mem _ (List.mem_append_right _ (List.mem_append_left _ h))
  have hb_1 : ∀ w ∈ wsX40, w ∈ us_c_needCellT := fun w h => List.mem_cons_of_mem _ (List.mem_append_right _ (List.mem_append_right _ (List.mem_append_left _ h)))
  have hb_2 : ∀ w ∈ us_c_needIndexT, w ∈ us_c_needCellT := fun w h => List.mem_cons_of_mem _ (List.mem_append_right _ (List.mem_append_right _ (List.mem_append_right _ (List.mem_append_left _ h))))
  refine lv_iload_n hx hb dX6_needCell_0 rfl (lv_at hl 1 rfl) ?_
  refine lv_aload_n hx hb dX6_needCell_1 rfl (lv_at hl 0 rfl) ?_
  refine va_get (D := D) (ci := 13) (v := .ref g) (C := RX6) (T := TX6) (N := 14) hx hb hts hb_0 hown hK hP 0 rfl rfl 0 (by decide) hw_0 (fun _ h9 => h9) rfl dX6_needCell_2 ?_
  refine va_get (D := D) (ci := 11) (v := .int n) (C := RX4) (T := TX4) (N := 14) hx hb hts hb_1 hown hK hP 1 rfl rfl 0 (by decide) hw_1 (fun _ h9 => h9) rfl dX6_needCell_5 ?_
  exact mt_out (vx_runS (As := [.int v, .int n]) (rest := []) ⟨hx, hb, hml, hown, hts⟩ (c_needIndexT l hst D v n s.heap.size (hbad)) (va_cwS 2 hts (gi_c (List.mem_cons_of_mem _ (List.mem_append_left _ (List.mem_of_getElem? (i := 2) rfl))) rfl (gi_c (List.mem_cons_of_mem _ (List.mem_append_left _ (List.mem_of_getElem? (i := 3) rfl))) rfl (gi_c (List.mem_cons_of_mem _ (List.mem_append_left _ (List.mem_of_getElem? (i := 4) rfl))) rfl (goodIn_sub hb_2 (List.all_eq_true.mpr gw_c_needIndexT))))) rfl rfl rfl (by decide +kernel) ⟨Nat.le_of_ble_eq_true rfl, Nat.le_of_ble_eq_true rfl⟩) (pr_S (As := [.int v, .int n]) hP hD hK hS hA hE [] [] rfl rfl rfl) rfl rfl hl.1 rfl (lv_room (Nat.le_of_ble_eq_true rfl)) dX6_needCell_8 ⟨Nat.le_of_ble_eq_true rfl, Nat.le_of_ble_eq_true rfl⟩) hD hS hA [] rfl htab hlocks (fun _ h => h) (Nat.le_of_ble_eq_true rfl) (Nat.le_of_ble_eq_true rfl)

def us_c_needControl : List Cond := .code yX6_needControl cX6_needControl 2 (some (.object "ControlWood$Post")) :: (([.fieldLink RX6 75 "ControlWood" "controlCount" "I", .methodLink RX6 174 yX6_needIndex, .static yX6_needIndex, .initialized RX6] : List Cond) ++ (wsX60 ++ (us_c_needIndexT ++ ([]))))
theorem gw_c_needControl : ∀ w ∈ us_c_needControl, goodWord w = true := gw_cons rfl (gw_app (by decide +kernel) (gw_app gwf_X6 (gw_app gw_c_needIndexT (fun _ h => nomatch h))))
set_option maxHeartbeats 4000000 in
set_option maxRecDepth 100000 in
/-- needControl, where there is none -/
theorem c_needControl (l : Launch) (hst : l.stackTraces = false) (D : va_G) (x : Nat) (g : Nat) (ca : Nat) (co : Nat) (ra : Nat) (rl : Nat) (tr : Nat) (f9 : Nat) (f10 : Nat) (f11 : Nat) (f12 : Nat) (f13 : Nat) (v : Int32) (sz : Nat) : vx_Met l yX6_needControl us_c_needControl { frames := 7, cells := 1, slots := 6, locals := 103 } (pw D [.ref x, .int v] [] [(x, .inr (13, [.ref g, .ref ca, .int 0, .ref co, .int 0, .ref ra, .int 0, .ref rl, .ref tr, .ref f9, .ref f10, .ref f11, .ref f12, .ref f13]))] sz) qN (vx_X (fun E => E = "java/lang/IndexOutOfBoundsException") xb (va_A [(x, .inr (13, [.ref g, .ref ca, .int 0, .ref co, .int 0, .ref ra, .int 0, .ref rl, .ref tr, .ref f9, .ref f10, .ref f11, .ref f12, .ref f13]))] sz)) 1 6 (va_A [(x, .inr (13, [.ref g, .ref ca, .int 0, .ref co, .int 0, .ref ra, .int 0, .ref rl, .ref tr, .ref f9, .ref f10, .ref f11, .ref f12, .ref f13]))] sz) := by
  refine op_X (Qc := fun _ => qN) (px := (fun E => E = "java/lang/IndexOutOfBoundsException")) (by decide +kernel) rfl (Nat.le_of_ble_eq_true rfl) ?_
  intro p e s m args below meth c A ls hx hb hr hml hts hown hlocks hmn htab hA hD hS hP hK hE hsz hl
  have hown : s.vm.findClass RX6 = some m.cls := hown
  have hl : lv_has ls 2 [(0, .ref x), (1, .int v)] := hl
  have hw_0 := hts (.fieldLink RX6 75 "ControlWood" "controlCount" "I") (List.mem_cons_of_mem _ (List.mem_append_left _ (List.mem_of_getElem? (i := 0) rfl)))
  have hw_1 := hts (.methodLink RX6 174 yX6_needIndex) (List.mem_cons_of_mem _ (List.mem_append_left _ (List.mem_of_getElem? (i := 1) rfl)))
  have hw_2 := hts (.static yX6_needIndex) (List.mem_cons_of_mem _ (List.mem_append_left _ (List.mem_of_getElem? (i := 2) rfl)))
  have hw_3 := hts (.initialized RX6) (List.mem_cons_of_mem _ (List.mem_append_left _ (List.mem_of_getElem? (i := 3) rfl)))
  have hb_0 : ∀ w ∈ wsX60, w ∈ us_c_needControl := fun w h => List.mem_cons_of_mem _ (List.mem_append_right _ (List.mem_append_left _ h))
  have hb_1 : ∀ w ∈ us_c_needIndexT, w ∈ us_c_needControl := fun w h => List.mem_cons_of_mem _ (List.mem_append_right _ (List.mem_append_right _ (List.mem_append_left _ h)))
  refine lv_iload_n hx hb dX6_needControl_0 rfl (lv_at hl 1 rfl) ?_
  refine lv_aload_n hx hb dX6_needControl_1 rfl (lv_at hl 0 rfl) ?_
  refine va_get (D := D) (ci := 13) (v := .int 0) (C := RX6) (T := TX6) (N := 14) hx hb hts hb_0 hown hK hP 0 rfl rfl 2 (by decide) hw_0 (fun _ h9 => h9) rfl dX6_needControl_2 ?_
  exact mt_out (vx_runS (As := [.int v, .int 0]) (rest := []) ⟨hx, hb, hml, hown, hts⟩ (c_needIndexT l hst D v 0 s.heap.size (inI_0 v)) (va_cwS 2 hts (gi_c (List.mem_cons_of_mem _ (List.mem_append_left _ (List.mem_of_getElem? (i := 1) rfl))) rfl (gi_c (List.mem_cons_of_mem _ (List.mem_append_left _ (List.mem_of_getElem? (i := 2) rfl))) rfl (gi_c (List.mem_cons_of_mem _ (List.mem_append_left _ (List.mem_of_getElem? (i := 3) rfl))) rfl (goodIn_sub hb_1 (List.all_eq_true.mpr gw_c_needIndexT))))) rfl rfl rfl (by decide +kernel) ⟨Nat.le_of_ble_eq_true rfl, Nat.le_of_ble_eq_true rfl⟩) (pr_S (As := [.int v, .int 0]) hP hD hK hS hA hE [] [] rfl rfl rfl) rfl rfl hl.1 rfl (lv_room (Nat.le_of_ble_eq_true rfl)) dX6_needControl_5 ⟨Nat.le_of_ble_eq_true rfl, Nat.le_of_ble_eq_true rfl⟩) hD hS hA [] rfl htab hlocks (fun _ h => h) (Nat.le_of_ble_eq_true rfl) (Nat.le_of_ble_eq_true rfl)

def us_c_needCourse : List Cond := .code yX6_needCourse cX6_needCourse 2 (some (.object "ControlWood$Route")) :: (([.fieldLink RX6 79 "ControlWood" "courseCount" "I", .methodLink RX6 174 yX6_needIndex, .static yX6_needIndex, .initialized RX6] : List Cond) ++ (wsX60 ++ (us_c_needIndexT ++ ([]))))
theorem gw_c_needCourse : ∀ w ∈ us_c_needCourse, goodWord w = true := gw_cons rfl (gw_app (by decide +kernel) (gw_app gwf_X6 (gw_app gw_c_needIndexT (fun _ h => nomatch h))))
set_option maxHeartbeats 4000000 in
set_option maxRecDepth 100000 in
/-- needCourse, where there is none -/
theorem c_needCourse (l : Launch) (hst : l.stackTraces = false) (D : va_G) (x : Nat) (g : Nat) (ca : Nat) (co : Nat) (ra : Nat) (rl : Nat) (tr : Nat) (f9 : Nat) (f10 : Nat) (f11 : Nat) (f12 : Nat) (f13 : Nat) (v : Int32) (sz : Nat) : vx_Met l yX6_needCourse us_c_needCourse { frames := 7, cells := 1, slots := 6, locals := 103 } (pw D [.ref x, .int v] [] [(x, .inr (13, [.ref g, .ref ca, .int 0, .ref co, .int 0, .ref ra, .int 0, .ref rl, .ref tr, .ref f9, .ref f10, .ref f11, .ref f12, .ref f13]))] sz) qN (vx_X (fun E => E = "java/lang/IndexOutOfBoundsException") xb (va_A [(x, .inr (13, [.ref g, .ref ca, .int 0, .ref co, .int 0, .ref ra, .int 0, .ref rl, .ref tr, .ref f9, .ref f10, .ref f11, .ref f12, .ref f13]))] sz)) 1 6 (va_A [(x, .inr (13, [.ref g, .ref ca, .int 0, .ref co, .int 0, .ref ra, .int 0, .ref rl, .ref tr, .ref f9, .ref f10, .ref f11, .ref f12, .ref f13]))] sz) := by
  refine op_X (Qc := fun _ => qN) (px := (fun E => E = "java/lang/IndexOutOfBoundsException")) (by decide +kernel) rfl (Nat.le_of_ble_eq_true rfl) ?_
  intro p e s m args below meth c A ls hx hb hr hml hts hown hlocks hmn htab hA hD hS hP hK hE hsz hl
  have hown : s.vm.findClass RX6 = some m.cls := hown
  have hl : lv_has ls 2 [(0, .ref x), (1, .int v)] := hl
  have hw_0 := hts (.fieldLink RX6 79 "ControlWood" "courseCount" "I") (List.mem_cons_of_mem _ (List.mem_append_left _ (List.mem_of_getElem? (i := 0) rfl)))
  have hw_1 := hts (.methodLink RX6 174 yX6_needIndex) (List.mem_cons_of_mem _ (List.mem_append_left _ (List.mem_of_getElem? (i := 1) rfl)))
  have hw_2 := hts (.static yX6_needIndex) (List.mem_cons_of_mem _ (List.mem_append_left _ (List.mem_of_getElem? (i := 2) rfl)))
  have hw_3 := hts (.initialized RX6) (List.mem_cons_of_mem _ (List.mem_append_left _ (List.mem_of_getElem? (i := 3) rfl)))
  have hb_0 : ∀ w ∈ wsX60, w ∈ us_c_needCourse := fun w h => List.mem_cons_of_mem _ (List.mem_append_right _ (List.mem_append_left _ h))
  have hb_1 : ∀ w ∈ us_c_needIndexT, w ∈ us_c_needCourse := fun w h => List.mem_cons_of_mem _ (List.mem_append_right _ (List.mem_append_right _ (List.mem_append_left _ h)))
  refine lv_iload_n hx hb dX6_needCourse_0 rfl (lv_at hl 1 rfl) ?_
  refine lv_aload_n hx hb dX6_needCourse_1 rfl (lv_at hl 0 rfl) ?_
  refine va_get (D := D) (ci := 13) (v := .int 0) (C := RX6) (T := TX6) (N := 14) hx hb hts hb_0 hown hK hP 0 rfl rfl 4 (by decide) hw_0 (fun _ h9 => h9) rfl dX6_needCourse_2 ?_
  exact mt_out (vx_runS (As := [.int v, .int 0]) (rest := []) ⟨hx, hb, hml, hown, hts⟩ (c_needIndexT l hst D v 0 s.heap.size (inI_0 v)) (va_cwS 2 hts (gi_c (List.mem_cons_of_mem _ (List.mem_append_left _ (List.mem_of_getElem? (i := 1) rfl))) rfl (gi_c (List.mem_cons_of_mem _ (List.mem_append_left _ (List.mem_of_getElem? (i := 2) rfl))) rfl (gi_c (List.mem_cons_of_mem _ (List.mem_append_left _ (List.mem_of_getElem? (i := 3) rfl))) rfl (goodIn_sub hb_1 (List.all_eq_true.mpr gw_c_needIndexT))))) rfl rfl rfl (by decide +kernel) ⟨Nat.le_of_ble_eq_true rfl, Nat.le_of_ble_eq_true rfl⟩) (pr_S (As := [.int v, .int 0]) hP hD hK hS hA hE [] [] rfl rfl rfl) rfl rfl hl.1 rfl (lv_room (Nat.le_of_ble_eq_true rfl)) dX6_needCourse_5 ⟨Nat.le_of_ble_eq_true rfl, Nat.le_of_ble_eq_true rfl⟩) hD hS hA [] rfl htab hlocks (fun _ h => h) (Nat.le_of_ble_eq_true rfl) (Nat.le_of_ble_eq_true rfl)

def us_c_needRunner : List Cond := .code yX6_needRunner cX6_needRunner 2 (some (.object "ControlWood$Entrant")) :: (([.fieldLink RX6 82 "ControlWood" "runnerCount" "I", .methodLink RX6 174 yX6_needIndex, .static yX6_needIndex, .initialized RX6] : List Cond) ++ (wsX60 ++ (us_c_needIndexT ++ ([]))))
theorem gw_c_needRunner : ∀ w ∈ us_c_needRunner, goodWord w = true := gw_cons rfl (gw_app (by decide +kernel) (gw_app gwf_X6 (gw_app gw_c_needIndexT (fun _ h => nomatch h))))
set_option maxHeartbeats 4000000 in
set_option maxRecDepth 100000 in
/-- needRunner, where there is none -/
theorem c_needRunner (l : Launch) (hst : l.stackTraces = false) (D : va_G) (x : Nat) (g : Nat) (ca : Nat) (co : Nat) (ra : Nat) (rl : Nat) (tr : Nat) (f9 : Nat) (f10 : Nat) (f11 : Nat) (f12 : Nat) (f13 : Nat) (v : Int32) (sz : Nat) : vx_Met l yX6_needRunner us_c_needRunner { frames := 7, cells := 1, slots := 6, locals := 103 } (pw D [.ref x, .int v] [] [(x, .inr (13, [.ref g, .ref ca, .int 0, .ref co, .int 0, .ref ra, .int 0, .ref rl, .ref tr, .ref f9, .ref f10, .ref f11, .ref f12, .ref f13]))] sz) qN (vx_X (fun E => E = "java/lang/IndexOutOfBoundsException") xb (va_A [(x, .inr (13, [.ref g, .ref ca, .int 0, .ref co, .int 0, .ref ra, .int 0, .ref rl, .ref tr, .ref f9, .ref f10, .ref f11, .ref f12, .ref f13]))] sz)) 1 6 (va_A [(x, .inr (13, [.ref g, .ref ca, .int 0, .ref co, .int 0, .ref ra, .int 0, .ref rl, .ref tr, .ref f9, .ref f10, .ref f11, .ref f12, .ref f13]))] sz) := by
  refine op_X (Qc := fun _ => qN) (px := (fun E => E = "java/lang/IndexOutOfBoundsException")) (by decide +kernel) rfl (Nat.le_of_ble_eq_true rfl) ?_
  intro p e s m args below meth c A ls hx hb hr hml hts hown hlocks hmn htab hA hD hS hP hK hE hsz hl
  have hown : s.vm.findClass RX6 = some m.cls := hown
  have hl : lv_has ls 2 [(0, .ref x), (1, .int v)] := hl
  have hw_0 := hts (.fieldLink RX6 82 "ControlWood" "runnerCount" "I") (List.mem_cons_of_mem _ (List.mem_append_left _ (List.mem_of_getElem? (i := 0) rfl)))
  have hw_1 := hts (.methodLink RX6 174 yX6_needIndex) (List.mem_cons_of_mem _ (List.mem_append_left _ (List.mem_of_getElem? (i := 1) rfl)))
  have hw_2 := hts (.static yX6_needIndex) (List.mem_cons_of_mem _ (List.mem_append_left _ (List.mem_of_getElem? (i := 2) rfl)))
  have hw_3 := hts (.initialized RX6) (List.mem_cons_of_mem _ (List.mem_append_left _ (List.mem_of_getElem? (i := 3) rfl)))
  have hb_0 : ∀ w ∈ wsX60, w ∈ us_c_needRunner := fun w h => List.mem_cons_of_mem _ (List.mem_append_right _ (List.mem_append_left _ h))
  have hb_1 : ∀ w ∈ us_c_needIndexT, w ∈ us_c_needRunner := fun w h => List.mem_cons_of_mem _ (List.mem_append_right _ (List.mem_append_right _ (List.mem_append_left _ h)))
  refine lv_iload_n hx hb dX6_needRunner_0 rfl (lv_at hl 1 rfl) ?_
  refine lv_aload_n hx hb dX6_needRunner_1 rfl (lv_at hl 0 rfl) ?_
  refine va_get (D := D) (ci := 13) (v := .int 0) (C := RX6) (T := TX6) (N := 14) hx hb hts hb_0 hown hK hP 0 rfl rfl 6 (by decide) hw_0 (fun _ h9 => h9) rfl dX6_needRunner_2 ?_
  exact mt_out (vx_runS (As := [.int v, .int 0]) (rest := []) ⟨hx, hb, hml, hown, hts⟩ (c_needIndexT l hst D v 0 s.heap.size (inI_0 v)) (va_cwS 2 hts (gi_c (List.mem_cons_of_mem _ (List.mem_append_left _ (List.mem_of_getElem? (i := 1) rfl))) rfl (gi_c (List.mem_cons_of_mem _ (List.mem_append_left _ (List.mem_of_getElem? (i := 2) rfl))) rfl (gi_c (List.mem_cons_of_mem _ (List.mem_append_left _ (List.mem_of_getElem? (i := 3) rfl))) rfl (goodIn_sub hb_1 (List.all_eq_true.mpr gw_c_needIndexT))))) rfl rfl rfl (by decide +kernel) ⟨Nat.le_of_ble_eq_true rfl, Nat.le_of_ble_eq_true rfl⟩) (pr_S (As := [.int v, .int 0]) hP hD hK hS hA hE [] [] rfl rfl rfl) rfl rfl hl.1 rfl (lv_room (Nat.le_of_ble_eq_true rfl)) dX6_needRunner_5 ⟨Nat.le_of_ble_eq_true rfl, Nat.le_of_ble_eq_true rfl⟩) hD hS hA [] rfl htab hlocks (fun _ h => h) (Nat.le_of_ble_eq_true rfl) (Nat.le_of_ble_eq_true rfl)
