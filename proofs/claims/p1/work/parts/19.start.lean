/-! what the start gives: the classes, the texts, the statics, the words of ex_E -/
set_option maxRecDepth 100000 in
theorem mw_715 : (.instantiable RJ0 4 : Cond) ∈ lw_tbl := List.mem_of_getElem? (i := 674) (by decide +kernel)
set_option maxRecDepth 100000 in
theorem mw_716 : (.instantiable RJ4 4 : Cond) ∈ lw_tbl := List.mem_of_getElem? (i := 1923) (by decide +kernel)
set_option maxRecDepth 100000 in
theorem mw_717 : (.instantiable RJ6 1 : Cond) ∈ lw_tbl := List.mem_of_getElem? (i := 1685) (by decide +kernel)
set_option maxRecDepth 100000 in
theorem mw_718 : (.instantiable RJx00060 6 : Cond) ∈ lw_tbl := List.mem_of_getElem? (i := 656) (by decide +kernel)
set_option maxRecDepth 100000 in
theorem mw_719 : (.instantiable RJx2f0ea 8 : Cond) ∈ lw_tbl := List.mem_of_getElem? (i := 2366) (by decide +kernel)
set_option maxRecDepth 100000 in
theorem mw_720 : (.instantiable RX6 14 : Cond) ∈ lw_tbl := List.mem_of_getElem? (i := 133) (by decide +kernel)
set_option maxRecDepth 100000 in
theorem mw_721 : (.instantiable RX8 8 : Cond) ∈ lw_tbl := List.mem_of_getElem? (i := 1741) (by decide +kernel)
set_option maxRecDepth 100000 in
theorem mw_722 : (.instantiable RX9 13 : Cond) ∈ lw_tbl := List.mem_of_getElem? (i := 1301) (by decide +kernel)
set_option maxRecDepth 100000 in
theorem mw_723 : (.laysStatic "java/util/ArrayList" "DEFAULTCAPACITY_EMPTY_ELEMENTDATA" "[Ljava/lang/Object;" : Cond) ∈ lw_tbl := List.mem_of_getElem? (i := 1319) (by decide +kernel)
set_option maxRecDepth 100000 in
theorem mw_724 : (.initialized "java/util/ArrayList" : Cond) ∈ lw_tbl := List.mem_of_getElem? (i := 98) (by decide +kernel)
set_option maxRecDepth 100000 in
theorem mw_725 : (.laysStatic "java/util/ArrayList" "EMPTY_ELEMENTDATA" "[Ljava/lang/Object;" : Cond) ∈ lw_tbl := List.mem_of_getElem? (i := 2564) (by decide +kernel)
set_option maxRecDepth 100000 in
theorem mw_726 : (.stringRef RX6 441 "a number is out of range" : Cond) ∈ lw_tbl := List.mem_of_getElem? (i := 625) (by decide +kernel)
set_option maxRecDepth 100000 in
theorem mw_727 : (.stringRef RX6 445 "there is no such number" : Cond) ∈ lw_tbl := List.mem_of_getElem? (i := 699) (by decide +kernel)
set_option maxRecDepth 100000 in
theorem mw_728 : (.stringRef RX6 448 "there is no such kind" : Cond) ∈ lw_tbl := List.mem_of_getElem? (i := 706) (by decide +kernel)
set_option maxRecDepth 100000 in
theorem mw_729 : (.laysStatic "java/lang/Throwable" "UNASSIGNED_STACK" "[Ljava/lang/StackTraceElement;" : Cond) ∈ lw_tbl := List.mem_of_getElem? (i := 607) (by decide +kernel)
set_option maxRecDepth 100000 in
theorem mw_730 : (.initialized "java/lang/Throwable" : Cond) ∈ lw_tbl := List.mem_of_getElem? (i := 99) (by decide +kernel)
set_option maxRecDepth 100000 in
theorem mw_731 : (.laysStatic "java/lang/Throwable" "SUPPRESSED_SENTINEL" "Ljava/util/List;" : Cond) ∈ lw_tbl := List.mem_of_getElem? (i := 609) (by decide +kernel)
set_option maxRecDepth 100000 in
theorem mw_732 : (.castable "[C" "java/lang/Cloneable" : Cond) ∈ lw_tbl := List.mem_of_getElem? (i := 1433) (by decide +kernel)
set_option maxRecDepth 100000 in
theorem mw_733 : (.castable "[I" "java/lang/Cloneable" : Cond) ∈ lw_tbl := List.mem_of_getElem? (i := 1428) (by decide +kernel)
set_option maxRecDepth 100000 in
theorem mw_734 : (.castable "[I" "java/lang/Object" : Cond) ∈ lw_tbl := List.mem_of_getElem? (i := 2667) (by decide +kernel)
set_option maxRecDepth 100000 in
theorem mw_735 : (.castable "ControlWoodModel$Course" "java/lang/Object" : Cond) ∈ lw_tbl := List.mem_of_getElem? (i := 2656) (by decide +kernel)
set_option maxRecDepth 100000 in
theorem mw_736 : (.fieldLinkNest "java/util/ArrayList$Itr" 28 "java/util/ArrayList" "size" "I" "java/util/ArrayList" : Cond) ∈ lw_tbl := List.mem_of_getElem? (i := 1322) (by decide +kernel)
set_option maxRecDepth 100000 in
theorem mw_737 : (.methodLinkNest "ControlWood" 66 yX0_init "ControlWood" : Cond) ∈ lw_tbl := List.mem_of_getElem? (i := 312) (by decide +kernel)
set_option maxRecDepth 100000 in
theorem mw_738 : (.methodLinkNest "ControlWood" 65 yX3_init "ControlWood" : Cond) ∈ lw_tbl := List.mem_of_getElem? (i := 284) (by decide +kernel)
set_option maxRecDepth 100000 in
theorem mw_739 : (.methodLinkNest "ControlWood" 64 yX1_init "ControlWood" : Cond) ∈ lw_tbl := List.mem_of_getElem? (i := 254) (by decide +kernel)
set_option maxRecDepth 100000 in
theorem mw_740 : (.methodLinkNest "ControlWood" 43 yX5_init "ControlWood" : Cond) ∈ lw_tbl := List.mem_of_getElem? (i := 237) (by decide +kernel)
set_option maxRecDepth 100000 in
theorem mw_741 : (.methodLinkNest "ControlWood" 36 yX2_init "ControlWood" : Cond) ∈ lw_tbl := List.mem_of_getElem? (i := 207) (by decide +kernel)
set_option maxRecDepth 100000 in
theorem mw_742 : (.methodLinkNest "ControlWood" 11 yX4_init "ControlWood" : Cond) ∈ lw_tbl := List.mem_of_getElem? (i := 142) (by decide +kernel)
set_option maxRecDepth 100000 in
theorem mw_743 : (.castable "java/lang/IndexOutOfBoundsException" "java/lang/IndexOutOfBoundsException" : Cond) ∈ lw_tbl := List.mem_of_getElem? (i := 692) (by decide +kernel)
set_option maxRecDepth 100000 in
theorem mw_744 : (.castable "java/lang/IllegalArgumentException" "java/lang/IllegalArgumentException" : Cond) ∈ lw_tbl := List.mem_of_getElem? (i := 582) (by decide +kernel)
set_option maxRecDepth 100000 in
theorem mw_745 : (.declares ⟨"java/lang/Throwable", "<init>", "(Ljava/lang/String;)V"⟩ : Cond) ∈ lw_tbl := List.mem_of_getElem? (i := 588) (by decide +kernel)
set_option maxRecDepth 100000 in
theorem mw_746 : (.declares ⟨"java/lang/Exception", "<init>", "(Ljava/lang/String;)V"⟩ : Cond) ∈ lw_tbl := List.mem_of_getElem? (i := 586) (by decide +kernel)
set_option maxRecDepth 100000 in
theorem mw_747 : (.declares ⟨"java/lang/RuntimeException", "<init>", "(Ljava/lang/String;)V"⟩ : Cond) ∈ lw_tbl := List.mem_of_getElem? (i := 584) (by decide +kernel)
set_option maxRecDepth 100000 in
theorem mw_748 : (.arrayOver (.object "java/lang/Object") : Cond) ∈ lw_tbl := List.mem_of_getElem? (i := 1543) (by decide +kernel)
set_option maxRecDepth 100000 in
theorem mw_749 : (.arrayOver (.object "ControlWood$Entrant") : Cond) ∈ lw_tbl := List.mem_of_getElem? (i := 204) (by decide +kernel)
set_option maxRecDepth 100000 in
theorem mw_750 : (.arrayOver (.object "ControlWood$Route") : Cond) ∈ lw_tbl := List.mem_of_getElem? (i := 202) (by decide +kernel)
set_option maxRecDepth 100000 in
theorem mw_751 : (.arrayOver (.object "ControlWood$Post") : Cond) ∈ lw_tbl := List.mem_of_getElem? (i := 200) (by decide +kernel)
set_option maxRecDepth 100000 in
theorem mw_752 : (.arrayOver (.array .long) : Cond) ∈ lw_tbl := List.mem_of_getElem? (i := 2588) (by decide +kernel)
set_option maxRecDepth 100000 in
theorem mw_753 : (.declares ⟨"java/lang/Object", "getClass", "()Ljava/lang/Class;"⟩ : Cond) ∈ lw_tbl := List.mem_of_getElem? (i := 2557) (by decide +kernel)
set_option maxRecDepth 100000 in
theorem mw_754 : (.declares ⟨"java/util/Iterator", "hasNext", "()Z"⟩ : Cond) ∈ lw_tbl := List.mem_of_getElem? (i := 1645) (by decide +kernel)
set_option maxRecDepth 100000 in
theorem mw_755 : (.interfaceMethod "java/util/Iterator" "java/util/Iterator" "hasNext" "()Z" : Cond) ∈ lw_tbl := List.mem_of_getElem? (i := 1644) (by decide +kernel)
set_option maxRecDepth 100000 in
theorem mw_756 : (.publicMethod yJx35411_hasNext_aae02 : Cond) ∈ lw_tbl := List.mem_of_getElem? (i := 1650) (by decide +kernel)
set_option maxRecDepth 100000 in
theorem mw_757 : (.unhidden "java/util/ArrayList$Itr" "hasNext" "()Z" : Cond) ∈ lw_tbl := List.mem_of_getElem? (i := 1648) (by decide +kernel)
set_option maxRecDepth 100000 in
theorem mw_758 : (.castable "java/util/ArrayList$Itr" "java/util/Iterator" : Cond) ∈ lw_tbl := List.mem_of_getElem? (i := 1646) (by decide +kernel)
set_option maxRecDepth 100000 in
theorem mw_759 : (.declares ⟨"java/util/Collection", "toArray", "()[Ljava/lang/Object;"⟩ : Cond) ∈ lw_tbl := List.mem_of_getElem? (i := 2547) (by decide +kernel)
set_option maxRecDepth 100000 in
theorem mw_760 : (.interfaceMethod "java/util/Collection" "java/util/Collection" "toArray" "()[Ljava/lang/Object;" : Cond) ∈ lw_tbl := List.mem_of_getElem? (i := 2546) (by decide +kernel)
set_option maxRecDepth 100000 in
theorem mw_761 : (.publicMethod yJx4a65c_toArray_d5877 : Cond) ∈ lw_tbl := List.mem_of_getElem? (i := 2552) (by decide +kernel)
set_option maxRecDepth 100000 in
theorem mw_762 : (.unhidden "java/util/ArrayList" "toArray" "()[Ljava/lang/Object;" : Cond) ∈ lw_tbl := List.mem_of_getElem? (i := 2550) (by decide +kernel)
set_option maxRecDepth 100000 in
theorem mw_763 : (.castable "java/util/ArrayList" "java/util/Collection" : Cond) ∈ lw_tbl := List.mem_of_getElem? (i := 2548) (by decide +kernel)
set_option maxHeartbeats 4000000 in
set_option maxRecDepth 100000 in
theorem ex_start {s : State} {args : Array Value} (hts : ∀ w ∈ lw_tbl, w.before args s = true) (hgv : (Jvm.Cond.and given_1 narrow_1).before args s = true) : ∃ D : va_G, va_K D vwCl [] s ∧ ex_E D (fun q : Nat => s.heap.size ≤ q) s s.heap := by
  have hs := flat_of_before _ hgv
  have hA : ∀ a : Nat, a < s.heap.size → ¬ (fun q : Nat => s.heap.size ≤ q) a := fun a h => Nat.not_le.mpr h
  obtain ⟨c0, i0, k0⟩ := u_known (C := RJ0) (T := TJ0) (N := 4) (n := 4) hts (by decide +kernel) (hts _ mw_715)
  obtain ⟨c1, i1, k1⟩ := u_known (C := RJ4) (T := TJ4) (N := 4) (n := 4) hts (by decide +kernel) (hts _ mw_716)
  obtain ⟨c2, i2, k2⟩ := u_known (C := RJ6) (T := TJ6) (N := 1) (n := 1) hts (by decide +kernel) (hts _ mw_717)
  obtain ⟨c3, i3, k3⟩ := u_known (C := RJx00060) (T := TJx00060) (N := 6) (n := 6) hts (by decide +kernel) (hts _ mw_718)
  obtain ⟨c4, i4, k4⟩ := u_known (C := RJx35411) (T := TJx35411) (N := 4) (n := 4) hts (by decide +kernel) (hts _ mw_469)
  obtain ⟨c5, i5, k5⟩ := u_known (C := RJx4a65c) (T := TJx4a65c) (N := 3) (n := 3) hts (by decide +kernel) (hts _ mw_613)
  obtain ⟨c6, i6, k6⟩ := u_known (C := RJx2f0ea) (T := TJx2f0ea) (N := 8) (n := 8) hts (by decide +kernel) (hts _ mw_719)
  obtain ⟨c7, i7, k7⟩ := u_known (C := RX0) (T := TX0) (N := 16) (n := 16) hts (by decide +kernel) (hts _ mw_122)
  obtain ⟨c8, i8, k8⟩ := u_known (C := RX1) (T := TX1) (N := 6) (n := 6) hts mb_8 (hts _ mw_128)
  obtain ⟨c9, i9, k9⟩ := u_known (C := RX2) (T := TX2) (N := 6) (n := 6) hts (by decide +kernel) (hts _ mw_142)
  obtain ⟨c10, i10, k10⟩ := u_known (C := RX3) (T := TX3) (N := 5) (n := 5) hts (by decide +kernel) (hts _ mw_125)
  obtain ⟨c11, i11, k11⟩ := u_known (C := RX4) (T := TX4) (N := 14) (n := 14) hts (by decide +kernel) (hts _ mw_151)
  obtain ⟨c12, i12, k12⟩ := u_known (C := RX5) (T := TX5) (N := 3) (n := 3) hts (by decide +kernel) (hts _ mw_137)
  obtain ⟨c13, i13, k13⟩ := u_known (C := RX6) (T := TX6) (N := 14) (n := 14) hts (by decide +kernel) (hts _ mw_720)
  obtain ⟨c14, i14, k14⟩ := u_known (C := RX7) (T := TX7) (N := 4) (n := 4) hts (by decide +kernel) (hts _ mw_658)
  obtain ⟨c15, i15, k15⟩ := u_known (C := RX8) (T := TX8) (N := 8) (n := 8) hts (by decide +kernel) (hts _ mw_721)
  obtain ⟨c16, i16, k16⟩ := u_known (C := RX9) (T := TX9) (N := 13) (n := 13) hts (by decide +kernel) (hts _ mw_722)
  have ha1 : (Cond.arrayOf (.static "java/util/ArrayList" "DEFAULTCAPACITY_EMPTY_ELEMENTDATA" "[Ljava/lang/Object;") (.object "java/lang/Object")).before args s = true := hs _ (by decide +kernel)
  have hn1 : (Cond.eq (.length (.static "java/util/ArrayList" "DEFAULTCAPACITY_EMPTY_ELEMENTDATA" "[Ljava/lang/Object;")) (.int 0)).before args s = true := hs _ (by decide +kernel)
  have hx1 : (Cond.exactly (.static "java/util/ArrayList" "DEFAULTCAPACITY_EMPTY_ELEMENTDATA" "[Ljava/lang/Object;") "[Ljava/lang/Object;").before args s = true := hs _ (by decide +kernel)
  obtain ⟨t1, ht1, hT1⟩ := va_Tof (A := fun q : Nat => s.heap.size ≤ q) (N := 0) (f := fun _ => .null) (by decide) ha1 (va_eqt hn1) (fun j h => absurd h (Nat.not_lt_zero j)) hA
  have hZ1 := va_Zof (A := fun q : Nat => s.heap.size ≤ q) (hts _ mw_723) (hts _ mw_724) ht1 hA
  have ha2 : (Cond.arrayOf (.static "java/util/ArrayList" "EMPTY_ELEMENTDATA" "[Ljava/lang/Object;") (.object "java/lang/Object")).before args s = true := hs _ (by decide +kernel)
  have hn2 : (Cond.eq (.length (.static "java/util/ArrayList" "EMPTY_ELEMENTDATA" "[Ljava/lang/Object;")) (.int 0)).before args s = true := hs _ (by decide +kernel)
  have hx2 : (Cond.exactly (.static "java/util/ArrayList" "EMPTY_ELEMENTDATA" "[Ljava/lang/Object;") "[Ljava/lang/Object;").before args s = true := hs _ (by decide +kernel)
  obtain ⟨t2, ht2, hT2⟩ := va_Tof (A := fun q : Nat => s.heap.size ≤ q) (N := 0) (f := fun _ => .null) (by decide) ha2 (va_eqt hn2) (fun j h => absurd h (Nat.not_lt_zero j)) hA
  have hZ2 := va_Zof (A := fun q : Nat => s.heap.size ≤ q) (hts _ mw_725) (hts _ mw_724) ht2 hA
  obtain ⟨tx, cx, cellx, kx, hx3, hx4, hx5, -, hx6, hx7, -⟩ := Cond.exactly_spec hx1
  have etx : t1 = tx := Value.ref.inj (Option.some.inj (ht1.symm.trans hx3))
  subst etx
  obtain ⟨mi, hMi⟩ := va_Mi.of (C := "[Ljava/lang/Object;") (hs (.isRef (.mirror "[Ljava/lang/Object;")) (by decide +kernel))
  have hcl : ∀ (k : Nat) (q : vw_C), vwCl[k]? = some q → u_Kn s q.1 q.2.1 q.2.2 ((fun k => if k = 1000 then t1 else if k = 1001 then t2 else if k = 1002 then mi else [c0, c1, c2, c3, c4, c5, c6, c7, c8, c9, c10, c11, c12, c13, c14, c15, c16].getD k 0) k) (([i0, i1, i2, i3, i4, i5, i6, i7, i8, i9, i10, i11, i12, i13, i14, i15, i16] : List (Nat → Nat)).getD k (fun _ => 0)) := by
    intro k q hq
    match k, hq with
    | 0, hq => cases hq; exact k0
    | 1, hq => cases hq; exact k1
    | 2, hq => cases hq; exact k2
    | 3, hq => cases hq; exact k3
    | 4, hq => cases hq; exact k4
    | 5, hq => cases hq; exact k5
    | 6, hq => cases hq; exact k6
    | 7, hq => cases hq; exact k7
    | 8, hq => cases hq; exact k8
    | 9, hq => cases hq; exact k9
    | 10, hq => cases hq; exact k10
    | 11, hq => cases hq; exact k11
    | 12, hq => cases hq; exact k12
    | 13, hq => cases hq; exact k13
    | 14, hq => cases hq; exact k14
    | 15, hq => cases hq; exact k15
    | 16, hq => cases hq; exact k16
    | k + 17, hq => simp [vwCl] at hq
  refine ⟨(fun k => if k = 1000 then t1 else if k = 1001 then t2 else if k = 1002 then mi else [c0, c1, c2, c3, c4, c5, c6, c7, c8, c9, c10, c11, c12, c13, c14, c15, c16].getD k 0, fun k => ([i0, i1, i2, i3, i4, i5, i6, i7, i8, i9, i10, i11, i12, i13, i14, i15, i16] : List (Nat → Nat)).getD k (fun _ => 0)), ⟨hcl, fun k q h => by simp at h⟩, ?_⟩
  obtain ⟨s0, hs0⟩ : ∃ a, vk_R RX6 441 "a number is out of range" a s := by
    obtain ⟨a9, c9, ce9, k9, h9, -⟩ := Cond.exactly_spec (hs (.exactly (.string "ControlWood" 441) "java/lang/String") (by decide +kernel))
    exact ⟨a9, vk_R.of (hts _ mw_726) h9⟩
  obtain ⟨s1, hs1⟩ : ∃ a, vk_R RX6 445 "there is no such number" a s := by
    obtain ⟨a9, c9, ce9, k9, h9, -⟩ := Cond.exactly_spec (hs (.exactly (.string "ControlWood" 445) "java/lang/String") (by decide +kernel))
    exact ⟨a9, vk_R.of (hts _ mw_727) h9⟩
  obtain ⟨s2, hs2⟩ : ∃ a, vk_R RX6 448 "there is no such kind" a s := by
    obtain ⟨a9, c9, ce9, k9, h9, -⟩ := Cond.exactly_spec (hs (.exactly (.string "ControlWood" 448) "java/lang/String") (by decide +kernel))
    exact ⟨a9, vk_R.of (hts _ mw_728) h9⟩
  have hz0 : vx_Zq Bundle.tN "UNASSIGNED_STACK" Bundle.steD (fun q : Nat => s.heap.size ≤ q) s s.heap := vx_Zqof (hts _ mw_729) (hts _ mw_730) (hs (.isRef (.static "java/lang/Throwable" "UNASSIGNED_STACK" "[Ljava/lang/StackTraceElement;")) (by decide +kernel)) hA
  have hz1 : vx_Zq Bundle.tN "SUPPRESSED_SENTINEL" Bundle.listD (fun q : Nat => s.heap.size ≤ q) s s.heap := vx_Zqof (hts _ mw_731) (hts _ mw_730) (hs (.isRef (.static "java/lang/Throwable" "SUPPRESSED_SENTINEL" "Ljava/util/List;")) (by decide +kernel)) hA
  have hnw : ∀ w ∈ ex_nw, va_Nw w s := (List.forall_mem_cons.mpr ⟨va_Nw.of (ex_tab (ex_nwW _ (List.mem_of_getElem? (i := 0) rfl))) (hts _ mw_747), (List.forall_mem_cons.mpr ⟨va_Nw.of (ex_tab (ex_nwW _ (List.mem_of_getElem? (i := 1) rfl))) (hts _ mw_746), (List.forall_mem_cons.mpr ⟨va_Nw.of (ex_tab (ex_nwW _ (List.mem_of_getElem? (i := 2) rfl))) (hts _ mw_745), (List.forall_mem_cons.mpr ⟨va_Nw.of (ex_tab (ex_nwW _ (List.mem_of_getElem? (i := 3) rfl))) (hts _ mw_744), (List.forall_mem_cons.mpr ⟨va_Nw.of (ex_tab (ex_nwW _ (List.mem_of_getElem? (i := 4) rfl))) (hts _ mw_743), (List.forall_mem_cons.mpr ⟨va_Nw.of (ex_tab (ex_nwW _ (List.mem_of_getElem? (i := 5) rfl))) (hts _ mw_742), (List.forall_mem_cons.mpr ⟨va_Nw.of (ex_tab (ex_nwW _ (List.mem_of_getElem? (i := 6) rfl))) (hts _ mw_741), (List.forall_mem_cons.mpr ⟨va_Nw.of (ex_tab (ex_nwW _ (List.mem_of_getElem? (i := 7) rfl))) (hts _ mw_740), (List.forall_mem_cons.mpr ⟨va_Nw.of (ex_tab (ex_nwW _ (List.mem_of_getElem? (i := 8) rfl))) (hts _ mw_739), (List.forall_mem_cons.mpr ⟨va_Nw.of (ex_tab (ex_nwW _ (List.mem_of_getElem? (i := 9) rfl))) (hts _ mw_738), (List.forall_mem_cons.mpr ⟨va_Nw.of (ex_tab (ex_nwW _ (List.mem_of_getElem? (i := 10) rfl))) (hts _ mw_737), (List.forall_mem_cons.mpr ⟨va_Nw.of (ex_tab (ex_nwW _ (List.mem_of_getElem? (i := 11) rfl))) (hts _ mw_736), (List.forall_mem_cons.mpr ⟨va_Nw.of (ex_tab (ex_nwW _ (List.mem_of_getElem? (i := 12) rfl))) (hts _ mw_735), (List.forall_mem_cons.mpr ⟨va_Nw.of (ex_tab (ex_nwW _ (List.mem_of_getElem? (i := 13) rfl))) (hts _ mw_734), (List.forall_mem_cons.mpr ⟨va_Nw.of (ex_tab (ex_nwW _ (List.mem_of_getElem? (i := 14) rfl))) (hts _ mw_733), (List.forall_mem_cons.mpr ⟨va_Nw.of (ex_tab (ex_nwW _ (List.mem_of_getElem? (i := 15) rfl))) (hts _ mw_732), (fun _ h => nomatch h)⟩)⟩)⟩)⟩)⟩)⟩)⟩)⟩)⟩)⟩)⟩)⟩)⟩)⟩)⟩)⟩)
  have hao : ∀ C ∈ ex_ao, va_AO C s := (List.forall_mem_cons.mpr ⟨va_AO.of (hts _ mw_751), (List.forall_mem_cons.mpr ⟨va_AO.of (hts _ mw_750), (List.forall_mem_cons.mpr ⟨va_AO.of (hts _ mw_749), (List.forall_mem_cons.mpr ⟨va_AO.of (hts _ mw_748), (fun _ h => nomatch h)⟩)⟩)⟩)⟩)
  have hk : ex_K s := ⟨hnw, va_Nc.of (hs (.not (.castable "java/lang/IllegalArgumentException" "java/lang/IndexOutOfBoundsException")) (by decide +kernel)), va_Nc.of (hs (.not (.castable "java/lang/IndexOutOfBoundsException" "java/lang/IllegalArgumentException")) (by decide +kernel)), hao, (hts _ mw_752)⟩
  exact ⟨⟨s0, hs0⟩, ⟨s1, hs1⟩, ⟨s2, hs2⟩, hz0, hz1, hk, hZ1, hZ2, hT1, ⟨cellx, hx5, hx6, by rw [hx7]; exact hx4, hA _ (Array.getElem?_eq_some_iff.mp hx5).1⟩, hMi, va_Dc.of (hts _ mw_753), va_Fw.of (hts _ mw_754) (hts _ mw_755) (hts _ mw_756) (hts _ mw_757) (hts _ mw_758), va_Fw.of (hts _ mw_759) (hts _ mw_760) (hts _ mw_761) (hts _ mw_762) (hts _ mw_763)⟩
