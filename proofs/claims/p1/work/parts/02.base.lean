/-! what every contract of this claim is made of: its start, its end, calls in one row each -/
/-- words that no call takes away, though they aren't good ones: throws, catches, members of nest mates -/
def ex_nw : List Cond := [.declares ⟨"java/lang/RuntimeException", "<init>", "(Ljava/lang/String;)V"⟩, .declares ⟨"java/lang/Exception", "<init>", "(Ljava/lang/String;)V"⟩, .declares ⟨"java/lang/Throwable", "<init>", "(Ljava/lang/String;)V"⟩,
  .castable "java/lang/IllegalArgumentException" "java/lang/IllegalArgumentException", .castable "java/lang/IndexOutOfBoundsException" "java/lang/IndexOutOfBoundsException",
  .methodLinkNest "ControlWood" 11 yX4_init "ControlWood", .methodLinkNest "ControlWood" 36 yX2_init "ControlWood", .methodLinkNest "ControlWood" 43 yX5_init "ControlWood", .methodLinkNest "ControlWood" 64 yX1_init "ControlWood", .methodLinkNest "ControlWood" 65 yX3_init "ControlWood", .methodLinkNest "ControlWood" 66 yX0_init "ControlWood",
  .fieldLinkNest "java/util/ArrayList$Itr" 28 "java/util/ArrayList" "size" "I" "java/util/ArrayList",
  .castable "ControlWoodModel$Course" "java/lang/Object", .castable "[I" "java/lang/Object", .castable "[I" "java/lang/Cloneable", .castable "[C" "java/lang/Cloneable"]
/-- classes of which arrays are made -/
def ex_ao : List String := ["ControlWood$Post", "ControlWood$Route", "ControlWood$Entrant", "java/lang/Object"]
def ex_isW (w : Cond) : Bool := match w with
  | .declares _ => true
  | .castable _ _ => true
  | .methodLinkNest _ _ _ _ => true
  | .fieldLinkNest _ _ _ _ _ _ => true
  | _ => false
theorem ex_warm {w : Cond} (h : ex_isW w = true) {s U : State} (hW : s.WarmedH U.vm) (hZ : va_Nw w s) : va_Nw w U := by
  unfold ex_isW at h
  split at h
  · exact va_Nw.warmD hW hZ
  · exact va_Nw.warmC hW hZ
  · exact va_Nw.warmM hW hZ
  · exact va_Nw.warmF hW hZ
  · cases h
theorem ex_tab {w : Cond} (h : ex_isW w = true) : w.onTables = true := by
  unfold ex_isW at h
  split at h
  · rfl
  · rfl
  · rfl
  · rfl
  · cases h
theorem ex_nwW : ∀ w ∈ ex_nw, ex_isW w = true := by decide +kernel
theorem ex_idx (vm vm' : Vm) (h : vm.bare = vm'.bare) (comp : ClassId) : (vm.classes.findIdx? fun (x : Class) => match x.kind with | .array component _ => component == comp | _ => false) = (vm'.classes.findIdx? fun (x : Class) => match x.kind with | .array component _ => component == comp | _ => false) :=
  (va_idx_bare vm comp).symm.trans ((congrArg (fun v : Vm => v.classes.findIdx? fun (x : Class) => match x.kind with | .array component _ => component == comp | _ => false) h).trans (va_idx_bare vm' comp))
theorem ex_AOA_moved {u U : State} (hvm : u.vm.Alike U.vm) (h : (Cond.arrayOver (.array .long)).before #[] u = true) : (Cond.arrayOver (.array .long)).before #[] U = true := by
  have hidx := fun comp => ex_idx U.vm u.vm (by first | exact hvm.bare_eq | exact hvm.bare_eq.symm) comp
  unfold Cond.before Cond.holds at h ⊢
  simp only [Cond.value] at h ⊢
  rw [hvm.findClass]
  cases hf : u.vm.findClass (FieldType.array FieldType.long).toString with
  | none => rw [hf] at h; exact h
  | some comp =>
    rw [hf, Option.bind_some] at h
    rw [Option.bind_some]
    cases hi : (u.vm.classes.findIdx? fun (x : Class) => match x.kind with | .array component _ => component == comp | _ => false) with
    | none =>
      exfalso
      have h2 := (congrArg (fun o : Option Nat => (o.bind (fun c => (u.vm.classes[c]?).map fun (k : Class) => match k.kind with | .array _ ty => decide (ty = .array .long) && decide (u.vm.findClass ("[" ++ (FieldType.array FieldType.long).toString) = some c) | _ => false) == some true)) hi).symm.trans h
      simp at h2
    | some c =>
      have h2 := (congrArg (fun o : Option Nat => (o.bind (fun c => (u.vm.classes[c]?).map fun (k : Class) => match k.kind with | .array _ ty => decide (ty = .array .long) && decide (u.vm.findClass ("[" ++ (FieldType.array FieldType.long).toString) = some c) | _ => false) == some true)) hi).symm.trans h
      refine (congrArg (fun o : Option Nat => (o.bind (fun c => (U.vm.classes[c]?).map fun (k : Class) => match k.kind with | .array _ ty => decide (ty = .array .long) && decide (U.vm.findClass ("[" ++ (FieldType.array FieldType.long).toString) = some c) | _ => false) == some true)) ((hidx comp).trans hi)).trans ?_
      cases hk : u.vm.classes[c]? with
      | none => simp [hk] at h2
      | some k =>
        obtain ⟨k', hk', he⟩ := hvm.2.2 _ _ hk
        have hkind : k'.kind = k.kind := by rw [he]
        have hff := hvm.findClass ("[" ++ (FieldType.array FieldType.long).toString)
        simp only [hk, Option.bind_some, Option.map_some] at h2
        simp only [hk', hkind, hff, Option.bind_some, Option.map_some]
        exact h2
def ex_K (U : State) : Prop := (∀ w ∈ ex_nw, va_Nw w U) ∧ va_Nc "java/lang/IllegalArgumentException" "java/lang/IndexOutOfBoundsException" U ∧ va_Nc "java/lang/IndexOutOfBoundsException" "java/lang/IllegalArgumentException" U ∧ (∀ C ∈ ex_ao, va_AO C U) ∧ (Cond.arrayOver (.array .long)).before #[] U = true
theorem ex_K.use {U : State} (h : ex_K U) {args : Array Value} : ∀ w ∈ ex_nw, w.before args U = true := fun w hw => va_Nw.use (ex_tab (ex_nwW w hw)) (h.1 w hw)
theorem ex_K.warm {s U : State} (hW : s.WarmedH U.vm) (h : ex_K s) : ex_K U := ⟨fun w hw => ex_warm (ex_nwW w hw) hW (h.1 w hw), h.2.1.moved hW.alike, h.2.2.1.moved hW.alike, fun C hC => (h.2.2.2.1 C hC).moved hW.alike, ex_AOA_moved hW.alike h.2.2.2.2⟩
theorem ex_K.same {u U : State} (hv : u.vm = U.vm) (h : ex_K u) : ex_K U := ⟨fun w hw => va_Nw.same (ex_tab (ex_nwW w hw)) hv (h.1 w hw), h.2.1.moved (by rw [hv]; exact Vm.Alike.refl _), h.2.2.1.moved (by rw [hv]; exact Vm.Alike.refl _), fun C hC => (h.2.2.2.1 C hC).moved (by rw [hv]; exact Vm.Alike.refl _), ex_AOA_moved (by rw [hv]; exact Vm.Alike.refl _) h.2.2.2.2⟩
/-- what the lists of the reference rest on: the two empty arrays, the classes' objects, interfaces -/
def ex_M (D : va_G) (A : Nat → Prop) (U : State) (H : Heap) : Prop :=
  va_Z "java/util/ArrayList" "DEFAULTCAPACITY_EMPTY_ELEMENTDATA" "[Ljava/lang/Object;" (.ref (D.1 1000)) A U H ∧ va_Z "java/util/ArrayList" "EMPTY_ELEMENTDATA" "[Ljava/lang/Object;" (.ref (D.1 1001)) A U H ∧
  va_T (.object "java/lang/Object") (D.1 1000) 0 (fun _ => .null) A U H ∧ (∃ cell : Cell, H[D.1 1000]? = some cell ∧ cell.vm.isStatics = false ∧ U.vm.findClass "[Ljava/lang/Object;" = some cell.cls ∧ ¬ A (D.1 1000)) ∧
  va_Mi "[Ljava/lang/Object;" (D.1 1002) U ∧ va_Dc U ∧ va_Fw RJx35411 ⟨"java/util/Iterator", "hasNext", "()Z"⟩ yJx35411_hasNext_aae02 U ∧ va_Fw RJx4a65c ⟨"java/util/Collection", "toArray", "()[Ljava/lang/Object;"⟩ yJx4a65c_toArray_d5877 U
theorem ex_M.alike {D : va_G} {A : Nat → Prop} {u U : State} {H : Heap} (hv : u.vm.Alike U.vm) (h : ex_M D A u H) : ex_M D A U H := by
  obtain ⟨h1, h2, h3, ⟨ce, h4, h5, h6, h7⟩, h8, h9, h10, h11⟩ := h
  exact ⟨va_Z.moved hv h1, va_Z.moved hv h2, va_T.moved hv h3, ⟨ce, h4, h5, by rw [hv.findClass]; exact h6, h7⟩, h8.moved hv, h9.moved hv, h10.moved (by decide) hv, h11.moved (by decide) hv⟩
theorem ex_M.kept {D : va_G} {A A1 : Nat → Prop} {U : State} {H H1 : Heap} (h : ex_M D A U H) (hq : ∀ a : Nat, a < H.size → ¬ A a → H1[a]? = H[a]?) (hA : ∀ q, A1 q → A q) : ex_M D A1 U H1 := by
  obtain ⟨h1, h2, h3, ⟨ce, h4, h5, h6, h7⟩, h8⟩ := h
  exact ⟨(h1.kept hq).narrow hA, (h2.kept hq).narrow hA, (h3.kept hq).narrow hA, ⟨ce, by rw [hq _ (Array.getElem?_eq_some_iff.mp h4).1 h7]; exact h4, h5, h6, fun z => h7 (hA _ z)⟩, h8⟩
/-- the texts, the statics and the words that the class's throws need -/
def ex_E (D : va_G) (A : Nat → Prop) (U : State) (H : Heap) : Prop :=
  (∃ a, vk_R RX6 441 "a number is out of range" a U) ∧ (∃ a, vk_R RX6 445 "there is no such number" a U) ∧ (∃ a, vk_R RX6 448 "there is no such kind" a U) ∧
  vx_Zq Bundle.tN "UNASSIGNED_STACK" Bundle.steD A U H ∧ vx_Zq Bundle.tN "SUPPRESSED_SENTINEL" Bundle.listD A U H ∧ ex_K U ∧ ex_M D A U H
theorem ex_E.calling {D : va_G} {A : Nat → Prop} {U : State} {H : Heap} {g : JFrame} {mk : MethodId} {a : Array Value} (h : ex_E D A U H) : ex_E D A (U.calling g mk a) H := by
  obtain ⟨⟨a1, h1⟩, ⟨a2, h2⟩, ⟨a3, h3⟩, h4, h5, h6, h7⟩ := h
  exact ⟨⟨a1, vk_R.same rfl h1⟩, ⟨a2, vk_R.same rfl h2⟩, ⟨a3, vk_R.same rfl h3⟩, vx_Zq.moved (Vm.Alike.refl U.vm) h4, vx_Zq.moved (Vm.Alike.refl U.vm) h5, ex_K.same (u := U) (U := U.calling g mk a) rfl h6, ex_M.alike (u := U) (U := U.calling g mk a) (Vm.Alike.refl U.vm) h7⟩
theorem ex_E.at {D : va_G} {A A1 : Nat → Prop} {s U : State} {H : Heap} {locs : List Loc} (h : ex_E D A s s.heap) (hS : va_S A s.heap H locs) (hU : U.heap = H) (hW : s.WarmedH U.vm) (hA : ∀ q, A1 q → A q) : ex_E D A1 U U.heap := by
  obtain ⟨⟨a1, h1⟩, ⟨a2, h2⟩, ⟨a3, h3⟩, h4, h5, h6, h7⟩ := h
  rw [hU]
  exact ⟨⟨a1, h1.warm hW⟩, ⟨a2, h2.warm hW⟩, ⟨a3, h3.warm hW⟩, vx_Zq.moved hW.alike ((h4.kept hS.2.1).narrow hA), vx_Zq.moved hW.alike ((h5.kept hS.2.1).narrow hA), h6.warm hW, (ex_M.kept h7 hS.2.1 hA).alike hW.alike⟩
theorem fm_of {α : Type} {f : Nat → Option α} : ∀ {is : List Nat} {l : List α}, is.map f = l.map some → is.filterMap f = l
  | [], [], _ => rfl
  | [], _ :: _, h => by cases h
  | _ :: _, [], h => by cases h
  | i :: is, x :: l, h => by
    rw [List.map_cons, List.map_cons] at h
    injection h with h1 h2
    rw [List.filterMap_cons_some h1, fm_of h2]
/-- a method's start: its arguments, its world, what throws need -/
def pw (D : va_G) (av : List Value) (tys : List (ClassId × FieldType)) (ws : va_W) (sz : Nat) : Array Value → State → Prop :=
  va_Pc av (fun U => U.heap.size = sz ∧ va_P D vwCl ws U.heap ∧ va_K D vwCl tys U ∧ va_D (fun _ => True) ws ∧ ex_E D (va_A ws sz) U U.heap)
/-- the world behind it -/
def qb {S : Type} (D : va_G) (A : Nat → Prop) (w1 : S → va_W) (t1 : S → List (ClassId × FieldType)) : S → State → Prop :=
  fun u t => va_P D vwCl (w1 u) t.heap ∧ va_K D vwCl (t1 u) t ∧ va_D A (w1 u)
/-- what is said of a throw: the class by its name -/
abbrev xb : String → String → State → Prop := fun E u _ => E = u
theorem pw_blind {D : va_G} {av : List Value} {tys : List (ClassId × FieldType)} {ws : va_W} {sz : Nat} : FrameBlind (pw D av tys ws sz) := by
  intro a U g mk h
  obtain ⟨h1, h2, h3, h4, h5, h6⟩ := h
  exact ⟨h1, h2, h3, va_K.moved (u := U) (U := U.calling g mk a) (Vm.Alike.refl U.vm) h4, h5, h6.calling⟩
section PR
variable {s : State} {H : Heap} {D : va_G} {A : Nat → Prop} {locs : List Loc} {wl wc : va_W} {tys tyc : List (ClassId × FieldType)}
theorem pr_S {As : List Value} (hP : va_P D vwCl wl H) (hD : va_D A wl) (hK : va_K D vwCl tys s) (hS : va_S A s.heap H locs) (hA : ∀ q, s.heap.size ≤ q → A q) (hE : ex_E D A s s.heap) (isC isT : List Nat) (hC : isC.map (fun i => wl[i]?) = wc.map some) (hn : va_nd isC = true) (hT : isT.map (fun i => tys[i]?) = tyc.map some) : PreS s H (pw D As tyc wc H.size) As :=
  ⟨pw_blind, fun U hU hW => ⟨rfl, by rw [hU], by rw [hU]; exact hP.sub isC (fm_of hC), va_K.moved hW.alike (hK.sub isT (fm_of hT)), (hD.sub isC hn hC).weaken (fun _ _ _ _ => trivial), hE.at hS hU hW (va_free hD hS hA isC hC)⟩⟩
theorem pr_V {As : List Value} {b : Addr} {C : String} (hP : va_P D vwCl wl H) (hD : va_D A wl) (hK : va_K D vwCl tys s) (hS : va_S A s.heap H locs) (hA : ∀ q, s.heap.size ≤ q → A q) (hE : ex_E D A s s.heap) (isC isT : List Nat) (hC : isC.map (fun i => wl[i]?) = wc.map some) (hn : va_nd isC = true) (hT : isT.map (fun i => tys[i]?) = tyc.map some) (q0 ci : Nat) {q : vw_C} {fs : List Value} (hc : vwCl[ci]? = some q) (hq : q.1 = C) (he : wl[q0]? = some (b, .inr (ci, fs))) : PreV s H C b (pw D (.ref b :: As) tyc wc H.size) As :=
  ⟨pw_blind, by rw [← hq]; exact va_recv hK hP hc he, (pr_S (As := .ref b :: As) hP hD hK hS hA hE isC isT hC hn hT).2⟩
end PR
section MC
variable {p : Program} {l : Launch} {e : Env} {R : Room} {s : State} {m : MethodId} {args : Array Value} {below : List Frame} {meth : Method} {c : Code} {H : Heap} {locs : List Loc} {cells slots : Nat} {Q : State → Prop}
variable {pc : Nat} {ls : Array Slot} {rest st0 : List Value} {a : Array Value} {A : Nat → Prop} {mc ms : Nat} {D : va_G} {tys : List (ClassId × FieldType)} {wl wc wr : va_W} {S : Type} {w1 : S → va_W} {t1 : S → List (ClassId × FieldType)}
/-- behind a call -/
theorem mc_join {u : S} {t : State} {H1 : Heap} (hP : va_P D vwCl wl H) (hD : va_D A wl) (hK : va_K D vwCl tys s) (hS : va_S A s.heap H locs) (hA : ∀ q, s.heap.size ≤ q → A q) (isC isR : List Nat) (hC : isC.map (fun i => wl[i]?) = wc.map some) (hR : isR.map (fun i => wl[i]?) = wr.map some) (hn : va_nd isR = true) (hdis : ∀ i ∈ isR, i ∉ isC)
    (ht : t.heap = H1) (hvm : s.vm.Alike t.vm) (hB : qb D (va_A wc H.size) w1 t1 u t) (hk1 : ∀ q : Nat, q < H.size → ¬ va_A wc H.size q → H1[q]? = H[q]?) :
    va_P D vwCl (wr ++ w1 u) H1 ∧ va_D A (wr ++ w1 u) ∧ va_K D vwCl (tys ++ t1 u) s := by
  have hFc := va_free (wc := wc) hD hS hA isC hC
  obtain ⟨hP1, hK1, hD1⟩ := hB
  rw [ht] at hP1
  obtain ⟨hP2, hD2⟩ := va_join (wr := wr) (w1 := w1 u) hP hD isC isR hC hR hn hdis hk1 hFc hP1 hD1
  exact ⟨hP2, hD2, hK.app (va_K.moved hvm.symm hK1)⟩
theorem mc_i {post : Int32 → S → Prop} (hr : va_Run p l e R s m args below meth c H locs cells slots mc ms (F0 m pc ls st0) rest (va_Qi post (qb D (va_A wc H.size) w1 t1) (va_A wc H.size) a) (va_A wc H.size))
    (hP : va_P D vwCl wl H) (hD : va_D A wl) (hK : va_K D vwCl tys s) (hS : va_S A s.heap H locs) (hA : ∀ q, s.heap.size ≤ q → A q) (isC isR : List Nat) (hC : isC.map (fun i => wl[i]?) = wc.map some) (hR : isR.map (fun i => wl[i]?) = wr.map some) (hn : va_nd isR = true) (hdis : ∀ i ∈ isR, i ∉ isC)
    (kk : ∀ (r : Int32) (u : S) (H1 : Heap) (locs1 : List Loc), post r u → va_P D vwCl (wr ++ w1 u) H1 → va_D A (wr ++ w1 u) → va_K D vwCl (tys ++ t1 u) s → va_S A s.heap H1 locs1 → W p l e R s m args below meth c H1 locs1 (cells + mc) (slots + ms) Q (F0 m (pc + 3) ls (.int r :: rest))) : W p l e R s m args below meth c H locs cells slots Q (F0 m pc ls st0) := by
  have hFc := va_free (wc := wc) hD hS hA isC hC
  refine va_calli hr hS (fun q _ h => hFc q h) hFc (fun r u t H1 locs1 ht hvm hw hB hz1 hk1 hS1 => ?_)
  obtain ⟨k1, k2, k3⟩ := mc_join hP hD hK hS hA isC isR hC hR hn hdis ht hvm hB hk1
  exact kk r u H1 locs1 hw k1 k2 k3 hS1
theorem mc_l {post : Int64 → S → Prop} (hr : va_Run p l e R s m args below meth c H locs cells slots mc ms (F0 m pc ls st0) rest (va_Ql post (qb D (va_A wc H.size) w1 t1) (va_A wc H.size) a) (va_A wc H.size))
    (hP : va_P D vwCl wl H) (hD : va_D A wl) (hK : va_K D vwCl tys s) (hS : va_S A s.heap H locs) (hA : ∀ q, s.heap.size ≤ q → A q) (isC isR : List Nat) (hC : isC.map (fun i => wl[i]?) = wc.map some) (hR : isR.map (fun i => wl[i]?) = wr.map some) (hn : va_nd isR = true) (hdis : ∀ i ∈ isR, i ∉ isC)
    (kk : ∀ (r : Int64) (u : S) (H1 : Heap) (locs1 : List Loc), post r u → va_P D vwCl (wr ++ w1 u) H1 → va_D A (wr ++ w1 u) → va_K D vwCl (tys ++ t1 u) s → va_S A s.heap H1 locs1 → W p l e R s m args below meth c H1 locs1 (cells + mc) (slots + ms) Q (F0 m (pc + 3) ls (.long r :: rest))) : W p l e R s m args below meth c H locs cells slots Q (F0 m pc ls st0) := by
  have hFc := va_free (wc := wc) hD hS hA isC hC
  refine va_calll hr hS (fun q _ h => hFc q h) hFc (fun r u t H1 locs1 ht hvm hw hB hz1 hk1 hS1 => ?_)
  obtain ⟨k1, k2, k3⟩ := mc_join hP hD hK hS hA isC isR hC hR hn hdis ht hvm hB hk1
  exact kk r u H1 locs1 hw k1 k2 k3 hS1
theorem mc_f {post : UInt32 → S → Prop} (hr : va_Run p l e R s m args below meth c H locs cells slots mc ms (F0 m pc ls st0) rest (va_Qf post (qb D (va_A wc H.size) w1 t1) (va_A wc H.size) a) (va_A wc H.size))
    (hP : va_P D vwCl wl H) (hD : va_D A wl) (hK : va_K D vwCl tys s) (hS : va_S A s.heap H locs) (hA : ∀ q, s.heap.size ≤ q → A q) (isC isR : List Nat) (hC : isC.map (fun i => wl[i]?) = wc.map some) (hR : isR.map (fun i => wl[i]?) = wr.map some) (hn : va_nd isR = true) (hdis : ∀ i ∈ isR, i ∉ isC)
    (kk : ∀ (r : UInt32) (u : S) (H1 : Heap) (locs1 : List Loc), post r u → va_P D vwCl (wr ++ w1 u) H1 → va_D A (wr ++ w1 u) → va_K D vwCl (tys ++ t1 u) s → va_S A s.heap H1 locs1 → W p l e R s m args below meth c H1 locs1 (cells + mc) (slots + ms) Q (F0 m (pc + 3) ls (.float r :: rest))) : W p l e R s m args below meth c H locs cells slots Q (F0 m pc ls st0) := by
  have hFc := va_free (wc := wc) hD hS hA isC hC
  refine va_callf hr hS (fun q _ h => hFc q h) hFc (fun r u t H1 locs1 ht hvm hw hB hz1 hk1 hS1 => ?_)
  obtain ⟨k1, k2, k3⟩ := mc_join hP hD hK hS hA isC isR hC hR hn hdis ht hvm hB hk1
  exact kk r u H1 locs1 hw k1 k2 k3 hS1
theorem mc_d {post : UInt64 → S → Prop} (hr : va_Run p l e R s m args below meth c H locs cells slots mc ms (F0 m pc ls st0) rest (va_Qd post (qb D (va_A wc H.size) w1 t1) (va_A wc H.size) a) (va_A wc H.size))
    (hP : va_P D vwCl wl H) (hD : va_D A wl) (hK : va_K D vwCl tys s) (hS : va_S A s.heap H locs) (hA : ∀ q, s.heap.size ≤ q → A q) (isC isR : List Nat) (hC : isC.map (fun i => wl[i]?) = wc.map some) (hR : isR.map (fun i => wl[i]?) = wr.map some) (hn : va_nd isR = true) (hdis : ∀ i ∈ isR, i ∉ isC)
    (kk : ∀ (r : UInt64) (u : S) (H1 : Heap) (locs1 : List Loc), post r u → va_P D vwCl (wr ++ w1 u) H1 → va_D A (wr ++ w1 u) → va_K D vwCl (tys ++ t1 u) s → va_S A s.heap H1 locs1 → W p l e R s m args below meth c H1 locs1 (cells + mc) (slots + ms) Q (F0 m (pc + 3) ls (.double r :: rest))) : W p l e R s m args below meth c H locs cells slots Q (F0 m pc ls st0) := by
  have hFc := va_free (wc := wc) hD hS hA isC hC
  refine va_calld hr hS (fun q _ h => hFc q h) hFc (fun r u t H1 locs1 ht hvm hw hB hz1 hk1 hS1 => ?_)
  obtain ⟨k1, k2, k3⟩ := mc_join hP hD hK hS hA isC isR hC hR hn hdis ht hvm hB hk1
  exact kk r u H1 locs1 hw k1 k2 k3 hS1
theorem mc_v {post : S → Prop} (hr : va_Run p l e R s m args below meth c H locs cells slots mc ms (F0 m pc ls st0) rest (va_Qv post (qb D (va_A wc H.size) w1 t1) (va_A wc H.size) a) (va_A wc H.size))
    (hP : va_P D vwCl wl H) (hD : va_D A wl) (hK : va_K D vwCl tys s) (hS : va_S A s.heap H locs) (hA : ∀ q, s.heap.size ≤ q → A q) (isC isR : List Nat) (hC : isC.map (fun i => wl[i]?) = wc.map some) (hR : isR.map (fun i => wl[i]?) = wr.map some) (hn : va_nd isR = true) (hdis : ∀ i ∈ isR, i ∉ isC)
    (kk : ∀ (u : S) (H1 : Heap) (locs1 : List Loc), post u → va_P D vwCl (wr ++ w1 u) H1 → va_D A (wr ++ w1 u) → va_K D vwCl (tys ++ t1 u) s → va_S A s.heap H1 locs1 → W p l e R s m args below meth c H1 locs1 (cells + mc) (slots + ms) Q (F0 m (pc + 3) ls rest)) : W p l e R s m args below meth c H locs cells slots Q (F0 m pc ls st0) := by
  have hFc := va_free (wc := wc) hD hS hA isC hC
  refine va_callv hr hS (fun q _ h => hFc q h) hFc (fun u t H1 locs1 ht hvm hw hB hz1 hk1 hS1 => ?_)
  obtain ⟨k1, k2, k3⟩ := mc_join hP hD hK hS hA isC isR hC hR hn hdis ht hvm hB hk1
  exact kk u H1 locs1 hw k1 k2 k3 hS1
theorem mc_q {post : Option Nat → S → Prop} (hr : va_Run p l e R s m args below meth c H locs cells slots mc ms (F0 m pc ls st0) rest (va_Qq post (qb D (va_A wc H.size) w1 t1) (va_A wc H.size) a) (va_A wc H.size))
    (hP : va_P D vwCl wl H) (hD : va_D A wl) (hK : va_K D vwCl tys s) (hS : va_S A s.heap H locs) (hA : ∀ q, s.heap.size ≤ q → A q) (isC isR : List Nat) (hC : isC.map (fun i => wl[i]?) = wc.map some) (hR : isR.map (fun i => wl[i]?) = wr.map some) (hn : va_nd isR = true) (hdis : ∀ i ∈ isR, i ∉ isC)
    (kk : ∀ (r : Option Nat) (u : S) (H1 : Heap) (locs1 : List Loc), post r u → va_P D vwCl (wr ++ w1 u) H1 → va_D A (wr ++ w1 u) → va_K D vwCl (tys ++ t1 u) s → va_S A s.heap H1 locs1 → W p l e R s m args below meth c H1 locs1 (cells + mc) (slots + ms) Q (F0 m (pc + 3) ls (va_rf r :: rest))) : W p l e R s m args below meth c H locs cells slots Q (F0 m pc ls st0) := by
  have hFc := va_free (wc := wc) hD hS hA isC hC
  refine va_callq hr hS (fun q _ h => hFc q h) hFc (fun r u t H1 locs1 ht hvm hw hB hz1 hk1 hS1 => ?_)
  obtain ⟨k1, k2, k3⟩ := mc_join hP hD hK hS hA isC isR hC hR hn hdis ht hvm hB hk1
  exact kk r u H1 locs1 hw k1 k2 k3 hS1
/-- a call that may throw, out of a method that doesn't catch -/
theorem mx_v {post : S → Prop} {px px' : String → Prop} {Qc : Array Value → State → Outcome → State → Prop} {MC MS : Nat} (hr : vx_Run p l e R s m args below meth c H locs cells slots mc ms (F0 m pc ls st0) rest (va_Qv post (qb D (va_A wc H.size) w1 t1) (va_A wc H.size) a) (vx_X px xb (va_A wc H.size)) (va_A wc H.size))
    (hP : va_P D vwCl wl H) (hD : va_D A wl) (hK : va_K D vwCl tys s) (hS : va_S A s.heap H locs) (hA : ∀ q, s.heap.size ≤ q → A q) (isC isR : List Nat) (hC : isC.map (fun i => wl[i]?) = wc.map some) (hR : isR.map (fun i => wl[i]?) = wr.map some) (hn : va_nd isR = true) (hdis : ∀ i ∈ isR, i ∉ isC)
    (hout : ∀ x ∈ c.exceptionTable.toList, False) (hlocks : meth.locks = false) (hpx : ∀ E, px E → px' E) (hMC : cells + mc ≤ MC) (hMS : slots + ms ≤ MS)
    (kk : ∀ (u : S) (H1 : Heap) (locs1 : List Loc), post u → va_P D vwCl (wr ++ w1 u) H1 → va_D A (wr ++ w1 u) → va_K D vwCl (tys ++ t1 u) s → va_S A s.heap H1 locs1 → W p l e R s m args below meth c H1 locs1 (cells + mc) (slots + ms) (vx_MQ below Qc (vx_X px' xb A) args s MC MS A) (F0 m (pc + 3) ls rest)) : W p l e R s m args below meth c H locs cells slots (vx_MQ below Qc (vx_X px' xb A) args s MC MS A) (F0 m pc ls st0) := by
  have hFc := va_free (wc := wc) hD hS hA isC hC
  refine vx_callv hr hS (fun q _ h => hFc q h) hFc (fun q _ h => hFc q h) (fun E ce q9 u t H1 locs1 ht hvm hp hB hz1 hk1 hS1 h1 h2 h3 => ?_) (fun u t H1 locs1 ht hvm hw hB hz1 hk1 hS1 => ?_)
  · cases hB
    exact vx_out (fun x hx => (hout x hx).elim) hlocks h1 h2 h3 (fun t ht _ => ⟨E, hpx E hp, rfl, hS1.F ht⟩) hS1.2.2 hMC hMS
  · obtain ⟨k1, k2, k3⟩ := mc_join hP hD hK hS hA isC isR hC hR hn hdis ht hvm hB hk1
    exact kk u H1 locs1 hw k1 k2 k3 hS1
/-- a call that throws always, out of a method that doesn't catch -/
abbrev qN : Array Value → State → Outcome → State → Prop := fun _ _ _ _ => False
theorem mt_out {px px' : String → Prop} {Qc : Array Value → State → Outcome → State → Prop} {MC MS : Nat} (hr : vx_Run p l e R s m args below meth c H locs cells slots mc ms (F0 m pc ls st0) rest (qN a) (vx_X px xb (va_A wc H.size)) (va_A wc H.size))
    (hD : va_D A wl) (hS : va_S A s.heap H locs) (hA : ∀ q, s.heap.size ≤ q → A q) (isC : List Nat) (hC : isC.map (fun i => wl[i]?) = wc.map some)
    (hout : ∀ x ∈ c.exceptionTable.toList, False) (hlocks : meth.locks = false) (hpx : ∀ E, px E → px' E) (hMC : cells + mc ≤ MC) (hMS : slots + ms ≤ MS) :
    W p l e R s m args below meth c H locs cells slots (vx_MQ below Qc (vx_X px' xb A) args s MC MS A) (F0 m pc ls st0) := by
  have hFc := va_free (wc := wc) hD hS hA isC hC
  intro T hT X
  rcases hr T hT X with ⟨v, st₀, t, T', L, h0, X', hL, e1, e2, hq, st⟩ | ⟨q, st₀, t, T', L, E, ce, h0, X', hL, e1, e2, ⟨u, hp, hb, hF⟩, hce, hcv, hcl, st⟩
  · exact hq.elim
  · cases hb
    obtain ⟨k1, k2, k3⟩ := vx_keep h0 e1 hS (fun q _ h => hFc q h) hFc hL hF
    obtain ⟨t2, a1, b1⟩ := vx_out (rest := rest) (pc := pc) (ls := ls) (Qc := Qc) (XC := vx_X px' xb A) (free := A) (fun x hx => (hout x hx).elim) hlocks (by rw [e1]; exact hce) hcv hcl (fun t ht _ => ⟨E, hpx E hp, rfl, k3.F ht⟩) k3.2.2 hMC hMS T' rfl X'
    exact ⟨t2, st.trans a1, b1⟩
end MC
section MR
variable {p : Program} {l : Launch} {e : Env} {R : Room} {s : State} {m : MethodId} {args : Array Value} {below : List Frame} {meth : Method} {c : Code} {H : Heap} {locs : List Loc} {cells slots : Nat}
variable {cc : ByteArray} {pc : Nat} {ls : Array Slot} {A : Nat → Prop} {MC MS : Nat} {D : va_G} {S : Type} {w1 : S → va_W} {t1 : S → List (ClassId × FieldType)}
theorem mr_i {post : Int32 → S → Prop} {v : Int32} (hx : p.tables.exec = Jvm.exec) (hb : c.code = cc) (hr : meth.sig.returnType = some .int) (u : S) (hp : post v u) (hP : va_P D vwCl (w1 u) H) (hK : va_K D vwCl (t1 u) s) (hD : va_D A (w1 u)) (hS : va_S A s.heap H locs) (hc : cells ≤ MC) (hs : slots ≤ MS) (hlocks : meth.locks = false) (hdg : decode cc pc = .ok (.ireturn, 1)) :
    W p l e R s m args below meth c H locs cells slots (MQ below (va_Qi post (qb D A w1 t1) A) args s MC MS A) (F0 m pc ls [.int v]) :=
  W.widen hc hs (W.iret hx hb hr (fun t ht hW => ⟨⟨v, u, rfl, hp, by rw [ht]; exact hP, va_K.moved hW.alike hK, hD⟩, hS.F ht⟩) hS.2.2 hdg hlocks)
theorem mr_z {post : Int32 → S → Prop} {v : Int32} {ty : FieldType} (hnr : narrow ty (.int v) = .int v) (hx : p.tables.exec = Jvm.exec) (hb : c.code = cc) (hr : meth.sig.returnType = some ty) (u : S) (hp : post v u) (hP : va_P D vwCl (w1 u) H) (hK : va_K D vwCl (t1 u) s) (hD : va_D A (w1 u)) (hS : va_S A s.heap H locs) (hc : cells ≤ MC) (hs : slots ≤ MS) (hlocks : meth.locks = false) (hdg : decode cc pc = .ok (.ireturn, 1)) :
    W p l e R s m args below meth c H locs cells slots (MQ below (va_Qi post (qb D A w1 t1) A) args s MC MS A) (F0 m pc ls [.int v]) :=
  W.widen hc hs (W.zret hx hb hr hnr (fun t ht hW => ⟨⟨v, u, rfl, hp, by rw [ht]; exact hP, va_K.moved hW.alike hK, hD⟩, hS.F ht⟩) hS.2.2 hdg hlocks)
theorem mr_l {post : Int64 → S → Prop} {v : Int64} (hx : p.tables.exec = Jvm.exec) (hb : c.code = cc) (hr : meth.sig.returnType = some .long) (u : S) (hp : post v u) (hP : va_P D vwCl (w1 u) H) (hK : va_K D vwCl (t1 u) s) (hD : va_D A (w1 u)) (hS : va_S A s.heap H locs) (hc : cells ≤ MC) (hs : slots ≤ MS) (hlocks : meth.locks = false) (hdg : decode cc pc = .ok (.lreturn, 1)) :
    W p l e R s m args below meth c H locs cells slots (MQ below (va_Ql post (qb D A w1 t1) A) args s MC MS A) (F0 m pc ls [.long v]) :=
  W.widen hc hs (W.lret hx hb hr (fun t ht hW => ⟨⟨v, u, rfl, hp, by rw [ht]; exact hP, va_K.moved hW.alike hK, hD⟩, hS.F ht⟩) hS.2.2 hdg hlocks)
theorem mr_f {post : UInt32 → S → Prop} {v : UInt32} (hx : p.tables.exec = Jvm.exec) (hb : c.code = cc) (hr : meth.sig.returnType = some .float) (u : S) (hp : post v u) (hP : va_P D vwCl (w1 u) H) (hK : va_K D vwCl (t1 u) s) (hD : va_D A (w1 u)) (hS : va_S A s.heap H locs) (hc : cells ≤ MC) (hs : slots ≤ MS) (hlocks : meth.locks = false) (hdg : decode cc pc = .ok (.freturn, 1)) :
    W p l e R s m args below meth c H locs cells slots (MQ below (va_Qf post (qb D A w1 t1) A) args s MC MS A) (F0 m pc ls [.float v]) :=
  W.widen hc hs (W.fret hx hb hr (fun t ht hW => ⟨⟨v, u, rfl, hp, by rw [ht]; exact hP, va_K.moved hW.alike hK, hD⟩, hS.F ht⟩) hS.2.2 hdg hlocks)
theorem mr_d {post : UInt64 → S → Prop} {v : UInt64} (hx : p.tables.exec = Jvm.exec) (hb : c.code = cc) (hr : meth.sig.returnType = some .double) (u : S) (hp : post v u) (hP : va_P D vwCl (w1 u) H) (hK : va_K D vwCl (t1 u) s) (hD : va_D A (w1 u)) (hS : va_S A s.heap H locs) (hc : cells ≤ MC) (hs : slots ≤ MS) (hlocks : meth.locks = false) (hdg : decode cc pc = .ok (.dreturn, 1)) :
    W p l e R s m args below meth c H locs cells slots (MQ below (va_Qd post (qb D A w1 t1) A) args s MC MS A) (F0 m pc ls [.double v]) :=
  W.widen hc hs (W.dret hx hb hr (fun t ht hW => ⟨⟨v, u, rfl, hp, by rw [ht]; exact hP, va_K.moved hW.alike hK, hD⟩, hS.F ht⟩) hS.2.2 hdg hlocks)
theorem mr_v {post : S → Prop} (hx : p.tables.exec = Jvm.exec) (hb : c.code = cc) (hr : meth.sig.returnType = none) (u : S) (hp : post u) (hP : va_P D vwCl (w1 u) H) (hK : va_K D vwCl (t1 u) s) (hD : va_D A (w1 u)) (hS : va_S A s.heap H locs) (hc : cells ≤ MC) (hs : slots ≤ MS) (hlocks : meth.locks = false) (hdg : decode cc pc = .ok (.return_, 1)) :
    W p l e R s m args below meth c H locs cells slots (MQ below (va_Qv post (qb D A w1 t1) A) args s MC MS A) (F0 m pc ls []) :=
  W.widen hc hs (W.vret hx hb hr (fun t ht hW => ⟨⟨u, rfl, hp, by rw [ht]; exact hP, va_K.moved hW.alike hK, hD⟩, hS.F ht⟩) hS.2.2 hdg hlocks)
theorem mr_q {post : Option Nat → S → Prop} {v : Option Nat} {rt : FieldType} (hx : p.tables.exec = Jvm.exec) (hb : c.code = cc) (hr : meth.sig.returnType = some rt) (hrt : (∃ n, rt = .object n) ∨ ∃ t, rt = .array t) (u : S) (hp : post v u) (hP : va_P D vwCl (w1 u) H) (hK : va_K D vwCl (t1 u) s) (hD : va_D A (w1 u)) (hS : va_S A s.heap H locs) (hc : cells ≤ MC) (hs : slots ≤ MS) (hlocks : meth.locks = false) (hdg : decode cc pc = .ok (.areturn, 1)) :
    W p l e R s m args below meth c H locs cells slots (MQ below (va_Qq post (qb D A w1 t1) A) args s MC MS A) (F0 m pc ls [va_rf v]) :=
  W.widen hc hs (W.aret hx hb hr hrt (by cases v; exact Or.inl rfl; exact Or.inr ⟨_, rfl⟩) (fun t ht hW => ⟨⟨v, u, rfl, hp, by rw [ht]; exact hP, va_K.moved hW.alike hK, hD⟩, hS.F ht⟩) hS.2.2 hdg hlocks)
end MR
section OP
variable {y : MethodName} {ws ws' : List Cond} {rm : Room} {D : va_G} {av : List Value} {tys : List (ClassId × FieldType)} {wl : va_W} {sz mc ms maxL : Nat} {cc : ByteArray} {ret : Option FieldType}
/-- a method's body, whatever it may change called A -/
def op_B (l : Launch) (y : MethodName) (ws : List Cond) (rm : Room) (D : va_G) (av : List Value) (tys : List (ClassId × FieldType)) (wl : va_W) (sz : Nat) (cc : ByteArray) (maxL : Nat) (ret : Option FieldType) (hh : List ExceptionTableEntry → Prop) (Qf : (Nat → Prop) → List Frame → Array Value → State → State → Prop) : Prop :=
  ∀ (p : Program) (e : Env) (s : State) (m : MethodId) (args : Array Value) (below : List Frame) (meth : Method) (c : Code) (A : Nat → Prop) (ls : Array Slot), p.tables.exec = Jvm.exec → c.code = cc → meth.sig.returnType = ret → c.maxLocals = maxL → (∀ w ∈ ws, w.before args s = true) → s.vm.findClass y.cls = some m.cls → meth.locks = false → meth.name = y.name →
    hh c.exceptionTable.toList → (∀ q, s.heap.size ≤ q → A q) → va_D A wl → va_S A s.heap s.heap [] → va_P D vwCl wl s.heap → va_K D vwCl tys s → ex_E D A s s.heap → s.heap.size = sz → lv_has ls maxL (lv_args 0 av) → W p l e rm s m args below meth c s.heap [] 0 0 (Qf A below args s) (F0 m 0 ls [])
theorem op_go {l : Launch} {Qf : (Nat → Prop) → List Frame → Array Value → State → State → Prop} {hh : List ExceptionTableEntry → Prop} (hav : (lg_sl av).length ≤ maxL) (body : op_B l y ws rm D av tys wl sz cc maxL ret hh Qf)
    {p : Program} {e : Env} {s s₁ : State} {m : MethodId} {args : Array Value} {below : List Frame} {meth : Method} {c : Code} (B : BodyLoose p l y (headSpec ws rm) cc maxL ret e s m args below meth c s₁) (hml : c.maxLocals = maxL) (hv : pw D av tys wl sz args s) (htab : hh c.exceptionTable.toList) :
    W p l e (headSpec ws rm).room s m args below meth c s.heap [] 0 0 (Qf (va_A wl sz) below args s) (entryFrame m args maxL) := by
  obtain ⟨rfl, hsz, hP, hK, hD0, hE⟩ := hv
  subst hsz
  rw [lg_entry_eq]
  exact body p e s m _ below meth c _ _ B.exec B.bytes B.returns hml (atoms_spec (ws := ws) B.pre) (findClass_of_methodNamed B.named) B.notSynchronized (name_of_methodNamed B.named B.method).1 htab (fun q h => Or.inr h) hD0.self va_S.rf hP hK hE rfl (lv_entry av hav)
theorem op_M {l : Launch} {Qc : (Nat → Prop) → Array Value → State → Outcome → State → Prop} (hy : plainName y.cls = true) (hw : ws = Cond.code y cc maxL ret :: ws') (hav : (lg_sl av).length ≤ maxL)
    (body : op_B l y ws rm D av tys wl sz cc maxL ret (fun _ => True) (fun A below args s => MQ below (Qc A) args s mc ms A)) : Met l y ws rm (pw D av tys wl sz) (Qc (va_A wl sz)) mc ms (va_A wl sz) := by
  refine Met.ofW (cc := cc) (maxL := maxL) (ret := ret) hy hw ?_
  intro p e s m args below meth c s₁ B hml hv
  exact op_go hav body B hml hv trivial
theorem op_X {l : Launch} {Qc : (Nat → Prop) → Array Value → State → Outcome → State → Prop} {px : String → Prop} (hy : plainName y.cls = true) (hw : ws = Cond.code y cc maxL ret :: ws') (hav : (lg_sl av).length ≤ maxL)
    (body : op_B l y ws rm D av tys wl sz cc maxL ret (fun tb => ∀ x ∈ tb, False) (fun A below args s => vx_MQ below (Qc A) (vx_X px xb A) args s mc ms A)) : vx_Met l y ws rm (pw D av tys wl sz) (Qc (va_A wl sz)) (vx_X px xb (va_A wl sz)) mc ms (va_A wl sz) := by
  refine vx_ofW (cc := cc) (maxL := maxL) (ret := ret) hy hw ?_
  intro p e s m args below meth c s₁ B hml htab hv
  exact op_go (Qf := fun A below args s => vx_MQ below (Qc A) (vx_X px xb A) args s mc ms A) hav body B hml hv htab
theorem op_H {l : Launch} {Qc : (Nat → Prop) → Array Value → State → Outcome → State → Prop} {hh : List (Nat × Nat × Nat × Nat)} (hy : plainName y.cls = true) (hw : ws = Cond.codeWith y cc maxL ret hh :: ws') (hav : (lg_sl av).length ≤ maxL)
    (body : op_B l y ws rm D av tys wl sz cc maxL ret (fun tb => tb = tableOf hh) (fun A below args s => MQ below (Qc A) args s mc ms A)) : Met l y ws rm (pw D av tys wl sz) (Qc (va_A wl sz)) mc ms (va_A wl sz) := by
  refine va_MetW (cc := cc) (maxL := maxL) (ret := ret) hy hw ?_
  intro p e s m args below meth c s₁ B hml hv
  exact op_go (Qf := fun A below args s => MQ below (Qc A) args s mc ms A) hav body B hml hv (vx_table (x := y) B (atoms_spec (ws := ws) B.pre _ (by rw [hw]; exact List.mem_cons_self)))
end OP
/-- words: good ones, one by one -/
theorem gi_c {big l : List Cond} {w : Cond} (h : w ∈ big) (hg : goodWord w = true) (hl : GoodIn big l) : GoodIn big (w :: l) := fun w' h' => (List.mem_cons.mp h').elim (fun e => by rw [e]; exact ⟨h, good_of_word hg⟩) (hl w')
theorem gw_cons {l : List Cond} {w : Cond} (hg : goodWord w = true) (hl : ∀ w ∈ l, goodWord w = true) : ∀ w' ∈ w :: l, goodWord w' = true := List.forall_mem_cons.mpr ⟨hg, hl⟩
theorem gw_app {a b : List Cond} (ha : ∀ w ∈ a, goodWord w = true) (hb : ∀ w ∈ b, goodWord w = true) : ∀ w ∈ a ++ b, goodWord w = true := List.forall_mem_append.mpr ⟨ha, hb⟩
theorem gwf_X0 : ∀ w ∈ wsX00, goodWord w = true := by decide +kernel
theorem gwf_X1 : ∀ w ∈ wsX10, goodWord w = true := by decide +kernel
theorem gwf_X2 : ∀ w ∈ wsX20, goodWord w = true := by decide +kernel
theorem gwf_X3 : ∀ w ∈ wsX30, goodWord w = true := by decide +kernel
theorem gwf_X4 : ∀ w ∈ wsX40, goodWord w = true := by decide +kernel
theorem gwf_X5 : ∀ w ∈ wsX50, goodWord w = true := by decide +kernel
theorem gwf_X6 : ∀ w ∈ wsX60, goodWord w = true := by decide +kernel
theorem gwf_X7 : ∀ w ∈ wsX70, goodWord w = true := by decide +kernel
theorem gwf_X9 : ∀ w ∈ wsX90, goodWord w = true := by decide +kernel
theorem gwf_Jx4a65c : ∀ w ∈ wsJx4a65c0, goodWord w = true := by decide +kernel
theorem gwf_Jx35411 : ∀ w ∈ wsJx354110, goodWord w = true := by decide +kernel
