/-! Throwing: the words of a new exception, and the rule -/
def zUp : List String := ["java/lang/RuntimeException", "java/lang/Exception"]
def th4 : List Cond := [.laysStatic Bundle.tN "UNASSIGNED_STACK" Bundle.steD, .laysStatic Bundle.tN "SUPPRESSED_SENTINEL" Bundle.listD, .isRef (.static Bundle.tN "UNASSIGNED_STACK" Bundle.steD), .isRef (.static Bundle.tN "SUPPRESSED_SENTINEL" Bundle.listD)]
def zHas (a : Cond) : Prop := a ∈ wz ∨ (a ∈ wn ∧ a.onTables = true) ∨ a ∈ th4
def zHasB (a : Cond) (i : Nat) : Bool := decide (a ∈ th4) || (decide (tables_1[i]? = some a) && (goodWord a || (isNw a && a.onTables)))
theorem zHas_of {as : List Cond} (is : List Nat) (hl : as.length = is.length) (h : (as.zip is).all (fun q => zHasB q.1 q.2) = true) : ∀ a ∈ as, zHas a := by
  intro a ha
  obtain ⟨k, hk⟩ := List.mem_iff_getElem?.mp ha
  have hk1 : k < as.length := (List.getElem?_eq_some_iff.mp hk).1
  have hk2 : k < is.length := by omega
  have hz : (as.zip is)[k]? = some (a, is[k]) := by rw [List.getElem?_zip_eq_some]; exact ⟨hk, List.getElem?_eq_getElem hk2⟩
  have hb := List.all_eq_true.mp h _ (List.mem_of_getElem? hz)
  simp only [zHasB, Bool.or_eq_true, Bool.and_eq_true, decide_eq_true_eq] at hb
  rcases hb with hb | ⟨hb, hb2 | hb2⟩
  · exact Or.inr (Or.inr hb)
  · exact Or.inl (wz_at _ hb hb2)
  · exact Or.inr (Or.inl ⟨wn_at _ hb hb2.1, hb2.2⟩)
theorem oa_I : ∀ a ∈ Bundle.ownAtoms "PinKindChecks" 72 "java/lang/IndexOutOfBoundsException" zUp, zHas a := zHas_of [8, 519, 528, 532, 535, 537, 520, 521, 33, 34, 522, 527, 533, 553, 509, 554, 511, 555, 513, 523, 0, 525, 0, 515, 549, 550, 552, 515, 540, 541, 542, 543, 501, 543, 544, 545, 546, 503, 546, 547, 548, 549, 505, 539, 498, 499, 506, 507, 508, 510, 512, 514, 0, 0, 518, 517, 516] (by decide +kernel) (by decide +kernel)
theorem oc_I : Cond.classLink "PinKindChecks" 68 "java/lang/IndexOutOfBoundsException" ∈ wz := wz_at 497 (by decide +kernel) rfl
theorem oi_I : Cond.initialized "java/lang/IndexOutOfBoundsException" ∈ wz := wz_at 11 (by decide +kernel) rfl
theorem oa_A : ∀ a ∈ Bundle.ownAtoms "PinKindChecks" 79 "java/lang/IllegalArgumentException" zUp, zHas a := zHas_of [8, 519, 528, 532, 535, 537, 520, 521, 33, 34, 522, 527, 533, 553, 509, 554, 511, 555, 513, 523, 0, 525, 0, 515, 549, 550, 552, 515, 576, 577, 578, 543, 501, 543, 544, 545, 546, 503, 546, 547, 548, 549, 505, 575, 566, 567, 568, 530, 569, 570, 571, 572, 0, 0, 518, 517, 573] (by decide +kernel) (by decide +kernel)
theorem oc_A : Cond.classLink "PinKindChecks" 75 "java/lang/IllegalArgumentException" ∈ wz := wz_at 565 (by decide +kernel) rfl
theorem oi_A : Cond.initialized "java/lang/IllegalArgumentException" ∈ wz := wz_at 12 (by decide +kernel) rfl
theorem oa_S : ∀ a ∈ Bundle.ownAtoms "PinKindChecks" 149 "java/lang/IllegalStateException" zUp, zHas a := zHas_of [8, 519, 528, 532, 535, 537, 520, 521, 33, 34, 522, 527, 533, 553, 509, 554, 511, 555, 513, 523, 0, 525, 0, 515, 549, 550, 552, 515, 779, 780, 781, 543, 501, 543, 544, 545, 546, 503, 546, 547, 548, 549, 505, 778, 769, 770, 771, 531, 772, 773, 774, 775, 0, 0, 518, 517, 776] (by decide +kernel) (by decide +kernel)
theorem oc_S : Cond.classLink "PinKindChecks" 145 "java/lang/IllegalStateException" ∈ wz := wz_at 768 (by decide +kernel) rfl
theorem oi_S : Cond.initialized "java/lang/IllegalStateException" ∈ wz := wz_at 18 (by decide +kernel) rfl

/-- a static field of a reference, as the tables lay it, in a cell that was there before -/
def zLS (C n d : String) (A : Nat → Prop) (U : State) (H : Heap) : Prop := ∃ (c : ClassId) (k : Class) (i : Nat) (f : Field) (a : Nat) (cell : Cell) (v : Value), U.vm.findClass C = some c ∧ U.fieldFound? C n d = some (c, k, i, f) ∧ f.isStatic = true ∧ k.statics = some a ∧ H[a]? = some cell ∧ cell.vm.isStatics = true ∧ cell.cls = c ∧ f.slot < cell.slots.size ∧ k.staticTypes[f.slot]? = some f.type ∧ cell.slots[f.slot]? = some v ∧ v.isRef = true ∧ ¬ A a
theorem zLS.keep {C n d : String} {A : Nat → Prop} {U U' : State} {H H' : Heap} (hW : U.WarmedH U'.vm) (hq : ∀ q : Nat, q < H.size → ¬ A q → H'[q]? = H[q]?) (h : zLS C n d A U H) : zLS C n d A U' H' := by
  obtain ⟨c, k, i, f, a, cell, v, h1, h2, h3, h4, h5, h6, h7, h8, h9, h10, h11, h12⟩ := h
  obtain ⟨k', hi', he⟩ := State.fieldFound?_setVm hW.alike h2
  exact ⟨c, k', i, f, a, cell, v, by rw [hW.alike.findClass]; exact h1, hi', h3, by rw [he]; exact h4, by rw [hq a (Array.getElem?_eq_some_iff.mp h5).1 h12]; exact h5, h6, h7, h8, by rw [he]; exact h9, h10, h11, h12⟩
theorem zLS.lays {C n d : String} {A : Nat → Prop} {U : State} {args : Array Value} (h : zLS C n d A U U.heap) : (Cond.laysStatic C n d).before args U = true := by
  obtain ⟨c, k, i, f, a, cell, v, h1, h2, h3, h4, h5, h6, h7, h8, h9, h10, h11, h12⟩ := h
  exact Cond.laysStatic_of h1 h2 h3 h4 h5 h6 h7 h8 h9
theorem zLS.ref {C n d : String} {A : Nat → Prop} {U : State} {args : Array Value} (h : zLS C n d A U U.heap) : (Cond.isRef (.static C n d)).before args U = true := by
  obtain ⟨c, k, i, f, a, cell, v, h1, h2, h3, h4, h5, h6, h7, h8, h9, h10, h11, h12⟩ := h
  have he : (Term.static C n d).eval args U none [] U = some v := by
    simp [Term.eval, State.fieldNamed?, h2, h3, h4, h5, h6, h10]
  cases v <;> simp_all [Cond.before, Cond.holds, Cond.value, Value.isRef]
def zTh (A : Nat → Prop) (U : State) (H : Heap) : Prop := zLS Bundle.tN "UNASSIGNED_STACK" Bundle.steD A U H ∧ zLS Bundle.tN "SUPPRESSED_SENTINEL" Bundle.listD A U H
def zThr (w : zC) : Prop := w.1.stackTraces = false ∧ ∀ U H, w.2.2.2.2 U H → zTh w.2.2.1 U H
theorem zTh.all {A : Nat → Prop} {U : State} {args : Array Value} (h : zTh A U U.heap) : ∀ a ∈ th4, a.before args U = true := by
  intro a ha
  simp only [th4, List.mem_cons, List.not_mem_nil, or_false] at ha
  rcases ha with rfl | rfl | rfl | rfl
  · exact h.1.lays
  · exact h.2.lays
  · exact h.1.ref
  · exact h.2.ref
