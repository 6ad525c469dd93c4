/-! the claim: what its words say at the start -/
def nwL : List Cond := flatC (Jvm.Cond.and given_1 narrow_1)
def liW (own : String) (k : Nat) (byt : List Int32) : List Cond :=
  [.exactly (.string own k) "java/lang/String", .eq (.field (.string own k) "java/lang/String" "coder" "B") (.int 0), .arrayOf (.field (.string own k) "java/lang/String" "value" "[B") .byte, .eq (.length (.field (.string own k) "java/lang/String" "value" "[B")) (.int (Int32.ofNat byt.length))] ++
    (List.range byt.length).map (fun j => .eq (.elem (.field (.string own k) "java/lang/String" "value" "[B") (.int (Int32.ofNat j))) (.int (byt.getD j 0)))
def liP : List (Nat × Nat) := [(89, 538), (105, 574), (119, 592), (136, 645), (147, 682), (170, 683), (181, 729), (203, 738), (228, 750), (243, 777), (272, 810), (280, 871), (287, 872), (294, 877), (302, 878), (311, 883), (318, 892), (323, 920), (330, 925), (339, 926), (347, 927), (355, 928), (363, 944), (369, 945), (376, 946), (382, 947), (388, 973), (393, 1013), (409, 1021), (441, 1032), (480, 1045), (511, 1046)]
def liOk (q : String × Nat × String × List Int32) (p : Nat × Nat) : Bool := decide (tables_1[p.2]? = some (.stringRef q.1 q.2.1 q.2.2.1)) && decide ((nwL.drop p.1).take (4 + q.2.2.2.length) = liW q.1 q.2.1 q.2.2.2) && decide (q.2.2.2.length < 2 ^ 31)
set_option maxRecDepth 20000 in
theorem li_ok : (zLi.zip liP).all (fun r => liOk r.1 r.2) = true := by decide +kernel
theorem li_all {i : Nat} {own tx : String} {k : Nat} {byt : List Int32} (h : zLi[i]? = some (own, k, tx, byt)) : Cond.stringRef own k tx ∈ lw_tbl ∧ (∀ c ∈ liW own k byt, c ∈ nwL) ∧ byt.length < 2 ^ 31 := by
  have hl : zLi.length = liP.length := by decide
  have hi : i < zLi.length := (List.getElem?_eq_some_iff.mp h).1
  have hp : liP[i]? = some (liP[i]'(by omega)) := List.getElem?_eq_getElem _
  have hz : (zLi.zip liP)[i]? = some ((own, k, tx, byt), liP[i]'(by omega)) := by rw [List.getElem?_zip_eq_some]; exact ⟨h, hp⟩
  have hb := List.all_eq_true.mp li_ok _ (List.mem_of_getElem? hz)
  simp only [liOk, Bool.and_eq_true, decide_eq_true_eq] at hb
  refine ⟨List.mem_append_right _ (List.mem_of_getElem? hb.1.1), fun c hc => ?_, hb.2⟩
  rw [← hb.1.2] at hc
  exact List.mem_of_mem_drop (List.mem_of_mem_take hc)
theorem li_of {args : Array Value} {s : State} {own tx : String} {k : Nat} {byt : List Int32} {A : Nat → Prop} (hr : (Cond.stringRef own k tx).before args s = true) (hw : ∀ c ∈ liW own k byt, c.before args s = true) (hN : byt.length < 2 ^ 31) (hA : ∀ a : Nat, a < s.heap.size → ¬ A a) :
    ∃ q : Nat × Nat, vk_R own k tx q.1 s ∧ va_O "java/lang/String" q.1 A s s.heap ∧ va_OF "java/lang/String" "coder" "B" (.int 0) q.1 A s s.heap ∧ va_OF "java/lang/String" "value" "[B" (.ref q.2) q.1 A s s.heap ∧ va_T .byte q.2 byt.length (fun j => .int (byt.getD j 0)) A s s.heap := by
  have m0 := hw _ (List.mem_append_left _ (List.mem_cons_self))
  have m1 := hw _ (List.mem_append_left _ (List.mem_cons_of_mem _ List.mem_cons_self))
  have m2 := hw _ (List.mem_append_left _ (List.mem_cons_of_mem _ (List.mem_cons_of_mem _ List.mem_cons_self)))
  have m3 := hw _ (List.mem_append_left _ (List.mem_cons_of_mem _ (List.mem_cons_of_mem _ (List.mem_cons_of_mem _ List.mem_cons_self))))
  obtain ⟨a, c, cA, kA, q1, q2, q3, q4, q5, q6, -⟩ := Cond.exactly_spec (args := args) (first := s) (o := none) (s := s) (idx := []) (t := .string own k) (cls := "java/lang/String") m0
  obtain ⟨t, ht, hT⟩ := va_Tof (f := fun j => .int (byt.getD j 0)) (A := A) hN m2 (va_eqt m3) (fun j hj => va_eqt (hw _ (List.mem_append_right _ (List.mem_map.mpr ⟨j, List.mem_range.mpr hj, rfl⟩)))) hA
  exact ⟨(a, t), vk_R.of hr q1, ⟨cA, q3, q5, by rw [q6]; exact q2, hA a (Array.getElem?_eq_some_iff.mp q3).1⟩, vk_OFof q1 (va_eqt m1) hA, vk_OFof q1 ht hA, hT⟩
/-- the tables' words, and the Statement's -/
def zHs (args : Array Value) (s : State) : Prop := (∀ w ∈ lw_tbl, w.before args s = true) ∧ ∀ w ∈ nwL, w.before args s = true
theorem zHs.at {args : Array Value} {s : State} (h : zHs args s) {c : Cond} (i : Nat) (hi : tables_1[i]? = some c) : c.before args s = true := h.1 _ (List.mem_append_right _ (List.mem_of_getElem? hi))
theorem zHs.nw {args : Array Value} {s : State} (h : zHs args s) {c : Cond} (i : Nat) (hi : nwL[i]? = some c) : c.before args s = true := h.2 _ (List.mem_of_getElem? hi)
theorem zHs.ks {args : Array Value} {s : State} {A : Nat → Prop} (h : zHs args s) (hA : ∀ a : Nat, a < s.heap.size → ¬ A a) : ∃ adK adV : Nat → Nat, zKS adK adV A s s.heap := by
  have h0 : ∀ i : Nat, ∃ q : Nat × Nat, ∀ (own : String) (k : Nat) (tx : String) (byt : List Int32), zLi[i]? = some (own, k, tx, byt) → vk_R own k tx q.1 s ∧ va_O "java/lang/String" q.1 A s s.heap ∧ va_OF "java/lang/String" "coder" "B" (.int 0) q.1 A s s.heap ∧ va_OF "java/lang/String" "value" "[B" (.ref q.2) q.1 A s s.heap ∧ va_T .byte q.2 byt.length (fun j => .int (byt.getD j 0)) A s s.heap := by
    intro i
    cases hz : zLi[i]? with
    | none => exact ⟨(0, 0), fun _ _ _ _ h => by cases h⟩
    | some r =>
      obtain ⟨own, k, tx, byt⟩ := r
      obtain ⟨a1, a2, a3⟩ := li_all hz
      obtain ⟨q, hq⟩ := li_of (h.1 _ a1) (fun c hc => h.2 _ (a2 c hc)) a3 hA
      exact ⟨q, fun _ _ _ _ e => by cases e; exact hq⟩
  obtain ⟨ad, had⟩ := Classical.axiomOfChoice h0
  refine ⟨fun i => (ad i).1, fun i => (ad i).2, fun i own k tx byt hi => had i own k tx byt hi, ?_, ?_⟩
  · exact va_Zof (h.at 824 (by decide +kernel)) (h.at 20 (by decide +kernel)) (va_eqi (h.nw 6 (by decide +kernel))) hA
  · exact va_Zqof (h.at 844 (by decide +kernel)) (h.at 22 (by decide +kernel)) (h.nw 7 (by decide +kernel)) hA
theorem zLS.of {args : Array Value} {s : State} {C n d : String} {A : Nat → Prop} (hl : (Cond.laysStatic C n d).before args s = true) (hr : (Cond.isRef (.static C n d)).before args s = true) (hA : ∀ a : Nat, a < s.heap.size → ¬ A a) : zLS C n d A s s.heap := by
  obtain ⟨c, k, i, f, a, cell, hc, hi, hst, ha, hcell, hs, hcls, hlt, hty⟩ := Cond.laysStatic_spec hl
  cases hv : (Term.static C n d).eval args s none [] s with
  | none => simp [Cond.before, Cond.holds, Cond.value, hv] at hr
  | some v =>
    obtain ⟨hst', a', cell', ha', hcell', -, hslot⟩ := Term.static_spec hi hv
    cases ha.symm.trans ha'
    cases hcell.symm.trans hcell'
    refine ⟨c, k, i, f, a, cell, v, hc, hi, hst, ha, hcell, hs, hcls, hlt, hty, hslot, ?_, hA a (Array.getElem?_eq_some_iff.mp hcell).1⟩
    cases v <;> simp_all [Cond.before, Cond.holds, Cond.value, Value.isRef]
theorem zHs.th {args : Array Value} {s : State} {A : Nat → Prop} (h : zHs args s) (hA : ∀ a : Nat, a < s.heap.size → ¬ A a) : zTh A s s.heap :=
  ⟨zLS.of (h.at 524 (by decide +kernel)) (h.nw 4 (by decide +kernel)) hA, zLS.of (h.at 526 (by decide +kernel)) (h.nw 5 (by decide +kernel)) hA⟩
theorem ar_p {args : Array Value} {s : State} {t : FieldType} (h : (Cond.arrayClass t).before args s = true) (hr : ∀ cA, s.vm.findClass ("[" ++ t.toString) = some cA → va_RA s cA t) : ∃ cA, ArrOfT s cA t ∧ va_RA s cA t := by
  obtain ⟨cA, kA, comp, h1, h2, h3⟩ := Cond.arrayClass_spec h
  exact ⟨cA, fun n z => ⟨fun k h => (by cases h), kA, h2, comp, h3⟩, hr cA h1⟩
theorem ar_o {args : Array Value} {s : State} {C : String} (h : (Cond.arrayOver (.object C)).before args s = true) : ∃ cA, ArrOfT s cA (.object C) ∧ va_RA s cA (.object C) := by
  obtain ⟨comp, c, k, h1, -, h3, h4, h5⟩ := Cond.arrayOver_spec h
  exact ⟨c, fun N z => ⟨(fun k h => by cases h), k, h3, comp, h4⟩, k, comp, h3, h4, h1, h5⟩
theorem zHs.kn {args : Array Value} {s : State} (h : zHs args s) : ∃ (D : va_G) (dA : Nat → ClassId), va_K D vwCl (zTys dA) s := by
  have hwz : ∀ w ∈ wz, w.before args s = true := fun w hw => h.1 w (wz_tbl w hw)
  obtain ⟨c0, i0, k0⟩ := u_known hwz u_K (h.at 28 (c := .instantiable "PinKindChecks" 11) (by decide +kernel))
  obtain ⟨c1, i1, k1⟩ := u_known hwz u_Sc (h.at 36 (c := .instantiable "PinKindChecks$Schematic" 9) (by decide +kernel))
  obtain ⟨c2, i2, k2⟩ := u_known hwz u_Tx (h.at 85 (c := .instantiable "PinKindChecks$RuleText" 4) (by decide +kernel))
  obtain ⟨c3, i3, k3⟩ := u_known hwz u_Rd (h.at 79 (c := .instantiable "PinKindChecks$RuleReader" 12) (by decide +kernel))
  obtain ⟨c4, i4, k4⟩ := u_known hwz u_Wv (h.at 144 (c := .instantiable "PinKindChecks$Waivers" 3) (by decide +kernel))
  obtain ⟨c5, i5, k5⟩ := u_known hwz u_Rm (h.at 161 (c := .instantiable "PinKindChecks$Remarks" 4) (by decide +kernel))
  obtain ⟨c6, i6, k6⟩ := u_known hwz u_Pa (h.at 597 (c := .instantiable "PinKindChecks$Part" 5) (by decide +kernel))
  obtain ⟨c7, i7, k7⟩ := u_known hwz u_Ne (h.at 650 (c := .instantiable "PinKindChecks$Net" 6) (by decide +kernel))
  obtain ⟨c8, i8, k8⟩ := u_known hwz u_Pi (h.at 688 (c := .instantiable "PinKindChecks$Pin" 5) (by decide +kernel))
  obtain ⟨c9, i9, k9⟩ := u_known hwz u_Tr (h.at 979 (c := .instantiable "PinKindChecks$ToldRule" 4) (by decide +kernel))
  obtain ⟨c10, i10, k10⟩ := u_known hwz u_Mo (h.at 1061 (c := .instantiable "PinKindChecksModel" 42) (by decide +kernel))
  obtain ⟨a0, b0⟩ := ar_p (t := .int) (h.at 77 (by decide +kernel)) (fun _ z => z)
  obtain ⟨a1, b1⟩ := ar_p (t := .long) (h.at 213 (by decide +kernel)) (fun _ z => z)
  obtain ⟨a2, b2⟩ := ar_p (t := .boolean) (h.at 159 (by decide +kernel)) (fun _ z => z)
  obtain ⟨a3, b3⟩ := ar_p (t := .char) (h.at 103 (by decide +kernel)) (fun _ z => z)
  obtain ⟨a4, b4⟩ := ar_o (C := "PinKindChecks$Part") (h.at 42 (by decide +kernel))
  obtain ⟨a5, b5⟩ := ar_o (C := "PinKindChecks$Net") (h.at 44 (by decide +kernel))
  obtain ⟨a6, b6⟩ := ar_o (C := "PinKindChecks$Pin") (h.at 46 (by decide +kernel))
  obtain ⟨a7, b7⟩ := ar_o (C := "PinKindChecks$Thing") (h.at 48 (by decide +kernel))
  obtain ⟨a8, b8⟩ := ar_o (C := "PinKindChecks$ToldRule") (h.at 142 (by decide +kernel))
  refine ⟨(fun k => match k with | 0 => c0 | 1 => c1 | 2 => c2 | 3 => c3 | 4 => c4 | 5 => c5 | 6 => c6 | 7 => c7 | 8 => c8 | 9 => c9 | _ => c10, fun k => match k with | 0 => i0 | 1 => i1 | 2 => i2 | 3 => i3 | 4 => i4 | 5 => i5 | 6 => i6 | 7 => i7 | 8 => i8 | 9 => i9 | _ => i10), fun k => match k with | 0 => a0 | 1 => a1 | 2 => a2 | 3 => a3 | 4 => a4 | 5 => a5 | 6 => a6 | 7 => a7 | _ => a8, fun k q hq => ?_, fun k q hq => ?_⟩
  · match k, hq with
    | 0, hq => cases hq; exact k0
    | 1, hq => cases hq; exact k1
    | 2, hq => cases hq; exact k2
    | 3, hq => cases hq; exact k3
    | 4, hq => cases hq; exact k4
    | 5, hq => cases hq; exact k5
    | 6, hq => cases hq; exact k6
    | 7, hq => cases hq; exact k7
    | 8, hq => cases hq; exact k8
    | 9, hq => cases hq; exact k9
    | 10, hq => cases hq; exact k10
    | k + 11, hq => simp [vwCl] at hq
  · match k, hq with
    | 0, hq => cases hq; exact b0
    | 1, hq => cases hq; exact b1
    | 2, hq => cases hq; exact b2
    | 3, hq => cases hq; exact b3
    | 4, hq => cases hq; exact b4
    | 5, hq => cases hq; exact b5
    | 6, hq => cases hq; exact b6
    | 7, hq => cases hq; exact b7
    | 8, hq => cases hq; exact b8
    | k + 9, hq => simp [zTys] at hq
set_option maxRecDepth 20000 in
theorem wnc_ok : ∀ q ∈ wnc, Cond.not (.castable q.1 q.2) ∈ nwL := by decide +kernel
theorem zHs.nw0 {args : Array Value} {s : State} (h : zHs args s) : zNw s := by
  refine ⟨fun v hv => ?_, fun q hq => va_Nc.of (h.2 _ (wnc_ok q hq))⟩
  have h1 := h.1 v (List.mem_filter.mp hv).1
  have h2 := (List.mem_filter.mp hv).2
  cases v <;> first | (rename_i ty; cases ty <;> first | exact va_AO.of h1 | (simp [isNw] at h2; done)) | exact va_Nw.of rfl h1 | (simp [isNw] at h2)
/-- what is known of the cells that were there before -/
def zF0 (adK adV : Nat → Nat) (b L : Nat) (xs : Nat → Int32) (A : Nat → Prop) (U : State) (H : Heap) : Prop := zKS adK adV A U H ∧ zTh A U H ∧ va_X b L xs U H ∧ b < H.size ∧ ¬ A b
theorem zF0.keep {adK adV : Nat → Nat} {b L : Nat} {xs : Nat → Int32} {A : Nat → Prop} {U U' : State} {H H' : Heap} (hW : U.WarmedH U'.vm) (hq : ∀ q : Nat, q < H.size → ¬ A q → H'[q]? = H[q]?) (h : zF0 adK adV b L xs A U H) : zF0 adK adV b L xs A U' H' := by
  obtain ⟨h1, h2, h3, h4, h5⟩ := h
  refine ⟨h1.keep hW hq, ⟨h2.1.keep hW hq, h2.2.keep hW hq⟩, (va_X.moved hW.alike h3).kept (hq b h4 h5), ?_, h5⟩
  have e := hq b h4 h5
  rw [Array.getElem?_eq_getElem h4] at e
  exact (Array.getElem?_eq_some_iff.mp e).1
