/-! the word at hand: what class and reference see in it -/
def wdC (C M : ST) : Prop := sN C 10 = sN M 27 ∧ sN C 11 = sN M 28 ∧ sN C 10 < sN C 11 ∧ sN C 11 ≤ 160 ∧ ∀ j, sN C 10 ≤ j → j < sN C 11 → sI M 716 j = sI C 16 j ∧ ltr (sI C 16 j) ∧ ¬ sI C 16 j = 32
abbrev cw (C : ST) (byt : List Int32) : Prop := wdIs (sI C 16) (sN C 10) (sN C 11) byt
def okB (byt : List Int32) : Bool := byt.all fun x => decide (0 < x) && decide (x < 127)
theorem wd_sp {C M : ST} (h : wdC C M) (byt : List Int32) (v : Int64) (hb : okB byt = true) (h8 : 0 < byt.length ∧ byt.length ≤ 8) (hv : v = spF (fun j => byt.getD j 0) byt.length 0 0) : spR M = v ↔ cw C byt := by
  obtain ⟨h1, h2, h3, h4, h5⟩ := h
  have key := sp_iff (f := sI M 716) (s := sN M 27) (e := sN M 28) (byt := byt) (by omega) (fun j a b => by rw [(h5 j (by omega) (by omega)).1]; exact (h5 j (by omega) (by omega)).2.1) (fun j hj => by
    unfold okB at hb
    rw [List.all_eq_true] at hb
    have hm := hb (byt.getD j 0) (by
      rw [List.getD_eq_getElem?_getD, List.getElem?_eq_getElem hj]
      exact List.getElem_mem hj)
    simp only [Bool.and_eq_true, decide_eq_true_eq] at hm
    obtain ⟨d, hd, ed⟩ := nI_of (x := byt.getD j 0) (fun z => Int32.lt_irrefl (Int32.lt_trans z hm.1))
    rw [ed] at hm
    rw [show (0 : Int32) = nI 0 from rfl, nI_ltI (by omega) hd, show (127 : Int32) = nI 127 from rfl, nI_ltI hd (by omega)] at hm
    exact ⟨d, by omega, by omega, ed⟩) h8.2 h8.1 (by omega) v hv
  rw [show spR M = if nI (sN M 28 - sN M 27) ≤ 8 then spF (sI M 716) (sN M 28 - sN M 27) (sN M 27) 0 else 0 from rfl, key]
  constructor
  · intro g
    exact ⟨by rw [g.1, h1, h2], fun j hj => by rw [g.2 j hj, ← h1, (h5 (sN C 10 + j) (by omega) (by have := g.1; omega)).1]⟩
  · intro g
    exact ⟨by rw [g.1, h1, h2], fun j hj => by rw [g.2 j hj, ← h1, (h5 (sN C 10 + j) (by omega) (by have := g.1; omega)).1]⟩
theorem cw_ex {C : ST} {a b : List Int32} (ha : cw C a) (hb : cw C b) : a = b := by
  apply List.ext_getElem?
  intro j
  by_cases hj : j < a.length
  · have hj' : j < b.length := by rw [hb.1, ← ha.1]; exact hj
    have e1 := ha.2 j hj
    have e2 := hb.2 j hj'
    rw [List.getD_eq_getElem?_getD, List.getElem?_eq_getElem hj] at e1
    rw [List.getD_eq_getElem?_getD, List.getElem?_eq_getElem hj'] at e2
    rw [List.getElem?_eq_getElem hj, List.getElem?_eq_getElem hj']
    simp only [Option.getD_some] at e1 e2
    rw [e1, e2]
  · have hj' : ¬ j < b.length := by rw [hb.1, ← ha.1]; exact hj
    rw [List.getElem?_eq_none (by omega), List.getElem?_eq_none (by omega)]
theorem cw_no {C : ST} {a b : List Int32} (ha : cw C a) (h : ¬ a = b) : ¬ cw C b := fun hb => h (cw_ex ha hb)
theorem wd_len {C M : ST} (h : wdC C M) : wl C = nI (sN M 28 - sN M 27) ∧ sN C 11 - sN C 10 = sN M 28 - sN M 27 ∧ sN M 28 - sN M 27 ≤ 160 := by
  obtain ⟨h1, h2, h3, h4, h5⟩ := h
  exact ⟨by unfold wl; rw [h1, h2], by omega, by omega⟩
theorem wd_lt {C M : ST} (h : wdC C M) {i : Nat} (hi : i < sN C 11 - sN C 10) : ltW C i = sI M 716 (sN M 27 + i) := by
  obtain ⟨h1, h2, h3, h4, h5⟩ := h
  unfold ltW
  rw [if_pos (by omega), ← h1, (h5 (sN C 10 + i) (by omega) (by omega)).1]
theorem cw1 {C : ST} (x : Int32) : cw C [x] ↔ (sN C 11 - sN C 10 = 1 ∧ sI C 16 (sN C 10) = x) := by
  constructor
  · intro g
    have g1 := g.1
    have g2 := g.2 0 (by simp)
    simp only [List.length_cons, List.length_nil, Nat.add_zero, List.getD_cons_zero] at g1 g2
    exact ⟨by omega, g2.symm⟩
  · intro g
    refine ⟨by simp; omega, fun j hj => ?_⟩
    have : j = 0 := by simp at hj; exact hj
    subst this
    rw [Nat.add_zero, g.2]
    rfl
/-- digits -/
abbrev dgP (x : Int32) : Prop := ¬ x < 48 ∧ ¬ 58 ≤ x
theorem dgt_of {x : Int32} (h : dgP x) : dgt x = x - 48 ∧ ∃ d, d < 10 ∧ x - 48 = nI d := by
  obtain ⟨h1, h2⟩ := h
  have h57 : ¬ 57 < x := fun z => h2 (by
    rw [Int32.lt_iff_toInt_lt, show (57 : Int32).toInt = 57 by decide] at z
    rw [Int32.le_iff_toInt_le, show (58 : Int32).toInt = 58 by decide]
    omega)
  refine ⟨by unfold dgt; rw [if_neg h1, if_neg h57], ?_⟩
  obtain ⟨d, hd, rfl⟩ := nI_of (x := x) (fun z => h1 (Int32.lt_trans z (by decide)))
  rw [show (48 : Int32) = nI 48 from rfl, nI_ltI hd (by omega)] at h1
  rw [show (57 : Int32) = nI 57 from rfl, nI_ltI (by omega) hd] at h57
  exact ⟨d - 48, by omega, by rw [show (48 : Int32) = nI 48 from rfl, nI_sub (by omega)]⟩
theorem dgt_no {x : Int32} (h : ¬ dgP x) : dgt x = -1 := by
  unfold dgt
  by_cases h1 : x < 48
  · rw [if_pos h1]
  · rw [if_neg h1, if_pos]
    have h2 : 58 ≤ x := Decidable.of_not_not fun z => h ⟨h1, z⟩
    rw [Int32.le_iff_toInt_le, show (58 : Int32).toInt = 58 by decide] at h2
    rw [Int32.lt_iff_toInt_lt, show (57 : Int32).toInt = 57 by decide]
    omega
theorem dgt_m1 {x : Int32} : dgt x = -1 ↔ ¬ dgP x := by
  refine ⟨fun h g => ?_, dgt_no⟩
  obtain ⟨h1, d, hd, h2⟩ := dgt_of g
  rw [h1, h2] at h
  have := nI_pos (n := d) (by omega)
  rw [h] at this
  exact this (by decide)
theorem num_step (v x : Int32) : v * 10 + (x - 48) = 10 * v + x - 48 := by
  rw [Int32.mul_comm v 10, Int32.sub_eq_add_neg, Int32.sub_eq_add_neg, Int32.add_assoc]
theorem numF_ok {C M : ST} (h : wdC C M) : ∀ (n i : Nat) (v : Int32), i + n = sN C 11 - sN C 10 → (∀ j, j < sN M 28 → sN M 27 + i ≤ j → dgP (sI M 716 j)) → numF C n i v = some (vaF (sI M 716) n (sN M 27 + i) v)
  | 0, i, v, _, _ => rfl
  | n + 1, i, v, hn, hd => by
    have e := wd_len h
    unfold numF vaF
    rw [wd_lt h (by omega)]
    have hg := hd (sN M 27 + i) (by omega) (by omega)
    rw [if_neg (fun z => dgt_m1.mp z hg), (dgt_of hg).1, num_step]
    exact numF_ok h n (i + 1) _ (by omega) (fun j a b => hd j a (by omega))
theorem numF_no {C M : ST} (h : wdC C M) : ∀ (n i : Nat) (v : Int32), i + n = sN C 11 - sN C 10 → (∃ j, j < sN M 28 ∧ sN M 27 + i ≤ j ∧ ¬ dgP (sI M 716 j)) → numF C n i v = none
  | 0, i, v, hn, ⟨j, a, b, c⟩ => by
    have e := wd_len h
    omega
  | n + 1, i, v, hn, ⟨j, a, b, c⟩ => by
    have e := wd_len h
    unfold numF
    rw [wd_lt h (by omega)]
    by_cases hg : dgP (sI M 716 (sN M 27 + i))
    · rw [if_neg (fun z => dgt_m1.mp z hg)]
      refine numF_no h n (i + 1) _ (by omega) ⟨j, a, ?_, c⟩
      by_cases z : sN M 27 + i = j
      · rw [z] at hg; exact absurd hg c
      · omega
    · rw [if_pos (dgt_no hg)]
theorem nu_sim {C M : ST} (h : wdC C M) : (nuR M (sN M 28) → tNum C = some (trm C 13 (vaR M))) ∧ (¬ nuR M (sN M 28) → tNum C = none) := by
  obtain ⟨e1, e2, e3⟩ := wd_len h
  have h10 : wl C ≤ 9 ↔ ¬ 10 ≤ nI (sN M 28 - sN M 27) := by
    rw [e1, show (9 : Int32) = nI 9 from rfl, show (10 : Int32) = nI 10 from rfl, nI_leI (by omega) (by omega), nI_leI (by omega) (by omega)]
    omega
  constructor
  · intro g
    unfold tNum
    rw [if_pos (h10.mpr g.1), numF_ok h _ 0 0 (by omega) (fun j a b => g.2 j a (by omega))]
    show some (trm C 13 (vaF (sI M 716) (sN C 11 - sN C 10) (sN M 27) 0)) = _
    rw [e2]
    rfl
  · intro g
    unfold tNum
    by_cases hw : wl C ≤ 9
    · rw [if_pos hw, numF_no h _ 0 0 (by omega) ?_]
      · rfl
      · have g' := fun z => g ⟨h10.mp hw, z⟩
        refine Decidable.byContradiction fun hc => g' fun j a b => ?_
        exact Decidable.byContradiction fun hd => hc ⟨j, a, by omega, hd⟩
    · rw [if_neg hw]
abbrev fdP (M : ST) (s : Int32) : Prop := nI (sN M 28 - sN M 27) = 2 ∧ sI M 716 (sN M 27) = 102 ∧ ¬ sI M 716 (sN M 27 + 1) ≤ 47 ∧ ¬ 56 ≤ sI M 716 (sN M 27 + 1) ∧ ¬ s = 1
theorem fd_sim {C M : ST} (h : wdC C M) : (fdP M (sI C 3 10) → tFld C = some (trm C 14 (sI M 716 (sN M 27 + 1) - 48)) ∧ (¬ sI M 716 (sN M 27 + 1) - 48 < 0 ∧ ¬ 8 ≤ sI M 716 (sN M 27 + 1) - 48)) ∧ (¬ fdP M (sI C 3 10) → tFld C = none) := by
  obtain ⟨e1, e2, e3⟩ := wd_len h
  constructor
  · rintro ⟨g1, g2, g3, g4, g5⟩
    have g1' : sN M 28 - sN M 27 = 2 := by
      rw [show (2 : Int32) = nI 2 from rfl, nI_eq (by omega) (by omega)] at g1
      exact g1
    have hx : dgP (sI M 716 (sN M 27 + 1)) := ⟨fun z => g3 (by
      rw [Int32.lt_iff_toInt_lt, show (48 : Int32).toInt = 48 by decide] at z
      rw [Int32.le_iff_toInt_le, show (47 : Int32).toInt = 47 by decide]
      omega), fun z => g4 (Int32.le_trans (by decide) z)⟩
    obtain ⟨d1, d, hd, d2⟩ := dgt_of hx
    have hd8 : d < 8 := by
      have : sI M 716 (sN M 27 + 1) = nI (d + 48) := by
        have := congrArg (fun z => z + 48) d2
        simp only [Int32.sub_add_cancel] at this
        rw [this, show (48 : Int32) = nI 48 from rfl, nI_add]
      rw [this, show (56 : Int32) = nI 56 from rfl, nI_leI (by omega) (by omega)] at g4
      omega
    have r0 : ¬ sI M 716 (sN M 27 + 1) - 48 < 0 := by rw [d2]; exact nI_pos (by omega)
    have r8 : ¬ 8 ≤ sI M 716 (sN M 27 + 1) - 48 := by
      rw [d2, show (8 : Int32) = nI 8 from rfl]
      exact nI_ge hd8 (by omega)
    refine ⟨?_, r0, r8⟩
    unfold tFld
    rw [wd_lt h (i := 0) (by omega), wd_lt h (i := 1) (by omega), d1, Nat.add_zero]
    exact if_pos ⟨g5, by rw [e1]; exact g1, g2, r0, r8⟩
  · intro g
    unfold tFld
    refine if_neg ?_
    rintro ⟨g1, g2, g3, g4, g5⟩
    rw [e1] at g2
    have g2' : sN M 28 - sN M 27 = 2 := by
      rw [show (2 : Int32) = nI 2 from rfl, nI_eq (by omega) (by omega)] at g2
      exact g2
    rw [wd_lt h (i := 0) (by omega), Nat.add_zero] at g3
    rw [wd_lt h (i := 1) (by omega)] at g4 g5
    have hx : dgP (sI M 716 (sN M 27 + 1)) := Decidable.byContradiction fun z => g4 (by rw [dgt_no z]; decide)
    obtain ⟨d1, d, hd, d2⟩ := dgt_of hx
    rw [d1, d2, show (8 : Int32) = nI 8 from rfl, nI_leI (by omega) (by omega)] at g5
    have e : sI M 716 (sN M 27 + 1) = nI (d + 48) := by
      have := congrArg (fun z => z + 48) d2
      simp only [Int32.sub_add_cancel] at this
      rw [this, show (48 : Int32) = nI 48 from rfl, nI_add]
    refine g ⟨g2, g3, ?_, ?_, g1⟩
    · rw [e, show (47 : Int32) = nI 47 from rfl]
      exact nI_ge (by omega) (by omega)
    · rw [e, show (56 : Int32) = nI 56 from rfl]
      exact nI_ge (by omega) (by omega)
