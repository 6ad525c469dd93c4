/-! takes: class and reference -/
def tkR (C M : ST) (r : Nat) (o : Option ST) (p : ST × Bool) : Prop := (o = none ∧ p.2 = false ∧ sN p.1 29 = sN M 29) ∨ (∃ C2, o = some C2 ∧ p.2 = true ∧ tkS C M C2 p.1 r)
def tkA (C M : ST) (o : Option ST) (p : ST × Bool) : Prop := o = some (w3 C 7 4) ∧ ¬ sI C 3 10 = 2 ∧ (∃ b t, tyT C t ∧ stW C M b t) ∧ p = if (mDn M).2 = true then (w6 (mDn M).1 40 (if 2 ≤ sI (mDn M).1 600 40 then 4 else 2), true) else ((mDn M).1, false)
theorem tr_sim {C M : ST} {r : Nat} (hw : wdC C M) (hc : cdR C M r 1) (h15 : sN C 15 = sN M 32 ∧ sN C 15 ≤ 8) (hsb : sbOK C M r) (ha : ∃ b t, tyT C t ∧ stW C M b t) : tkR C M r (tTrm C) (if (mTm M (sI C 3 10)).2 = true then (w6 (mTm M (sI C 3 10)).1 40 (if 2 ≤ sI (mTm M (sI C 3 10)).1 600 40 then 4 else 2), true) else ((mTm M (sI C 3 10)).1, false)) ∨ tkA C M (tTrm C) (if (mTm M (sI C 3 10)).2 = true then (w6 (mTm M (sI C 3 10)).1 40 (if 2 ≤ sI (mTm M (sI C 3 10)).1 600 40 then 4 else 2), true) else ((mTm M (sI C 3 10)).1, false)) := by
  rcases tm_sim hw hsb.2.2.1 with ⟨x, y, e1, e2, e3⟩ | ⟨e1, e2⟩ | ⟨e1, e2, e3⟩
  · obtain ⟨b, t, hy, hw'⟩ := ha
    rw [e1, e2]
    exact Or.inl (Or.inr ⟨_, rfl, rfl, put_tk hc h15 hy hw' e3 rfl⟩)
  · rw [e1, e2]
    exact Or.inl (Or.inl ⟨rfl, rfl, rfl⟩)
  · rw [e1, e2]
    exact Or.inr ⟨rfl, e3, ha, rfl⟩
theorem tTrm_opn {C M : ST} (hw : wdC C M) (h : cw C [40]) : tTrm C = none := by
  obtain ⟨g1, g2⟩ := (cw1 40).mp h
  have e := wd_len hw
  have a1 : ¬ nuR M (sN M 28) := fun z => by
    have := (z.2 (sN M 27) (by omega) (Nat.le_refl _)).1
    rw [(hw.2.2.2.2 (sN M 27) (by have := hw.1; omega) (by have := hw.1; omega)).1, ← hw.1, g2] at this
    exact this (by decide)
  have a2 : ¬ fdP M (sI C 3 10) := fun z => by
    have := z.1
    rw [show (2 : Int32) = nI 2 from rfl, nI_eq (by omega) (by omega)] at this
    omega
  unfold tTrm
  rw [(nu_sim hw).2 a1, (fd_sim hw).2 a2, if_neg (fun z => cw_no h (b := [97, 110, 121]) (by decide) z.2)]
  have ep : plT C = -1 := by
    unfold plT
    rw [if_neg (cw_no h (by decide)), if_neg (fun z => cw_no h (b := [112, 105, 110, 115]) (by decide) z.2), if_neg (fun z => cw_no h (b := [107, 105, 110, 100]) (by decide) z.2), if_neg (fun z => cw_no h (b := [110, 97, 109, 101]) (by decide) z.2)]
  rw [ep, if_pos rfl]
  rfl
theorem or_n {α : Type} {a : Option α} : (none : Option α).or a = a := rfl
theorem or_s {α : Type} {x : α} {a : Option α} : (some x).or a = some x := rfl
theorem sg_sim {C M : ST} {r : Nat} (hw : wdC C M) (hj : jI M r 1) (hc : cdR C M r 1) (h15 : sN C 15 = sN M 32 ∧ sN C 15 ≤ 8) (ha : ∃ t, tyT C t ∧ ((sI C 3 7 = 5 ∧ ∃ b, stA C M b t) ∨ (sI C 3 7 = 6 ∧ sI M 600 40 = 5 ∧ ∃ u, t = true :: u ∧ cndF (sI C 19) (sN C 13) u))) : tkR C M r ((tOp C).or (tCls C)) (mSg M) := by
  have b32 : sN M 32 ≤ 8 := by omega
  have i0 : nI (sN M 32) = 0 ↔ sN M 32 = 0 := by rw [show (0 : Int32) = nI 0 from rfl, nI_eq (by omega) (by omega)]
  have k41 := wd_sp hw [41] 41 (by decide) (by decide) (by decide +kernel)
  have cA : ∀ d, d < 13 → 10 ≤ d → ¬ cm (nI d) < 10 ∧ ¬ 12 < cm (nI d) := by decide +kernel
  have cA1 : ∀ d, d < 13 → 10 ≤ d → ¬ (cm (nI d) = 20 ∨ cm (nI d) = 21) := by decide +kernel
  have cS : ∀ d, d < 10 → 4 ≤ d → 12 < cm (nI d) ∧ ¬ cm (nI d) < 13 ∧ cm (nI d) ≤ 18 ∧ ¬ (cm (nI d) = 20 ∨ cm (nI d) = 21) := by decide +kernel
  have oA : ∀ d, d < 13 → 10 ≤ d → ¬ (nI d = 1 ∨ nI d = 2) ∧ 9 < nI d ∧ ¬ nI d < 10 ∧ ¬ 12 < nI d := by decide +kernel
  have oS : ∀ d, d < 10 → 4 ≤ d → ¬ (nI d = 1 ∨ nI d = 2) ∧ ¬ nI d < 4 ∧ ¬ 9 < nI d ∧ nI d < 10 := by decide +kernel
  obtain ⟨t, hy, ha⟩ := ha
  have hbhc : bhc C ↔ ((∃ t, tyT C t ∧ stA C M true t) ∨ ∃ u, tyT C (true :: u) ∧ cndF (sI C 19) (sN C 13) u) ∧ (sI M 600 40 = 4 ∨ sI M 600 40 = 5) := by
    constructor
    · intro hb
      rcases ha with ⟨h7, b, hb'⟩ | ⟨h7, h6, u, rfl, hu⟩
      · cases b with
        | true => exact ⟨Or.inl ⟨t, hy, hb'⟩, Or.inl hb'.2.1⟩
        | false =>
          rcases hb with hb | ⟨-, hb⟩
          · rw [h7] at hb; exact absurd hb (by decide)
          · exact absurd hb'.1 hb
      · exact ⟨Or.inr ⟨u, hy, hu⟩, Or.inr h6⟩
    · rintro ⟨-, h4⟩
      rcases ha with ⟨h7, b, hb'⟩ | ⟨h7, h6, u, rfl, hu⟩
      · cases b with
        | true =>
          refine Or.inr ⟨h7, ?_⟩
          rw [hb'.1]; decide
        | false =>
          rw [hb'.2.1] at h4
          exact absurd h4 (by decide)
      · exact Or.inl h7
  have hst2 : sI M 600 40 = 2 ∨ sI M 600 40 = 4 ∨ sI M 600 40 = 5 := by
    rcases ha with ⟨h7, b, hb'⟩ | ⟨h7, h6, -⟩
    · cases b with
      | true => exact Or.inr (Or.inl hb'.2.1)
      | false => exact Or.inl hb'.2.1
    · exact Or.inr (Or.inr h6)
  have h67 : sI C 3 7 = 5 ∨ sI C 3 7 = 6 := by
    rcases ha with ⟨h7, -⟩ | ⟨h7, -⟩
    · exact Or.inl h7
    · exact Or.inr h7
  unfold mSg tOp
  rcases op_sim hw with ⟨e1, e2⟩ | ⟨n41, d, d0, d13, d3, e1, e2⟩
  · rw [e1, e2, if_neg (fun z => z.2.1 (by decide))]
    have eo : opS C (-1) = none := by
      unfold opS
      rw [if_neg (fun z => by rcases z.1 with q | q <;> exact absurd q (by decide)), if_neg (fun z => z.1.1 (by decide)), if_neg (fun z => z.1.1 (by decide))]
    rw [eo, Option.map_none, or_n]
    unfold tCls
    by_cases s2 : sI M 600 40 = 2
    · rw [if_pos s2, if_pos (Or.inl (by decide)), if_neg (fun z => by
        have := (hbhc.mp z.2.2).2
        rw [s2] at this
        exact absurd this (by decide))]
      exact Or.inl ⟨rfl, rfl, rfl⟩
    · rw [if_neg s2, if_neg (c := ((-1 : Int32) = 20 ∨ (-1 : Int32) = 21)) (by decide)]
      have s45 : sI M 600 40 = 4 ∨ sI M 600 40 = 5 := by
        rcases hst2 with q | q
        · exact absurd q s2
        · exact q
      have hin : ((∃ t, tyT C t ∧ stA C M true t) ∨ ∃ u, tyT C (true :: u) ∧ cndF (sI C 19) (sN C 13) u) := by
        rcases ha with ⟨h7, b, hb'⟩ | ⟨h7, h6, u, rfl, hu⟩
        · cases b with
          | true => exact Or.inl ⟨t, hy, hb'⟩
          | false => exact absurd hb'.2.1 s2
        · exact Or.inr ⟨u, hy, hu⟩
      by_cases hcl : spR M = 41 ∧ ¬ nI (sN M 32) = 0
      · have h0 : 0 < sN C 15 := by
          rw [h15.1]
          exact Nat.pos_of_ne_zero fun z => hcl.2 (i0.mpr z)
        rw [if_pos hcl, if_pos ⟨k41.mp hcl.1, h0, hbhc.mpr ⟨hin, s45⟩⟩]
        exact Or.inr ⟨_, rfl, rfl, cls_tk hj hc h15 h0 hin⟩
      · rw [if_neg hcl, if_neg (fun z => hcl ⟨k41.mpr z.1, fun q => by
          have := z.2.1
          rw [h15.1, i0.mp q] at this
          exact absurd this (by decide)⟩)]
        exact Or.inl ⟨rfl, rfl, rfl⟩
  · rw [e1, e2]
    have eno : ∀ q : ST × Bool, (if spR M = 41 ∧ ¬ nI (sN M 32) = 0 then q else (M, false)) = (M, false) := fun q => if_neg (fun z => n41 (k41.mp z.1))
    have tcn : tCls C = none := by
      unfold tCls
      exact if_neg (fun z => n41 z.1)
    rw [tcn]
    by_cases dA : 10 ≤ d
    · obtain ⟨o1, o2, o3, o4⟩ := oA d d13 dA
      obtain ⟨c1, c2⟩ := cA d d13 dA
      have eo : opS C (nI d) = if sI C 3 7 = 5 then some (w3 C 7 3) else none := by
        unfold opS
        rw [if_neg (fun z => o1 z.1), if_neg (fun z => z.1.2 o2)]
        by_cases h7 : sI C 3 7 = 5
        · rw [if_pos ⟨⟨o3, o4⟩, h7⟩, if_pos h7]
        · rw [if_neg (fun z => h7 z.2), if_neg h7]
      rw [eo]
      rcases ha with ⟨h7, b, hb'⟩ | ⟨h7, h6, -⟩
      · rw [if_pos h7, if_pos ⟨by rw [hb'.2.1]; cases b <;> decide, c1, c2⟩]
        refine Or.inr ⟨_, rfl, rfl, ar_tk hc h15 hy hb' ⟨dA, by omega⟩ ?_⟩
        have h5 := hc.2.2.2.2.1
        have e600 : sI (mRw M (cm (nI d))) 600 = sI M 600 := by
          unfold mRw
          rw [mwai_st.2.1 600 (by decide), (mrel_st (mrk_pos d d13 d0) rfl).1.2.2.1]
        rw [e600, hb'.2.1]
        cases b <;> decide
      · rw [if_neg (by rw [h7]; decide), if_neg (fun z => z.1 h6), if_neg (by rw [h6]; decide), if_neg (cA1 d d13 dA), eno]
        exact Or.inl ⟨rfl, rfl, rfl⟩
    · by_cases dS : 4 ≤ d
      · obtain ⟨o1, o2, o3, o4⟩ := oS d (by omega) dS
        obtain ⟨c1, c2, c3, c4⟩ := cS d (by omega) dS
        have eo : opS C (nI d) = if sI C 3 7 = 5 ∧ sI C 3 9 = 0 then some (w3 (w3 C 9 1) 7 3) else none := by
          unfold opS
          rw [if_neg (fun z => o1 z.1)]
          by_cases h7 : sI C 3 7 = 5 ∧ sI C 3 9 = 0
          · rw [if_pos ⟨⟨o2, o3⟩, h7⟩, if_pos h7]
          · rw [if_neg (fun z => h7 z.2), if_neg (fun z => z.1.1 o4), if_neg h7]
        rw [eo, if_neg (c := ¬ sI M 600 40 = 5 ∧ ¬ cm (nI d) < 10 ∧ ¬ 12 < cm (nI d)) (fun z => z.2.2 c1)]
        rcases ha with ⟨h7, b, hb'⟩ | ⟨h7, h6, -⟩
        · cases b with
          | false =>
            rw [if_pos ⟨h7, hb'.1⟩, if_pos (show sI M 600 40 = 2 from hb'.2.1), if_neg (fun z => by rcases z with q | q; exact c2 q; exact q c3)]
            exact Or.inr ⟨_, rfl, rfl, sg_tk hc h15 hy hb' rfl ⟨dS, by omega⟩⟩
          | true =>
            rw [if_neg (fun z => by have := hb'.1; rw [z.2] at this; exact absurd this (by decide)), if_neg (show ¬ sI M 600 40 = 2 by rw [hb'.2.1]; decide), if_neg c4, eno]
            exact Or.inl ⟨rfl, rfl, rfl⟩
        · rw [if_neg (fun z => by rw [h7] at z; exact absurd z.1 (by decide)), if_neg (show ¬ sI M 600 40 = 2 by rw [h6]; decide), if_neg c4, eno]
          exact Or.inl ⟨rfl, rfl, rfl⟩
      · have d12 : d = 1 ∨ d = 2 := by omega
        have cJ : 12 < cm (nI d) ∧ ¬ cm (nI d) ≤ 18 ∧ (cm (nI d) = 20 ∨ cm (nI d) = 21) ∧ (nI d = 1 ∨ nI d = 2) ∧ nI d < 4 ∧ nI d < 10 := by
          rcases d12 with rfl | rfl <;> decide
        obtain ⟨c1, c2, c3, c4, c5, c6⟩ := cJ
        have eo : opS C (nI d) = if bhc C then some (w3 (w3 C 9 0) 7 2) else none := by
          unfold opS
          by_cases h7 : bhc C
          · rw [if_pos ⟨c4, h7⟩, if_pos h7]
          · rw [if_neg (fun z => h7 z.2), if_neg (fun z => z.1.1 c5), if_neg (fun z => z.1.1 c6), if_neg h7]
        rw [eo, if_neg (c := ¬ sI M 600 40 = 5 ∧ ¬ cm (nI d) < 10 ∧ ¬ 12 < cm (nI d)) (fun z => z.2.2 c1)]
        by_cases s2 : sI M 600 40 = 2
        · rw [if_neg (fun z => by
            have := (hbhc.mp z).2
            rw [s2] at this
            exact absurd this (by decide)), if_pos s2, if_pos (Or.inr c2)]
          exact Or.inl ⟨rfl, rfl, rfl⟩
        · have s45 : sI M 600 40 = 4 ∨ sI M 600 40 = 5 := by
            rcases hst2 with q | q
            · exact absurd q s2
            · exact q
          have hin : ((∃ t, tyT C t ∧ stA C M true t) ∨ ∃ u, tyT C (true :: u) ∧ cndF (sI C 19) (sN C 13) u) := by
            rcases ha with ⟨h7, b, hb'⟩ | ⟨h7, h6, u, rfl, hu⟩
            · cases b with
              | true => exact Or.inl ⟨t, hy, hb'⟩
              | false => exact absurd hb'.2.1 s2
            · exact Or.inr ⟨u, hy, hu⟩
          rw [if_pos (hbhc.mpr ⟨hin, s45⟩), if_neg s2, if_pos c3]
          exact Or.inr ⟨_, rfl, rfl, jo_tk hc h15 hin d12⟩
theorem tk_sim {C M : ST} {r : Nat} (hw : wdC C M) (hj : jI M r 1) (hc : cdR C M r 1) (h15 : sN C 15 = sN M 32 ∧ sN C 15 ≤ 8) (hsb : sbOK C M r) (hst : stT C M) : tkR C M r (tWd C) (mTk M (sI C 3 10)) ∨ tkA C M (tWd C) (mTk M (sI C 3 10)) := by
  obtain ⟨t, hy, h⟩ := hst
  unfold tWd mTk
  rcases h with ⟨h7, h9, h40, hcn⟩ | ⟨h7, h40, b, hb⟩ | h | h
  · have i8 : nI (sN M 32) = 8 ↔ ¬ sN C 15 < 8 := by
      rw [show (8 : Int32) = nI 8 from rfl, nI_eq (by omega) (by omega)]
      omega
    have kn := wd_sp hw [110, 111, 116] (wdR 110 111 116 0 0) (by decide) (by decide) (by decide +kernel)
    have ko := wd_sp hw [40] 40 (by decide) (by decide) (by decide +kernel)
    rw [if_neg (by rw [h7]; decide), if_neg (by rw [h7]; decide), if_pos h7, if_neg (by rw [h40]; decide)]
    unfold tNot
    by_cases wn : cw C [110, 111, 116]
    · rw [if_pos wn, if_pos ⟨h40, kn.mpr wn⟩, or_s]
      exact Or.inl (Or.inr ⟨_, rfl, rfl, not_tk hc h15 hy ⟨h7, h9, h40, hcn⟩⟩)
    · rw [if_neg wn, if_neg (fun z => wn (kn.mp z.2)), or_n]
      unfold tOpn
      by_cases wo' : cw C [40]
      · rw [if_pos (c := sI M 600 40 = 0 ∧ spR M = 40) ⟨h40, ko.mpr wo'⟩]
        by_cases h8 : sN C 15 < 8
        · rw [if_pos ⟨wo', h8⟩, or_s, if_neg (fun z => i8.mp z h8)]
          exact Or.inl (Or.inr ⟨_, rfl, rfl, opn_tk hc ⟨h15.1, h8⟩ hy ⟨h7, h9, h40, hcn⟩⟩)
        · rw [if_neg (fun z => h8 z.2), or_n, tTrm_opn hw wo', if_pos (i8.mpr h8)]
          exact Or.inl (Or.inl ⟨rfl, rfl, rfl⟩)
      · rw [if_neg (fun z => wo' z.1), or_n, if_neg (c := sI M 600 40 = 0 ∧ spR M = 40) (fun z => wo' (ko.mp z.2))]
        exact tr_sim hw hc h15 hsb ⟨false, t, hy, h9, fun z => (by cases z), fun _ => Or.inl h40, cnd_ar hcn⟩
  · rw [if_neg (by rw [h7]; decide), if_neg (by rw [h7]; decide), if_neg (by rw [h7]; decide), if_pos h7, if_neg (by
      obtain ⟨-, g2, g3, -⟩ := hb
      cases b with
      | true => rw [g2 rfl]; decide
      | false =>
        rcases g3 rfl with e | e
        · rw [e]; decide
        · rw [e]; decide), if_neg (fun z => h40 z.1), if_neg (fun z => h40 z.1)]
    exact tr_sim hw hc h15 hsb ⟨b, t, hy, hb⟩
  · obtain ⟨h7, b, hb⟩ := h
    rw [if_neg (by rw [h7]; decide), if_neg (by rw [h7]; decide), if_neg (by rw [h7]; decide), if_neg (by rw [h7]; decide), if_neg (by rw [h7]; decide), if_pos (by rw [hb.2.1]; cases b <;> decide)]
    exact Or.inl (sg_sim hw hj hc h15 ⟨t, hy, Or.inl ⟨h7, b, hb⟩⟩)
  · obtain ⟨h7, h6, hu⟩ := h
    rw [if_neg (by rw [h7]; decide), if_neg (by rw [h7]; decide), if_neg (by rw [h7]; decide), if_neg (by rw [h7]; decide), if_neg (by rw [h7]; decide), if_pos (by rw [h6]; decide)]
    exact Or.inl (sg_sim hw hj hc h15 ⟨t, hy, Or.inr ⟨h7, h6, hu⟩⟩)
