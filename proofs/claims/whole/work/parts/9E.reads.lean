/-! the whole rule, class and reference -/
def RQ (C M : ST) (r : Nat) : Prop := txR C M ∧ sN C 11 = sN M 28 ∧ sN C 11 ≤ sN C 9 ∧ sN C 14 = sN M 29 ∧ sN C 12 + sN C 13 + 2 ≤ sN C 14 ∧ sbOK C M r
def RD (C M : ST) (r : Nat) : Prop := RQ C M r ∧ cdR C M r 0 ∧ (sN C 15 = sN M 32 ∧ sN C 15 ≤ 8) ∧ jI M r 0 ∧ stT C M
def fin (C M : ST) (r : Nat) : Prop := (sN C 12 = pcn M ∧ sI M 721 r = nI (pcn M) ∧ sN C 12 ≤ 80 ∧ ∀ i, i < sN C 12 → sI M 722 (90 * r + i) = cm (sI C 17 i) ∧ sI M 723 (90 * r + i) = sI C 18 i) ∧ tyT C [true] ∧ sbOK C M r
def rdO (p q : ST × Bool) (r : Nat) : Prop := (q.2 = true ∧ p.2 = true ∧ sN p.1 15 = 0 ∧ bhc p.1 ∧ fin (podF 1 (sN p.1 13) p.1) q.1 r) ∨ (q.2 = false ∧ ¬ (p.2 = true ∧ sN p.1 15 = 0 ∧ bhc p.1) ∧ sN q.1 29 = sN p.1 14 + 1)
theorem mnx_s {S : ST} {m : Nat} : sI (mnx S) m = sI S m := congrFun mnx_I.1 m
theorem nxW_I' {C : ST} : sI (nxW C) = sI C := rfl
theorem nxW_N {C : ST} {m : Nat} (h : m ≠ 10 ∧ m ≠ 11) : sN (nxW C) m = sN C m := by
  unfold nxW
  rw [wN_ne h.2, wN_ne h.1]
theorem nx_eq {C M : ST} (ht : txR C M) (h11 : sN C 11 = sN M 28) (hle : sN C 11 ≤ sN C 9) : sN (nxW C) 10 = mP M ∧ sN (nxW C) 11 = mE M ∧ sN C 11 ≤ mP M ∧ mP M ≤ mE M ∧ mE M ≤ sN C 9 := by
  obtain ⟨t1, t2, t3⟩ := ht
  have e10 : skS (sI C 16) (sN C 9 - sN C 11) (sN C 11) = mP M := by
    unfold mP
    rw [t1, h11] at *
    exact skS_cg _ _ (fun j a b => ((t3 j (by omega)).1).symm)
  have b1 := skS_bd (f := sI M 716) (sN M 24 - sN M 28) (sN M 28)
  have e1 : sN (nxW C) 10 = mP M := by
    unfold nxW
    rw [wN_ne (by decide), wN_self]
    exact e10
  have b1' : sN C 11 ≤ mP M ∧ mP M ≤ sN C 9 := by
    unfold mP
    omega
  have b2 := skW_bd (f := sI M 716) (sN M 24 - mP M) (mP M)
  have e2 : sN (nxW C) 11 = mE M := by
    unfold nxW
    rw [wN_self, e10]
    unfold mE
    rw [t1]
    exact skW_cg _ _ (fun j a b => ((t3 j (by omega)).1).symm)
  refine ⟨e1, e2, b1'.1, ?_, ?_⟩
  · unfold mE; omega
  · unfold mE; omega
theorem nx_wd {C M : ST} (ht : txR C M) (h11 : sN C 11 = sN M 28) (hle : sN C 11 ≤ sN C 9) (hlt : mP M < mE M) : wdC (nxW C) (mnx M) := by
  obtain ⟨e1, e2, b1, b2, b3⟩ := nx_eq ht h11 hle
  refine ⟨by rw [e1, mnx_27], by rw [e2, mnx_28], by omega, by rw [e2]; have := ht.2.1; omega, fun j a b => ?_⟩
  rw [mnx_s, nxW_I']
  have hj := ht.2.2 j (by omega)
  refine ⟨hj.1, hj.2, ?_⟩
  rw [← hj.1]
  refine skW_ns (sN M 24 - mP M) (mP M) j (by omega) ?_
  show j < mE M
  omega
theorem RQ.nx {C M C2 M2 : ST} {r : Nat} (h : RQ C M r) (hk : tkS (nxW C) (mnx M) C2 M2 r) (h29 : sN (mnx M) 29 = sN M 29 + 1) (hj : jI M2 r 0) : RD (wN C2 14 (sN C2 14 + 1)) M2 r := by
  obtain ⟨a1, a2, a3, a4, a5, a6⟩ := h
  obtain ⟨e1, e2, b1, b2, b3⟩ := nx_eq a1 a2 a3
  obtain ⟨k1, k2, k3, k4, ⟨f1, f2, f3, f4, f5, f6, f7⟩, ⟨g1, g2, g3, g4, g5, g6⟩⟩ := hk
  rw [nxW_N (by decide)] at f2 f4
  rw [nxW_N (by decide), nxW_N (by decide)] at f7
  rw [e2] at f3
  rw [mnx_28] at g3
  rw [mnx_N (by decide)] at g2
  have n9 : sN (wN C2 14 (sN C2 14 + 1)) 9 = sN C 9 := by rw [wN_ne (by decide)]; exact f2
  refine ⟨⟨⟨?_, ?_, fun j hj => ?_⟩, ?_, ?_, ?_, ?_, ?_⟩, k1.N (wN_ne (by decide)) (wN_ne (by decide)) (fun _ _ => rfl) rfl rfl (fun _ _ => rfl), ?_, hj, ?_⟩
  · rw [n9, g2]; exact a1.1
  · rw [n9]; exact a1.2.1
  · rw [n9] at hj
    rw [g1, mnx_s]
    show sI M 716 j = sI C2 16 j ∧ ltr (sI C2 16 j)
    rw [f1]
    exact a1.2.2 j hj
  · rw [wN_ne (by decide), f3, g3]
  · rw [wN_ne (by decide), f3, n9]; exact b3
  · rw [wN_self, g4, h29, f4]; omega
  · rw [wN_self, wN_ne (by decide), wN_ne (by decide)]; omega
  · obtain ⟨s1, s2, s3, s4⟩ := a6
    refine ⟨?_, ?_, ?_, ?_⟩
    · rw [g5, mnx_s]; show _ = sI C2 3 10; rw [f5]; exact s1
    · rw [g6, mnx_s]; show _ = sI C2 3 11; rw [f6]; exact s2
    · show sI C2 3 10 = 0 ∨ sI C2 3 10 = 1 ∨ sI C2 3 10 = 2
      rw [f5]; exact s3
    · show sI C2 3 11 = 1 ∨ sI C2 3 11 = 2
      rw [f6]; exact s4
  · rw [wN_ne (by decide)]; exact ⟨k2, k3⟩
  · obtain ⟨t, t1, t2⟩ := k4
    refine ⟨t, ?_, ?_⟩
    · unfold tyT
      rw [wNI, wNI, wNI, wN_ne (by decide)]
      exact t1
    · unfold stW stA at *
      rw [wN_ne (by decide)]
      exact t2
theorem z0_zero {f : Nat → Int32} : ∀ {n : Nat}, z0 f n = 0 → ∀ i, i < n → ¬ mrk (f i) < 1
  | 0, _, i, hi => by omega
  | n + 1, h, i, hi => by
    unfold z0 at h
    by_cases hm : mrk (f n) < 1
    · rw [if_pos hm] at h; omega
    · rw [if_neg hm] at h
      by_cases e : i = n
      · rw [e]; exact hm
      · exact z0_zero (by omega) i (by omega)
theorem end_sim {C C' M : ST} {r : Nat} (h : RD C M r) (hI : sI C' = sI C) (hN : ∀ m, m ≠ 10 → m ≠ 11 → sN C' m = sN C m) (hno : ¬ mP M < mE M) : rdO (C', true) (mEnd (mnx M)) r := by
  obtain ⟨⟨a1, a2, a3, a4, a5, a6⟩, hc, h15, hj, t, ht, hst⟩ := h
  have mN : ∀ m, m ≠ 27 → m ≠ 28 → sN (mnx M) m = sN M m := by
    intro m h1 h2
    unfold mnx
    rw [if_neg hno, wN_ne h2, wN_ne h1]
  have mI : ∀ m, sI (mnx M) m = sI M m := fun m => congrFun mnx_I.1 m
  have i32 : nI (sN M 32) ≤ 0 ↔ sN M 32 = 0 := by
    rw [show (0 : Int32) = nI 0 from rfl, nI_leI (by omega) (by omega)]
    omega
  unfold mEnd
  rw [mI 600, mN 32 (by decide) (by decide)]
  by_cases hg : sI M 600 40 < 4 ∨ ¬ nI (sN M 32) ≤ 0
  · rw [if_pos hg]
    refine Or.inr ⟨rfl, ?_, ?_⟩
    · rintro ⟨-, h0, hb⟩
      rw [hN 15 (by decide) (by decide)] at h0
      rcases hg with hg | hg
      · unfold bhc at hb
        rw [hI] at hb
        rcases hst with ⟨h7, -⟩ | ⟨h7, -⟩ | ⟨h7, b, hb'⟩ | ⟨h7, h6, -⟩
        · rw [h7] at hb; rcases hb with q | q; exact absurd q (by decide); exact absurd q.1 (by decide)
        · rw [h7] at hb; rcases hb with q | q; exact absurd q (by decide); exact absurd q.1 (by decide)
        · rw [hb'.2.1] at hg
          cases b with
          | true => exact absurd hg (by decide)
          | false =>
            rw [h7, hb'.1] at hb
            rcases hb with q | q
            · exact absurd q (by decide)
            · exact q.2 rfl
        · rw [h6] at hg; exact absurd hg (by decide)
      · exact hg (i32.mpr (by omega))
    · rw [wN_self, mN 29 (by decide) (by decide), hN 14 (by decide) (by decide)]
      omega
  · rw [if_neg hg]
    have h4 : ¬ sI M 600 40 < 4 := fun z => hg (Or.inl z)
    have h32 : sN M 32 = 0 := i32.mp (Decidable.byContradiction fun z => hg (Or.inr z))
    have hin : bhc C ∧ ((∃ u, tyR (sI C 3 10) (sI C 17) (sI C 18) (sN C 12) (false :: u) ∧ arF (sI C 19) true (sN C 13) u) ∨ ∃ u, tyR (sI C 3 10) (sI C 17) (sI C 18) (sN C 12) (true :: u) ∧ cndF (sI C 19) (sN C 13) u) := by
      rcases hst with ⟨h7, -, h40, -⟩ | ⟨h7, -, b, hb⟩ | ⟨h7, b, hb'⟩ | ⟨h7, h6, u, rfl, hu⟩
      · rw [h40] at h4; exact absurd (by decide) h4
      · obtain ⟨-, g2, g3, -⟩ := hb
        cases b with
        | true => rw [g2 rfl] at h4; exact absurd (by decide) h4
        | false =>
          rcases g3 rfl with e | e
          · rw [e] at h4; exact absurd (by decide) h4
          · rw [e] at h4; exact absurd (by decide) h4
      · cases b with
        | false => rw [hb'.2.1] at h4; exact absurd (by decide) h4
        | true =>
          obtain ⟨q1, q2, u, rfl, q3⟩ := hb'
          exact ⟨Or.inr ⟨h7, by rw [q1]; decide⟩, Or.inl ⟨u, ht, q3⟩⟩
      · exact ⟨Or.inl h7, Or.inr ⟨u, ht, hu⟩⟩
    have hc' : cdR C' (mnx M) r 0 := hc.N (hN 12 (by decide) (by decide)) (hN 13 (by decide) (by decide)) (fun m _ => by rw [hI]) (mN 30 (by decide) (by decide)) (mN 31 (by decide) (by decide)) (fun m _ => mI m)
    have n12 := hN 12 (by decide) (by decide)
    have n13 := hN 13 (by decide) (by decide)
    have m31 := mN 31 (by decide) (by decide)
    have h5 := hc'.2.2.2.2.1
    have hbd := hc'.2.2.2.2.2.2
    obtain ⟨s1, s2, s3, s4, s5⟩ := pod_st (x := 1) (sN C' 13) C' rfl (by omega)
    have hcp : cdR (podF 1 (sN C' 13) C') (mrel 1 (sN C' 13) (mnx M)) r 0 := cdR.pod (stg_mrk (x := 1) ⟨1, by decide, by decide, rfl⟩) (sN C' 13) C' (mnx M) hc' rfl
    obtain ⟨v, v1, v2⟩ := pod_cn (s := sI C 3 10) (x := 1) (Or.inl rfl) (sN C' 13) C' rfl (by omega) (by
      rw [hI, n12, n13]
      exact hin.2)
    have hz : sN (podF 1 (sN C' 13) C') 13 = 0 := by
      rcases s5 with z | z
      · exact z
      · refine Decidable.byContradiction fun hne => ?_
        obtain ⟨n', hn'⟩ : ∃ n', sN (podF 1 (sN C' 13) C') 13 = n' + 1 := ⟨_, (Nat.sub_add_cancel (Nat.pos_of_ne_zero hne)).symm⟩
        rw [hn', Nat.add_sub_cancel] at z
        obtain ⟨q1, d, hd, q2⟩ := hc'.2.2.2.2.2.1 n' (by omega)
        rw [q2] at z q1
        have key : ∀ d, d < 13 → stg (nI d) < stg 1 → mrk (cm (nI d)) < 1 := by decide +kernel
        refine z0_zero (f := sI M 737) (n := sN M 31) (by rw [hj.2.2]; exact h32) n' (by omega) ?_
        rw [← mI 737, q1]
        exact key d hd z
    rw [hz] at v2
    have hv : v = [] := v2
    subst hv
    rw [show sN (mnx M) 31 = sN C' 13 from h5.symm]
    obtain ⟨⟨m1, m2, m3, m4, m5⟩, m6⟩ := mrel_st (x := 1) (by decide) (M := mnx M) (n := sN C' 13) h5.symm
    refine Or.inl ⟨rfl, rfl, ?_, ?_, ⟨hcp.1, hcp.2.2.1, (show sN (podF 1 (sN C' 13) C') 12 ≤ 80 by have := hcp.2.2.2.2.2.2; omega), hcp.2.2.2.1⟩, ?_, ?_⟩
    · rw [hN 15 (by decide) (by decide)]; omega
    · unfold bhc; rw [hI]; exact hin.1
    · unfold tyT
      rw [s1 3 (by decide) (by decide), hI]
      exact v1
    · obtain ⟨b1, b2, b3, b4⟩ := a6
      unfold sbOK
      rw [m4, m5, s1 3 (by decide) (by decide), hI, mI 719, mI 720]
      exact ⟨b1, b2, b3, b4⟩

theorem kn_sim {C M : ST} {r : Nat} {b : Bool} {t : List Bool} (hw : wdC C M) (hc : cdR C M r 1) (h15 : sN C 15 = sN M 32 ∧ sN C 15 ≤ 8) (h2 : ¬ sI C 3 10 = 2) (hy : tyT C t) (hst : stW C M b t) (hl : nI (sN M 28 - sN M 27) = 1 ∧ nuR M (sN M 28)) {z : Int32} (hz : z = if 2 ≤ sI (mput M 6 (vaR M)) 600 40 then 4 else 2) : ∃ C2, tKnd C = some C2 ∧ tkS C M C2 (w6 (mput M 6 (vaR M)) 40 z) r := by
  obtain ⟨e1, e2, e3⟩ := wd_len hw
  have l1 : sN M 28 - sN M 27 = 1 := by
    have := hl.1
    rw [show (1 : Int32) = nI 1 from rfl, nI_eq (by omega) (by omega)] at this
    exact this
  have hd := hl.2.2 (sN M 27) (by omega) (Nat.le_refl _)
  obtain ⟨d1, d, hd10, d2⟩ := dgt_of hd
  have ev : vaR M = nI d := by
    unfold vaR
    rw [l1]
    show (10 * 0 + sI M 716 (sN M 27) - 48 : Int32) = nI d
    rw [← d2]
    simp
  have el : ltW C 0 = sI M 716 (sN M 27) := by
    rw [wd_lt hw (by omega), Nat.add_zero]
  refine ⟨trm C 19 (vaR M), ?_, put_tk (x := 19) hc h15 hy hst (Or.inr (Or.inr (Or.inr (Or.inr (Or.inr (Or.inr ⟨rfl, h2, d, hd10, ev⟩)))))) hz⟩
  unfold tKnd
  rw [el, d1, d2, ev]
  refine if_pos ⟨by rw [e1]; exact hl.1, fun q => ?_⟩
  exact nI_pos (n := d) (by omega) (by rw [q]; decide)
theorem kn_no {C M : ST} (hw : wdC C M) (hl : ¬ (nI (sN M 28 - sN M 27) = 1 ∧ nuR M (sN M 28))) : tKnd C = none := by
  obtain ⟨e1, e2, e3⟩ := wd_len hw
  unfold tKnd
  refine if_neg fun z => hl ⟨by rw [← e1]; exact z.1, ?_⟩
  have l1 : sN M 28 - sN M 27 = 1 := by
    have := z.1
    rw [e1, show (1 : Int32) = nI 1 from rfl, nI_eq (by omega) (by omega)] at this
    exact this
  have h1 := z.2
  rw [wd_lt hw (by omega), Nat.add_zero, dgt_m1] at h1
  refine ⟨by rw [l1]; decide, fun j a b => ?_⟩
  rw [show j = sN M 27 by omega]
  exact Decidable.of_not_not h1
theorem rd_sim {r : Nat} : ∀ (N n m : Nat) (C M : ST), n ≤ N → RD C M r → sN C 14 + n = 80 → n < m → rdO (rdL n C) (mGo r m M) r := by
  intro N
  induction N with
  | zero =>
    intro n m C M hn h h14 hm
    have : n = 0 := by omega
    subst this
    obtain ⟨m', rfl⟩ : ∃ m', m = m' + 1 := ⟨m - 1, by omega⟩
    have hno : ¬ mP M < mE M := fun hlt => by
      have := jI.nx h.2.2.2.1 hlt
      have := this.1.b
      have := h.1.2.2.2.1
      omega
    unfold rdL mGo
    rw [if_neg hno]
    exact end_sim h rfl (fun _ _ _ => rfl) hno
  | succ N ih =>
    intro n m C M hn h h14 hm
    obtain ⟨m', rfl⟩ : ∃ m', m = m' + 1 := ⟨m - 1, by omega⟩
    cases n with
    | zero => exact ih 0 (m' + 1) C M (by omega) h h14 hm
    | succ n =>
      obtain ⟨hq, hc, h15, hj, hst⟩ := id h
      obtain ⟨a1, a2, a3, a4, a5, a6⟩ := id hq
      obtain ⟨e1, e2, b1, b2, b3⟩ := nx_eq a1 a2 a3
      unfold rdL mGo
      rw [e1, e2]
      by_cases hlt : mP M < mE M
      · rw [if_pos hlt, if_pos hlt]
        obtain ⟨j1, -, j3⟩ := jI.nx hj hlt
        have hw := nx_wd a1 a2 a3 hlt
        have hc1 : cdR (nxW C) (mnx M) r 1 := by
          have hc' : cdR (nxW C) (mnx M) r 0 := hc.N (nxW_N (by decide)) (nxW_N (by decide)) (fun _ _ => rfl) (mnx_N (by decide)) (mnx_N (by decide)) (fun m _ => mnx_s)
          refine ⟨hc'.1, hc'.2.1, hc'.2.2.1, hc'.2.2.2.1, hc'.2.2.2.2.1, hc'.2.2.2.2.2.1, ?_⟩
          rw [nxW_N (by decide), nxW_N (by decide)]
          omega
        have h15' : sN (nxW C) 15 = sN (mnx M) 32 ∧ sN (nxW C) 15 ≤ 8 := by
          rw [nxW_N (by decide), mnx_N (by decide)]
          exact h15
        have hsb : sbOK (nxW C) (mnx M) r := by
          unfold sbOK
          rw [mnx_s, mnx_s, nxW_I']
          exact a6
        have hst' : stT (nxW C) (mnx M) := by
          obtain ⟨t, t1, t2⟩ := hst
          refine ⟨t, ?_, ?_⟩
          · unfold tyT
            rw [nxW_I', nxW_N (by decide)]
            exact t1
          · unfold stW stA at *
            rw [nxW_I', nxW_N (by decide), mnx_s]
            exact t2
        have es : sI (mnx M) 719 r = sI (nxW C) 3 10 := hsb.1
        rw [es]
        have hjk := mTk_jI (s := sI (nxW C) 3 10) j1
        rcases tk_sim hw j1 hc1 h15' hsb hst' with (⟨t1, t2, t3⟩ | ⟨C2, t1, t2, t3⟩) | ⟨t1, t2, t3, t4⟩
        · rw [t1, t2, if_neg Bool.false_ne_true]
          refine Or.inr ⟨rfl, fun z => absurd z.1 Bool.false_ne_true, ?_⟩
          show sN (mTk (mnx M) (sI (nxW C) 3 10)).1 29 = sN (nxW C) 14 + 1
          rw [t3, j3, nxW_N (by decide)]
          omega
        · rw [t1, if_pos t2]
          have h14' : sN C2 14 = sN C 14 := t3.2.2.2.2.1.2.2.2.1.trans (nxW_N (by decide))
          exact ih n m' _ _ (by omega) (hq.nx t3 j3 (hjk t2).1) (by rw [wN_self]; omega) (by omega)
        · rw [t1]
          show rdO (rdL n (wN (w3 (nxW C) 7 4) 14 (sN (w3 (nxW C) 7 4) 14 + 1))) _ r
          obtain ⟨b, t, hy, hw4⟩ := t3
          have n14 : sN (w3 (nxW C) 7 4) 14 = sN C 14 := by rw [w3n]; exact nxW_N (by decide)
          have q3N : ∀ m, m ≠ 10 → m ≠ 11 → m ≠ 14 → sN (wN (w3 (nxW C) 7 4) 14 (sN (w3 (nxW C) 7 4) 14 + 1)) m = sN C m := fun m x1 x2 x3 => by
            rw [wN_ne x3, w3n, nxW_N ⟨x1, x2⟩]
          have q3I : ∀ m, m ≠ 3 → sI (wN (w3 (nxW C) 7 4) 14 (sN (w3 (nxW C) 7 4) 14 + 1)) m = sI C m := fun m x => by
            rw [wNI, w3i x, nxW_I']
          have q33 : ∀ k, k ≠ 7 → sI (wN (w3 (nxW C) 7 4) 14 (sN (w3 (nxW C) 7 4) 14 + 1)) 3 k = sI C 3 k := fun k x => by
            rw [wNI, w3o x, nxW_I']
          have q37 : sI (wN (w3 (nxW C) 7 4) 14 (sN (w3 (nxW C) 7 4) 14 + 1)) 3 7 = 4 := by rw [wNI, w3s]
          have q314 : sN (wN (w3 (nxW C) 7 4) 14 (sN (w3 (nxW C) 7 4) 14 + 1)) 14 = sN C 14 + 1 := by rw [wN_self, n14]
          have q311 : sN (wN (w3 (nxW C) 7 4) 14 (sN (w3 (nxW C) 7 4) 14 + 1)) 11 = mE M := by rw [wN_ne (by decide), w3n, e2]
          generalize wN (w3 (nxW C) 7 4) 14 (sN (w3 (nxW C) 7 4) 14 + 1) = D at *
          have dq : RQ D (mnx M) r := by
            refine ⟨⟨?_, ?_, fun j hj' => ?_⟩, ?_, ?_, ?_, ?_, ?_⟩
            · rw [q3N 9 (by decide) (by decide) (by decide), mnx_N (by decide)]; exact a1.1
            · rw [q3N 9 (by decide) (by decide) (by decide)]; exact a1.2.1
            · rw [q3N 9 (by decide) (by decide) (by decide)] at hj'
              rw [mnx_s, q3I 16 (by decide)]
              exact a1.2.2 j hj'
            · rw [q311, mnx_28]
            · rw [q311, q3N 9 (by decide) (by decide) (by decide)]; exact b3
            · rw [q314, j3]; omega
            · rw [q314, q3N 12 (by decide) (by decide) (by decide), q3N 13 (by decide) (by decide) (by decide)]; omega
            · unfold sbOK
              rw [mnx_s, mnx_s, q33 10 (by decide), q33 11 (by decide)]
              exact a6
          have dnb : ¬ bhc D := by
            rintro (z | z)
            · rw [q37] at z; exact absurd z (by decide)
            · rw [q37] at z; exact absurd z.1 (by decide)
          obtain ⟨d1, d2, d3, d4, d5, d6⟩ := id dq
          obtain ⟨f1, f2, f3, f4, f5⟩ := nx_eq d1 d2 d3
          rw [t4]
          cases n with
          | zero =>
            have hno : ¬ mP (mnx M) < mE (mnx M) := fun hlt => by
              have := jI.nx j1 hlt
              have := this.1.b
              omega
            have ed : mDn (mnx M) = (wN (mnx (mnx M)) 29 (sN (mnx (mnx M)) 29 + 1), false) := by
              unfold mDn
              rw [if_neg hno]
            rw [ed, if_neg Bool.false_ne_true, if_neg Bool.false_ne_true]
            refine Or.inr ⟨rfl, fun z => dnb z.2.2, ?_⟩
            show sN (wN (mnx (mnx M)) 29 (sN (mnx (mnx M)) 29 + 1)) 29 = sN D 14 + 1
            rw [wN_self]
            unfold mnx at *
            rw [if_neg hno, wN_ne (by decide), wN_ne (by decide)]
            omega
          | succ n =>
            unfold rdL
            rw [f1, f2]
            by_cases hl2 : mP (mnx M) < mE (mnx M)
            · rw [if_pos hl2]
              obtain ⟨j21, -, j23⟩ := jI.nx j1 hl2
              have hw2 := nx_wd d1 d2 d3 hl2
              have ek : tWd (nxW D) = tKnd (nxW D) := by
                unfold tWd
                rw [nxW_I', q37, if_neg (by decide), if_neg (by decide), if_neg (by decide), if_neg (by decide), if_pos rfl]
              rw [ek]
              have hc2 : cdR (nxW D) (mnx (mnx M)) r 1 := by
                have hc' : cdR (nxW D) (mnx (mnx M)) r 0 := hc.N ((nxW_N (by decide)).trans (q3N 12 (by decide) (by decide) (by decide))) ((nxW_N (by decide)).trans (q3N 13 (by decide) (by decide) (by decide))) (fun m hm => by rw [nxW_I', q3I m (by omega)]) ((mnx_N (by decide)).trans (mnx_N (by decide))) ((mnx_N (by decide)).trans (mnx_N (by decide))) (fun m _ => mnx_s.trans mnx_s)
                refine ⟨hc'.1, hc'.2.1, hc'.2.2.1, hc'.2.2.2.1, hc'.2.2.2.2.1, hc'.2.2.2.2.2.1, ?_⟩
                rw [nxW_N (by decide), nxW_N (by decide)]
                omega
              have h152 : sN (nxW D) 15 = sN (mnx (mnx M)) 32 ∧ sN (nxW D) 15 ≤ 8 := by
                rw [nxW_N (by decide), mnx_N (by decide), mnx_N (by decide), q3N 15 (by decide) (by decide) (by decide)]
                exact h15
              have elen : nI (mE (mnx M) - mP (mnx M)) = nI (sN (mnx (mnx M)) 28 - sN (mnx (mnx M)) 27) := by rw [mnx_27, mnx_28]
              by_cases hdg : nI (mE (mnx M) - mP (mnx M)) = 1 ∧ nuR (mnx (mnx M)) (mE (mnx M))
              · have ed : mDn (mnx M) = (mput (mnx (mnx M)) 6 (vaR (mnx (mnx M))), true) := by
                  unfold mDn
                  rw [if_pos hl2, if_pos hdg]
                have hjk' := hjk
                rw [t4, ed, if_pos rfl] at hjk'
                rw [ed, if_pos rfl, if_pos rfl]
                obtain ⟨C2, g1, g2⟩ := kn_sim (z := if 2 ≤ sI (mput (mnx (mnx M)) 6 (vaR (mnx (mnx M)))) 600 40 then 4 else 2) (b := b) (t := t) hw2 hc2 h152 (by rw [nxW_I', q33 10 (by decide)]; exact t2) (by
                  unfold tyT
                  rw [nxW_I', nxW_N (by decide), q33 10 (by decide), q3I 17 (by decide), q3I 18 (by decide), q3N 12 (by decide) (by decide) (by decide)]
                  unfold tyT at hy
                  rw [nxW_I', nxW_N (by decide)] at hy
                  exact hy) (by
                  unfold stW at hw4 ⊢
                  rw [nxW_I', nxW_N (by decide), q33 9 (by decide), q3I 19 (by decide), q3N 13 (by decide) (by decide) (by decide), mnx_s]
                  rw [nxW_I', nxW_N (by decide)] at hw4
                  exact hw4) ⟨by rw [← elen]; exact hdg.1, by rw [mnx_28]; exact hdg.2⟩ rfl
                rw [g1]
                have h14' : sN C2 14 = sN D 14 := g2.2.2.2.2.1.2.2.2.1.trans (nxW_N (by decide))
                exact ih n m' _ _ (by omega) (dq.nx g2 j23 (hjk' rfl).1) (by rw [wN_self]; omega) (by omega)
              · have ed : mDn (mnx M) = (mnx (mnx M), false) := by
                  unfold mDn
                  rw [if_pos hl2, if_neg hdg]
                rw [ed, if_neg Bool.false_ne_true, if_neg Bool.false_ne_true, kn_no hw2 (fun z => hdg ⟨by rw [elen]; exact z.1, by have := z.2; rw [mnx_28] at this; exact this⟩)]
                refine Or.inr ⟨rfl, fun z => absurd z.1 Bool.false_ne_true, ?_⟩
                show sN (mnx (mnx M)) 29 = sN (nxW D) 14 + 1
                rw [j23, nxW_N (by decide)]
                omega
            · rw [if_neg hl2]
              have ed : mDn (mnx M) = (wN (mnx (mnx M)) 29 (sN (mnx (mnx M)) 29 + 1), false) := by
                unfold mDn
                rw [if_neg hl2]
              rw [ed, if_neg Bool.false_ne_true, if_neg Bool.false_ne_true]
              refine Or.inr ⟨rfl, fun z => dnb z.2.2, ?_⟩
              show sN (wN (mnx (mnx M)) 29 (sN (mnx (mnx M)) 29 + 1)) 29 = sN (nxW D) 14 + 1
              have e29 : sN (mnx (mnx M)) 29 = sN (mnx M) 29 := by
                rw [mnx, if_neg hl2, wN_ne (by decide), wN_ne (by decide)]
              rw [wN_self, nxW_N (by decide), e29]
              omega
      · rw [if_neg hlt, if_neg hlt]
        exact end_sim h rfl (fun m x1 x2 => nxW_N ⟨x1, x2⟩) hlt
