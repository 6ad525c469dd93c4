/-! an operator, a closing bracket, class and reference -/
theorem mrel_st {x : Int32} (hx : 1 ≤ x) {M : ST} {n : Nat} (hn : sN M 31 = n) : (sI (mrel x n M) 737 = sI M 737 ∧ sI (mrel x n M) 716 = sI M 716 ∧ sI (mrel x n M) 600 = sI M 600 ∧ sI (mrel x n M) 719 = sI M 719 ∧ sI (mrel x n M) 720 = sI M 720) ∧ ∀ m, m ≠ 31 → sN (mrel x n M) m = sN M m := ⟨(mrel_keep hx n M hn).1, (mrel_R n M).2⟩
theorem mrk_pos : ∀ e, e < 13 → 0 < e → 1 ≤ mrk (cm (nI e)) := by decide +kernel
theorem rw_tk {C C1 M : ST} {r e : Nat} {z : Int32} (hc : cdR C M r 1) (h15 : sN C 15 = sN M 32 ∧ sN C 15 ≤ 8) (hN : sN C1 = sN C) (hI : ∀ m, m ≠ 3 → sI C1 m = sI C m) (h10 : sI C1 3 10 = sI C 3 10 ∧ sI C1 3 11 = sI C 3 11) (he : 0 < e ∧ e < 13) (hst : stT (offO (podF (nI e) (sN C1 13) C1) (nI e)) (w6 (mRw M (cm (nI e))) 40 z)) : tkS C M (offO (podF (nI e) (sN C1 13) C1) (nI e)) (w6 (mRw M (cm (nI e))) 40 z) r := by
  have hb := hc.2.2.2.2.2.2
  have h5 := hc.2.2.2.2.1
  have hc1 : cdR C1 M r 1 := hc.N (by rw [hN]) (by rw [hN]) (fun m hm => hI m (by omega)) rfl rfl (fun _ _ => rfl)
  obtain ⟨s1, s2, s3, s4, s5⟩ := pod_st (x := nI e) (sN C1 13) C1 rfl (by rw [hN]; omega)
  have hcp := cdR.pod (stg_mrk ⟨e, he.1, he.2, rfl⟩) (sN C1 13) C1 M hc1 rfl
  obtain ⟨⟨m1, m2, m3, m4, m5⟩, m6⟩ := mrel_st (mrk_pos e he.2 he.1) (M := M) (n := sN C1 13) (by rw [hN]; exact h5.symm)
  have n12 : sN C1 12 = sN C 12 := by rw [hN]
  have n13 : sN C1 13 = sN C 13 := by rw [hN]
  have nn : ∀ m, sN C1 m = sN C m := fun m => by rw [hN]
  obtain ⟨p1, p2, p3, p4⟩ := offO_st (C := podF (nI e) (sN C1 13) C1) (x := nI e) (by omega)
  have e31 : sN M 31 = sN C1 13 := by rw [hN]; exact h5.symm
  unfold mRw at hst ⊢
  rw [e31] at hst ⊢
  obtain ⟨q1, q2, q3, q4⟩ := mwai_st (M := mrel (mrk (cm (nI e))) (sN C1 13) M) (x := cm (nI e))
  have e3 : sI (offO (podF (nI e) (sN C1 13) C1) (nI e)) 3 = sI C1 3 := (p3 3 (by decide)).trans (s1 3 (by decide) (by decide))
  have cc := hcp.off he.2
  refine ⟨cc.N rfl rfl (fun _ _ => rfl) rfl rfl (fun m hm => w6_I (by omega)), ?_, ?_, hst, ?_, ?_⟩
  · rw [p4 15 (by decide), s2 15 (by decide) (by decide), nn 15, w6n, q4 32 (by decide), m6 32 (by decide)]; exact h15.1
  · rw [p4 15 (by decide), s2 15 (by decide) (by decide), nn 15]; exact h15.2
  · refine ⟨by rw [p3 16 (by decide), s1 16 (by decide) (by decide), hI 16 (by decide)], by rw [p4 9 (by decide), s2 9 (by decide) (by decide), nn 9], by rw [p4 11 (by decide), s2 11 (by decide) (by decide), nn 11], by rw [p4 14 (by decide), s2 14 (by decide) (by decide), nn 14], by rw [e3]; exact h10.1, by rw [e3]; exact h10.2, ?_⟩
    rw [p2, p4 12 (by decide)]
    omega
  · exact ⟨by rw [w6_I (by decide), q2 716 (by decide), m2], by rw [w6n, q4 24 (by decide), m6 24 (by decide)], by rw [w6n, q4 28 (by decide), m6 28 (by decide)], by rw [w6n, q4 29 (by decide), m6 29 (by decide)], by rw [w6_I (by decide), q2 719 (by decide), m4], by rw [w6_I (by decide), q2 720 (by decide), m5]⟩
/-- what the class's own side is after an operator -/
theorem op_cl {C C1 : ST} {e : Nat} (hN : sN C1 = sN C) (hI : ∀ m, m ≠ 3 → sI C1 m = sI C m) (hb : sN C 12 + sN C 13 + 1 ≤ 80) : sI (offO (podF (nI e) (sN C1 13) C1) (nI e)) 19 = upd (sI C 19) (sN (podF (nI e) (sN C1 13) C1) 13) (nI e) ∧ sN (offO (podF (nI e) (sN C1 13) C1) (nI e)) 13 = sN (podF (nI e) (sN C1 13) C1) 13 + 1 ∧ sI (offO (podF (nI e) (sN C1 13) C1) (nI e)) 17 = sI (podF (nI e) (sN C1 13) C1) 17 ∧ sI (offO (podF (nI e) (sN C1 13) C1) (nI e)) 18 = sI (podF (nI e) (sN C1 13) C1) 18 ∧ sN (offO (podF (nI e) (sN C1 13) C1) (nI e)) 12 = sN (podF (nI e) (sN C1 13) C1) 12 ∧ sI (offO (podF (nI e) (sN C1 13) C1) (nI e)) 3 = sI C1 3 ∧ (sN (podF (nI e) (sN C1 13) C1) 13 = 0 ∨ stg (sI C 19 (sN (podF (nI e) (sN C1 13) C1) 13 - 1)) < stg (nI e)) := by
  obtain ⟨s1, s2, s3, s4, s5⟩ := pod_st (x := nI e) (sN C1 13) C1 rfl (by rw [hN]; omega)
  have n12 : sN C1 12 = sN C 12 := by rw [hN]
  have n13 : sN C1 13 = sN C 13 := by rw [hN]
  obtain ⟨p1, p2, p3, p4⟩ := offO_st (C := podF (nI e) (sN C1 13) C1) (x := nI e) (by omega)
  rw [hI 19 (by decide)] at s5
  exact ⟨by rw [p1, s1 19 (by decide) (by decide), hI 19 (by decide)], p2, p3 17 (by decide), p3 18 (by decide), p4 12 (by decide), (p3 3 (by decide)).trans (s1 3 (by decide) (by decide)), s5⟩
theorem sg_tk {C M : ST} {r e : Nat} {t : List Bool} {b : Bool} (hc : cdR C M r 1) (h15 : sN C 15 = sN M 32 ∧ sN C 15 ≤ 8) (hy : tyT C t) (ha : stA C M b t) (hb : b = false) (he : 4 ≤ e ∧ e ≤ 9) : tkS C M (offO (podF (nI e) (sN (w3 (w3 C 9 1) 7 3) 13) (w3 (w3 C 9 1) 7 3)) (nI e)) (w6 (mRw M (cm (nI e))) 40 3) r := by
  have hN : sN (w3 (w3 C 9 1) 7 3) = sN C := rfl
  have hI : ∀ m, m ≠ 3 → sI (w3 (w3 C 9 1) 7 3) m = sI C m := fun m hm => (w3i hm).trans (w3i hm)
  have h10 : sI (w3 (w3 C 9 1) 7 3) 3 10 = sI C 3 10 ∧ sI (w3 (w3 C 9 1) 7 3) 3 11 = sI C 3 11 := ⟨(w3o (by decide)).trans (w3o (by decide)), (w3o (by decide)).trans (w3o (by decide))⟩
  obtain ⟨c1, c2, c3, c4, c5, c6, c7⟩ := op_cl (e := e) hN hI (by have := hc.2.2.2.2.2.2; omega)
  obtain ⟨a1, a2, u, rfl, a3⟩ := ha
  have sg : ¬ nI e < 4 ∧ ¬ 9 < nI e := ⟨by rw [show (4 : Int32) = nI 4 from rfl]; exact nI_nlt (by omega) (by omega), by rw [show (9 : Int32) = nI 9 from rfl]; exact nI_nlt (by omega) (by omega)⟩
  obtain ⟨v, v1, v2⟩ := pod_ar (s := sI C 3 10) (x := nI e) (b := b) (Or.inr ⟨sg, hb⟩) (sN (w3 (w3 C 9 1) 7 3) 13) (w3 (w3 C 9 1) 7 3) u rfl (by rw [hN]; have := hc.2.2.2.2.2.2; omega) (by rw [hI 17 (by decide), hI 18 (by decide), hN]; exact hy) (by rw [hI 19 (by decide), hN]; exact a3)
  rw [hI 19 (by decide)] at v2
  refine rw_tk hc h15 hN hI h10 ⟨by omega, by omega⟩ ⟨false :: v, ?_, Or.inr (Or.inl ⟨?_, ?_, true, ?_, ?_, ?_, ?_⟩)⟩
  · unfold tyT
    rw [c3, c4, c5, c6, h10.1]
    exact v1
  · rw [c6]; exact w3s
  · rw [w6s]; decide
  · rw [c6, w3o (by decide), w3s]; rfl
  · intro _; exact w6s
  · intro z; cases z
  · rw [c1, c2]
    subst hb
    refine ar_sg (ar_cnd v2 ?_) sg
    rw [stg_sg sg] at c7
    exact c7
theorem ar_tk {C M : ST} {r e : Nat} {t : List Bool} {b : Bool} (hc : cdR C M r 1) (h15 : sN C 15 = sN M 32 ∧ sN C 15 ≤ 8) (hy : tyT C t) (ha : stA C M b t) (he : 10 ≤ e ∧ e ≤ 12) {z : Int32} (hz : z = if b then 3 else 1) : tkS C M (offO (podF (nI e) (sN (w3 C 7 3) 13) (w3 C 7 3)) (nI e)) (w6 (mRw M (cm (nI e))) 40 z) r := by
  have hN : sN (w3 C 7 3) = sN C := rfl
  have hI : ∀ m, m ≠ 3 → sI (w3 C 7 3) m = sI C m := fun m hm => w3i hm
  have h10 : sI (w3 C 7 3) 3 10 = sI C 3 10 ∧ sI (w3 C 7 3) 3 11 = sI C 3 11 := ⟨w3o (by decide), w3o (by decide)⟩
  obtain ⟨c1, c2, c3, c4, c5, c6, c7⟩ := op_cl (e := e) hN hI (by have := hc.2.2.2.2.2.2; omega)
  obtain ⟨a1, a2, u, rfl, a3⟩ := ha
  have sg : ¬ nI e < 10 ∧ ¬ 12 < nI e := ⟨by rw [show (10 : Int32) = nI 10 from rfl]; exact nI_nlt (by omega) (by omega), by rw [show (12 : Int32) = nI 12 from rfl]; exact nI_nlt (by omega) (by omega)⟩
  obtain ⟨v, v1, v2⟩ := pod_ar (s := sI C 3 10) (x := nI e) (b := b) (Or.inl sg) (sN (w3 C 7 3) 13) (w3 C 7 3) u rfl (by rw [hN]; have := hc.2.2.2.2.2.2; omega) (by rw [hI 17 (by decide), hI 18 (by decide), hN]; exact hy) (by rw [hI 19 (by decide), hN]; exact a3)
  rw [hI 19 (by decide)] at v2
  refine rw_tk hc h15 hN hI h10 ⟨by omega, by omega⟩ ⟨false :: v, ?_, Or.inr (Or.inl ⟨?_, ?_, b, ?_, ?_, ?_, ?_⟩)⟩
  · unfold tyT
    rw [c3, c4, c5, c6, h10.1]
    exact v1
  · rw [c6]; exact w3s
  · rw [w6s, hz]; cases b <;> decide
  · rw [c6, w3o (by decide)]; exact a1
  · intro hb; rw [w6s, hz, hb]; rfl
  · intro hb; rw [w6s, hz, hb]; exact Or.inr rfl
  · rw [c1, c2]
    exact ar_ar v2 sg
theorem jo_tk {C M : ST} {r e : Nat} (hc : cdR C M r 1) (h15 : sN C 15 = sN M 32 ∧ sN C 15 ≤ 8) (ha : (∃ t, tyT C t ∧ stA C M true t) ∨ ∃ u, tyT C (true :: u) ∧ cndF (sI C 19) (sN C 13) u) (he : e = 1 ∨ e = 2) : tkS C M (offO (podF (nI e) (sN (w3 (w3 C 9 0) 7 2) 13) (w3 (w3 C 9 0) 7 2)) (nI e)) (w6 (mRw M (cm (nI e))) 40 0) r := by
  have hN : sN (w3 (w3 C 9 0) 7 2) = sN C := rfl
  have hI : ∀ m, m ≠ 3 → sI (w3 (w3 C 9 0) 7 2) m = sI C m := fun m hm => (w3i hm).trans (w3i hm)
  have h10 : sI (w3 (w3 C 9 0) 7 2) 3 10 = sI C 3 10 ∧ sI (w3 (w3 C 9 0) 7 2) 3 11 = sI C 3 11 := ⟨(w3o (by decide)).trans (w3o (by decide)), (w3o (by decide)).trans (w3o (by decide))⟩
  obtain ⟨c1, c2, c3, c4, c5, c6, c7⟩ := op_cl (e := e) hN hI (by have := hc.2.2.2.2.2.2; omega)
  have sg : nI e = 1 ∨ nI e = 2 := by
    rcases he with rfl | rfl
    · exact Or.inl rfl
    · exact Or.inr rfl
  obtain ⟨v, v1, v2⟩ := pod_cn (s := sI C 3 10) (x := nI e) sg (sN (w3 (w3 C 9 0) 7 2) 13) (w3 (w3 C 9 0) 7 2) rfl (by rw [hN]; have := hc.2.2.2.2.2.2; omega) (by
    rw [hI 17 (by decide), hI 18 (by decide), hN, hI 19 (by decide)]
    rcases ha with ⟨t, hy, a1, a2, u, rfl, a3⟩ | ⟨u, hy, a3⟩
    · exact Or.inl ⟨u, hy, a3⟩
    · exact Or.inr ⟨u, hy, a3⟩)
  rw [hI 19 (by decide)] at v2
  refine rw_tk hc h15 hN hI h10 ⟨by omega, by omega⟩ ⟨true :: v, ?_, Or.inl ⟨?_, ?_, ?_, ?_⟩⟩
  · unfold tyT
    rw [c3, c4, c5, c6, h10.1]
    exact v1
  · rw [c6]; exact w3s
  · rw [c6, w3o (by decide), w3s]
  · exact w6s
  · rw [c1, c2]
    exact cnd_jo v2 sg
theorem z0_cd {C M : ST} {r k : Nat} (hc : cdR C M r k) : ∀ n, n ≤ sN C 13 → 0 < z0 (sI M 737) n → ∃ i, i < n ∧ sI C 19 i = 0
  | 0, _, h => by simp [z0] at h
  | n + 1, hn, h => by
    unfold z0 at h
    by_cases hz : 0 < z0 (sI M 737) n
    · obtain ⟨i, a, b⟩ := z0_cd hc n (by omega) hz
      exact ⟨i, by omega, b⟩
    · obtain ⟨e1, d, hd, e2⟩ := hc.2.2.2.2.2.1 n (by omega)
      refine ⟨n, by omega, ?_⟩
      by_cases hm : mrk (sI M 737 n) < 1
      · rw [e1, e2] at hm
        have key : ∀ d, d < 13 → mrk (cm (nI d)) < 1 → d = 0 := by decide +kernel
        rw [e2, key d hd hm]
        rfl
      · rw [if_neg hm] at h
        omega
theorem cls_tk {C M : ST} {r : Nat} (hj : jI M r 1) (hc : cdR C M r 1) (h15 : sN C 15 = sN M 32 ∧ sN C 15 ≤ 8) (h0 : 0 < sN C 15) (ha : (∃ t, tyT C t ∧ stA C M true t) ∨ ∃ u, tyT C (true :: u) ∧ cndF (sI C 19) (sN C 13) u) : tkS C M (w3 (wN (podF 1 (sN C 13) (wN C 15 (sN C 15 - 1))) 13 (sN (podF 1 (sN C 13) (wN C 15 (sN C 15 - 1))) 13 - 1)) 7 6) (w6 (wN (wN (mrel 1 (sN M 31) M) 31 (sN (mrel 1 (sN M 31) M) 31 - 1)) 32 (sN (mrel 1 (sN M 31) M) 32 - 1)) 40 5) r := by
  have hb := hc.2.2.2.2.2.2
  have h5 := hc.2.2.2.2.1
  have e13 : sN (wN C 15 (sN C 15 - 1)) 13 = sN C 13 := wN_ne (by decide)
  have e12 : sN (wN C 15 (sN C 15 - 1)) 12 = sN C 12 := wN_ne (by decide)
  have hc' : cdR (wN C 15 (sN C 15 - 1)) M r 1 := hc.N e12 e13 (fun _ _ => rfl) rfl rfl (fun _ _ => rfl)
  obtain ⟨s1, s2, s3, s4, s5⟩ := pod_st (x := 1) (sN C 13) (wN C 15 (sN C 15 - 1)) e13 (by omega)
  have hcp : cdR (podF 1 (sN C 13) (wN C 15 (sN C 15 - 1))) (mrel 1 (sN C 13) M) r 1 := cdR.pod (stg_mrk (x := 1) ⟨1, by decide, by decide, rfl⟩) (sN C 13) _ M hc' e13
  obtain ⟨⟨m1, m2, m3, m4, m5⟩, m6⟩ := mrel_st (x := 1) (by decide) (M := M) (n := sN C 13) h5.symm
  obtain ⟨v, v1, v2⟩ := pod_cn (s := sI C 3 10) (x := 1) (Or.inl rfl) (sN C 13) (wN C 15 (sN C 15 - 1)) e13 (by omega) (by
    rw [e12]
    rcases ha with ⟨t, hy, a1, a2, u, rfl, a3⟩ | ⟨u, hy, a3⟩
    · exact Or.inl ⟨u, hy, a3⟩
    · exact Or.inr ⟨u, hy, a3⟩)
  rw [← h5]
  have hpos : 0 < sN (podF 1 (sN C 13) (wN C 15 (sN C 15 - 1))) 13 := by
    have h1 := jI.ho hj (by omega)
    rw [← h5, ← hcp.2.2.2.2.1] at h1
    exact h1
  obtain ⟨n', hn'⟩ : ∃ n', sN (podF 1 (sN C 13) (wN C 15 (sN C 15 - 1))) 13 = n' + 1 := ⟨_, (Nat.sub_add_cancel hpos).symm⟩
  have htop : sI C 19 n' = 0 := by
    rcases s5 with z | z
    · omega
    · rw [hn', Nat.add_sub_cancel] at z
      obtain ⟨-, d, hd, e2⟩ := hc.2.2.2.2.2.1 n' (by omega)
      have z' : stg (sI C 19 n') < stg 1 := z
      rw [e2] at z' ⊢
      have key : ∀ d, d < 13 → stg (nI d) < stg 1 → d = 0 := by decide +kernel
      rw [key d hd z']
      rfl
  have v2' : cndF (sI C 19) (n' + 1) v := by rw [← hn']; exact v2
  have v3 : cndF (sI C 19) n' v := by
    rcases v2' with ⟨-, z⟩ | ⟨z | z, -⟩
    · exact z
    · rw [htop] at z; exact absurd z (by decide)
    · rw [htop] at z; exact absurd z (by decide)
  rw [hn', Nat.add_sub_cancel]
  have e31 : sN (mrel 1 (sN C 13) M) 31 = n' + 1 := by rw [← hcp.2.2.2.2.1]; exact hn'
  have c7 := hcp.2.2.2.2.2.2
  have cN : cdR (wN (podF 1 (sN C 13) (wN C 15 (sN C 15 - 1))) 13 n') (wN (wN (mrel 1 (sN C 13) M) 31 (sN (mrel 1 (sN C 13) M) 31 - 1)) 32 (sN (mrel 1 (sN C 13) M) 32 - 1)) r 0 := by
    obtain ⟨b1, b2, b3, b4, b5, b6, b7⟩ := hcp
    have ep : pcn (wN (wN (mrel 1 (sN C 13) M) 31 (sN (mrel 1 (sN C 13) M) 31 - 1)) 32 (sN (mrel 1 (sN C 13) M) 32 - 1)) = pcn (mrel 1 (sN C 13) M) := by
      show (sI (mrel 1 (sN C 13) M) 721 (sN (wN (wN (mrel 1 (sN C 13) M) 31 _) 32 _) 30)).toNatClampNeg = _
      rw [wN_ne (by decide), wN_ne (by decide)]
      rfl
    refine ⟨by rw [wN_ne (by decide), ep]; exact b1, by rw [wN_ne (by decide), wN_ne (by decide)]; exact b2, by rw [ep]; exact b3, fun i hi => b4 i (by rw [wN_ne (by decide)] at hi; exact hi), by rw [wN_self, wN_ne (by decide), wN_self, e31, Nat.add_sub_cancel], fun i hi => b6 i (by rw [wN_self] at hi; omega), by rw [wN_self, wN_ne (by decide)]; omega⟩
  refine ⟨cN.w, ?_, ?_, ⟨true :: v, ?_, Or.inr (Or.inr (Or.inr ⟨w3s, w6s, v, rfl, ?_⟩))⟩, ?_, ?_⟩
  · rw [w3n, w6n, wN_ne (by decide), s2 15 (by decide) (by decide), wN_self, wN_self, m6 32 (by decide)]; omega
  · rw [w3n, wN_ne (by decide), s2 15 (by decide) (by decide), wN_self]; omega
  · unfold tyT
    rw [w3o (by decide), w3i (by decide), w3i (by decide), w3n, wN_ne (by decide), wNI, wNI, wNI, s1 3 (by decide) (by decide)]
    exact v1
  · rw [w3i (by decide), w3n, wN_self, wNI, s1 19 (by decide) (by decide)]
    exact v3
  · refine ⟨by rw [w3i (by decide), wNI, s1 16 (by decide) (by decide)]; rfl, ?_, ?_, ?_, ?_, ?_, ?_⟩
    · rw [w3n, wN_ne (by decide), s2 9 (by decide) (by decide), wN_ne (by decide)]
    · rw [w3n, wN_ne (by decide), s2 11 (by decide) (by decide), wN_ne (by decide)]
    · rw [w3n, wN_ne (by decide), s2 14 (by decide) (by decide), wN_ne (by decide)]
    · rw [w3o (by decide), wNI, s1 3 (by decide) (by decide)]; rfl
    · rw [w3o (by decide), wNI, s1 3 (by decide) (by decide)]; rfl
    · rw [w3n, wN_self, wN_ne (by decide)]; omega
  · exact ⟨by rw [w6_I (by decide), wNI, wNI, m2], by rw [w6n, wN_ne (by decide), wN_ne (by decide), m6 24 (by decide)], by rw [w6n, wN_ne (by decide), wN_ne (by decide), m6 28 (by decide)], by rw [w6n, wN_ne (by decide), wN_ne (by decide), m6 29 (by decide)], by rw [w6_I (by decide), wNI, wNI, m4], by rw [w6_I (by decide), wNI, wNI, m5]⟩
