/-! from the first word on -/
theorem rl_sim {S M : ST} {r : Nat} (ht : txR S M) : rdO (rdL 80 (stO S)) (mRd M r) r := by
  have cI : ∀ m, m ≠ 3 → sI (stO S) m = sI S m := fun m h => by
    unfold stO
    rw [w3i h, wNI, w3i h]
    rfl
  have c7 : sI (stO S) 3 7 = 0 := by
    unfold stO
    rw [w3o (by decide), wNI, w3s]
  have c9 : sI (stO S) 3 9 = 0 := by
    unfold stO
    rw [w3s]
  have cN : ∀ m, m ≠ 11 → m ≠ 12 → m ≠ 13 → m ≠ 14 → m ≠ 15 → sN (stO S) m = sN S m := fun m x1 x2 x3 x4 x5 => by
    unfold stO
    rw [w3n, wN_ne x5, w3n, wN_ne x4, wN_ne x3, wN_ne x2, wN_ne x1]
  have c11 : sN (stO S) 11 = 0 ∧ sN (stO S) 12 = 0 ∧ sN (stO S) 13 = 0 ∧ sN (stO S) 14 = 0 ∧ sN (stO S) 15 = 0 := by
    unfold stO
    rw [w3n, wN_self, wN_ne (by decide), wN_ne (by decide), wN_ne (by decide), wN_ne (by decide), w3n, wN_self, wN_ne (by decide), wN_ne (by decide), wN_ne (by decide), wN_self, wN_ne (by decide), wN_ne (by decide), wN_self, wN_ne (by decide), wN_self]
    exact ⟨rfl, rfl, rfl, rfl, rfl⟩
  have aI : ∀ m, m ≠ 600 → m ≠ 721 → sI (mS0 M r) m = sI M m := fun m x1 x2 => by
    unfold mS0
    rw [wIo x2, w6_I x1]
    rfl
  have a721 : sI (mS0 M r) 721 r = 0 := by
    unfold mS0
    rw [wIs]
    exact if_pos rfl
  have a40 : sI (mS0 M r) 600 40 = 0 := by
    unfold mS0
    rw [wIo (by decide), w6s]
  have aN : ∀ m, m ≠ 28 → m ≠ 29 → m ≠ 30 → m ≠ 31 → m ≠ 32 → sN (mS0 M r) m = sN M m := fun m x1 x2 x3 x4 x5 => by
    unfold mS0
    show sN (w6 _ 40 0) m = _
    rw [w6n, w6n, wN_ne x5, wN_ne x4, wN_ne x2, wN_ne x1, wN_ne x3]
  have a28 : sN (mS0 M r) 28 = 0 ∧ sN (mS0 M r) 29 = 0 ∧ sN (mS0 M r) 30 = r ∧ sN (mS0 M r) 31 = 0 ∧ sN (mS0 M r) 32 = 0 := by
    unfold mS0
    show sN (w6 _ 40 0) 28 = 0 ∧ sN (w6 _ 40 0) 29 = 0 ∧ sN (w6 _ 40 0) 30 = r ∧ sN (w6 _ 40 0) 31 = 0 ∧ sN (w6 _ 40 0) 32 = 0
    refine ⟨?_, ?_, ?_, ?_, ?_⟩
    · rw [w6n, w6n, wN_ne (by decide), wN_ne (by decide), wN_ne (by decide), wN_self]
    · rw [w6n, w6n, wN_ne (by decide), wN_ne (by decide), wN_self]
    · rw [w6n, w6n, wN_ne (by decide), wN_ne (by decide), wN_ne (by decide), wN_ne (by decide), wN_self]
    · rw [w6n, w6n, wN_ne (by decide), wN_self]
    · rw [w6n, w6n, wN_self]
  have hj0 : jI (mS0 M r) r 0 := mS0_jI (by rw [← ht.1]; exact ht.2.1)
  unfold mRd
  generalize mS0 M r = A at *
  generalize stO S = C at *
  have tA : txR C A := by
    refine ⟨?_, ?_, fun j hj => ?_⟩
    · rw [cN 9 (by decide) (by decide) (by decide) (by decide) (by decide), aN 24 (by decide) (by decide) (by decide) (by decide) (by decide)]; exact ht.1
    · rw [cN 9 (by decide) (by decide) (by decide) (by decide) (by decide)]; exact ht.2.1
    · rw [cN 9 (by decide) (by decide) (by decide) (by decide) (by decide)] at hj
      rw [aI 716 (by decide) (by decide), cI 16 (by decide)]
      exact ht.2.2 j hj
  have h11 : sN C 11 = sN A 28 := by omega
  have hle : sN C 11 ≤ sN C 9 := by omega
  obtain ⟨e1, e2, b1, b2, b3⟩ := nx_eq tA h11 hle
  unfold rdL mRd1
  rw [e1, e2]
  by_cases hlt : mP A < mE A
  · rw [if_pos hlt]
    obtain ⟨j1, -, j3⟩ := jI.nx hj0 hlt
    have hw := nx_wd tA h11 hle hlt
    have eW : tWd (nxW C) = tSub (nxW C) := by
      unfold tWd
      rw [nxW_I', c7, if_pos rfl]
    rw [eW]
    have k1 := wd_sp hw [112, 97, 114, 116] (wdR 112 97 114 116 0) (by decide) (by decide) (by decide +kernel)
    have k2 := wd_sp hw [110, 101, 116] (wdR 110 101 116 0 0) (by decide) (by decide) (by decide +kernel)
    have k3 := wd_sp hw [112, 105, 110] (wdR 112 105 110 0 0) (by decide) (by decide) (by decide +kernel)
    have eV : mWv A = spR (mnx A) := by
      unfold mWv
      rw [if_pos hlt]
    have eNo : mNo A = mnx A := by
      unfold mNo
      rw [if_pos hlt]
    have hsub : (tSub (nxW C) = none ∧ sbR (mWv A) = -1) ∨ ∃ v : Int32, (v = 0 ∨ v = 1 ∨ v = 2) ∧ tSub (nxW C) = some (w3 (w3 (nxW C) 10 v) 7 1) ∧ sbR (mWv A) = v := by
      rw [eV]
      unfold tSub sbR
      by_cases w1 : cw (nxW C) [112, 97, 114, 116]
      · rw [if_pos w1, if_pos (k1.mpr w1)]
        exact Or.inr ⟨0, Or.inl rfl, rfl, rfl⟩
      · rw [if_neg w1, if_neg (fun z => w1 (k1.mp z))]
        by_cases w2 : cw (nxW C) [110, 101, 116]
        · rw [if_pos w2, if_pos (k2.mpr w2)]
          exact Or.inr ⟨1, Or.inr (Or.inl rfl), rfl, rfl⟩
        · rw [if_neg w2, if_neg (fun z => w2 (k2.mp z))]
          by_cases w3' : cw (nxW C) [112, 105, 110]
          · rw [if_pos w3', if_pos (k3.mpr w3')]
            exact Or.inr ⟨2, Or.inr (Or.inr rfl), rfl, rfl⟩
          · rw [if_neg w3', if_neg (fun z => w3' (k3.mp z))]
            exact Or.inl ⟨rfl, rfl⟩
    clear k1 k2 k3
    rcases hsub with ⟨g1, g2⟩ | ⟨v, hv, g1, g2⟩
    · rw [g1, if_neg (fun z => z.2 g2)]
      refine Or.inr ⟨rfl, fun z => absurd z.1 Bool.false_ne_true, ?_⟩
      show sN (mNo A) 29 = sN (nxW C) 14 + 1
      rw [eNo, j3, nxW_N (by decide)]
      omega
    · rw [g1, if_pos ⟨hlt, by rw [g2]; rcases hv with e | e | e <;> rw [e] <;> decide⟩]
      show rdO (rdL 79 (wN (w3 (w3 (nxW C) 10 v) 7 1) 14 (sN (w3 (w3 (nxW C) 10 v) 7 1) 14 + 1))) _ r
      have dN : ∀ m, m ≠ 10 → m ≠ 11 → m ≠ 14 → sN (wN (w3 (w3 (nxW C) 10 v) 7 1) 14 (sN (w3 (w3 (nxW C) 10 v) 7 1) 14 + 1)) m = sN C m := fun m x1 x2 x3 => by
        rw [wN_ne x3, w3n, w3n, nxW_N ⟨x1, x2⟩]
      have dI : ∀ m, m ≠ 3 → sI (wN (w3 (w3 (nxW C) 10 v) 7 1) 14 (sN (w3 (w3 (nxW C) 10 v) 7 1) 14 + 1)) m = sI C m := fun m x => by
        rw [wNI, w3i x, w3i x, nxW_I']
      have d7 : sI (wN (w3 (w3 (nxW C) 10 v) 7 1) 14 (sN (w3 (w3 (nxW C) 10 v) 7 1) 14 + 1)) 3 7 = 1 := by rw [wNI, w3s]
      have d10 : sI (wN (w3 (w3 (nxW C) 10 v) 7 1) 14 (sN (w3 (w3 (nxW C) 10 v) 7 1) 14 + 1)) 3 10 = v := by rw [wNI, w3o (by decide), w3s]
      have d9 : sI (wN (w3 (w3 (nxW C) 10 v) 7 1) 14 (sN (w3 (w3 (nxW C) 10 v) 7 1) 14 + 1)) 3 9 = 0 := by rw [wNI, w3o (by decide), w3o (by decide), nxW_I', c9]
      have d14 : sN (wN (w3 (w3 (nxW C) 10 v) 7 1) 14 (sN (w3 (w3 (nxW C) 10 v) 7 1) 14 + 1)) 14 = 1 := by rw [wN_self, w3n, w3n, nxW_N (by decide)]; omega
      have d11 : sN (wN (w3 (w3 (nxW C) 10 v) 7 1) 14 (sN (w3 (w3 (nxW C) 10 v) 7 1) 14 + 1)) 11 = mE A := by rw [wN_ne (by decide), w3n, w3n, e2]
      have bI : ∀ m, m ≠ 719 → sI (mS1 A r) m = sI A m := fun m x => by
        unfold mS1
        rw [wIo x, eNo, mnx_s]
      have b719 : sI (mS1 A r) 719 r = v := by
        unfold mS1
        rw [wIs, g2]
        exact if_pos rfl
      have bN : ∀ m, m ≠ 27 → m ≠ 28 → m ≠ 29 → sN (mS1 A r) m = sN A m := fun m x1 x2 x3 => by
        show sN (mNo A) m = _
        rw [eNo, mnx_N ⟨x1, x2, x3⟩]
      have b28 : sN (mS1 A r) 28 = mE A := by
        show sN (mNo A) 28 = _
        rw [eNo, mnx_28]
      have b29 : sN (mS1 A r) 29 = 1 := by
        show sN (mNo A) 29 = _
        rw [eNo, j3]; omega
      have hjB : jI (mS1 A r) r 0 := (jI.no hj0 hlt).i719
      generalize wN (w3 (w3 (nxW C) 10 v) 7 1) 14 (sN (w3 (w3 (nxW C) 10 v) 7 1) 14 + 1) = D at *
      generalize mS1 A r = B at *
      have tB : txR D B := by
        refine ⟨?_, ?_, fun j hj => ?_⟩
        · rw [dN 9 (by decide) (by decide) (by decide), bN 24 (by decide) (by decide) (by decide)]; exact tA.1
        · rw [dN 9 (by decide) (by decide) (by decide)]; exact tA.2.1
        · rw [dN 9 (by decide) (by decide) (by decide)] at hj
          rw [bI 716 (by decide), dI 16 (by decide)]
          exact tA.2.2 j hj
      have h11' : sN D 11 = sN B 28 := by omega
      have hle' : sN D 11 ≤ sN D 9 := by rw [dN 9 (by decide) (by decide) (by decide)]; omega
      obtain ⟨e1', e2', b1', b2', b3'⟩ := nx_eq tB h11' hle'
      unfold rdL mRd2
      rw [e1', e2']
      by_cases hlt' : mP B < mE B
      · rw [if_pos hlt']
        obtain ⟨j1', -, j3'⟩ := jI.nx hjB hlt'
        have hw' := nx_wd tB h11' hle' hlt'
        have eW' : tWd (nxW D) = tWei (nxW D) := by
          unfold tWd
          rw [nxW_I', d7, if_neg (by decide), if_pos rfl]
        rw [eW']
        have k1 := wd_sp hw' [119, 97, 114, 110] (wdR 119 97 114 110 0) (by decide) (by decide) (by decide +kernel)
        have k2 := wd_sp hw' [101, 114, 114, 111, 114] (wdR 101 114 114 111 114) (by decide) (by decide) (by decide +kernel)
        have eV' : mWv B = spR (mnx B) := by
          unfold mWv
          rw [if_pos hlt']
        have eNo' : mNo B = mnx B := by
          unfold mNo
          rw [if_pos hlt']
        have hwei : (tWei (nxW D) = none ∧ wtR (mWv B) = 0) ∨ ∃ u : Int32, (u = 1 ∨ u = 2) ∧ tWei (nxW D) = some (w3 (w3 (nxW D) 11 u) 7 2) ∧ wtR (mWv B) = u := by
          rw [eV']
          unfold tWei wtR
          by_cases w1 : cw (nxW D) [119, 97, 114, 110]
          · rw [if_pos w1, if_pos (k1.mpr w1)]
            exact Or.inr ⟨1, Or.inl rfl, rfl, rfl⟩
          · rw [if_neg w1, if_neg (fun z => w1 (k1.mp z))]
            by_cases w2 : cw (nxW D) [101, 114, 114, 111, 114]
            · rw [if_pos w2, if_pos (k2.mpr w2)]
              exact Or.inr ⟨2, Or.inr rfl, rfl, rfl⟩
            · rw [if_neg w2, if_neg (fun z => w2 (k2.mp z))]
              exact Or.inl ⟨rfl, rfl⟩
        clear k1 k2
        rcases hwei with ⟨g1', g2'⟩ | ⟨u, hu, g1', g2'⟩
        · rw [g1', if_neg (fun z => z.2 g2')]
          refine Or.inr ⟨rfl, fun z => absurd z.1 Bool.false_ne_true, ?_⟩
          show sN (mNo B) 29 = sN (nxW D) 14 + 1
          rw [eNo', j3', nxW_N (by decide)]
          omega
        · rw [g1', if_pos ⟨hlt', by rw [g2']; rcases hu with e | e <;> rw [e] <;> decide⟩]
          show rdO (rdL 78 (wN (w3 (w3 (nxW D) 11 u) 7 2) 14 (sN (w3 (w3 (nxW D) 11 u) 7 2) 14 + 1))) _ r
          have f14 : sN (wN (w3 (w3 (nxW D) 11 u) 7 2) 14 (sN (w3 (w3 (nxW D) 11 u) 7 2) 14 + 1)) 14 = 2 := by rw [wN_self, w3n, w3n, nxW_N (by decide)]; omega
          have fN : ∀ m, m ≠ 10 → m ≠ 11 → m ≠ 14 → sN (wN (w3 (w3 (nxW D) 11 u) 7 2) 14 (sN (w3 (w3 (nxW D) 11 u) 7 2) 14 + 1)) m = sN C m := fun m x1 x2 x3 => by
            rw [wN_ne x3, w3n, w3n, nxW_N ⟨x1, x2⟩, dN m x1 x2 x3]
          have hjE : jI (mS2 B r) r 0 := (jI.no hjB hlt').i720
          have sN2 : ∀ m, m ≠ 27 → m ≠ 28 → m ≠ 29 → sN (mS2 B r) m = sN A m := fun m x1 x2 x3 => by
            show sN (mNo B) m = _
            rw [eNo', mnx_N ⟨x1, x2, x3⟩, bN m x1 x2 x3]
          have sI2 : ∀ m, m ≠ 719 → m ≠ 720 → sI (mS2 B r) m = sI A m := fun m x1 x2 => by
            unfold mS2
            rw [wIo x2, eNo', mnx_s, bI m x1]
          refine rd_sim 78 78 82 _ _ (Nat.le_refl _) ⟨⟨⟨?_, ?_, fun j hj => ?_⟩, ?_, ?_, ?_, ?_, ?_, ?_, ?_, ?_⟩, ⟨?_, ?_, ?_, fun i hi => ?_, ?_, fun i hi => ?_, ?_⟩, ?_, hjE, [], ?_, Or.inl ⟨?_, ?_, ?_, ?_⟩⟩ (by rw [f14]) (by decide)
          · rw [fN 9 (by decide) (by decide) (by decide), sN2 24 (by decide) (by decide) (by decide)]; exact tA.1
          · rw [fN 9 (by decide) (by decide) (by decide)]; exact tA.2.1
          · rw [fN 9 (by decide) (by decide) (by decide)] at hj
            rw [sI2 716 (by decide) (by decide), wNI, w3i (by decide), w3i (by decide), nxW_I', dI 16 (by decide)]
            exact tA.2.2 j hj
          · rw [wN_ne (by decide), w3n, w3n, e2']
            show _ = sN (mNo B) 28
            rw [eNo', mnx_28]
          · rw [fN 9 (by decide) (by decide) (by decide), wN_ne (by decide), w3n, w3n, e2']
            rw [dN 9 (by decide) (by decide) (by decide)] at b3'
            exact b3'
          · rw [f14]
            show _ = sN (mNo B) 29
            rw [eNo', j3']; omega
          · rw [f14, fN 12 (by decide) (by decide) (by decide), fN 13 (by decide) (by decide) (by decide)]; omega
          · unfold mS2
            rw [wIo (by decide), eNo', mnx_s, b719, wNI, w3o (by decide), w3o (by decide), nxW_I', d10]
          · unfold mS2
            rw [wIs, g2', wNI, w3o (by decide), w3s]
            exact if_pos rfl
          · rw [wNI, w3o (by decide), w3o (by decide), nxW_I', d10]
            exact hv
          · rw [wNI, w3o (by decide), w3s]
            exact hu
          · rw [fN 12 (by decide) (by decide) (by decide)]
            show _ = (sI (mS2 B r) 721 (sN (mS2 B r) 30)).toNatClampNeg
            rw [sI2 721 (by decide) (by decide), sN2 30 (by decide) (by decide) (by decide), a28.2.2.1, a721]
            exact c11.2.1
          · rw [sN2 30 (by decide) (by decide) (by decide)]; exact a28.2.2.1
          · show _ = nI (sI (mS2 B r) 721 (sN (mS2 B r) 30)).toNatClampNeg
            rw [sI2 721 (by decide) (by decide), sN2 30 (by decide) (by decide) (by decide), a28.2.2.1, a721]
            rfl
          · rw [fN 12 (by decide) (by decide) (by decide)] at hi; omega
          · rw [fN 13 (by decide) (by decide) (by decide), sN2 31 (by decide) (by decide) (by decide)]; omega
          · rw [fN 13 (by decide) (by decide) (by decide)] at hi; omega
          · rw [fN 12 (by decide) (by decide) (by decide), fN 13 (by decide) (by decide) (by decide)]; omega
          · rw [fN 15 (by decide) (by decide) (by decide), sN2 32 (by decide) (by decide) (by decide)]; omega
          · unfold tyT
            rw [fN 12 (by decide) (by decide) (by decide), c11.2.1]
            rfl
          · rw [wNI, w3s]
          · rw [wNI, w3o (by decide), w3o (by decide), nxW_I', d9]
          · rw [sI2 600 (by decide) (by decide), a40]
          · rw [fN 13 (by decide) (by decide) (by decide), c11.2.2.1]
            rfl
      · rw [if_neg hlt', if_neg (fun z => hlt' z.1)]
        refine Or.inr ⟨rfl, fun z => ?_, ?_⟩
        · rcases z.2.2 with q | q
          · rw [nxW_I', d7] at q; exact absurd q (by decide)
          · rw [nxW_I', d7] at q; exact absurd q.1 (by decide)
        · show sN (mNo B) 29 = sN (nxW D) 14 + 1
          have e29 : sN (mnx B) 29 = sN B 29 := by
            rw [mnx, if_neg hlt', wN_ne (by decide), wN_ne (by decide)]
          unfold mNo
          rw [if_neg hlt', wN_self, nxW_N (by decide), e29]
          omega
  · rw [if_neg hlt, if_neg (fun z => hlt z.1)]
    refine Or.inr ⟨rfl, fun z => ?_, ?_⟩
    · rcases z.2.2 with q | q
      · rw [nxW_I', c7] at q; exact absurd q (by decide)
      · rw [nxW_I', c7] at q; exact absurd q.1 (by decide)
    · show sN (mNo A) 29 = sN (nxW C) 14 + 1
      have e29 : sN (mnx A) 29 = sN A 29 := by
        rw [mnx, if_neg hlt, wN_ne (by decide), wN_ne (by decide)]
      unfold mNo
      rw [if_neg hlt, wN_self, nxW_N (by decide), e29]
      omega
