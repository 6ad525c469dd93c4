/-! A row of remarks moves: its object 5 + j, its arrays 22 + 3 j .. -/
theorem cell_rem {w : zC} {ad ad' : Nat → Nat} {S S' : ST} {i j : Nat} (hj : j < 3) (had : ∀ m, (m ≠ 22 + 3 * j ∧ m ≠ 23 + 3 * j ∧ m ≠ 24 + 3 * j) → ad' m = ad m) (hN : ∀ m, (m ≠ 17 + j ∧ m ≠ 4 + j) → S'.2.2.2 m = S.2.2.2 m) (h1 : S'.1 i = S.1 i) (h2 : S'.2.1 i = S.2.1 i) (h3 : S'.2.2.1 i = S.2.2.1 i)
    (h8 : S.2.2.2 8 = 1 ∨ S.2.2.2 8 = 2) (hord : ∀ k, k < S.2.2.2 0 + S.2.2.2 1 + S.2.2.2 2 → 100 ≤ S.2.2.2 (1000 + k)) (hi : i ≠ 5 + j ∧ i ≠ 22 + 3 * j ∧ i ≠ 23 + 3 * j ∧ i ≠ 24 + 3 * j) : cellOf w ad' S' i = cellOf w ad S i := by
  have e0 := hN 0 (by omega)
  have e1 := hN 1 (by omega)
  have e2 := hN 2 (by omega)
  have e3 := hN 3 (by omega)
  have e8 := hN 8 (by omega)
  by_cases c15 : i = 15
  · subst c15
    rw [cell_K (by decide), cell_K (by decide)]
    show xr w 7 240 _ = xr w 7 240 _
    congr 1
    funext k
    simp only [sN, sR, e0, e1, e2, h3]
    by_cases hk : k < S.2.2.2 0 + S.2.2.2 1 + S.2.2.2 2
    · have := hord k hk
      rw [if_pos hk, if_pos hk, hN (1000 + k) (by omega), had _ (by omega)]
    · rw [if_neg hk, if_neg hk]
  by_cases c0 : i = 0
  · subst c0
    rw [cell_K (by decide), cell_K (by decide)]
    have f1 := had (5 + S.2.2.2 8) (by omega)
    have f2 := had (8 - S.2.2.2 8) (by omega)
    show (.inr (0, [_, _, _, _, _, _, _, _, _, _, _]) : va_E) = .inr (0, [_, _, _, _, _, _, _, _, _, _, _])
    simp only [sN, sI, e8, e3, h1, f1, f2]
    rw [had 1 (by omega), had 3 (by omega), had 8 (by omega), had 9 (by omega), had 4 (by omega), had 5 (by omega), had 10 (by omega)]
  by_cases c1 : i < 100
  · rw [cell_K c1, cell_K c1]
    unfold cellK
    split <;> first | (exfalso; omega) | (simp (disch := omega) only [sN, sI, sJ, sR, had, hN, h1, h2, h3]; done) | (simp (disch := omega) only [sN, sI, sJ, sR, had, hN, h1, h2, h3] <;> rfl)
  by_cases c2 : 520 ≤ i
  · rw [cell_M c2, cell_M c2]
    unfold cellM
    split <;> first | (simp (disch := omega) only [moF, sN, sI, sJ, sR, had, hN, h1, h2, h3]; done) | rfl
  unfold cellOf
  rw [if_neg c1, if_neg c1]
  by_cases c3 : i < 220
  · rw [if_pos c3, if_pos c3]
    by_cases d1 : (i - 100) % 3 = 0
    · rw [if_pos d1, if_pos d1]
      have e : 100 + 3 * ((i - 100) / 3) = i := by omega
      simp only [pPart, sI, e, h1]
      rw [had _ (by omega), had _ (by omega)]
    rw [if_neg d1, if_neg d1]
    by_cases d2 : (i - 100) % 3 = 1
    · rw [if_pos d2, if_pos d2]; simp only [sI, h1]
    rw [if_neg d2, if_neg d2]; simp only [sJ, h2]
  rw [if_neg c3, if_neg c3]
  by_cases c4 : i < 300
  · rw [if_pos c4, if_pos c4]
    by_cases d1 : (i - 220) % 2 = 0
    · rw [if_pos d1, if_pos d1]
      have e : 220 + 2 * ((i - 220) / 2) = i := by omega
      simp only [pNet, sI, e, h1]
      rw [had _ (by omega)]
    rw [if_neg d1, if_neg d1]; simp only [sI, h1]
  rw [if_neg c4, if_neg c4]
  by_cases c5 : i < 460
  · rw [if_pos c5, if_pos c5]
    have e : 300 + (i - 300) = i := by omega
    have em : (fun n => ad' (220 + 2 * n)) = (fun n => ad (220 + 2 * n)) := funext fun n => had _ (by omega)
    simp only [pPin, sI, sN, sR, e, h1, h3, em]
    rw [hN _ (by omega), had (100 + 3 * _) (by omega)]
  rw [if_neg c5, if_neg c5]
  have c6 : i < 520 := by omega
  rw [if_pos c6, if_pos c6]
  by_cases d1 : (i - 460) % 3 = 0
  · rw [if_pos d1, if_pos d1]
    have e : 460 + 3 * ((i - 460) / 3) = i := by omega
    simp only [pRule, sI, e, h1]
    rw [had _ (by omega), had _ (by omega)]
  rw [if_neg d1, if_neg d1]; simp only [sI, sN, h1]
  rw [hN _ (by omega)]
/-- where the arrays of row j lie now -/
def rAd (ad : Nat → Nat) (j k v f : Nat) : Nat → Nat := va_up (va_up (va_up ad (22 + 3 * j) k) (23 + 3 * j) v) (24 + 3 * j) f
def rSt (S : ST) (j c n : Nat) (kf wf ff : Nat → Int32) : ST := (va_up (va_up (va_up S.1 (22 + 3 * j) kf) (23 + 3 * j) wf) (24 + 3 * j) ff, S.2.1, S.2.2.1, va_up (va_up S.2.2.2 (17 + j) c) (4 + j) n)
theorem rAd_ne {ad : Nat → Nat} {j k v f m : Nat} (h : m ≠ 22 + 3 * j ∧ m ≠ 23 + 3 * j ∧ m ≠ 24 + 3 * j) : rAd ad j k v f m = ad m := by
  unfold rAd
  rw [va_up_ne _ _ h.2.2, va_up_ne _ _ h.2.1, va_up_ne _ _ h.1]
theorem rAd_0 {ad : Nat → Nat} {j k v f : Nat} : rAd ad j k v f (22 + 3 * j) = k := by
  unfold rAd
  rw [va_up_ne _ _ (by omega), va_up_ne _ _ (by omega), va_up_self]
theorem rAd_1 {ad : Nat → Nat} {j k v f : Nat} : rAd ad j k v f (23 + 3 * j) = v := by
  unfold rAd
  rw [va_up_ne _ _ (by omega), va_up_self]
theorem rAd_2 {ad : Nat → Nat} {j k v f : Nat} : rAd ad j k v f (24 + 3 * j) = f := va_up_self _ _ _
theorem rSt_N {S : ST} {j c n m : Nat} {kf wf ff : Nat → Int32} (h : m ≠ 17 + j ∧ m ≠ 4 + j) : sN (rSt S j c n kf wf ff) m = sN S m := by
  show va_up (va_up S.2.2.2 (17 + j) c) (4 + j) n m = _
  rw [va_up_ne _ _ h.2, va_up_ne _ _ h.1]
theorem rSt_c {S : ST} {j c n : Nat} {kf wf ff : Nat → Int32} : sN (rSt S j c n kf wf ff) (17 + j) = c := by
  show va_up (va_up S.2.2.2 (17 + j) c) (4 + j) n (17 + j) = _
  rw [va_up_ne _ _ (by omega), va_up_self]
theorem rSt_n {S : ST} {j c n : Nat} {kf wf ff : Nat → Int32} : sN (rSt S j c n kf wf ff) (4 + j) = n := va_up_self _ _ _
theorem rSt_I {S : ST} {j c n m : Nat} {kf wf ff : Nat → Int32} (h : m ≠ 22 + 3 * j ∧ m ≠ 23 + 3 * j ∧ m ≠ 24 + 3 * j) : sI (rSt S j c n kf wf ff) m = sI S m := by
  show va_up (va_up (va_up S.1 (22 + 3 * j) kf) (23 + 3 * j) wf) (24 + 3 * j) ff m = _
  rw [va_up_ne _ _ h.2.2, va_up_ne _ _ h.2.1, va_up_ne _ _ h.1]
theorem rSt_0 {S : ST} {j c n : Nat} {kf wf ff : Nat → Int32} : sI (rSt S j c n kf wf ff) (22 + 3 * j) = kf := by
  show va_up (va_up (va_up S.1 (22 + 3 * j) kf) (23 + 3 * j) wf) (24 + 3 * j) ff _ = _
  rw [va_up_ne _ _ (by omega), va_up_ne _ _ (by omega), va_up_self]
theorem rSt_1 {S : ST} {j c n : Nat} {kf wf ff : Nat → Int32} : sI (rSt S j c n kf wf ff) (23 + 3 * j) = wf := by
  show va_up (va_up (va_up S.1 (22 + 3 * j) kf) (23 + 3 * j) wf) (24 + 3 * j) ff _ = _
  rw [va_up_ne _ _ (by omega), va_up_self]
theorem rSt_2 {S : ST} {j c n : Nat} {kf wf ff : Nat → Int32} : sI (rSt S j c n kf wf ff) (24 + 3 * j) = ff := va_up_self _ _ _
theorem rSt_live {S : ST} {j c n i : Nat} {kf wf ff : Nat → Int32} (hj : j < 3) : liveS (rSt S j c n kf wf ff) i ↔ liveS S i := by
  simp only [liveS]
  rw [rSt_N (m := 0) (by omega), rSt_N (m := 1) (by omega), rSt_N (m := 2) (by omega), rSt_N (m := 3) (by omega)]
/-- the cells of row j -/
theorem cell_ro {w : zC} {ad : Nat → Nat} {S : ST} {j : Nat} (hj : j < 3) : cellOf w ad S (5 + j) = .inr (5, [.ref (ad (22 + 3 * j)), .ref (ad (23 + 3 * j)), .ref (ad (24 + 3 * j)), .int (nI (sN S (17 + j)))]) := by
  rw [cell_K (by omega)]
  rcases (show j = 0 ∨ j = 1 ∨ j = 2 by omega) with rfl | rfl | rfl <;> rfl
theorem cell_ra {w : zC} {ad : Nat → Nat} {S : ST} {j t : Nat} (hj : j < 3) (ht : t < 3) : cellOf w ad S (22 + t + 3 * j) = xi w (sN S (4 + j)) (sI S (22 + t + 3 * j)) := by
  rw [cell_K (by omega)]
  rcases (show j = 0 ∨ j = 1 ∨ j = 2 by omega) with rfl | rfl | rfl <;> rcases (show t = 0 ∨ t = 1 ∨ t = 2 by omega) with rfl | rfl | rfl <;> rfl
theorem Rep.rem {w : zC} {ad : Nat → Nat} {S : ST} {Z : zZ} (h : Rep w ad S Z) {j : Nat} (hj : j < 3) : zhs Z (ad (5 + j)) (.inr (5, [.ref (ad (22 + 3 * j)), .ref (ad (23 + 3 * j)), .ref (ad (24 + 3 * j)), .int (nI (sN S (17 + j)))])) ∧ zhs Z (ad (22 + 3 * j)) (xi w (sN S (4 + j)) (sI S (22 + 3 * j))) ∧ zhs Z (ad (23 + 3 * j)) (xi w (sN S (4 + j)) (sI S (23 + 3 * j))) ∧ zhs Z (ad (24 + 3 * j)) (xi w (sN S (4 + j)) (sI S (24 + 3 * j))) := by
  refine ⟨?_, ?_, ?_, ?_⟩
  · rw [← cell_ro (w := w) hj]; exact h.2.2 _ (by simp only [liveS]; omega)
  · rw [← cell_ra (w := w) (ad := ad) (t := 0) hj (by decide)]; exact h.2.2 _ (by simp only [liveS]; omega)
  · rw [← cell_ra (w := w) (ad := ad) (t := 1) hj (by decide)]; exact h.2.2 _ (by simp only [liveS]; omega)
  · rw [← cell_ra (w := w) (ad := ad) (t := 2) hj (by decide)]; exact h.2.2 _ (by simp only [liveS]; omega)
def ciOrd (S : ST) : Prop := ∀ k, k < sN S 0 + sN S 1 + sN S 2 → 100 ≤ sN S (1000 + k)
theorem Rep.remPut {w : zC} {ad : Nat → Nat} {S : ST} {Z Z' : zZ} (h : Rep w ad S Z) {j k v f c n : Nat} {kf wf ff : Nat → Int32} (hj : j < 3) (ho : ciOrd S) (hk : k = ad (22 + 3 * j) ∨ k ∉ Z.1) (hv : v = ad (23 + 3 * j) ∨ v ∉ Z.1) (hf : f = ad (24 + 3 * j) ∨ f ∉ Z.1) (kv : k ≠ v) (kf9 : k ≠ f) (vf : v ≠ f)
    (g0 : zhs Z' (ad (5 + j)) (.inr (5, [.ref k, .ref v, .ref f, .int (nI c)]))) (g1 : zhs Z' k (xi w n kf)) (g2 : zhs Z' v (xi w n wf)) (g3 : zhs Z' f (xi w n ff)) (hfr : zfr Z Z' [ad (5 + j), ad (22 + 3 * j), ad (23 + 3 * j), ad (24 + 3 * j)]) : Rep w (rAd ad j k v f) (rSt S j c n kf wf ff) Z' := by
  obtain ⟨⟨b0, b1, b2, b3, b8⟩, hF⟩ := h
  have L : ∀ i, i < 31 → liveS S i := fun i hi => Or.inl hi
  refine ⟨⟨by rw [rSt_N (by omega)]; exact b0, by rw [rSt_N (by omega)]; exact b1, by rw [rSt_N (by omega)]; exact b2, by rw [rSt_N (by omega)]; exact b3, by rw [rSt_N (by omega)]; exact b8⟩, ?_, ?_⟩
  · -- apart
    have fresh : ∀ q t, (q = ad (22 + t + 3 * j) ∨ q ∉ Z.1) → t < 3 → ∀ m, liveS S m → m ≠ 22 + t + 3 * j → ad m ≠ q := by
      intro q t hq ht m hm hne z
      rcases hq with hq | hq
      · exact hne (hF.1 m _ hm (L _ (by omega)) (z.trans hq))
      · exact hq (z ▸ (hF.2 m hm).1)
    intro x y hx hy he
    rw [rSt_live hj] at hx hy
    have key : ∀ m, liveS S m → (m = 22 + 3 * j ∧ rAd ad j k v f m = k) ∨ (m = 23 + 3 * j ∧ rAd ad j k v f m = v) ∨ (m = 24 + 3 * j ∧ rAd ad j k v f m = f) ∨ ((m ≠ 22 + 3 * j ∧ m ≠ 23 + 3 * j ∧ m ≠ 24 + 3 * j) ∧ rAd ad j k v f m = ad m) := by
      intro m _
      by_cases m0 : m = 22 + 3 * j
      · exact Or.inl ⟨m0, by rw [m0, rAd_0]⟩
      by_cases m1 : m = 23 + 3 * j
      · exact Or.inr (Or.inl ⟨m1, by rw [m1, rAd_1]⟩)
      by_cases m2 : m = 24 + 3 * j
      · exact Or.inr (Or.inr (Or.inl ⟨m2, by rw [m2, rAd_2]⟩))
      exact Or.inr (Or.inr (Or.inr ⟨⟨m0, m1, m2⟩, rAd_ne ⟨m0, m1, m2⟩⟩))
    rcases key x hx with ⟨x0, x1⟩ | ⟨x0, x1⟩ | ⟨x0, x1⟩ | ⟨x0, x1⟩ <;> rcases key y hy with ⟨y0, y1⟩ | ⟨y0, y1⟩ | ⟨y0, y1⟩ | ⟨y0, y1⟩ <;> rw [x1, y1] at he
    · omega
    · exact absurd he kv
    · exact absurd he kf9
    · exact absurd he.symm (fresh k 0 hk (by decide) y hy (by omega))
    · exact absurd he.symm kv
    · omega
    · exact absurd he vf
    · exact absurd he.symm (fresh v 1 hv (by decide) y hy (by omega))
    · exact absurd he.symm kf9
    · exact absurd he.symm vf
    · omega
    · exact absurd he.symm (fresh f 2 hf (by decide) y hy (by omega))
    · exact absurd he (fresh k 0 hk (by decide) x hx (by omega))
    · exact absurd he (fresh v 1 hv (by decide) x hx (by omega))
    · exact absurd he (fresh f 2 hf (by decide) x hx (by omega))
    · exact hF.1 x y hx hy he
  · intro i hi
    rw [rSt_live hj] at hi
    by_cases i5 : i = 5 + j
    · subst i5
      rw [cell_ro hj, rAd_0, rAd_1, rAd_2, rAd_ne (by omega), rSt_c]
      exact g0
    by_cases i0 : i = 22 + 3 * j
    · subst i0
      rw [rAd_0, show cellOf w (rAd ad j k v f) (rSt S j c n kf wf ff) (22 + 3 * j) = _ from cell_ra (t := 0) hj (by decide), rSt_n, show sI (rSt S j c n kf wf ff) (22 + 0 + 3 * j) = kf from rSt_0]
      exact g1
    by_cases i1 : i = 23 + 3 * j
    · subst i1
      rw [rAd_1, show cellOf w (rAd ad j k v f) (rSt S j c n kf wf ff) (23 + 3 * j) = _ from cell_ra (t := 1) hj (by decide), rSt_n, show sI (rSt S j c n kf wf ff) (22 + 1 + 3 * j) = wf from rSt_1]
      exact g2
    by_cases i2 : i = 24 + 3 * j
    · subst i2
      rw [rAd_2, show cellOf w (rAd ad j k v f) (rSt S j c n kf wf ff) (24 + 3 * j) = _ from cell_ra (t := 2) hj (by decide), rSt_n, show sI (rSt S j c n kf wf ff) (22 + 2 + 3 * j) = ff from rSt_2]
      exact g3
    rw [rAd_ne ⟨i0, i1, i2⟩, cell_rem hj (fun m hm => rAd_ne hm) (fun m hm => rSt_N hm) (rSt_I ⟨i0, i1, i2⟩) rfl rfl b8 ho ⟨i5, i0, i1, i2⟩]
    refine hfr _ _ ?_ (hF.2 i hi)
    simp only [List.mem_cons, List.not_mem_nil, or_false, not_or]
    exact ⟨fun z => i5 (hF.1 _ _ hi (L _ (by omega)) z), fun z => i0 (hF.1 _ _ hi (L _ (by omega)) z), fun z => i1 (hF.1 _ _ hi (L _ (by omega)) z), fun z => i2 (hF.1 _ _ hi (L _ (by omega)) z)⟩
