/-! remarks read, class and reference -/
theorem nI_div {a b : Nat} (ha : a < 2 ^ 31) (hb : 0 < b) (hb2 : b < 2 ^ 31) : nI a / nI b = nI (a / b) := by
  apply Int32.toInt_inj.mp
  have hle : a / b ≤ a := Nat.div_le_self a b
  rw [Int32.toInt_div, nI_toInt ha, nI_toInt hb2, ← Int.ofNat_tdiv]
  generalize a / b = d at *
  rw [nI_toInt (by omega), Int.bmod_eq_of_le (by omega) (by omega)]
theorem nI_mod {a b : Nat} (ha : a < 2 ^ 31) (hb : 0 < b) (hb2 : b < 2 ^ 31) : nI a - nI a / nI b * nI b = nI (a % b) := by
  have h1 := Nat.div_mul_le_self a b
  rw [nI_div ha hb hb2, nI_mul, nI_sub h1]
  congr 1
  have := Nat.div_add_mod a b
  rw [Nat.mul_comm] at this
  omega
theorem fnd_get : ∀ (L : List Nat) (k : Nat), k < 2 ^ 31 → (fndL L (nI k)).1 = L[k]?
  | [], _, _ => rfl
  | i :: t, 0, _ => by
    unfold fndL
    rw [if_pos (show nI 0 = 0 from rfl)]
    rfl
  | i :: t, k + 1, h => by
    unfold fndL
    rw [if_neg (fun z => by rw [show (0 : Int32) = nI 0 from rfl, nI_eq h (by omega)] at z; omega)]
    rw [show nI (k + 1) - 1 = nI k by rw [show (1 : Int32) = nI 1 from rfl, nI_sub (by omega)]; rfl, fnd_get t k (by omega)]
    rfl
theorem raV_row {S : ST} {kf : Nat → Int32} {cnt : Nat} {P : Nat → Prop} {E : Nat → Nat → Prop} {cl x : Int32} (h : rowR S kf cnt P E) (hg : gT S) (hP : ∀ x, x < 6480 → (isC S cl x ↔ P x)) (hc : cnt ≤ 3720) (hran : sI S 600 29 = 0 → cnt = 0) : (inr x cnt → ∃ k c q r, k < cnt ∧ x = nI k ∧ tok S c q ∧ r < 27 ∧ kf k = nI (plN S c q * 27 + r) ∧ E k (tI r (nI c) q) ∧ raV S x cl = nI (tI r (nI c) q)) ∧ (¬ inr x cnt → raV S x cl = -1) := by
  obtain ⟨h1, h2⟩ := h.list hg hP
  constructor
  · rintro ⟨x0, x1⟩
    obtain ⟨k, hk, rfl⟩ := nI_of x0
    have hkc : k < cnt := by
      rw [nI_leI (by omega) hk] at x1
      omega
    obtain ⟨c, q, r, ht, hr, e1, e2, e3⟩ := h2 k hkc
    refine ⟨k, c, q, r, hkc, rfl, ht, hr, e1, e2, ?_⟩
    unfold raV
    rw [if_neg (fun z => by
      rcases z with z | z
      · exact x0 z
      · have := hran z; omega)]
    have := fnd_get (lH S cl 16 0) k hk
    rw [e3] at this
    cases hf : fndL (lH S cl 16 0) (nI k) with
    | mk a b =>
      rw [hf] at this
      subst this
      rfl
  · intro hx
    unfold raV
    by_cases z : x < 0 ∨ sI S 600 29 = 0
    · rw [if_pos z]
    · rw [if_neg z]
      have x0 : ¬ x < 0 := fun y => z (Or.inl y)
      obtain ⟨k, hk, rfl⟩ := nI_of x0
      have hkc : cnt ≤ k := by
        refine Decidable.byContradiction fun y => hx ⟨x0, ?_⟩
        rw [nI_leI (by omega) hk]
        omega
      have := fnd_get (lH S cl 16 0) k hk
      rw [List.getElem?_eq_none (by omega)] at this
      cases hf : fndL (lH S cl 16 0) (nI k) with
      | mk a b =>
        rw [hf] at this
        subst this
        rfl
theorem inr_cases {t : Int32} {n : Nat} (h : inr t n) (hn : n < 2 ^ 31) : ∃ k, k < n ∧ t = nI k := by
  obtain ⟨h0, h1⟩ := h
  obtain ⟨k, hk, rfl⟩ := nI_of h0
  rw [nI_leI (by omega) hk] at h1
  exact ⟨k, by omega, rfl⟩
theorem abt_eq {S : ST} (hs : ciSh S) (hb : bdS S) {c q r : Nat} (ht : tok S c q) (hr : r < 27) : abt (nI (plN S c q * 27 + r)) 0 = nI (tI r (nI c) q) / 240 ∧ abt (nI (plN S c q * 27 + r)) 1 = kdR (nI (tI r (nI c) q)) ∧ abt (nI (plN S c q * 27 + r)) 2 = nmR (nI (tI r (nI c) q)) := by
  have hp := plN_lt hs hb ht
  obtain ⟨b1, b2, b3⟩ := ht.bd hb
  obtain ⟨d1, d2, d3, d4⟩ := tI_dec (r := r) ht.c3 (ht.cap hb)
  have d5 := d4 hr
  have e27 : nI (plN S c q * 27 + r) / 27 = nI (plN S c q) := by
    rw [show (27 : Int32) = nI 27 from rfl, nI_div (by omega) (by omega) (by omega)]
    congr 1
    omega
  have e160 : nI (plN S c q) / 160 = nI (shN S c q * 3 + c) := by
    rw [show (160 : Int32) = nI 160 from rfl, nI_div (by omega) (by omega) (by omega)]
    congr 1
    unfold plN
    omega
  have hsh := (hs.sh ht).1
  have emod : nI (tI r (nI c) q) - nI (tI r (nI c) q) / 240 * 240 = nI (tI r (nI c) q % 240) := by
    rw [show (240 : Int32) = nI 240 from rfl]
    exact nI_mod (by omega) (by omega) (by omega)
  have hm : tI r (nI c) q % 240 < 240 := Nat.mod_lt _ (by omega)
  have l40 : (40 : Int32) ≤ nI (tI r (nI c) q % 240) ↔ 40 ≤ tI r (nI c) q % 240 := by rw [show (40 : Int32) = nI 40 from rfl, nI_leI (by omega) (by omega)]
  have l80 : (80 : Int32) ≤ nI (tI r (nI c) q % 240) ↔ 80 ≤ tI r (nI c) q % 240 := by rw [show (80 : Int32) = nI 80 from rfl, nI_leI (by omega) (by omega)]
  refine ⟨?_, ?_, ?_⟩
  · unfold abt
    rw [if_pos rfl]
    have := nI_mod (a := plN S c q * 27 + r) (b := 27) (by omega) (by omega) (by omega)
    rw [show (27 : Int32) = nI 27 from rfl, this, show (240 : Int32) = nI 240 from rfl, nI_div (by omega) (by omega) (by omega), d3]
    congr 1
    omega
  · unfold abt
    rw [if_neg (by decide), if_pos rfl, e27, e160, show (3 : Int32) = nI 3 from rfl, nI_mod (by omega) (by omega) (by omega)]
    unfold kdR
    rw [emod]
    unfold kdN at d1
    rw [show (shN S c q * 3 + c) % 3 = c by omega]
    by_cases z : tI r (nI c) q % 240 < 40
    · rw [if_pos z] at d1
      rw [if_neg (fun y => by have := l40.mp y; omega), ← d1]
      rfl
    · rw [if_neg z] at d1
      rw [if_pos (l40.mpr (by omega))]
      by_cases z2 : tI r (nI c) q % 240 < 80
      · rw [if_pos z2] at d1
        rw [if_neg (fun y => by have := l80.mp y; omega), ← d1]
        rfl
      · rw [if_neg z2] at d1
        rw [if_pos (l80.mpr (by omega)), ← d1]
        rfl
  · unfold abt
    rw [if_neg (by decide), if_neg (by decide), e27, show (160 : Int32) = nI 160 from rfl, nI_mod (by omega) (by omega) (by omega)]
    unfold nmR
    rw [emod]
    unfold nmN at d2
    have eq : plN S c q % 160 = q := by
      unfold plN
      omega
    rw [eq]
    by_cases z : tI r (nI c) q % 240 < 40
    · rw [if_pos z] at d2
      rw [if_neg (fun y => by have := l40.mp y; omega), d2]
    · rw [if_neg z] at d2
      rw [if_pos (l40.mpr (by omega))]
      by_cases z2 : tI r (nI c) q % 240 < 80
      · rw [if_pos z2] at d2
        rw [if_neg (fun y => by have := l80.mp y; omega), show (40 : Int32) = nI 40 from rfl, nI_sub (by omega), d2]
      · rw [if_neg z2] at d2
        rw [if_pos (l80.mpr (by omega)), show (80 : Int32) = nI 80 from rfl, nI_sub (by omega), d2]
theorem si_remark {n : Nat} {S : ST} {x : Int32} (h : Sim n S) : (inr x (sN S (17 + sN S 8)) → ∃ k i, k < sN S (17 + sN S 8) ∧ x = nI k ∧ i < 6480 ∧ raV S x 0 = nI i ∧ ∀ t, inr t 6 → rmkV S k t = rmM S i t) ∧ (¬ inr x (sN S (17 + sN S 8)) → raV S x 0 = -1) := by
  have hg := h.1
  have hb := hg.1.2.1
  have hs := hg.2.2.2.2.2.2.2.2.1
  obtain ⟨⟨r1, r8⟩, row, -, -, -, hran⟩ := h.2.2.2.2.2.2.1
  have hc := r1 (sN S 8) (by omega)
  obtain ⟨a, b⟩ := raV_row (cl := 0) (x := x) row hg (fun y _ => ⟨fun z => by
    rcases z with z | z
    · exact absurd rfl z.1
    · exact Int32.not_le.mp z.2, fun z => Or.inr ⟨rfl, Int32.not_le.mpr z⟩⟩) (by have := hc.1; have := hc.2.2; omega) (fun z => (hran z).1)
  refine ⟨fun hx => ?_, b⟩
  obtain ⟨k, c, q, r, hk, ex, ht, hr, ek, ⟨e3, e4⟩, e5⟩ := a hx
  refine ⟨k, tI r (nI c) q, hk, ex, (tI_dec ht.c3 (ht.cap hb)).2.2.2 hr, e5, fun t htt => ?_⟩
  obtain ⟨j, hj, rfl⟩ := inr_cases htt (by omega)
  obtain ⟨z0, z1, z2⟩ := abt_eq hs hb ht hr
  unfold rmkV rmM
  rw [ek]
  rcases (show j = 0 ∨ j = 1 ∨ j = 2 ∨ j = 3 ∨ j = 4 ∨ j = 5 by omega) with rfl | rfl | rfl | rfl | rfl | rfl
  · rw [if_neg (show ¬ nI 0 = 3 by decide), if_neg (show ¬ nI 0 = 4 by decide), if_neg (show ¬ nI 0 = 5 by decide), if_pos (show nI 0 = 0 from rfl)]
    exact z0
  · rw [if_neg (show ¬ nI 1 = 3 by decide), if_neg (show ¬ nI 1 = 4 by decide), if_neg (show ¬ nI 1 = 5 by decide), if_neg (show ¬ nI 1 = 0 by decide), if_pos (show nI 1 = 1 from rfl)]
    exact z1
  · rw [if_neg (show ¬ nI 2 = 3 by decide), if_neg (show ¬ nI 2 = 4 by decide), if_neg (show ¬ nI 2 = 5 by decide), if_neg (show ¬ nI 2 = 0 by decide), if_neg (show ¬ nI 2 = 1 by decide), if_pos (show nI 2 = 2 from rfl)]
    exact z2
  · rw [if_pos (show nI 3 = 3 from rfl), if_neg (show ¬ nI 3 = 0 by decide), if_neg (show ¬ nI 3 = 1 by decide), if_neg (show ¬ nI 3 = 2 by decide), if_pos (show nI 3 = 3 from rfl)]
    exact e3
  · rw [if_neg (show ¬ nI 4 = 3 by decide), if_pos (show nI 4 = 4 from rfl), if_neg (show ¬ nI 4 = 0 by decide), if_neg (show ¬ nI 4 = 1 by decide), if_neg (show ¬ nI 4 = 2 by decide), if_neg (show ¬ nI 4 = 3 by decide), if_pos (show nI 4 = 4 from rfl)]
    exact e4
  · rw [if_neg (show ¬ nI 5 = 3 by decide), if_neg (show ¬ nI 5 = 4 by decide), if_pos (show nI 5 = 5 from rfl), if_neg (show ¬ nI 5 = 0 by decide), if_neg (show ¬ nI 5 = 1 by decide), if_neg (show ¬ nI 5 = 2 by decide), if_neg (show ¬ nI 5 = 3 by decide), if_neg (show ¬ nI 5 = 4 by decide)]
    exact h.2.2.2.2.2.1.rs hs hb ht hr
theorem si_closed {n : Nat} {S : ST} {x : Int32} (h : Sim n S) : (inr x (sN S 17) → ∃ k i, k < sN S 17 ∧ x = nI k ∧ i < 6480 ∧ raV S x 1 = nI i ∧ ∀ t, inr t 4 → cldV S k t = clM S i t) ∧ (¬ inr x (sN S 17) → raV S x 1 = -1) := by
  have hg := h.1
  have hb := hg.1.2.1
  have hs := hg.2.2.2.2.2.2.2.2.1
  obtain ⟨⟨r1, r8⟩, -, row, -, -, hran⟩ := h.2.2.2.2.2.2.1
  have hc := r1 0 (by omega)
  have hc1 : sN S 17 ≤ sN S 4 := hc.1
  have hc2 : sN S 4 ≤ 3720 := hc.2.2
  obtain ⟨a, b⟩ := raV_row (cl := 1) (x := x) row hg (fun y _ => ⟨fun z => by
    rcases z with z | z
    · exact ⟨Int32.not_le.mp z.2.1, z.2.2⟩
    · exact absurd z.1 (by decide), fun z => Or.inl ⟨by decide, Int32.not_le.mpr z.1, z.2⟩⟩) (by omega) (fun z => (hran z).2)
  refine ⟨fun hx => ?_, b⟩
  obtain ⟨k, c, q, r, hk, ex, ht, hr, ek, e4, e5⟩ := a hx
  refine ⟨k, tI r (nI c) q, hk, ex, (tI_dec ht.c3 (ht.cap hb)).2.2.2 hr, e5, fun t htt => ?_⟩
  obtain ⟨j, hj, rfl⟩ := inr_cases htt (by omega)
  obtain ⟨z0, z1, z2⟩ := abt_eq hs hb ht hr
  unfold cldV clM
  rw [ek]
  rcases (show j = 0 ∨ j = 1 ∨ j = 2 ∨ j = 3 by omega) with rfl | rfl | rfl | rfl
  · rw [if_neg (show ¬ nI 0 = 3 by decide), if_pos (show nI 0 = 0 from rfl)]
    exact z0
  · rw [if_neg (show ¬ nI 1 = 3 by decide), if_neg (show ¬ nI 1 = 0 by decide), if_pos (show nI 1 = 1 from rfl)]
    exact z1
  · rw [if_neg (show ¬ nI 2 = 3 by decide), if_neg (show ¬ nI 2 = 0 by decide), if_neg (show ¬ nI 2 = 1 by decide), if_pos (show nI 2 = 2 from rfl)]
    exact z2
  · rw [if_pos (show nI 3 = 3 from rfl), if_neg (show ¬ nI 3 = 0 by decide), if_neg (show ¬ nI 3 = 1 by decide), if_neg (show ¬ nI 3 = 2 by decide)]
    exact e4
