/-! a run, class and reference -/
def gM (S : ST) : Prop := ∀ i, i < 100 → sI S 701 i = sI S 11 i
theorem rZ_I {S : ST} {g : Nat → Int64} {m : Nat} (h : m ≠ 600) (h6 : m ≠ 726) (h7 : m ≠ 727) (h8 : m ≠ 728) : sI (runZ S g) m = sI S m := by
  unfold runZ
  rw [wIo h]
  show (if m = 726 then _ else if m = 727 then _ else if m = 728 then _ else (thS S 0).1 m) = _
  rw [if_neg h6, if_neg h7, if_neg h8]
  exact wIo h
theorem rZ_600 {S : ST} {g : Nat → Int64} {k : Nat} (h0 : k ≠ 0) (h29 : k ≠ 29) : sI (runZ S g) 600 k = sI S 600 k := by
  unfold runZ
  rw [wIs, va_up_ne _ _ h29]
  unfold thS
  rw [wIs, va_up_ne _ _ h0]
theorem rZ_29 {S : ST} {g : Nat → Int64} : sI (runZ S g) 600 29 = 1 := by
  unfold runZ
  rw [wIs, va_up_self]
theorem rZ_x {S : ST} {g : Nat → Int64} : sI (runZ S g) 726 = (runT S).1 ∧ sI (runZ S g) 727 = (runT S).2.1 ∧ sI (runZ S g) 728 = mixF (sI S 728) (sI S 726) 6480 := by
  unfold runZ
  rw [wIo (by decide), wIo (by decide), wIo (by decide)]
  exact ⟨rfl, rfl, rfl⟩
theorem rZ_N {S : ST} {g : Nat → Int64} : sN (runZ S g) = sN S := rfl
theorem rZ_R {S : ST} {g : Nat → Int64} : sR (runZ S g) = sR S := rfl
theorem rZ_J {S : ST} {g : Nat → Int64} {m : Nat} (h : m ≠ 741) : sJ (runZ S g) m = sJ S m := va_up_ne _ _ h
theorem gT.run {S : ST} {g : Nat → Int64} (h : gT S) : gT (runZ S g) := h.cg (fun m hm => rZ_I (by omega) (by omega) (by omega) (by omega)) (fun m hm => rZ_J (by omega)) (fun _ _ _ => rfl) (fun _ _ => rfl)
theorem run_frame {S S1 S' : ST} {j b : Nat} (hjb : j + b = 3) (h8 : sN S 8 = b) (hj : j = 1 ∨ j = 2) (hmv : mv (bgn S) S1 j) (hmvC : mvC S1 S' j) : (∀ m, (m < 22 ∨ 30 < m) → sI S' m = sI S m) ∧ (∀ m, m ≠ 10 → sJ S' m = sJ S m) ∧ (sR S' = sR S) ∧ (∀ m, (m < 4 ∨ m = 7 ∨ (9 ≤ m ∧ m ≤ 16) ∨ 20 ≤ m) → sN S' m = sN S m) ∧ sN S' 8 = j ∧ (sI S1 (22 + 3 * b) = sI S (22 + 3 * b) ∧ sI S1 (23 + 3 * b) = sI S (23 + 3 * b) ∧ sI S1 (24 + 3 * b) = sI S (24 + 3 * b) ∧ sN S1 (17 + b) = sN S (17 + b)) ∧ (sI S' (22 + 3 * j) = sI S1 (22 + 3 * j) ∧ sI S' (23 + 3 * j) = sI S1 (23 + 3 * j) ∧ sN S' (17 + j) = sN S1 (17 + j)) := by
  obtain ⟨m1, m2, m3, m4⟩ := hmv
  obtain ⟨c1, c2, c3, c4⟩ := hmvC
  have bI : sI (bgn S) = sI S := rfl
  have bJ : sJ (bgn S) = sJ S := rfl
  have bR : sR (bgn S) = sR S := rfl
  have e3 : 3 - sN S 8 = j := by omega
  have bN : ∀ m, m ≠ 17 + j → m ≠ 8 → sN (bgn S) m = sN S m := fun m h1 h2 => by
    unfold bgn swp
    rw [e3, wN_ne h1, wN_ne h2]
  have b8 : sN (bgn S) 8 = j := by
    unfold bgn swp
    rw [e3, wN_ne (by omega), wN_self]
  refine ⟨fun m hm => ?_, fun m hm => ?_, ?_, fun m hm => ?_, ?_, ⟨?_, ?_, ?_, ?_⟩, ?_, ?_, ?_⟩
  · rw [c1 m (by omega), m1 m (by omega), bI]
  · rw [c2 m hm, m2 m hm, bJ]
  · rw [c3, m3, bR]
  · rw [c4 m (by omega), m4 m (by omega), bN m (by omega) (by omega)]
  · rw [c4 8 (by omega), m4 8 (by omega), b8]
  · rw [m1 _ (by omega), bI]
  · rw [m1 _ (by omega), bI]
  · rw [m1 _ (by omega), bI]
  · rw [m4 _ (by omega), bN _ (by omega) (by omega)]
  · exact c1 _ (by omega)
  · exact c1 _ (by omega)
  · exact c4 _ (by omega)
theorem run_sim {n : Nat} {S S1 S' : ST} {j b : Nat} {g : Nat → Int64} (hT : gT S) (hD : gD S) (hM : gM S) (hF : gF S) (hW : gW S) (hR : gR S) (hV : gV n S) (hn : n ≤ 600) (hjb : j + b = 3) (h8 : sN S 8 = b) (hmv : mv (bgn S) S1 j) (hrem : remL S1 j = allR S (sN S 0 + sN S 1 + sN S 2) 0) (hmvC : mvC S1 S' j) (hcmp : (sI S' (24 + 3 * j), remL S' 0) = cmpF (sI S1 (22 + 3 * j)) (sN S1 (17 + j)) (sI S1 (22 + 3 * b)) (sI S1 (23 + 3 * b)) (sI S1 (24 + 3 * b)) (sN S1 (17 + b)) 0 0 (sI S1 (24 + 3 * j), [])) (hcap : ∀ t, t < 3 → capOK S' t) : gT S' ∧ gD S' ∧ gM S' ∧ gF S' ∧ gW S' ∧ gV n S' ∧ gR (runZ S' g) ∧ opn S' j (sN S' (17 + j)) 0 = (runT S').2.2 := by
  obtain ⟨⟨-, hb12⟩, row1, -, zr1, zr2, -⟩ := hR
  have hj : j = 1 ∨ j = 2 := by omega
  obtain ⟨fI, fJ, fR, fN, f8, ⟨bk1, bk2, bk3, bk4⟩, fk1, fk2, fk3⟩ := run_frame hjb h8 hj hmv hmvC
  have hT' : gT S' := hT.cg (fun m hm => fI m (by omega)) (fun m hm => fJ m (by omega)) (fun m _ _ => by rw [fR]) (fun m hm => fN m (by omega))
  have hD' : gD S' := hD.cg (fun m hm => fI m (by omega)) (fun m hm => fN m (by omega))
  have hM' : gM S' := fun i hi => by rw [fI 701 (by omega), fI 11 (by omega)]; exact hM i hi
  have hF' : gF S' := fun k hk => by rw [fI 724 (by omega), fI 9 (by omega), fN 3 (by omega)]; exact hF k hk
  have htk : ∀ c q, tok S' c q ↔ tok S c q := fun c q => tok_cg (fun m hm => fN m (by omega))
  have hpl : ∀ c q, tok S c q → plN S' c q = plN S c q := fun c q ht => by
    have := tid_bd hT.1.2.1 ht
    unfold plN shN
    rw [fI (tid c q) (by omega)]
  have hW' : gW S' := hW.cg (fun c q ht => ⟨(htk c q).mpr ht, hpl c q ht⟩) (fun m hm => fI m (by omega)) (fN 16 (by omega)) (fN 26 (by omega))
  have hV' : gV n S' := by
    obtain ⟨v, v1, v2, v3, v4⟩ := hV
    exact ⟨v, v1, v2, by rw [fI 0 (by omega)]; exact v3, by rw [fI 600 (by omega)]; exact v4⟩
  have hb := hT.1.2.1
  have hs := hT.2.2.2.2.2.2.2.2.1
  have hb' := hT'.1.2.1
  have hs' := hT'.2.2.2.2.2.2.2.2.1
  have heq : eqT S S' := ⟨fun m hm => fI m (by omega), fun m hm => fJ m (by omega), fun m _ => by rw [fR], fun m hm => fN m (by omega)⟩
  have hwg : ∀ c q r, wgt S' c q r = wgt S c q r := fun c q r => wgt_eqT heq hD.ind c q r
  obtain ⟨v, v1, v2, v3, v4⟩ := hV
  have hvpos : 0 < nI v := by rw [show (0 : Int32) = nI 0 from rfl]; exact nI_lt v1 (by omega)
  have hW0 : ∀ c q r, tok S c q → r < 27 → wRr S' r (nI c) q = (if r < 7 + sN S 3 ∧ sI S 9 r = 0 then wgt S c q r else 0) ∧ 0 ≤ wRr S' r (nI c) q := fun c q r ht hr => by
    have := wR_eq hT' hD' hM' hF' ((htk c q).mpr ht) hr
    rw [fN 3 (by omega), fI 9 (by omega), hwg] at this
    exact this
  have hmny : ∀ c, c < 3 → mny S' c ≤ capN c := fun c hc => by
    refine Decidable.byContradiction fun z => ?_
    have := (mny_tok hT' hc).mp (show capN c < mny S' c by omega)
    have := this.cap hb'
    omega
  have hhit : ∀ c q r, tok S c q → r < 27 → (runT S').1 (tI r (nI c) q) = nwV S' (mixF (sI S' 728) (sI S' 726) 6480) (wRr S' r (nI c) q) (tI r (nI c) q) ∧ (runT S').2.1 (tI r (nI c) q) = wRr S' r (nI c) q := fun c q r ht hr => by
    have := (mny_tok hT' ht.c3).mpr ((htk c q).mpr ht)
    exact rnR_hit hmny ht.c3 this 27 0 _ (by omega) (by omega)
  have hbf : ∀ x, x < 6480 → mixF (sI S' 728) (sI S' 726) 6480 x = sI S 726 x := fun x hx => by
    unfold mixF
    rw [if_pos hx, fI 726 (by omega)]
  have hx6 : ∀ c q r, tok S c q → r < 27 → tI r (nI c) q < 6480 := fun c q r ht hr => (tI_dec ht.c3 (ht.cap hb)).2.2.2 hr
  have hnow : ∀ c q r, tok S c q → r < 27 → (runT S').1 (tI r (nI c) q) = (if wRr S' r (nI c) q = 0 then 0 else if sI S 726 (tI r (nI c) q) ≤ 0 then nI v else sI S 726 (tI r (nI c) q)) := fun c q r ht hr => by
    rw [(hhit c q r ht hr).1]
    unfold nwV
    rw [hbf _ (hx6 c q r ht hr), fI 600 (by omega), v4]
  have hnow0 : ∀ c q r, tok S c q → r < 27 → (0 < (runT S').1 (tI r (nI c) q) ↔ 0 < wRr S' r (nI c) q) ∧ ((runT S').1 (tI r (nI c) q) = 0 ∨ 0 < (runT S').1 (tI r (nI c) q)) := fun c q r ht hr => by
    have hw := (hW0 c q r ht hr).2
    rw [hnow c q r ht hr]
    by_cases z : wRr S' r (nI c) q = 0
    · rw [if_pos z, z]
      exact ⟨Iff.rfl, Or.inl rfl⟩
    · rw [if_neg z]
      have hpos : 0 < wRr S' r (nI c) q := by
        rw [Int32.le_iff_toInt_le] at hw
        rw [Int32.lt_iff_toInt_lt]
        have : wRr S' r (nI c) q ≠ 0 := z
        rw [Ne, ← Int32.toInt_inj] at this
        rw [show (0 : Int32).toInt = 0 by decide] at *
        omega
      by_cases y : sI S 726 (tI r (nI c) q) ≤ 0
      · rw [if_pos y]
        exact ⟨⟨fun _ => hpos, fun _ => hvpos⟩, Or.inr hvpos⟩
      · rw [if_neg y]
        have y' := Int32.not_le.mp y
        exact ⟨⟨fun _ => hpos, fun _ => y'⟩, Or.inr y'⟩
  have hmiss : ∀ x, (∀ c q r, tok S c q → r < 27 → x ≠ tI r (nI c) q) → (runT S').1 x = sI S 726 x := fun x hx => by
    have := (rnR_miss (S := S') (bf := mixF (sI S' 728) (sI S' 726) 6480) (x := x) 27 0 (sI S' 726, sI S' 727, 0) (fun p c q h1 h2 h3 h4 => hx c q p ((htk c q).mp ((mny_tok hT' h3).mp h4)) (by omega))).1
    show (rnR S' (mixF (sI S' 728) (sI S' 726) 6480) 27 0 (sI S' 726, sI S' 727, 0)).1 x = _
    rw [this, fI 726 (by omega)]
  -- the class's list
  obtain ⟨a1, a2⟩ := remL_get hrem
  have hsrt := all_srt hT hD.2.1 (sN S 0 + sN S 1 + sN S 2) 0 0 (by omega) (Or.inr (by omega))
  have hel : ∀ i, i < sN S1 (17 + j) → ∃ c q p, tok S c q ∧ p < 7 + sN S 3 ∧ sI S 9 p = 0 ∧ 0 < wgt S c q p ∧ sI S1 (22 + 3 * j) i = nI (plN S c q * 27 + p) ∧ sI S1 (23 + 3 * j) i = wgt S c q p ∧ sI S1 (24 + 3 * j) i = nI v := fun i hi => by
    have hm := List.mem_of_getElem? (a2 i hi)
    obtain ⟨c, q, p, x1, x2, x3, x4, x5⟩ := (all_mem hT).mp hm
    injection x5 with y1 y2
    injection y2 with y2 y3
    exact ⟨c, q, p, x1, x2, x3, x4, y1, y2, by rw [y3, v3]⟩
  have hklt : ∀ x y, x < y → y < sN S1 (17 + j) → sI S1 (22 + 3 * j) x < sI S1 (22 + 3 * j) y := fun x y hxy hy => by
    have hp := hsrt.2
    rw [List.pairwise_map, List.pairwise_iff_getElem] at hp
    have hx' : x < (allR S (sN S 0 + sN S 1 + sN S 2) 0).length := by omega
    have hy' : y < (allR S (sN S 0 + sN S 1 + sN S 2) 0).length := by omega
    have := hp x y hx' hy' hxy
    have gx := a2 x (by omega)
    have gy := a2 y hy
    rw [List.getElem?_eq_getElem hx', Option.some.injEq] at gx
    rw [List.getElem?_eq_getElem hy', Option.some.injEq] at gy
    rw [gx, gy] at this
    obtain ⟨c, q, p, x1, x2, x3, x4, x5, -⟩ := hel x (by omega)
    obtain ⟨c', q', p', y1, y2, y3, y4, y5, -⟩ := hel y hy
    have hq1 := plN_lt hs hb x1
    have hq2 := plN_lt hs hb y1
    have h3 := hD.2.1
    unfold kR at this
    simp only [x5, y5] at this ⊢
    rw [nI_clamp (by omega), nI_clamp (by omega)] at this
    exact nI_lt this (by omega)
  have hkin : ∀ c q r, tok S c q → r < 27 → 0 < wRr S' r (nI c) q → ∃ i, i < sN S1 (17 + j) ∧ sI S1 (22 + 3 * j) i = nI (plN S c q * 27 + r) := fun c q r ht hr hw => by
    rw [(hW0 c q r ht hr).1] at hw
    by_cases z : r < 7 + sN S 3 ∧ sI S 9 r = 0
    · rw [if_pos z] at hw
      have hm := (all_mem hT).mpr ⟨c, q, r, ht, z.1, z.2, hw, rfl⟩
      obtain ⟨i, hi, e⟩ := List.getElem_of_mem hm
      have g1 := a2 i (by omega)
      rw [List.getElem?_eq_getElem hi, e, Option.some.injEq] at g1
      injection g1 with y1 y2
      exact ⟨i, by omega, y1.symm⟩
    · rw [if_neg z] at hw
      exact absurd hw (by decide)
  rw [bk1, bk2, bk3, bk4] at hcmp
  rw [h8] at row1
  obtain ⟨r1, r2, r3⟩ := row1
  obtain ⟨q1, M, q2, q3, q4⟩ := cmp_spec (bw := sI S (23 + 3 * b)) (bf := sI S (24 + 3 * b)) hklt r3 (sN S (17 + b)) 0 0 (sI S1 (24 + 3 * j), []) (by omega) (by omega) (Or.inr (fun x hx => by omega))
  have hc1 := congrArg Prod.fst hcmp
  have hc2 := congrArg Prod.snd hcmp
  simp only at hc1 hc2
  rw [q2, List.nil_append] at hc2
  rw [← hc1] at q1
  obtain ⟨z1, z2⟩ := remL_get hc2
  simp only [Nat.mul_zero, Nat.add_zero, List.length_map] at z1 z2
  obtain ⟨u1, u2, u3⟩ := rZ_x (S := S') (g := g)
  have hkey : ∀ c q r c' q' r', tok S c q → tok S c' q' → r < 27 → r' < 27 → nI (plN S c q * 27 + r) = nI (plN S c' q' * 27 + r') → c = c' ∧ q = q' ∧ r = r' := fun c q r c' q' r' ht ht' hr hr' e => by
    have := plN_lt hs hb ht
    have := plN_lt hs hb ht'
    rw [nI_eq (by omega) (by omega)] at e
    obtain ⟨x1, x2⟩ := plN_inj hb ht ht' (by omega)
    exact ⟨x1, x2, by subst x1; subst x2; omega⟩
  have hplU : ∀ c q, tok S c q → plN (runZ S' g) c q = plN S c q := fun c q ht => by
    have := tid_bd hT.1.2.1 ht
    unfold plN shN
    rw [rZ_I (by omega) (by omega) (by omega) (by omega), fI (tid c q) (by omega)]
  refine ⟨hT', hD', hM', hF', hW', hV', ⟨⟨hcap, by rw [rZ_N, f8]; exact hj⟩, ?_, ?_, fun c q r hc hnt hq hr => ?_, fun x hx => ?_, fun z => by rw [rZ_29] at z; exact absurd z (by decide)⟩, ?_⟩
  · rw [rZ_N, f8, rZ_I (m := 22 + 3 * j) (by omega) (by omega) (by omega) (by omega), rZ_I (m := 23 + 3 * j) (by omega) (by omega) (by omega) (by omega), rZ_I (m := 24 + 3 * j) (by omega) (by omega) (by omega) (by omega), u1, u2, fk1, fk2, fk3]
    refine ⟨fun i hi => ?_, fun c q r ht hr hp => ?_, hklt⟩
    · obtain ⟨c, q, p, x1, x2, x3, x4, x5, x6, x7⟩ := hel i hi
      have h3 := hD.2.1
      have hp27 : p < 27 := by omega
      have hWp : wRr S' p (nI c) q = wgt S c q p := by rw [(hW0 c q p x1 hp27).1, if_pos ⟨x2, x3⟩]
      have hWne : ¬ wRr S' p (nI c) q = 0 := fun z => by rw [← hWp, z] at x4; exact absurd x4 (by decide)
      refine ⟨c, q, p, (htk c q).mpr x1, hp27, by rw [hplU c q x1]; exact x5, ?_, ?_, ?_⟩
      · exact ((hnow0 c q p x1 hp27).1).mpr (by rw [hWp]; exact x4)
      · rw [(hhit c q p x1 hp27).2, hWp]; exact x6
      · rw [hnow c q p x1 hp27, if_neg hWne]
        by_cases hold : sI S 726 (tI p (nI c) q) ≤ 0
        · rw [if_pos hold, (q1 i hi).2 (fun t _ ht' e => ?_)]
          · exact x7
          obtain ⟨c', q', r', y1, y2, y3, y4, y5⟩ := r1 t ht'
          rw [y3, x5] at e
          obtain ⟨e1, e2, e3⟩ := hkey _ _ _ _ _ _ y1 x1 y2 hp27 e
          subst e1; subst e2; subst e3
          exact Int32.not_le.mpr y4 hold
        · rw [if_neg hold]
          obtain ⟨t, ht', e⟩ := r2 c q p x1 hp27 (Int32.not_le.mp hold)
          rw [(q1 i hi).1 t (by omega) ht' (by rw [e, x5])]
          obtain ⟨c', q', r', y1, y2, y3, y4, y5⟩ := r1 t ht'
          rw [y3] at e
          obtain ⟨e1, e2, e3⟩ := hkey _ _ _ _ _ _ y1 x1 y2 hp27 e
          subst e1; subst e2; subst e3
          exact y5.2
    · have ht0 := (htk c q).mp ht
      rw [hplU c q ht0]
      exact hkin c q r ht0 hr (((hnow0 c q r ht0 hr).1).mp hp)
  · rw [rZ_N, rZ_I (m := 22) (by omega) (by omega) (by omega) (by omega), rZ_I (m := 24) (by omega) (by omega) (by omega) (by omega), u1, u3]
    have hMel : ∀ i, i < M.length → ∃ t, M[i]? = some t ∧ t < sN S (17 + b) ∧ (∀ x, x < sN S1 (17 + j) → ¬ sI S1 (22 + 3 * j) x = sI S (22 + 3 * b) t) := fun i hi => by
      have hm := List.getElem_mem hi
      obtain ⟨-, x2, x3⟩ := (q4 _).mp hm
      exact ⟨M[i], List.getElem?_eq_getElem hi, x2, x3⟩
    have hrow : ∀ i, i < M.length → ∀ t, M[i]? = some t → sI S' 22 i = sI S (22 + 3 * b) t ∧ sI S' 24 i = sI S (24 + 3 * b) t := fun i hi t e => by
      have := z2 i (by omega)
      rw [List.getElem?_map, e, Option.map_some, Option.some.injEq] at this
      injection this with y1 y2
      injection y2 with y2 y3
      exact ⟨y1.symm, y3.symm⟩
    rw [z1]
    refine ⟨fun i hi => ?_, fun c q r ht hr hp => ?_, fun x y hxy hy => ?_⟩
    · obtain ⟨t, e, t1, t2⟩ := hMel i hi
      obtain ⟨e1, e2⟩ := hrow i hi t e
      obtain ⟨c, q, r, y1, y2, y3, y4, y5⟩ := r1 t t1
      refine ⟨c, q, r, (htk c q).mpr y1, y2, by rw [e1, y3, hplU c q y1], ⟨?_, ?_⟩, ?_⟩
      · rw [hbf _ (hx6 c q r y1 y2)]; exact y4
      · rcases (hnow0 c q r y1 y2).2 with z | z
        · exact z
        · exfalso
          obtain ⟨x, hx, ex⟩ := hkin c q r y1 y2 (((hnow0 c q r y1 y2).1).mp z)
          exact t2 x hx (by rw [ex, y3])
      · show sI S' 24 i = mixF (sI S' 728) (sI S' 726) 6480 (tI r (nI c) q)
        rw [e2, hbf _ (hx6 c q r y1 y2)]; exact y5.2
    · have ht0 := (htk c q).mp ht
      have hp : 0 < mixF (sI S' 728) (sI S' 726) 6480 (tI r (nI c) q) ∧ (runT S').1 (tI r (nI c) q) = 0 := hp
      rw [hbf _ (hx6 c q r ht0 hr)] at hp
      obtain ⟨t, t1, t2⟩ := r2 c q r ht0 hr hp.1
      have htM : t ∈ M := (q4 t).mpr ⟨by omega, t1, fun x hx ex => by
        obtain ⟨c', q', p', x1, x2, x3, x4, x5, -⟩ := hel x hx
        rw [x5, t2] at ex
        have h3 := hD.2.1
        obtain ⟨e1, e2, e3⟩ := hkey _ _ _ _ _ _ x1 ht0 (by omega) hr ex
        subst e1; subst e2; subst e3
        have hw : 0 < wRr S' p' (nI c') q' := by rw [(hW0 c' q' p' x1 hr).1, if_pos ⟨x2, x3⟩]; exact x4
        have := ((hnow0 c' q' p' x1 hr).1).mpr hw
        rw [hp.2] at this
        exact absurd this (by decide)⟩
      obtain ⟨i, hi, e⟩ := List.getElem_of_mem htM
      refine ⟨i, hi, ?_⟩
      rw [(hrow i hi t (by rw [List.getElem?_eq_getElem hi, e])).1, t2, hplU c q ht0]
    · have hx' : x < M.length := by omega
      have hxy' := (List.pairwise_iff_getElem.mp q3) x y hx' hy hxy
      rw [(hrow x hx' M[x] (List.getElem?_eq_getElem hx')).1, (hrow y hy M[y] (List.getElem?_eq_getElem hy)).1]
      exact r3 _ _ hxy' ((q4 _).mp (List.getElem_mem hy)).2.1
  · have hnt0 : ¬ tok S c q := fun z => hnt ((htk c q).mpr z)
    have hx := (tI_dec hc hq).2.2.2 hr
    rw [u1, u3, hbf _ hx, hmiss _ (fun c' q' r' ht' hr' z => ?_)]
    · have := (zr1 c q r hc hnt0 hq hr).1
      exact ⟨this, this⟩
    · obtain ⟨e0, e1, e2⟩ := tI_inj hc hq ht'.c3 (ht'.cap hb) z
      subst e0; subst e1; subst e2
      exact hnt0 ht'
  · rw [u1]
    by_cases hex : ∃ c q r, tok S c q ∧ r < 27 ∧ x = tI r (nI c) q
    · obtain ⟨c, q, r, ht, hr, rfl⟩ := hex
      exact (hnow0 c q r ht hr).2
    · rw [hmiss x (fun c q r ht hr z => hex ⟨c, q, r, ht, hr, z⟩)]
      exact zr2 x hx
  · have hcount : opn S' j (sN S' (17 + j)) 0 = (allR S (sN S 0 + sN S 1 + sN S 2) 0).countP (fun e => decide (rsn (sI S 20) (sI S 21) e.1 (sN S 16) = -1)) := by
      rw [opn_sg, ← hrem]
      unfold remL
      rw [cnt_range, fk3]
      refine sg_cg _ (fun i _ => ?_)
      rw [Nat.zero_add, fk1, fI 20 (by omega), fI 21 (by omega), fN 16 (by omega)]
      simp only [decide_eq_true_eq]
    rw [hcount, all_sum hT (F := fun c q r => if opC S' (wRr S' r (nI c) q) (tI r (nI c) q) then 1 else 0) hD.2.1 (fun c q r ht hr => ?_)]
    · show _ = (rnR S' (mixF (sI S' 728) (sI S' 726) 6480) 27 0 (sI S' 726, sI S' 727, 0)).2.2
      rw [rnR_cnt]
      show _ = 0 + sg (fun i => rF S' (0 + i)) 27
      rw [Nat.zero_add]
      refine sg_cg 27 (fun r hr => ?_)
      rw [Nat.zero_add]
      unfold rF
      show _ = 0 + sg _ (mny S' 0) + sg _ (mny S' 1) + sg _ (mny S' 2)
      have e0 : mny S' 0 = sN S 0 := by rw [show mny S' 0 = sN S' 20 from rfl, fN 20 (by omega)]; exact hT.1.1.1
      have e1 : mny S' 1 = sN S 1 := by rw [show mny S' 1 = sN S' 21 from rfl, fN 21 (by omega)]; exact hT.1.1.2.1
      have e2 : mny S' 2 = sN S 2 := by rw [show mny S' 2 = sN S' 22 from rfl, fN 22 (by omega)]; exact hT.1.1.2.2.1
      rw [e0, e1, e2, Nat.zero_add]
    · have hw := hW0 c q r ht hr
      have hrs := hW.rs hs hb ht hr
      have hrs' : rsR S' (nI (tI r (nI c) q)) (sN S' 26) = rsn (sI S 20) (sI S 21) (nI (plN S c q * 27 + r)) (sN S 16) := by
        rw [hrs, fN 26 (by omega)]
        have : ∀ n, rsR S' (nI (tI r (nI c) q)) n = rsR S (nI (tI r (nI c) q)) n := by
          intro n
          induction n with
          | zero => rfl
          | succ n ih =>
            unfold rsR
            rw [ih, fI 731 (by omega), fI 732 (by omega)]
        exact this _
      have hop : opC S' (wRr S' r (nI c) q) (tI r (nI c) q) ↔ ((r < 7 + sN S 3 ∧ sI S 9 r = 0) ∧ 0 < wgt S c q r ∧ rsn (sI S 20) (sI S 21) (nI (plN S c q * 27 + r)) (sN S 16) = -1) := by
        unfold opC
        rw [hrs', hw.1]
        by_cases z : r < 7 + sN S 3 ∧ sI S 9 r = 0
        · rw [if_pos z]
          exact ⟨fun y => ⟨z, Int32.not_le.mp y.1, y.2⟩, fun y => ⟨Int32.not_le.mpr y.2.1, y.2.2⟩⟩
        · rw [if_neg z]
          exact ⟨fun y => absurd (by decide) y.1, fun y => absurd y.1 z⟩
      show (if opC S' (wRr S' r (nI c) q) (tI r (nI c) q) then 1 else 0) = _
      by_cases z : r < 7 + sN S 3
      · rw [if_pos z]
        unfold oneR
        by_cases z9 : sI S 9 r = 0 ∧ 0 < wgt S c q r
        · rw [if_pos z9, List.countP_singleton, key_N hs ht]
          by_cases zr : rsn (sI S 20) (sI S 21) (nI (plN S c q * 27 + r)) (sN S 16) = -1
          · rw [if_pos (hop.mpr ⟨⟨z, z9.1⟩, z9.2, zr⟩), if_pos (by simp only [decide_eq_true_eq]; exact zr)]
          · rw [if_neg (fun y => zr (hop.mp y).2.2), if_neg (by simp only [decide_eq_true_eq]; exact zr)]
        · rw [if_neg z9, if_neg (fun y => z9 ⟨(hop.mp y).1.2, (hop.mp y).2.1⟩)]
          rfl
      · rw [if_neg z, if_neg (fun y => z (hop.mp y).1.1)]
