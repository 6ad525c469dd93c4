/-! waivers, rows, the version: class and reference -/
def gF (S : ST) : Prop := ∀ k, k < 27 → sI S 724 k = sI S 9 k ∧ (7 + sN S 3 ≤ k → sI S 9 k = 0)
def gW (S : ST) : Prop := sN S 26 = sN S 16 ∧ sN S 16 ≤ 50 ∧ (∀ i, i < sN S 16 → ∃ c q r, tok S c q ∧ r < 27 ∧ sI S 20 i = nI (plN S c q * 27 + r) ∧ sI S 731 i = nI (tI r (nI c) q) ∧ sI S 21 i = sI S 732 i) ∧ ∀ i j, i < j → j < sN S 16 → ¬ sI S 20 i = sI S 20 j
def gV (n : Nat) (S : ST) : Prop := ∃ v, 0 < v ∧ v ≤ n + 1 ∧ sI S 0 11 = nI v ∧ sI S 600 25 = nI v
def gR (S : ST) : Prop := ((∀ t, t < 3 → capOK S t) ∧ (sN S 8 = 1 ∨ sN S 8 = 2)) ∧ rowR S (sI S (22 + 3 * sN S 8)) (sN S (17 + sN S 8)) (fun x => 0 < sI S 726 x) (fun i x => sI S (23 + 3 * sN S 8) i = sI S 727 x ∧ sI S (24 + 3 * sN S 8) i = sI S 726 x) ∧ rowR S (sI S 22) (sN S 17) (fun x => 0 < sI S 728 x ∧ sI S 726 x = 0) (fun i x => sI S 24 i = sI S 728 x) ∧ (∀ c q r, c < 3 → ¬ tok S c q → q < capN c → r < 27 → sI S 726 (tI r (nI c) q) = 0 ∧ sI S 728 (tI r (nI c) q) = 0) ∧ (∀ x, x < 6480 → sI S 726 x = 0 ∨ 0 < sI S 726 x) ∧ (sI S 600 29 = 0 → sN S (17 + sN S 8) = 0 ∧ sN S 17 = 0)
theorem fo_none {f : Nat → Int32} {x : Int32} : ∀ (n i : Nat), (∀ j, i ≤ j → j < i + n → ¬ f j = x) → fo f x n i = none
  | 0, _, _ => rfl
  | n + 1, i, h => by
    unfold fo
    rw [if_neg (h i (by omega) (by omega)), fo_none n (i + 1) (fun j h1 h2 => h j (by omega) (by omega))]
theorem fo_some {f : Nat → Int32} {x : Int32} {j : Nat} (hj : f j = x) : ∀ (n i : Nat), i ≤ j → j < i + n → (∀ t, i ≤ t → t < j → ¬ f t = x) → fo f x n i = some j
  | 0, i, h1, h2, _ => by omega
  | n + 1, i, h1, h2, h => by
    unfold fo
    by_cases e : i = j
    · rw [e, if_pos hj]
    · rw [if_neg (h i (by omega) (by omega)), fo_some hj n (i + 1) (by omega) (by omega) (fun t a b => h t (by omega) b)]
theorem rsR_none {S : ST} {x : Int32} : ∀ (n : Nat), (∀ j, j < n → ¬ sI S 731 j = x) → rsR S x n = -1
  | 0, _ => rfl
  | n + 1, h => by
    unfold rsR
    rw [if_neg (h n (by omega)), rsR_none n (fun j hj => h j (by omega))]
theorem rsR_some {S : ST} {x : Int32} {j : Nat} (hj : sI S 731 j = x) : ∀ (n : Nat), j < n → (∀ t, t < n → t ≠ j → ¬ sI S 731 t = x) → rsR S x n = sI S 732 j
  | 0, h, _ => by omega
  | n + 1, h1, h => by
    unfold rsR
    by_cases e : n = j
    · rw [e, if_pos hj]
    · rw [if_neg (h n (by omega) e), rsR_some hj n (by omega) (fun t a b => h t (by omega) b)]
theorem atR_none {S : ST} {x : Int32} : ∀ (n i : Nat), (∀ j, i ≤ j → j < i + n → ¬ sI S 731 j = x) → atR S x n i = i + n
  | 0, _, _ => rfl
  | n + 1, i, h => by
    unfold atR
    rw [if_neg (h i (by omega) (by omega)), atR_none n (i + 1) (fun j h1 h2 => h j (by omega) (by omega))]
    omega
theorem atR_some {S : ST} {x : Int32} {j : Nat} (hj : sI S 731 j = x) : ∀ (n i : Nat), i ≤ j → j < i + n → (∀ t, i ≤ t → t < j → ¬ sI S 731 t = x) → atR S x n i = j
  | 0, i, h1, h2, _ => by omega
  | n + 1, i, h1, h2, h => by
    unfold atR
    by_cases e : i = j
    · rw [e, if_pos hj]
    · rw [if_neg (h i (by omega) (by omega)), atR_some hj n (i + 1) (by omega) (by omega) (fun t a b => h t (by omega) b)]
/-- a waiver of this rule and thing stands at the same place on both sides, or on neither -/
theorem gW.at {S : ST} (h : gW S) (hs : ciSh S) (hb : bdS S) {c q r : Nat} (ht : tok S c q) (hr : r < 27) (i : Nat) (hi : i < sN S 16) : sI S 20 i = nI (plN S c q * 27 + r) ↔ sI S 731 i = nI (tI r (nI c) q) := by
  obtain ⟨c', q', r', ht', hr', e1, e2, -⟩ := h.2.2.1 i hi
  have p1 := plN_lt hs hb ht
  have p2 := plN_lt hs hb ht'
  obtain ⟨-, -, -, x1⟩ := tI_dec (r := r) ht.c3 (ht.cap hb)
  obtain ⟨-, -, -, x2⟩ := tI_dec (r := r') ht'.c3 (ht'.cap hb)
  have y1 := x1 hr
  have y2 := x2 hr'
  rw [e1, e2, nI_eq (by omega) (by omega), nI_eq (by omega) (by omega)]
  constructor
  · intro z
    obtain ⟨a1, a2⟩ := plN_inj hb ht' ht (by omega)
    subst a1; subst a2
    rw [show r' = r by omega]
  · intro z
    obtain ⟨a0, a1, a2⟩ := tI_inj ht'.c3 (ht'.cap hb) ht.c3 (ht.cap hb) z
    subst a0; subst a1; subst a2
    rfl
theorem gW.find {S : ST} (h : gW S) (hs : ciSh S) (hb : bdS S) {c q r : Nat} (ht : tok S c q) (hr : r < 27) : (fo (sI S 20) (nI (plN S c q * 27 + r)) (sN S 16) 0 = none ∧ rsn (sI S 20) (sI S 21) (nI (plN S c q * 27 + r)) (sN S 16) = -1 ∧ rsR S (nI (tI r (nI c) q)) (sN S 26) = -1 ∧ atR S (nI (tI r (nI c) q)) (sN S 26) 0 = sN S 16 ∧ ∀ j, j < sN S 16 → ¬ sI S 20 j = nI (plN S c q * 27 + r)) ∨ ∃ i, i < sN S 16 ∧ sI S 20 i = nI (plN S c q * 27 + r) ∧ fo (sI S 20) (nI (plN S c q * 27 + r)) (sN S 16) 0 = some i ∧ rsn (sI S 20) (sI S 21) (nI (plN S c q * 27 + r)) (sN S 16) = sI S 21 i ∧ rsR S (nI (tI r (nI c) q)) (sN S 26) = sI S 21 i ∧ atR S (nI (tI r (nI c) q)) (sN S 26) 0 = i := by
  by_cases hex : ∃ i, i < sN S 16 ∧ sI S 20 i = nI (plN S c q * 27 + r)
  · obtain ⟨i, hi, e⟩ := hex
    right
    have huniq : ∀ t, t < sN S 16 → t ≠ i → ¬ sI S 20 t = nI (plN S c q * 27 + r) := by
      intro t ht' hne z
      rcases Nat.lt_or_gt_of_ne hne with y | y
      · exact h.2.2.2 t i y hi (by rw [z, e])
      · exact h.2.2.2 i t y ht' (by rw [z, e])
    have e7 := (h.at hs hb ht hr i hi).mp e
    have huniq7 : ∀ t, t < sN S 16 → t ≠ i → ¬ sI S 731 t = nI (tI r (nI c) q) := fun t ht' hne z => huniq t ht' hne ((h.at hs hb ht hr t ht').mpr z)
    have hf := fo_some (f := sI S 20) e (sN S 16) 0 (by omega) (by omega) (fun t _ b => huniq t (by omega) (by omega))
    obtain ⟨c', q', r', -, -, -, -, e21⟩ := h.2.2.1 i hi
    refine ⟨i, hi, e, hf, ?_, ?_, ?_⟩
    · unfold rsn
      rw [hf]
    · rw [h.1, rsR_some e7 (sN S 16) hi huniq7, e21]
    · rw [h.1]
      exact atR_some e7 (sN S 16) 0 (by omega) (by omega) (fun t _ b => huniq7 t (by omega) (by omega))
  · left
    have hno : ∀ j, j < sN S 16 → ¬ sI S 20 j = nI (plN S c q * 27 + r) := fun j hj z => hex ⟨j, hj, z⟩
    have hno7 : ∀ j, j < sN S 16 → ¬ sI S 731 j = nI (tI r (nI c) q) := fun j hj z => hno j hj ((h.at hs hb ht hr j hj).mpr z)
    have hf := fo_none (f := sI S 20) (sN S 16) 0 (fun j _ b => hno j (by omega))
    refine ⟨hf, ?_, ?_, ?_, hno⟩
    · unfold rsn
      rw [hf]
    · rw [h.1]
      exact rsR_none (sN S 16) hno7
    · rw [h.1, atR_none (sN S 16) 0 (fun j _ b => hno7 j (by omega)), Nat.zero_add]
theorem gW.rs {S : ST} (h : gW S) (hs : ciSh S) (hb : bdS S) {c q r : Nat} (ht : tok S c q) (hr : r < 27) : rsn (sI S 20) (sI S 21) (nI (plN S c q * 27 + r)) (sN S 16) = rsR S (nI (tI r (nI c) q)) (sN S 26) := by
  rcases h.find hs hb ht hr with ⟨-, a, b, -⟩ | ⟨i, -, -, -, a, b, -⟩
  · rw [a, b]
  · rw [a, b]
/-- things may be more; none has another place -/
theorem gW.cg {S S' : ST} (h : gW S) (hk : ∀ c q, tok S c q → tok S' c q ∧ plN S' c q = plN S c q) (hI : ∀ m, m = 20 ∨ m = 21 ∨ m = 731 ∨ m = 732 → sI S' m = sI S m) (h16 : sN S' 16 = sN S 16) (h26 : sN S' 26 = sN S 26) : gW S' := by
  obtain ⟨a, b, c, d⟩ := h
  refine ⟨by omega, by omega, fun i hi => ?_, fun i j h1 h2 => ?_⟩
  · rw [h16] at hi
    obtain ⟨c', q, r, ht, hr, e1, e2, e3⟩ := c i hi
    rw [hI 20 (by omega), hI 21 (by omega), hI 731 (by omega), hI 732 (by omega)]
    exact ⟨c', q, r, (hk c' q ht).1, hr, by rw [(hk c' q ht).2]; exact e1, e2, e3⟩
  · rw [hI 20 (by omega)]
    exact d i j h1 (by omega)
theorem rowR.cg {S S' : ST} {kf : Nat → Int32} {cnt : Nat} {P P' : Nat → Prop} {E E' : Nat → Nat → Prop} (h : rowR S kf cnt P E) (hk : ∀ c q, tok S c q → tok S' c q ∧ plN S' c q = plN S c q) (hP : ∀ x, P' x ↔ P x) (hE : ∀ i x, i < cnt → (E' i x ↔ E i x)) (hn : ∀ c q r, tok S' c q → ¬ tok S c q → r < 27 → ¬ P (tI r (nI c) q)) : rowR S' kf cnt P' E' := by
  obtain ⟨a, b, c⟩ := h
  refine ⟨fun i hi => ?_, fun d q r ht hr hp => ?_, c⟩
  · obtain ⟨d, q, r, ht, hr, e1, e2, e3⟩ := a i hi
    exact ⟨d, q, r, (hk d q ht).1, hr, by rw [(hk d q ht).2]; exact e1, (hP _).mpr e2, (hE _ _ hi).mpr e3⟩
  · by_cases z : tok S d q
    · obtain ⟨i, hi, e⟩ := b d q r z hr ((hP _).mp hp)
      exact ⟨i, hi, by rw [(hk d q z).2]; exact e⟩
    · exact absurd ((hP _).mp hp) (hn d q r ht z hr)
theorem gR.cg {S S' : ST} (h : gR S) (hb' : bdS S') (hk : ∀ c q, tok S c q → tok S' c q ∧ plN S' c q = plN S c q) (hI : ∀ m, (22 ≤ m ∧ m ≤ 30) ∨ (726 ≤ m ∧ m ≤ 728) → sI S' m = sI S m) (h29 : sI S' 600 29 = sI S 600 29) (hN : ∀ m, (4 ≤ m ∧ m ≤ 6) ∨ m = 8 ∨ (17 ≤ m ∧ m ≤ 19) → sN S' m = sN S m) : gR S' := by
  obtain ⟨⟨c1, c2⟩, r1, r2, z1, z2, z3⟩ := h
  have n8 := hN 8 (by omega)
  have hcap : ∀ c q, tok S' c q → q < capN c := fun c q ht => ht.cap hb'
  refine ⟨⟨fun t ht => ?_, by rw [n8]; exact c2⟩, ?_, ?_, fun c q r hc hn hq hr => ?_, fun x hx => ?_, ?_⟩
  · unfold capOK
    rw [hN (17 + t) (by omega), hN (4 + t) (by omega)]
    exact c1 t ht
  · rw [n8, hI (22 + 3 * sN S 8) (by omega), hI (23 + 3 * sN S 8) (by omega), hI (24 + 3 * sN S 8) (by omega), hN (17 + sN S 8) (by omega), hI 726 (by omega), hI 727 (by omega)]
    refine r1.cg hk (fun _ => Iff.rfl) (fun _ _ _ => Iff.rfl) (fun c q r ht hn hr hp => ?_)
    have := (z1 c q r ht.c3 hn (hcap c q ht) hr).1
    rw [this] at hp
    exact absurd hp (by decide)
  · rw [hI 22 (by omega), hI 24 (by omega), hN 17 (by omega), hI 726 (by omega), hI 728 (by omega)]
    refine r2.cg hk (fun _ => Iff.rfl) (fun _ _ _ => Iff.rfl) (fun c q r ht hn hr hp => ?_)
    have := (z1 c q r ht.c3 hn (hcap c q ht) hr).2
    rw [this] at hp
    exact absurd hp.1 (by decide)
  · rw [hI 726 (by omega), hI 728 (by omega)]
    exact z1 c q r hc (fun z => hn (hk c q z).1) hq hr
  · rw [hI 726 (by omega)]; exact z2 x hx
  · rw [h29, n8, hN (17 + sN S 8) (by omega), hN 17 (by omega)]
    exact z3
theorem gD.cg {S S' : ST} (h : gD S) (hI : ∀ m, (460 ≤ m ∧ m < 520) ∨ (719 ≤ m ∧ m ≤ 723) → sI S' m = sI S m) (hN : ∀ m, m = 3 ∨ m = 25 ∨ 3000 ≤ m → sN S' m = sN S m) : gD S' := by
  obtain ⟨a, b, c, d, e⟩ := h
  refine ⟨by rw [hN 25 (by omega), hN 3 (by omega)]; exact a, by rw [hN 3 (by omega)]; exact b, fun r hr => ?_, fun r hr => ?_, fun r hr => by rw [hN (3000 + r) (by omega)]; exact e r hr⟩
  · rw [hN 3 (by omega)] at hr
    unfold tldR
    rw [hI 719 (by omega), hI 720 (by omega), hI 721 (by omega), hI 722 (by omega), hI 723 (by omega), hI (460 + 3 * r) (by omega), hI (461 + 3 * r) (by omega), hI (462 + 3 * r) (by omega), hN (3000 + r) (by omega)]
    exact c r hr
  · unfold wfR
    rw [hI (461 + 3 * r) (by omega), hI (462 + 3 * r) (by omega), hN (3000 + r) (by omega)]
    exact d r hr
