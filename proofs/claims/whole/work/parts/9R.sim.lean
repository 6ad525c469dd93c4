/-! both states, all of it -/
def gX (S : ST) : Prop := txR S S ∧ ∀ k, sI S 16 k = 0 ∨ ltr (sI S 16 k)
def Sim (n : Nat) (S : ST) : Prop := gT S ∧ gD S ∧ gM S ∧ gF S ∧ gX S ∧ gW S ∧ gR S ∧ gV n S
theorem gM.cg {S S' : ST} (h : gM S) (h1 : sI S' 701 = sI S 701) (h2 : sI S' 11 = sI S 11) : gM S' := fun i hi => by rw [h1, h2]; exact h i hi
theorem gF.cg {S S' : ST} (h : gF S) (h1 : sI S' 724 = sI S 724) (h2 : sI S' 9 = sI S 9) (h3 : sN S' 3 = sN S 3) : gF S' := fun i hi => by rw [h1, h2, h3]; exact h i hi
theorem gX.cg {S S' : ST} (h : gX S) (h1 : sI S' 716 = sI S 716) (h2 : sI S' 16 = sI S 16) (h3 : sN S' 9 = sN S 9) (h4 : sN S' 24 = sN S 24) : gX S' := by
  unfold gX txR
  rw [h1, h2, h3, h4]
  exact h
theorem gV.cg {n : Nat} {S S' : ST} (h : gV n S) (h1 : sI S' 0 11 = sI S 0 11) (h2 : sI S' 600 25 = sI S 600 25) : gV n S' := by
  unfold gV
  rw [h1, h2]
  exact h
theorem gV.up {n : Nat} {S : ST} (h : gV n S) : gV (n + 1) S := by
  obtain ⟨v, a, b, c⟩ := h
  exact ⟨v, a, by omega, c⟩
theorem Sim.up {n : Nat} {S : ST} (h : Sim n S) : Sim (n + 1) S := ⟨h.1, h.2.1, h.2.2.1, h.2.2.2.1, h.2.2.2.2.1, h.2.2.2.2.2.1, h.2.2.2.2.2.2.1, h.2.2.2.2.2.2.2.up⟩
/-- the things changed as gT says; all else stays -/
theorem Sim.things {n : Nat} {S S' : ST} (h : Sim n S) (hT : gT S') (hk : ∀ c q, tok S c q → tok S' c q ∧ plN S' c q = plN S c q) (hI : ∀ m, m < 100 ∨ (460 ≤ m ∧ m < 520) ∨ m = 701 ∨ 716 ≤ m → sI S' m = sI S m) (h6 : ∀ k, k ≠ 0 → sI S' 600 k = sI S 600 k) (hN : ∀ m, 3 ≤ m → m ≠ 7 → (m < 20 ∨ 24 ≤ m) → (m < 1000 ∨ 3000 ≤ m) → sN S' m = sN S m) : Sim n S' := by
  obtain ⟨-, hD, hM, hF, hX, hW, hR, hV⟩ := h
  exact ⟨hT, hD.cg (fun m hm => hI m (by omega)) (fun m hm => hN m (by omega) (by omega) (by omega) (by omega)), hM.cg (hI 701 (by omega)) (hI 11 (by omega)), hF.cg (hI 724 (by omega)) (hI 9 (by omega)) (hN 3 (by omega) (by omega) (by omega) (by omega)), hX.cg (hI 716 (by omega)) (hI 16 (by omega)) (hN 9 (by omega) (by omega) (by omega) (by omega)) (hN 24 (by omega) (by omega) (by omega) (by omega)), hW.cg hk (fun m hm => hI m (by omega)) (hN 16 (by omega) (by omega) (by omega) (by omega)) (hN 26 (by omega) (by omega) (by omega) (by omega)), hR.cg hT.1.2.1 hk (fun m hm => hI m (by omega)) (h6 29 (by omega)) (fun m hm => hN m (by omega) (by omega) (by omega) (by omega)), hV.cg (by rw [hI 0 (by omega)]) (h6 25 (by omega))⟩
theorem same_hk {S S' : ST} (hb : bdS S) (hI : ∀ m, 100 ≤ m → m < 460 → sI S' m 0 = sI S m 0) (hN : ∀ m, m < 3 → sN S' m = sN S m) : ∀ c q, tok S c q → tok S' c q ∧ plN S' c q = plN S c q := fun c q ht => by
  have := tid_bd hb ht
  refine ⟨(tok_cg hN).mpr ht, ?_⟩
  unfold plN shN
  rw [hI (tid c q) (by omega) (by omega)]
/-- none of the things changes -/
theorem Sim.rest {n m0 : Nat} {S S' : ST} (h : Sim n S) (hI : ∀ m, (100 ≤ m ∧ m < 460) ∨ m = 705 ∨ (707 ≤ m ∧ m ≤ 711) ∨ m = 713 → sI S' m = sI S m) (hJ : ∀ m, (100 ≤ m ∧ m < 460) ∨ m = 706 ∨ m = 714 ∨ m = 715 → sJ S' m = sJ S m) (hR : ∀ m, sR S' m = sR S m) (hN : ∀ m, m < 3 ∨ m = 7 ∨ (20 ≤ m ∧ m ≤ 23) ∨ (1000 ≤ m ∧ m < 3000) → sN S' m = sN S m) (gd : gD S') (gm : gM S') (gf : gF S') (gx : gX S') (gw : gW S') (gr : gR S') (gv : gV m0 S') : Sim m0 S' :=
  ⟨h.1.cg hI hJ (fun m _ _ => hR m) hN, gd, gm, gf, gx, gw, gr, gv⟩
theorem Sim.same {n : Nat} {S S' : ST} (h : Sim n S) (hI : ∀ m, m ≠ 600 → sI S' m = sI S m) (h6 : ∀ k, k ≠ 0 → sI S' 600 k = sI S 600 k) (hJ : ∀ m, m ≠ 57 → sJ S' m = sJ S m) (hR : ∀ m, sR S' m = sR S m) (hN : ∀ m, sN S' m = sN S m) : Sim n S' :=
  h.things (h.1.cg (fun m hm => hI m (by omega)) (fun m hm => hJ m (by omega)) (fun m _ _ => hR m) (fun m _ => hN m)) (same_hk h.1.1.2.1 (fun m a b => by rw [hI m (by omega)]) (fun m _ => hN m)) (fun m hm => by
    by_cases e : m = 600
    · omega
    · exact hI m e) h6 (fun m _ _ _ _ => hN m)
