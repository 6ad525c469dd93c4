/-! Reading on: the pure side of a word, the start, the next word -/
def tOK (c : Nat) (S S' : ST) : Prop := rdC S S' ∧ (sN S 12 ≤ 80 → sN S' 12 ≤ 80) ∧ (sN S 13 ≤ 80 → sN S' 13 ≤ 80) ∧ (sN S 15 ≤ 8 → sN S' 15 ≤ 8) ∧ sN S' 12 + sN S' 13 ≤ sN S 12 + sN S 13 + c
theorem tOK.tr {a b : Nat} {S S1 S2 : ST} (h : tOK a S S1) (g : tOK b S1 S2) : tOK (a + b) S S2 := by
  obtain ⟨h1, h2, h3, h4, h5⟩ := h
  obtain ⟨g1, g2, g3, g4, g5⟩ := g
  exact ⟨h1.tr g1, fun z => g2 (h2 z), fun z => g3 (h3 z), fun z => g4 (h4 z), by omega⟩
theorem tOK.mono {a b : Nat} {S S' : ST} (h : tOK a S S') (hab : a ≤ b) : tOK b S S' := ⟨h.1, h.2.1, h.2.2.1, h.2.2.2.1, by have := h.2.2.2.2; omega⟩
theorem tOK.w3 {S : ST} {k : Nat} {x : Int32} : tOK 0 S (w3 S k x) := ⟨rdC.w3, id, id, id, Nat.le_refl _⟩
theorem tOK.off {S : ST} {x : Int32} : tOK 1 S (offO S x) := by
  refine ⟨rdC.off, fun z => by rw [offO_12]; exact z, fun z => ?_, fun z => ?_, ?_⟩
  · unfold offO
    split
    · rw [wN_self]; omega
    · exact z
  · unfold offO
    split
    · rw [wN_ne (by decide)]; exact z
    · exact z
  · rw [offO_12]
    unfold offO
    split
    · rw [wN_self]; omega
    · omega
theorem tOK.out {S : ST} {x y : Int32} : tOK 1 S (putO S x y) := by
  refine ⟨rdC.out, putO_12, fun z => by rw [putO_13]; exact z, fun z => ?_, ?_⟩
  · unfold putO
    split
    · rw [wN_ne (by decide)]; exact z
    · exact z
  · rw [putO_13]
    unfold putO
    split
    · rw [wN_self]; omega
    · omega
theorem tOK.trm {S : ST} {x y : Int32} : tOK 1 S (trm S x y) := tOK.out.tr tOK.w3
theorem tOK.pod {x : Int32} : ∀ {n : Nat} {S : ST}, sN S 13 = n → tOK 0 S (podF x n S)
  | 0, S, _ => ⟨rdC.rf, id, id, id, Nat.le_refl _⟩
  | n + 1, S, h => by
    unfold podF
    split
    · exact ⟨rdC.rf, id, id, id, Nat.le_refl _⟩
    · have h1 := tOK.pod (x := x) (n := n) (S := putO (wN S 13 n) (sI S 19 n) 0) (by rw [putO_13, wN_self])
      have h2 : tOK 1 (wN S 13 n) (putO (wN S 13 n) (sI S 19 n) 0) := tOK.out
      obtain ⟨a1, a2, a3, a4, a5⟩ := h2.tr h1
      rw [wN_self] at a3 a5
      rw [wN_ne (by decide)] at a2 a5
      rw [wN_ne (by decide)] at a4
      exact ⟨(rdC.N (by decide)).tr a1, a2, fun z => a3 (by omega), a4, by omega⟩
theorem tOK.pred {S : ST} : tOK 0 S (wN S 13 (sN S 13 - 1)) := by
  refine ⟨rdC.N (by decide), fun z => by rw [wN_ne (by decide)]; exact z, fun z => by rw [wN_self]; omega, fun z => by rw [wN_ne (by decide)]; exact z, ?_⟩
  rw [wN_self, wN_ne (by decide)]
  omega
theorem tOK.N15 {S : ST} {v : Nat} (h : sN S 15 ≤ 8 → v ≤ 8) : tOK 0 S (wN S 15 v) := by
  refine ⟨rdC.N (by decide), fun z => by rw [wN_ne (by decide)]; exact z, fun z => by rw [wN_ne (by decide)]; exact z, fun z => by rw [wN_self]; exact h z, ?_⟩
  rw [wN_ne (by decide), wN_ne (by decide)]
  omega
/-- a word that is taken costs a place at most, and none at the first two words -/
theorem tSub_ok {S S' : ST} (h : tSub S = some S') : tOK 0 S S' ∧ sI S' 3 7 = 1 := by
  unfold tSub at h
  split at h
  · cases h; exact ⟨tOK.w3.tr tOK.w3, rfl⟩
  split at h
  · cases h; exact ⟨tOK.w3.tr tOK.w3, rfl⟩
  split at h
  · cases h; exact ⟨tOK.w3.tr tOK.w3, rfl⟩
  · cases h
theorem tWei_ok {S S' : ST} (h : tWei S = some S') : tOK 0 S S' ∧ sI S' 3 7 = 2 := by
  unfold tWei at h
  split at h
  · cases h; exact ⟨tOK.w3.tr tOK.w3, rfl⟩
  split at h
  · cases h; exact ⟨tOK.w3.tr tOK.w3, rfl⟩
  · cases h
theorem offO_3 {S : ST} {x : Int32} : sI (offO S x) 3 = sI S 3 := by
  unfold offO
  split
  · rfl
  · rfl
theorem putO_3 {S : ST} {x y : Int32} : sI (putO S x y) 3 = sI S 3 := by
  unfold putO
  split
  · rfl
  · rfl
theorem podF_3 {x : Int32} : ∀ {n : Nat} {S : ST}, sI (podF x n S) 3 = sI S 3
  | 0, S => rfl
  | n + 1, S => by
    unfold podF
    split
    · rfl
    · rw [podF_3, putO_3]; rfl
def stOK (x : Int32) : Prop := x = 2 ∨ x = 3 ∨ x = 4 ∨ x = 5 ∨ x = 6
theorem tNot_ok {S S' : ST} (h : tNot S = some S') (hs : stOK (sI S 3 7)) : tOK 1 S S' ∧ stOK (sI S' 3 7) := by
  unfold tNot at h
  split at h
  · cases h; exact ⟨tOK.off, by rw [offO_3]; exact hs⟩
  · cases h
theorem tOpn_ok {S S' : ST} (h : tOpn S = some S') (hs : stOK (sI S 3 7)) : tOK 1 S S' ∧ stOK (sI S' 3 7) := by
  unfold tOpn at h
  split at h
  · rename_i h1; cases h; exact ⟨(tOK.N15 (fun _ => by omega)).tr tOK.off, by rw [offO_3]; exact hs⟩
  · cases h
theorem tCls_ok {S S' : ST} (h : tCls S = some S') : tOK 1 S S' ∧ stOK (sI S' 3 7) := by
  unfold tCls at h
  split at h
  · cases h
    refine ⟨((tOK.N15 (fun _ => by omega)).tr ((tOK.pod (wN_ne (by decide))).tr (tOK.pred.tr tOK.w3))).mono (by decide), ?_⟩
    exact Or.inr (Or.inr (Or.inr (Or.inr rfl)))
  · cases h
theorem trm_st {S : ST} {x y : Int32} : stOK (sI (trm S x y) 3 7) := Or.inr (Or.inr (Or.inr (Or.inl rfl)))
theorem tTrm_ok {S S' : ST} (h : tTrm S = some S') : tOK 1 S S' ∧ stOK (sI S' 3 7) := by
  unfold tTrm at h
  rcases h1 : tNum S with _ | S1
  · rw [h1, Option.none_or] at h
    rcases h2 : tFld S with _ | S2
    · rw [h2, Option.none_or] at h
      split at h
      · cases h; exact ⟨tOK.w3.mono (by decide), Or.inr (Or.inr (Or.inl rfl))⟩
      split at h
      · cases h
      · cases h; exact ⟨tOK.trm, trm_st⟩
    · rw [h2, Option.some_or] at h
      cases h
      unfold tFld at h2
      split at h2
      · cases h2; exact ⟨tOK.trm, trm_st⟩
      · cases h2
  · rw [h1, Option.some_or] at h
    cases h
    unfold tNum at h1
    split at h1
    · rcases h3 : numF S (sN S 11 - sN S 10) 0 0 with _ | v
      · rw [h3] at h1; cases h1
      · rw [h3] at h1; cases h1; exact ⟨tOK.trm, trm_st⟩
    · cases h1
theorem tKnd_ok {S S' : ST} (h : tKnd S = some S') : tOK 1 S S' ∧ stOK (sI S' 3 7) := by
  unfold tKnd at h
  split at h
  · cases h; exact ⟨tOK.trm, trm_st⟩
  · cases h
theorem opS_ok {S S' : ST} {x : Int32} (h : opS S x = some S') : tOK 0 S S' ∧ stOK (sI S' 3 7) := by
  unfold opS at h
  split at h
  · cases h; exact ⟨tOK.w3.tr tOK.w3, Or.inl rfl⟩
  split at h
  · cases h; exact ⟨tOK.w3.tr tOK.w3, Or.inr (Or.inl rfl)⟩
  split at h
  · cases h; exact ⟨tOK.w3, Or.inr (Or.inl rfl)⟩
  · cases h
theorem tOp_ok {S S' : ST} (h : tOp S = some S') : tOK 1 S S' ∧ stOK (sI S' 3 7) := by
  unfold tOp at h
  generalize opW S = x at h
  rcases h1 : opS S x with _ | S1
  · rw [h1] at h; cases h
  · rw [h1] at h
    cases h
    obtain ⟨a, b⟩ := opS_ok h1
    exact ⟨a.tr ((tOK.pod rfl).tr tOK.off), by rw [offO_3, podF_3]; exact b⟩
theorem tWd_ok {S S' : ST} (h : tWd S = some S') : (sI S 3 7 = 0 → tOK 0 S S' ∧ sI S' 3 7 = 1) ∧ (sI S 3 7 = 1 → tOK 0 S S' ∧ sI S' 3 7 = 2) ∧ (stOK (sI S 3 7) → tOK 1 S S' ∧ stOK (sI S' 3 7)) := by
  unfold tWd at h
  refine ⟨fun z => ?_, fun z => ?_, fun z => ?_⟩
  · rw [if_pos z] at h; exact tSub_ok h
  · rw [if_neg (by rw [z]; decide), if_pos z] at h; exact tWei_ok h
  · rw [if_neg (by rcases z with z | z | z | z | z <;> rw [z] <;> decide), if_neg (by rcases z with z | z | z | z | z <;> rw [z] <;> decide)] at h
    split at h
    · rcases h1 : tNot S with _ | S1
      · rw [h1, Option.none_or] at h
        rcases h2 : tOpn S with _ | S2
        · rw [h2, Option.none_or] at h; exact tTrm_ok h
        · rw [h2, Option.some_or] at h; cases h; exact tOpn_ok h2 z
      · rw [h1, Option.some_or] at h; cases h; exact tNot_ok h1 z
    split at h
    · exact tTrm_ok h
    split at h
    · exact tKnd_ok h
    · rcases h1 : tOp S with _ | S1
      · rw [h1, Option.none_or] at h; exact tCls_ok h
      · rw [h1, Option.some_or] at h; cases h; exact tOp_ok h1
/-- between two words -/
def rdJ (S : ST) : Prop := sN S 9 ≤ 160 ∧ sN S 11 ≤ sN S 9 ∧ (∀ k, narrow .char (.int (sI S 16 k)) = .int (sI S 16 k)) ∧ ciLive S ∧ sN S 12 ≤ 80 ∧ sN S 13 ≤ 80 ∧ sN S 14 ≤ 80 ∧ sN S 15 ≤ 8
def wsI (S : ST) : Prop := (sI S 3 7 = 0 ∧ sN S 14 = 0 ∧ sN S 12 = 0 ∧ sN S 13 = 0) ∨ (sI S 3 7 = 1 ∧ sN S 14 = 1 ∧ sN S 12 = 0 ∧ sN S 13 = 0) ∨ (stOK (sI S 3 7) ∧ sN S 12 + sN S 13 + 2 ≤ sN S 14)
def nxW (S : ST) : ST := wN (wN S 10 (skS (sI S 16) (sN S 9 - sN S 11) (sN S 11))) 11 (skW (sI S 16) (sN S 9 - (skS (sI S 16) (sN S 9 - sN S 11) (sN S 11))) (skS (sI S 16) (sN S 9 - sN S 11) (sN S 11)))
theorem nxW_I {S : ST} (h : rdJ S) : rdI (nxW S) := by
  obtain ⟨a1, a2, a3, a4, a5, a6, a7, a8⟩ := h
  have b1 := skS_le (f := sI S 16) (n := sN S 9 - sN S 11) (i := sN S 11)
  have e10 : sN (nxW S) 10 = skS (sI S 16) (sN S 9 - sN S 11) (sN S 11) := rfl
  have e11 : sN (nxW S) 11 = skW (sI S 16) (sN S 9 - (skS (sI S 16) (sN S 9 - sN S 11) (sN S 11))) (skS (sI S 16) (sN S 9 - sN S 11) (sN S 11)) := rfl
  have e9 : sN (nxW S) 9 = sN S 9 := rfl
  generalize skS (sI S 16) (sN S 9 - sN S 11) (sN S 11) = p at *
  have b2 := skW_le (f := sI S 16) (n := sN S 9 - p) (i := p)
  refine ⟨a1, by rw [e10, e11]; exact b2.1, by rw [e11, e9]; omega, a3, a4.eqT ⟨fun _ _ => rfl, fun _ _ => rfl, fun _ _ => rfl, fun m hm => (wN_ne (by omega)).trans (wN_ne (by omega))⟩, a5, a6, a7, a8⟩
def rdL : Nat → ST → ST × Bool
  | 0, S => (S, true)
  | n + 1, S => if sN (nxW S) 10 < sN (nxW S) 11 then (match tWd (nxW S) with
    | none => (nxW S, false)
    | some S2 => rdL n (wN S2 14 (sN S2 14 + 1))) else (nxW S, true)
def stO (S : ST) : ST := w3 (wN (w3 (wN (wN (wN (wN S 11 0) 12 0) 13 0) 14 0) 7 0) 15 0) 9 0
theorem ciLive.N {S : ST} (h : ciLive S) {n v : Nat} (hn : 4 ≤ n ∧ n < 1000) : ciLive (wN S n v) := h.eqT ⟨fun _ _ => rfl, fun _ _ => rfl, fun _ _ => rfl, fun m hm => wN_ne (by omega)⟩
theorem ciLive.w3 {S : ST} (h : ciLive S) {k : Nat} {x : Int32} : ciLive (w3 S k x) := h.eqT rdC.w3.eqT
theorem rdL_step {S S2 : ST} (h : rdJ S) (hw : wsI S) (h14 : sN S 14 < 80) (h2 : tWd (nxW S) = some S2) : rdJ (wN S2 14 (sN S2 14 + 1)) ∧ wsI (wN S2 14 (sN S2 14 + 1)) ∧ sN S2 14 = sN S 14 ∧ rdI S2 := by
  have hI := nxW_I h
  have hk := tWd_ok h2
  have e7 : sI (nxW S) 3 7 = sI S 3 7 := rfl
  have e12 : sN (nxW S) 12 = sN S 12 := rfl
  have e13 : sN (nxW S) 13 = sN S 13 := rfl
  have e14 : sN (nxW S) 14 = sN S 14 := rfl
  have key : ∃ c, tOK c (nxW S) S2 := by
    rcases hw with hw | hw | hw
    · exact ⟨_, (hk.1 hw.1).1⟩
    · exact ⟨_, (hk.2.1 hw.1).1⟩
    · exact ⟨_, (hk.2.2 hw.1).1⟩
  obtain ⟨c, k1, k2, k3, k4, -⟩ := key
  have f14 : sN S2 14 = sN S 14 := k1.2.2.2 14 (by decide) (by decide) (by decide)
  have hI2 := hI.of k1 (k2 hI.2.2.2.2.2.1) (k3 hI.2.2.2.2.2.2.1) (k4 hI.2.2.2.2.2.2.2.2)
  obtain ⟨b1, b2, b3, b4, b5, b6, b7, b8, b9⟩ := hI2
  have g : ∀ m, m ≠ 14 → sN (wN S2 14 (sN S2 14 + 1)) m = sN S2 m := fun m hm => wN_ne hm
  have g14 : sN (wN S2 14 (sN S2 14 + 1)) 14 = sN S2 14 + 1 := wN_self
  have gI : sI (wN S2 14 (sN S2 14 + 1)) 3 = sI S2 3 := rfl
  refine ⟨⟨by rw [g 9 (by decide)]; exact b1, by rw [g 11 (by decide), g 9 (by decide)]; exact b3, b4, b5.N (by decide), by rw [g 12 (by decide)]; exact b6, by rw [g 13 (by decide)]; exact b7, by rw [g14]; omega, by rw [g 15 (by decide)]; exact b9⟩, ?_, f14, b1, b2, b3, b4, b5, b6, b7, b8, b9⟩
  unfold wsI
  rw [g14, g 12 (by decide), g 13 (by decide), gI, f14]
  rcases hw with hw | hw | hw
  · obtain ⟨t, s⟩ := hk.1 hw.1
    have t5 := t.2.2.2.2
    rw [e12, e13] at t5
    exact Or.inr (Or.inl ⟨s, by omega, by omega, by omega⟩)
  · obtain ⟨t, s⟩ := hk.2.1 hw.1
    have t5 := t.2.2.2.2
    rw [e12, e13] at t5
    exact Or.inr (Or.inr ⟨Or.inl s, by omega⟩)
  · obtain ⟨t, s⟩ := hk.2.2 hw.1
    have t5 := t.2.2.2.2
    rw [e12, e13] at t5
    exact Or.inr (Or.inr ⟨s, by omega⟩)
/-- where the reading ends -/
theorem rdL_end (n : Nat) : ∀ S, rdJ S → wsI S → sN S 14 + n = 80 → rdJ (rdL n S).1 ∧ wsI (rdL n S).1 := by
  induction n with
  | zero => intro S h hw _; exact ⟨h, hw⟩
  | succ n ih =>
    intro S h hw h14
    unfold rdL
    have hI := nxW_I h
    have hJ : rdJ (nxW S) := ⟨hI.1, hI.2.2.1, hI.2.2.2.1, hI.2.2.2.2.1, hI.2.2.2.2.2.1, hI.2.2.2.2.2.2.1, hI.2.2.2.2.2.2.2.1, hI.2.2.2.2.2.2.2.2⟩
    split
    · rcases h2 : tWd (nxW S) with _ | S2
      · exact ⟨hJ, hw⟩
      · obtain ⟨a, b, c, -⟩ := rdL_step h hw (by omega) h2
        exact ih _ a b (by rw [wN_self]; omega)
    · exact ⟨hJ, hw⟩
