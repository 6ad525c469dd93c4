/-! each call leaves both states alike: table, unit, off, next, clear; which rule is off -/
theorem outI {S : ST} {v : Int64} {m : Nat} : sI (outS S v) m = sI S m := rfl
theorem si_table {n a b : Nat} {S : ST} {t : Int32} {u : Int64} (h : Sim n S) (ha : a < 10) (hb : b < 10) (T : ST) (hT : T = outS (wI S 11 (upd (upd (sI S 11) (a * 10 + b) t) (b * 10 + a) t)) u) : Sim n (wI (thS T 0) 701 (upd (upd (sI T 701) (10 * a + b) t) (10 * b + a) t)) ∧ (sI T 701 (10 * a + b) = t ↔ sI S 11 (a * 10 + b) = t) := by
  have eI : ∀ m, m ≠ 11 → sI T m = sI S m := fun m hm => by rw [hT]; exact wIo hm
  have e11 : sI T 11 = upd (upd (sI S 11) (a * 10 + b) t) (b * 10 + a) t := by
    rw [hT, outI, wIs]
  have eN : ∀ m, sN T m = sN S m := fun m => by rw [hT]; rfl
  have eR : ∀ m, sR T m = sR S m := fun m => by rw [hT]; rfl
  have eJ : ∀ m, m ≠ 57 → sJ T m = sJ S m := fun m hm => by rw [hT]; exact outJ hm
  have hM := h.2.2.1
  have fI : ∀ m, m ≠ 600 → m ≠ 701 → m ≠ 11 → sI (wI (thS T 0) 701 (upd (upd (sI T 701) (10 * a + b) t) (10 * b + a) t)) m = sI S m := fun m x y z => by rw [wIo y, thI x, eI m z]
  refine ⟨h.rest (fun m hm => fI m (by omega) (by omega) (by omega)) (fun m hm => eJ m (by omega)) eR (fun m _ => eN m) (h.2.1.cg (fun m hm => fI m (by omega) (by omega) (by omega)) (fun m _ => eN m)) (fun i hi => ?_) (h.2.2.2.1.cg (fI 724 (by omega) (by omega) (by omega)) (fI 9 (by omega) (by omega) (by omega)) (eN 3)) (h.2.2.2.2.1.cg (fI 716 (by omega) (by omega) (by omega)) (fI 16 (by omega) (by omega) (by omega)) (eN 9) (eN 24)) (h.2.2.2.2.2.1.cg (same_hk h.1.1.2.1 (fun m x y => by rw [fI m (by omega) (by omega) (by omega)]) (fun m _ => eN m)) (fun m hm => fI m (by omega) (by omega) (by omega)) (eN 16) (eN 26)) (h.2.2.2.2.2.2.1.cg (by unfold bdS; have := h.1.1.2.1; unfold bdS at this; show sN T 0 ≤ 40 ∧ sN T 1 ≤ 40 ∧ sN T 2 ≤ 160; rw [eN, eN, eN]; exact this) (same_hk h.1.1.2.1 (fun m x y => by rw [fI m (by omega) (by omega) (by omega)]) (fun m _ => eN m)) (fun m hm => fI m (by omega) (by omega) (by omega)) (by rw [wIo (by decide), th6 (by decide), eI 600 (by decide)]) (fun m _ => eN m)) (h.2.2.2.2.2.2.2.cg (by rw [fI 0 (by omega) (by omega) (by omega)]) (by rw [wIo (by decide), th6 (by decide), eI 600 (by decide)])), by rw [eI 701 (by decide), hM _ (by omega), Nat.mul_comm 10 a]⟩
  rw [wIs, wIo (by decide), thI (by decide), e11, eI 701 (by decide), Nat.mul_comm 10 a, Nat.mul_comm 10 b]
  unfold upd
  rw [hM i hi]
theorem si_unit {n : Nat} {S : ST} {x : Int32} (h : Sim n S) (hx : ltr x) (h160 : sN S 9 < 160) (T : ST) (hT : T = wN (wI S 16 (upd (sI S 16) (sN S 9) x)) 9 (sN S 9 + 1)) : Sim n (wN (wI (thS T 0) 716 (upd (sI T 716) (sN T 24) x)) 24 (sN T 24 + 1)) ∧ sN T 24 = sN S 9 := by
  have eI : ∀ m, m ≠ 16 → sI T m = sI S m := fun m hm => by rw [hT]; exact wIo hm
  have e16 : sI T 16 = upd (sI S 16) (sN S 9) x := by
    rw [hT, wNI, wIs]
  have eN : ∀ m, m ≠ 9 → sN T m = sN S m := fun m hm => by rw [hT, wN_ne hm]; rfl
  have e9 : sN T 9 = sN S 9 + 1 := by rw [hT, wN_self]
  have eR : ∀ m, sR T m = sR S m := fun m => by rw [hT]; rfl
  have eJ : ∀ m, sJ T m = sJ S m := fun m => by rw [hT]; rfl
  have hX := h.2.2.2.2.1
  have e24 : sN T 24 = sN S 9 := by rw [eN 24 (by decide)]; exact hX.1.1.symm
  have fI : ∀ m, m ≠ 600 → m ≠ 716 → m ≠ 16 → sI (wN (wI (thS T 0) 716 (upd (sI T 716) (sN T 24) x)) 24 (sN T 24 + 1)) m = sI S m := fun m x1 y z => by rw [wNI, wIo y, thI x1, eI m z]
  have fN : ∀ m, m ≠ 9 → m ≠ 24 → sN (wN (wI (thS T 0) 716 (upd (sI T 716) (sN T 24) x)) 24 (sN T 24 + 1)) m = sN S m := fun m y z => by
    rw [wN_ne z]
    exact eN m y
  have g16 : sI (wN (wI (thS T 0) 716 (upd (sI T 716) (sN T 24) x)) 24 (sN T 24 + 1)) 16 = upd (sI S 16) (sN S 9) x := by
    rw [wNI, wIo (by decide), thI (by decide), e16]
  have g9 : sN (wN (wI (thS T 0) 716 (upd (sI T 716) (sN T 24) x)) 24 (sN T 24 + 1)) 9 = sN S 9 + 1 := by
    rw [wN_ne (by decide)]
    exact e9
  refine ⟨h.rest (fun m hm => fI m (by omega) (by omega) (by omega)) (fun m hm => eJ m) eR (fun m hm => fN m (by omega) (by omega)) (h.2.1.cg (fun m hm => fI m (by omega) (by omega) (by omega)) (fun m hm => fN m (by omega) (by omega))) (h.2.2.1.cg (fI 701 (by omega) (by omega) (by omega)) (fI 11 (by omega) (by omega) (by omega))) (h.2.2.2.1.cg (fI 724 (by omega) (by omega) (by omega)) (fI 9 (by omega) (by omega) (by omega)) (fN 3 (by omega) (by omega))) ⟨⟨?_, ?_, fun j hj => ?_⟩, fun k => ?_⟩ (h.2.2.2.2.2.1.cg (same_hk h.1.1.2.1 (fun m x1 y => by rw [fI m (by omega) (by omega) (by omega)]) (fun m hm => fN m (by omega) (by omega))) (fun m hm => fI m (by omega) (by omega) (by omega)) (fN 16 (by omega) (by omega)) (fN 26 (by omega) (by omega))) (h.2.2.2.2.2.2.1.cg (by unfold bdS; have := h.1.1.2.1; unfold bdS at this; rw [fN 0 (by omega) (by omega), fN 1 (by omega) (by omega), fN 2 (by omega) (by omega)]; exact this) (same_hk h.1.1.2.1 (fun m x1 y => by rw [fI m (by omega) (by omega) (by omega)]) (fun m hm => fN m (by omega) (by omega))) (fun m hm => fI m (by omega) (by omega) (by omega)) (by rw [wNI, wIo (by decide), th6 (by decide), eI 600 (by decide)]) (fun m hm => fN m (by omega) (by omega))) (h.2.2.2.2.2.2.2.cg (by rw [fI 0 (by omega) (by omega) (by omega)]) (by rw [wNI, wIo (by decide), th6 (by decide), eI 600 (by decide)])), e24⟩
  · rw [g9, wN_self, e24]
  · rw [g9]; omega
  · rw [g9] at hj
    rw [g16, wNI, wIs, e24, eI 716 (by decide)]
    unfold upd
    by_cases e : j = sN S 9
    · rw [if_pos e, if_pos e]; exact ⟨rfl, hx⟩
    · rw [if_neg e, if_neg e]; exact hX.1.2.2 j (by omega)
  · rw [g16]
    unfold upd
    by_cases e : k = sN S 9
    · rw [if_pos e]; exact Or.inr hx
    · rw [if_neg e]; exact hX.2 k
/-- flags changed on both sides alike -/
theorem si_off {n k : Nat} {S : ST} {f : Int32} {u : Int64} (h : Sim n S) (hk : k < 7 + sN S 3) (T : ST) (hT : T = outS (wI S 9 (upd (sI S 9) k f)) u) : (sI T 724 k = f ↔ sI S 9 k = f) ∧ (sI T 724 k = f → Sim n (thS T 0)) ∧ Sim n (wI (thS T 0) 724 (upd (sI T 724) k f)) := by
  have eI : ∀ m, m ≠ 9 → sI T m = sI S m := fun m hm => by rw [hT]; exact wIo hm
  have e9 : sI T 9 = upd (sI S 9) k f := by
    rw [hT, outI, wIs]
  have eN : ∀ m, sN T m = sN S m := fun m => by rw [hT]; rfl
  have eR : ∀ m, sR T m = sR S m := fun m => by rw [hT]; rfl
  have eJ : ∀ m, m ≠ 57 → sJ T m = sJ S m := fun m hm => by rw [hT]; exact outJ hm
  have hF := h.2.2.2.1
  have h3 := h.2.1.2.1
  have key : ∀ (U : ST), (∀ m, m ≠ 600 → m ≠ 724 → m ≠ 9 → sI U m = sI S m) → (∀ k, k ≠ 0 → sI U 600 k = sI S 600 k) → (∀ m, m ≠ 57 → sJ U m = sJ S m) → (∀ m, sR U m = sR S m) → (∀ m, sN U m = sN S m) → (∀ i, i < 27 → sI U 724 i = sI U 9 i ∧ (7 + sN S 3 ≤ i → sI U 9 i = 0)) → Sim n U := fun U a1 a2 a3 a4 a5 a6 => by
    refine h.rest (fun m hm => a1 m (by omega) (by omega) (by omega)) (fun m hm => a3 m (by omega)) a4 (fun m _ => a5 m) (h.2.1.cg (fun m hm => a1 m (by omega) (by omega) (by omega)) (fun m _ => a5 m)) (h.2.2.1.cg (a1 701 (by omega) (by omega) (by omega)) (a1 11 (by omega) (by omega) (by omega))) (fun i hi => by rw [a5 3]; exact a6 i hi) (h.2.2.2.2.1.cg (a1 716 (by omega) (by omega) (by omega)) (a1 16 (by omega) (by omega) (by omega)) (a5 9) (a5 24)) (h.2.2.2.2.2.1.cg (same_hk h.1.1.2.1 (fun m x1 y => by rw [a1 m (by omega) (by omega) (by omega)]) (fun m _ => a5 m)) (fun m hm => a1 m (by omega) (by omega) (by omega)) (a5 16) (a5 26)) (h.2.2.2.2.2.2.1.cg (by unfold bdS; have := h.1.1.2.1; unfold bdS at this; rw [a5, a5, a5]; exact this) (same_hk h.1.1.2.1 (fun m x1 y => by rw [a1 m (by omega) (by omega) (by omega)]) (fun m _ => a5 m)) (fun m hm => a1 m (by omega) (by omega) (by omega)) (a2 29 (by decide)) (fun m _ => a5 m)) (h.2.2.2.2.2.2.2.cg (by rw [a1 0 (by omega) (by omega) (by omega)]) (a2 25 (by decide)))
  have ek : sI T 724 k = f ↔ sI S 9 k = f := by rw [eI 724 (by decide), (hF k (by omega)).1]
  refine ⟨ek, fun z => key _ (fun m a b c => by rw [thI a, eI m c]) (fun j hj => by rw [th6 hj, eI 600 (by decide)]) (fun m hm => eJ m hm) eR eN (fun i hi => ?_), key _ (fun m a b c => by rw [wIo b, thI a, eI m c]) (fun j hj => by rw [wIo (by decide), th6 hj, eI 600 (by decide)]) (fun m hm => eJ m hm) eR eN (fun i hi => ?_)⟩
  · rw [thI (by decide), thI (by decide), e9, eI 724 (by decide)]
    unfold upd
    by_cases e : i = k
    · rw [if_pos e]
      rw [eI 724 (by decide)] at z
      rw [e]
      exact ⟨z, fun q => by omega⟩
    · rw [if_neg e]; exact hF i hi
  · rw [wIs, wIo (by decide), thI (by decide), e9, eI 724 (by decide)]
    unfold upd
    by_cases e : i = k
    · rw [if_pos e, if_pos e]
      exact ⟨rfl, fun q => by omega⟩
    · rw [if_neg e, if_neg e]; exact hF i hi
theorem si_next {n : Nat} {S : ST} (h : Sim n S) (T : ST) (hT : T = wI S 0 (va_up (sI S 0) 11 (sI S 0 11 + 1))) : Sim (n + 1) (wI (thS T 0) 600 (va_up (sI (thS T 0) 600) 25 (sI T 600 25 + 1))) ∧ sI T 600 25 = sI S 0 11 := by
  have eI : ∀ m, m ≠ 0 → sI T m = sI S m := fun m hm => by rw [hT]; exact wIo hm
  have e0 : sI T 0 11 = sI S 0 11 + 1 := by rw [hT, wIs, va_up_self]
  have eN : ∀ m, sN T m = sN S m := fun m => by rw [hT]; rfl
  have eR : ∀ m, sR T m = sR S m := fun m => by rw [hT]; rfl
  have eJ : ∀ m, sJ T m = sJ S m := fun m => by rw [hT]; rfl
  obtain ⟨v, v1, v2, v3, v4⟩ := h.2.2.2.2.2.2.2
  have fI : ∀ m, m ≠ 600 → m ≠ 0 → sI (wI (thS T 0) 600 (va_up (sI (thS T 0) 600) 25 (sI T 600 25 + 1))) m = sI S m := fun m a b => by rw [wIo a, thI a, eI m b]
  refine ⟨h.rest (fun m hm => fI m (by omega) (by omega)) (fun m hm => eJ m) eR (fun m _ => eN m) (h.2.1.cg (fun m hm => fI m (by omega) (by omega)) (fun m _ => eN m)) (h.2.2.1.cg (fI 701 (by omega) (by omega)) (fI 11 (by omega) (by omega))) (h.2.2.2.1.cg (fI 724 (by omega) (by omega)) (fI 9 (by omega) (by omega)) (eN 3)) (h.2.2.2.2.1.cg (fI 716 (by omega) (by omega)) (fI 16 (by omega) (by omega)) (eN 9) (eN 24)) (h.2.2.2.2.2.1.cg (same_hk h.1.1.2.1 (fun m x1 y => by rw [fI m (by omega) (by omega)]) (fun m _ => eN m)) (fun m hm => fI m (by omega) (by omega)) (eN 16) (eN 26)) (h.2.2.2.2.2.2.1.cg (by unfold bdS; have := h.1.1.2.1; unfold bdS at this; show sN T 0 ≤ 40 ∧ sN T 1 ≤ 40 ∧ sN T 2 ≤ 160; rw [eN, eN, eN]; exact this) (same_hk h.1.1.2.1 (fun m x1 y => by rw [fI m (by omega) (by omega)]) (fun m _ => eN m)) (fun m hm => fI m (by omega) (by omega)) (by rw [wIs, va_up_ne _ _ (by decide), th6 (by decide), eI 600 (by decide)]) (fun m _ => eN m)) ⟨v + 1, by omega, by omega, ?_, ?_⟩, by rw [eI 600 (by decide), v3, v4]⟩
  · rw [wIo (by decide), thI (by decide), e0, v3, nI_1]
  · rw [wIs, va_up_self, eI 600 (by decide), v4, nI_1]
theorem fill_at {f : Nat → Int32} {x : Int32} : ∀ (n i j : Nat), fillF f x n i j = if i ≤ j ∧ j < i + n then x else f j := by
  intro n
  induction n generalizing f with
  | zero => intro i j; unfold fillF; rw [if_neg (by omega)]
  | succ n ih =>
    intro i j
    unfold fillF
    rw [ih]
    unfold upd
    by_cases e : j = i
    · rw [if_neg (by omega), if_pos e, if_pos (by omega)]
    · by_cases e2 : i + 1 ≤ j ∧ j < i + 1 + n
      · rw [if_pos e2, if_pos (by omega)]
      · rw [if_neg e2, if_neg e, if_neg (by omega)]
theorem si_clear {n : Nat} {S : ST} {ad : Nat → Nat} (h : Sim n S) (T : ST) (hT : T = clrS ad S) : Sim n (mclS T) := by
  have eI : ∀ m, m ≠ 11 → m ≠ 9 → m ≠ 0 → sI T m = sI S m := fun m a b c => by
    rw [hT]
    show va_up (va_up (va_up S.1 11 (fillF (sI S 11) 0 100 0)) 9 (fillF (sI S 9) 0 27 0)) 0 (va_up (sI S 0) 11 1) m = _
    rw [va_up_ne _ _ c, va_up_ne _ _ b, va_up_ne _ _ a]
  have e11 : sI T 11 = fillF (sI S 11) 0 100 0 := by
    rw [hT]
    show va_up (va_up (va_up S.1 11 (fillF (sI S 11) 0 100 0)) 9 (fillF (sI S 9) 0 27 0)) 0 (va_up (sI S 0) 11 1) 11 = _
    rw [va_up_ne _ _ (by decide), va_up_ne _ _ (by decide), va_up_self]
  have e9 : sI T 9 = fillF (sI S 9) 0 27 0 := by
    rw [hT]
    show va_up (va_up (va_up S.1 11 (fillF (sI S 11) 0 100 0)) 9 (fillF (sI S 9) 0 27 0)) 0 (va_up (sI S 0) 11 1) 9 = _
    rw [va_up_ne _ _ (by decide), va_up_self]
  have e0 : sI T 0 11 = 1 := by
    rw [hT]
    show va_up (va_up (va_up S.1 11 (fillF (sI S 11) 0 100 0)) 9 (fillF (sI S 9) 0 27 0)) 0 (va_up (sI S 0) 11 1) 0 11 = _
    rw [va_up_self, va_up_self]
  have eN : ∀ m, clrZ m = false → sN T m = sN S m := fun m hm => by
    rw [hT]
    show (if clrZ m then 0 else sN S m) = _
    rw [hm]
    rfl
  have eZ : ∀ m, clrZ m = true → sN T m = 0 := fun m hm => by
    rw [hT]
    show (if clrZ m then 0 else sN S m) = _
    rw [hm]
    rfl
  have mI : ∀ m, m ≠ 600 → m ≠ 701 → m ≠ 724 → m ≠ 726 → m ≠ 728 → sI (mclS T) m = sI T m := fun m a b c d e => by
    unfold mclS
    rw [wNI, wIo a, wIo e, wIo d, wIo a, wIo c]
    show sI (wI (thS T 0) 701 (fillF (sI T 701) 0 100 0)) m = _
    rw [wIo b, thI a]
  have m701 : sI (mclS T) 701 = fillF (sI T 701) 0 100 0 := by
    unfold mclS
    rw [wNI, wIo (by decide), wIo (by decide), wIo (by decide), wIo (by decide), wIo (by decide)]
    show sI (wI (thS T 0) 701 (fillF (sI T 701) 0 100 0)) 701 = _
    rw [wIs]
  have m724 : sI (mclS T) 724 = fillF (sI T 724) 0 27 0 := by
    unfold mclS
    rw [wNI, wIo (by decide), wIo (by decide), wIo (by decide), wIo (by decide), wIs]
  have m726 : sI (mclS T) 726 = fillF (sI T 726) 0 6480 0 := by
    unfold mclS
    rw [wNI, wIo (by decide), wIo (by decide), wIs]
  have m728 : sI (mclS T) 728 = fillF (sI T 728) 0 6480 0 := by
    unfold mclS
    rw [wNI, wIo (by decide), wIs]
  have m600 : sI (mclS T) 600 = va_up (va_up (va_up (sI T 600) 0 0) 25 1) 29 0 := by
    unfold mclS
    rw [wNI, wIs]
  have mN : ∀ m, (m < 20 ∨ 26 < m) → sN (mclS T) m = sN T m := fun m hm => by
    unfold mclS
    rw [wN_ne (by omega)]
    show sN (wN (wN (wN (wN (wN (wN (wI (thS T 0) 701 (fillF (sI T 701) 0 100 0)) 20 0) 21 0) 22 0) 23 0) 24 0) 25 0) m = _
    rw [wN_ne (by omega), wN_ne (by omega), wN_ne (by omega), wN_ne (by omega), wN_ne (by omega), wN_ne (by omega)]
    rfl
  have mZ : ∀ m, 20 ≤ m → m ≤ 26 → sN (mclS T) m = 0 := fun m h1 h2 => by
    unfold mclS
    by_cases e : m = 26
    · rw [e, wN_self]
    · rw [wN_ne e]
      show sN (wN (wN (wN (wN (wN (wN (wI (thS T 0) 701 (fillF (sI T 701) 0 100 0)) 20 0) 21 0) 22 0) 23 0) 24 0) 25 0) m = _
      rcases (show m = 20 ∨ m = 21 ∨ m = 22 ∨ m = 23 ∨ m = 24 ∨ m = 25 by omega) with rfl | rfl | rfl | rfl | rfl | rfl
      · rw [wN_ne (by decide), wN_ne (by decide), wN_ne (by decide), wN_ne (by decide), wN_ne (by decide), wN_self]
      · rw [wN_ne (by decide), wN_ne (by decide), wN_ne (by decide), wN_ne (by decide), wN_self]
      · rw [wN_ne (by decide), wN_ne (by decide), wN_ne (by decide), wN_self]
      · rw [wN_ne (by decide), wN_ne (by decide), wN_self]
      · rw [wN_ne (by decide), wN_self]
      · rw [wN_self]
  have z0 : ∀ m, m < 20 → clrZ m = true → sN (mclS T) m = 0 := fun m a b => by rw [mN m (by omega), eZ m b]
  have n0 := z0 0 (by decide) rfl
  have n1 := z0 1 (by decide) rfl
  have n2 := z0 2 (by decide) rfl
  have n3 := z0 3 (by decide) rfl
  have n7 := z0 7 (by decide) rfl
  have n9 := z0 9 (by decide) rfl
  have n16 := z0 16 (by decide) rfl
  have n17 := z0 17 (by decide) rfl
  have n18 := z0 18 (by decide) rfl
  have n19 := z0 19 (by decide) rfl
  have nt : ∀ c q, ¬ tok (mclS T) c q := by
    intro c q z
    rcases z with ⟨-, z⟩ | ⟨-, z⟩ | ⟨-, z⟩ <;> omega
  have n8 : sN (mclS T) 8 = sN S 8 := by rw [mN 8 (by omega), eN 8 rfl]
  have hR := h.2.2.2.2.2.2.1
  have hM3 := h.1.2.2.2.2.2.2.2.2.2.2
  have f0 : ∀ j, j < 6480 → fillF (sI T 726) 0 6480 0 j = 0 := fun j hj => by rw [fill_at, if_pos (by omega)]
  have f8 : ∀ j, j < 6480 → fillF (sI T 728) 0 6480 0 j = 0 := fun j hj => by rw [fill_at, if_pos (by omega)]
  refine ⟨gT.zero ⟨n0, n1, n2, n7, mZ 20 (by omega) (by omega), mZ 21 (by omega) (by omega), mZ 22 (by omega) (by omega), mZ 23 (by omega) (by omega)⟩ ?_, ⟨by rw [mZ 25 (by omega) (by omega), n3], by omega, fun r hr => by omega, fun r hr => ?_, fun r hr => ?_⟩, fun i hi => ?_, fun i hi => ?_, ⟨⟨by rw [n9, mZ 24 (by omega) (by omega)], by omega, fun j hj => by omega⟩, fun k => ?_⟩, ⟨by rw [mZ 26 (by omega) (by omega), n16], by omega, fun i hi => by omega, fun i j h1 h2 => by omega⟩, ⟨⟨fun t ht => ?_, by rw [n8]; exact hR.1.2⟩, ⟨fun i hi => ?_, fun c q r ht => absurd ht (nt c q), fun i j h1 h2 => ?_⟩, ⟨fun i hi => by omega, fun c q r ht => absurd ht (nt c q), fun i j h1 h2 => by omega⟩, fun c q r hc hnt hq hr => ?_, fun x hx => ?_, fun _ => ⟨?_, n17⟩⟩, ⟨1, by decide, by omega, ?_, ?_⟩⟩
  · unfold mI3
    rw [mI 709 (by decide) (by decide) (by decide) (by decide) (by decide), mI 710 (by decide) (by decide) (by decide) (by decide) (by decide), mI 711 (by decide) (by decide) (by decide) (by decide) (by decide), eI 709 (by decide) (by decide) (by decide), eI 710 (by decide) (by decide) (by decide), eI 711 (by decide) (by decide) (by decide)]
    exact hM3
  · unfold wfR
    have hz : clrZ (3000 + r) = false := by
      unfold clrZ
      simp only [Bool.or_eq_false_iff, beq_eq_false_iff_ne]
      omega
    rw [mN (3000 + r) (by omega), eN _ hz, mI _ (by omega) (by omega) (by omega) (by omega) (by omega), mI _ (by omega) (by omega) (by omega) (by omega) (by omega), eI _ (by omega) (by omega) (by omega), eI _ (by omega) (by omega) (by omega)]
    exact h.2.1.2.2.2.1 r hr
  · have hz : clrZ (3000 + r) = false := by
      unfold clrZ
      simp only [Bool.or_eq_false_iff, beq_eq_false_iff_ne]
      omega
    rw [mN (3000 + r) (by omega), eN _ hz]
    exact h.2.1.2.2.2.2 r hr
  · rw [m701, mI 11 (by decide) (by decide) (by decide) (by decide) (by decide), e11, fill_at, fill_at, if_pos (by omega), if_pos (by omega)]
  · rw [m724, mI 9 (by decide) (by decide) (by decide) (by decide) (by decide), e9, fill_at, fill_at, if_pos (by omega), if_pos (by omega)]
    exact ⟨rfl, fun _ => rfl⟩
  · rw [mI 16 (by decide) (by decide) (by decide) (by decide) (by decide), eI 16 (by decide) (by decide) (by decide)]
    exact h.2.2.2.2.1.2 k
  · have hc := hR.1.1 t ht
    unfold capOK at hc ⊢
    have e4 : sN (mclS T) (4 + t) = sN S (4 + t) := by
      rw [mN _ (by omega), eN]
      rcases (show t = 0 ∨ t = 1 ∨ t = 2 by omega) with rfl | rfl | rfl <;> rfl
    have e17 : sN (mclS T) (17 + t) = 0 := by
      rcases (show t = 0 ∨ t = 1 ∨ t = 2 by omega) with rfl | rfl | rfl
      · exact n17
      · exact n18
      · exact n19
    rw [e4, e17]
    exact ⟨Nat.zero_le _, hc.2⟩
  · have : sN (mclS T) (17 + sN (mclS T) 8) = 0 := by
      rw [n8]
      rcases hR.1.2 with e | e
      · rw [e]; exact n18
      · rw [e]; exact n19
    omega
  · have : sN (mclS T) (17 + sN (mclS T) 8) = 0 := by
      rw [n8]
      rcases hR.1.2 with e | e
      · rw [e]; exact n18
      · rw [e]; exact n19
    omega
  · rw [m726, m728]
    have hx := (tI_dec (r := r) hc hq).2.2.2 hr
    exact ⟨f0 _ hx, f8 _ hx⟩
  · rw [m726]; exact Or.inl (f0 x hx)
  · rw [n8]
    rcases hR.1.2 with e | e
    · rw [e]; exact n18
    · rw [e]; exact n19
  · rw [mI 0 (by decide) (by decide) (by decide) (by decide) (by decide), e0]
    rfl
  · rw [m600, va_up_ne _ _ (by decide), va_up_self]
    rfl
theorem nI_decr (n : Nat) : nI (n + 1) + (-1) = nI n := by
  have := nI_add n 1
  rw [← this, Int32.add_assoc]
  exact Int32.add_zero _
theorem off_eq {S : ST} {f : Nat → Int32} {k : Nat} (hk : k < 2 ^ 31) : ∀ (n m i c : Nat), c ≤ k → i ≤ 27 → (∀ j, i ≤ j → j < i + m → sI S 724 j = f j) → (∀ j, i + m ≤ j → j < i + n → f j = 0) → m ≤ n → i + n ≤ 27 → offF f (nI k) n i c = ofR S m i (nI (k - c))
  | 0, m, i, c, _, _, _, _, hmn, _ => by
    have : m = 0 := by omega
    subst this
    rfl
  | n + 1, 0, i, c, hc, hi, h1, h2, hmn, h27 => by
    unfold offF
    rw [if_pos (h2 i (by omega) (by omega)), off_eq (S := S) hk n 0 (i + 1) c hc (by omega) (fun j a b => by omega) (fun j a b => h2 j (by omega) (by omega)) (by omega) (by omega)]
    rfl
  | n + 1, m + 1, i, c, hc, hi, h1, h2, hmn, h27 => by
    unfold offF ofR
    rw [h1 i (by omega) (by omega)]
    by_cases z : f i = 0
    · rw [if_pos z, if_pos z]
      exact off_eq hk n m (i + 1) c hc (by omega) (fun j a b => h1 j (by omega) (by omega)) (fun j a b => h2 j (by omega) (by omega)) (by omega) (by omega)
    · rw [if_neg z, if_neg z]
      by_cases e : c = k
      · subst e
        rw [if_pos rfl, Nat.sub_self, if_pos (show nI 0 = 0 from rfl)]
      · rw [if_neg (fun y => e ((nI_eq (by omega) hk).mp y)), if_neg (fun y => by
          rw [show (0 : Int32) = nI 0 from rfl, nI_eq (by omega) (by omega)] at y
          omega)]
        rw [off_eq hk n m (i + 1) (c + 1) (by omega) (by omega) (fun j a b => h1 j (by omega) (by omega)) (fun j a b => h2 j (by omega) (by omega)) (by omega) (by omega)]
        have : nI (k - c) + (-1) = nI (k - (c + 1)) := by
          rw [show k - c = (k - (c + 1)) + 1 by omega]
          exact nI_decr _
        rw [this]
theorem off_neg {f : Nat → Int32} {x : Int32} (hx : x < 0) : ∀ (n i c : Nat), c + n ≤ 100 → offF f x n i c = -1
  | 0, _, _, _ => rfl
  | n + 1, i, c, h => by
    have h1 := off_neg (f := f) hx n (i + 1) c (by omega)
    have h2 := off_neg (f := f) hx n (i + 1) (c + 1) (by omega)
    have h3 : ¬ nI c = x := fun z => by
      rw [← z] at hx
      exact nI_pos (n := c) (by omega) hx
    unfold offF
    by_cases z : f i = 0
    · rw [if_pos z]; exact h1
    · rw [if_neg z, if_neg h3]; exact h2
theorem si_offRule {n : Nat} {S : ST} {x : Int32} (h : Sim n S) : offF (sI S 9) x 27 0 0 = if x < 0 then -1 else ofR S (7 + sN S 25) 0 x := by
  have hF := h.2.2.2.1
  have h3 := h.2.1.2.1
  have h25 := h.2.1.1
  by_cases hx : x < 0
  · rw [if_pos hx, off_neg hx 27 0 0 (by omega)]
  · rw [if_neg hx]
    obtain ⟨k, hk, rfl⟩ := nI_of hx
    rw [off_eq hk 27 (7 + sN S 25) 0 0 (by omega) (by omega) (fun j a b => (hF j (by omega)).1) (fun j a b => (hF j (by omega)).2 (by omega)) (by omega) (by omega), Nat.sub_zero]
