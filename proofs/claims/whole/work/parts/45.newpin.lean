/-! A new pin -/
theorem Rep.away {w : zC} {ad : Nat → Nat} {S : ST} {Z Z' : zZ} (h : Rep w ad S Z) (hf : ∀ i, liveS S i → ∀ e, zhs Z (ad i) e → zhs Z' (ad i) e) : Rep w ad S Z' := ⟨h.1, h.2.1, fun i hi => hf i hi _ (h.2.2 i hi)⟩
/-- what a pin will read, while it isn't there yet -/
def pinB (S : ST) (k0 d : Nat) (s : Int32) (o : Option Nat) : ST := (va_up S.1 (300 + sN S 2) (fun j => if j = 0 then s else if j = 3 then nI d else 0), S.2.1, va_up S.2.2.1 (300 + sN S 2) (fun _ => o), va_up S.2.2.2 (2000 + sN S 2) k0)
theorem pinB_N {S : ST} {k0 d n : Nat} {s : Int32} {o : Option Nat} (h : n ≠ 2000 + sN S 2) : sN (pinB S k0 d s o) n = sN S n := va_up_ne _ _ h
theorem pinB_live {S : ST} {k0 d i : Nat} {s : Int32} {o : Option Nat} : liveS (pinB S k0 d s o) i ↔ liveS S i := by
  simp only [liveS]
  rw [pinB_N (n := 0) (by omega), pinB_N (n := 1) (by omega), pinB_N (n := 2) (by omega), pinB_N (n := 3) (by omega)]
theorem pinB_ciLive {S : ST} {k0 d : Nat} {s : Int32} {o : Option Nat} (h : ciLive S) (b0 : sN S 0 ≤ 40) (b1 : sN S 1 ≤ 40) : ciLive (pinB S k0 d s o) := by
  refine ⟨fun k hk => ?_, fun k hk => ?_⟩
  · rw [pinB_N (n := 0) (by omega), pinB_N (n := 1) (by omega), pinB_N (n := 2) (by omega)] at hk
    obtain ⟨c, q, h1, h2⟩ := h.1 k hk
    refine ⟨c, q, ?_, ?_⟩
    · unfold tok at *
      rw [pinB_N (n := 0) (by omega), pinB_N (n := 1) (by omega), pinB_N (n := 2) (by omega)]
      exact h1
    · rw [pinB_N (by omega)]; exact h2
  · rw [pinB_N (n := 2) (by omega)] at hk
    rw [pinB_N (n := 2000 + k) (by omega), pinB_N (n := 0) (by omega), pinB_N (n := 1) (by omega), show sR (pinB S k0 d s o) (300 + k) = sR S (300 + k) from va_up_ne _ _ (by omega)]
    exact h.2 k hk
theorem Rep.toPinB {w : zC} {ad : Nat → Nat} {S : ST} {Z : zZ} {k0 d : Nat} {s : Int32} {o : Option Nat} (h : Rep w ad S Z) (hL : ciLive S) (hk : sN S 2 < 160) : Rep w ad (pinB S k0 d s o) Z := by
  refine ⟨?_, fun i j hi hj he => h.2.1 i j (pinB_live.mp hi) (pinB_live.mp hj) he, fun i hi => ?_⟩
  · rw [pinB_N (n := 0) (by omega), pinB_N (n := 1) (by omega), pinB_N (n := 2) (by omega), pinB_N (n := 3) (by omega), pinB_N (n := 8) (by omega)]
    exact h.1
  · have hi := pinB_live.mp hi
    have n0 := h.1.1
    have n1 := h.1.2.1
    have hne : i ≠ 300 + sN S 2 := fun z => by simp only [liveS] at hi; omega
    rw [cell_cg (S' := pinB S k0 d s o) hi h.1 hL (ad' := ad) (fun _ _ => rfl) (fun m hm => ?_) (va_up_ne _ _ hne) rfl (va_up_ne _ _ hne)]
    · exact h.2.2 i hi
    · refine va_up_ne _ _ (fun z => ?_)
      subst z
      rcases hm with hm | hm | hm
      · unfold rdK at hm; split at hm <;> first | omega | exact hm.elim
      · omega
      · have := h.1.2.2.1; omega
def pinS (S : ST) (p : Nat) : ST := (S.1, S.2.1, S.2.2.1, insN S 2 p (300 + sN S 2))
def pinA (ad : Nat → Nat) (k a : Nat) : Nat → Nat := va_up ad (300 + k) a
theorem Rep.addPin {w : zC} {ad : Nat → Nat} {S : ST} {Z Z' : zZ} {p a : Nat} (h : Rep w ad S Z) (hL : ciLive S) (hk : sN S 2 < 160) (hp : p ≤ sN S 0 + sN S 1 + sN S 2) (ha : ∀ i, liveS S i → ad i ≠ a) (hk0 : sN S (2000 + sN S 2) < sN S 0) (ho : ∀ n, sR S (300 + sN S 2) 4 = some n → n < sN S 1)
    (g0 : zhs Z' a (pPin ad S (sN S 2)))
    (g3 : zhs Z' (ad 1) (.inr (1, [.ref (ad 11), .ref (ad 12), .ref (ad 13), .ref (ad 14), .ref (ad 15), .int (nI (sN S 0)), .int (nI (sN S 1)), .int (nI (sN S 2 + 1)), .int (nI (sN S 7))])))
    (g4 : zhs Z' (ad 14) (xr w 6 160 (va_up (fun k => if k < sN S 2 then some (ad (300 + k)) else sR S 14 k) (sN S 2) (some a)))) (g5 : zhs Z' (ad 15) (xr w 7 240 (va_up (shf (ordA ad S) (sN S 0 + sN S 1 + sN S 2) p) p (some a))))
    (hf : ∀ b e, b ≠ ad 1 → b ≠ ad 14 → b ≠ ad 15 → b ≠ a → zhs Z b e → zhs Z' b e) : Rep w (pinA ad (sN S 2) a) (pinS S p) Z' := by
  have b0 := h.1.1
  have b1 := h.1.2.1
  have b2 := h.1.2.2.1
  have A0 : pinA ad (sN S 2) a (300 + sN S 2) = a := va_up_self _ _ _
  have AO : ∀ i, i ≠ 300 + sN S 2 → pinA ad (sN S 2) a i = ad i := fun i hi => va_up_ne _ _ hi
  have hlo : ∀ i, liveS S i → i ≠ 300 + sN S 2 := fun i hi => by simp only [liveS] at hi; omega
  have had : ∀ i, liveS S i → pinA ad (sN S 2) a i = ad i := fun i hi => AO i (hlo i hi)
  have hN : sN (pinS S p) = insN S 2 p (300 + sN S 2) := rfl
  have hN0 : sN (pinS S p) 2 = sN S 2 + 1 := by rw [hN, insN_c]
  have hNo : ∀ n, n ≠ 2 → n < 1000 → sN (pinS S p) n = sN S n := fun n h1 h2 => by rw [hN]; exact insN_o h1 (Or.inl h2)
  have hnew : ∀ i, liveS (pinS S p) i → liveS S i ∨ i = 300 + sN S 2 := by
    intro i hi
    simp only [liveS] at hi ⊢
    rw [hN0, hNo 0 (by omega) (by omega), hNo 1 (by omega) (by omega), hNo 3 (by omega) (by omega)] at hi
    rcases hi with hi | hi | hi | hi | hi | hi | hi | hi
    · exact Or.inl (Or.inl hi)
    · exact Or.inl (Or.inr (Or.inl hi))
    · exact Or.inl (Or.inr (Or.inr (Or.inl hi)))
    · exact Or.inl (Or.inr (Or.inr (Or.inr (Or.inl hi))))
    · by_cases hlt : i < 300 + sN S 2
      · exact Or.inl (Or.inr (Or.inr (Or.inr (Or.inr (Or.inl ⟨hi.1, hlt⟩)))))
      · exact Or.inr (by omega)
    · exact Or.inl (Or.inr (Or.inr (Or.inr (Or.inr (Or.inr (Or.inl hi))))))
    · exact Or.inl (Or.inr (Or.inr (Or.inr (Or.inr (Or.inr (Or.inr (Or.inl hi)))))))
    · exact Or.inl (Or.inr (Or.inr (Or.inr (Or.inr (Or.inr (Or.inr (Or.inr (hi))))))))
  have hcp : cellOf w (pinA ad (sN S 2) a) (pinS S p) (300 + sN S 2) = pPin ad S (sN S 2) := by
    rw [cell_pin (by omega)]
    unfold pPin
    have e2 : sN (pinS S p) (2000 + sN S 2) = sN S (2000 + sN S 2) := by rw [hN]; exact insN_o (by omega) (by omega)
    rw [e2, AO (100 + 3 * sN S (2000 + sN S 2)) (by omega)]
    have em : (sR S (300 + sN S 2) 4).map (fun n => pinA ad (sN S 2) a (220 + 2 * n)) = (sR S (300 + sN S 2) 4).map (fun n => ad (220 + 2 * n)) := by
      cases h9 : sR S (300 + sN S 2) 4 with
      | none => rfl
      | some n =>
        have := ho n h9
        simp only [Option.map_some, AO (220 + 2 * n) (by omega)]
    show (.inr (8, [_, _, _, _, va_rf ((sR S (300 + sN S 2) 4).map (fun n => pinA ad (sN S 2) a (220 + 2 * n)))]) : va_E) = _
    rw [em]
    rfl
  refine ⟨⟨by rw [hNo 0 (by omega) (by omega)]; exact b0, by rw [hNo 1 (by omega) (by omega)]; exact b1, by rw [hN0]; omega, by rw [hNo 3 (by omega) (by omega)]; exact h.1.2.2.2.1, by rw [hNo 8 (by omega) (by omega)]; exact h.1.2.2.2.2⟩, fun i j hi hj he => ?_, fun i hi => ?_⟩
  · rcases hnew i hi with x | x <;> rcases hnew j hj with y | y
    · rw [had i x, had j y] at he; exact h.2.1 i j x y he
    · rw [had i x, y, A0] at he; exact absurd he (ha i x)
    · rw [had j y, x, A0] at he; exact absurd he.symm (ha j y)
    · rw [x, y]
  · rcases hnew i hi with hi | rfl
    · rw [had i hi]
      by_cases i1 : i = 1
      · subst i1
        rw [cell_K (by decide)]
        unfold cellK
        simp only [AO 11 (by omega), AO 12 (by omega), AO 13 (by omega), AO 14 (by omega), AO 15 (by omega), hN0, hNo 0 (by omega) (by omega), hNo 1 (by omega) (by omega), hNo 7 (by omega) (by omega)]
        exact g3
      by_cases i12 : i = 14
      · subst i12
        have e : cellOf w (pinA ad (sN S 2) a) (pinS S p) 14 = xr w 6 160 (va_up (fun k => if k < sN S 2 then some (ad (300 + k)) else sR S 14 k) (sN S 2) (some a)) := by
          rw [cell_K (by decide)]
          show xr w 6 160 _ = xr w 6 160 _
          congr 1
          funext k
          rw [hN0]
          by_cases hk0 : k = sN S 2
          · subst hk0; rw [va_up_self, if_pos (by omega), A0]
          · rw [va_up_ne _ _ hk0]
            by_cases hk1 : k < sN S 2
            · rw [if_pos hk1, if_pos (by omega), AO _ (by omega)]
            · rw [if_neg hk1, if_neg (by omega)]; rfl
        rw [e]; exact g4
      by_cases i15 : i = 15
      · subst i15
        rw [cell_15, ord_ins (c := 2) (by decide) (by omega) hp hN rfl hL had, A0]
        exact g5
      rw [ins_old h (c := 2) (by decide) hL had hN hi i1 i12 i15 rfl rfl rfl]
      exact hf _ _ (h.inj hi (Or.inl (by decide)) i1) (h.inj hi (Or.inl (by decide)) i12) (h.inj hi (Or.inl (by decide)) i15) (ha i hi) (h.2.2 i hi)
    · rw [A0, hcp]; exact g0
