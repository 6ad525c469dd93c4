/-! A row of remarks as a list; one more remark -/
abbrev RM : Type := Int32 × Int32 × Int32
def remL (S : ST) (j : Nat) : List RM := (List.range (sN S (17 + j))).map fun i => (sI S (22 + 3 * j) i, sI S (23 + 3 * j) i, sI S (24 + 3 * j) i)
theorem remL_len {S : ST} {j : Nat} : (remL S j).length = sN S (17 + j) := by simp [remL]
/-- what it may still cost to let a row grow: cells, slots -/
def gC (n : Nat) : Nat := 3 * (3720 - n)
def gS (n : Nat) : Nat := if n < 3720 then 6 * (3720 - n) + 12000 else 0
theorem gC_grow {n : Nat} (h : n < 3720) (h0 : 0 < n) : gC (min (2 * n) 3720) + 3 ≤ gC n := by unfold gC; omega
theorem gS_grow {n : Nat} (h : n < 3720) (h0 : 0 < n) : gS (min (2 * n) 3720) + 3 * min (2 * n) 3720 ≤ gS n := by
  unfold gS
  rw [if_pos h]
  by_cases h1 : min (2 * n) 3720 < 3720
  · rw [if_pos h1]; omega
  · rw [if_neg h1]; omega
def capOK (S : ST) (j : Nat) : Prop := sN S (17 + j) ≤ sN S (4 + j) ∧ 0 < sN S (4 + j) ∧ sN S (4 + j) ≤ 3720
/-- only row j, and the stack, may have moved -/
def mvA (ad ad' : Nat → Nat) (j : Nat) : Prop := ∀ m, (m ≠ 22 + 3 * j ∧ m ≠ 23 + 3 * j ∧ m ≠ 24 + 3 * j) → ad' m = ad m
def mv (S S' : ST) (j : Nat) : Prop := (∀ m, (m ≠ 22 + 3 * j ∧ m ≠ 23 + 3 * j ∧ m ≠ 24 + 3 * j) → sI S' m = sI S m) ∧ (∀ m, m ≠ 10 → sJ S' m = sJ S m) ∧ sR S' = sR S ∧ ∀ m, (m ≠ 17 + j ∧ m ≠ 4 + j) → sN S' m = sN S m
def bud (S S' : ST) (Z Z' : zZ) (j : Nat) : Prop := Z.2.2.1 + gC (sN S' (4 + j)) ≤ Z'.2.2.1 + gC (sN S (4 + j)) ∧ Z.2.2.2 + gS (sN S' (4 + j)) ≤ Z'.2.2.2 + gS (sN S (4 + j))
theorem mvA.rf {ad : Nat → Nat} {j : Nat} : mvA ad ad j := fun _ _ => rfl
theorem mvA.tr {a b c : Nat → Nat} {j : Nat} (h1 : mvA a b j) (h2 : mvA b c j) : mvA a c j := fun m hm => (h2 m hm).trans (h1 m hm)
theorem mv.rf {S : ST} {j : Nat} : mv S S j := ⟨fun _ _ => rfl, fun _ _ => rfl, rfl, fun _ _ => rfl⟩
theorem mv.tr {a b c : ST} {j : Nat} (h1 : mv a b j) (h2 : mv b c j) : mv a c j := ⟨fun m hm => (h2.1 m hm).trans (h1.1 m hm), fun m hm => (h2.2.1 m hm).trans (h1.2.1 m hm), h2.2.2.1.trans h1.2.2.1, fun m hm => (h2.2.2.2 m hm).trans (h1.2.2.2 m hm)⟩
theorem mv.wJ {S : ST} {j : Nat} {f : Nat → Int64} : mv S (wJ S 10 f) j := ⟨fun _ _ => rfl, fun m hm => va_up_ne _ _ hm, rfl, fun _ _ => rfl⟩
theorem bud.rf {S : ST} {Z : zZ} {j : Nat} : bud S S Z Z j := ⟨Nat.le_refl _, Nat.le_refl _⟩
theorem bud.tr {S S1 S2 : ST} {Z Z1 Z2 : zZ} {j : Nat} (h1 : bud S S1 Z Z1 j) (h2 : bud S1 S2 Z1 Z2 j) : bud S S2 Z Z2 j := by unfold bud at *; omega
theorem remL_add {S : ST} {j c n : Nat} {kf wf ff : Nat → Int32} {x0 x1 x2 : Int32} (hc : c = sN S (17 + j)) (h0 : rowAdd (sI S (22 + 3 * j)) kf c x0) (h1 : rowAdd (sI S (23 + 3 * j)) wf c x1) (h2 : rowAdd (sI S (24 + 3 * j)) ff c x2) : remL (rSt S j (c + 1) n kf wf ff) j = remL S j ++ [(x0, x1, x2)] := by
  unfold remL
  rw [rSt_c, rSt_0, rSt_1, rSt_2, List.range_succ, List.map_append, ← hc]
  congr 1
  · apply List.map_congr_left
    intro i hi
    have hi := List.mem_range.mp hi
    rw [h0.1 i hi, h1.1 i hi, h2.1 i hi]
  · simp [h0.2, h1.2, h2.2]
theorem mv_rSt {S : ST} {j c n : Nat} {kf wf ff : Nat → Int32} : mv S (rSt S j c n kf wf ff) j := ⟨fun _ hm => rSt_I hm, fun _ _ => rfl, rfl, fun _ hm => rSt_N hm⟩

set_option maxHeartbeats 4000000 in
set_option maxRecDepth 100000 in
theorem A_add {w : zC} {Z : zZ} {Q : zR → zZ → Prop} {ad : Nat → Nat} {S : ST} {j : Nat} {x0 x1 x2 : Int32} (hR : Rep w ad S Z) (hj : j < 3) (ho : ciOrd S) (hc : capOK S j) (hl : sN S (17 + j) < 3720) (hb : gC (sN S (4 + j)) ≤ Z.2.2.1 ∧ gS (sN S (4 + j)) ≤ Z.2.2.2) (hQ : ∀ Z' ad' S', Rep w ad' S' Z' → mvA ad ad' j → mv S S' j → remL S' j = remL S j ++ [(x0, x1, x2)] → capOK S' j → bud S S' Z Z' j → Q (.inl none) Z') : Cz w (3, 69) y_Rm_add (Cond.code y_Rm_add c_Rm_add 4 r_Rm_add :: wz) [.ref (ad (5 + j)), .int x0, .int x1, .int x2] Z Q := by
  obtain ⟨g0, g1, g2, g3⟩ := hR.rem hj
  have I : ∀ a b, a < 31 → b < 31 → a ≠ b → ad a ≠ ad b := fun a b ha hb hne => hR.inj (Or.inl ha) (Or.inl hb) hne
  obtain ⟨hc1, hc2, hc3⟩ := hc
  refine C_Rm_add g0 g1 g2 g3 (I _ _ (by omega) (by omega) (by omega)) (I _ _ (by omega) (by omega) (by omega)) (I _ _ (by omega) (by omega) (by omega)) hc1 hc2 hc3 hl (fun he => ?_) ?_
  · have a1 := gC_grow (n := sN S (4 + j)) (by omega) hc2
    have a2 := gS_grow (n := sN S (4 + j)) (by omega) hc2
    omega
  · intro Z' k' v' f' N' kf' wf' ff' hlt hN' hor kv kf9 vf b0 b1 b2 b3 r0 r1 r2 hfr
    refine hQ Z' (rAd ad j k' v' f') (rSt S j (sN S (17 + j) + 1) N' kf' wf' ff') ?_ (fun m hm => rAd_ne hm) mv_rSt (remL_add rfl r0 r1 r2) ?_ ?_
    · refine hR.remPut hj ho ?_ ?_ ?_ kv kf9 vf b0 b1 b2 b3 hfr
      · rcases hor with h | h
        · exact Or.inl h.2.1
        · exact Or.inr h.2.2.1
      · rcases hor with h | h
        · exact Or.inl h.2.2.1
        · exact Or.inr h.2.2.2.1
      · rcases hor with h | h
        · exact Or.inl h.2.2.2.1
        · exact Or.inr h.2.2.2.2.1
    · unfold capOK
      rw [rSt_c, rSt_n]
      omega
    · unfold bud
      rw [rSt_n]
      rcases hor with h | h
      · rw [h.1]; omega
      · have a1 := gC_grow (n := sN S (4 + j)) (by omega) hc2
        have a2 := gS_grow (n := sN S (4 + j)) (by omega) hc2
        rw [h.2.1] at *
        omega
