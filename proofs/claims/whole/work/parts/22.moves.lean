/-! How the state moves: one cell's ints, longs or references, a count -/
def wI (S : ST) (i : Nat) (f : Nat → Int32) : ST := (va_up S.1 i f, S.2.1, S.2.2.1, S.2.2.2)
def wJ (S : ST) (i : Nat) (f : Nat → Int64) : ST := (S.1, va_up S.2.1 i f, S.2.2.1, S.2.2.2)
def wR (S : ST) (i : Nat) (f : Nat → Option Nat) : ST := (S.1, S.2.1, va_up S.2.2.1 i f, S.2.2.2)
def wN (S : ST) (n v : Nat) : ST := (S.1, S.2.1, S.2.2.1, va_up S.2.2.2 n v)
/-- a cell reads its own ints, longs, references, and the counts -/
theorem cell_dep {w : zC} {ad : Nat → Nat} {S S' : ST} {j : Nat} (h1 : S'.1 j = S.1 j) (h2 : S'.2.1 j = S.2.1 j) (h3 : S'.2.2.1 j = S.2.2.1 j) (h4 : S'.2.2.2 = S.2.2.2) : cellOf w ad S' j = cellOf w ad S j := by
  by_cases c1 : j < 100
  · rw [cell_K c1, cell_K c1]
    unfold cellK
    split <;> simp_all [sI, sJ, sR, sN]
  by_cases c2 : 520 ≤ j
  · rw [cell_M c2, cell_M c2]
    unfold cellM
    split <;> simp_all [sI, sJ, sR, sN, moF]
  unfold cellOf
  rw [if_neg c1, if_neg c1]
  by_cases c3 : j < 220
  · rw [if_pos c3, if_pos c3]
    by_cases d1 : (j - 100) % 3 = 0
    · rw [if_pos d1, if_pos d1]
      have e : 100 + 3 * ((j - 100) / 3) = j := by omega
      simp only [pPart, sI, sN, e, h1]
    rw [if_neg d1, if_neg d1]
    by_cases d2 : (j - 100) % 3 = 1
    · rw [if_pos d2, if_pos d2]; simp only [sI, h1]
    rw [if_neg d2, if_neg d2]; simp only [sJ, h2]
  rw [if_neg c3, if_neg c3]
  by_cases c4 : j < 300
  · rw [if_pos c4, if_pos c4]
    by_cases d1 : (j - 220) % 2 = 0
    · rw [if_pos d1, if_pos d1]
      have e : 220 + 2 * ((j - 220) / 2) = j := by omega
      simp only [pNet, sI, sN, e, h1]
    rw [if_neg d1, if_neg d1]; simp only [sI, h1]
  rw [if_neg c4, if_neg c4]
  by_cases c5 : j < 460
  · rw [if_pos c5, if_pos c5]
    have e : 300 + (j - 300) = j := by omega
    simp only [pPin, sI, sN, sR, e, h1, h3, h4]
  rw [if_neg c5, if_neg c5]
  have c6 : j < 520 := by omega
  rw [if_pos c6, if_pos c6]
  by_cases d1 : (j - 460) % 3 = 0
  · rw [if_pos d1, if_pos d1]
    have e : 460 + 3 * ((j - 460) / 3) = j := by omega
    simp only [pRule, sI, sN, e, h1]
  rw [if_neg d1, if_neg d1]; simp only [sI, sN, h1, h4]
theorem cell_wI {w : zC} {ad : Nat → Nat} {S : ST} {i j : Nat} {f : Nat → Int32} (h : j ≠ i) : cellOf w ad (wI S i f) j = cellOf w ad S j := cell_dep (va_up_ne _ _ h) rfl rfl rfl
theorem cell_wJ {w : zC} {ad : Nat → Nat} {S : ST} {i j : Nat} {f : Nat → Int64} (h : j ≠ i) : cellOf w ad (wJ S i f) j = cellOf w ad S j := cell_dep rfl (va_up_ne _ _ h) rfl rfl
theorem cell_wR {w : zC} {ad : Nat → Nat} {S : ST} {i j : Nat} {f : Nat → Option Nat} (h : j ≠ i) : cellOf w ad (wR S i f) j = cellOf w ad S j := cell_dep rfl rfl (va_up_ne _ _ h) rfl
theorem live_same {S S' : ST} (h : S'.2.2.2 = S.2.2.2) (i : Nat) : liveS S' i ↔ liveS S i := by simp only [liveS, sN, h]
/-- one cell is written, and the state says so -/
theorem Rep.put {w : zC} {ad : Nat → Nat} {S S' : ST} {Z : zZ} (h : Rep w ad S Z) {i : Nat} {e : va_E} (hi : liveS S i) (hl : ∀ j, liveS S' j → liveS S j) (hb : sN S' 0 ≤ 40 ∧ sN S' 1 ≤ 40 ∧ sN S' 2 ≤ 160 ∧ sN S' 3 ≤ 20 ∧ (sN S' 8 = 1 ∨ sN S' 8 = 2)) (hs : cellOf w ad S' i = e) (ho : ∀ j, liveS S' j → j ≠ i → cellOf w ad S' j = cellOf w ad S j) : Rep w ad S' (zput Z (ad i) e) := by
  refine ⟨hb, (h.2.put hi e).congr hl (fun j hj => ⟨rfl, ?_⟩)⟩
  by_cases hji : j = i
  · rw [hji, va_up_self]; exact hs
  · rw [va_up_ne _ _ hji]; exact ho j hj hji
theorem Rep.putI {w : zC} {ad : Nat → Nat} {S : ST} {Z : zZ} (h : Rep w ad S Z) {i : Nat} {e : va_E} {f : Nat → Int32} (hi : liveS S i) (hs : cellOf w ad (wI S i f) i = e) : Rep w ad (wI S i f) (zput Z (ad i) e) := h.put hi (fun j hj => (live_same rfl j).mp hj) h.1 hs (fun j _ hj => cell_wI hj)
theorem Rep.putJ {w : zC} {ad : Nat → Nat} {S : ST} {Z : zZ} (h : Rep w ad S Z) {i : Nat} {e : va_E} {f : Nat → Int64} (hi : liveS S i) (hs : cellOf w ad (wJ S i f) i = e) : Rep w ad (wJ S i f) (zput Z (ad i) e) := h.put hi (fun j hj => (live_same rfl j).mp hj) h.1 hs (fun j _ hj => cell_wJ hj)
theorem Rep.putR {w : zC} {ad : Nat → Nat} {S : ST} {Z : zZ} (h : Rep w ad S Z) {i : Nat} {e : va_E} {f : Nat → Option Nat} (hi : liveS S i) (hs : cellOf w ad (wR S i f) i = e) : Rep w ad (wR S i f) (zput Z (ad i) e) := h.put hi (fun j hj => (live_same rfl j).mp hj) h.1 hs (fun j _ hj => cell_wR hj)
