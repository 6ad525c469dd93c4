/-! THE STATE. Every cell of the two systems has a number of its own (an id); ad says where it lies. S = (I, J, R, N): ints, longs and references by id and place, and counts. cellOf says what a cell holds. -/
def Fam (Z : zZ) (ad : Nat → Nat) (c : Nat → va_E) (live : Nat → Prop) : Prop := (∀ i j, live i → live j → ad i = ad j → i = j) ∧ ∀ i, live i → zhs Z (ad i) (c i)
theorem Fam.put {Z : zZ} {ad : Nat → Nat} {c : Nat → va_E} {live : Nat → Prop} (h : Fam Z ad c live) {i : Nat} (hi : live i) (e : va_E) : Fam (zput Z (ad i) e) ad (va_up c i e) live := by
  refine ⟨h.1, fun j hj => ?_⟩
  by_cases hji : j = i
  · subst hji
    rw [va_up_self]
    exact zhs_put_same (h.2 j hj)
  · rw [va_up_ne _ _ hji]
    exact zhs_put_ne (h.2 j hj) (fun z => hji (h.1 j i hj hi z))
theorem Fam.new {Z : zZ} {ad : Nat → Nat} {c : Nat → va_E} {live : Nat → Prop} (h : Fam Z ad c live) {i q n : Nat} (hq : q ∉ Z.1) (e : va_E) : Fam (znew Z q e n) (va_up ad i q) (va_up c i e) (fun j => (live j ∧ j ≠ i) ∨ j = i) := by
  have key : ∀ j, live j ∧ j ≠ i → ad j ≠ q := fun j hj z => hq (z ▸ (h.2 j hj.1).1)
  refine ⟨fun j k hj hk he => ?_, fun j hj => ?_⟩
  · rcases hj with hj | rfl
    · rcases hk with hk | rfl
      · rw [va_up_ne _ _ hj.2, va_up_ne _ _ hk.2] at he
        exact h.1 j k hj.1 hk.1 he
      · rw [va_up_ne _ _ hj.2, va_up_self] at he
        exact absurd he (key j hj)
    · rcases hk with hk | rfl
      · rw [va_up_self, va_up_ne _ _ hk.2] at he
        exact absurd he.symm (key k hk)
      · rfl
  · rcases hj with hj | rfl
    · rw [va_up_ne _ _ hj.2, va_up_ne _ _ hj.2]
      exact zhs_new_old (h.2 j hj.1) hq
    · rw [va_up_self, va_up_self]
      exact zhs_new_same
theorem Fam.congr {Z : zZ} {ad ad' : Nat → Nat} {c c' : Nat → va_E} {live live' : Nat → Prop} (h : Fam Z ad c live) (hl : ∀ i, live' i → live i) (hc : ∀ i, live' i → ad' i = ad i ∧ c' i = c i) : Fam Z ad' c' live' :=
  ⟨fun i j hi hj he => h.1 i j (hl i hi) (hl j hj) (by rw [← (hc i hi).1, ← (hc j hj).1]; exact he), fun i hi => by rw [(hc i hi).1, (hc i hi).2]; exact h.2 i (hl i hi)⟩
theorem Fam.fr {Z Z' : zZ} {ad : Nat → Nat} {c c' : Nat → va_E} {live : Nat → Prop} {X : List Nat} (h : Fam Z ad c live) (hf : zfr Z Z' X) (h1 : ∀ i, live i → ad i ∉ X → c' i = c i) (h2 : ∀ i, live i → ad i ∈ X → zhs Z' (ad i) (c' i)) : Fam Z' ad c' live := by
  refine ⟨h.1, fun i hi => ?_⟩
  by_cases hx : ad i ∈ X
  · exact h2 i hi hx
  · rw [h1 i hi hx]
    exact hf _ _ hx (h.2 i hi)
abbrev ST : Type := (Nat → Nat → Int32) × (Nat → Nat → Int64) × (Nat → Nat → Option Nat) × (Nat → Nat)
abbrev sI (S : ST) : Nat → Nat → Int32 := S.1
abbrev sJ (S : ST) : Nat → Nat → Int64 := S.2.1
abbrev sR (S : ST) : Nat → Nat → Option Nat := S.2.2.1
abbrev sN (S : ST) : Nat → Nat := S.2.2.2
abbrev xi (w : zC) (n : Nat) (f : Nat → Int32) : va_E := .inl (w.2.2.2.1 0, n, .inl f)
abbrev xl (w : zC) (n : Nat) (f : Nat → Int64) : va_E := .inl (w.2.2.2.1 1, n, .inr (.inl f))
abbrev xz (w : zC) (n : Nat) (f : Nat → Int32) : va_E := .inl (w.2.2.2.1 2, n, .inl f)
abbrev xc (w : zC) (n : Nat) (f : Nat → Int32) : va_E := .inl (w.2.2.2.1 3, n, .inl f)
abbrev xr (w : zC) (t n : Nat) (f : Nat → Option Nat) : va_E := .inl (w.2.2.2.1 t, n, .inr (.inr (.inr (.inr f))))

def moF (ad : Nat → Nat) (S : ST) : List Value := [.int (sI S 600 0), .ref (ad 701), .int (nI (sN S 20)), .int (nI (sN S 21)), .int (nI (sN S 22)), .ref (ad 705), .ref (ad 706), .ref (ad 707), .ref (ad 708), .ref (ad 709), .ref (ad 710), .ref (ad 711), .int (nI (sN S 23)), .ref (ad 713), .ref (ad 714), .ref (ad 715), .ref (ad 716), .int (nI (sN S 24)), .int (nI (sN S 25)), .ref (ad 719), .ref (ad 720), .ref (ad 721), .ref (ad 722), .ref (ad 723), .ref (ad 724), .int (sI S 600 25), .ref (ad 726), .ref (ad 727), .ref (ad 728), .int (sI S 600 29), .int (nI (sN S 26)), .ref (ad 731), .ref (ad 732), .int (nI (sN S 27)), .int (nI (sN S 28)), .int (nI (sN S 29)), .int (nI (sN S 30)), .ref (ad 737), .int (nI (sN S 31)), .int (nI (sN S 32)), .int (sI S 600 40), .ref (ad 741)]
def cellM (w : zC) (ad : Nat → Nat) (S : ST) (i : Nat) : va_E := match i with
  | 600 => .inr (10, moF ad S)
  | 701 => xi w 100 (sI S 701)
  | 705 => xi w 40 (sI S 705)
  | 706 => xl w 320 (sJ S 706)
  | 707 => xi w 40 (sI S 707)
  | 708 => xi w 40 (sI S 708)
  | 709 => xi w 160 (sI S 709)
  | 710 => xi w 160 (sI S 710)
  | 711 => xi w 160 (sI S 711)
  | 713 => xi w 100 (sI S 713)
  | 714 => xl w 100 (sJ S 714)
  | 715 => xl w 100 (sJ S 715)
  | 716 => xi w 160 (sI S 716)
  | 719 => xi w 20 (sI S 719)
  | 720 => xi w 20 (sI S 720)
  | 721 => xi w 20 (sI S 721)
  | 722 => xi w 1800 (sI S 722)
  | 723 => xi w 1800 (sI S 723)
  | 724 => xz w 27 (sI S 724)
  | 726 => xi w 6480 (sI S 726)
  | 727 => xi w 6480 (sI S 727)
  | 728 => xi w 6480 (sI S 728)
  | 731 => xi w 50 (sI S 731)
  | 732 => xi w 50 (sI S 732)
  | 737 => xi w 100 (sI S 737)
  | 741 => xl w 90 (sJ S 741)
  | _ => .inr (0, [])
def cellK (w : zC) (ad : Nat → Nat) (S : ST) (i : Nat) : va_E := match i with
  | 0 => .inr (0, [.ref (ad 1), .ref (ad 3), .ref (ad 8), .ref (ad 9), .ref (ad 4), .ref (ad 5), .ref (ad 10), .ref (ad (5 + sN S 8)), .ref (ad (8 - sN S 8)), .int (nI (sN S 3)), .int (sI S 0 11)])
  | 1 => .inr (1, [.ref (ad 11), .ref (ad 12), .ref (ad 13), .ref (ad 14), .ref (ad 15), .int (nI (sN S 0)), .int (nI (sN S 1)), .int (nI (sN S 2)), .int (nI (sN S 7))])
  | 2 => .inr (2, [.ref (ad 16), .int (nI (sN S 9)), .int (nI (sN S 10)), .int (nI (sN S 11))])
  | 3 => .inr (3, [.ref (ad 17), .ref (ad 18), .ref (ad 19), .ref (ad 2), .int (nI (sN S 12)), .int (nI (sN S 13)), .int (nI (sN S 14)), .int (sI S 3 7), .int (nI (sN S 15)), .int (sI S 3 9), .int (sI S 3 10), .int (sI S 3 11)])
  | 4 => .inr (4, [.ref (ad 20), .ref (ad 21), .int (nI (sN S 16))])
  | 5 => .inr (5, [.ref (ad 22), .ref (ad 23), .ref (ad 24), .int (nI (sN S 17))])
  | 6 => .inr (5, [.ref (ad 25), .ref (ad 26), .ref (ad 27), .int (nI (sN S 18))])
  | 7 => .inr (5, [.ref (ad 28), .ref (ad 29), .ref (ad 30), .int (nI (sN S 19))])
  | 8 => xr w 8 20 (fun k => if k < sN S 3 then some (ad (460 + 3 * k)) else sR S 8 k)
  | 9 => xz w 27 (sI S 9)
  | 10 => xl w 80 (sJ S 10)
  | 11 => xi w 100 (sI S 11)
  | 12 => xr w 4 40 (fun k => if k < sN S 0 then some (ad (100 + 3 * k)) else sR S 12 k)
  | 13 => xr w 5 40 (fun k => if k < sN S 1 then some (ad (220 + 2 * k)) else sR S 13 k)
  | 14 => xr w 6 160 (fun k => if k < sN S 2 then some (ad (300 + k)) else sR S 14 k)
  | 15 => xr w 7 240 (fun k => if k < sN S 0 + sN S 1 + sN S 2 then some (ad (sN S (1000 + k))) else sR S 15 k)
  | 16 => xc w 160 (sI S 16)
  | 17 => xi w 80 (sI S 17)
  | 18 => xi w 80 (sI S 18)
  | 19 => xi w 80 (sI S 19)
  | 20 => xi w 50 (sI S 20)
  | 21 => xi w 50 (sI S 21)
  | 22 => xi w (sN S 4) (sI S 22)
  | 23 => xi w (sN S 4) (sI S 23)
  | 24 => xi w (sN S 4) (sI S 24)
  | 25 => xi w (sN S 5) (sI S 25)
  | 26 => xi w (sN S 5) (sI S 26)
  | 27 => xi w (sN S 5) (sI S 27)
  | 28 => xi w (sN S 6) (sI S 28)
  | 29 => xi w (sN S 6) (sI S 29)
  | 30 => xi w (sN S 6) (sI S 30)
  | 57 => xl w 1 (sJ S 57)
  | _ => .inr (0, [])
/-- parts: 100 + 3 k the object, then its counts by kind, then its fields; nets: 220 + 2 k; pins: 300 + k; told rules: 460 + 3 k, then codes, indexes -/
def pPart (ad : Nat → Nat) (S : ST) (k : Nat) : va_E := .inr (6, [.int (sI S (100 + 3 * k) 0), .int ((sI S (100 + 3 * k) 0 * 3 + 0) * 160 + nI k), .ref (ad (101 + 3 * k)), .int (sI S (100 + 3 * k) 3), .ref (ad (102 + 3 * k))])
def pNet (ad : Nat → Nat) (S : ST) (k : Nat) : va_E := .inr (7, [.int (sI S (220 + 2 * k) 0), .int ((sI S (220 + 2 * k) 0 * 3 + 1) * 160 + nI k), .ref (ad (221 + 2 * k)), .int (sI S (220 + 2 * k) 3), .int (sI S (220 + 2 * k) 4), .int (sI S (220 + 2 * k) 5)])
def pPin (ad : Nat → Nat) (S : ST) (k : Nat) : va_E := .inr (8, [.int (sI S (300 + k) 0), .int ((sI S (300 + k) 0 * 3 + 2) * 160 + nI k), .ref (ad (100 + 3 * sN S (2000 + k))), .int (sI S (300 + k) 3), va_rf ((sR S (300 + k) 4).map (fun n => ad (220 + 2 * n)))])
def pRule (ad : Nat → Nat) (S : ST) (k : Nat) : va_E := .inr (9, [.int (sI S (460 + 3 * k) 0), .int (sI S (460 + 3 * k) 1), .ref (ad (461 + 3 * k)), .ref (ad (462 + 3 * k))])
def cellOf (w : zC) (ad : Nat → Nat) (S : ST) (i : Nat) : va_E :=
  if i < 100 then cellK w ad S i
  else if i < 220 then (if (i - 100) % 3 = 0 then pPart ad S ((i - 100) / 3) else if (i - 100) % 3 = 1 then xi w 10 (sI S i) else xl w 8 (sJ S i))
  else if i < 300 then (if (i - 220) % 2 = 0 then pNet ad S ((i - 220) / 2) else xi w 10 (sI S i))
  else if i < 460 then pPin ad S (i - 300)
  else if i < 520 then (if (i - 460) % 3 = 0 then pRule ad S ((i - 460) / 3) else xi w (sN S (3000 + (i - 460) / 3)) (sI S i))
  else cellM w ad S i
def isArrM (i : Nat) : Bool := match i with
  | 701 => true
  | 705 => true
  | 706 => true
  | 707 => true
  | 708 => true
  | 709 => true
  | 710 => true
  | 711 => true
  | 713 => true
  | 714 => true
  | 715 => true
  | 716 => true
  | 719 => true
  | 720 => true
  | 721 => true
  | 722 => true
  | 723 => true
  | 724 => true
  | 726 => true
  | 727 => true
  | 728 => true
  | 731 => true
  | 732 => true
  | 737 => true
  | 741 => true
  | _ => false
def liveS (S : ST) (i : Nat) : Prop := i < 31 ∨ i = 57 ∨ (100 ≤ i ∧ i < 100 + 3 * sN S 0) ∨ (220 ≤ i ∧ i < 220 + 2 * sN S 1) ∨ (300 ≤ i ∧ i < 300 + sN S 2) ∨ (460 ≤ i ∧ i < 460 + 3 * sN S 3) ∨ i = 600 ∨ (700 ≤ i ∧ i < 742 ∧ isArrM i = true)
def Rep (w : zC) (ad : Nat → Nat) (S : ST) (Z : zZ) : Prop := (sN S 0 ≤ 40 ∧ sN S 1 ≤ 40 ∧ sN S 2 ≤ 160 ∧ sN S 3 ≤ 20 ∧ (sN S 8 = 1 ∨ sN S 8 = 2)) ∧ Fam Z ad (cellOf w ad S) (liveS S)

theorem cell_K {w : zC} {ad : Nat → Nat} {S : ST} {i : Nat} (h : i < 100) : cellOf w ad S i = cellK w ad S i := by simp [cellOf, h]
theorem cell_part {w : zC} {ad : Nat → Nat} {S : ST} {k : Nat} (h : k < 40) : cellOf w ad S (100 + 3 * k) = pPart ad S k := by
  unfold cellOf
  rw [if_neg (by omega), if_pos (by omega), if_pos (by omega), show (100 + 3 * k - 100) / 3 = k by omega]
theorem cell_partC {w : zC} {ad : Nat → Nat} {S : ST} {k : Nat} (h : k < 40) : cellOf w ad S (101 + 3 * k) = xi w 10 (sI S (101 + 3 * k)) := by
  unfold cellOf
  rw [if_neg (by omega), if_pos (by omega), if_neg (by omega), if_pos (by omega)]
theorem cell_partF {w : zC} {ad : Nat → Nat} {S : ST} {k : Nat} (h : k < 40) : cellOf w ad S (102 + 3 * k) = xl w 8 (sJ S (102 + 3 * k)) := by
  unfold cellOf
  rw [if_neg (by omega), if_pos (by omega), if_neg (by omega), if_neg (by omega)]
theorem cell_net {w : zC} {ad : Nat → Nat} {S : ST} {k : Nat} (h : k < 40) : cellOf w ad S (220 + 2 * k) = pNet ad S k := by
  unfold cellOf
  rw [if_neg (by omega), if_neg (by omega), if_pos (by omega), if_pos (by omega), show (220 + 2 * k - 220) / 2 = k by omega]
theorem cell_netC {w : zC} {ad : Nat → Nat} {S : ST} {k : Nat} (h : k < 40) : cellOf w ad S (221 + 2 * k) = xi w 10 (sI S (221 + 2 * k)) := by
  unfold cellOf
  rw [if_neg (by omega), if_neg (by omega), if_pos (by omega), if_neg (by omega)]
theorem cell_pin {w : zC} {ad : Nat → Nat} {S : ST} {k : Nat} (h : k < 160) : cellOf w ad S (300 + k) = pPin ad S k := by
  unfold cellOf
  rw [if_neg (by omega), if_neg (by omega), if_neg (by omega), if_pos (by omega), show 300 + k - 300 = k by omega]
theorem cell_rule {w : zC} {ad : Nat → Nat} {S : ST} {k : Nat} (h : k < 20) : cellOf w ad S (460 + 3 * k) = pRule ad S k := by
  unfold cellOf
  rw [if_neg (by omega), if_neg (by omega), if_neg (by omega), if_neg (by omega), if_pos (by omega), if_pos (by omega), show (460 + 3 * k - 460) / 3 = k by omega]
theorem cell_ruleC {w : zC} {ad : Nat → Nat} {S : ST} {k : Nat} (h : k < 20) : cellOf w ad S (461 + 3 * k) = xi w (sN S (3000 + k)) (sI S (461 + 3 * k)) := by
  unfold cellOf
  rw [if_neg (by omega), if_neg (by omega), if_neg (by omega), if_neg (by omega), if_pos (by omega), if_neg (by omega), show (461 + 3 * k - 460) / 3 = k by omega]
theorem cell_ruleX {w : zC} {ad : Nat → Nat} {S : ST} {k : Nat} (h : k < 20) : cellOf w ad S (462 + 3 * k) = xi w (sN S (3000 + k)) (sI S (462 + 3 * k)) := by
  unfold cellOf
  rw [if_neg (by omega), if_neg (by omega), if_neg (by omega), if_neg (by omega), if_pos (by omega), if_neg (by omega), show (462 + 3 * k - 460) / 3 = k by omega]
theorem cell_M {w : zC} {ad : Nat → Nat} {S : ST} {i : Nat} (h : 520 ≤ i) : cellOf w ad S i = cellM w ad S i := by
  unfold cellOf
  rw [if_neg (by omega), if_neg (by omega), if_neg (by omega), if_neg (by omega), if_neg (by omega)]
theorem Rep.k {w : zC} {ad : Nat → Nat} {S : ST} {Z : zZ} (h : Rep w ad S Z) (i : Nat) (hi : i < 31) : zhs Z (ad i) (cellK w ad S i) := by
  rw [← cell_K (by omega)]
  exact h.2.2 i (Or.inl hi)
theorem Rep.part {w : zC} {ad : Nat → Nat} {S : ST} {Z : zZ} (h : Rep w ad S Z) {k : Nat} (hk : k < sN S 0) : zhs Z (ad (100 + 3 * k)) (pPart ad S k) ∧ zhs Z (ad (101 + 3 * k)) (xi w 10 (sI S (101 + 3 * k))) ∧ zhs Z (ad (102 + 3 * k)) (xl w 8 (sJ S (102 + 3 * k))) := by
  have h40 : k < 40 := Nat.lt_of_lt_of_le hk h.1.1
  exact ⟨by rw [← cell_part (w := w) h40]; exact h.2.2 _ (by simp only [liveS]; omega), by rw [← cell_partC (w := w) (ad := ad) h40]; exact h.2.2 _ (by simp only [liveS]; omega), by rw [← cell_partF (w := w) (ad := ad) h40]; exact h.2.2 _ (by simp only [liveS]; omega)⟩
theorem Rep.net {w : zC} {ad : Nat → Nat} {S : ST} {Z : zZ} (h : Rep w ad S Z) {k : Nat} (hk : k < sN S 1) : zhs Z (ad (220 + 2 * k)) (pNet ad S k) ∧ zhs Z (ad (221 + 2 * k)) (xi w 10 (sI S (221 + 2 * k))) := by
  have h40 : k < 40 := Nat.lt_of_lt_of_le hk h.1.2.1
  exact ⟨by rw [← cell_net (w := w) h40]; exact h.2.2 _ (by simp only [liveS]; omega), by rw [← cell_netC (w := w) (ad := ad) h40]; exact h.2.2 _ (by simp only [liveS]; omega)⟩
theorem Rep.pin {w : zC} {ad : Nat → Nat} {S : ST} {Z : zZ} (h : Rep w ad S Z) {k : Nat} (hk : k < sN S 2) : zhs Z (ad (300 + k)) (pPin ad S k) := by
  rw [← cell_pin (w := w) (Nat.lt_of_lt_of_le hk h.1.2.2.1)]
  exact h.2.2 _ (by simp only [liveS]; omega)
theorem Rep.rule {w : zC} {ad : Nat → Nat} {S : ST} {Z : zZ} (h : Rep w ad S Z) {k : Nat} (hk : k < sN S 3) : zhs Z (ad (460 + 3 * k)) (pRule ad S k) ∧ zhs Z (ad (461 + 3 * k)) (xi w (sN S (3000 + k)) (sI S (461 + 3 * k))) ∧ zhs Z (ad (462 + 3 * k)) (xi w (sN S (3000 + k)) (sI S (462 + 3 * k))) := by
  have h20 : k < 20 := Nat.lt_of_lt_of_le hk h.1.2.2.2.1
  exact ⟨by rw [← cell_rule (w := w) h20]; exact h.2.2 _ (by simp only [liveS]; omega), by rw [← cell_ruleC (w := w) (ad := ad) h20]; exact h.2.2 _ (by simp only [liveS]; omega), by rw [← cell_ruleX (w := w) (ad := ad) h20]; exact h.2.2 _ (by simp only [liveS]; omega)⟩
theorem Rep.m {w : zC} {ad : Nat → Nat} {S : ST} {Z : zZ} (h : Rep w ad S Z) : zhs Z (ad 600) (.inr (10, moF ad S)) := by
  rw [show (.inr (10, moF ad S) : va_E) = cellM w ad S 600 from rfl, ← cell_M (by omega)]
  exact h.2.2 _ (by simp [liveS])
theorem Rep.ma {w : zC} {ad : Nat → Nat} {S : ST} {Z : zZ} (h : Rep w ad S Z) (i : Nat) (h1 : 700 ≤ i ∧ i < 742 ∧ isArrM i = true) : zhs Z (ad i) (cellM w ad S i) := by
  rw [← cell_M (by omega)]
  exact h.2.2 _ (by simp only [liveS]; simp [h1])
theorem Rep.inj {w : zC} {ad : Nat → Nat} {S : ST} {Z : zZ} (h : Rep w ad S Z) {i j : Nat} (hi : liveS S i) (hj : liveS S j) (hne : i ≠ j) : ad i ≠ ad j := fun z => hne (h.2.1 i j hi hj z)
