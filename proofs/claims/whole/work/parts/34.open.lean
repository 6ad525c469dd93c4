/-! What a cell reads, in general -/
def rdK (i m : Nat) : Prop := match i with
  | 0 => m = 3 ∨ m = 8
  | 1 => m ≤ 2 ∨ m = 7
  | 2 => 9 ≤ m ∧ m ≤ 11
  | 3 => 12 ≤ m ∧ m ≤ 15
  | 4 => m = 16
  | 5 => m = 17
  | 6 => m = 18
  | 7 => m = 19
  | 8 => m = 3
  | 12 => m = 0
  | 13 => m = 1
  | 14 => m = 2
  | 15 => m ≤ 2 ∨ (1000 ≤ m ∧ m < 2000)
  | 22 => m = 4
  | 23 => m = 4
  | 24 => m = 4
  | 25 => m = 5
  | 26 => m = 5
  | 27 => m = 5
  | 28 => m = 6
  | 29 => m = 6
  | 30 => m = 6
  | 600 => 20 ≤ m ∧ m ≤ 32
  | _ => False
def rdN (i m : Nat) : Prop := rdK i m ∨ (300 ≤ i ∧ i < 460 ∧ m = 2000 + (i - 300)) ∨ (460 ≤ i ∧ i < 520 ∧ m = 3000 + (i - 460) / 3)
/-- things in order and pins name living things -/
def ciLive (S : ST) : Prop := (∀ k, k < sN S 0 + sN S 1 + sN S 2 → ∃ c q, tok S c q ∧ sN S (1000 + k) = tid c q) ∧ ∀ k, k < sN S 2 → sN S (2000 + k) < sN S 0 ∧ ∀ n, sR S (300 + k) 4 = some n → n < sN S 1
theorem tok.live {S : ST} {c q : Nat} (h : tok S c q) : liveS S (tid c q) := by
  rcases h with ⟨rfl, h⟩ | ⟨rfl, h⟩ | ⟨rfl, h⟩
  · show liveS S (100 + 3 * q); simp only [liveS]; omega
  · show liveS S (220 + 2 * q); simp only [liveS]; omega
  · show liveS S (300 + q); simp only [liveS]; omega
theorem ciLive.ord {S : ST} (h : ciLive S) : ciOrd S := fun k hk => by
  obtain ⟨c, q, _, h2⟩ := h.1 k hk
  rw [h2]
  exact tid_ge
theorem cell_cg {w : zC} {ad ad' : Nat → Nat} {S S' : ST} {i : Nat} (hi : liveS S i) (hb : sN S 0 ≤ 40 ∧ sN S 1 ≤ 40 ∧ sN S 2 ≤ 160 ∧ sN S 3 ≤ 20 ∧ (sN S 8 = 1 ∨ sN S 8 = 2)) (hL : ciLive S) (had : ∀ m, liveS S m → ad' m = ad m) (hN : ∀ m, rdN i m → S'.2.2.2 m = S.2.2.2 m) (h1 : S'.1 i = S.1 i) (h2 : S'.2.1 i = S.2.1 i) (h3 : S'.2.2.1 i = S.2.2.1 i) : cellOf w ad' S' i = cellOf w ad S i := by
  have had0 : ∀ m, m < 31 → ad' m = ad m := fun m hm => had m (Or.inl hm)
  have hadM : ∀ m, 700 ≤ m ∧ m < 742 ∧ isArrM m = true → ad' m = ad m := fun m hm => had m (by simp only [liveS]; simp [hm])
  obtain ⟨b0, b1, b2, b3, b8⟩ := hb
  by_cases c15 : i = 15
  · subst c15
    rw [cell_K (by decide), cell_K (by decide)]
    show xr w 7 240 _ = xr w 7 240 _
    congr 1
    funext k
    simp only [sN, sR, hN 0 (by simp [rdN, rdK]), hN 1 (by simp [rdN, rdK]), hN 2 (by simp [rdN, rdK]), h3]
    by_cases hk : k < S.2.2.2 0 + S.2.2.2 1 + S.2.2.2 2
    · obtain ⟨c, q, q1, q2⟩ := hL.1 k hk
      rw [if_pos hk, if_pos hk, hN (1000 + k) (Or.inl (Or.inr (by simp only [sN] at *; omega))), show S.2.2.2 (1000 + k) = tid c q from q2, had _ q1.live]
    · rw [if_neg hk, if_neg hk]
  by_cases c12 : i = 12
  · subst c12
    rw [cell_K (by decide), cell_K (by decide)]
    show xr w 4 40 _ = xr w 4 40 _
    congr 1
    funext k
    simp only [sN, sR, hN 0 (by simp [rdN, rdK]), h3]
    by_cases hk : k < S.2.2.2 0
    · rw [if_pos hk, if_pos hk, had _ (by simp only [liveS, sN] at *; omega)]
    · rw [if_neg hk, if_neg hk]
  by_cases c13 : i = 13
  · subst c13
    rw [cell_K (by decide), cell_K (by decide)]
    show xr w 5 40 _ = xr w 5 40 _
    congr 1
    funext k
    simp only [sN, sR, hN 1 (by simp [rdN, rdK]), h3]
    by_cases hk : k < S.2.2.2 1
    · rw [if_pos hk, if_pos hk, had _ (by simp only [liveS, sN] at *; omega)]
    · rw [if_neg hk, if_neg hk]
  by_cases c14 : i = 14
  · subst c14
    rw [cell_K (by decide), cell_K (by decide)]
    show xr w 6 160 _ = xr w 6 160 _
    congr 1
    funext k
    simp only [sN, sR, hN 2 (by simp [rdN, rdK]), h3]
    by_cases hk : k < S.2.2.2 2
    · rw [if_pos hk, if_pos hk, had _ (by simp only [liveS, sN] at *; omega)]
    · rw [if_neg hk, if_neg hk]
  by_cases c8 : i = 8
  · subst c8
    rw [cell_K (by decide), cell_K (by decide)]
    show xr w 8 20 _ = xr w 8 20 _
    congr 1
    funext k
    simp only [sN, sR, hN 3 (by simp [rdN, rdK]), h3]
    by_cases hk : k < S.2.2.2 3
    · rw [if_pos hk, if_pos hk, had _ (by simp only [liveS, sN] at *; omega)]
    · rw [if_neg hk, if_neg hk]
  by_cases c0 : i = 0
  · subst c0
    rw [cell_K (by decide), cell_K (by decide)]
    have e8 := hN 8 (by simp [rdN, rdK])
    have e3 := hN 3 (by simp [rdN, rdK])
    have f1 := had0 (5 + S.2.2.2 8) (by simp only [sN] at *; omega)
    have f2 := had0 (8 - S.2.2.2 8) (by omega)
    show (.inr (0, [_, _, _, _, _, _, _, _, _, _, _]) : va_E) = .inr (0, [_, _, _, _, _, _, _, _, _, _, _])
    simp only [sN, sI, e8, e3, h1, f1, f2]
    rw [had0 1 (by omega), had0 3 (by omega), had0 8 (by omega), had0 9 (by omega), had0 4 (by omega), had0 5 (by omega), had0 10 (by omega)]
  by_cases c1 : i < 100
  · by_cases c101 : i = 1
    · subst c101
      rw [cell_K (by decide), cell_K (by decide)]
      unfold cellK
      simp only [sN, sI, sJ, sR, h1, h2, h3, hN 0 (by simp [rdN, rdK]), hN 1 (by simp [rdN, rdK]), hN 2 (by simp [rdN, rdK]), hN 7 (by simp [rdN, rdK]), had0 11 (by decide), had0 12 (by decide), had0 13 (by decide), had0 14 (by decide), had0 15 (by decide)]
    by_cases c102 : i = 2
    · subst c102
      rw [cell_K (by decide), cell_K (by decide)]
      unfold cellK
      simp only [sN, sI, sJ, sR, h1, h2, h3, hN 9 (by simp [rdN, rdK]), hN 10 (by simp [rdN, rdK]), hN 11 (by simp [rdN, rdK]), had0 16 (by decide)]
    by_cases c103 : i = 3
    · subst c103
      rw [cell_K (by decide), cell_K (by decide)]
      unfold cellK
      simp only [sN, sI, sJ, sR, h1, h2, h3, hN 12 (by simp [rdN, rdK]), hN 13 (by simp [rdN, rdK]), hN 14 (by simp [rdN, rdK]), hN 15 (by simp [rdN, rdK]), had0 17 (by decide), had0 18 (by decide), had0 19 (by decide), had0 2 (by decide)]
    by_cases c104 : i = 4
    · subst c104
      rw [cell_K (by decide), cell_K (by decide)]
      unfold cellK
      simp only [sN, sI, sJ, sR, h1, h2, h3, hN 16 (by simp [rdN, rdK]), had0 20 (by decide), had0 21 (by decide)]
    by_cases c105 : i = 5
    · subst c105
      rw [cell_K (by decide), cell_K (by decide)]
      unfold cellK
      simp only [sN, sI, sJ, sR, h1, h2, h3, hN 17 (by simp [rdN, rdK]), had0 22 (by decide), had0 23 (by decide), had0 24 (by decide)]
    by_cases c106 : i = 6
    · subst c106
      rw [cell_K (by decide), cell_K (by decide)]
      unfold cellK
      simp only [sN, sI, sJ, sR, h1, h2, h3, hN 18 (by simp [rdN, rdK]), had0 25 (by decide), had0 26 (by decide), had0 27 (by decide)]
    by_cases c107 : i = 7
    · subst c107
      rw [cell_K (by decide), cell_K (by decide)]
      unfold cellK
      simp only [sN, sI, sJ, sR, h1, h2, h3, hN 19 (by simp [rdN, rdK]), had0 28 (by decide), had0 29 (by decide), had0 30 (by decide)]
    by_cases c122 : i = 22
    · subst c122
      rw [cell_K (by decide), cell_K (by decide)]
      unfold cellK
      simp only [sN, sI, sJ, sR, h1, h2, h3, hN 4 (by simp [rdN, rdK])]
    by_cases c123 : i = 23
    · subst c123
      rw [cell_K (by decide), cell_K (by decide)]
      unfold cellK
      simp only [sN, sI, sJ, sR, h1, h2, h3, hN 4 (by simp [rdN, rdK])]
    by_cases c124 : i = 24
    · subst c124
      rw [cell_K (by decide), cell_K (by decide)]
      unfold cellK
      simp only [sN, sI, sJ, sR, h1, h2, h3, hN 4 (by simp [rdN, rdK])]
    by_cases c125 : i = 25
    · subst c125
      rw [cell_K (by decide), cell_K (by decide)]
      unfold cellK
      simp only [sN, sI, sJ, sR, h1, h2, h3, hN 5 (by simp [rdN, rdK])]
    by_cases c126 : i = 26
    · subst c126
      rw [cell_K (by decide), cell_K (by decide)]
      unfold cellK
      simp only [sN, sI, sJ, sR, h1, h2, h3, hN 5 (by simp [rdN, rdK])]
    by_cases c127 : i = 27
    · subst c127
      rw [cell_K (by decide), cell_K (by decide)]
      unfold cellK
      simp only [sN, sI, sJ, sR, h1, h2, h3, hN 5 (by simp [rdN, rdK])]
    by_cases c128 : i = 28
    · subst c128
      rw [cell_K (by decide), cell_K (by decide)]
      unfold cellK
      simp only [sN, sI, sJ, sR, h1, h2, h3, hN 6 (by simp [rdN, rdK])]
    by_cases c129 : i = 29
    · subst c129
      rw [cell_K (by decide), cell_K (by decide)]
      unfold cellK
      simp only [sN, sI, sJ, sR, h1, h2, h3, hN 6 (by simp [rdN, rdK])]
    by_cases c130 : i = 30
    · subst c130
      rw [cell_K (by decide), cell_K (by decide)]
      unfold cellK
      simp only [sN, sI, sJ, sR, h1, h2, h3, hN 6 (by simp [rdN, rdK])]
    rw [cell_K c1, cell_K c1]
    unfold cellK
    split <;> first | (simp only [sI, sJ, h1, h2]; done) | contradiction | rfl
  by_cases c2 : 520 ≤ i
  · by_cases c600 : i = 600
    · subst c600
      rw [cell_M (by decide), cell_M (by decide)]
      unfold cellM
      simp (disch := decide) only [moF, sN, sI, h1, hadM, hN 20 (by simp [rdN, rdK]), hN 21 (by simp [rdN, rdK]), hN 22 (by simp [rdN, rdK]), hN 23 (by simp [rdN, rdK]), hN 24 (by simp [rdN, rdK]), hN 25 (by simp [rdN, rdK]), hN 26 (by simp [rdN, rdK]), hN 27 (by simp [rdN, rdK]), hN 28 (by simp [rdN, rdK]), hN 29 (by simp [rdN, rdK]), hN 30 (by simp [rdN, rdK]), hN 31 (by simp [rdN, rdK]), hN 32 (by simp [rdN, rdK])]
    rw [cell_M c2, cell_M c2]
    unfold cellM
    split <;> first | (simp only [sI, sJ, h1, h2]; done) | contradiction | rfl
  unfold cellOf
  rw [if_neg c1, if_neg c1]
  by_cases c3 : i < 220
  · rw [if_pos c3, if_pos c3]
    have hk : (i - 100) / 3 < sN S 0 := by simp only [liveS] at hi; omega
    by_cases d1 : (i - 100) % 3 = 0
    · rw [if_pos d1, if_pos d1]
      have e : 100 + 3 * ((i - 100) / 3) = i := by omega
      simp only [pPart, sI, e, h1]
      rw [had (101 + 3 * ((i - 100) / 3)) (by simp only [liveS]; omega), had (102 + 3 * ((i - 100) / 3)) (by simp only [liveS]; omega)]
    rw [if_neg d1, if_neg d1]
    by_cases d2 : (i - 100) % 3 = 1
    · rw [if_pos d2, if_pos d2]; simp only [sI, h1]
    rw [if_neg d2, if_neg d2]; simp only [sJ, h2]
  rw [if_neg c3, if_neg c3]
  by_cases c4 : i < 300
  · rw [if_pos c4, if_pos c4]
    have hk : (i - 220) / 2 < sN S 1 := by simp only [liveS] at hi; omega
    by_cases d1 : (i - 220) % 2 = 0
    · rw [if_pos d1, if_pos d1]
      have e : 220 + 2 * ((i - 220) / 2) = i := by omega
      simp only [pNet, sI, e, h1]
      rw [had (221 + 2 * ((i - 220) / 2)) (by simp only [liveS]; omega)]
    rw [if_neg d1, if_neg d1]; simp only [sI, h1]
  rw [if_neg c4, if_neg c4]
  by_cases c5 : i < 460
  · rw [if_pos c5, if_pos c5]
    have hk : i - 300 < sN S 2 := by simp only [liveS] at hi; omega
    have e : 300 + (i - 300) = i := by omega
    obtain ⟨p1, p2⟩ := hL.2 (i - 300) hk
    simp only [pPin, sI, sN, sR, e, h1, h3]
    rw [hN _ (Or.inr (Or.inl ⟨by omega, by omega, rfl⟩)), had (100 + 3 * _) (by simp only [liveS, sN] at *; omega)]
    have em : (S.2.2.1 i 4).map (fun n => ad' (220 + 2 * n)) = (S.2.2.1 i 4).map (fun n => ad (220 + 2 * n)) := by
      cases h9 : S.2.2.1 i 4 with
      | none => rfl
      | some n =>
        have h10 := p2 n (by rw [e]; exact h9)
        simp only [Option.map_some, had (220 + 2 * n) (by simp only [liveS]; omega)]
    rw [em]
  rw [if_neg c5, if_neg c5]
  have c6 : i < 520 := by omega
  rw [if_pos c6, if_pos c6]
  have hk : (i - 460) / 3 < sN S 3 := by simp only [liveS] at hi; omega
  by_cases d1 : (i - 460) % 3 = 0
  · rw [if_pos d1, if_pos d1]
    have e : 460 + 3 * ((i - 460) / 3) = i := by omega
    simp only [pRule, sI, e, h1]
    rw [had (461 + 3 * ((i - 460) / 3)) (by simp only [liveS]; omega), had (462 + 3 * ((i - 460) / 3)) (by simp only [liveS]; omega)]
  rw [if_neg d1, if_neg d1]; simp only [sI, sN, h1]
  rw [hN _ (Or.inr (Or.inr ⟨by omega, by omega, rfl⟩))]
theorem wN_ne {S : ST} {n v m : Nat} (h : m ≠ n) : sN (wN S n v) m = sN S m := va_up_ne _ _ h
theorem wN_self {S : ST} {n v : Nat} : sN (wN S n v) n = v := va_up_self _ _ _
theorem live_N {S : ST} {n v i : Nat} (hn : 4 ≤ n) : liveS (wN S n v) i ↔ liveS S i := by
  simp only [liveS]
  rw [wN_ne (m := 0) (by omega), wN_ne (m := 1) (by omega), wN_ne (m := 2) (by omega), wN_ne (m := 3) (by omega)]
/-- one count and its one cell -/
theorem Rep.putN {w : zC} {ad : Nat → Nat} {S : ST} {Z : zZ} (h : Rep w ad S Z) (hL : ciLive S) {i n v : Nat} {e : va_E} (hi : liveS S i) (hn : 4 ≤ n) (h8 : n = 8 → v = 1 ∨ v = 2) (hr : ∀ j, rdN j n → j = i) (hs : cellOf w ad (wN S n v) i = e) : Rep w ad (wN S n v) (zput Z (ad i) e) := by
  refine h.put hi (fun j hj => (live_N hn).mp hj) ⟨?_, ?_, ?_, ?_, ?_⟩ hs (fun j hj hji => ?_)
  · rw [wN_ne (by omega)]; exact h.1.1
  · rw [wN_ne (by omega)]; exact h.1.2.1
  · rw [wN_ne (by omega)]; exact h.1.2.2.1
  · rw [wN_ne (by omega)]; exact h.1.2.2.2.1
  · by_cases n8 : n = 8
    · subst n8; rw [wN_self]; exact h8 rfl
    · rw [wN_ne (by omega)]; exact h.1.2.2.2.2
  · refine cell_cg ((live_N hn).mp hj) h.1 hL (fun _ _ => rfl) (fun m hm => ?_) rfl rfl rfl
    exact va_up_ne _ _ (fun z => hji (hr j (z ▸ hm)))
theorem Rep.wipe {w : zC} {ad : Nat → Nat} {S : ST} {Z : zZ} (h : Rep w ad S Z) (hL : ciLive S) {j : Nat} (hj : j < 3) : Rep w ad (wN S (17 + j) 0) (zput Z (ad (5 + j)) (.inr (5, [.ref (ad (22 + 3 * j)), .ref (ad (23 + 3 * j)), .ref (ad (24 + 3 * j)), .int 0]))) := by
  refine h.putN hL (Or.inl (by omega)) (by omega) (fun z => by omega) (fun i hi => by rcases hi with hi | hi | hi <;> first | omega | (unfold rdK at hi; split at hi <;> first | omega | exact hi.elim)) ?_
  rw [cell_ro hj, wN_self]
  rfl
def swp (S : ST) : ST := wN S 8 (3 - sN S 8)
theorem Rep.swap {w : zC} {ad : Nat → Nat} {S : ST} {Z : zZ} (h : Rep w ad S Z) (hL : ciLive S) : Rep w ad (swp S) (zput Z (ad 0) (.inr (0, [.ref (ad 1), .ref (ad 3), .ref (ad 8), .ref (ad 9), .ref (ad 4), .ref (ad 5), .ref (ad 10), .ref (ad (8 - sN S 8)), .ref (ad (5 + sN S 8)), .int (nI (sN S 3)), .int (sI S 0 11)]))) := by
  have b8 := h.1.2.2.2.2
  refine h.putN hL (Or.inl (by omega)) (by omega) (fun _ => by omega) (fun i hi => by rcases hi with hi | hi | hi <;> first | omega | (unfold rdK at hi; split at hi <;> first | omega | exact hi.elim)) ?_
  rw [cell_K (by decide)]
  show (.inr (0, [_, _, _, _, _, _, _, .ref (ad (5 + sN (wN S 8 (3 - sN S 8)) 8)), .ref (ad (8 - sN (wN S 8 (3 - sN S 8)) 8)), _, _]) : va_E) = _
  rw [wN_self, show 5 + (3 - sN S 8) = 8 - sN S 8 by omega, show 8 - (3 - sN S 8) = 5 + sN S 8 by omega]
  rfl
/-- remarks of row j with no waiver, from the i-th on -/
def opn (S : ST) (j : Nat) : Nat → Nat → Nat
  | 0, _ => 0
  | n + 1, i => (if rsn (sI S 20) (sI S 21) (sI S (22 + 3 * j) i) (sN S 16) = -1 then 1 else 0) + opn S j n (i + 1)
set_option maxHeartbeats 4000000 in
set_option maxRecDepth 100000 in
theorem L_K_countOpen {w : zC} {Z : zZ} {Q : zR → zZ → Prop} {ad : Nat → Nat} {S : ST} (hR : Rep w ad S Z) {j : Nat} (hj : j < 3) (h8 : sN S 8 = j) (hcap : capOK S j) (hw : sN S 16 ≤ 50) (n : Nat) : ∀ i a, i + n = sN S (17 + j) → Q (.inl (some (.int (nI (a + opn S j n i))))) Z → G w y_K_countOpen c_K_countOpen 3 r_K_countOpen (2, 60) Q 4 [(2, .int (nI i)), (1, .int (nI a)), (0, .ref (ad 0))] [] Z := by
  induction n with
  | zero =>
    intro i a hi hQ
    have h0 : zhs Z (ad 0) (.inr (0, [.ref (ad 1), .ref (ad 3), .ref (ad 8), .ref (ad 9), .ref (ad 4), .ref (ad 5), .ref (ad 10), .ref (ad (5 + sN S 8)), .ref (ad (8 - sN S 8)), .int (nI (sN S 3)), .int (sI S 0 11)])) := hR.k 0 (by decide)
    have h4 : zhs Z (ad 4) (.inr (4, [.ref (ad 20), .ref (ad 21), .int (nI (sN S 16))])) := hR.k 4 (by decide)
    have h20 : zhs Z (ad 20) (xi w 50 (sI S 20)) := hR.k 20 (by decide)
    have h21 : zhs Z (ad 21) (xi w 50 (sI S 21)) := hR.k 21 (by decide)
    rw [h8] at h0
    obtain ⟨g0, g1, g2, g3⟩ := hR.rem hj
    obtain ⟨c1, c2, c3⟩ := hcap
    refine g_iload_n d_K_countOpen_4 rfl 0 rfl ?_
    refine g_aload_nq d_K_countOpen_5 rfl 2 rfl ?_
    refine g_get d_K_countOpen_6 f_K_51_K (by assumption) (by first | rfl | assumption) ?_
    refine g_callV d_K_countOpen_9 k_Rm_count l_K_187 i_Rm_count rfl q_Rm_Rm_count_Rm g0 (by rfl) (by rfl) (Nat.le_of_ble_eq_true rfl) (by decide) (C_Rm_count g0 ⟨_, rfl, ?_⟩)
    refine g_icmp_ge (tgt := 43) d_K_countOpen_12 (by decide) (fun h12 => ?_) (fun h12 => ?_)
    · refine g_iload_n d_K_countOpen_43 rfl 1 rfl ?_
      refine g_iret d_K_countOpen_44 ?_
      exact hQ
    · exact absurd (nI_le (by omega) (by omega)) h12
  | succ n ih =>
    intro i a hi hQ
    have h0 : zhs Z (ad 0) (.inr (0, [.ref (ad 1), .ref (ad 3), .ref (ad 8), .ref (ad 9), .ref (ad 4), .ref (ad 5), .ref (ad 10), .ref (ad (5 + sN S 8)), .ref (ad (8 - sN S 8)), .int (nI (sN S 3)), .int (sI S 0 11)])) := hR.k 0 (by decide)
    have h4 : zhs Z (ad 4) (.inr (4, [.ref (ad 20), .ref (ad 21), .int (nI (sN S 16))])) := hR.k 4 (by decide)
    have h20 : zhs Z (ad 20) (xi w 50 (sI S 20)) := hR.k 20 (by decide)
    have h21 : zhs Z (ad 21) (xi w 50 (sI S 21)) := hR.k 21 (by decide)
    rw [h8] at h0
    obtain ⟨g0, g1, g2, g3⟩ := hR.rem hj
    obtain ⟨c1, c2, c3⟩ := hcap
    have nx : ∀ a', (if rsn (sI S 20) (sI S 21) (sI S (22 + 3 * j) i) (sN S 16) = -1 then 1 else 0) + a = a' → G w y_K_countOpen c_K_countOpen 3 r_K_countOpen (2, 60) Q 37 [(1, .int (nI a')), (2, .int (nI i)), (0, .ref (ad 0))] [] Z := by
      intro a' ha
      refine g_iinc (k := 1) d_K_countOpen_37 rfl (nI_1 i) (by decide) rfl ?_
      refine g_goto (tgt := 4) d_K_countOpen_40 (by decide) ?_
      refine ih (i + 1) a' (by omega) ?_
      rw [opn] at hQ
      rw [← ha]
      rw [show a + ((if rsn (sI S 20) (sI S 21) (sI S (22 + 3 * j) i) (sN S 16) = -1 then 1 else 0) + opn S j n (i + 1)) = (if rsn (sI S 20) (sI S 21) (sI S (22 + 3 * j) i) (sN S 16) = -1 then 1 else 0) + a + opn S j n (i + 1) by omega] at hQ
      exact hQ
    refine g_iload_n d_K_countOpen_4 rfl 0 rfl ?_
    refine g_aload_nq d_K_countOpen_5 rfl 2 rfl ?_
    refine g_get d_K_countOpen_6 f_K_51_K (by assumption) (by first | rfl | assumption) ?_
    refine g_callV d_K_countOpen_9 k_Rm_count l_K_187 i_Rm_count rfl q_Rm_Rm_count_Rm g0 (by rfl) (by rfl) (Nat.le_of_ble_eq_true rfl) (by decide) (C_Rm_count g0 ⟨_, rfl, ?_⟩)
    refine g_icmp_ge (tgt := 43) d_K_countOpen_12 (by decide) (fun h12 => ?_) (fun h12 => ?_)
    · exact absurd h12 (nI_ge (by omega) (by omega))
    · refine g_aload_nq d_K_countOpen_15 rfl 2 rfl ?_
      refine g_get d_K_countOpen_16 f_K_36_K (by assumption) (by first | rfl | assumption) ?_
      refine g_aload_nq d_K_countOpen_19 rfl 2 rfl ?_
      refine g_get d_K_countOpen_20 f_K_51_K (by assumption) (by first | rfl | assumption) ?_
      refine g_iload_n d_K_countOpen_23 rfl 0 rfl ?_
      refine g_callV d_K_countOpen_24 k_Rm_keyOf l_K_198 i_Rm_keyOf rfl q_Rm_Rm_keyOf_Rm g0 (by rfl) (by rfl) (Nat.le_of_ble_eq_true rfl) (by decide) (C_Rm_keyOf g0 g1 c1 (by omega) ⟨_, rfl, ?_⟩)
      rw [if_pos ⟨nI_pos (by omega), nI_ge (by omega) (by omega)⟩, nI_clamp (by omega)]
      refine g_callV d_K_countOpen_27 k_Wv_reasonFor l_K_201 i_Wv_reasonFor rfl q_Wv_Wv_reasonFor_Wv h4 (by rfl) (by rfl) (Nat.le_of_ble_eq_true rfl) (by decide) (C_Wv_reasonFor h4 h20 h21 hw ⟨_, rfl, ?_⟩)
      refine g_iconst (v := (-1)) d_K_countOpen_30 rfl ?_
      refine g_icmp_ne (tgt := 37) d_K_countOpen_31 (by decide) (fun h31 => ?_) (fun h31 => ?_)
      · refine g_sub [1, 0, 2] rfl (nx a (by rw [if_neg h31]; omega))
      · refine g_iinc (k := 1) d_K_countOpen_34 rfl (nI_1 a) (by decide) rfl ?_
        exact nx (a + 1) (by rw [if_pos h31]; omega)

set_option maxHeartbeats 4000000 in
set_option maxRecDepth 100000 in
theorem C_K_countOpen {w : zC} {Z : zZ} {Q : zR → zZ → Prop} {ad : Nat → Nat} {S : ST} (hR : Rep w ad S Z) {j : Nat} (hj : j < 3) (h8 : sN S 8 = j) (hcap : capOK S j) (hw : sN S 16 ≤ 50) (hQ : Q (.inl (some (.int (nI (opn S j (sN S (17 + j)) 0))))) Z) : Cz w (2, 60) y_K_countOpen (Cond.code y_K_countOpen c_K_countOpen 3 r_K_countOpen :: wz) [.ref (ad 0)] Z Q := by
  refine Cz.of (by decide +kernel) (by simp [lg_sl, Value.category]) ?_
  show G _ _ _ _ _ _ _ _ [(0, _)] _ _
  refine g_iconst (v := 0) d_K_countOpen_0 rfl ?_
  refine g_istore_n d_K_countOpen_1 rfl (by decide) rfl ?_
  show G _ _ _ _ _ _ _ _ [(1, _), (0, _)] _ _
  refine g_iconst (v := 0) d_K_countOpen_2 rfl ?_
  refine g_istore_n d_K_countOpen_3 rfl (by decide) rfl ?_
  show G _ _ _ _ _ _ _ _ [(2, _), (1, _), (0, _)] _ _
  exact L_K_countOpen hR hj h8 hcap hw (sN S (17 + j)) 0 0 (by omega) (by rw [Nat.zero_add]; exact hQ)
