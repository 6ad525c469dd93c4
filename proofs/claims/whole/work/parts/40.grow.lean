/-! A new thing joins the state -/
theorem Rep.grow {w : zC} {ad ad' : Nat → Nat} {S S' : ST} {Z Z' : zZ} {N : Nat → Prop} (h : Rep w ad S Z) (hb : sN S' 0 ≤ 40 ∧ sN S' 1 ≤ 40 ∧ sN S' 2 ≤ 160 ∧ sN S' 3 ≤ 20 ∧ (sN S' 8 = 1 ∨ sN S' 8 = 2)) (hnew : ∀ i, liveS S' i → liveS S i ∨ N i) (had : ∀ i, liveS S i → ad' i = ad i) (hinj : ∀ i j, N i → N j → ad' i = ad' j → i = j) (hfresh : ∀ i, N i → ad' i ∉ Z.1)
    (hNz : ∀ i, N i → zhs Z' (ad' i) (cellOf w ad' S' i)) (hold : ∀ i, liveS S i → zhs Z' (ad i) (cellOf w ad' S' i)) : Rep w ad' S' Z' := by
  refine ⟨hb, fun i j hi hj he => ?_, fun i hi => ?_⟩
  · rcases hnew i hi with a | a <;> rcases hnew j hj with b | b
    · rw [had i a, had j b] at he; exact h.2.1 i j a b he
    · exact absurd (show ad' j ∈ Z.1 by rw [← he, had i a]; exact (h.2.2 i a).1) (hfresh j b)
    · exact absurd (show ad' i ∈ Z.1 by rw [he, had j b]; exact (h.2.2 j b).1) (hfresh i a)
    · exact hinj i j a b he
  · rcases hnew i hi with a | a
    · rw [had i a]; exact hold i a
    · exact hNz i a
theorem Rep.fresh {w : zC} {ad : Nat → Nat} {S : ST} {Z Z' : zZ} (h : Rep w ad S Z) {X : List Nat} (hf : zfr Z Z' X) (hX : ∀ a, a ∈ X → a ∉ Z.1) : Rep w ad S Z' :=
  ⟨h.1, h.2.1, fun i hi => hf _ _ (fun z => hX _ z (h.2.2 i hi).1) (h.2.2 i hi)⟩
/-- the counts once a thing of kind c, of number nid, has come to place p -/
def insN (S : ST) (c p nid : Nat) : Nat → Nat := fun n => if n = c then sN S c + 1 else if 1000 ≤ n ∧ n < 2000 then va_up (shf (fun m => sN S (1000 + m)) (sN S 0 + sN S 1 + sN S 2) p) p nid (n - 1000) else sN S n
theorem insN_c {S : ST} {c p nid : Nat} : insN S c p nid c = sN S c + 1 := if_pos rfl
theorem insN_o {S : ST} {c p nid n : Nat} (h : n ≠ c) (h2 : n < 1000 ∨ 2000 ≤ n) : insN S c p nid n = sN S n := by
  unfold insN
  rw [if_neg h, if_neg (by omega)]
theorem insN_k {S : ST} {c p nid k : Nat} (hc : c < 3) (hk : k < 1000) : insN S c p nid (1000 + k) = va_up (shf (fun m => sN S (1000 + m)) (sN S 0 + sN S 1 + sN S 2) p) p nid k := by
  unfold insN
  rw [if_neg (by omega), if_pos (by omega), Nat.add_sub_cancel_left]
/-- the order's array, once more -/
theorem ord_ins {ad ad' : Nat → Nat} {S S' : ST} {c p nid : Nat} (hc : c < 3) (hT : sN S 0 + sN S 1 + sN S 2 < 240) (hp : p ≤ sN S 0 + sN S 1 + sN S 2) (hN : sN S' = insN S c p nid) (hR15 : sR S' 15 = sR S 15) (hL : ciLive S) (had : ∀ i, liveS S i → ad' i = ad i) : ordA ad' S' = va_up (shf (ordA ad S) (sN S 0 + sN S 1 + sN S 2) p) p (some (ad' nid)) := by
  have hT' : sN S' 0 + sN S' 1 + sN S' 2 = sN S 0 + sN S 1 + sN S 2 + 1 := by
    rw [hN]
    rcases (show c = 0 ∨ c = 1 ∨ c = 2 by omega) with rfl | rfl | rfl
    · rw [insN_c, insN_o (n := 1) (by omega) (by omega), insN_o (n := 2) (by omega) (by omega)]; omega
    · rw [insN_c, insN_o (n := 0) (by omega) (by omega), insN_o (n := 2) (by omega) (by omega)]; omega
    · rw [insN_c, insN_o (n := 0) (by omega) (by omega), insN_o (n := 1) (by omega) (by omega)]; omega
  have hl : ∀ k, k < sN S 0 + sN S 1 + sN S 2 → ad' (sN S (1000 + k)) = ad (sN S (1000 + k)) := fun k hk => by
    obtain ⟨c9, q, ht, hid⟩ := hL.1 k hk
    rw [hid]
    exact had _ ht.live
  funext k
  by_cases hkp : k = p
  · subst hkp
    rw [va_up_self]
    unfold ordA
    rw [hT', if_pos (by omega), hN, insN_k hc (by omega), va_up_self]
  · rw [va_up_ne _ _ hkp]
    unfold ordA
    rw [hT', hR15]
    by_cases hk : k < sN S 0 + sN S 1 + sN S 2 + 1
    · rw [if_pos hk, hN, insN_k hc (by omega), va_up_ne _ _ hkp]
      unfold shf
      by_cases hs : p < k ∧ k ≤ sN S 0 + sN S 1 + sN S 2
      · rw [if_pos hs, if_pos hs]
        show some (ad' (sN S (1000 + (k - 1)))) = (if k - 1 < sN S 0 + sN S 1 + sN S 2 then some (ad (sN S (1000 + (k - 1)))) else sR S 15 (k - 1))
        rw [if_pos (by omega), hl (k - 1) (by omega)]
      · rw [if_neg hs, if_neg hs]
        show some (ad' (sN S (1000 + k))) = (if k < sN S 0 + sN S 1 + sN S 2 then some (ad (sN S (1000 + k))) else sR S 15 k)
        rw [if_pos (by omega), hl k (by omega)]
    · rw [if_neg hk]
      unfold shf
      rw [if_neg (by omega)]
      show sR S 15 k = (if k < sN S 0 + sN S 1 + sN S 2 then some (ad (sN S (1000 + k))) else sR S 15 k)
      rw [if_neg (by omega)]
theorem cell_15 {w : zC} {ad : Nat → Nat} {S : ST} : cellOf w ad S 15 = xr w 7 240 (ordA ad S) := by rw [cell_K (by decide)]; rfl
/-- the cells that a new thing of kind c leaves as they are -/
theorem ins_old {w : zC} {ad ad' : Nat → Nat} {S S' : ST} {Z : zZ} {c p nid i : Nat} (h : Rep w ad S Z) (hc : c < 3) (hL : ciLive S) (had : ∀ i, liveS S i → ad' i = ad i) (hN : sN S' = insN S c p nid) (hi : liveS S i) (h1 : i ≠ 1) (h12 : i ≠ 12 + c) (h15 : i ≠ 15) (e1 : S'.1 i = S.1 i) (e2 : S'.2.1 i = S.2.1 i) (e3 : S'.2.2.1 i = S.2.2.1 i) : cellOf w ad' S' i = cellOf w ad S i := by
  refine cell_cg hi h.1 hL had (fun m hm => ?_) e1 e2 e3
  show sN S' m = sN S m
  rw [hN]
  refine insN_o ?_ ?_
  · rintro rfl
    rcases hm with hm | hm | hm
    · unfold rdK at hm; split at hm <;> first | omega | exact hm.elim
    · omega
    · omega
  · rcases hm with hm | hm | hm
    · unfold rdK at hm; split at hm <;> first | omega | exact hm.elim
    · omega
    · omega
/-- a new part: its number, its sheet -/
def partS (S : ST) (p : Nat) (s : Int32) : ST := (va_up (va_up S.1 (100 + 3 * sN S 0) (fun j => if j = 0 then s else 0)) (101 + 3 * sN S 0) (fun _ => 0), va_up S.2.1 (102 + 3 * sN S 0) (fun _ => 0), S.2.2.1, insN S 0 p (100 + 3 * sN S 0))
def partA (ad : Nat → Nat) (k a q r : Nat) : Nat → Nat := va_up (va_up (va_up ad (100 + 3 * k) a) (101 + 3 * k) q) (102 + 3 * k) r
theorem Rep.addPart {w : zC} {ad : Nat → Nat} {S : ST} {Z Z' : zZ} {p a q r : Nat} {s : Int32} (h : Rep w ad S Z) (hL : ciLive S) (hk : sN S 0 < 40) (hp : p ≤ sN S 0 + sN S 1 + sN S 2) (ha : a ∉ Z.1) (hq : q ∉ Z.1) (hr : r ∉ Z.1) (aq : a ≠ q) (ar : a ≠ r) (qr : q ≠ r)
    (g0 : zhs Z' a (.inr (6, [.int s, .int ((s * 3 + 0) * 160 + nI (sN S 0)), .ref q, .int 0, .ref r]))) (g1 : zhs Z' q (xi w 10 (fun _ => 0))) (g2 : zhs Z' r (xl w 8 (fun _ => 0)))
    (g3 : zhs Z' (ad 1) (.inr (1, [.ref (ad 11), .ref (ad 12), .ref (ad 13), .ref (ad 14), .ref (ad 15), .int (nI (sN S 0 + 1)), .int (nI (sN S 1)), .int (nI (sN S 2)), .int (nI (sN S 7))])))
    (g4 : zhs Z' (ad 12) (xr w 4 40 (va_up (fun k => if k < sN S 0 then some (ad (100 + 3 * k)) else sR S 12 k) (sN S 0) (some a)))) (g5 : zhs Z' (ad 15) (xr w 7 240 (va_up (shf (ordA ad S) (sN S 0 + sN S 1 + sN S 2) p) p (some a))))
    (hf : ∀ b e, b ≠ ad 1 → b ≠ ad 12 → b ≠ ad 15 → b ≠ a → b ≠ q → b ≠ r → zhs Z b e → zhs Z' b e) : Rep w (partA ad (sN S 0) a q r) (partS S p s) Z' := by
  have b0 := h.1.1
  have b1 := h.1.2.1
  have b2 := h.1.2.2.1
  have A0 : partA ad (sN S 0) a q r (100 + 3 * sN S 0) = a := by unfold partA; rw [va_up_ne _ _ (by omega), va_up_ne _ _ (by omega), va_up_self]
  have A1 : partA ad (sN S 0) a q r (101 + 3 * sN S 0) = q := by unfold partA; rw [va_up_ne _ _ (by omega), va_up_self]
  have A2 : partA ad (sN S 0) a q r (102 + 3 * sN S 0) = r := va_up_self _ _ _
  have AO : ∀ i, i < 100 + 3 * sN S 0 ∨ 102 + 3 * sN S 0 < i → partA ad (sN S 0) a q r i = ad i := fun i hi => by unfold partA; rw [va_up_ne _ _ (by omega), va_up_ne _ _ (by omega), va_up_ne _ _ (by omega)]
  have hlo : ∀ i, liveS S i → i < 100 + 3 * sN S 0 ∨ 102 + 3 * sN S 0 < i := fun i hi => by simp only [liveS] at hi; omega
  have had : ∀ i, liveS S i → partA ad (sN S 0) a q r i = ad i := fun i hi => AO i (hlo i hi)
  have hN : sN (partS S p s) = insN S 0 p (100 + 3 * sN S 0) := rfl
  have hN0 : sN (partS S p s) 0 = sN S 0 + 1 := by rw [hN, insN_c]
  have hNo : ∀ n, n ≠ 0 → n < 1000 → sN (partS S p s) n = sN S n := fun n h1 h2 => by rw [hN]; exact insN_o h1 (Or.inl h2)
  refine h.grow (N := fun i => i = 100 + 3 * sN S 0 ∨ i = 101 + 3 * sN S 0 ∨ i = 102 + 3 * sN S 0) ⟨by rw [hN0]; omega, by rw [hNo 1 (by omega) (by omega)]; exact b1, by rw [hNo 2 (by omega) (by omega)]; exact b2, by rw [hNo 3 (by omega) (by omega)]; exact h.1.2.2.2.1, by rw [hNo 8 (by omega) (by omega)]; exact h.1.2.2.2.2⟩ ?_ had ?_ ?_ ?_ ?_
  · intro i hi
    simp only [liveS] at hi ⊢
    rw [hN0, hNo 1 (by omega) (by omega), hNo 2 (by omega) (by omega), hNo 3 (by omega) (by omega)] at hi
    rcases hi with hi | hi | hi | hi | hi | hi | hi | hi
    · exact Or.inl (Or.inl hi)
    · exact Or.inl (Or.inr (Or.inl hi))
    · by_cases hlt : i < 100 + 3 * sN S 0
      · exact Or.inl (Or.inr (Or.inr (Or.inl ⟨hi.1, hlt⟩)))
      · exact Or.inr (by omega)
    · exact Or.inl (Or.inr (Or.inr (Or.inr (Or.inl hi))))
    · exact Or.inl (Or.inr (Or.inr (Or.inr (Or.inr (Or.inl hi)))))
    · exact Or.inl (Or.inr (Or.inr (Or.inr (Or.inr (Or.inr (Or.inl hi))))))
    · exact Or.inl (Or.inr (Or.inr (Or.inr (Or.inr (Or.inr (Or.inr (Or.inl hi)))))))
    · exact Or.inl (Or.inr (Or.inr (Or.inr (Or.inr (Or.inr (Or.inr (Or.inr (hi))))))))
  · rintro i j (rfl | rfl | rfl) (rfl | rfl | rfl) he <;> simp only [A0, A1, A2] at he <;> first | rfl | exact absurd he aq | exact absurd he ar | exact absurd he qr | exact absurd he.symm aq | exact absurd he.symm ar | exact absurd he.symm qr
  · rintro i (rfl | rfl | rfl)
    · rw [A0]; exact ha
    · rw [A1]; exact hq
    · rw [A2]; exact hr
  · have I0 : sI (partS S p s) (100 + 3 * sN S 0) = fun j => if j = 0 then s else 0 := by show va_up (va_up _ _ _) _ _ _ = _; rw [va_up_ne _ _ (by omega), va_up_self]
    have I1 : sI (partS S p s) (101 + 3 * sN S 0) = fun _ => 0 := va_up_self _ _ _
    have J2 : sJ (partS S p s) (102 + 3 * sN S 0) = fun _ => 0 := va_up_self _ _ _
    rintro i (rfl | rfl | rfl)
    · rw [A0, cell_part (by omega)]
      unfold pPart
      rw [A1, A2, I0]
      exact g0
    · rw [A1, cell_partC (by omega), I1]; exact g1
    · rw [A2, cell_partF (by omega), J2]; exact g2
  · intro i hi
    by_cases i1 : i = 1
    · subst i1
      rw [cell_K (by decide)]
      unfold cellK
      simp only [AO 11 (by omega), AO 12 (by omega), AO 13 (by omega), AO 14 (by omega), AO 15 (by omega), hN0, hNo 1 (by omega) (by omega), hNo 2 (by omega) (by omega), hNo 7 (by omega) (by omega)]
      exact g3
    by_cases i12 : i = 12
    · subst i12
      have e : cellOf w (partA ad (sN S 0) a q r) (partS S p s) 12 = xr w 4 40 (va_up (fun k => if k < sN S 0 then some (ad (100 + 3 * k)) else sR S 12 k) (sN S 0) (some a)) := by
        rw [cell_K (by decide)]
        show xr w 4 40 _ = xr w 4 40 _
        congr 1
        funext k
        rw [hN0]
        by_cases hk0 : k = sN S 0
        · subst hk0; rw [va_up_self, if_pos (by omega), A0]
        · rw [va_up_ne _ _ hk0]
          by_cases hk1 : k < sN S 0
          · rw [if_pos hk1, if_pos (by omega), AO _ (by omega)]
          · rw [if_neg hk1, if_neg (by omega)]; rfl
      rw [e]; exact g4
    by_cases i15 : i = 15
    · subst i15
      rw [cell_15, ord_ins (c := 0) (by decide) (by omega) hp hN rfl hL had, A0]
      exact g5
    have o := hlo i hi
    rw [ins_old h (c := 0) (by decide) hL had hN hi i1 i12 i15 (by show va_up (va_up _ _ _) _ _ _ = _; rw [va_up_ne _ _ (by omega), va_up_ne _ _ (by omega)]) (by show va_up _ _ _ _ = _; rw [va_up_ne _ _ (by omega)]) rfl]
    have z := h.2.2 i hi
    exact hf _ _ (h.inj hi (Or.inl (by decide)) i1) (h.inj hi (Or.inl (by decide)) i12) (h.inj hi (Or.inl (by decide)) i15) (fun x => ha (x ▸ z.1)) (fun x => hq (x ▸ z.1)) (fun x => hr (x ▸ z.1)) z
