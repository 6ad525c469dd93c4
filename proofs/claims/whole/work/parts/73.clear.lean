/-! clear -/
def clrR (ad : Nat → Nat) (S : ST) : Nat → Nat → Option Nat := fun i => match i with
  | 8 => fun k => if k < sN S 3 then some (ad (460 + 3 * k)) else sR S 8 k
  | 12 => fun k => if k < sN S 0 then some (ad (100 + 3 * k)) else sR S 12 k
  | 13 => fun k => if k < sN S 1 then some (ad (220 + 2 * k)) else sR S 13 k
  | 14 => fun k => if k < sN S 2 then some (ad (300 + k)) else sR S 14 k
  | 15 => fun k => if k < sN S 0 + sN S 1 + sN S 2 then some (ad (sN S (1000 + k))) else sR S 15 k
  | i => sR S i
def clrZ (n : Nat) : Bool := n == 0 || n == 1 || n == 2 || n == 3 || n == 7 || n == 9 || n == 16 || n == 17 || n == 18 || n == 19
def clrS (ad : Nat → Nat) (S : ST) : ST := (va_up (va_up (va_up S.1 11 (fillF (sI S 11) 0 100 0)) 9 (fillF (sI S 9) 0 27 0)) 0 (va_up (sI S 0) 11 1), S.2.1, clrR ad S, fun n => if clrZ n then 0 else sN S n)
theorem clr_0 {ad : Nat → Nat} {S : ST} {n : Nat} (h : clrZ n = true) : sN (clrS ad S) n = 0 := if_pos h
theorem clr_n {ad : Nat → Nat} {S : ST} {n : Nat} (h : clrZ n = false) : sN (clrS ad S) n = sN S n := if_neg (by rw [h]; decide)
theorem clr_I {ad : Nat → Nat} {S : ST} {i : Nat} (h : i ≠ 0 ∧ i ≠ 9 ∧ i ≠ 11) : (clrS ad S).1 i = S.1 i := (va_up_ne _ _ h.1).trans ((va_up_ne _ _ h.2.1).trans (va_up_ne _ _ h.2.2))
theorem clr_big {n : Nat} (h : 20 ≤ n) : clrZ n = false := by
  unfold clrZ
  simp only [Bool.or_eq_false_iff, beq_eq_false_iff_ne]
  omega
set_option maxHeartbeats 4000000 in
theorem Rep.clear {w : zC} {ad : Nat → Nat} {S : ST} {Z Z' : zZ} (h : Rep w ad S Z) (hL : ciLive S)
    (hf : ∀ b e, b ≠ ad 0 → b ≠ ad 1 → b ≠ ad 2 → b ≠ ad 4 → b ≠ ad 5 → b ≠ ad 6 → b ≠ ad 7 → b ≠ ad 9 → b ≠ ad 11 → zhs Z b e → zhs Z' b e)
    (g0 : zhs Z' (ad 0) (.inr (0, [.ref (ad 1), .ref (ad 3), .ref (ad 8), .ref (ad 9), .ref (ad 4), .ref (ad 5), .ref (ad 10), .ref (ad (5 + sN S 8)), .ref (ad (8 - sN S 8)), .int 0, .int 1])))
    (g1 : zhs Z' (ad 1) (.inr (1, [.ref (ad 11), .ref (ad 12), .ref (ad 13), .ref (ad 14), .ref (ad 15), .int 0, .int 0, .int 0, .int 0])))
    (g2 : zhs Z' (ad 2) (.inr (2, [.ref (ad 16), .int 0, .int (nI (sN S 10)), .int (nI (sN S 11))])))
    (g4 : zhs Z' (ad 4) (.inr (4, [.ref (ad 20), .ref (ad 21), .int 0]))) (g5 : zhs Z' (ad 5) (.inr (5, [.ref (ad 22), .ref (ad 23), .ref (ad 24), .int 0])))
    (g6 : zhs Z' (ad 6) (.inr (5, [.ref (ad 25), .ref (ad 26), .ref (ad 27), .int 0]))) (g7 : zhs Z' (ad 7) (.inr (5, [.ref (ad 28), .ref (ad 29), .ref (ad 30), .int 0])))
    (g9 : zhs Z' (ad 9) (xz w 27 (fillF (sI S 9) 0 27 0))) (g11 : zhs Z' (ad 11) (xi w 100 (fillF (sI S 11) 0 100 0))) : Rep w ad (clrS ad S) Z' := by
  have b8 := h.1.2.2.2.2
  have hlive : ∀ i, liveS (clrS ad S) i → liveS S i ∧ (i < 31 ∨ i = 57 ∨ i = 600 ∨ (700 ≤ i ∧ i < 742 ∧ isArrM i = true)) := fun i hi => by
    simp only [liveS, clr_0 (ad := ad) (S := S) (n := 0) rfl, clr_0 (ad := ad) (S := S) (n := 1) rfl, clr_0 (ad := ad) (S := S) (n := 2) rfl, clr_0 (ad := ad) (S := S) (n := 3) rfl] at hi
    rcases hi with hi | hi | hi | hi | hi | hi | hi | hi
    · exact ⟨Or.inl hi, Or.inl hi⟩
    · exact ⟨Or.inr (Or.inl hi), Or.inr (Or.inl hi)⟩
    · omega
    · omega
    · omega
    · omega
    · exact ⟨Or.inr (Or.inr (Or.inr (Or.inr (Or.inr (Or.inr (Or.inl hi)))))), Or.inr (Or.inr (Or.inl hi))⟩
    · exact ⟨Or.inr (Or.inr (Or.inr (Or.inr (Or.inr (Or.inr (Or.inr hi)))))), Or.inr (Or.inr (Or.inr hi))⟩
  refine ⟨⟨by rw [clr_0 rfl]; omega, by rw [clr_0 rfl]; omega, by rw [clr_0 rfl]; omega, by rw [clr_0 rfl]; omega, by rw [clr_n rfl]; exact b8⟩, fun i j hi hj he => h.2.1 i j (hlive i hi).1 (hlive j hj).1 he, fun i hi => ?_⟩
  obtain ⟨hl, hs⟩ := hlive i hi
  by_cases i0 : i = 0
  · subst i0
    rw [cell_K (by decide)]
    show zhs Z' (ad 0) (.inr (0, [.ref (ad 1), .ref (ad 3), .ref (ad 8), .ref (ad 9), .ref (ad 4), .ref (ad 5), .ref (ad 10), .ref (ad (5 + sN (clrS ad S) 8)), .ref (ad (8 - sN (clrS ad S) 8)), .int (nI (sN (clrS ad S) 3)), .int (sI (clrS ad S) 0 11)]))
    rw [clr_n (n := 8) rfl]
    exact g0
  by_cases i1 : i = 1
  · subst i1; exact g1
  by_cases i2 : i = 2
  · subst i2; exact g2
  by_cases i4 : i = 4
  · subst i4; exact g4
  by_cases i5 : i = 5
  · subst i5; exact g5
  by_cases i6 : i = 6
  · subst i6; exact g6
  by_cases i7 : i = 7
  · subst i7; exact g7
  by_cases i9 : i = 9
  · subst i9
    rw [cell_K (by decide)]
    show zhs Z' (ad 9) (xz w 27 (sI (clrS ad S) 9))
    rw [show sI (clrS ad S) 9 = fillF (sI S 9) 0 27 0 from rfl]
    exact g9
  by_cases i11 : i = 11
  · subst i11
    rw [cell_K (by decide)]
    show zhs Z' (ad 11) (xi w 100 (sI (clrS ad S) 11))
    rw [show sI (clrS ad S) 11 = fillF (sI S 11) 0 100 0 from rfl]
    exact g11
  have key : cellOf w ad (clrS ad S) i = cellOf w ad S i := by
    by_cases i8 : i = 8
    · subst i8
      rw [cell_K (by decide), cell_K (by decide)]
      show xr w 8 20 _ = xr w 8 20 _
      congr 1
    by_cases i12 : i = 12
    · subst i12
      rw [cell_K (by decide), cell_K (by decide)]
      show xr w 4 40 _ = xr w 4 40 _
      congr 1
    by_cases i13 : i = 13
    · subst i13
      rw [cell_K (by decide), cell_K (by decide)]
      show xr w 5 40 _ = xr w 5 40 _
      congr 1
    by_cases i14 : i = 14
    · subst i14
      rw [cell_K (by decide), cell_K (by decide)]
      show xr w 6 160 _ = xr w 6 160 _
      congr 1
    by_cases i15 : i = 15
    · subst i15
      rw [cell_K (by decide), cell_K (by decide)]
      show xr w 7 240 _ = xr w 7 240 _
      congr 1
    refine cell_cg hl h.1 hL (fun _ _ => rfl) (fun m hm => ?_) (clr_I ⟨i0, i9, i11⟩) rfl ?_
    · refine clr_n ?_
      rcases hm with hm | hm | hm
      · unfold rdK at hm
        split at hm <;> first | (exfalso; omega) | exact hm.elim | (exact clr_big (by omega)) | (subst hm; rfl) | skip
        all_goals (rcases (show m = 12 ∨ m = 13 ∨ m = 14 ∨ m = 15 by omega) with rfl | rfl | rfl | rfl <;> rfl)
      · exact clr_big (by omega)
      · exact clr_big (by omega)
    · show clrR ad S i = S.2.2.1 i
      unfold clrR
      split <;> first | (exfalso; omega) | rfl
  rw [key]
  have ne : ∀ j, j < 31 → i ≠ j → ad i ≠ ad j := fun j hj hne => h.inj hl (Or.inl hj) hne
  exact hf _ _ (ne 0 (by decide) i0) (ne 1 (by decide) i1) (ne 2 (by decide) i2) (ne 4 (by decide) i4) (ne 5 (by decide) i5) (ne 6 (by decide) i6) (ne 7 (by decide) i7) (ne 9 (by decide) i9) (ne 11 (by decide) i11) (h.2.2 i hl)
set_option maxHeartbeats 4000000 in
set_option maxRecDepth 100000 in
theorem C_Sc_wipe {w : zC} {Z : zZ} {Q : zR → zZ → Prop} {a v p n q o : Nat} {f : Nat → Int32} {x0 x1 x2 x3 : Int32} (h1 : zhs Z a (.inr (1, [.ref v, .ref p, .ref n, .ref q, .ref o, .int x0, .int x1, .int x2, .int x3]))) (hv : zhs Z v (xi w 100 f)) (hQ : Q (.inl none) (zput (zput Z v (xi w 100 (fillF f 0 100 0))) a (.inr (1, [.ref v, .ref p, .ref n, .ref q, .ref o, .int 0, .int 0, .int 0, .int 0])))) : Cz w (1, 30) y_Sc_wipe (Cond.code y_Sc_wipe c_Sc_wipe 1 r_Sc_wipe :: wz) [.ref a] Z Q := by
  refine Cz.of (by decide +kernel) (by simp [lg_sl, Value.category]) ?_
  show G _ _ _ _ _ _ _ _ [(0, _)] _ _
  refine g_aload_nq d_Sc_wipe_0 rfl 0 rfl ?_
  refine g_get d_Sc_wipe_1 f_Sc_9_Sc (by assumption) (by first | rfl | assumption) ?_
  refine g_iconst (v := 0) d_Sc_wipe_4 rfl ?_
  refine g_callS d_Sc_wipe_5 k_jA_fill l_Sc_52 s_jA_fill (by rfl) (by rfl) (Nat.le_of_ble_eq_true rfl) (by decide) (C_jA_fill (by decide) hv ⟨_, rfl, ?_⟩)
  generalize e1 : zput _ _ _ = Z1
  have h1 := zhs_put_ne' e1 h1 (zhs_ne h1 hv (by simp))
  refine g_aload_nq d_Sc_wipe_8 rfl 0 rfl ?_
  refine g_iconst (v := 0) d_Sc_wipe_9 rfl ?_
  refine g_put d_Sc_wipe_10 w_Sc_39_Sc (by assumption) (by first | rfl | exact zb_nar _) (by first | rfl | exact zb_fit _ | exact zrf_fit _) (by first | exact Nat.le_of_ble_eq_true rfl | omega) ?_
  generalize e2 : zput _ _ _ = Z2
  have h1 := zhs_put_same' e2 h1
  refine g_aload_nq d_Sc_wipe_13 rfl 0 rfl ?_
  refine g_iconst (v := 0) d_Sc_wipe_14 rfl ?_
  refine g_put d_Sc_wipe_15 w_Sc_43_Sc (by assumption) (by first | rfl | exact zb_nar _) (by first | rfl | exact zb_fit _ | exact zrf_fit _) (by first | exact Nat.le_of_ble_eq_true rfl | omega) ?_
  generalize e3 : zput _ _ _ = Z3
  have h1 := zhs_put_same' e3 h1
  refine g_aload_nq d_Sc_wipe_18 rfl 0 rfl ?_
  refine g_iconst (v := 0) d_Sc_wipe_19 rfl ?_
  refine g_put d_Sc_wipe_20 w_Sc_46_Sc (by assumption) (by first | rfl | exact zb_nar _) (by first | rfl | exact zb_fit _ | exact zrf_fit _) (by first | exact Nat.le_of_ble_eq_true rfl | omega) ?_
  generalize e4 : zput _ _ _ = Z4
  have h1 := zhs_put_same' e4 h1
  refine g_aload_nq d_Sc_wipe_23 rfl 0 rfl ?_
  refine g_iconst (v := 0) d_Sc_wipe_24 rfl ?_
  refine g_put d_Sc_wipe_25 w_Sc_49_Sc (by assumption) (by first | rfl | exact zb_nar _) (by first | rfl | exact zb_fit _ | exact zrf_fit _) (by first | exact Nat.le_of_ble_eq_true rfl | omega) ?_
  generalize e5 : zput _ _ _ = Z5
  have h1 := zhs_put_same' e5 h1
  refine g_vret d_Sc_wipe_28 ?_
  rw [← e5, ← e4, ← e3, ← e2, zput_put, zput_put, zput_put, ← e1]
  exact hQ

set_option maxHeartbeats 4000000 in
set_option maxRecDepth 100000 in
theorem L_K_clear {w : zC} {Q : zR → zZ → Prop} {b a : Nat} {v0 v1 v2 v4 v5 v6 v7 v8 v9 v10 : Value} (m : Nat) : ∀ i f Z, i + m = 27 → zhs Z b (.inr (0, [v0, v1, v2, .ref a, v4, v5, v6, v7, v8, v9, v10])) → zhs Z a (xz w 27 f) → G w y_K_clear c_K_clear 2 r_K_clear (2, 52) Q 66 [(1, .int (nI 27)), (0, .ref b)] [] (zput Z a (xz w 27 (fillF f 0 m i))) → G w y_K_clear c_K_clear 2 r_K_clear (2, 52) Q 44 [(1, .int (nI i)), (0, .ref b)] [] Z := by
  induction m with
  | zero =>
    intro i f Z hi h0 h9 hk
    refine g_iload_n d_K_clear_44 rfl 0 rfl ?_
    refine g_aload_nq d_K_clear_45 rfl 1 rfl ?_
    refine g_get d_K_clear_46 f_K_29_K (by assumption) (by first | rfl | assumption) ?_
    refine g_alen d_K_clear_49 2 (by assumption) rfl ?_
    refine g_icmp_ge (tgt := 66) d_K_clear_50 (by decide) (fun h50 => ?_) (fun h50 => ?_)
    · rw [fillF, zput_self h9] at hk
      rw [show i = 27 by omega]
      exact hk
    · exact absurd (nI_le (by omega) (by omega)) h50
  | succ m ih =>
    intro i f Z hi h0 h9 hk
    have ha : b ≠ a := zhs_ne h0 h9 (by simp)
    refine g_iload_n d_K_clear_44 rfl 0 rfl ?_
    refine g_aload_nq d_K_clear_45 rfl 1 rfl ?_
    refine g_get d_K_clear_46 f_K_29_K (by assumption) (by first | rfl | assumption) ?_
    refine g_alen d_K_clear_49 2 (by assumption) rfl ?_
    refine g_icmp_ge (tgt := 66) d_K_clear_50 (by decide) (fun h50 => ?_) (fun h50 => ?_)
    · exact absurd h50 (nI_ge (by omega) (by decide))
    · refine g_aload_nq d_K_clear_53 rfl 1 rfl ?_
      refine g_get d_K_clear_54 f_K_29_K (by assumption) (by first | rfl | assumption) ?_
      refine g_iload_n d_K_clear_57 rfl 0 rfl ?_
      refine g_iconst (v := 0) d_K_clear_58 rfl ?_
      refine g_zast d_K_clear_59 (by assumption) (vp_in_nI (by omega) (by decide)) ?_
      rw [nI_clamp (by omega), show vp_nar .boolean 0 = 0 from rfl]
      refine g_iinc (k := 0) d_K_clear_60 rfl (nI_1 i) (by decide) rfl ?_
      refine g_goto (tgt := 44) d_K_clear_63 (by decide) ?_
      exact ih (i + 1) _ _ (by omega) (zhs_put_ne h0 ha) (zhs_put_same h9) (by rw [zput_put]; exact hk)

set_option maxHeartbeats 4000000 in
set_option maxRecDepth 100000 in
theorem C_K_clear {w : zC} {Z : zZ} {Q : zR → zZ → Prop} {ad : Nat → Nat} {S : ST} (hR : Rep w ad S Z) (hL : ciLive S) (hQ : ∀ Z', Rep w ad (clrS ad S) Z' → Z'.2.2 = Z.2.2 → Q (.inl none) Z') : Cz w (2, 52) y_K_clear (Cond.code y_K_clear c_K_clear 2 r_K_clear :: wz) [.ref (ad 0)] Z Q := by
  refine Cz.of (by decide +kernel) (by simp [lg_sl, Value.category]) ?_
  show G _ _ _ _ _ _ _ _ [(0, _)] _ _
  have h0 : zhs Z (ad 0) (.inr (0, [.ref (ad 1), .ref (ad 3), .ref (ad 8), .ref (ad 9), .ref (ad 4), .ref (ad 5), .ref (ad 10), .ref (ad (5 + sN S 8)), .ref (ad (8 - sN S 8)), .int (nI (sN S 3)), .int (sI S 0 11)])) := hR.k 0 (by decide)
  have h1 : zhs Z (ad 1) (.inr (1, [.ref (ad 11), .ref (ad 12), .ref (ad 13), .ref (ad 14), .ref (ad 15), .int (nI (sN S 0)), .int (nI (sN S 1)), .int (nI (sN S 2)), .int (nI (sN S 7))])) := hR.k 1 (by decide)
  have h2 : zhs Z (ad 2) (.inr (2, [.ref (ad 16), .int (nI (sN S 9)), .int (nI (sN S 10)), .int (nI (sN S 11))])) := hR.k 2 (by decide)
  have h3 : zhs Z (ad 3) (.inr (3, [.ref (ad 17), .ref (ad 18), .ref (ad 19), .ref (ad 2), .int (nI (sN S 12)), .int (nI (sN S 13)), .int (nI (sN S 14)), .int (sI S 3 7), .int (nI (sN S 15)), .int (sI S 3 9), .int (sI S 3 10), .int (sI S 3 11)])) := hR.k 3 (by decide)
  have h4 : zhs Z (ad 4) (.inr (4, [.ref (ad 20), .ref (ad 21), .int (nI (sN S 16))])) := hR.k 4 (by decide)
  have h5 : zhs Z (ad 5) (.inr (5, [.ref (ad 22), .ref (ad 23), .ref (ad 24), .int (nI (sN S 17))])) := hR.k 5 (by decide)
  have h6 : zhs Z (ad 6) (.inr (5, [.ref (ad 25), .ref (ad 26), .ref (ad 27), .int (nI (sN S 18))])) := hR.k 6 (by decide)
  have h7 : zhs Z (ad 7) (.inr (5, [.ref (ad 28), .ref (ad 29), .ref (ad 30), .int (nI (sN S 19))])) := hR.k 7 (by decide)
  have h9 : zhs Z (ad 9) (xz w 27 (sI S 9)) := hR.k 9 (by decide)
  have h11 : zhs Z (ad 11) (xi w 100 (sI S 11)) := hR.k 11 (by decide)
  have J : ∀ i j, i < 31 → j < 31 → i ≠ j → ad i ≠ ad j := fun i j hi hj hne => hR.inj (Or.inl hi) (Or.inl hj) hne
  rcases hR.1.2.2.2.2 with h8 | h8
  · rw [h8] at h0
    refine g_aload_nq d_K_clear_0 rfl 0 rfl ?_
    refine g_get d_K_clear_1 f_K_12_K (by assumption) (by first | rfl | assumption) ?_
    refine g_callV d_K_clear_4 k_Sc_wipe l_K_225 i_Sc_wipe rfl q_Sc_Sc_wipe_Sc h1 (by rfl) (by rfl) (Nat.le_of_ble_eq_true rfl) (by decide) (C_Sc_wipe h1 h11 ⟨_, rfl, ?_⟩)
    generalize e1 : zput Z (ad 11) _ = Z1
    have h0 := zhs_put_ne' e1 h0 (J 0 11 (by decide) (by decide) (by decide))
    have h1 := zhs_put_ne' e1 h1 (J 1 11 (by decide) (by decide) (by decide))
    have h2 := zhs_put_ne' e1 h2 (J 2 11 (by decide) (by decide) (by decide))
    have h3 := zhs_put_ne' e1 h3 (J 3 11 (by decide) (by decide) (by decide))
    have h4 := zhs_put_ne' e1 h4 (J 4 11 (by decide) (by decide) (by decide))
    have h5 := zhs_put_ne' e1 h5 (J 5 11 (by decide) (by decide) (by decide))
    have h6 := zhs_put_ne' e1 h6 (J 6 11 (by decide) (by decide) (by decide))
    have h7 := zhs_put_ne' e1 h7 (J 7 11 (by decide) (by decide) (by decide))
    have h9 := zhs_put_ne' e1 h9 (J 9 11 (by decide) (by decide) (by decide))
    have h11 := zhs_put_same' e1 h11
    generalize e2 : zput Z1 (ad 1) _ = Z2
    have h0 := zhs_put_ne' e2 h0 (J 0 1 (by decide) (by decide) (by decide))
    have h2 := zhs_put_ne' e2 h2 (J 2 1 (by decide) (by decide) (by decide))
    have h3 := zhs_put_ne' e2 h3 (J 3 1 (by decide) (by decide) (by decide))
    have h4 := zhs_put_ne' e2 h4 (J 4 1 (by decide) (by decide) (by decide))
    have h5 := zhs_put_ne' e2 h5 (J 5 1 (by decide) (by decide) (by decide))
    have h6 := zhs_put_ne' e2 h6 (J 6 1 (by decide) (by decide) (by decide))
    have h7 := zhs_put_ne' e2 h7 (J 7 1 (by decide) (by decide) (by decide))
    have h9 := zhs_put_ne' e2 h9 (J 9 1 (by decide) (by decide) (by decide))
    have h11 := zhs_put_ne' e2 h11 (J 11 1 (by decide) (by decide) (by decide))
    have h1 := zhs_put_same' e2 h1
    refine g_aload_nq d_K_clear_7 rfl 0 rfl ?_
    refine g_get d_K_clear_8 f_K_19_K (by assumption) (by first | rfl | assumption) ?_
    refine g_callV d_K_clear_11 k_Rd_wipe l_K_154 i_Rd_wipe rfl q_Rd_Rd_wipe_Rd h3 (by rfl) (by rfl) (Nat.le_of_ble_eq_true rfl) (by decide) (C_Rd_wipe h2 h3 ⟨_, rfl, ?_⟩)
    generalize e3 : zput Z2 _ _ = Z3
    have h0 := zhs_put_ne' e3 h0 (J 0 2 (by decide) (by decide) (by decide))
    have h1 := zhs_put_ne' e3 h1 (J 1 2 (by decide) (by decide) (by decide))
    have h3 := zhs_put_ne' e3 h3 (J 3 2 (by decide) (by decide) (by decide))
    have h4 := zhs_put_ne' e3 h4 (J 4 2 (by decide) (by decide) (by decide))
    have h5 := zhs_put_ne' e3 h5 (J 5 2 (by decide) (by decide) (by decide))
    have h6 := zhs_put_ne' e3 h6 (J 6 2 (by decide) (by decide) (by decide))
    have h7 := zhs_put_ne' e3 h7 (J 7 2 (by decide) (by decide) (by decide))
    have h9 := zhs_put_ne' e3 h9 (J 9 2 (by decide) (by decide) (by decide))
    have h11 := zhs_put_ne' e3 h11 (J 11 2 (by decide) (by decide) (by decide))
    have h2 := zhs_put_same' e3 h2
    refine g_aload_nq d_K_clear_14 rfl 0 rfl ?_
    refine g_get d_K_clear_15 f_K_36_K (by assumption) (by first | rfl | assumption) ?_
    refine g_callV d_K_clear_18 k_Wv_wipe l_K_226 i_Wv_wipe rfl q_Wv_Wv_wipe_Wv h4 (by rfl) (by rfl) (Nat.le_of_ble_eq_true rfl) (by decide) (C_Wv_wipe h4 ⟨_, rfl, ?_⟩)
    generalize e4 : zput Z3 _ _ = Z4
    have h0 := zhs_put_ne' e4 h0 (J 0 4 (by decide) (by decide) (by decide))
    have h1 := zhs_put_ne' e4 h1 (J 1 4 (by decide) (by decide) (by decide))
    have h2 := zhs_put_ne' e4 h2 (J 2 4 (by decide) (by decide) (by decide))
    have h3 := zhs_put_ne' e4 h3 (J 3 4 (by decide) (by decide) (by decide))
    have h5 := zhs_put_ne' e4 h5 (J 5 4 (by decide) (by decide) (by decide))
    have h6 := zhs_put_ne' e4 h6 (J 6 4 (by decide) (by decide) (by decide))
    have h7 := zhs_put_ne' e4 h7 (J 7 4 (by decide) (by decide) (by decide))
    have h9 := zhs_put_ne' e4 h9 (J 9 4 (by decide) (by decide) (by decide))
    have h11 := zhs_put_ne' e4 h11 (J 11 4 (by decide) (by decide) (by decide))
    have h4 := zhs_put_same' e4 h4
    refine g_aload_nq d_K_clear_21 rfl 0 rfl ?_
    refine g_get d_K_clear_22 f_K_51_K (by assumption) (by first | rfl | assumption) ?_
    refine g_callV d_K_clear_25 k_Rm_wipe l_K_169 i_Rm_wipe rfl q_Rm_Rm_wipe_Rm h6 (by rfl) (by rfl) (Nat.le_of_ble_eq_true rfl) (by decide) (C_Rm_wipe h6 ⟨_, rfl, ?_⟩)
    generalize e5 : zput Z4 _ _ = Z5
    have h0 := zhs_put_ne' e5 h0 (J 0 6 (by decide) (by decide) (by decide))
    have h1 := zhs_put_ne' e5 h1 (J 1 6 (by decide) (by decide) (by decide))
    have h2 := zhs_put_ne' e5 h2 (J 2 6 (by decide) (by decide) (by decide))
    have h3 := zhs_put_ne' e5 h3 (J 3 6 (by decide) (by decide) (by decide))
    have h4 := zhs_put_ne' e5 h4 (J 4 6 (by decide) (by decide) (by decide))
    have h5 := zhs_put_ne' e5 h5 (J 5 6 (by decide) (by decide) (by decide))
    have h7 := zhs_put_ne' e5 h7 (J 7 6 (by decide) (by decide) (by decide))
    have h9 := zhs_put_ne' e5 h9 (J 9 6 (by decide) (by decide) (by decide))
    have h11 := zhs_put_ne' e5 h11 (J 11 6 (by decide) (by decide) (by decide))
    have h6 := zhs_put_same' e5 h6
    refine g_aload_nq d_K_clear_28 rfl 0 rfl ?_
    refine g_get d_K_clear_29 f_K_54_K (by assumption) (by first | rfl | assumption) ?_
    refine g_callV d_K_clear_32 k_Rm_wipe l_K_169 i_Rm_wipe rfl q_Rm_Rm_wipe_Rm h7 (by rfl) (by rfl) (Nat.le_of_ble_eq_true rfl) (by decide) (C_Rm_wipe h7 ⟨_, rfl, ?_⟩)
    generalize e6 : zput Z5 _ _ = Z6
    have h0 := zhs_put_ne' e6 h0 (J 0 7 (by decide) (by decide) (by decide))
    have h1 := zhs_put_ne' e6 h1 (J 1 7 (by decide) (by decide) (by decide))
    have h2 := zhs_put_ne' e6 h2 (J 2 7 (by decide) (by decide) (by decide))
    have h3 := zhs_put_ne' e6 h3 (J 3 7 (by decide) (by decide) (by decide))
    have h4 := zhs_put_ne' e6 h4 (J 4 7 (by decide) (by decide) (by decide))
    have h5 := zhs_put_ne' e6 h5 (J 5 7 (by decide) (by decide) (by decide))
    have h6 := zhs_put_ne' e6 h6 (J 6 7 (by decide) (by decide) (by decide))
    have h9 := zhs_put_ne' e6 h9 (J 9 7 (by decide) (by decide) (by decide))
    have h11 := zhs_put_ne' e6 h11 (J 11 7 (by decide) (by decide) (by decide))
    have h7 := zhs_put_same' e6 h7
    refine g_aload_nq d_K_clear_35 rfl 0 rfl ?_
    refine g_get d_K_clear_36 f_K_43_K (by assumption) (by first | rfl | assumption) ?_
    refine g_callV d_K_clear_39 k_Rm_wipe l_K_169 i_Rm_wipe rfl q_Rm_Rm_wipe_Rm h5 (by rfl) (by rfl) (Nat.le_of_ble_eq_true rfl) (by decide) (C_Rm_wipe h5 ⟨_, rfl, ?_⟩)
    generalize e7 : zput Z6 _ _ = Z7
    have h0 := zhs_put_ne' e7 h0 (J 0 5 (by decide) (by decide) (by decide))
    have h1 := zhs_put_ne' e7 h1 (J 1 5 (by decide) (by decide) (by decide))
    have h2 := zhs_put_ne' e7 h2 (J 2 5 (by decide) (by decide) (by decide))
    have h3 := zhs_put_ne' e7 h3 (J 3 5 (by decide) (by decide) (by decide))
    have h4 := zhs_put_ne' e7 h4 (J 4 5 (by decide) (by decide) (by decide))
    have h6 := zhs_put_ne' e7 h6 (J 6 5 (by decide) (by decide) (by decide))
    have h7 := zhs_put_ne' e7 h7 (J 7 5 (by decide) (by decide) (by decide))
    have h9 := zhs_put_ne' e7 h9 (J 9 5 (by decide) (by decide) (by decide))
    have h11 := zhs_put_ne' e7 h11 (J 11 5 (by decide) (by decide) (by decide))
    have h5 := zhs_put_same' e7 h5
    refine g_iconst (v := 0) d_K_clear_42 rfl ?_
    refine g_istore_n d_K_clear_43 rfl (by decide) rfl ?_
    show G _ _ _ _ _ _ _ _ [(1, _), (0, _)] _ _
    refine L_K_clear 27 0 (sI S 9) Z7 (by omega) h0 h9 ?_
    generalize e8 : zput Z7 _ _ = Z8
    have h0 := zhs_put_ne' e8 h0 (J 0 9 (by decide) (by decide) (by decide))
    have h1 := zhs_put_ne' e8 h1 (J 1 9 (by decide) (by decide) (by decide))
    have h2 := zhs_put_ne' e8 h2 (J 2 9 (by decide) (by decide) (by decide))
    have h3 := zhs_put_ne' e8 h3 (J 3 9 (by decide) (by decide) (by decide))
    have h4 := zhs_put_ne' e8 h4 (J 4 9 (by decide) (by decide) (by decide))
    have h5 := zhs_put_ne' e8 h5 (J 5 9 (by decide) (by decide) (by decide))
    have h6 := zhs_put_ne' e8 h6 (J 6 9 (by decide) (by decide) (by decide))
    have h7 := zhs_put_ne' e8 h7 (J 7 9 (by decide) (by decide) (by decide))
    have h11 := zhs_put_ne' e8 h11 (J 11 9 (by decide) (by decide) (by decide))
    have h9 := zhs_put_same' e8 h9
    refine g_aload_nq d_K_clear_66 rfl 1 rfl ?_
    refine g_iconst (v := 0) d_K_clear_67 rfl ?_
    refine g_put d_K_clear_68 w_K_57_K (by assumption) (by first | rfl | exact zb_nar _) (by first | rfl | exact zb_fit _ | exact zrf_fit _) (by first | exact Nat.le_of_ble_eq_true rfl | omega) ?_
    generalize e9 : zput Z8 _ _ = Z9
    have h1 := zhs_put_ne' e9 h1 (J 1 0 (by decide) (by decide) (by decide))
    have h2 := zhs_put_ne' e9 h2 (J 2 0 (by decide) (by decide) (by decide))
    have h3 := zhs_put_ne' e9 h3 (J 3 0 (by decide) (by decide) (by decide))
    have h4 := zhs_put_ne' e9 h4 (J 4 0 (by decide) (by decide) (by decide))
    have h5 := zhs_put_ne' e9 h5 (J 5 0 (by decide) (by decide) (by decide))
    have h6 := zhs_put_ne' e9 h6 (J 6 0 (by decide) (by decide) (by decide))
    have h7 := zhs_put_ne' e9 h7 (J 7 0 (by decide) (by decide) (by decide))
    have h9 := zhs_put_ne' e9 h9 (J 9 0 (by decide) (by decide) (by decide))
    have h11 := zhs_put_ne' e9 h11 (J 11 0 (by decide) (by decide) (by decide))
    have h0 := zhs_put_same' e9 h0
    refine g_aload_nq d_K_clear_71 rfl 1 rfl ?_
    refine g_iconst (v := 1) d_K_clear_72 rfl ?_
    refine g_put d_K_clear_73 w_K_61_K (by assumption) (by first | rfl | exact zb_nar _) (by first | rfl | exact zb_fit _ | exact zrf_fit _) (by first | exact Nat.le_of_ble_eq_true rfl | omega) ?_
    generalize e10 : zput Z9 _ _ = Z10
    have h1 := zhs_put_ne' e10 h1 (J 1 0 (by decide) (by decide) (by decide))
    have h2 := zhs_put_ne' e10 h2 (J 2 0 (by decide) (by decide) (by decide))
    have h3 := zhs_put_ne' e10 h3 (J 3 0 (by decide) (by decide) (by decide))
    have h4 := zhs_put_ne' e10 h4 (J 4 0 (by decide) (by decide) (by decide))
    have h5 := zhs_put_ne' e10 h5 (J 5 0 (by decide) (by decide) (by decide))
    have h6 := zhs_put_ne' e10 h6 (J 6 0 (by decide) (by decide) (by decide))
    have h7 := zhs_put_ne' e10 h7 (J 7 0 (by decide) (by decide) (by decide))
    have h9 := zhs_put_ne' e10 h9 (J 9 0 (by decide) (by decide) (by decide))
    have h11 := zhs_put_ne' e10 h11 (J 11 0 (by decide) (by decide) (by decide))
    have h0 := zhs_put_same' e10 h0
    refine g_vret d_K_clear_76 ?_
    have hR9 : Rep w ad (clrS ad S) Z10 := by
      refine hR.clear hL (fun c e c0 c1 c2 c4 c5 c6 c7 c9 c11 hz => ?_) (by rw [h8]; exact h0) h1 h2 h4 h5 h6 h7 h9 h11
      exact zhs_put_ne' e10 (zhs_put_ne' e9 (zhs_put_ne' e8 (zhs_put_ne' e7 (zhs_put_ne' e6 (zhs_put_ne' e5 (zhs_put_ne' e4 (zhs_put_ne' e3 (zhs_put_ne' e2 (zhs_put_ne' e1 hz c11) c1) c2) c4) c6) c7) c5) c9) c0) c0
    exact hQ Z10 hR9 (by rw [← e10, ← e9, ← e8, ← e7, ← e6, ← e5, ← e4, ← e3, ← e2, ← e1]; rfl)
  · rw [h8] at h0
    refine g_aload_nq d_K_clear_0 rfl 0 rfl ?_
    refine g_get d_K_clear_1 f_K_12_K (by assumption) (by first | rfl | assumption) ?_
    refine g_callV d_K_clear_4 k_Sc_wipe l_K_225 i_Sc_wipe rfl q_Sc_Sc_wipe_Sc h1 (by rfl) (by rfl) (Nat.le_of_ble_eq_true rfl) (by decide) (C_Sc_wipe h1 h11 ⟨_, rfl, ?_⟩)
    generalize e1 : zput Z (ad 11) _ = Z1
    have h0 := zhs_put_ne' e1 h0 (J 0 11 (by decide) (by decide) (by decide))
    have h1 := zhs_put_ne' e1 h1 (J 1 11 (by decide) (by decide) (by decide))
    have h2 := zhs_put_ne' e1 h2 (J 2 11 (by decide) (by decide) (by decide))
    have h3 := zhs_put_ne' e1 h3 (J 3 11 (by decide) (by decide) (by decide))
    have h4 := zhs_put_ne' e1 h4 (J 4 11 (by decide) (by decide) (by decide))
    have h5 := zhs_put_ne' e1 h5 (J 5 11 (by decide) (by decide) (by decide))
    have h6 := zhs_put_ne' e1 h6 (J 6 11 (by decide) (by decide) (by decide))
    have h7 := zhs_put_ne' e1 h7 (J 7 11 (by decide) (by decide) (by decide))
    have h9 := zhs_put_ne' e1 h9 (J 9 11 (by decide) (by decide) (by decide))
    have h11 := zhs_put_same' e1 h11
    generalize e2 : zput Z1 (ad 1) _ = Z2
    have h0 := zhs_put_ne' e2 h0 (J 0 1 (by decide) (by decide) (by decide))
    have h2 := zhs_put_ne' e2 h2 (J 2 1 (by decide) (by decide) (by decide))
    have h3 := zhs_put_ne' e2 h3 (J 3 1 (by decide) (by decide) (by decide))
    have h4 := zhs_put_ne' e2 h4 (J 4 1 (by decide) (by decide) (by decide))
    have h5 := zhs_put_ne' e2 h5 (J 5 1 (by decide) (by decide) (by decide))
    have h6 := zhs_put_ne' e2 h6 (J 6 1 (by decide) (by decide) (by decide))
    have h7 := zhs_put_ne' e2 h7 (J 7 1 (by decide) (by decide) (by decide))
    have h9 := zhs_put_ne' e2 h9 (J 9 1 (by decide) (by decide) (by decide))
    have h11 := zhs_put_ne' e2 h11 (J 11 1 (by decide) (by decide) (by decide))
    have h1 := zhs_put_same' e2 h1
    refine g_aload_nq d_K_clear_7 rfl 0 rfl ?_
    refine g_get d_K_clear_8 f_K_19_K (by assumption) (by first | rfl | assumption) ?_
    refine g_callV d_K_clear_11 k_Rd_wipe l_K_154 i_Rd_wipe rfl q_Rd_Rd_wipe_Rd h3 (by rfl) (by rfl) (Nat.le_of_ble_eq_true rfl) (by decide) (C_Rd_wipe h2 h3 ⟨_, rfl, ?_⟩)
    generalize e3 : zput Z2 _ _ = Z3
    have h0 := zhs_put_ne' e3 h0 (J 0 2 (by decide) (by decide) (by decide))
    have h1 := zhs_put_ne' e3 h1 (J 1 2 (by decide) (by decide) (by decide))
    have h3 := zhs_put_ne' e3 h3 (J 3 2 (by decide) (by decide) (by decide))
    have h4 := zhs_put_ne' e3 h4 (J 4 2 (by decide) (by decide) (by decide))
    have h5 := zhs_put_ne' e3 h5 (J 5 2 (by decide) (by decide) (by decide))
    have h6 := zhs_put_ne' e3 h6 (J 6 2 (by decide) (by decide) (by decide))
    have h7 := zhs_put_ne' e3 h7 (J 7 2 (by decide) (by decide) (by decide))
    have h9 := zhs_put_ne' e3 h9 (J 9 2 (by decide) (by decide) (by decide))
    have h11 := zhs_put_ne' e3 h11 (J 11 2 (by decide) (by decide) (by decide))
    have h2 := zhs_put_same' e3 h2
    refine g_aload_nq d_K_clear_14 rfl 0 rfl ?_
    refine g_get d_K_clear_15 f_K_36_K (by assumption) (by first | rfl | assumption) ?_
    refine g_callV d_K_clear_18 k_Wv_wipe l_K_226 i_Wv_wipe rfl q_Wv_Wv_wipe_Wv h4 (by rfl) (by rfl) (Nat.le_of_ble_eq_true rfl) (by decide) (C_Wv_wipe h4 ⟨_, rfl, ?_⟩)
    generalize e4 : zput Z3 _ _ = Z4
    have h0 := zhs_put_ne' e4 h0 (J 0 4 (by decide) (by decide) (by decide))
    have h1 := zhs_put_ne' e4 h1 (J 1 4 (by decide) (by decide) (by decide))
    have h2 := zhs_put_ne' e4 h2 (J 2 4 (by decide) (by decide) (by decide))
    have h3 := zhs_put_ne' e4 h3 (J 3 4 (by decide) (by decide) (by decide))
    have h5 := zhs_put_ne' e4 h5 (J 5 4 (by decide) (by decide) (by decide))
    have h6 := zhs_put_ne' e4 h6 (J 6 4 (by decide) (by decide) (by decide))
    have h7 := zhs_put_ne' e4 h7 (J 7 4 (by decide) (by decide) (by decide))
    have h9 := zhs_put_ne' e4 h9 (J 9 4 (by decide) (by decide) (by decide))
    have h11 := zhs_put_ne' e4 h11 (J 11 4 (by decide) (by decide) (by decide))
    have h4 := zhs_put_same' e4 h4
    refine g_aload_nq d_K_clear_21 rfl 0 rfl ?_
    refine g_get d_K_clear_22 f_K_51_K (by assumption) (by first | rfl | assumption) ?_
    refine g_callV d_K_clear_25 k_Rm_wipe l_K_169 i_Rm_wipe rfl q_Rm_Rm_wipe_Rm h7 (by rfl) (by rfl) (Nat.le_of_ble_eq_true rfl) (by decide) (C_Rm_wipe h7 ⟨_, rfl, ?_⟩)
    generalize e5 : zput Z4 _ _ = Z5
    have h0 := zhs_put_ne' e5 h0 (J 0 7 (by decide) (by decide) (by decide))
    have h1 := zhs_put_ne' e5 h1 (J 1 7 (by decide) (by decide) (by decide))
    have h2 := zhs_put_ne' e5 h2 (J 2 7 (by decide) (by decide) (by decide))
    have h3 := zhs_put_ne' e5 h3 (J 3 7 (by decide) (by decide) (by decide))
    have h4 := zhs_put_ne' e5 h4 (J 4 7 (by decide) (by decide) (by decide))
    have h5 := zhs_put_ne' e5 h5 (J 5 7 (by decide) (by decide) (by decide))
    have h6 := zhs_put_ne' e5 h6 (J 6 7 (by decide) (by decide) (by decide))
    have h9 := zhs_put_ne' e5 h9 (J 9 7 (by decide) (by decide) (by decide))
    have h11 := zhs_put_ne' e5 h11 (J 11 7 (by decide) (by decide) (by decide))
    have h7 := zhs_put_same' e5 h7
    refine g_aload_nq d_K_clear_28 rfl 0 rfl ?_
    refine g_get d_K_clear_29 f_K_54_K (by assumption) (by first | rfl | assumption) ?_
    refine g_callV d_K_clear_32 k_Rm_wipe l_K_169 i_Rm_wipe rfl q_Rm_Rm_wipe_Rm h6 (by rfl) (by rfl) (Nat.le_of_ble_eq_true rfl) (by decide) (C_Rm_wipe h6 ⟨_, rfl, ?_⟩)
    generalize e6 : zput Z5 _ _ = Z6
    have h0 := zhs_put_ne' e6 h0 (J 0 6 (by decide) (by decide) (by decide))
    have h1 := zhs_put_ne' e6 h1 (J 1 6 (by decide) (by decide) (by decide))
    have h2 := zhs_put_ne' e6 h2 (J 2 6 (by decide) (by decide) (by decide))
    have h3 := zhs_put_ne' e6 h3 (J 3 6 (by decide) (by decide) (by decide))
    have h4 := zhs_put_ne' e6 h4 (J 4 6 (by decide) (by decide) (by decide))
    have h5 := zhs_put_ne' e6 h5 (J 5 6 (by decide) (by decide) (by decide))
    have h7 := zhs_put_ne' e6 h7 (J 7 6 (by decide) (by decide) (by decide))
    have h9 := zhs_put_ne' e6 h9 (J 9 6 (by decide) (by decide) (by decide))
    have h11 := zhs_put_ne' e6 h11 (J 11 6 (by decide) (by decide) (by decide))
    have h6 := zhs_put_same' e6 h6
    refine g_aload_nq d_K_clear_35 rfl 0 rfl ?_
    refine g_get d_K_clear_36 f_K_43_K (by assumption) (by first | rfl | assumption) ?_
    refine g_callV d_K_clear_39 k_Rm_wipe l_K_169 i_Rm_wipe rfl q_Rm_Rm_wipe_Rm h5 (by rfl) (by rfl) (Nat.le_of_ble_eq_true rfl) (by decide) (C_Rm_wipe h5 ⟨_, rfl, ?_⟩)
    generalize e7 : zput Z6 _ _ = Z7
    have h0 := zhs_put_ne' e7 h0 (J 0 5 (by decide) (by decide) (by decide))
    have h1 := zhs_put_ne' e7 h1 (J 1 5 (by decide) (by decide) (by decide))
    have h2 := zhs_put_ne' e7 h2 (J 2 5 (by decide) (by decide) (by decide))
    have h3 := zhs_put_ne' e7 h3 (J 3 5 (by decide) (by decide) (by decide))
    have h4 := zhs_put_ne' e7 h4 (J 4 5 (by decide) (by decide) (by decide))
    have h6 := zhs_put_ne' e7 h6 (J 6 5 (by decide) (by decide) (by decide))
    have h7 := zhs_put_ne' e7 h7 (J 7 5 (by decide) (by decide) (by decide))
    have h9 := zhs_put_ne' e7 h9 (J 9 5 (by decide) (by decide) (by decide))
    have h11 := zhs_put_ne' e7 h11 (J 11 5 (by decide) (by decide) (by decide))
    have h5 := zhs_put_same' e7 h5
    refine g_iconst (v := 0) d_K_clear_42 rfl ?_
    refine g_istore_n d_K_clear_43 rfl (by decide) rfl ?_
    show G _ _ _ _ _ _ _ _ [(1, _), (0, _)] _ _
    refine L_K_clear 27 0 (sI S 9) Z7 (by omega) h0 h9 ?_
    generalize e8 : zput Z7 _ _ = Z8
    have h0 := zhs_put_ne' e8 h0 (J 0 9 (by decide) (by decide) (by decide))
    have h1 := zhs_put_ne' e8 h1 (J 1 9 (by decide) (by decide) (by decide))
    have h2 := zhs_put_ne' e8 h2 (J 2 9 (by decide) (by decide) (by decide))
    have h3 := zhs_put_ne' e8 h3 (J 3 9 (by decide) (by decide) (by decide))
    have h4 := zhs_put_ne' e8 h4 (J 4 9 (by decide) (by decide) (by decide))
    have h5 := zhs_put_ne' e8 h5 (J 5 9 (by decide) (by decide) (by decide))
    have h6 := zhs_put_ne' e8 h6 (J 6 9 (by decide) (by decide) (by decide))
    have h7 := zhs_put_ne' e8 h7 (J 7 9 (by decide) (by decide) (by decide))
    have h11 := zhs_put_ne' e8 h11 (J 11 9 (by decide) (by decide) (by decide))
    have h9 := zhs_put_same' e8 h9
    refine g_aload_nq d_K_clear_66 rfl 1 rfl ?_
    refine g_iconst (v := 0) d_K_clear_67 rfl ?_
    refine g_put d_K_clear_68 w_K_57_K (by assumption) (by first | rfl | exact zb_nar _) (by first | rfl | exact zb_fit _ | exact zrf_fit _) (by first | exact Nat.le_of_ble_eq_true rfl | omega) ?_
    generalize e9 : zput Z8 _ _ = Z9
    have h1 := zhs_put_ne' e9 h1 (J 1 0 (by decide) (by decide) (by decide))
    have h2 := zhs_put_ne' e9 h2 (J 2 0 (by decide) (by decide) (by decide))
    have h3 := zhs_put_ne' e9 h3 (J 3 0 (by decide) (by decide) (by decide))
    have h4 := zhs_put_ne' e9 h4 (J 4 0 (by decide) (by decide) (by decide))
    have h5 := zhs_put_ne' e9 h5 (J 5 0 (by decide) (by decide) (by decide))
    have h6 := zhs_put_ne' e9 h6 (J 6 0 (by decide) (by decide) (by decide))
    have h7 := zhs_put_ne' e9 h7 (J 7 0 (by decide) (by decide) (by decide))
    have h9 := zhs_put_ne' e9 h9 (J 9 0 (by decide) (by decide) (by decide))
    have h11 := zhs_put_ne' e9 h11 (J 11 0 (by decide) (by decide) (by decide))
    have h0 := zhs_put_same' e9 h0
    refine g_aload_nq d_K_clear_71 rfl 1 rfl ?_
    refine g_iconst (v := 1) d_K_clear_72 rfl ?_
    refine g_put d_K_clear_73 w_K_61_K (by assumption) (by first | rfl | exact zb_nar _) (by first | rfl | exact zb_fit _ | exact zrf_fit _) (by first | exact Nat.le_of_ble_eq_true rfl | omega) ?_
    generalize e10 : zput Z9 _ _ = Z10
    have h1 := zhs_put_ne' e10 h1 (J 1 0 (by decide) (by decide) (by decide))
    have h2 := zhs_put_ne' e10 h2 (J 2 0 (by decide) (by decide) (by decide))
    have h3 := zhs_put_ne' e10 h3 (J 3 0 (by decide) (by decide) (by decide))
    have h4 := zhs_put_ne' e10 h4 (J 4 0 (by decide) (by decide) (by decide))
    have h5 := zhs_put_ne' e10 h5 (J 5 0 (by decide) (by decide) (by decide))
    have h6 := zhs_put_ne' e10 h6 (J 6 0 (by decide) (by decide) (by decide))
    have h7 := zhs_put_ne' e10 h7 (J 7 0 (by decide) (by decide) (by decide))
    have h9 := zhs_put_ne' e10 h9 (J 9 0 (by decide) (by decide) (by decide))
    have h11 := zhs_put_ne' e10 h11 (J 11 0 (by decide) (by decide) (by decide))
    have h0 := zhs_put_same' e10 h0
    refine g_vret d_K_clear_76 ?_
    have hR9 : Rep w ad (clrS ad S) Z10 := by
      refine hR.clear hL (fun c e c0 c1 c2 c4 c5 c6 c7 c9 c11 hz => ?_) (by rw [h8]; exact h0) h1 h2 h4 h5 h6 h7 h9 h11
      exact zhs_put_ne' e10 (zhs_put_ne' e9 (zhs_put_ne' e8 (zhs_put_ne' e7 (zhs_put_ne' e6 (zhs_put_ne' e5 (zhs_put_ne' e4 (zhs_put_ne' e3 (zhs_put_ne' e2 (zhs_put_ne' e1 hz c11) c1) c2) c4) c7) c6) c5) c9) c0) c0
    exact hQ Z10 hR9 (by rw [← e10, ← e9, ← e8, ← e7, ← e6, ← e5, ← e4, ← e3, ← e2, ← e1]; rfl)
