/-! Small writes: next, offRule, setVerdict, addEnd, Arrays.fill -/
def offF (f : Nat → Int32) (x : Int32) : Nat → Nat → Nat → Int32
  | 0, _, _ => -1
  | n + 1, i, c => if f i = 0 then offF f x n (i + 1) c else if nI c = x then nI i else offF f x n (i + 1) (c + 1)
def fillF (f : Nat → Int32) (x : Int32) : Nat → Nat → Nat → Int32
  | 0, _ => f
  | n + 1, i => fillF (upd f i x) x n (i + 1)
def endF (S : ST) (n : Nat) (x y : Int64) : Int32 := if (¬ x - x / 100 * 100 = 0 ∨ ¬ y - y / 100 * 100 = 0) then 1 else sI S (220 + 2 * n) 5
set_option maxHeartbeats 4000000 in
set_option maxRecDepth 100000 in
theorem C_K_next {w : zC} {Z : zZ} {Q : zR → zZ → Prop} {ad : Nat → Nat} {S : ST} (hR : Rep w ad S Z) (hQ : ∀ Z', Rep w ad (wI S 0 (va_up (sI S 0) 11 (sI S 0 11 + 1))) Z' → Z'.2.2 = Z.2.2 → Q (.inl (some (.int (sI S 0 11 + 1)))) Z') : Cz w (0, 0) y_K_next (Cond.code y_K_next c_K_next 1 r_K_next :: wz) [.ref (ad 0)] Z Q := by
  refine Cz.of (by decide +kernel) (by simp [lg_sl, Value.category]) ?_
  show G _ _ _ _ _ _ _ _ [(0, _)] _ _
  have h0 : zhs Z (ad 0) (.inr (0, [.ref (ad 1), .ref (ad 3), .ref (ad 8), .ref (ad 9), .ref (ad 4), .ref (ad 5), .ref (ad 10), .ref (ad (5 + sN S 8)), .ref (ad (8 - sN S 8)), .int (nI (sN S 3)), .int (sI S 0 11)])) := hR.k 0 (by decide)
  refine g_aload_nq d_K_next_0 rfl 0 rfl ?_
  refine g_dup d_K_next_1 rfl ?_
  refine g_get d_K_next_2 f_K_61_K (by assumption) (by first | rfl | assumption) ?_
  refine g_iconst (v := 1) d_K_next_5 rfl ?_
  refine g_iadd d_K_next_6 ?_
  refine g_put d_K_next_7 w_K_61_K (by assumption) (by first | rfl | exact zb_nar _) (by first | rfl | exact zb_fit _ | exact zrf_fit _) (by first | exact Nat.le_of_ble_eq_true rfl | omega) ?_
  generalize hz : zput _ _ _ = Z1
  have h0 := zhs_put_same' hz h0
  simp only [List.set] at h0
  refine g_aload_nq d_K_next_10 rfl 0 rfl ?_
  refine g_get d_K_next_11 f_K_61_K (by assumption) (by first | rfl | assumption) ?_
  refine g_iret d_K_next_14 ?_
  have hR1 : Rep w ad (wI S 0 (va_up (sI S 0) 11 (sI S 0 11 + 1))) Z1 := by
    rw [← hz]
    exact hR.putI (Or.inl (by decide)) (by rw [cell_K (by decide)]; rfl)
  exact hQ Z1 hR1 (by rw [← hz]; rfl)

set_option maxHeartbeats 4000000 in
set_option maxRecDepth 100000 in
theorem L_K_offRule {w : zC} {Z : zZ} {Q : zR → zZ → Prop} {ad : Nat → Nat} {S : ST} (hR : Rep w ad S Z) {x : Int32} (n : Nat) : ∀ i c, i + n = 27 → Q (.inl (some (.int (offF (sI S 9) x n i c)))) Z → G w y_K_offRule c_K_offRule 4 r_K_offRule (0, 0) Q 4 [(3, .int (nI i)), (2, .int (nI c)), (0, .ref (ad 0)), (1, .int x)] [] Z := by
  have h0 : zhs Z (ad 0) (.inr (0, [.ref (ad 1), .ref (ad 3), .ref (ad 8), .ref (ad 9), .ref (ad 4), .ref (ad 5), .ref (ad 10), .ref (ad (5 + sN S 8)), .ref (ad (8 - sN S 8)), .int (nI (sN S 3)), .int (sI S 0 11)])) := hR.k 0 (by decide)
  have h9 : zhs Z (ad 9) (xz w 27 (sI S 9)) := hR.k 9 (by decide)
  induction n with
  | zero =>
    intro i c hi hQ
    refine g_iload_n d_K_offRule_4 rfl 0 rfl ?_
    refine g_aload_nq d_K_offRule_5 rfl 2 rfl ?_
    refine g_get d_K_offRule_6 f_K_29_K (by assumption) (by first | rfl | assumption) ?_
    refine g_alen d_K_offRule_9 2 (by assumption) rfl ?_
    refine g_icmp_ge (tgt := 38) d_K_offRule_10 (by decide) (fun h10 => ?_) (fun h10 => ?_)
    · refine g_iconst (v := (-1)) d_K_offRule_38 rfl ?_
      refine g_iret d_K_offRule_39 ?_
      exact hQ
    · exact absurd (nI_le (by omega) (by omega)) h10
  | succ n ih =>
    intro i c hi hQ
    refine g_iload_n d_K_offRule_4 rfl 0 rfl ?_
    refine g_aload_nq d_K_offRule_5 rfl 2 rfl ?_
    refine g_get d_K_offRule_6 f_K_29_K (by assumption) (by first | rfl | assumption) ?_
    refine g_alen d_K_offRule_9 2 (by assumption) rfl ?_
    refine g_icmp_ge (tgt := 38) d_K_offRule_10 (by decide) (fun h10 => ?_) (fun h10 => ?_)
    · exact absurd h10 (nI_ge (by omega) (by decide))
    · refine g_aload_nq d_K_offRule_13 rfl 2 rfl ?_
      refine g_get d_K_offRule_14 f_K_29_K (by assumption) (by first | rfl | assumption) ?_
      refine g_iload_n d_K_offRule_17 rfl 0 rfl ?_
      refine g_zald d_K_offRule_18 (by assumption) (vp_in_nI (by omega) (by decide)) ?_
      rw [nI_clamp (by omega)]
      first | refine g_if_eqB (tgt := 32) d_K_offRule_19 (by decide) (fun h19 => ?_) (fun h19 => ?_) | refine g_if_eq (tgt := 32) d_K_offRule_19 (by decide) (fun h19 => ?_) (fun h19 => ?_)
      · rw [offF, if_pos h19] at hQ
        refine g_iinc (k := 0) d_K_offRule_32 rfl (nI_1 i) (by decide) rfl ?_
        refine g_goto (tgt := 4) d_K_offRule_35 (by decide) ?_
        exact ih (i + 1) c (by omega) hQ
      · rw [offF, if_neg h19] at hQ
        refine g_iload_n d_K_offRule_22 rfl 1 rfl ?_
        refine g_iload_n d_K_offRule_23 rfl 3 rfl ?_
        refine g_icmp_ne (tgt := 29) d_K_offRule_24 (by decide) (fun h24 => ?_) (fun h24 => ?_)
        · rw [if_neg h24] at hQ
          refine g_iinc (k := 1) d_K_offRule_29 rfl (nI_1 c) (by decide) rfl ?_
          refine g_iinc (k := 1) d_K_offRule_32 rfl (nI_1 i) (by decide) rfl ?_
          refine g_goto (tgt := 4) d_K_offRule_35 (by decide) ?_
          exact ih (i + 1) (c + 1) (by omega) hQ
        · rw [if_pos h24] at hQ
          refine g_iload_n d_K_offRule_27 rfl 0 rfl ?_
          refine g_iret d_K_offRule_28 ?_
          exact hQ

set_option maxHeartbeats 4000000 in
set_option maxRecDepth 100000 in
theorem C_K_offRule {w : zC} {Z : zZ} {Q : zR → zZ → Prop} {ad : Nat → Nat} {S : ST} (hR : Rep w ad S Z) {x : Int32} (hQ : Q (.inl (some (.int (offF (sI S 9) x 27 0 0)))) Z) : Cz w (0, 0) y_K_offRule (Cond.code y_K_offRule c_K_offRule 4 r_K_offRule :: wz) [.ref (ad 0), .int x] Z Q := by
  refine Cz.of (by decide +kernel) (by simp [lg_sl, Value.category]) ?_
  show G _ _ _ _ _ _ _ _ [(0, _), (1, _)] _ _
  refine g_iconst (v := 0) d_K_offRule_0 rfl ?_
  refine g_istore_n d_K_offRule_1 rfl (by decide) rfl ?_
  show G _ _ _ _ _ _ _ _ [(2, _), (0, _), (1, _)] _ _
  refine g_iconst (v := 0) d_K_offRule_2 rfl ?_
  refine g_istore_n d_K_offRule_3 rfl (by decide) rfl ?_
  show G _ _ _ _ _ _ _ _ [(3, _), (2, _), (0, _), (1, _)] _ _
  exact L_K_offRule hR 27 0 0 (by omega) hQ

set_option maxHeartbeats 4000000 in
set_option maxRecDepth 100000 in
theorem L_jA_fill {w : zC} {Q : zR → zZ → Prop} {a n : Nat} {x : Int32} (hn : n < 2 ^ 31) (m : Nat) : ∀ i f Z, i + m = n → zhs Z a (.inl (w.2.2.2.1 0, n, .inl f)) → Q (.inl none) (zput Z a (.inl (w.2.2.2.1 0, n, .inl (fillF f x m i)))) → G w y_jA_fill c_jA_fill 4 r_jA_fill (0, 0) Q 5 [(2, .int (nI i)), (3, .int (nI n)), (0, .ref a), (1, .int x)] [] Z := by
  induction m with
  | zero =>
    intro i f Z hi h0 hQ
    refine g_iload_n d_jA_fill_5 rfl 0 rfl ?_
    refine g_iload_n d_jA_fill_6 rfl 1 rfl ?_
    refine g_icmp_ge (tgt := 20) d_jA_fill_7 (by decide) (fun h7 => ?_) (fun h7 => ?_)
    · refine g_vret d_jA_fill_20 ?_
      rw [fillF, zput_self h0] at hQ; exact hQ
    · exact absurd (nI_le (by omega) (by omega)) h7
  | succ m ih =>
    intro i f Z hi h0 hQ
    refine g_iload_n d_jA_fill_5 rfl 0 rfl ?_
    refine g_iload_n d_jA_fill_6 rfl 1 rfl ?_
    refine g_icmp_ge (tgt := 20) d_jA_fill_7 (by decide) (fun h7 => ?_) (fun h7 => ?_)
    · exact absurd h7 (nI_ge (by omega) (by omega))
    · refine g_aload_nq d_jA_fill_10 rfl 2 rfl ?_
      refine g_iload_n d_jA_fill_11 rfl 0 rfl ?_
      refine g_iload_n d_jA_fill_12 rfl 3 rfl ?_
      refine g_iast d_jA_fill_13 (by assumption) (vp_in_nI (by omega) (by omega)) ?_
      rw [nI_clamp (by omega)]
      refine g_iinc (k := 0) d_jA_fill_14 rfl (nI_1 i) (by decide) rfl ?_
      refine g_goto (tgt := 5) d_jA_fill_17 (by decide) ?_
      exact ih (i + 1) _ _ (by omega) (zhs_put_same h0) (by rw [zput_put]; exact hQ)

set_option maxHeartbeats 4000000 in
set_option maxRecDepth 100000 in
theorem C_jA_fill {w : zC} {Z : zZ} {Q : zR → zZ → Prop} {a n : Nat} {f : Nat → Int32} {x : Int32} (hn : n < 2 ^ 31) (h0 : zhs Z a (.inl (w.2.2.2.1 0, n, .inl f))) (hQ : Q (.inl none) (zput Z a (.inl (w.2.2.2.1 0, n, .inl (fillF f x n 0))))) : Cz w (0, 0) y_jA_fill (Cond.code y_jA_fill c_jA_fill 4 r_jA_fill :: wz) [.ref a, .int x] Z Q := by
  refine Cz.ofF (by decide +kernel) (by simp [lg_sl, Value.category]) ?_
  show G _ _ _ _ _ _ _ _ [(0, _), (1, _)] _ _
  refine g_iconst (v := 0) d_jA_fill_0 rfl ?_
  refine g_istore_n d_jA_fill_1 rfl (by decide) rfl ?_
  show G _ _ _ _ _ _ _ _ [(2, _), (0, _), (1, _)] _ _
  refine g_aload_nq d_jA_fill_2 rfl 1 rfl ?_
  refine g_alen d_jA_fill_3 0 (by assumption) rfl ?_
  refine g_istore_n d_jA_fill_4 rfl (by decide) rfl ?_
  show G _ _ _ _ _ _ _ _ [(3, _), (2, _), (0, _), (1, _)] _ _
  refine g_sub [1, 0, 2, 3] rfl (L_jA_fill hn n 0 f Z (by omega) h0 hQ)

set_option maxHeartbeats 4000000 in
set_option maxRecDepth 100000 in
theorem C_Sc_addEnd {w : zC} {Z : zZ} {Q : zR → zZ → Prop} {ad : Nat → Nat} {S : ST} (hR : Rep w ad S Z) {n : Nat} {x y : Int64} (hk : n < sN S 1) (hL : ciLive S) (h100 : sN S 7 ≤ 100) (hQ : if sN S 7 < 100 then (∀ Z', Rep w ad (wN (wI S (220 + 2 * n) (va_up (sI S (220 + 2 * n)) 5 (endF S n x y))) 7 (sN S 7 + 1)) Z' → Z'.2.2 = Z.2.2 → Q (.inl (some (.int 1))) Z') else Q (.inl (some (.int 0))) Z) : Cz w (1, 30) y_Sc_addEnd (Cond.code y_Sc_addEnd c_Sc_addEnd 6 r_Sc_addEnd :: wz) [.ref (ad 1), .ref (ad (220 + 2 * n)), .long x, .long y] Z Q := by
  refine Cz.of (by decide +kernel) (by simp [lg_sl, Value.category]) ?_
  show G _ _ _ _ _ _ _ _ [(0, _), (1, _), (2, _), (4, _)] _ _
  have n0 := hR.1.1
  have n1 := hR.1.2.1
  have n2 := hR.1.2.2.1
  have h1 : zhs Z (ad 1) (.inr (1, [.ref (ad 11), .ref (ad 12), .ref (ad 13), .ref (ad 14), .ref (ad 15), .int (nI (sN S 0)), .int (nI (sN S 1)), .int (nI (sN S 2)), .int (nI (sN S 7))])) := hR.k 1 (by decide)
  have hn : zhs Z (ad (220 + 2 * n)) (.inr (7, [.int (sI S (220 + 2 * n) 0), .int ((sI S (220 + 2 * n) 0 * 3 + 1) * 160 + nI n), .ref (ad (221 + 2 * n)), .int (sI S (220 + 2 * n) 3), .int (sI S (220 + 2 * n) 4), .int (sI S (220 + 2 * n) 5)])) := (hR.net hk).1
  refine g_aload_nq d_Sc_addEnd_0 rfl 1 rfl ?_
  refine g_ifnull d_Sc_addEnd_1 ?_
  refine g_aload_nq d_Sc_addEnd_4 rfl 0 rfl ?_
  refine g_get d_Sc_addEnd_5 f_Sc_49_Sc (by assumption) (by first | rfl | assumption) ?_
  refine g_bipush (v := 100) d_Sc_addEnd_8 rfl ?_
  refine g_icmp_lt (tgt := 15) d_Sc_addEnd_10 (by decide) (fun h10 => ?_) (fun h10 => ?_)
  · have hlt : sN S 7 < 100 := (nI_ltI (by omega) (by decide)).mp h10
    rw [if_pos hlt] at hQ
    refine g_aload_nq d_Sc_addEnd_15 rfl 1 rfl ?_
    refine g_lload_n d_Sc_addEnd_16 rfl 2 rfl ?_
    refine g_lload d_Sc_addEnd_17 3 rfl ?_
    refine g_callV d_Sc_addEnd_19 k_Ne_noteEnd l_Sc_92 i_Ne_noteEnd rfl q_Ne_Ne_noteEnd_Ne hn (by rfl) (by rfl) (Nat.le_of_ble_eq_true rfl) (by decide) (C_Ne_noteEnd hn ⟨_, rfl, ?_⟩)
    have hR1 : Rep w ad (wI S (220 + 2 * n) (va_up (sI S (220 + 2 * n)) 5 (endF S n x y))) (zput Z (ad (220 + 2 * n)) (.inr (7, [.int (sI S (220 + 2 * n) 0), .int ((sI S (220 + 2 * n) 0 * 3 + 1) * 160 + nI n), .ref (ad (221 + 2 * n)), .int (sI S (220 + 2 * n) 3), .int (sI S (220 + 2 * n) 4), .int (endF S n x y)]))) := hR.putI (by simp only [liveS]; omega) (by rw [cell_net (by omega)]; simp only [pNet, sI, wI, va_up_self]; rfl)
    generalize hz1 : zput _ _ _ = Z1
    have h1 := zhs_put_ne' hz1 h1 (hR.inj (Or.inl (by decide)) (by simp only [liveS]; omega) (by omega))
    have hR1 : Rep w ad (wI S (220 + 2 * n) (va_up (sI S (220 + 2 * n)) 5 (endF S n x y))) Z1 := by rw [← hz1]; exact hR1
    refine g_aload_nq d_Sc_addEnd_22 rfl 0 rfl ?_
    refine g_dup d_Sc_addEnd_23 rfl ?_
    refine g_get d_Sc_addEnd_24 f_Sc_49_Sc (by assumption) (by first | rfl | assumption) ?_
    refine g_iconst (v := 1) d_Sc_addEnd_27 rfl ?_
    refine g_iadd d_Sc_addEnd_28 ?_
    refine g_put d_Sc_addEnd_29 w_Sc_49_Sc (by assumption) (by first | rfl | exact zb_nar _) (by first | rfl | exact zb_fit _ | exact zrf_fit _) (by first | exact Nat.le_of_ble_eq_true rfl | omega) ?_
    rw [show (1 : Int32) = nI 1 from rfl, nI_add]
    generalize hz2 : zput _ _ _ = Z2
    have hR2 := hR1.putN hL (i := 1) (n := 7) (v := sN S 7 + 1) (Or.inl (by decide)) (by omega) (fun z => by omega) (fun i hi => by rcases hi with hi | hi | hi <;> first | omega | (unfold rdK at hi; split at hi <;> first | omega | exact hi.elim)) rfl
    have hR2 : Rep w ad (wN (wI S (220 + 2 * n) (va_up (sI S (220 + 2 * n)) 5 (endF S n x y))) 7 (sN S 7 + 1)) Z2 := by rw [← hz2]; exact hR2
    refine g_iconst (v := 1) d_Sc_addEnd_32 rfl ?_
    refine g_zret d_Sc_addEnd_33 ?_ ?_
    · first | rfl | exact zb_nar _ | exact zb_narc (by assumption)
    · exact hQ Z2 hR2 (by rw [← hz2, ← hz1]; rfl)
  · have hge : ¬ sN S 7 < 100 := fun z => h10 (nI_lt z (by decide))
    rw [if_neg hge] at hQ
    refine g_iconst (v := 0) d_Sc_addEnd_13 rfl ?_
    refine g_zret d_Sc_addEnd_14 ?_ ?_
    · first | rfl | exact zb_nar _ | exact zb_narc (by assumption)
    · exact hQ
