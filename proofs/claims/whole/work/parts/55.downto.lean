/-! RuleReader.putOutDownTo -/
def podF (x : Int32) : Nat → ST → ST
  | 0, S => S
  | n + 1, S => if stg (sI S 19 n) < stg x then S else podF x n (putO (wN S 13 n) (sI S 19 n) 0)
theorem putO_13 {S : ST} {x y : Int32} : sN (putO S x y) 13 = sN S 13 := by
  unfold putO
  split
  · exact wN_ne (by decide)
  · rfl
theorem putO_12 {S : ST} {x y : Int32} (h : sN S 12 ≤ 80) : sN (putO S x y) 12 ≤ 80 := by
  unfold putO
  split
  · rw [wN_self]; omega
  · exact h
set_option maxHeartbeats 4000000 in
set_option maxRecDepth 100000 in
theorem L_putOutDownTo {w : zC} {Q : zR → zZ → Prop} {ad : Nat → Nat} {x : Int32} (n : Nat) : ∀ S Z, sN S 13 = n → n ≤ 80 → Rep w ad S Z → ciLive S → sN S 12 ≤ 80 → (∀ Z', Rep w ad (podF x n S) Z' → Z'.2.2 = Z.2.2 → Q (.inl none) Z') → G w y_Rd_putOutDownTo c_Rd_putOutDownTo 2 r_Rd_putOutDownTo (2, 42) Q 0 [(0, .ref (ad 3)), (1, .int x)] [] Z := by
  induction n with
  | zero =>
    intro S Z hn h80 hR hL h12 hQ
    have h3 : zhs Z (ad 3) (.inr (3, [.ref (ad 17), .ref (ad 18), .ref (ad 19), .ref (ad 2), .int (nI (sN S 12)), .int (nI (sN S 13)), .int (nI (sN S 14)), .int (sI S 3 7), .int (nI (sN S 15)), .int (sI S 3 9), .int (sI S 3 10), .int (sI S 3 11)])) := hR.k 3 (by decide)
    have h19 : zhs Z (ad 19) (xi w 80 (sI S 19)) := hR.k 19 (by decide)
    rw [hn] at h3
    refine g_aload_nq d_Rd_putOutDownTo_0 rfl 0 rfl ?_
    refine g_get d_Rd_putOutDownTo_1 f_Rd_32_Rd (by assumption) (by first | rfl | assumption) ?_
    refine g_if_le (tgt := 55) d_Rd_putOutDownTo_4 (by decide) (fun h4 => ?_) (fun h4 => ?_)
    · refine g_vret d_Rd_putOutDownTo_55 ?_
      exact hQ Z hR rfl
    · exact absurd (by decide) h4
  | succ n ih =>
    intro S Z hn h80 hR hL h12 hQ
    have h3 : zhs Z (ad 3) (.inr (3, [.ref (ad 17), .ref (ad 18), .ref (ad 19), .ref (ad 2), .int (nI (sN S 12)), .int (nI (sN S 13)), .int (nI (sN S 14)), .int (sI S 3 7), .int (nI (sN S 15)), .int (sI S 3 9), .int (sI S 3 10), .int (sI S 3 11)])) := hR.k 3 (by decide)
    have h19 : zhs Z (ad 19) (xi w 80 (sI S 19)) := hR.k 19 (by decide)
    rw [hn] at h3
    refine g_aload_nq d_Rd_putOutDownTo_0 rfl 0 rfl ?_
    refine g_get d_Rd_putOutDownTo_1 f_Rd_32_Rd (by assumption) (by first | rfl | assumption) ?_
    refine g_if_le (tgt := 55) d_Rd_putOutDownTo_4 (by decide) (fun h4 => ?_) (fun h4 => ?_)
    · exact absurd h4 (Int32.not_le.mpr (nI_lt (a := 0) (b := n + 1) (by omega) (by omega)))
    · refine g_aload_nq d_Rd_putOutDownTo_7 rfl 0 rfl ?_
      refine g_get d_Rd_putOutDownTo_8 f_Rd_18_Rd (by assumption) (by first | rfl | assumption) ?_
      refine g_aload_nq d_Rd_putOutDownTo_11 rfl 0 rfl ?_
      refine g_get d_Rd_putOutDownTo_12 f_Rd_32_Rd (by assumption) (by first | rfl | assumption) ?_
      refine g_iconst (v := 1) d_Rd_putOutDownTo_15 rfl ?_
      refine g_isub d_Rd_putOutDownTo_16 ?_
      rw [nI_pred]
      refine g_iald d_Rd_putOutDownTo_17 (by assumption) (vp_in_nI (by omega) (by decide)) ?_
      rw [nI_clamp (by omega)]
      refine g_callS d_Rd_putOutDownTo_18 k_Tr_strength l_Rd_208 s_Tr_strength (by rfl) (by rfl) (Nat.le_of_ble_eq_true rfl) (by decide) (C_Tr_strength ⟨_, rfl, ?_⟩)
      refine g_iload_n d_Rd_putOutDownTo_21 rfl 1 rfl ?_
      refine g_callS d_Rd_putOutDownTo_22 k_Tr_strength l_Rd_208 s_Tr_strength (by rfl) (by rfl) (Nat.le_of_ble_eq_true rfl) (by decide) (C_Tr_strength ⟨_, rfl, ?_⟩)
      refine g_icmp_lt (tgt := 55) d_Rd_putOutDownTo_25 (by decide) (fun h25 => ?_) (fun h25 => ?_)
      · rw [podF, if_pos h25] at hQ
        refine g_vret d_Rd_putOutDownTo_55 ?_
        exact hQ Z hR rfl
      · rw [podF, if_neg h25] at hQ
        refine g_aload_nq d_Rd_putOutDownTo_28 rfl 0 rfl ?_
        refine g_dup d_Rd_putOutDownTo_29 rfl ?_
        refine g_get d_Rd_putOutDownTo_30 f_Rd_32_Rd (by assumption) (by first | rfl | assumption) ?_
        refine g_iconst (v := 1) d_Rd_putOutDownTo_33 rfl ?_
        refine g_isub d_Rd_putOutDownTo_34 ?_
        rw [nI_pred]
        refine g_put d_Rd_putOutDownTo_35 w_Rd_32_Rd (by assumption) (by first | rfl | exact zb_nar _) (by first | rfl | exact zb_fit _ | exact zrf_fit _) (by first | exact Nat.le_of_ble_eq_true rfl | omega) ?_
        have hR2 := hR.putN hL (i := 3) (n := 13) (v := n) (Or.inl (by decide)) (by omega) (fun z => by omega) (fun i hi => by rcases hi with hi | hi | hi <;> first | omega | (unfold rdK at hi; split at hi <;> first | omega | exact hi.elim)) rfl
        generalize e2 : zput _ _ _ = Z2
        have hR2 : Rep w ad (wN S 13 n) Z2 := by rw [← e2]; exact hR2
        have hL2 : ciLive (wN S 13 n) := hL.eqT ⟨fun _ _ => rfl, fun _ _ => rfl, fun _ _ => rfl, fun m hm => wN_ne (by omega)⟩
        have h3 := zhs_put_same' e2 h3
        have h19 := zhs_put_ne' e2 h19 (hR.inj (Or.inl (by decide)) (Or.inl (by decide)) (by decide))
        refine g_aload_nq d_Rd_putOutDownTo_38 rfl 0 rfl ?_
        refine g_aload_nq d_Rd_putOutDownTo_39 rfl 0 rfl ?_
        refine g_get d_Rd_putOutDownTo_40 f_Rd_18_Rd (by assumption) (by first | rfl | assumption) ?_
        refine g_aload_nq d_Rd_putOutDownTo_43 rfl 0 rfl ?_
        refine g_get d_Rd_putOutDownTo_44 f_Rd_32_Rd (by assumption) (by first | rfl | assumption) ?_
        refine g_iald d_Rd_putOutDownTo_47 (by assumption) (vp_in_nI (by omega) (by decide)) ?_
        rw [nI_clamp (by omega)]
        refine g_iconst (v := 0) d_Rd_putOutDownTo_48 rfl ?_
        refine g_callV d_Rd_putOutDownTo_49 k_Rd_putOut l_Rd_180 i_Rd_putOut rfl p_Rd_putOut h3 (by rfl) (by rfl) (Nat.le_of_ble_eq_true rfl) (by decide) (C_Rd_putOut hR2 hL2 (by rw [wN_ne (by decide)]; exact h12) (fun Z4 hR4 B4 => ⟨_, rfl, ?_⟩))
        refine g_goto (tgt := 0) d_Rd_putOutDownTo_52 (by decide) ?_
        exact ih _ Z4 (by rw [putO_13, wN_self]) (by omega) hR4 (hL2.eqT putO_eqT) (putO_12 (by rw [wN_ne (by decide)]; exact h12)) (fun Z9 r9 b9 => hQ Z9 r9 (b9.trans (B4.trans (by rw [← e2]; rfl))))

set_option maxHeartbeats 4000000 in
set_option maxRecDepth 100000 in
theorem C_Rd_putOutDownTo {w : zC} {Z : zZ} {Q : zR → zZ → Prop} {ad : Nat → Nat} {S : ST} (hR : Rep w ad S Z) {x : Int32} (hL : ciLive S) (h12 : sN S 12 ≤ 80) (h13 : sN S 13 ≤ 80) (hQ : ∀ Z', Rep w ad (podF x (sN S 13) S) Z' → Z'.2.2 = Z.2.2 → Q (.inl none) Z') : Cz w (2, 42) y_Rd_putOutDownTo (Cond.code y_Rd_putOutDownTo c_Rd_putOutDownTo 2 r_Rd_putOutDownTo :: wz) [.ref (ad 3), .int x] Z Q := by
  refine Cz.of (by decide +kernel) (by simp [lg_sl, Value.category]) ?_
  show G _ _ _ _ _ _ _ _ [(0, _), (1, _)] _ _
  exact L_putOutDownTo (sN S 13) S Z rfl h13 hR hL h12 hQ
