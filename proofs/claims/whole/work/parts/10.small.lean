set_option maxHeartbeats 4000000 in
set_option maxRecDepth 100000 in
theorem C_K_isBelow {w : zC} {Z : zZ} {Q : zR → zZ → Prop} {a b : Int32} (hQ : Q (.inl (some (.int (zb (¬ a < 0 ∧ ¬ b ≤ a))))) Z) : Cz w (0, 0) y_K_isBelow (Cond.code y_K_isBelow c_K_isBelow 2 r_K_isBelow :: wz) [.int a, .int b] Z Q := by
  refine Cz.of (by decide +kernel) (by simp [lg_sl, Value.category]) ?_
  show G _ _ _ _ _ _ _ _ [(0, _), (1, _)] _ _
  refine g_iload_n d_K_isBelow_0 rfl 0 rfl ?_
  refine g_if_lt (tgt := 13) d_K_isBelow_1 (by decide) (fun h1 => ?_) (fun h1 => ?_)
  · refine g_iconst (v := 0) d_K_isBelow_13 rfl ?_
    refine g_zret d_K_isBelow_14 ?_ ?_
    · first | rfl | exact zb_nar _ | exact zb_narc (by assumption)
    · simpa [zb, *] using hQ
  · refine g_iload_n d_K_isBelow_4 rfl 0 rfl ?_
    refine g_iload_n d_K_isBelow_5 rfl 1 rfl ?_
    refine g_icmp_ge (tgt := 13) d_K_isBelow_6 (by decide) (fun h6 => ?_) (fun h6 => ?_)
    · refine g_iconst (v := 0) d_K_isBelow_13 rfl ?_
      refine g_zret d_K_isBelow_14 ?_ ?_
      · first | rfl | exact zb_nar _ | exact zb_narc (by assumption)
      · simpa [zb, *] using hQ
    · refine g_iconst (v := 1) d_K_isBelow_9 rfl ?_
      refine g_goto (tgt := 14) d_K_isBelow_10 (by decide) ?_
      refine g_zret d_K_isBelow_14 ?_ ?_
      · first | rfl | exact zb_nar _ | exact zb_narc (by assumption)
      · simpa [zb, *] using hQ

set_option maxHeartbeats 4000000 in
set_option maxRecDepth 100000 in
theorem C_Rm_keyOf {w : zC} {Z : zZ} {Q : zR → zZ → Prop} {a k v f c N : Nat} {kf : Nat → Int32} (h0 : zhs Z a (.inr (5, [.ref k, .ref v, .ref f, .int (nI c)]))) (h1 : zhs Z k (.inl (w.2.2.2.1 0, N, .inl kf))) (hc : c ≤ N) (hN : N < 2 ^ 31) {i : Int32} (hQ : Q (.inl (some (.int (if ¬ i < 0 ∧ ¬ nI c ≤ i then kf i.toNatClampNeg else -1)))) Z) : Cz w (1, 21) y_Rm_keyOf (Cond.code y_Rm_keyOf c_Rm_keyOf 2 r_Rm_keyOf :: wz) [.ref a, .int i] Z Q := by
  refine Cz.of (by decide +kernel) (by simp [lg_sl, Value.category]) ?_
  show G _ _ _ _ _ _ _ _ [(0, _), (1, _)] _ _
  refine g_iload_n d_Rm_keyOf_0 rfl 1 rfl ?_
  refine g_aload_nq d_Rm_keyOf_1 rfl 0 rfl ?_
  refine g_get d_Rm_keyOf_2 f_Rm_21_Rm (by assumption) (by rfl) ?_
  refine g_callSN d_Rm_keyOf_5 k_K_isBelow l_Rm_40 s_K_isBelow (by rfl) (by rfl) (Nat.le_of_ble_eq_true rfl) (by decide) (C_K_isBelow ⟨_, rfl, ?_⟩)
  first | refine g_if_eqB (tgt := 29) d_Rm_keyOf_8 (by decide) (fun h8 => ?_) (fun h8 => ?_) | refine g_if_eq (tgt := 29) d_Rm_keyOf_8 (by decide) (fun h8 => ?_) (fun h8 => ?_)
  · refine g_iconst (v := (-1)) d_Rm_keyOf_29 rfl ?_
    refine g_iret d_Rm_keyOf_30 ?_
    first | (rw [if_pos h8] at hQ; exact hQ) | (rw [if_neg h8] at hQ; exact hQ) | exact absurd h17 (vin_le h8.2 hc hN)
  · refine g_iload_n d_Rm_keyOf_11 rfl 1 rfl ?_
    refine g_aload_nq d_Rm_keyOf_12 rfl 0 rfl ?_
    refine g_get d_Rm_keyOf_13 f_Rm_11_Rm (by assumption) (by rfl) ?_
    refine g_alen d_Rm_keyOf_16 0 (by assumption) rfl ?_
    refine g_icmp_ge (tgt := 29) d_Rm_keyOf_17 (by decide) (fun h17 => ?_) (fun h17 => ?_)
    · refine g_iconst (v := (-1)) d_Rm_keyOf_29 rfl ?_
      refine g_iret d_Rm_keyOf_30 ?_
      first | (rw [if_pos h8] at hQ; exact hQ) | (rw [if_neg h8] at hQ; exact hQ) | exact absurd h17 (vin_le h8.2 hc hN)
    · refine g_aload_nq d_Rm_keyOf_20 rfl 0 rfl ?_
      refine g_get d_Rm_keyOf_21 f_Rm_11_Rm (by assumption) (by rfl) ?_
      refine g_iload_n d_Rm_keyOf_24 rfl 1 rfl ?_
      refine g_iald d_Rm_keyOf_25 (by assumption) (vin_of h8.1 h17 hN) ?_
      refine g_goto (tgt := 30) d_Rm_keyOf_26 (by decide) ?_
      refine g_iret d_Rm_keyOf_30 ?_
      first | (rw [if_pos h8] at hQ; exact hQ) | (rw [if_neg h8] at hQ; exact hQ) | exact absurd h17 (vin_le h8.2 hc hN)

set_option maxHeartbeats 4000000 in
set_option maxRecDepth 100000 in
theorem C_Rm_weightOf {w : zC} {Z : zZ} {Q : zR → zZ → Prop} {a k v f c N : Nat} {kf : Nat → Int32} (h0 : zhs Z a (.inr (5, [.ref k, .ref v, .ref f, .int (nI c)]))) (h1 : zhs Z v (.inl (w.2.2.2.1 0, N, .inl kf))) (hc : c ≤ N) (hN : N < 2 ^ 31) {i : Int32} (hQ : Q (.inl (some (.int (if ¬ i < 0 ∧ ¬ nI c ≤ i then kf i.toNatClampNeg else -1)))) Z) : Cz w (1, 21) y_Rm_weightOf (Cond.code y_Rm_weightOf c_Rm_weightOf 2 r_Rm_weightOf :: wz) [.ref a, .int i] Z Q := by
  refine Cz.of (by decide +kernel) (by simp [lg_sl, Value.category]) ?_
  show G _ _ _ _ _ _ _ _ [(0, _), (1, _)] _ _
  refine g_iload_n d_Rm_weightOf_0 rfl 1 rfl ?_
  refine g_aload_nq d_Rm_weightOf_1 rfl 0 rfl ?_
  refine g_get d_Rm_weightOf_2 f_Rm_21_Rm (by assumption) (by rfl) ?_
  refine g_callSN d_Rm_weightOf_5 k_K_isBelow l_Rm_40 s_K_isBelow (by rfl) (by rfl) (Nat.le_of_ble_eq_true rfl) (by decide) (C_K_isBelow ⟨_, rfl, ?_⟩)
  first | refine g_if_eqB (tgt := 29) d_Rm_weightOf_8 (by decide) (fun h8 => ?_) (fun h8 => ?_) | refine g_if_eq (tgt := 29) d_Rm_weightOf_8 (by decide) (fun h8 => ?_) (fun h8 => ?_)
  · refine g_iconst (v := (-1)) d_Rm_weightOf_29 rfl ?_
    refine g_iret d_Rm_weightOf_30 ?_
    first | (rw [if_pos h8] at hQ; exact hQ) | (rw [if_neg h8] at hQ; exact hQ) | exact absurd h17 (vin_le h8.2 hc hN)
  · refine g_iload_n d_Rm_weightOf_11 rfl 1 rfl ?_
    refine g_aload_nq d_Rm_weightOf_12 rfl 0 rfl ?_
    refine g_get d_Rm_weightOf_13 f_Rm_15_Rm (by assumption) (by rfl) ?_
    refine g_alen d_Rm_weightOf_16 0 (by assumption) rfl ?_
    refine g_icmp_ge (tgt := 29) d_Rm_weightOf_17 (by decide) (fun h17 => ?_) (fun h17 => ?_)
    · refine g_iconst (v := (-1)) d_Rm_weightOf_29 rfl ?_
      refine g_iret d_Rm_weightOf_30 ?_
      first | (rw [if_pos h8] at hQ; exact hQ) | (rw [if_neg h8] at hQ; exact hQ) | exact absurd h17 (vin_le h8.2 hc hN)
    · refine g_aload_nq d_Rm_weightOf_20 rfl 0 rfl ?_
      refine g_get d_Rm_weightOf_21 f_Rm_15_Rm (by assumption) (by rfl) ?_
      refine g_iload_n d_Rm_weightOf_24 rfl 1 rfl ?_
      refine g_iald d_Rm_weightOf_25 (by assumption) (vin_of h8.1 h17 hN) ?_
      refine g_goto (tgt := 30) d_Rm_weightOf_26 (by decide) ?_
      refine g_iret d_Rm_weightOf_30 ?_
      first | (rw [if_pos h8] at hQ; exact hQ) | (rw [if_neg h8] at hQ; exact hQ) | exact absurd h17 (vin_le h8.2 hc hN)

set_option maxHeartbeats 4000000 in
set_option maxRecDepth 100000 in
theorem C_Rm_firstOf {w : zC} {Z : zZ} {Q : zR → zZ → Prop} {a k v f c N : Nat} {kf : Nat → Int32} (h0 : zhs Z a (.inr (5, [.ref k, .ref v, .ref f, .int (nI c)]))) (h1 : zhs Z f (.inl (w.2.2.2.1 0, N, .inl kf))) (hc : c ≤ N) (hN : N < 2 ^ 31) {i : Int32} (hQ : Q (.inl (some (.int (if ¬ i < 0 ∧ ¬ nI c ≤ i then kf i.toNatClampNeg else -1)))) Z) : Cz w (1, 21) y_Rm_firstOf (Cond.code y_Rm_firstOf c_Rm_firstOf 2 r_Rm_firstOf :: wz) [.ref a, .int i] Z Q := by
  refine Cz.of (by decide +kernel) (by simp [lg_sl, Value.category]) ?_
  show G _ _ _ _ _ _ _ _ [(0, _), (1, _)] _ _
  refine g_iload_n d_Rm_firstOf_0 rfl 1 rfl ?_
  refine g_aload_nq d_Rm_firstOf_1 rfl 0 rfl ?_
  refine g_get d_Rm_firstOf_2 f_Rm_21_Rm (by assumption) (by rfl) ?_
  refine g_callSN d_Rm_firstOf_5 k_K_isBelow l_Rm_40 s_K_isBelow (by rfl) (by rfl) (Nat.le_of_ble_eq_true rfl) (by decide) (C_K_isBelow ⟨_, rfl, ?_⟩)
  first | refine g_if_eqB (tgt := 29) d_Rm_firstOf_8 (by decide) (fun h8 => ?_) (fun h8 => ?_) | refine g_if_eq (tgt := 29) d_Rm_firstOf_8 (by decide) (fun h8 => ?_) (fun h8 => ?_)
  · refine g_iconst (v := (-1)) d_Rm_firstOf_29 rfl ?_
    refine g_iret d_Rm_firstOf_30 ?_
    first | (rw [if_pos h8] at hQ; exact hQ) | (rw [if_neg h8] at hQ; exact hQ) | exact absurd h17 (vin_le h8.2 hc hN)
  · refine g_iload_n d_Rm_firstOf_11 rfl 1 rfl ?_
    refine g_aload_nq d_Rm_firstOf_12 rfl 0 rfl ?_
    refine g_get d_Rm_firstOf_13 f_Rm_18_Rm (by assumption) (by rfl) ?_
    refine g_alen d_Rm_firstOf_16 0 (by assumption) rfl ?_
    refine g_icmp_ge (tgt := 29) d_Rm_firstOf_17 (by decide) (fun h17 => ?_) (fun h17 => ?_)
    · refine g_iconst (v := (-1)) d_Rm_firstOf_29 rfl ?_
      refine g_iret d_Rm_firstOf_30 ?_
      first | (rw [if_pos h8] at hQ; exact hQ) | (rw [if_neg h8] at hQ; exact hQ) | exact absurd h17 (vin_le h8.2 hc hN)
    · refine g_aload_nq d_Rm_firstOf_20 rfl 0 rfl ?_
      refine g_get d_Rm_firstOf_21 f_Rm_18_Rm (by assumption) (by rfl) ?_
      refine g_iload_n d_Rm_firstOf_24 rfl 1 rfl ?_
      refine g_iald d_Rm_firstOf_25 (by assumption) (vin_of h8.1 h17 hN) ?_
      refine g_goto (tgt := 30) d_Rm_firstOf_26 (by decide) ?_
      refine g_iret d_Rm_firstOf_30 ?_
      first | (rw [if_pos h8] at hQ; exact hQ) | (rw [if_neg h8] at hQ; exact hQ) | exact absurd h17 (vin_le h8.2 hc hN)
