/-! RuleText.toNextWord -/
def skS (f : Nat → Int32) : Nat → Nat → Nat
  | 0, i => i
  | n + 1, i => if f i = 32 then skS f n (i + 1) else i
def skW (f : Nat → Int32) : Nat → Nat → Nat
  | 0, i => i
  | n + 1, i => if f i = 32 then i else skW f n (i + 1)
theorem skS_le {f : Nat → Int32} : ∀ {n i : Nat}, i ≤ skS f n i ∧ skS f n i ≤ i + n
  | 0, i => ⟨Nat.le_refl _, Nat.le_refl _⟩
  | n + 1, i => by
    unfold skS
    split
    · have := skS_le (f := f) (n := n) (i := i + 1); omega
    · omega
theorem skW_le {f : Nat → Int32} : ∀ {n i : Nat}, i ≤ skW f n i ∧ skW f n i ≤ i + n
  | 0, i => ⟨Nat.le_refl _, Nat.le_refl _⟩
  | n + 1, i => by
    unfold skW
    split
    · omega
    · have := skW_le (f := f) (n := n) (i := i + 1); omega
set_option maxHeartbeats 4000000 in
set_option maxRecDepth 100000 in
theorem L_tnw1 {w : zC} {Q : zR → zZ → Prop} {a q L e : Nat} {f : Nat → Int32} (hL : L ≤ 160) (n : Nat) : ∀ i Z, i + n = L → zhs Z a (.inr (2, [.ref q, .int (nI L), .int (nI i), .int (nI e)])) → zhs Z q (xc w 160 f) → G w y_Tx_toNextWord c_Tx_toNextWord 1 r_Tx_toNextWord (1, 21) Q 46 [(0, .ref a)] [] (zput Z a (.inr (2, [.ref q, .int (nI L), .int (nI (skS f n i)), .int (nI e)]))) → G w y_Tx_toNextWord c_Tx_toNextWord 1 r_Tx_toNextWord (1, 21) Q 8 [(0, .ref a)] [] Z := by
  induction n with
  | zero =>
    intro i Z hi h0 h1 hk
    refine g_aload_nq d_Tx_toNextWord_8 rfl 0 rfl ?_
    refine g_aload_nq d_Tx_toNextWord_9 rfl 0 rfl ?_
    refine g_get d_Tx_toNextWord_10 f_Tx_19_Tx (by assumption) (by first | rfl | assumption) ?_
    refine g_callV d_Tx_toNextWord_13 k_Tx_isInside l_Tx_25 i_Tx_isInside rfl p_Tx_isInside h0 (by rfl) (by rfl) (Nat.le_of_ble_eq_true rfl) (by decide) (C_Tx_isInside h0 h1 hL ⟨_, rfl, ?_⟩)
    first | refine g_if_eqB (tgt := 46) d_Tx_toNextWord_16 (by decide) (fun h16 => ?_) (fun h16 => ?_) | refine g_if_eq (tgt := 46) d_Tx_toNextWord_16 (by decide) (fun h16 => ?_) (fun h16 => ?_)
    · rw [skS, zput_self h0] at hk
      exact hk
    · exact absurd (nI_le (by omega) (by omega)) h16.2
  | succ n ih =>
    intro i Z hi h0 h1 hk
    have hqa : q ≠ a := zhs_ne h1 h0 (by simp)
    refine g_aload_nq d_Tx_toNextWord_8 rfl 0 rfl ?_
    refine g_aload_nq d_Tx_toNextWord_9 rfl 0 rfl ?_
    refine g_get d_Tx_toNextWord_10 f_Tx_19_Tx (by assumption) (by first | rfl | assumption) ?_
    refine g_callV d_Tx_toNextWord_13 k_Tx_isInside l_Tx_25 i_Tx_isInside rfl p_Tx_isInside h0 (by rfl) (by rfl) (Nat.le_of_ble_eq_true rfl) (by decide) (C_Tx_isInside h0 h1 hL ⟨_, rfl, ?_⟩)
    first | refine g_if_eqB (tgt := 46) d_Tx_toNextWord_16 (by decide) (fun h16 => ?_) (fun h16 => ?_) | refine g_if_eq (tgt := 46) d_Tx_toNextWord_16 (by decide) (fun h16 => ?_) (fun h16 => ?_)
    · exact absurd (inr_nI (by omega) (by omega)) h16
    · refine g_aload_nq d_Tx_toNextWord_19 rfl 0 rfl ?_
      refine g_get d_Tx_toNextWord_20 f_Tx_9_Tx (by assumption) (by first | rfl | assumption) ?_
      refine g_aload_nq d_Tx_toNextWord_23 rfl 0 rfl ?_
      refine g_get d_Tx_toNextWord_24 f_Tx_19_Tx (by assumption) (by first | rfl | assumption) ?_
      refine g_cald d_Tx_toNextWord_27 (by assumption) (vp_in_nI (by omega) (by decide)) ?_
      rw [nI_clamp (by omega)]
      refine g_bipush (v := 32) d_Tx_toNextWord_28 rfl ?_
      refine g_icmp_ne (tgt := 46) d_Tx_toNextWord_30 (by decide) (fun h30 => ?_) (fun h30 => ?_)
      · rw [skS, if_neg h30] at hk
        rw [zput_self h0] at hk
        exact hk
      · rw [skS, if_pos h30] at hk
        refine g_aload_nq d_Tx_toNextWord_33 rfl 0 rfl ?_
        refine g_dup d_Tx_toNextWord_34 rfl ?_
        refine g_get d_Tx_toNextWord_35 f_Tx_19_Tx (by assumption) (by first | rfl | assumption) ?_
        refine g_iconst (v := 1) d_Tx_toNextWord_38 rfl ?_
        refine g_iadd d_Tx_toNextWord_39 ?_
        refine g_put d_Tx_toNextWord_40 w_Tx_19_Tx (by assumption) (by first | rfl | exact zb_nar _) (by first | rfl | exact zb_fit _ | exact zrf_fit _) (by first | exact Nat.le_of_ble_eq_true rfl | omega) ?_
        rw [show (1 : Int32) = nI 1 from rfl, nI_add]
        generalize e1 : zput _ _ _ = Z1
        have h0 := zhs_put_same' e1 h0
        have h1 := zhs_put_ne' e1 h1 hqa
        refine g_goto (tgt := 8) d_Tx_toNextWord_43 (by decide) ?_
        exact ih (i + 1) Z1 (by omega) h0 h1 (by rw [← e1, zput_put]; exact hk)

set_option maxHeartbeats 4000000 in
set_option maxRecDepth 100000 in
theorem L_tnw2 {w : zC} {Q : zR → zZ → Prop} {a q L s : Nat} {f : Nat → Int32} (hL : L ≤ 160) (n : Nat) : ∀ i Z, i + n = L → zhs Z a (.inr (2, [.ref q, .int (nI L), .int (nI s), .int (nI i)])) → zhs Z q (xc w 160 f) → G w y_Tx_toNextWord c_Tx_toNextWord 1 r_Tx_toNextWord (1, 21) Q 92 [(0, .ref a)] [] (zput Z a (.inr (2, [.ref q, .int (nI L), .int (nI s), .int (nI (skW f n i))]))) → G w y_Tx_toNextWord c_Tx_toNextWord 1 r_Tx_toNextWord (1, 21) Q 54 [(0, .ref a)] [] Z := by
  induction n with
  | zero =>
    intro i Z hi h0 h1 hk
    refine g_aload_nq d_Tx_toNextWord_54 rfl 0 rfl ?_
    refine g_aload_nq d_Tx_toNextWord_55 rfl 0 rfl ?_
    refine g_get d_Tx_toNextWord_56 f_Tx_22_Tx (by assumption) (by first | rfl | assumption) ?_
    refine g_callV d_Tx_toNextWord_59 k_Tx_isInside l_Tx_25 i_Tx_isInside rfl p_Tx_isInside h0 (by rfl) (by rfl) (Nat.le_of_ble_eq_true rfl) (by decide) (C_Tx_isInside h0 h1 hL ⟨_, rfl, ?_⟩)
    first | refine g_if_eqB (tgt := 92) d_Tx_toNextWord_62 (by decide) (fun h62 => ?_) (fun h62 => ?_) | refine g_if_eq (tgt := 92) d_Tx_toNextWord_62 (by decide) (fun h62 => ?_) (fun h62 => ?_)
    · rw [skW, zput_self h0] at hk
      exact hk
    · exact absurd (nI_le (by omega) (by omega)) h62.2
  | succ n ih =>
    intro i Z hi h0 h1 hk
    have hqa : q ≠ a := zhs_ne h1 h0 (by simp)
    refine g_aload_nq d_Tx_toNextWord_54 rfl 0 rfl ?_
    refine g_aload_nq d_Tx_toNextWord_55 rfl 0 rfl ?_
    refine g_get d_Tx_toNextWord_56 f_Tx_22_Tx (by assumption) (by first | rfl | assumption) ?_
    refine g_callV d_Tx_toNextWord_59 k_Tx_isInside l_Tx_25 i_Tx_isInside rfl p_Tx_isInside h0 (by rfl) (by rfl) (Nat.le_of_ble_eq_true rfl) (by decide) (C_Tx_isInside h0 h1 hL ⟨_, rfl, ?_⟩)
    first | refine g_if_eqB (tgt := 92) d_Tx_toNextWord_62 (by decide) (fun h62 => ?_) (fun h62 => ?_) | refine g_if_eq (tgt := 92) d_Tx_toNextWord_62 (by decide) (fun h62 => ?_) (fun h62 => ?_)
    · exact absurd (inr_nI (by omega) (by omega)) h62
    · refine g_aload_nq d_Tx_toNextWord_65 rfl 0 rfl ?_
      refine g_get d_Tx_toNextWord_66 f_Tx_9_Tx (by assumption) (by first | rfl | assumption) ?_
      refine g_aload_nq d_Tx_toNextWord_69 rfl 0 rfl ?_
      refine g_get d_Tx_toNextWord_70 f_Tx_22_Tx (by assumption) (by first | rfl | assumption) ?_
      refine g_cald d_Tx_toNextWord_73 (by assumption) (vp_in_nI (by omega) (by decide)) ?_
      rw [nI_clamp (by omega)]
      refine g_bipush (v := 32) d_Tx_toNextWord_74 rfl ?_
      refine g_icmp_eq (tgt := 92) d_Tx_toNextWord_76 (by decide) (fun h76 => ?_) (fun h76 => ?_)
      · rw [skW, if_pos h76] at hk
        rw [zput_self h0] at hk
        exact hk
      · rw [skW, if_neg h76] at hk
        refine g_aload_nq d_Tx_toNextWord_79 rfl 0 rfl ?_
        refine g_dup d_Tx_toNextWord_80 rfl ?_
        refine g_get d_Tx_toNextWord_81 f_Tx_22_Tx (by assumption) (by first | rfl | assumption) ?_
        refine g_iconst (v := 1) d_Tx_toNextWord_84 rfl ?_
        refine g_iadd d_Tx_toNextWord_85 ?_
        refine g_put d_Tx_toNextWord_86 w_Tx_22_Tx (by assumption) (by first | rfl | exact zb_nar _) (by first | rfl | exact zb_fit _ | exact zrf_fit _) (by first | exact Nat.le_of_ble_eq_true rfl | omega) ?_
        rw [show (1 : Int32) = nI 1 from rfl, nI_add]
        generalize e1 : zput _ _ _ = Z1
        have h0 := zhs_put_same' e1 h0
        have h1 := zhs_put_ne' e1 h1 hqa
        refine g_goto (tgt := 54) d_Tx_toNextWord_89 (by decide) ?_
        exact ih (i + 1) Z1 (by omega) h0 h1 (by rw [← e1, zput_put]; exact hk)
