/-! RuleText.toNextWord, whole -/
set_option maxHeartbeats 4000000 in
set_option maxRecDepth 100000 in
theorem C_Tx_toNextWord {w : zC} {Z : zZ} {Q : zR → zZ → Prop} {a q L s e : Nat} {f : Nat → Int32} (h0 : zhs Z a (.inr (2, [.ref q, .int (nI L), .int (nI s), .int (nI e)]))) (g1 : zhs Z q (xc w 160 f)) (hL : L ≤ 160) (he : e ≤ L) (hQ : Q (.inl (some (.int (zb ((skS f (L - e) e) < (skW f (L - (skS f (L - e) e)) (skS f (L - e) e))))))) (zput Z a (.inr (2, [.ref q, .int (nI L), .int (nI (skS f (L - e) e)), .int (nI (skW f (L - (skS f (L - e) e)) (skS f (L - e) e)))])))) : Cz w (1, 21) y_Tx_toNextWord (Cond.code y_Tx_toNextWord c_Tx_toNextWord 4 r_Tx_toNextWord :: wz) [.ref a] Z Q := by
  refine Cz.of (by decide +kernel) (by simp [lg_sl, Value.category]) ?_
  show G _ _ _ _ _ _ _ _ [(0, _)] _ _
  refine g_aload_nq d_Tx_toNextWord_0 rfl 0 rfl ?_
  refine g_get d_Tx_toNextWord_1 f_Tx_15_Tx (by assumption) (by first | rfl | assumption) ?_
  refine g_aload_nq d_Tx_toNextWord_4 rfl 0 rfl ?_
  refine g_get d_Tx_toNextWord_5 f_Tx_9_Tx (by assumption) (by first | rfl | assumption) ?_
  refine g_alen d_Tx_toNextWord_8 3 (by assumption) rfl ?_
  refine g_callS d_Tx_toNextWord_9 k_jM_min l_Tx_25 s_jM_min (by rfl) (by rfl) (Nat.le_of_ble_eq_true rfl) (by decide) (C_jM_min (a := L) (b := 160) (by omega) (by decide) ⟨_, rfl, ?_⟩)
  rw [Nat.min_eq_left hL]
  refine g_istore_n d_Tx_toNextWord_12 rfl (by decide) rfl ?_
  show G _ _ _ _ _ _ _ _ [(1, _), (0, _)] _ _
  refine g_aload_nq d_Tx_toNextWord_13 rfl 1 rfl ?_
  refine g_get d_Tx_toNextWord_14 f_Tx_22_Tx (by assumption) (by first | rfl | assumption) ?_
  refine g_iconst (v := 0) d_Tx_toNextWord_17 rfl ?_
  refine g_callS d_Tx_toNextWord_18 k_jM_max l_Tx_31 s_jM_max (by rfl) (by rfl) (Nat.le_of_ble_eq_true rfl) (by decide) (C_jM_max ⟨_, rfl, ?_⟩)
  rw [if_neg (show ¬ nI e < 0 from Int32.not_lt.mpr (by rw [show (0 : Int32) = nI 0 from rfl]; exact nI_le (by omega) (by omega)))]
  refine g_istore_n d_Tx_toNextWord_21 rfl (by decide) rfl ?_
  show G _ _ _ _ _ _ _ _ [(2, _), (1, _), (0, _)] _ _
  refine L_tnw1 h0 g1 hL (L - e) e (by omega) ?_
  have w1 := skS_le (f := f) (n := L - e) (i := e)
  refine g_iload_n d_Tx_toNextWord_44 rfl 0 rfl ?_
  refine g_istore_n d_Tx_toNextWord_45 rfl (by decide) rfl ?_
  show G _ _ _ _ _ _ _ _ [(3, _), (2, _), (1, _), (0, _)] _ _
  refine L_tnw2 h0 g1 hL (L - (skS f (L - e) e)) (skS f (L - e) e) (by omega) ?_
  have w2 := skW_le (f := f) (n := L - (skS f (L - e) e)) (i := (skS f (L - e) e))
  refine g_aload_nq d_Tx_toNextWord_68 rfl 3 rfl ?_
  refine g_iload_n d_Tx_toNextWord_69 rfl 1 rfl ?_
  refine g_put d_Tx_toNextWord_70 w_Tx_19_Tx (by assumption) (by first | rfl | exact zb_nar _) (by first | rfl | exact zb_fit _ | exact zrf_fit _) (by first | exact Nat.le_of_ble_eq_true rfl | omega) ?_
  generalize e1 : zput _ _ _ = Z1
  have h0 := zhs_put_same' e1 h0
  refine g_aload_nq d_Tx_toNextWord_73 rfl 3 rfl ?_
  refine g_iload_n d_Tx_toNextWord_74 rfl 0 rfl ?_
  refine g_put d_Tx_toNextWord_75 w_Tx_22_Tx (by assumption) (by first | rfl | exact zb_nar _) (by first | rfl | exact zb_fit _ | exact zrf_fit _) (by first | exact Nat.le_of_ble_eq_true rfl | omega) ?_
  generalize e2 : zput _ _ _ = Z2
  refine g_iload_n d_Tx_toNextWord_78 rfl 0 rfl ?_
  refine g_iload_n d_Tx_toNextWord_79 rfl 1 rfl ?_
  refine g_icmp_le (tgt := 87) d_Tx_toNextWord_80 (by decide) (fun h80 => ?_) (fun h80 => ?_)
  · have hno : ¬ (skS f (L - e) e) < (skW f (L - (skS f (L - e) e)) (skS f (L - e) e)) := fun z => nI_ge z (by omega) h80
    rw [zb_f hno] at hQ
    refine g_iconst (v := 0) d_Tx_toNextWord_87 rfl ?_
    refine g_zret d_Tx_toNextWord_88 ?_ ?_
    · first | rfl | exact zb_nar _ | exact zb_narc (by assumption)
    · rw [← e2, ← e1, zput_put]
      exact hQ
  · have hyes : (skS f (L - e) e) < (skW f (L - (skS f (L - e) e)) (skS f (L - e) e)) := Nat.not_le.mp (fun z => h80 (nI_le z (by omega)))
    rw [zb_t hyes] at hQ
    refine g_iconst (v := 1) d_Tx_toNextWord_83 rfl ?_
    refine g_goto (tgt := 88) d_Tx_toNextWord_84 (by decide) ?_
    refine g_zret d_Tx_toNextWord_88 ?_ ?_
    · first | rfl | exact zb_nar _ | exact zb_narc (by assumption)
    · rw [← e2, ← e1, zput_put]
      exact hQ
