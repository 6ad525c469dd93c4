/-! RuleText.toNextWord, whole -/
set_option maxHeartbeats 4000000 in
set_option maxRecDepth 100000 in
theorem C_Tx_toNextWord {w : zC} {Z : zZ} {Q : zR → zZ → Prop} {a q L s e : Nat} {f : Nat → Int32} (h0 : zhs Z a (.inr (2, [.ref q, .int (nI L), .int (nI s), .int (nI e)]))) (g1 : zhs Z q (xc w 160 f)) (hL : L ≤ 160) (he : e ≤ L) (hQ : Q (.inl (some (.int (zb ((skS f (L - e) e) < (skW f (L - (skS f (L - e) e)) (skS f (L - e) e))))))) (zput Z a (.inr (2, [.ref q, .int (nI L), .int (nI (skS f (L - e) e)), .int (nI (skW f (L - (skS f (L - e) e)) (skS f (L - e) e)))])))) : Cz w (1, 21) y_Tx_toNextWord (Cond.code y_Tx_toNextWord c_Tx_toNextWord 1 r_Tx_toNextWord :: wz) [.ref a] Z Q := by
  refine Cz.of (by decide +kernel) (by simp [lg_sl, Value.category]) ?_
  show G _ _ _ _ _ _ _ _ [(0, _)] _ _
  have hqa : q ≠ a := zhs_ne g1 h0 (by simp)
  refine g_aload_nq d_Tx_toNextWord_0 rfl 0 rfl ?_
  refine g_aload_nq d_Tx_toNextWord_1 rfl 0 rfl ?_
  refine g_get d_Tx_toNextWord_2 f_Tx_22_Tx (by assumption) (by first | rfl | assumption) ?_
  refine g_put d_Tx_toNextWord_5 w_Tx_19_Tx (by assumption) (by first | rfl | exact zb_nar _) (by first | rfl | exact zb_fit _ | exact zrf_fit _) (by first | exact Nat.le_of_ble_eq_true rfl | omega) ?_
  generalize e1 : zput _ _ _ = Z1
  have h0 := zhs_put_same' e1 h0
  have g1 := zhs_put_ne' e1 g1 hqa
  refine L_tnw1 hL (L - e) e Z1 (by omega) h0 g1 ?_
  have w1 := skS_le (f := f) (n := L - e) (i := e)
  generalize e2 : zput _ _ _ = Z2
  have h0 := zhs_put_same' e2 h0
  have g1 := zhs_put_ne' e2 g1 hqa
  refine g_aload_nq d_Tx_toNextWord_46 rfl 0 rfl ?_
  refine g_aload_nq d_Tx_toNextWord_47 rfl 0 rfl ?_
  refine g_get d_Tx_toNextWord_48 f_Tx_19_Tx (by assumption) (by first | rfl | assumption) ?_
  refine g_put d_Tx_toNextWord_51 w_Tx_22_Tx (by assumption) (by first | rfl | exact zb_nar _) (by first | rfl | exact zb_fit _ | exact zrf_fit _) (by first | exact Nat.le_of_ble_eq_true rfl | omega) ?_
  generalize e3 : zput _ _ _ = Z3
  have h0 := zhs_put_same' e3 h0
  have g1 := zhs_put_ne' e3 g1 hqa
  refine L_tnw2 hL (L - (skS f (L - e) e)) (skS f (L - e) e) Z3 (by omega) h0 g1 ?_
  have w2 := skW_le (f := f) (n := L - (skS f (L - e) e)) (i := (skS f (L - e) e))
  generalize e4 : zput _ _ _ = Z4
  have h0 := zhs_put_same' e4 h0
  refine g_aload_nq d_Tx_toNextWord_92 rfl 0 rfl ?_
  refine g_get d_Tx_toNextWord_93 f_Tx_22_Tx (by assumption) (by first | rfl | assumption) ?_
  refine g_aload_nq d_Tx_toNextWord_96 rfl 0 rfl ?_
  refine g_get d_Tx_toNextWord_97 f_Tx_19_Tx (by assumption) (by first | rfl | assumption) ?_
  refine g_icmp_le (tgt := 107) d_Tx_toNextWord_100 (by decide) (fun h100 => ?_) (fun h100 => ?_)
  · have hno : ¬ (skS f (L - e) e) < (skW f (L - (skS f (L - e) e)) (skS f (L - e) e)) := fun z => nI_ge z (by omega) h100
    rw [zb_f hno] at hQ
    refine g_iconst (v := 0) d_Tx_toNextWord_107 rfl ?_
    refine g_zret d_Tx_toNextWord_108 ?_ ?_
    · first | rfl | exact zb_nar _ | exact zb_narc (by assumption)
    · rw [← e4, ← e3, zput_put, ← e2, zput_put, ← e1, zput_put]
      exact hQ
  · have hyes : (skS f (L - e) e) < (skW f (L - (skS f (L - e) e)) (skS f (L - e) e)) := Nat.not_le.mp (fun z => h100 (nI_le z (by omega)))
    rw [zb_t hyes] at hQ
    refine g_iconst (v := 1) d_Tx_toNextWord_103 rfl ?_
    refine g_goto (tgt := 108) d_Tx_toNextWord_104 (by decide) ?_
    refine g_zret d_Tx_toNextWord_108 ?_ ?_
    · first | rfl | exact zb_nar _ | exact zb_narc (by assumption)
    · rw [← e4, ← e3, zput_put, ← e2, zput_put, ← e1, zput_put]
      exact hQ
