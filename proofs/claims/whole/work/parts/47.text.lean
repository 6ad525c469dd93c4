/-! RuleText, small methods -/
set_option maxHeartbeats 4000000 in
set_option maxRecDepth 100000 in
theorem C_Tx_wipe {w : zC} {Z : zZ} {Q : zR → zZ → Prop} {a q : Nat} {x0 x1 x2 : Int32} (h0 : zhs Z a (.inr (2, [.ref q, .int x0, .int x1, .int x2]))) (hQ : Q (.inl none) (zput Z a (.inr (2, [.ref q, .int 0, .int x1, .int x2])))) : Cz w (0, 0) y_Tx_wipe (Cond.code y_Tx_wipe c_Tx_wipe 1 r_Tx_wipe :: wz) [.ref a] Z Q := by
  refine Cz.of (by decide +kernel) (by simp [lg_sl, Value.category]) ?_
  show G _ _ _ _ _ _ _ _ [(0, _)] _ _
  refine g_aload_nq d_Tx_wipe_0 rfl 0 rfl ?_
  refine g_iconst (v := 0) d_Tx_wipe_1 rfl ?_
  refine g_put d_Tx_wipe_2 w_Tx_15_Tx (by assumption) (by first | rfl | exact zb_nar _) (by first | rfl | exact zb_fit _ | exact zrf_fit _) (by first | exact Nat.le_of_ble_eq_true rfl | omega) ?_
  refine g_vret d_Tx_wipe_5 ?_
  exact hQ

set_option maxHeartbeats 4000000 in
set_option maxRecDepth 100000 in
theorem C_Tx_toStart {w : zC} {Z : zZ} {Q : zR → zZ → Prop} {a q : Nat} {x0 x1 x2 : Int32} (h0 : zhs Z a (.inr (2, [.ref q, .int x0, .int x1, .int x2]))) (hQ : Q (.inl none) (zput Z a (.inr (2, [.ref q, .int x0, .int x1, .int 0])))) : Cz w (0, 0) y_Tx_toStart (Cond.code y_Tx_toStart c_Tx_toStart 1 r_Tx_toStart :: wz) [.ref a] Z Q := by
  refine Cz.of (by decide +kernel) (by simp [lg_sl, Value.category]) ?_
  show G _ _ _ _ _ _ _ _ [(0, _)] _ _
  refine g_aload_nq d_Tx_toStart_0 rfl 0 rfl ?_
  refine g_iconst (v := 0) d_Tx_toStart_1 rfl ?_
  refine g_put d_Tx_toStart_2 w_Tx_22_Tx (by assumption) (by first | rfl | exact zb_nar _) (by first | rfl | exact zb_fit _ | exact zrf_fit _) (by first | exact Nat.le_of_ble_eq_true rfl | omega) ?_
  refine g_vret d_Tx_toStart_5 ?_
  exact hQ

set_option maxHeartbeats 4000000 in
set_option maxRecDepth 100000 in
theorem C_Tx_wordLength {w : zC} {Z : zZ} {Q : zR → zZ → Prop} {a q : Nat} {x0 x1 x2 : Int32} (h0 : zhs Z a (.inr (2, [.ref q, .int x0, .int x1, .int x2]))) (hQ : Q (.inl (some (.int (x2 - x1)))) Z) : Cz w (0, 0) y_Tx_wordLength (Cond.code y_Tx_wordLength c_Tx_wordLength 1 r_Tx_wordLength :: wz) [.ref a] Z Q := by
  refine Cz.of (by decide +kernel) (by simp [lg_sl, Value.category]) ?_
  show G _ _ _ _ _ _ _ _ [(0, _)] _ _
  refine g_aload_nq d_Tx_wordLength_0 rfl 0 rfl ?_
  refine g_get d_Tx_wordLength_1 f_Tx_22_Tx (by assumption) (by first | rfl | assumption) ?_
  refine g_aload_nq d_Tx_wordLength_4 rfl 0 rfl ?_
  refine g_get d_Tx_wordLength_5 f_Tx_19_Tx (by assumption) (by first | rfl | assumption) ?_
  refine g_isub d_Tx_wordLength_8 ?_
  refine g_iret d_Tx_wordLength_9 ?_
  exact hQ

set_option maxHeartbeats 4000000 in
set_option maxRecDepth 100000 in
theorem C_Tx_letterOfWord {w : zC} {Z : zZ} {Q : zR → zZ → Prop} {a q L s e : Nat} {f : Nat → Int32} (h0 : zhs Z a (.inr (2, [.ref q, .int (nI L), .int (nI s), .int (nI e)]))) (g1 : zhs Z q (xc w 160 f)) (hL : L ≤ 160) (he : e ≤ L) {i : Nat} (hi : s + i < 2 ^ 31) (hc : ∀ k, narrow .char (.int (f k)) = .int (f k)) (hQ : Q (.inl (some (.int (if s + i < e then f (s + i) else 32)))) Z) : Cz w (0, 0) y_Tx_letterOfWord (Cond.code y_Tx_letterOfWord c_Tx_letterOfWord 3 r_Tx_letterOfWord :: wz) [.ref a, .int (nI i)] Z Q := by
  refine Cz.of (by decide +kernel) (by simp [lg_sl, Value.category]) ?_
  show G _ _ _ _ _ _ _ _ [(0, _), (1, _)] _ _
  refine g_aload_nq d_Tx_letterOfWord_0 rfl 0 rfl ?_
  refine g_get d_Tx_letterOfWord_1 f_Tx_19_Tx (by assumption) (by first | rfl | assumption) ?_
  refine g_iload_n d_Tx_letterOfWord_4 rfl 1 rfl ?_
  refine g_iadd d_Tx_letterOfWord_5 ?_
  rw [nI_add]
  refine g_istore_n d_Tx_letterOfWord_6 rfl (by decide) rfl ?_
  show G _ _ _ _ _ _ _ _ [(2, _), (0, _), (1, _)] _ _
  refine g_iload_n d_Tx_letterOfWord_7 rfl 0 rfl ?_
  refine g_aload_nq d_Tx_letterOfWord_8 rfl 1 rfl ?_
  refine g_get d_Tx_letterOfWord_9 f_Tx_19_Tx (by assumption) (by first | rfl | assumption) ?_
  refine g_icmp_lt (tgt := 41) d_Tx_letterOfWord_12 (by decide) (fun h12 => ?_) (fun h12 => ?_)
  · exact absurd h12 ((fun z => Int32.not_lt.mpr (nI_le (a := s) (b := s + i) (by omega) (by omega)) z))
  · refine g_iload_n d_Tx_letterOfWord_15 rfl 0 rfl ?_
    refine g_aload_nq d_Tx_letterOfWord_16 rfl 1 rfl ?_
    refine g_get d_Tx_letterOfWord_17 f_Tx_22_Tx (by assumption) (by first | rfl | assumption) ?_
    refine g_icmp_ge (tgt := 41) d_Tx_letterOfWord_20 (by decide) (fun h20 => ?_) (fun h20 => ?_)
    · have hge : ¬ s + i < e := fun z => nI_ge z (by omega) h20
      rw [if_neg hge] at hQ
      refine g_bipush (v := 32) d_Tx_letterOfWord_41 rfl ?_
      refine g_zret d_Tx_letterOfWord_43 ?_ ?_
      · first | rfl | exact hc _
      · exact hQ
    · have hlt : s + i < e := Nat.not_le.mp (fun z => h20 (nI_le z (by omega)))
      rw [if_pos hlt] at hQ
      refine g_iload_n d_Tx_letterOfWord_23 rfl 0 rfl ?_
      refine g_aload_nq d_Tx_letterOfWord_24 rfl 1 rfl ?_
      refine g_get d_Tx_letterOfWord_25 f_Tx_9_Tx (by assumption) (by first | rfl | assumption) ?_
      refine g_alen d_Tx_letterOfWord_28 3 (by assumption) rfl ?_
      refine g_icmp_ge (tgt := 41) d_Tx_letterOfWord_29 (by decide) (fun h29 => ?_) (fun h29 => ?_)
      · exact absurd h29 (nI_ge (by omega) (by decide))
      · refine g_aload_nq d_Tx_letterOfWord_32 rfl 1 rfl ?_
        refine g_get d_Tx_letterOfWord_33 f_Tx_9_Tx (by assumption) (by first | rfl | assumption) ?_
        refine g_iload_n d_Tx_letterOfWord_36 rfl 0 rfl ?_
        refine g_cald d_Tx_letterOfWord_37 (by assumption) (vp_in_nI (by omega) (by decide)) ?_
        rw [nI_clamp (by omega)]
        refine g_goto (tgt := 43) d_Tx_letterOfWord_38 (by decide) ?_
        refine g_zret d_Tx_letterOfWord_43 ?_ ?_
        · first | rfl | exact hc _
        · exact hQ
