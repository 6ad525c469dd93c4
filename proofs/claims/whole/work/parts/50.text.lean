/-! digitOfWord, wrongWord -/
def dgt (x : Int32) : Int32 := if x < 48 then -1 else if 57 < x then -1 else x - 48
set_option maxHeartbeats 4000000 in
set_option maxRecDepth 100000 in
theorem C_Tx_digitOfWord {w : zC} {Z : zZ} {Q : zR → zZ → Prop} {a q L s e : Nat} {f : Nat → Int32} (h0 : zhs Z a (.inr (2, [.ref q, .int (nI L), .int (nI s), .int (nI e)]))) (g1 : zhs Z q (xc w 160 f)) (hL : L ≤ 160) (he : e ≤ L) {i : Nat} (hi : s + i < 2 ^ 31) (hc : ∀ k, narrow .char (.int (f k)) = .int (f k)) (hQ : Q (.inl (some (.int (dgt (if s + i < e then f (s + i) else 32))))) Z) : Cz w (1, 22) y_Tx_digitOfWord (Cond.code y_Tx_digitOfWord c_Tx_digitOfWord 3 r_Tx_digitOfWord :: wz) [.ref a, .int (nI i)] Z Q := by
  refine Cz.of (by decide +kernel) (by simp [lg_sl, Value.category]) ?_
  show G _ _ _ _ _ _ _ _ [(0, _), (1, _)] _ _
  refine g_aload_nq d_Tx_digitOfWord_0 rfl 0 rfl ?_
  refine g_iload_n d_Tx_digitOfWord_1 rfl 1 rfl ?_
  refine g_callV d_Tx_digitOfWord_2 k_Tx_letterOfWord l_Tx_46 i_Tx_letterOfWord rfl q_Tx_Tx_letterOfWord_Tx h0 (by rfl) (by rfl) (Nat.le_of_ble_eq_true rfl) (by decide) (C_Tx_letterOfWord h0 g1 hL he hi hc ⟨_, rfl, ?_⟩)
  generalize (if s + i < e then f (s + i) else 32) = x at hQ ⊢
  unfold dgt at hQ
  refine g_istore_n d_Tx_digitOfWord_5 rfl (by decide) rfl ?_
  show G _ _ _ _ _ _ _ _ [(2, _), (0, _), (1, _)] _ _
  refine g_iload_n d_Tx_digitOfWord_6 rfl 0 rfl ?_
  refine g_bipush (v := 48) d_Tx_digitOfWord_7 rfl ?_
  refine g_icmp_lt (tgt := 25) d_Tx_digitOfWord_9 (by decide) (fun h9 => ?_) (fun h9 => ?_)
  · rw [if_pos h9] at hQ
    refine g_iconst (v := (-1)) d_Tx_digitOfWord_25 rfl ?_
    refine g_iret d_Tx_digitOfWord_26 ?_
    exact hQ
  · rw [if_neg h9] at hQ
    refine g_iload_n d_Tx_digitOfWord_12 rfl 0 rfl ?_
    refine g_bipush (v := 57) d_Tx_digitOfWord_13 rfl ?_
    refine g_icmp_gt (tgt := 25) d_Tx_digitOfWord_15 (by decide) (fun h15 => ?_) (fun h15 => ?_)
    · rw [if_pos h15] at hQ
      refine g_iconst (v := (-1)) d_Tx_digitOfWord_25 rfl ?_
      refine g_iret d_Tx_digitOfWord_26 ?_
      exact hQ
    · rw [if_neg h15] at hQ
      refine g_iload_n d_Tx_digitOfWord_18 rfl 0 rfl ?_
      refine g_bipush (v := 48) d_Tx_digitOfWord_19 rfl ?_
      refine g_isub d_Tx_digitOfWord_21 ?_
      refine g_goto (tgt := 26) d_Tx_digitOfWord_22 (by decide) ?_
      refine g_iret d_Tx_digitOfWord_26 ?_
      exact hQ

set_option maxHeartbeats 4000000 in
set_option maxRecDepth 100000 in
theorem C_Rd_wrongWord {w : zC} {Z : zZ} {Q : zR → zZ → Prop} {ad : Nat → Nat} {S : ST} (hR : Rep w ad S Z) (hQ : Q (.inl (some (.int (nI (sN S 14))))) Z) : Cz w (0, 0) y_Rd_wrongWord (Cond.code y_Rd_wrongWord c_Rd_wrongWord 1 r_Rd_wrongWord :: wz) [.ref (ad 3)] Z Q := by
  refine Cz.of (by decide +kernel) (by simp [lg_sl, Value.category]) ?_
  show G _ _ _ _ _ _ _ _ [(0, _)] _ _
  have h3 : zhs Z (ad 3) (.inr (3, [.ref (ad 17), .ref (ad 18), .ref (ad 19), .ref (ad 2), .int (nI (sN S 12)), .int (nI (sN S 13)), .int (nI (sN S 14)), .int (sI S 3 7), .int (nI (sN S 15)), .int (sI S 3 9), .int (sI S 3 10), .int (sI S 3 11)])) := hR.k 3 (by decide)
  refine g_aload_nq d_Rd_wrongWord_0 rfl 0 rfl ?_
  refine g_get d_Rd_wrongWord_1 f_Rd_35_Rd (by assumption) (by first | rfl | assumption) ?_
  refine g_iret d_Rd_wrongWord_4 ?_
  exact hQ
