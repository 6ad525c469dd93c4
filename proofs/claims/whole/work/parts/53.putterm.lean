/-! RuleReader.putTerm, dropOpening -/
theorem putO_eqT {S : ST} {x y : Int32} : eqT S (putO S x y) := by
  unfold putO
  split
  · exact ⟨fun m hm => (va_up_ne _ _ (by omega)).trans (va_up_ne _ _ (by omega)), fun _ _ => rfl, fun _ _ => rfl, fun m hm => va_up_ne _ _ (by omega)⟩
  · exact eqT.rf
set_option maxHeartbeats 4000000 in
set_option maxRecDepth 100000 in
theorem C_Rd_putTerm {w : zC} {Z : zZ} {Q : zR → zZ → Prop} {ad : Nat → Nat} {S : ST} (hR : Rep w ad S Z) {x y : Int32} (hL : ciLive S) (h12 : sN S 12 ≤ 80) (hQ : ∀ Z', Rep w ad (wI (putO S x y) 3 (va_up (sI (putO S x y) 3) 7 5)) Z' → Z'.2.2 = Z.2.2 → Q (.inl (some (.int 1))) Z') : Cz w (1, 22) y_Rd_putTerm (Cond.code y_Rd_putTerm c_Rd_putTerm 3 r_Rd_putTerm :: wz) [.ref (ad 3), .int x, .int y] Z Q := by
  refine Cz.of (by decide +kernel) (by simp [lg_sl, Value.category]) ?_
  show G _ _ _ _ _ _ _ _ [(0, _), (1, _), (2, _)] _ _
  have h3 : zhs Z (ad 3) (.inr (3, [.ref (ad 17), .ref (ad 18), .ref (ad 19), .ref (ad 2), .int (nI (sN S 12)), .int (nI (sN S 13)), .int (nI (sN S 14)), .int (sI S 3 7), .int (nI (sN S 15)), .int (sI S 3 9), .int (sI S 3 10), .int (sI S 3 11)])) := hR.k 3 (by decide)
  refine g_aload_nq d_Rd_putTerm_0 rfl 0 rfl ?_
  refine g_iload_n d_Rd_putTerm_1 rfl 1 rfl ?_
  refine g_iload_n d_Rd_putTerm_2 rfl 2 rfl ?_
  refine g_callV d_Rd_putTerm_3 k_Rd_putOut l_Rd_180 i_Rd_putOut rfl p_Rd_putOut h3 (by rfl) (by rfl) (Nat.le_of_ble_eq_true rfl) (by decide) (C_Rd_putOut hR hL h12 (fun Z1 hR1 B1 => ⟨_, rfl, ?_⟩))
  generalize putO S x y = S1 at hR1 hQ
  have h3 : zhs Z1 (ad 3) (.inr (3, [.ref (ad 17), .ref (ad 18), .ref (ad 19), .ref (ad 2), .int (nI (sN S1 12)), .int (nI (sN S1 13)), .int (nI (sN S1 14)), .int (sI S1 3 7), .int (nI (sN S1 15)), .int (sI S1 3 9), .int (sI S1 3 10), .int (sI S1 3 11)])) := hR1.k 3 (by decide)
  refine g_aload_nq d_Rd_putTerm_6 rfl 0 rfl ?_
  refine g_iconst (v := 5) d_Rd_putTerm_7 rfl ?_
  refine g_put d_Rd_putTerm_8 w_Rd_38_Rd (by assumption) (by first | rfl | exact zb_nar _) (by first | rfl | exact zb_fit _ | exact zrf_fit _) (by first | exact Nat.le_of_ble_eq_true rfl | omega) ?_
  have hR2 := hR1.putI (i := 3) (f := va_up (sI S1 3) 7 5) (Or.inl (by decide)) rfl
  generalize e2 : zput _ _ _ = Z2
  have hR2 : Rep w ad (wI S1 3 (va_up (sI S1 3) 7 5)) Z2 := by
    rw [← e2]
    have e9 : cellOf w ad (wI S1 3 (va_up (sI S1 3) 7 5)) 3 = _ := cell_K (by decide)
    rw [e9] at hR2
    exact hR2
  refine g_iconst (v := 1) d_Rd_putTerm_11 rfl ?_
  refine g_zret d_Rd_putTerm_12 ?_ ?_
  · first | rfl | exact zb_nar _ | exact zb_narc (by assumption)
  · exact hQ Z2 hR2 (by rw [← e2]; exact B1)
