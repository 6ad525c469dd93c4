/-! RuleReader.dropOpening -/
set_option maxHeartbeats 4000000 in
set_option maxRecDepth 100000 in
theorem C_Rd_dropOpening {w : zC} {Z : zZ} {Q : zR → zZ → Prop} {ad : Nat → Nat} {S : ST} (hR : Rep w ad S Z) (hL : ciLive S) (h13 : sN S 13 ≤ 80) (hQ : ∀ Z', Rep w ad (wN S 13 (sN S 13 - 1)) Z' → Z'.2.2 = Z.2.2 → Q (.inl none) Z') : Cz w (0, 0) y_Rd_dropOpening (Cond.code y_Rd_dropOpening c_Rd_dropOpening 1 r_Rd_dropOpening :: wz) [.ref (ad 3)] Z Q := by
  refine Cz.of (by decide +kernel) (by simp [lg_sl, Value.category]) ?_
  show G _ _ _ _ _ _ _ _ [(0, _)] _ _
  have h3 : zhs Z (ad 3) (.inr (3, [.ref (ad 17), .ref (ad 18), .ref (ad 19), .ref (ad 2), .int (nI (sN S 12)), .int (nI (sN S 13)), .int (nI (sN S 14)), .int (sI S 3 7), .int (nI (sN S 15)), .int (sI S 3 9), .int (sI S 3 10), .int (sI S 3 11)])) := hR.k 3 (by decide)
  refine g_aload_nq d_Rd_dropOpening_0 rfl 0 rfl ?_
  refine g_get d_Rd_dropOpening_1 f_Rd_32_Rd (by assumption) (by first | rfl | assumption) ?_
  refine g_if_le (tgt := 17) d_Rd_dropOpening_4 (by decide) (fun h4 => ?_) (fun h4 => ?_)
  · have hz : sN S 13 = 0 := Classical.byContradiction fun z => absurd h4 (Int32.not_le.mpr (nI_lt (a := 0) (b := sN S 13) (by omega) (by omega)))
    have hQ := hQ Z (by rw [hz, show wN S 13 (0 - 1) = S by rw [← hz]; exact congrArg (fun z => (S.1, S.2.1, S.2.2.1, z)) (by funext m; unfold va_up; split <;> simp_all)]; exact hR) rfl
    refine g_vret d_Rd_dropOpening_17 ?_
    exact hQ
  · have hp : 0 < sN S 13 := Classical.byContradiction fun z => h4 (by rw [show sN S 13 = 0 by omega]; decide)
    obtain ⟨m, hm⟩ : ∃ m, sN S 13 = m + 1 := ⟨sN S 13 - 1, by omega⟩
    refine g_aload_nq d_Rd_dropOpening_7 rfl 0 rfl ?_
    refine g_dup d_Rd_dropOpening_8 rfl ?_
    refine g_get d_Rd_dropOpening_9 f_Rd_32_Rd (by assumption) (by first | rfl | assumption) ?_
    refine g_iconst (v := 1) d_Rd_dropOpening_12 rfl ?_
    refine g_isub d_Rd_dropOpening_13 ?_
    rw [hm, nI_pred]
    refine g_put d_Rd_dropOpening_14 w_Rd_32_Rd (by assumption) (by first | rfl | exact zb_nar _) (by first | rfl | exact zb_fit _ | exact zrf_fit _) (by first | exact Nat.le_of_ble_eq_true rfl | omega) ?_
    have hR2 := hR.putN hL (i := 3) (n := 13) (v := m) (Or.inl (by decide)) (by omega) (fun z => by omega) (fun i hi => by rcases hi with hi | hi | hi <;> first | omega | (unfold rdK at hi; split at hi <;> first | omega | exact hi.elim)) rfl
    generalize e2 : zput _ _ _ = Z2
    have hR2 : Rep w ad (wN S 13 (sN S 13 - 1)) Z2 := by rw [← e2, hm, Nat.add_sub_cancel]; exact hR2
    refine g_vret d_Rd_dropOpening_17 ?_
    exact hQ Z2 hR2 (by rw [← e2]; rfl)
