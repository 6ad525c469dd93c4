/-! RuleReader, small methods -/
set_option maxHeartbeats 4000000 in
set_option maxRecDepth 100000 in
theorem C_Rd_isBehindCondition {w : zC} {Z : zZ} {Q : zR → zZ → Prop} {ad : Nat → Nat} {S : ST} (hR : Rep w ad S Z) (hQ : Q (.inl (some (.int (zb (sI S 3 7 = 6 ∨ (sI S 3 7 = 5 ∧ ¬ sI S 3 9 = 0)))))) Z) : Cz w (0, 0) y_Rd_isBehindCondition (Cond.code y_Rd_isBehindCondition c_Rd_isBehindCondition 1 r_Rd_isBehindCondition :: wz) [.ref (ad 3)] Z Q := by
  refine Cz.of (by decide +kernel) (by simp [lg_sl, Value.category]) ?_
  show G _ _ _ _ _ _ _ _ [(0, _)] _ _
  have h3 : zhs Z (ad 3) (.inr (3, [.ref (ad 17), .ref (ad 18), .ref (ad 19), .ref (ad 2), .int (nI (sN S 12)), .int (nI (sN S 13)), .int (nI (sN S 14)), .int (sI S 3 7), .int (nI (sN S 15)), .int (sI S 3 9), .int (sI S 3 10), .int (sI S 3 11)])) := hR.k 3 (by decide)
  refine g_aload_nq d_Rd_isBehindCondition_0 rfl 0 rfl ?_
  refine g_get d_Rd_isBehindCondition_1 f_Rd_38_Rd (by assumption) (by first | rfl | assumption) ?_
  refine g_bipush (v := 6) d_Rd_isBehindCondition_4 rfl ?_
  refine g_icmp_eq (tgt := 24) d_Rd_isBehindCondition_6 (by decide) (fun h6 => ?_) (fun h6 => ?_)
  · rw [zb_t (Or.inl h6)] at hQ
    refine g_iconst (v := 1) d_Rd_isBehindCondition_24 rfl ?_
    refine g_goto (tgt := 29) d_Rd_isBehindCondition_25 (by decide) ?_
    refine g_zret d_Rd_isBehindCondition_29 ?_ ?_
    · first | rfl | exact zb_nar _ | exact zb_narc (by assumption)
    · exact hQ
  · refine g_aload_nq d_Rd_isBehindCondition_9 rfl 0 rfl ?_
    refine g_get d_Rd_isBehindCondition_10 f_Rd_38_Rd (by assumption) (by first | rfl | assumption) ?_
    refine g_iconst (v := 5) d_Rd_isBehindCondition_13 rfl ?_
    refine g_icmp_ne (tgt := 28) d_Rd_isBehindCondition_14 (by decide) (fun h14 => ?_) (fun h14 => ?_)
    · rw [zb_f (fun z => z.elim h6 (fun y => h14 y.1))] at hQ
      refine g_iconst (v := 0) d_Rd_isBehindCondition_28 rfl ?_
      refine g_zret d_Rd_isBehindCondition_29 ?_ ?_
      · first | rfl | exact zb_nar _ | exact zb_narc (by assumption)
      · exact hQ
    · refine g_aload_nq d_Rd_isBehindCondition_17 rfl 0 rfl ?_
      refine g_get d_Rd_isBehindCondition_18 f_Rd_44_Rd (by assumption) (by first | rfl | assumption) ?_
      first | refine g_if_eqB (tgt := 28) d_Rd_isBehindCondition_21 (by decide) (fun h21 => ?_) (fun h21 => ?_) | refine g_if_eq (tgt := 28) d_Rd_isBehindCondition_21 (by decide) (fun h21 => ?_) (fun h21 => ?_)
      · rw [zb_f (fun z => z.elim h6 (fun y => y.2 h21))] at hQ
        refine g_iconst (v := 0) d_Rd_isBehindCondition_28 rfl ?_
        refine g_zret d_Rd_isBehindCondition_29 ?_ ?_
        · first | rfl | exact zb_nar _ | exact zb_narc (by assumption)
        · exact hQ
      · rw [zb_t (Or.inr ⟨h14, h21⟩)] at hQ
        refine g_iconst (v := 1) d_Rd_isBehindCondition_24 rfl ?_
        refine g_goto (tgt := 29) d_Rd_isBehindCondition_25 (by decide) ?_
        refine g_zret d_Rd_isBehindCondition_29 ?_ ?_
        · first | rfl | exact zb_nar _ | exact zb_narc (by assumption)
        · exact hQ

set_option maxHeartbeats 4000000 in
set_option maxRecDepth 100000 in
theorem C_Rd_putOff {w : zC} {Z : zZ} {Q : zR → zZ → Prop} {ad : Nat → Nat} {S : ST} (hR : Rep w ad S Z) {x : Int32} (hL : ciLive S) (h13 : sN S 13 ≤ 80) (hQ : if sN S 13 < 80 then (∀ Z', Rep w ad (wN (wI S 19 (upd (sI S 19) (sN S 13) x)) 13 (sN S 13 + 1)) Z' → Z'.2.2 = Z.2.2 → Q (.inl none) Z') else Q (.inl none) Z) : Cz w (0, 0) y_Rd_putOff (Cond.code y_Rd_putOff c_Rd_putOff 2 r_Rd_putOff :: wz) [.ref (ad 3), .int x] Z Q := by
  refine Cz.of (by decide +kernel) (by simp [lg_sl, Value.category]) ?_
  show G _ _ _ _ _ _ _ _ [(0, _), (1, _)] _ _
  have h3 : zhs Z (ad 3) (.inr (3, [.ref (ad 17), .ref (ad 18), .ref (ad 19), .ref (ad 2), .int (nI (sN S 12)), .int (nI (sN S 13)), .int (nI (sN S 14)), .int (sI S 3 7), .int (nI (sN S 15)), .int (sI S 3 9), .int (sI S 3 10), .int (sI S 3 11)])) := hR.k 3 (by decide)
  have h19 : zhs Z (ad 19) (xi w 80 (sI S 19)) := hR.k 19 (by decide)
  refine g_aload_nq d_Rd_putOff_0 rfl 0 rfl ?_
  refine g_get d_Rd_putOff_1 f_Rd_32_Rd (by assumption) (by first | rfl | assumption) ?_
  refine g_aload_nq d_Rd_putOff_4 rfl 0 rfl ?_
  refine g_get d_Rd_putOff_5 f_Rd_18_Rd (by assumption) (by first | rfl | assumption) ?_
  refine g_alen d_Rd_putOff_8 0 (by assumption) rfl ?_
  refine g_icmp_ge (tgt := 32) d_Rd_putOff_9 (by decide) (fun h9 => ?_) (fun h9 => ?_)
  · have hge : ¬ sN S 13 < 80 := fun z => nI_ge z (by decide) h9
    rw [if_neg hge] at hQ
    refine g_vret d_Rd_putOff_32 ?_
    exact hQ
  · have hlt : sN S 13 < 80 := Nat.not_le.mp (fun z => h9 (nI_le z (by omega)))
    rw [if_pos hlt] at hQ
    refine g_aload_nq d_Rd_putOff_12 rfl 0 rfl ?_
    refine g_get d_Rd_putOff_13 f_Rd_18_Rd (by assumption) (by first | rfl | assumption) ?_
    refine g_aload_nq d_Rd_putOff_16 rfl 0 rfl ?_
    refine g_get d_Rd_putOff_17 f_Rd_32_Rd (by assumption) (by first | rfl | assumption) ?_
    refine g_iload_n d_Rd_putOff_20 rfl 1 rfl ?_
    refine g_iast d_Rd_putOff_21 h19 (vp_in_nI (by omega) (by decide)) ?_
    rw [nI_clamp (by omega)]
    have hR1 := hR.putI (i := 19) (f := upd (sI S 19) (sN S 13) x) (e := xi w 80 (upd (sI S 19) (sN S 13) x)) (Or.inl (by decide)) (by rw [cell_K (by decide)]; exact congrArg (xi w 80) (va_up_self S.1 19 _))
    generalize e1 : zput _ _ _ = Z1
    have h3 := zhs_put_ne' e1 h3 (hR.inj (Or.inl (by decide)) (Or.inl (by decide)) (by decide))
    rw [e1] at hR1
    refine g_aload_nq d_Rd_putOff_22 rfl 0 rfl ?_
    refine g_dup d_Rd_putOff_23 rfl ?_
    refine g_get d_Rd_putOff_24 f_Rd_32_Rd (by assumption) (by first | rfl | assumption) ?_
    refine g_iconst (v := 1) d_Rd_putOff_27 rfl ?_
    refine g_iadd d_Rd_putOff_28 ?_
    refine g_put d_Rd_putOff_29 w_Rd_32_Rd (by assumption) (by first | rfl | exact zb_nar _) (by first | rfl | exact zb_fit _ | exact zrf_fit _) (by first | exact Nat.le_of_ble_eq_true rfl | omega) ?_
    rw [show (1 : Int32) = nI 1 from rfl, nI_add]
    have hR2 := hR1.putN hL (i := 3) (n := 13) (v := sN S 13 + 1) (Or.inl (by decide)) (by omega) (fun z => by omega) (fun i hi => by rcases hi with hi | hi | hi <;> first | omega | (unfold rdK at hi; split at hi <;> first | omega | exact hi.elim)) rfl
    generalize e2 : zput _ _ _ = Z2
    have hR2 : Rep w ad (wN (wI S 19 (upd (sI S 19) (sN S 13) x)) 13 (sN S 13 + 1)) Z2 := by rw [← e2]; exact hR2
    refine g_vret d_Rd_putOff_32 ?_
    exact hQ Z2 hR2 (by rw [← e2, ← e1]; rfl)
