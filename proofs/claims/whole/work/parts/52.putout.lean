/-! RuleReader.putOut, putTerm, dropOpening -/
def putO (S : ST) (x y : Int32) : ST := if sN S 12 < 80 then wN (wI (wI S 17 (upd (sI S 17) (sN S 12) x)) 18 (upd (sI S 18) (sN S 12) y)) 12 (sN S 12 + 1) else S
set_option maxHeartbeats 4000000 in
set_option maxRecDepth 100000 in
theorem C_Rd_putOut {w : zC} {Z : zZ} {Q : zR → zZ → Prop} {ad : Nat → Nat} {S : ST} (hR : Rep w ad S Z) {x y : Int32} (hL : ciLive S) (h12 : sN S 12 ≤ 80) (hQ : ∀ Z', Rep w ad (putO S x y) Z' → Z'.2.2 = Z.2.2 → Q (.inl none) Z') : Cz w (0, 0) y_Rd_putOut (Cond.code y_Rd_putOut c_Rd_putOut 3 r_Rd_putOut :: wz) [.ref (ad 3), .int x, .int y] Z Q := by
  refine Cz.of (by decide +kernel) (by simp [lg_sl, Value.category]) ?_
  show G _ _ _ _ _ _ _ _ [(0, _), (1, _), (2, _)] _ _
  have h3 : zhs Z (ad 3) (.inr (3, [.ref (ad 17), .ref (ad 18), .ref (ad 19), .ref (ad 2), .int (nI (sN S 12)), .int (nI (sN S 13)), .int (nI (sN S 14)), .int (sI S 3 7), .int (nI (sN S 15)), .int (sI S 3 9), .int (sI S 3 10), .int (sI S 3 11)])) := hR.k 3 (by decide)
  have h17 : zhs Z (ad 17) (xi w 80 (sI S 17)) := hR.k 17 (by decide)
  have h18 : zhs Z (ad 18) (xi w 80 (sI S 18)) := hR.k 18 (by decide)
  refine g_aload_nq d_Rd_putOut_0 rfl 0 rfl ?_
  refine g_get d_Rd_putOut_1 f_Rd_28_Rd (by assumption) (by first | rfl | assumption) ?_
  refine g_aload_nq d_Rd_putOut_4 rfl 0 rfl ?_
  refine g_get d_Rd_putOut_5 f_Rd_9_Rd (by assumption) (by first | rfl | assumption) ?_
  refine g_alen d_Rd_putOut_8 0 (by assumption) rfl ?_
  refine g_icmp_ge (tgt := 54) d_Rd_putOut_9 (by decide) (fun h9 => ?_) (fun h9 => ?_)
  · have hge : ¬ sN S 12 < 80 := fun z => nI_ge z (by decide) h9
    have hQ := hQ Z (by unfold putO; rw [if_neg hge]; exact hR) rfl
    refine g_vret d_Rd_putOut_54 ?_
    exact hQ
  · have hlt : sN S 12 < 80 := Nat.not_le.mp (fun z => h9 (nI_le z (by omega)))
    refine g_aload_nq d_Rd_putOut_12 rfl 0 rfl ?_
    refine g_get d_Rd_putOut_13 f_Rd_28_Rd (by assumption) (by first | rfl | assumption) ?_
    refine g_aload_nq d_Rd_putOut_16 rfl 0 rfl ?_
    refine g_get d_Rd_putOut_17 f_Rd_15_Rd (by assumption) (by first | rfl | assumption) ?_
    refine g_alen d_Rd_putOut_20 0 (by assumption) rfl ?_
    refine g_icmp_ge (tgt := 54) d_Rd_putOut_21 (by decide) (fun h21 => ?_) (fun h21 => ?_)
    · exact absurd h21 h9
    · refine g_aload_nq d_Rd_putOut_24 rfl 0 rfl ?_
      refine g_get d_Rd_putOut_25 f_Rd_9_Rd (by assumption) (by first | rfl | assumption) ?_
      refine g_aload_nq d_Rd_putOut_28 rfl 0 rfl ?_
      refine g_get d_Rd_putOut_29 f_Rd_28_Rd (by assumption) (by first | rfl | assumption) ?_
      refine g_iload_n d_Rd_putOut_32 rfl 1 rfl ?_
      refine g_iast d_Rd_putOut_33 h17 (vp_in_nI (by omega) (by decide)) ?_
      rw [nI_clamp (by omega)]
      have hR1 := hR.putI (i := 17) (f := upd (sI S 17) (sN S 12) x) (e := xi w 80 (upd (sI S 17) (sN S 12) x)) (Or.inl (by decide)) (by rw [cell_K (by decide)]; exact congrArg (xi w 80) (va_up_self S.1 17 _))
      generalize e1 : zput _ _ _ = Z1
      have h3 := zhs_put_ne' e1 h3 (hR.inj (Or.inl (by decide)) (Or.inl (by decide)) (by decide))
      have h18 := zhs_put_ne' e1 h18 (hR.inj (Or.inl (by decide)) (Or.inl (by decide)) (by decide))
      rw [e1] at hR1
      refine g_aload_nq d_Rd_putOut_34 rfl 0 rfl ?_
      refine g_get d_Rd_putOut_35 f_Rd_15_Rd (by assumption) (by first | rfl | assumption) ?_
      refine g_aload_nq d_Rd_putOut_38 rfl 0 rfl ?_
      refine g_get d_Rd_putOut_39 f_Rd_28_Rd (by assumption) (by first | rfl | assumption) ?_
      refine g_iload_n d_Rd_putOut_42 rfl 2 rfl ?_
      refine g_iast d_Rd_putOut_43 h18 (vp_in_nI (by omega) (by decide)) ?_
      rw [nI_clamp (by omega)]
      have hR2 := hR1.putI (i := 18) (f := upd (sI S 18) (sN S 12) y) (e := xi w 80 (upd (sI S 18) (sN S 12) y)) (Or.inl (by decide)) (by rw [cell_K (by decide)]; exact congrArg (xi w 80) (va_up_self (va_up S.1 17 (upd (sI S 17) (sN S 12) x)) 18 _))
      generalize e2 : zput _ _ _ = Z2
      have h3 := zhs_put_ne' e2 h3 (hR.inj (Or.inl (by decide)) (Or.inl (by decide)) (by decide))
      rw [e2] at hR2
      refine g_aload_nq d_Rd_putOut_44 rfl 0 rfl ?_
      refine g_dup d_Rd_putOut_45 rfl ?_
      refine g_get d_Rd_putOut_46 f_Rd_28_Rd (by assumption) (by first | rfl | assumption) ?_
      refine g_iconst (v := 1) d_Rd_putOut_49 rfl ?_
      refine g_iadd d_Rd_putOut_50 ?_
      refine g_put d_Rd_putOut_51 w_Rd_28_Rd (by assumption) (by first | rfl | exact zb_nar _) (by first | rfl | exact zb_fit _ | exact zrf_fit _) (by first | exact Nat.le_of_ble_eq_true rfl | omega) ?_
      rw [show (1 : Int32) = nI 1 from rfl, nI_add]
      have hR3 := hR2.putN hL (i := 3) (n := 12) (v := sN S 12 + 1) (Or.inl (by decide)) (by omega) (fun z => by omega) (fun i hi => by rcases hi with hi | hi | hi <;> first | omega | (unfold rdK at hi; split at hi <;> first | omega | exact hi.elim)) rfl
      generalize e3 : zput _ _ _ = Z3
      have hR3 : Rep w ad (wN (wI (wI S 17 (upd (sI S 17) (sN S 12) x)) 18 (upd (sI S 18) (sN S 12) y)) 12 (sN S 12 + 1)) Z3 := by rw [← e3]; exact hR3
      refine g_vret d_Rd_putOut_54 ?_
      exact hQ Z3 (by unfold putO; rw [if_pos hlt]; exact hR3) (by rw [← e3, ← e2, ← e1]; rfl)
