/-! Waivers -/
/-- the place of the first of n entries from i on that is x -/
def fo (f : Nat → Int32) (x : Int32) : Nat → Nat → Option Nat
  | 0, _ => none
  | n + 1, i => if f i = x then some i else fo f x n (i + 1)
def fI (o : Option Nat) : Int32 := match o with
  | none => -1
  | some j => nI j
theorem fo_lt {f : Nat → Int32} {x : Int32} : ∀ {n i j : Nat}, fo f x n i = some j → i ≤ j ∧ j < i + n ∧ f j = x
  | 0, i, j, h => by simp [fo] at h
  | n + 1, i, j, h => by
    unfold fo at h
    by_cases hx : f i = x
    · rw [if_pos hx] at h; cases h; exact ⟨Nat.le_refl _, by omega, hx⟩
    · rw [if_neg hx] at h
      obtain ⟨h1, h2, h3⟩ := fo_lt h
      exact ⟨by omega, by omega, h3⟩
def rsn (kf rf : Nat → Int32) (x : Int32) (c : Nat) : Int32 := match fo kf x c 0 with
  | none => -1
  | some j => rf j

set_option maxHeartbeats 4000000 in
set_option maxRecDepth 100000 in
theorem L_Wv_indexOf {w : zC} {Z : zZ} {Q : zR → zZ → Prop} {a k r c : Nat} {kf : Nat → Int32} {x : Int32} (h0 : zhs Z a (.inr (4, [.ref k, .ref r, .int (nI c)]))) (h1 : zhs Z k (.inl (w.2.2.2.1 0, 50, .inl kf))) (hc : c ≤ 50) (n : Nat) : ∀ i, i + n = c → Q (.inl (some (.int (fI (fo kf x n i))))) Z → G w y_Wv_indexOf c_Wv_indexOf 3 r_Wv_indexOf (0, 0) Q 2 [(2, .int (nI i)), (0, .ref a), (1, .int x)] [] Z := by
  induction n with
  | zero =>
    intro i hi hQ
    refine g_iload_n d_Wv_indexOf_2 rfl 0 rfl ?_
    refine g_aload_nq d_Wv_indexOf_3 rfl 1 rfl ?_
    refine g_get d_Wv_indexOf_4 f_Wv_18_Wv (by assumption) (by rfl) ?_
    refine g_icmp_ge (tgt := 37) d_Wv_indexOf_7 (by decide) (fun h7 => ?_) (fun h7 => ?_)
    · refine g_iconst (v := (-1)) d_Wv_indexOf_37 rfl ?_
      refine g_iret d_Wv_indexOf_38 ?_
      exact hQ
    · exact absurd (nI_le (by omega) (by omega)) h7
  | succ n ih =>
    intro i hi hQ
    refine g_iload_n d_Wv_indexOf_2 rfl 0 rfl ?_
    refine g_aload_nq d_Wv_indexOf_3 rfl 1 rfl ?_
    refine g_get d_Wv_indexOf_4 f_Wv_18_Wv (by assumption) (by rfl) ?_
    refine g_icmp_ge (tgt := 37) d_Wv_indexOf_7 (by decide) (fun h7 => ?_) (fun h7 => ?_)
    · exact absurd h7 (nI_ge (by omega) (by omega))
    · refine g_iload_n d_Wv_indexOf_10 rfl 0 rfl ?_
      refine g_aload_nq d_Wv_indexOf_11 rfl 1 rfl ?_
      refine g_get d_Wv_indexOf_12 f_Wv_9_Wv (by assumption) (by rfl) ?_
      refine g_alen d_Wv_indexOf_15 0 (by assumption) rfl ?_
      refine g_icmp_ge (tgt := 37) d_Wv_indexOf_16 (by decide) (fun h16 => ?_) (fun h16 => ?_)
      · exact absurd h16 (nI_ge (by omega) (by decide))
      · refine g_aload_nq d_Wv_indexOf_19 rfl 1 rfl ?_
        refine g_get d_Wv_indexOf_20 f_Wv_9_Wv (by assumption) (by rfl) ?_
        refine g_iload_n d_Wv_indexOf_23 rfl 0 rfl ?_
        refine g_iald d_Wv_indexOf_24 (by assumption) (vp_in_nI (by omega) (by omega)) ?_
        rw [nI_clamp (by omega)]
        refine g_iload_n d_Wv_indexOf_25 rfl 2 rfl ?_
        refine g_icmp_ne (tgt := 31) d_Wv_indexOf_26 (by decide) (fun h26 => ?_) (fun h26 => ?_)
        · rw [fo, if_neg h26] at hQ
          refine g_iinc (k := 0) d_Wv_indexOf_31 rfl (nI_1 i) (by decide) rfl ?_
          refine g_goto (tgt := 2) d_Wv_indexOf_34 (by decide) ?_
          exact ih (i + 1) (by omega) hQ
        · rw [fo, if_pos h26] at hQ
          refine g_iload_n d_Wv_indexOf_29 rfl 0 rfl ?_
          refine g_iret d_Wv_indexOf_30 ?_
          exact hQ

set_option maxHeartbeats 4000000 in
set_option maxRecDepth 100000 in
theorem C_Wv_indexOf {w : zC} {Z : zZ} {Q : zR → zZ → Prop} {a k r c : Nat} {kf : Nat → Int32} {x : Int32} (h0 : zhs Z a (.inr (4, [.ref k, .ref r, .int (nI c)]))) (h1 : zhs Z k (.inl (w.2.2.2.1 0, 50, .inl kf))) (hc : c ≤ 50) (hQ : Q (.inl (some (.int (fI (fo kf x c 0))))) Z) : Cz w (0, 0) y_Wv_indexOf (Cond.code y_Wv_indexOf c_Wv_indexOf 3 r_Wv_indexOf :: wz) [.ref a, .int x] Z Q := by
  refine Cz.of (by decide +kernel) (by simp [lg_sl, Value.category]) ?_
  show G _ _ _ _ _ _ _ _ [(0, _), (1, _)] _ _
  refine g_iconst (v := 0) d_Wv_indexOf_0 rfl ?_
  refine g_istore_n d_Wv_indexOf_1 rfl (by decide) rfl ?_
  show G _ _ _ _ _ _ _ _ [(2, _), (0, _), (1, _)] _ _
  exact L_Wv_indexOf h0 h1 hc c 0 (by omega) hQ

set_option maxHeartbeats 4000000 in
set_option maxRecDepth 100000 in
theorem C_Wv_reasonFor {w : zC} {Z : zZ} {Q : zR → zZ → Prop} {a k r c : Nat} {kf : Nat → Int32} {x : Int32} (h0 : zhs Z a (.inr (4, [.ref k, .ref r, .int (nI c)]))) (h1 : zhs Z k (.inl (w.2.2.2.1 0, 50, .inl kf))) {rf : Nat → Int32} (h2 : zhs Z r (.inl (w.2.2.2.1 0, 50, .inl rf))) (hc : c ≤ 50) (hQ : Q (.inl (some (.int (rsn kf rf x c)))) Z) : Cz w (1, 22) y_Wv_reasonFor (Cond.code y_Wv_reasonFor c_Wv_reasonFor 3 r_Wv_reasonFor :: wz) [.ref a, .int x] Z Q := by
  refine Cz.of (by decide +kernel) (by simp [lg_sl, Value.category]) ?_
  show G _ _ _ _ _ _ _ _ [(0, _), (1, _)] _ _
  have key : ∀ j, fo kf x c 0 = some j → j < 50 := fun j h => by have := (fo_lt h).2.1; omega
  refine g_aload_nq d_Wv_reasonFor_0 rfl 0 rfl ?_
  refine g_iload_n d_Wv_reasonFor_1 rfl 1 rfl ?_
  refine g_callV d_Wv_reasonFor_2 k_Wv_indexOf l_Wv_22 i_Wv_indexOf rfl p_Wv_indexOf (by assumption) (by rfl) (by rfl) (Nat.le_of_ble_eq_true rfl) (by decide) (C_Wv_indexOf h0 h1 hc ⟨_, rfl, ?_⟩)
  refine g_istore_n d_Wv_reasonFor_5 rfl (by decide) rfl ?_
  show G _ _ _ _ _ _ _ _ [(2, _), (0, _), (1, _)] _ _
  refine g_iload_n d_Wv_reasonFor_6 rfl 0 rfl ?_
  refine g_aload_nq d_Wv_reasonFor_7 rfl 1 rfl ?_
  refine g_get d_Wv_reasonFor_8 f_Wv_15_Wv (by assumption) (by rfl) ?_
  refine g_alen d_Wv_reasonFor_11 0 (by assumption) rfl ?_
  refine g_callSN d_Wv_reasonFor_12 k_K_isBelow l_Wv_26 s_K_isBelow (by rfl) (by rfl) (Nat.le_of_ble_eq_true rfl) (by decide) (C_K_isBelow ⟨_, rfl, ?_⟩)
  first | refine g_if_eqB (tgt := 27) d_Wv_reasonFor_15 (by decide) (fun h15 => ?_) (fun h15 => ?_) | refine g_if_eq (tgt := 27) d_Wv_reasonFor_15 (by decide) (fun h15 => ?_) (fun h15 => ?_)
  · refine g_iconst (v := (-1)) d_Wv_reasonFor_27 rfl ?_
    refine g_iret d_Wv_reasonFor_28 ?_
    unfold rsn at hQ
    cases ho : fo kf x c 0 with
    | none => rw [ho] at hQ; exact hQ
    | some j =>
      have hj := key j ho
      rw [ho] at h15
      exact absurd ⟨nI_pos (by omega), nI_ge hj (by decide)⟩ h15
  · refine g_aload_nq d_Wv_reasonFor_18 rfl 1 rfl ?_
    refine g_get d_Wv_reasonFor_19 f_Wv_15_Wv (by assumption) (by rfl) ?_
    refine g_iload_n d_Wv_reasonFor_22 rfl 0 rfl ?_
    refine g_iald d_Wv_reasonFor_23 (by assumption) (vin_of h15.1 h15.2 (by decide)) ?_
    refine g_goto (tgt := 28) d_Wv_reasonFor_24 (by decide) ?_
    refine g_iret d_Wv_reasonFor_28 ?_
    unfold rsn at hQ
    cases ho : fo kf x c 0 with
    | none => rw [ho] at h15; exact absurd (show (-1 : Int32) < 0 by decide) h15.1
    | some j =>
      have hj := key j ho
      rw [ho] at hQ
      show Q (.inl (some (.int (rf (nI j).toNatClampNeg)))) Z
      rw [nI_clamp (by omega)]
      exact hQ

set_option maxHeartbeats 4000000 in
set_option maxRecDepth 100000 in
theorem C_Wv_wipe {w : zC} {Z : zZ} {Q : zR → zZ → Prop} {a k r : Nat} {x : Int32} (h0 : zhs Z a (.inr (4, [.ref k, .ref r, .int x]))) (hQ : Q (.inl none) (zput Z a (.inr (4, [.ref k, .ref r, .int 0])))) : Cz w (0, 0) y_Wv_wipe (Cond.code y_Wv_wipe c_Wv_wipe 1 r_Wv_wipe :: wz) [.ref a] Z Q := by
  refine Cz.of (by decide +kernel) (by simp [lg_sl, Value.category]) ?_
  show G _ _ _ _ _ _ _ _ [(0, _)] _ _
  refine g_aload_nq d_Wv_wipe_0 rfl 0 rfl ?_
  refine g_iconst (v := 0) d_Wv_wipe_1 rfl ?_
  refine g_put d_Wv_wipe_2 w_Wv_18_Wv (by assumption) (by rfl) (by rfl) (Nat.le_of_ble_eq_true rfl) ?_
  refine g_vret d_Wv_wipe_5 ?_
  exact hQ

set_option maxHeartbeats 4000000 in
set_option maxRecDepth 100000 in
theorem C_Wv_init {w : zC} {Z : zZ} {Q : zR → zZ → Prop} {a : Nat} (h0 : zhs Z a (.inr (4, [.null, .null, .int 0]))) (hb : 2 ≤ Z.2.2.1 ∧ 100 ≤ Z.2.2.2) (hQ : ∀ Z' q0 q1, q0 ∉ Z.1 → q1 ∉ Z.1 → q0 ≠ q1 → zhs Z' a (.inr (4, [.ref q0, .ref q1, .int 0])) → zhs Z' q0 (.inl (w.2.2.2.1 0, 50, .inl fun _ => 0)) → zhs Z' q1 (.inl (w.2.2.2.1 0, 50, .inl fun _ => 0)) → zfr Z Z' [a] → Z'.2.2.1 = Z.2.2.1 - 2 → Z'.2.2.2 = Z.2.2.2 - 100 → Q (.inl none) Z') : Cz w (1, 20) y_Wv_init (Cond.code y_Wv_init c_Wv_init 1 r_Wv_init :: wz) [.ref a] Z Q := by
  refine Cz.of (by decide +kernel) (by simp [lg_sl, Value.category]) ?_
  show G _ _ _ _ _ _ _ _ [(0, _)] _ _
  refine g_aload_nq d_Wv_init_0 rfl 0 rfl ?_
  refine g_objI d_Wv_init_1 l_Wv_3 (by decide) (Nat.le_of_ble_eq_true rfl) ?_
  refine g_aload_nq d_Wv_init_4 rfl 0 rfl ?_
  refine g_bipush (v := 50) d_Wv_init_5 rfl ?_
  refine g_newi (N := 50) d_Wv_init_7 rfl a_int rfl (by decide) (by omega) (by omega) (fun q0 p0 => ?_)
  generalize x0 : znew _ _ _ _ = X0
  have n0 := zhs_new_same' x0
  have h0 := zhs_new_old' x0 h0 p0
  have V0 := zbud_new x0
  refine g_putF d_Wv_init_9 w_Wv_9_Wv rfl (by assumption) (by rfl) (by rfl) (Nat.le_of_ble_eq_true rfl) ?_
  generalize y0 : zput _ _ _ = Y0
  have n0 := zhs_put_ne' y0 n0 (Ne.symm (zhs_ne h0 n0 (by simp)))
  have h0 := zhs_put_same' y0 h0
  refine g_aload_nq d_Wv_init_12 rfl 0 rfl ?_
  refine g_bipush (v := 50) d_Wv_init_13 rfl ?_
  have W1 := zbud_put y0
  refine g_newi (N := 50) d_Wv_init_15 rfl a_int rfl (by decide) (by omega) (by omega) (fun q1 p1 => ?_)
  generalize x1 : znew _ _ _ _ = X1
  have n1 := zhs_new_same' x1
  have h0 := zhs_new_old' x1 h0 p1
  have n0 := zhs_new_old' x1 n0 p1
  have V1 := zbud_new x1
  refine g_putF d_Wv_init_17 w_Wv_15_Wv rfl (by assumption) (by rfl) (by rfl) (Nat.le_of_ble_eq_true rfl) ?_
  generalize y1 : zput _ _ _ = Y1
  have n0 := zhs_put_ne' y1 n0 (Ne.symm (zhs_ne h0 n0 (by simp)))
  have n1 := zhs_put_ne' y1 n1 (Ne.symm (zhs_ne h0 n1 (by simp)))
  have h0 := zhs_put_same' y1 h0
  refine g_aload_nq d_Wv_init_20 rfl 0 rfl ?_
  refine g_iconst (v := 0) d_Wv_init_21 rfl ?_
  refine g_put d_Wv_init_22 w_Wv_18_Wv (by assumption) (by rfl) (by rfl) (Nat.le_of_ble_eq_true rfl) ?_
  generalize y2 : zput _ _ _ = Y2
  have n0 := zhs_put_ne' y2 n0 (Ne.symm (zhs_ne h0 n0 (by simp)))
  have n1 := zhs_put_ne' y2 n1 (Ne.symm (zhs_ne h0 n1 (by simp)))
  have h0 := zhs_put_same' y2 h0
  refine g_vret d_Wv_init_25 ?_
  have F9 : zfr Z Y2 [a] := (zfr_tr (zfr_new x0 p0) (zfr_tr (zfr_put y0 (by simp)) (zfr_tr (zfr_new x1 p1) (zfr_tr (zfr_put y1 (by simp)) (zfr_put y2 (by simp))))))
  have M_q0 : q0 ∉ Z.1 := fun z => p0 z
  have M_q1 : q1 ∉ Z.1 := fun z => p1 ((zmem_put y0).mpr ((zmem_new x0).mpr (Or.inl z)))
  have D_q0_q1 : q0 ≠ q1 := fun z => p1 (z ▸ (zmem_put y0).mpr ((zmem_new x0).mpr (Or.inr rfl)))
  have B0 := zbud_new x0
  have B1 := zbud_put y0
  have B2 := zbud_new x1
  have B3 := zbud_put y1
  have B4 := zbud_put y2
  exact hQ Y2 q0 q1 M_q0 M_q1 D_q0_q1 h0 n0 n1 F9 (by omega) (by omega)

set_option maxHeartbeats 4000000 in
set_option maxRecDepth 100000 in
theorem C_Wv_append {w : zC} {Z : zZ} {Q : zR → zZ → Prop} {a k r c : Nat} {kf : Nat → Int32} {x : Int32} (h0 : zhs Z a (.inr (4, [.ref k, .ref r, .int (nI c)]))) (h1 : zhs Z k (.inl (w.2.2.2.1 0, 50, .inl kf))) {rf : Nat → Int32} (h2 : zhs Z r (.inl (w.2.2.2.1 0, 50, .inl rf))) (hc : c ≤ 50) {y : Int32} (hkr : k ≠ r) (hQ : if c < 50 then Q (.inl (some (.int 1))) (zput (zput (zput Z k (.inl (w.2.2.2.1 0, 50, .inl (upd kf c x)))) r (.inl (w.2.2.2.1 0, 50, .inl (upd rf c y)))) a (.inr (4, [.ref k, .ref r, .int (nI (c + 1))]))) else Q (.inl (some (.int 0))) Z) : Cz w (0, 0) y_Wv_append (Cond.code y_Wv_append c_Wv_append 3 r_Wv_append :: wz) [.ref a, .int x, .int y] Z Q := by
  refine Cz.of (by decide +kernel) (by simp [lg_sl, Value.category]) ?_
  show G _ _ _ _ _ _ _ _ [(0, _), (1, _), (2, _)] _ _
  refine g_aload_nq d_Wv_append_0 rfl 0 rfl ?_
  refine g_get d_Wv_append_1 f_Wv_18_Wv (by assumption) (by rfl) ?_
  refine g_aload_nq d_Wv_append_4 rfl 0 rfl ?_
  refine g_get d_Wv_append_5 f_Wv_9_Wv (by assumption) (by rfl) ?_
  refine g_alen d_Wv_append_8 0 (by assumption) rfl ?_
  refine g_icmp_ge (tgt := 24) d_Wv_append_9 (by decide) (fun h9 => ?_) (fun h9 => ?_)
  · have hge : ¬ c < 50 := fun z => nI_ge z (by decide) h9
    rw [if_neg hge] at hQ
    refine g_iconst (v := 0) d_Wv_append_24 rfl ?_
    refine g_zret d_Wv_append_25 ?_ ?_
    · first | rfl | exact zb_nar _ | exact zb_narc (by assumption)
    · exact hQ
  · have hlt : c < 50 := Nat.not_le.mp (fun z => h9 (nI_le z (by omega)))
    rw [if_pos hlt] at hQ
    refine g_aload_nq d_Wv_append_12 rfl 0 rfl ?_
    refine g_get d_Wv_append_13 f_Wv_18_Wv (by assumption) (by rfl) ?_
    refine g_aload_nq d_Wv_append_16 rfl 0 rfl ?_
    refine g_get d_Wv_append_17 f_Wv_15_Wv (by assumption) (by rfl) ?_
    refine g_alen d_Wv_append_20 0 (by assumption) rfl ?_
    refine g_icmp_lt (tgt := 26) d_Wv_append_21 (by decide) (fun h21 => ?_) (fun h21 => ?_)
    · refine g_aload_nq d_Wv_append_26 rfl 0 rfl ?_
      refine g_get d_Wv_append_27 f_Wv_9_Wv (by assumption) (by rfl) ?_
      refine g_aload_nq d_Wv_append_30 rfl 0 rfl ?_
      refine g_get d_Wv_append_31 f_Wv_18_Wv (by assumption) (by rfl) ?_
      refine g_iload_n d_Wv_append_34 rfl 1 rfl ?_
      refine g_iast d_Wv_append_35 (by assumption) (vp_in_nI hlt (by decide)) ?_
      rw [nI_clamp (by omega)]
      generalize e1 : zput _ _ _ = Z1
      have h0 := zhs_put_ne' e1 h0 (zhs_ne h0 h1 (by simp))
      have h2 := zhs_put_ne' e1 h2 (Ne.symm hkr)
      have h1 := zhs_put_same' e1 h1
      refine g_aload_nq d_Wv_append_36 rfl 0 rfl ?_
      refine g_get d_Wv_append_37 f_Wv_15_Wv (by assumption) (by rfl) ?_
      refine g_aload_nq d_Wv_append_40 rfl 0 rfl ?_
      refine g_get d_Wv_append_41 f_Wv_18_Wv (by assumption) (by rfl) ?_
      refine g_iload_n d_Wv_append_44 rfl 2 rfl ?_
      refine g_iast d_Wv_append_45 (by assumption) (vp_in_nI hlt (by decide)) ?_
      rw [nI_clamp (by omega)]
      generalize e2 : zput _ _ _ = Z2
      have h0 := zhs_put_ne' e2 h0 (zhs_ne h0 h2 (by simp))
      have h1 := zhs_put_ne' e2 h1 (hkr)
      have h2 := zhs_put_same' e2 h2
      refine g_aload_nq d_Wv_append_46 rfl 0 rfl ?_
      refine g_dup d_Wv_append_47 rfl ?_
      refine g_get d_Wv_append_48 f_Wv_18_Wv (by assumption) (by rfl) ?_
      refine g_iconst (v := 1) d_Wv_append_51 rfl ?_
      refine g_iadd d_Wv_append_52 ?_
      rw [nI_1]
      refine g_put d_Wv_append_53 w_Wv_18_Wv (by assumption) (by rfl) (by rfl) (Nat.le_of_ble_eq_true rfl) ?_
      refine g_iconst (v := 1) d_Wv_append_56 rfl ?_
      refine g_zret d_Wv_append_57 ?_ ?_
      · first | rfl | exact zb_nar _ | exact zb_narc (by assumption)
      · rw [← e2, ← e1]
        exact hQ
    · exact absurd (nI_lt hlt (by decide)) h21

set_option maxHeartbeats 4000000 in
set_option maxRecDepth 100000 in
theorem C_Wv_remove {w : zC} {Z : zZ} {Q : zR → zZ → Prop} {a k r c j : Nat} {kf : Nat → Int32} (h0 : zhs Z a (.inr (4, [.ref k, .ref r, .int (nI (c + 1))]))) (h1 : zhs Z k (.inl (w.2.2.2.1 0, 50, .inl kf))) {rf : Nat → Int32} (h2 : zhs Z r (.inl (w.2.2.2.1 0, 50, .inl rf))) (hc : c + 1 ≤ 50) (hj : j < c + 1) (hkr : k ≠ r) (hQ : Q (.inl none) (zput (zput (zput Z k (.inl (w.2.2.2.1 0, 50, .inl (upd kf j (kf c))))) r (.inl (w.2.2.2.1 0, 50, .inl (upd rf j (rf c))))) a (.inr (4, [.ref k, .ref r, .int (nI c)])))) : Cz w (1, 21) y_Wv_remove (Cond.code y_Wv_remove c_Wv_remove 3 r_Wv_remove :: wz) [.ref a, .int (nI j)] Z Q := by
  refine Cz.of (by decide +kernel) (by simp [lg_sl, Value.category]) ?_
  show G _ _ _ _ _ _ _ _ [(0, _), (1, _)] _ _
  refine g_aload_nq d_Wv_remove_0 rfl 0 rfl ?_
  refine g_get d_Wv_remove_1 f_Wv_18_Wv (by assumption) (by rfl) ?_
  refine g_iconst (v := 1) d_Wv_remove_4 rfl ?_
  refine g_isub d_Wv_remove_5 ?_
  rw [show nI (c + 1) - 1 = nI c from nI_pred c]
  refine g_istore_n d_Wv_remove_6 rfl (by decide) rfl ?_
  show G _ _ _ _ _ _ _ _ [(2, _), (0, _), (1, _)] _ _
  refine g_iload_n d_Wv_remove_7 rfl 2 rfl ?_
  refine g_aload_nq d_Wv_remove_8 rfl 1 rfl ?_
  refine g_get d_Wv_remove_9 f_Wv_18_Wv (by assumption) (by rfl) ?_
  refine g_callSN d_Wv_remove_12 k_K_isBelow l_Wv_26 s_K_isBelow (by rfl) (by rfl) (Nat.le_of_ble_eq_true rfl) (by decide) (C_K_isBelow ⟨_, rfl, ?_⟩)
  first | refine g_if_eqB (tgt := 65) d_Wv_remove_15 (by decide) (fun h15 => ?_) (fun h15 => ?_) | refine g_if_eq (tgt := 65) d_Wv_remove_15 (by decide) (fun h15 => ?_) (fun h15 => ?_)
  · exact absurd ⟨nI_pos (by omega), nI_ge hj (by omega)⟩ h15
  · refine g_iload_n d_Wv_remove_18 rfl 0 rfl ?_
    refine g_aload_nq d_Wv_remove_19 rfl 1 rfl ?_
    refine g_get d_Wv_remove_20 f_Wv_9_Wv (by assumption) (by rfl) ?_
    refine g_alen d_Wv_remove_23 0 (by assumption) rfl ?_
    refine g_icmp_ge (tgt := 65) d_Wv_remove_24 (by decide) (fun h24 => ?_) (fun h24 => ?_)
    · exact absurd h24 (nI_ge (by omega) (by decide))
    · refine g_iload_n d_Wv_remove_27 rfl 0 rfl ?_
      refine g_aload_nq d_Wv_remove_28 rfl 1 rfl ?_
      refine g_get d_Wv_remove_29 f_Wv_15_Wv (by assumption) (by rfl) ?_
      refine g_alen d_Wv_remove_32 0 (by assumption) rfl ?_
      refine g_icmp_ge (tgt := 65) d_Wv_remove_33 (by decide) (fun h33 => ?_) (fun h33 => ?_)
      · exact absurd h33 (nI_ge (by omega) (by decide))
      · refine g_aload_nq d_Wv_remove_36 rfl 1 rfl ?_
        refine g_get d_Wv_remove_37 f_Wv_9_Wv (by assumption) (by rfl) ?_
        refine g_iload_n d_Wv_remove_40 rfl 2 rfl ?_
        refine g_aload_nq d_Wv_remove_41 rfl 1 rfl ?_
        refine g_get d_Wv_remove_42 f_Wv_9_Wv (by assumption) (by rfl) ?_
        refine g_iload_n d_Wv_remove_45 rfl 0 rfl ?_
        refine g_iald d_Wv_remove_46 (by assumption) (vp_in_nI (by omega) (by decide)) ?_
        rw [nI_clamp (by omega)]
        refine g_iast d_Wv_remove_47 (by assumption) (vp_in_nI (by omega) (by decide)) ?_
        rw [nI_clamp (by omega)]
        generalize e1 : zput _ _ _ = Z1
        have h0 := zhs_put_ne' e1 h0 (zhs_ne h0 h1 (by simp))
        have h2 := zhs_put_ne' e1 h2 (Ne.symm hkr)
        have h1 := zhs_put_same' e1 h1
        refine g_aload_nq d_Wv_remove_48 rfl 1 rfl ?_
        refine g_get d_Wv_remove_49 f_Wv_15_Wv (by assumption) (by rfl) ?_
        refine g_iload_n d_Wv_remove_52 rfl 2 rfl ?_
        refine g_aload_nq d_Wv_remove_53 rfl 1 rfl ?_
        refine g_get d_Wv_remove_54 f_Wv_15_Wv (by assumption) (by rfl) ?_
        refine g_iload_n d_Wv_remove_57 rfl 0 rfl ?_
        refine g_iald d_Wv_remove_58 (by assumption) (vp_in_nI (by omega) (by decide)) ?_
        rw [nI_clamp (by omega)]
        refine g_iast d_Wv_remove_59 (by assumption) (vp_in_nI (by omega) (by decide)) ?_
        rw [nI_clamp (by omega)]
        generalize e2 : zput _ _ _ = Z2
        have h0 := zhs_put_ne' e2 h0 (zhs_ne h0 h2 (by simp))
        have h1 := zhs_put_ne' e2 h1 (hkr)
        have h2 := zhs_put_same' e2 h2
        refine g_aload_nq d_Wv_remove_60 rfl 1 rfl ?_
        refine g_iload_n d_Wv_remove_61 rfl 0 rfl ?_
        refine g_put d_Wv_remove_62 w_Wv_18_Wv (by assumption) (by rfl) (by rfl) (Nat.le_of_ble_eq_true rfl) ?_
        refine g_vret d_Wv_remove_65 ?_
        rw [← e2, ← e1]
        exact hQ

set_option maxHeartbeats 4000000 in
set_option maxRecDepth 100000 in
theorem C_Wv_setReason {w : zC} {Z : zZ} {Q : zR → zZ → Prop} {a k r c : Nat} {kf : Nat → Int32} {x : Int32} (h0 : zhs Z a (.inr (4, [.ref k, .ref r, .int (nI c)]))) (h1 : zhs Z k (.inl (w.2.2.2.1 0, 50, .inl kf))) {rf : Nat → Int32} (h2 : zhs Z r (.inl (w.2.2.2.1 0, 50, .inl rf))) (hc : c ≤ 50) {y : Int32} (hkr : k ≠ r) (hQ : if rsn kf rf x c = y then Q (.inl (some (.int 0))) Z else match fo kf x c 0 with | none => (if c < 50 then Q (.inl (some (.int 1))) (zput (zput (zput Z k (.inl (w.2.2.2.1 0, 50, .inl (upd kf c x)))) r (.inl (w.2.2.2.1 0, 50, .inl (upd rf c y)))) a (.inr (4, [.ref k, .ref r, .int (nI (c + 1))]))) else Q (.inl (some (.int 0))) Z) | some j => (if y = -1 then Q (.inl (some (.int 1))) (zput (zput (zput Z k (.inl (w.2.2.2.1 0, 50, .inl (upd kf j (kf (c - 1)))))) r (.inl (w.2.2.2.1 0, 50, .inl (upd rf j (rf (c - 1)))))) a (.inr (4, [.ref k, .ref r, .int (nI (c - 1))]))) else Q (.inl (some (.int 1))) (zput Z r (.inl (w.2.2.2.1 0, 50, .inl (upd rf j y)))))) : Cz w (2, 44) y_Wv_setReason (Cond.code y_Wv_setReason c_Wv_setReason 4 r_Wv_setReason :: wz) [.ref a, .int x, .int y] Z Q := by
  refine Cz.of (by decide +kernel) (by simp [lg_sl, Value.category]) ?_
  show G _ _ _ _ _ _ _ _ [(0, _), (1, _), (2, _)] _ _
  refine g_aload_nq d_Wv_setReason_0 rfl 0 rfl ?_
  refine g_iload_n d_Wv_setReason_1 rfl 1 rfl ?_
  refine g_callV d_Wv_setReason_2 k_Wv_reasonFor l_Wv_30 i_Wv_reasonFor rfl q_Wv_Wv_reasonFor_Wv (by assumption) (by rfl) (by rfl) (Nat.le_of_ble_eq_true rfl) (by decide) (C_Wv_reasonFor h0 h1 h2 hc ⟨_, rfl, ?_⟩)
  refine g_iload_n d_Wv_setReason_5 rfl 2 rfl ?_
  refine g_icmp_ne (tgt := 11) d_Wv_setReason_6 (by decide) (fun h6 => ?_) (fun h6 => ?_)
  · refine g_aload_nq d_Wv_setReason_11 rfl 0 rfl ?_
    refine g_iload_n d_Wv_setReason_12 rfl 1 rfl ?_
    refine g_callV d_Wv_setReason_13 k_Wv_indexOf l_Wv_22 i_Wv_indexOf rfl p_Wv_indexOf (by assumption) (by rfl) (by rfl) (Nat.le_of_ble_eq_true rfl) (by decide) (C_Wv_indexOf h0 h1 hc ⟨_, rfl, ?_⟩)
    refine g_istore_n d_Wv_setReason_16 rfl (by decide) rfl ?_
    show G _ _ _ _ _ _ _ _ [(3, _), (0, _), (1, _), (2, _)] _ _
    refine g_iload_n d_Wv_setReason_17 rfl 0 rfl ?_
    refine g_iconst (v := (-1)) d_Wv_setReason_18 rfl ?_
    refine g_icmp_ne (tgt := 29) d_Wv_setReason_19 (by decide) (fun h19 => ?_) (fun h19 => ?_)
    · refine g_iload_n d_Wv_setReason_29 rfl 3 rfl ?_
      refine g_iconst (v := (-1)) d_Wv_setReason_30 rfl ?_
      refine g_icmp_ne (tgt := 42) d_Wv_setReason_31 (by decide) (fun h31 => ?_) (fun h31 => ?_)
      · refine g_iload_n d_Wv_setReason_42 rfl 0 rfl ?_
        refine g_aload_nq d_Wv_setReason_43 rfl 1 rfl ?_
        refine g_get d_Wv_setReason_44 f_Wv_15_Wv (by assumption) (by rfl) ?_
        refine g_alen d_Wv_setReason_47 0 (by assumption) rfl ?_
        refine g_callSN d_Wv_setReason_48 k_K_isBelow l_Wv_26 s_K_isBelow (by rfl) (by rfl) (Nat.le_of_ble_eq_true rfl) (by decide) (C_K_isBelow ⟨_, rfl, ?_⟩)
        first | refine g_if_eqB (tgt := 61) d_Wv_setReason_51 (by decide) (fun h51 => ?_) (fun h51 => ?_) | refine g_if_eq (tgt := 61) d_Wv_setReason_51 (by decide) (fun h51 => ?_) (fun h51 => ?_)
        · rw [if_neg h6] at hQ
          cases ho : fo kf x c 0 with
          | none => rw [ho] at h19; exact absurd rfl h19
          | some j =>
            rw [ho] at hQ h51
            simp only [h31, if_false] at hQ
            have hj := (fo_lt ho).2.1
            exact absurd ⟨nI_pos (by omega), nI_ge (by omega) (by decide)⟩ h51
        · refine g_aload_nq d_Wv_setReason_54 rfl 1 rfl ?_
          refine g_get d_Wv_setReason_55 f_Wv_15_Wv (by assumption) (by rfl) ?_
          refine g_iload_n d_Wv_setReason_58 rfl 0 rfl ?_
          refine g_iload_n d_Wv_setReason_59 rfl 3 rfl ?_
          rw [if_neg h6] at hQ
          cases ho : fo kf x c 0 with
          | none => rw [ho] at h19; exact absurd rfl h19
          | some j =>
            rw [ho] at hQ h51
            simp only [h31, if_false] at hQ
            have hj := (fo_lt ho).2.1
            refine g_iast d_Wv_setReason_60 (by assumption) (vin_of h51.1 h51.2 (by decide)) ?_
            rw [show (fI (some j)).toNatClampNeg = j from nI_clamp (by omega)]
            refine g_iconst (v := 1) d_Wv_setReason_61 rfl ?_
            refine g_zret d_Wv_setReason_62 rfl ?_
            exact hQ
      · refine g_aload_nq d_Wv_setReason_34 rfl 1 rfl ?_
        refine g_iload_n d_Wv_setReason_35 rfl 0 rfl ?_
        rw [if_neg h6] at hQ
        cases ho : fo kf x c 0 with
        | none => rw [ho] at h19; exact absurd rfl h19
        | some j =>
          rw [ho] at hQ
          have hj := (fo_lt ho).2.1
          have hj50 : j < 50 := by omega
          simp only [h31, if_true] at hQ
          obtain ⟨c, rfl⟩ : ∃ c1, c = c1 + 1 := ⟨c - 1, by omega⟩
          refine g_callV d_Wv_setReason_36 k_Wv_remove l_Wv_36 i_Wv_remove rfl p_Wv_remove (by assumption) (by rfl) (by rfl) (Nat.le_of_ble_eq_true rfl) (by decide) (C_Wv_remove h0 h1 h2 hc (by omega) hkr ⟨_, rfl, ?_⟩)
          refine g_goto (tgt := 61) d_Wv_setReason_39 (by decide) ?_
          refine g_iconst (v := 1) d_Wv_setReason_61 rfl ?_
          refine g_zret d_Wv_setReason_62 rfl ?_
          exact hQ
    · refine g_aload_nq d_Wv_setReason_22 rfl 1 rfl ?_
      refine g_iload_n d_Wv_setReason_23 rfl 2 rfl ?_
      refine g_iload_n d_Wv_setReason_24 rfl 3 rfl ?_
      rw [if_neg h6] at hQ
      cases ho : fo kf x c 0 with
      | some j => rw [ho] at h19; exact absurd (show fI (some j) = -1 from h19) (fun z => nI_pos (n := j) (by have := (fo_lt ho).2.1; omega) (by rw [show nI j = -1 from z]; decide))
      | none =>
        rw [ho] at hQ
        refine g_callV d_Wv_setReason_25 k_Wv_append l_Wv_33 i_Wv_append rfl p_Wv_append (by assumption) (by rfl) (by rfl) (Nat.le_of_ble_eq_true rfl) (by decide) (C_Wv_append h0 h1 h2 hc hkr ?_)
        by_cases hlt : c < 50
        · rw [if_pos hlt]
          simp only [if_pos hlt] at hQ
          refine ⟨_, rfl, ?_⟩
          refine g_zret d_Wv_setReason_28 rfl ?_
          exact hQ
        · rw [if_neg hlt]
          simp only [if_neg hlt] at hQ
          refine ⟨_, rfl, ?_⟩
          refine g_zret d_Wv_setReason_28 rfl ?_
          exact hQ
  · rw [if_pos h6] at hQ
    refine g_iconst (v := 0) d_Wv_setReason_9 rfl ?_
    refine g_zret d_Wv_setReason_10 ?_ ?_
    · first | rfl | exact zb_nar _ | exact zb_narc (by assumption)
    · exact hQ
