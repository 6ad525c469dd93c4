/-! Remarks: rows of remarks that grow; Arrays.copyOf, Math.min, Math.max -/
/-- what was there and isn't in X is still there -/
def zfr (Z Z' : zZ) (X : List Nat) : Prop := ∀ b e, b ∉ X → zhs Z b e → zhs Z' b e
theorem zfr_rf {Z : zZ} {X : List Nat} : zfr Z Z X := fun _ _ _ h => h
theorem zfr_put {Z Z' : zZ} {a : Nat} {e : va_E} {X : List Nat} (h : zput Z a e = Z') (ha : a ∈ X) : zfr Z Z' X := fun b e' hb hz => by
  rw [← h]
  exact zhs_put_ne hz (fun q => hb (q ▸ ha))
theorem zfr_new {Z Z' : zZ} {q n : Nat} {e : va_E} {X : List Nat} (h : znew Z q e n = Z') (hq : q ∉ Z.1) : zfr Z Z' X := fun b e' _ hz => by
  rw [← h]
  exact zhs_new_old hz hq
theorem zfr_tr {Z Z1 Z2 : zZ} {X : List Nat} (h1 : zfr Z Z1 X) (h2 : zfr Z1 Z2 X) : zfr Z Z2 X := fun b e hb hz => h2 b e hb (h1 b e hb hz)
theorem zfr_mono {Z Z' : zZ} {X Y : List Nat} (h : zfr Z Z' X) (hs : ∀ a ∈ X, a ∈ Y) : zfr Z Z' Y := fun b e hb hz => h b e (fun q => hb (hs b q)) hz
/-- the addresses that were there are still there -/
theorem zmem_put {Z Z' : zZ} {a b : Nat} {e : va_E} (h : zput Z a e = Z') : b ∈ Z'.1 ↔ b ∈ Z.1 := by rw [← h]; exact Iff.rfl
theorem zmem_new {Z Z' : zZ} {q b n : Nat} {e : va_E} (h : znew Z q e n = Z') : b ∈ Z'.1 ↔ b ∈ Z.1 ∨ b = q := by
  rw [← h]
  show b ∈ Z.1 ++ [q] ↔ _
  rw [List.mem_append, List.mem_singleton]
theorem zbud_put {Z Z' : zZ} {a : Nat} {e : va_E} (h : zput Z a e = Z') : Z'.2.2.1 = Z.2.2.1 ∧ Z'.2.2.2 = Z.2.2.2 := by rw [← h]; exact ⟨rfl, rfl⟩
theorem zbud_new {Z Z' : zZ} {q n : Nat} {e : va_E} (h : znew Z q e n = Z') : Z'.2.2.1 = Z.2.2.1 - 1 ∧ Z'.2.2.2 = Z.2.2.2 - n := by rw [← h]; exact ⟨rfl, rfl⟩

set_option maxHeartbeats 4000000 in
set_option maxRecDepth 100000 in
theorem C_jM_min {w : zC} {Z : zZ} {Q : zR → zZ → Prop} {a b : Nat} (ha : a < 2 ^ 31) (hb : b < 2 ^ 31) (hQ : Q (.inl (some (.int (nI (min a b))))) Z) : Cz w (0, 0) y_jM_min (Cond.code y_jM_min c_jM_min 2 r_jM_min :: wz) [.int (nI a), .int (nI b)] Z Q := by
  refine Cz.ofF (by decide +kernel) (by simp [lg_sl, Value.category]) ?_
  show G _ _ _ _ _ _ _ _ [(0, _), (1, _)] _ _
  refine g_iload_n d_jM_min_0 rfl 0 rfl ?_
  refine g_iload_n d_jM_min_1 rfl 1 rfl ?_
  refine g_icmp_gt (tgt := 9) d_jM_min_2 (by decide) (fun h2 => ?_) (fun h2 => ?_)
  · refine g_iload_n d_jM_min_9 rfl 1 rfl ?_
    refine g_iret d_jM_min_10 ?_
    rw [nI_ltI hb ha] at h2
    first | (rw [Nat.min_eq_left (by omega)] at hQ; exact hQ) | (rw [Nat.min_eq_right (by omega)] at hQ; exact hQ)
  · refine g_iload_n d_jM_min_5 rfl 0 rfl ?_
    refine g_goto (tgt := 10) d_jM_min_6 (by decide) ?_
    refine g_iret d_jM_min_10 ?_
    rw [nI_ltI hb ha] at h2
    first | (rw [Nat.min_eq_left (by omega)] at hQ; exact hQ) | (rw [Nat.min_eq_right (by omega)] at hQ; exact hQ)

set_option maxHeartbeats 4000000 in
set_option maxRecDepth 100000 in
theorem C_jM_max {w : zC} {Z : zZ} {Q : zR → zZ → Prop} {a b : Int32} (hQ : Q (.inl (some (.int (if a < b then b else a)))) Z) : Cz w (0, 0) y_jM_max (Cond.code y_jM_max c_jM_max 2 r_jM_max :: wz) [.int a, .int b] Z Q := by
  refine Cz.ofF (by decide +kernel) (by simp [lg_sl, Value.category]) ?_
  show G _ _ _ _ _ _ _ _ [(0, _), (1, _)] _ _
  refine g_iload_n d_jM_max_0 rfl 0 rfl ?_
  refine g_iload_n d_jM_max_1 rfl 1 rfl ?_
  refine g_icmp_lt (tgt := 9) d_jM_max_2 (by decide) (fun h2 => ?_) (fun h2 => ?_)
  · refine g_iload_n d_jM_max_9 rfl 1 rfl ?_
    refine g_iret d_jM_max_10 ?_
    first | (rw [if_pos h2] at hQ; exact hQ) | (rw [if_neg h2] at hQ; exact hQ)
  · refine g_iload_n d_jM_max_5 rfl 0 rfl ?_
    refine g_goto (tgt := 10) d_jM_max_6 (by decide) ?_
    refine g_iret d_jM_max_10 ?_
    first | (rw [if_pos h2] at hQ; exact hQ) | (rw [if_neg h2] at hQ; exact hQ)

set_option maxHeartbeats 4000000 in
set_option maxRecDepth 100000 in
theorem C_jA_copyOf {w : zC} {Z : zZ} {Q : zR → zZ → Prop} {a n0 N : Nat} {f : Nat → Int32} (h0 : zhs Z a (.inl (w.2.2.2.1 0, n0, .inl f))) (hne : ¬ N = n0) (hN : N ≤ 60000) (hn0 : n0 ≤ 60000) (h1 : 1 ≤ Z.2.2.1) (h2 : N ≤ Z.2.2.2) (hQ : ∀ q, q ∉ Z.1 → Q (.inl (some (.ref q))) (znew Z q (.inl (w.2.2.2.1 0, N, .inl (va_cpy f (fun _ => 0) 0 0 (min n0 N)))) N)) : Cz w (1, 26) y_jA_copyOf (Cond.code y_jA_copyOf c_jA_copyOf 3 r_jA_copyOf :: wz) [.ref a, .int (nI N)] Z Q := by
  refine Cz.ofF (by decide +kernel) (by simp [lg_sl, Value.category]) ?_
  show G _ _ _ _ _ _ _ _ [(0, _), (1, _)] _ _
  refine g_iload_n d_jA_copyOf_0 rfl 1 rfl ?_
  refine g_aload_nq d_jA_copyOf_1 rfl 0 rfl ?_
  refine g_alen d_jA_copyOf_2 0 (by assumption) rfl ?_
  refine g_icmp_ne (tgt := 14) d_jA_copyOf_3 (by decide) (fun h3 => ?_) (fun h3 => ?_)
  · refine g_iload_n d_jA_copyOf_14 rfl 1 rfl ?_
    refine g_newi d_jA_copyOf_15 rfl a_int (by rfl) hN h1 h2 (fun q hq => ?_)
    generalize e1 : znew _ _ _ _ = Z1
    have hn := zhs_new_same' e1
    have h0 := zhs_new_old' e1 h0 hq
    refine g_astore_nq d_jA_copyOf_17 rfl (by decide) rfl ?_
    show G _ _ _ _ _ _ _ _ [(2, _), (0, _), (1, _)] _ _
    refine g_aload_nq d_jA_copyOf_18 rfl 1 rfl ?_
    refine g_iconst (v := 0) d_jA_copyOf_19 rfl ?_
    refine g_aload_nq d_jA_copyOf_20 rfl 0 rfl ?_
    refine g_iconst (v := 0) d_jA_copyOf_21 rfl ?_
    refine g_aload_nq d_jA_copyOf_22 rfl 1 rfl ?_
    refine g_alen d_jA_copyOf_23 0 (by assumption) rfl ?_
    refine g_iload_n d_jA_copyOf_24 rfl 2 rfl ?_
    refine g_callS d_jA_copyOf_25 k_jM_min l_jA_304 s_jM_min (by rfl) (by rfl) (Nat.le_of_ble_eq_true rfl) (by decide) (C_jM_min (by omega) (by omega) ⟨_, rfl, ?_⟩)
    have c1 := @nI_clamp (min n0 N) (by omega)
    have c0 : (0 : Int32).toNatClampNeg = 0 := sb_cl0
    refine g_acopy d_jA_copyOf_28 l_jA_150 (by assumption) (by assumption) (by decide) (by decide) (nI_pos (by omega)) (by rw [c0, c1]; omega) (by rw [c0, c1]; omega) (by decide) (Nat.le_of_ble_eq_true rfl) ?_
    rw [c0, c1]
    refine g_aload_nq d_jA_copyOf_31 rfl 0 rfl ?_
    refine g_aret d_jA_copyOf_32 ?_
    rw [← e1, znew_put]
    exact hQ q hq
  · exact absurd ((nI_eq (by omega) (by omega)).mp h3) hne

set_option maxHeartbeats 4000000 in
set_option maxRecDepth 100000 in
theorem C_Rm_count {w : zC} {Z : zZ} {Q : zR → zZ → Prop} {a k v f : Nat} {x : Int32} (h0 : zhs Z a (.inr (5, [.ref k, .ref v, .ref f, .int x]))) (hQ : Q (.inl (some (.int x))) Z) : Cz w (0, 0) y_Rm_count (Cond.code y_Rm_count c_Rm_count 1 r_Rm_count :: wz) [.ref a] Z Q := by
  refine Cz.of (by decide +kernel) (by simp [lg_sl, Value.category]) ?_
  show G _ _ _ _ _ _ _ _ [(0, _)] _ _
  refine g_aload_nq d_Rm_count_0 rfl 0 rfl ?_
  refine g_get d_Rm_count_1 f_Rm_21_Rm (by assumption) (by rfl) ?_
  refine g_iret d_Rm_count_4 ?_
  exact hQ

set_option maxHeartbeats 4000000 in
set_option maxRecDepth 100000 in
theorem C_Rm_wipe {w : zC} {Z : zZ} {Q : zR → zZ → Prop} {a k v f : Nat} {x : Int32} (h0 : zhs Z a (.inr (5, [.ref k, .ref v, .ref f, .int x]))) (hQ : Q (.inl none) (zput Z a (.inr (5, [.ref k, .ref v, .ref f, .int 0])))) : Cz w (0, 0) y_Rm_wipe (Cond.code y_Rm_wipe c_Rm_wipe 1 r_Rm_wipe :: wz) [.ref a] Z Q := by
  refine Cz.of (by decide +kernel) (by simp [lg_sl, Value.category]) ?_
  show G _ _ _ _ _ _ _ _ [(0, _)] _ _
  refine g_aload_nq d_Rm_wipe_0 rfl 0 rfl ?_
  refine g_iconst (v := 0) d_Rm_wipe_1 rfl ?_
  refine g_put d_Rm_wipe_2 w_Rm_21_Rm (by assumption) (by rfl) (by rfl) (Nat.le_of_ble_eq_true rfl) ?_
  refine g_vret d_Rm_wipe_5 ?_
  exact hQ

set_option maxHeartbeats 4000000 in
set_option maxRecDepth 100000 in
theorem C_Rm_setFirst {w : zC} {Z : zZ} {Q : zR → zZ → Prop} {a k v f c N : Nat} {ff : Nat → Int32} {i x : Int32} (h0 : zhs Z a (.inr (5, [.ref k, .ref v, .ref f, .int (nI c)]))) (h1 : zhs Z f (.inl (w.2.2.2.1 0, N, .inl ff))) (hc : c ≤ N) (hN : N < 2 ^ 31) (hi : ¬ i < 0 ∧ ¬ nI c ≤ i) (hQ : Q (.inl none) (zput Z f (.inl (w.2.2.2.1 0, N, .inl (upd ff i.toNatClampNeg x))))) : Cz w (1, 21) y_Rm_setFirst (Cond.code y_Rm_setFirst c_Rm_setFirst 3 r_Rm_setFirst :: wz) [.ref a, .int i, .int x] Z Q := by
  refine Cz.of (by decide +kernel) (by simp [lg_sl, Value.category]) ?_
  show G _ _ _ _ _ _ _ _ [(0, _), (1, _), (2, _)] _ _
  refine g_iload_n d_Rm_setFirst_0 rfl 1 rfl ?_
  refine g_aload_nq d_Rm_setFirst_1 rfl 0 rfl ?_
  refine g_get d_Rm_setFirst_2 f_Rm_21_Rm (by assumption) (by rfl) ?_
  refine g_callSN d_Rm_setFirst_5 k_K_isBelow l_Rm_40 s_K_isBelow (by rfl) (by rfl) (Nat.le_of_ble_eq_true rfl) (by decide) (C_K_isBelow ⟨_, rfl, ?_⟩)
  first | refine g_if_eqB (tgt := 27) d_Rm_setFirst_8 (by decide) (fun h8 => ?_) (fun h8 => ?_) | refine g_if_eq (tgt := 27) d_Rm_setFirst_8 (by decide) (fun h8 => ?_) (fun h8 => ?_)
  · exact absurd hi h8
  · refine g_iload_n d_Rm_setFirst_11 rfl 1 rfl ?_
    refine g_aload_nq d_Rm_setFirst_12 rfl 0 rfl ?_
    refine g_get d_Rm_setFirst_13 f_Rm_18_Rm (by assumption) (by rfl) ?_
    refine g_alen d_Rm_setFirst_16 0 (by assumption) rfl ?_
    refine g_icmp_ge (tgt := 27) d_Rm_setFirst_17 (by decide) (fun h17 => ?_) (fun h17 => ?_)
    · exact absurd h17 (vin_le hi.2 hc hN)
    · refine g_aload_nq d_Rm_setFirst_20 rfl 0 rfl ?_
      refine g_get d_Rm_setFirst_21 f_Rm_18_Rm (by assumption) (by rfl) ?_
      refine g_iload_n d_Rm_setFirst_24 rfl 1 rfl ?_
      refine g_iload_n d_Rm_setFirst_25 rfl 2 rfl ?_
      refine g_iast d_Rm_setFirst_26 (by assumption) (vin_of hi.1 h17 hN) ?_
      refine g_vret d_Rm_setFirst_27 ?_
      exact hQ

set_option maxHeartbeats 4000000 in
set_option maxRecDepth 100000 in
theorem C_Rm_init {w : zC} {Z : zZ} {Q : zR → zZ → Prop} {a : Nat} (h0 : zhs Z a (.inr (5, [.null, .null, .null, .int 0]))) (hb : 3 ≤ Z.2.2.1 ∧ 96 ≤ Z.2.2.2) (hQ : ∀ Z' q0 q1 q2, q0 ∉ Z.1 → q1 ∉ Z.1 → q2 ∉ Z.1 → q0 ≠ q1 → q0 ≠ q2 → q1 ≠ q2 → zhs Z' a (.inr (5, [.ref q0, .ref q1, .ref q2, .int 0])) → zhs Z' q0 (.inl (w.2.2.2.1 0, 32, .inl fun _ => 0)) → zhs Z' q1 (.inl (w.2.2.2.1 0, 32, .inl fun _ => 0)) → zhs Z' q2 (.inl (w.2.2.2.1 0, 32, .inl fun _ => 0)) → zfr Z Z' [a] → Z'.2.2.1 = Z.2.2.1 - 3 → Z'.2.2.2 = Z.2.2.2 - 96 → Q (.inl none) Z') : Cz w (1, 20) y_Rm_init (Cond.code y_Rm_init c_Rm_init 1 r_Rm_init :: wz) [.ref a] Z Q := by
  refine Cz.of (by decide +kernel) (by simp [lg_sl, Value.category]) ?_
  show G _ _ _ _ _ _ _ _ [(0, _)] _ _
  refine g_aload_nq d_Rm_init_0 rfl 0 rfl ?_
  refine g_objI d_Rm_init_1 l_Rm_3 (by decide) (Nat.le_of_ble_eq_true rfl) ?_
  refine g_aload_nq d_Rm_init_4 rfl 0 rfl ?_
  refine g_bipush (v := 32) d_Rm_init_5 rfl ?_
  refine g_newi (N := 32) d_Rm_init_7 rfl a_int rfl (by decide) (by omega) (by omega) (fun q0 p0 => ?_)
  generalize x0 : znew _ _ _ _ = X0
  have n0 := zhs_new_same' x0
  have h0 := zhs_new_old' x0 h0 p0
  have V0 := zbud_new x0
  refine g_put d_Rm_init_9 w_Rm_11_Rm (by assumption) (by rfl) (by rfl) (Nat.le_of_ble_eq_true rfl) ?_
  generalize y0 : zput _ _ _ = Y0
  have n0 := zhs_put_ne' y0 n0 (Ne.symm (zhs_ne h0 n0 (by simp)))
  have h0 := zhs_put_same' y0 h0
  refine g_aload_nq d_Rm_init_12 rfl 0 rfl ?_
  refine g_bipush (v := 32) d_Rm_init_13 rfl ?_
  have W1 := zbud_put y0
  refine g_newi (N := 32) d_Rm_init_15 rfl a_int rfl (by decide) (by omega) (by omega) (fun q1 p1 => ?_)
  generalize x1 : znew _ _ _ _ = X1
  have n1 := zhs_new_same' x1
  have h0 := zhs_new_old' x1 h0 p1
  have n0 := zhs_new_old' x1 n0 p1
  have V1 := zbud_new x1
  refine g_put d_Rm_init_17 w_Rm_15_Rm (by assumption) (by rfl) (by rfl) (Nat.le_of_ble_eq_true rfl) ?_
  generalize y1 : zput _ _ _ = Y1
  have n0 := zhs_put_ne' y1 n0 (Ne.symm (zhs_ne h0 n0 (by simp)))
  have n1 := zhs_put_ne' y1 n1 (Ne.symm (zhs_ne h0 n1 (by simp)))
  have h0 := zhs_put_same' y1 h0
  refine g_aload_nq d_Rm_init_20 rfl 0 rfl ?_
  refine g_bipush (v := 32) d_Rm_init_21 rfl ?_
  have W2 := zbud_put y1
  refine g_newi (N := 32) d_Rm_init_23 rfl a_int rfl (by decide) (by omega) (by omega) (fun q2 p2 => ?_)
  generalize x2 : znew _ _ _ _ = X2
  have n2 := zhs_new_same' x2
  have h0 := zhs_new_old' x2 h0 p2
  have n0 := zhs_new_old' x2 n0 p2
  have n1 := zhs_new_old' x2 n1 p2
  have V2 := zbud_new x2
  refine g_put d_Rm_init_25 w_Rm_18_Rm (by assumption) (by rfl) (by rfl) (Nat.le_of_ble_eq_true rfl) ?_
  generalize y2 : zput _ _ _ = Y2
  have n0 := zhs_put_ne' y2 n0 (Ne.symm (zhs_ne h0 n0 (by simp)))
  have n1 := zhs_put_ne' y2 n1 (Ne.symm (zhs_ne h0 n1 (by simp)))
  have n2 := zhs_put_ne' y2 n2 (Ne.symm (zhs_ne h0 n2 (by simp)))
  have h0 := zhs_put_same' y2 h0
  refine g_aload_nq d_Rm_init_28 rfl 0 rfl ?_
  refine g_iconst (v := 0) d_Rm_init_29 rfl ?_
  refine g_put d_Rm_init_30 w_Rm_21_Rm (by assumption) (by rfl) (by rfl) (Nat.le_of_ble_eq_true rfl) ?_
  generalize y3 : zput _ _ _ = Y3
  have n0 := zhs_put_ne' y3 n0 (Ne.symm (zhs_ne h0 n0 (by simp)))
  have n1 := zhs_put_ne' y3 n1 (Ne.symm (zhs_ne h0 n1 (by simp)))
  have n2 := zhs_put_ne' y3 n2 (Ne.symm (zhs_ne h0 n2 (by simp)))
  have h0 := zhs_put_same' y3 h0
  refine g_vret d_Rm_init_33 ?_
  have F9 : zfr Z Y3 [a] := (zfr_tr (zfr_new x0 p0) (zfr_tr (zfr_put y0 (by simp)) (zfr_tr (zfr_new x1 p1) (zfr_tr (zfr_put y1 (by simp)) (zfr_tr (zfr_new x2 p2) (zfr_tr (zfr_put y2 (by simp)) (zfr_put y3 (by simp))))))))
  have M_q0 : q0 ∉ Z.1 := fun z => p0 z
  have M_q1 : q1 ∉ Z.1 := fun z => p1 ((zmem_put y0).mpr ((zmem_new x0).mpr (Or.inl z)))
  have M_q2 : q2 ∉ Z.1 := fun z => p2 ((zmem_put y1).mpr ((zmem_new x1).mpr (Or.inl ((zmem_put y0).mpr ((zmem_new x0).mpr (Or.inl z))))))
  have D_q0_q1 : q0 ≠ q1 := fun z => p1 (z ▸ (zmem_put y0).mpr ((zmem_new x0).mpr (Or.inr rfl)))
  have D_q0_q2 : q0 ≠ q2 := fun z => p2 (z ▸ (zmem_put y1).mpr ((zmem_new x1).mpr (Or.inl ((zmem_put y0).mpr ((zmem_new x0).mpr (Or.inr rfl))))))
  have D_q1_q2 : q1 ≠ q2 := fun z => p2 (z ▸ (zmem_put y1).mpr ((zmem_new x1).mpr (Or.inr rfl)))
  have B0 := zbud_new x0
  have B1 := zbud_put y0
  have B2 := zbud_new x1
  have B3 := zbud_put y1
  have B4 := zbud_new x2
  have B5 := zbud_put y2
  have B6 := zbud_put y3
  exact hQ Y3 q0 q1 q2 M_q0 M_q1 M_q2 D_q0_q1 D_q0_q2 D_q1_q2 h0 n0 n1 n2 F9 (by omega) (by omega)

set_option maxHeartbeats 4000000 in
set_option maxRecDepth 100000 in
theorem C_Rm_grow {w : zC} {Z : zZ} {Q : zR → zZ → Prop} {a k v f N : Nat} {x : Int32} {kf wf ff : Nat → Int32} (h0 : zhs Z a (.inr (5, [.ref k, .ref v, .ref f, .int x]))) (h1 : zhs Z k (.inl (w.2.2.2.1 0, N, .inl kf))) (h2 : zhs Z v (.inl (w.2.2.2.1 0, N, .inl wf))) (h3 : zhs Z f (.inl (w.2.2.2.1 0, N, .inl ff))) (hN : 0 < N ∧ N < 3720) (hb : 3 ≤ Z.2.2.1 ∧ 3 * min (2 * N) 3720 ≤ Z.2.2.2) (hQ : ∀ Z' q0 q1 q2, q0 ∉ Z.1 → q1 ∉ Z.1 → q2 ∉ Z.1 → q0 ≠ q1 → q0 ≠ q2 → q1 ≠ q2 → zhs Z' a (.inr (5, [.ref q0, .ref q1, .ref q2, .int x])) → zhs Z' q0 (.inl (w.2.2.2.1 0, min (2 * N) 3720, .inl (va_cpy kf (fun _ => 0) 0 0 (min N (min (2 * N) 3720))))) → zhs Z' q1 (.inl (w.2.2.2.1 0, min (2 * N) 3720, .inl (va_cpy wf (fun _ => 0) 0 0 (min N (min (2 * N) 3720))))) → zhs Z' q2 (.inl (w.2.2.2.1 0, min (2 * N) 3720, .inl (va_cpy ff (fun _ => 0) 0 0 (min N (min (2 * N) 3720))))) → zfr Z Z' [a] → Z'.2.2.1 = Z.2.2.1 - 3 → Z'.2.2.2 = Z.2.2.2 - 3 * min (2 * N) 3720 → Q (.inl none) Z') : Cz w (2, 48) y_Rm_grow (Cond.code y_Rm_grow c_Rm_grow 2 r_Rm_grow :: wz) [.ref a] Z Q := by
  refine Cz.of (by decide +kernel) (by simp [lg_sl, Value.category]) ?_
  show G _ _ _ _ _ _ _ _ [(0, _)] _ _
  refine g_iconst (v := 2) d_Rm_grow_0 rfl ?_
  refine g_aload_nq d_Rm_grow_1 rfl 0 rfl ?_
  refine g_get d_Rm_grow_2 f_Rm_11_Rm (by assumption) (by rfl) ?_
  refine g_alen d_Rm_grow_5 0 (by assumption) rfl ?_
  refine g_imul d_Rm_grow_6 ?_
  rw [show (2 : Int32) * nI N = nI (2 * N) from pk_mul 2 N]
  refine g_sipush (v := 3720) d_Rm_grow_7 rfl ?_
  refine g_callS d_Rm_grow_10 k_jM_min l_Rm_28 s_jM_min (by rfl) (by rfl) (Nat.le_of_ble_eq_true rfl) (by decide) (C_jM_min (a := 2 * N) (b := 3720) (by omega) (by decide) ⟨_, rfl, ?_⟩)
  refine g_istore_n d_Rm_grow_13 rfl (by decide) rfl ?_
  show G _ _ _ _ _ _ _ _ [(1, _), (0, _)] _ _
  refine g_iload_n d_Rm_grow_14 rfl 0 rfl ?_
  refine g_aload_nq d_Rm_grow_15 rfl 1 rfl ?_
  refine g_get d_Rm_grow_16 f_Rm_11_Rm (by assumption) (by rfl) ?_
  refine g_alen d_Rm_grow_19 0 (by assumption) rfl ?_
  refine g_icmp_le (tgt := 59) d_Rm_grow_20 (by decide) (fun h20 => ?_) (fun h20 => ?_)
  · exact absurd ((nI_leI (by omega) (by omega)).mp h20) (by omega)
  · refine g_aload_nq d_Rm_grow_23 rfl 1 rfl ?_
    refine g_aload_nq d_Rm_grow_24 rfl 1 rfl ?_
    refine g_get d_Rm_grow_25 f_Rm_11_Rm (by assumption) (by rfl) ?_
    refine g_iload_n d_Rm_grow_28 rfl 0 rfl ?_
    refine g_callS d_Rm_grow_29 k_jA_copyOf l_Rm_34 s_jA_copyOf (by rfl) (by rfl) (Nat.le_of_ble_eq_true rfl) (by decide) (C_jA_copyOf h1 (by omega) (by omega) (by omega) (by omega) (by omega) (fun q0 p0 => ⟨_, rfl, ?_⟩))
    generalize x0 : znew _ _ _ _ = X0
    have n0 := zhs_new_same' x0
    have h0 := zhs_new_old' x0 h0 p0
    have h1 := zhs_new_old' x0 h1 p0
    have h2 := zhs_new_old' x0 h2 p0
    have h3 := zhs_new_old' x0 h3 p0
    have V0 := zbud_new x0
    refine g_put d_Rm_grow_32 w_Rm_11_Rm (by assumption) (by rfl) (by rfl) (Nat.le_of_ble_eq_true rfl) ?_
    generalize y0 : zput _ _ _ = Y0
    have h1 := zhs_put_ne' y0 h1 (Ne.symm (zhs_ne h0 h1 (by simp)))
    have h2 := zhs_put_ne' y0 h2 (Ne.symm (zhs_ne h0 h2 (by simp)))
    have h3 := zhs_put_ne' y0 h3 (Ne.symm (zhs_ne h0 h3 (by simp)))
    have n0 := zhs_put_ne' y0 n0 (Ne.symm (zhs_ne h0 n0 (by simp)))
    have h0 := zhs_put_same' y0 h0
    refine g_aload_nq d_Rm_grow_35 rfl 1 rfl ?_
    refine g_aload_nq d_Rm_grow_36 rfl 1 rfl ?_
    refine g_get d_Rm_grow_37 f_Rm_15_Rm (by assumption) (by rfl) ?_
    refine g_iload_n d_Rm_grow_40 rfl 0 rfl ?_
    have W1 := zbud_put y0
    refine g_callS d_Rm_grow_41 k_jA_copyOf l_Rm_34 s_jA_copyOf (by rfl) (by rfl) (Nat.le_of_ble_eq_true rfl) (by decide) (C_jA_copyOf h2 (by omega) (by omega) (by omega) (by omega) (by omega) (fun q1 p1 => ⟨_, rfl, ?_⟩))
    generalize x1 : znew _ _ _ _ = X1
    have n1 := zhs_new_same' x1
    have h0 := zhs_new_old' x1 h0 p1
    have h1 := zhs_new_old' x1 h1 p1
    have h2 := zhs_new_old' x1 h2 p1
    have h3 := zhs_new_old' x1 h3 p1
    have n0 := zhs_new_old' x1 n0 p1
    have V1 := zbud_new x1
    refine g_put d_Rm_grow_44 w_Rm_15_Rm (by assumption) (by rfl) (by rfl) (Nat.le_of_ble_eq_true rfl) ?_
    generalize y1 : zput _ _ _ = Y1
    have h1 := zhs_put_ne' y1 h1 (Ne.symm (zhs_ne h0 h1 (by simp)))
    have h2 := zhs_put_ne' y1 h2 (Ne.symm (zhs_ne h0 h2 (by simp)))
    have h3 := zhs_put_ne' y1 h3 (Ne.symm (zhs_ne h0 h3 (by simp)))
    have n0 := zhs_put_ne' y1 n0 (Ne.symm (zhs_ne h0 n0 (by simp)))
    have n1 := zhs_put_ne' y1 n1 (Ne.symm (zhs_ne h0 n1 (by simp)))
    have h0 := zhs_put_same' y1 h0
    refine g_aload_nq d_Rm_grow_47 rfl 1 rfl ?_
    refine g_aload_nq d_Rm_grow_48 rfl 1 rfl ?_
    refine g_get d_Rm_grow_49 f_Rm_18_Rm (by assumption) (by rfl) ?_
    refine g_iload_n d_Rm_grow_52 rfl 0 rfl ?_
    have W2 := zbud_put y1
    refine g_callS d_Rm_grow_53 k_jA_copyOf l_Rm_34 s_jA_copyOf (by rfl) (by rfl) (Nat.le_of_ble_eq_true rfl) (by decide) (C_jA_copyOf h3 (by omega) (by omega) (by omega) (by omega) (by omega) (fun q2 p2 => ⟨_, rfl, ?_⟩))
    generalize x2 : znew _ _ _ _ = X2
    have n2 := zhs_new_same' x2
    have h0 := zhs_new_old' x2 h0 p2
    have h1 := zhs_new_old' x2 h1 p2
    have h2 := zhs_new_old' x2 h2 p2
    have h3 := zhs_new_old' x2 h3 p2
    have n0 := zhs_new_old' x2 n0 p2
    have n1 := zhs_new_old' x2 n1 p2
    have V2 := zbud_new x2
    refine g_put d_Rm_grow_56 w_Rm_18_Rm (by assumption) (by rfl) (by rfl) (Nat.le_of_ble_eq_true rfl) ?_
    generalize y2 : zput _ _ _ = Y2
    have h1 := zhs_put_ne' y2 h1 (Ne.symm (zhs_ne h0 h1 (by simp)))
    have h2 := zhs_put_ne' y2 h2 (Ne.symm (zhs_ne h0 h2 (by simp)))
    have h3 := zhs_put_ne' y2 h3 (Ne.symm (zhs_ne h0 h3 (by simp)))
    have n0 := zhs_put_ne' y2 n0 (Ne.symm (zhs_ne h0 n0 (by simp)))
    have n1 := zhs_put_ne' y2 n1 (Ne.symm (zhs_ne h0 n1 (by simp)))
    have n2 := zhs_put_ne' y2 n2 (Ne.symm (zhs_ne h0 n2 (by simp)))
    have h0 := zhs_put_same' y2 h0
    refine g_vret d_Rm_grow_59 ?_
    have F9 : zfr Z Y2 [a] := (zfr_tr (zfr_new x0 p0) (zfr_tr (zfr_put y0 (by simp)) (zfr_tr (zfr_new x1 p1) (zfr_tr (zfr_put y1 (by simp)) (zfr_tr (zfr_new x2 p2) (zfr_put y2 (by simp)))))))
    have M_q0 : q0 ∉ Z.1 := fun z => p0 z
    have M_q1 : q1 ∉ Z.1 := fun z => p1 ((zmem_put y0).mpr ((zmem_new x0).mpr (Or.inl z)))
    have M_q2 : q2 ∉ Z.1 := fun z => p2 ((zmem_put y1).mpr ((zmem_new x1).mpr (Or.inl ((zmem_put y0).mpr ((zmem_new x0).mpr (Or.inl z))))))
    have D_q0_q1 : q0 ≠ q1 := fun z => p1 (z ▸ (zmem_put y0).mpr ((zmem_new x0).mpr (Or.inr rfl)))
    have D_q0_q2 : q0 ≠ q2 := fun z => p2 (z ▸ (zmem_put y1).mpr ((zmem_new x1).mpr (Or.inl ((zmem_put y0).mpr ((zmem_new x0).mpr (Or.inr rfl))))))
    have D_q1_q2 : q1 ≠ q2 := fun z => p2 (z ▸ (zmem_put y1).mpr ((zmem_new x1).mpr (Or.inr rfl)))
    have B0 := zbud_new x0
    have B1 := zbud_put y0
    have B2 := zbud_new x1
    have B3 := zbud_put y1
    have B4 := zbud_new x2
    have B5 := zbud_put y2
    exact hQ Y2 q0 q1 q2 M_q0 M_q1 M_q2 D_q0_q1 D_q0_q2 D_q1_q2 h0 n0 n1 n2 F9 (by omega) (by omega)
