/-! Remarks: rows of remarks that grow; Arrays.copyOf, Math.min, Math.max -/
/-- what was there and isn't in X is still there -/
def zfr (Z Z' : zZ) (X : List Nat) : Prop := ∀ b e, b ∉ X → zhs Z b e → zhs Z' b e
theorem zfr_rf {Z : zZ} {X : List Nat} : zfr Z Z X := fun _ _ _ h => h
theorem zfr_put {Z Z' : zZ} {a : Nat} {e : va_E} {X : List Nat} (h : zput Z a e = Z') (ha : a ∈ X) : zfr Z Z' X := fun b e' hb hz => by
  rw [← h]
  exact zhs_put_ne hz (fun q => hb (q ▸ ha))
theorem zfr_new {Z Z' : zZ} {q n : Nat} {e : va_E} {X : List Nat} (h : znew Z q e n = Z') (hq : q ∉ Z.1) : zfr Z Z' X := fun b e' _ hz => by
  rw [← h]
  exact zhs_new_old hz hq
theorem zfr_tr {Z Z1 Z2 : zZ} {X : List Nat} (h1 : zfr Z Z1 X) (h2 : zfr Z1 Z2 X) : zfr Z Z2 X := fun b e hb hz => h2 b e hb (h1 b e hb hz)
theorem zfr_mono {Z Z' : zZ} {X Y : List Nat} (h : zfr Z Z' X) (hs : ∀ a ∈ X, a ∈ Y) : zfr Z Z' Y := fun b e hb hz => h b e (fun q => hb (hs b q)) hz
/-- the addresses that were there are still there -/
theorem zmem_put {Z Z' : zZ} {a b : Nat} {e : va_E} (h : zput Z a e = Z') : b ∈ Z'.1 ↔ b ∈ Z.1 := by rw [← h]; exact Iff.rfl
theorem zmem_new {Z Z' : zZ} {q b n : Nat} {e : va_E} (h : znew Z q e n = Z') : b ∈ Z'.1 ↔ b ∈ Z.1 ∨ b = q := by
  rw [← h]
  show b ∈ Z.1 ++ [q] ↔ _
  rw [List.mem_append, List.mem_singleton]
theorem zbud_put {Z Z' : zZ} {a : Nat} {e : va_E} (h : zput Z a e = Z') : Z'.2.2.1 = Z.2.2.1 ∧ Z'.2.2.2 = Z.2.2.2 := by rw [← h]; exact ⟨rfl, rfl⟩
theorem zbud_new {Z Z' : zZ} {q n : Nat} {e : va_E} (h : znew Z q e n = Z') : Z'.2.2.1 = Z.2.2.1 - 1 ∧ Z'.2.2.2 = Z.2.2.2 - n := by rw [← h]; exact ⟨rfl, rfl⟩

set_option maxHeartbeats 4000000 in
set_option maxRecDepth 100000 in
theorem C_jM_min {w : zC} {Z : zZ} {Q : zR → zZ → Prop} {a b : Nat} (ha : a < 2 ^ 31) (hb : b < 2 ^ 31) (hQ : Q (.inl (some (.int (nI (min a b))))) Z) : Cz w (0, 0) y_jM_min (Cond.code y_jM_min c_jM_min 2 r_jM_min :: wz) [.int (nI a), .int (nI b)] Z Q := by
  refine Cz.ofF (by decide +kernel) (by simp [lg_sl, Value.category]) ?_
  show G _ _ _ _ _ _ _ _ [(0, _), (1, _)] _ _
  refine g_iload_n d_jM_min_0 rfl 0 rfl ?_
  refine g_iload_n d_jM_min_1 rfl 1 rfl ?_
  refine g_icmp_gt (tgt := 9) d_jM_min_2 (by decide) (fun h2 => ?_) (fun h2 => ?_)
  · refine g_iload_n d_jM_min_9 rfl 1 rfl ?_
    refine g_iret d_jM_min_10 ?_
    rw [nI_ltI hb ha] at h2
    first | (rw [Nat.min_eq_left (by omega)] at hQ; exact hQ) | (rw [Nat.min_eq_right (by omega)] at hQ; exact hQ)
  · refine g_iload_n d_jM_min_5 rfl 0 rfl ?_
    refine g_goto (tgt := 10) d_jM_min_6 (by decide) ?_
    refine g_iret d_jM_min_10 ?_
    rw [nI_ltI hb ha] at h2
    first | (rw [Nat.min_eq_left (by omega)] at hQ; exact hQ) | (rw [Nat.min_eq_right (by omega)] at hQ; exact hQ)

set_option maxHeartbeats 4000000 in
set_option maxRecDepth 100000 in
theorem C_jM_max {w : zC} {Z : zZ} {Q : zR → zZ → Prop} {a b : Int32} (hQ : Q (.inl (some (.int (if a < b then b else a)))) Z) : Cz w (0, 0) y_jM_max (Cond.code y_jM_max c_jM_max 2 r_jM_max :: wz) [.int a, .int b] Z Q := by
  refine Cz.ofF (by decide +kernel) (by simp [lg_sl, Value.category]) ?_
  show G _ _ _ _ _ _ _ _ [(0, _), (1, _)] _ _
  refine g_iload_n d_jM_max_0 rfl 0 rfl ?_
  refine g_iload_n d_jM_max_1 rfl 1 rfl ?_
  refine g_icmp_lt (tgt := 9) d_jM_max_2 (by decide) (fun h2 => ?_) (fun h2 => ?_)
  · refine g_iload_n d_jM_max_9 rfl 1 rfl ?_
    refine g_iret d_jM_max_10 ?_
    first | (rw [if_pos h2] at hQ; exact hQ) | (rw [if_neg h2] at hQ; exact hQ)
  · refine g_iload_n d_jM_max_5 rfl 0 rfl ?_
    refine g_goto (tgt := 10) d_jM_max_6 (by decide) ?_
    refine g_iret d_jM_max_10 ?_
    first | (rw [if_pos h2] at hQ; exact hQ) | (rw [if_neg h2] at hQ; exact hQ)

set_option maxHeartbeats 4000000 in
set_option maxRecDepth 100000 in
theorem C_jA_copyOf {w : zC} {Z : zZ} {Q : zR → zZ → Prop} {a n0 N : Nat} {f : Nat → Int32} (h0 : zhs Z a (.inl (w.2.2.2.1 0, n0, .inl f))) (hne : ¬ N = n0) (hN : N ≤ 60000) (hn0 : n0 ≤ 60000) (h1 : 1 ≤ Z.2.2.1) (h2 : N ≤ Z.2.2.2) (hQ : ∀ q, q ∉ Z.1 → Q (.inl (some (.ref q))) (znew Z q (.inl (w.2.2.2.1 0, N, .inl (va_cpy f (fun _ => 0) 0 0 (min n0 N)))) N)) : Cz w (1, 26) y_jA_copyOf (Cond.code y_jA_copyOf c_jA_copyOf 3 r_jA_copyOf :: wz) [.ref a, .int (nI N)] Z Q := by
  refine Cz.ofF (by decide +kernel) (by simp [lg_sl, Value.category]) ?_
  show G _ _ _ _ _ _ _ _ [(0, _), (1, _)] _ _
  refine g_iload_n d_jA_copyOf_0 rfl 1 rfl ?_
  refine g_aload_nq d_jA_copyOf_1 rfl 0 rfl ?_
  refine g_alen d_jA_copyOf_2 0 (by assumption) rfl ?_
  refine g_icmp_ne (tgt := 14) d_jA_copyOf_3 (by decide) (fun h3 => ?_) (fun h3 => ?_)
  · refine g_iload_n d_jA_copyOf_14 rfl 1 rfl ?_
    refine g_newi d_jA_copyOf_15 rfl a_int (by rfl) hN h1 h2 (fun q hq => ?_)
    generalize e1 : znew _ _ _ _ = Z1
    have hn := zhs_new_same' e1
    have h0 := zhs_new_old' e1 h0 hq
    refine g_astore_nq d_jA_copyOf_17 rfl (by decide) rfl ?_
    show G _ _ _ _ _ _ _ _ [(2, _), (0, _), (1, _)] _ _
    refine g_aload_nq d_jA_copyOf_18 rfl 1 rfl ?_
    refine g_iconst (v := 0) d_jA_copyOf_19 rfl ?_
    refine g_aload_nq d_jA_copyOf_20 rfl 0 rfl ?_
    refine g_iconst (v := 0) d_jA_copyOf_21 rfl ?_
    refine g_aload_nq d_jA_copyOf_22 rfl 1 rfl ?_
    refine g_alen d_jA_copyOf_23 0 (by assumption) rfl ?_
    refine g_iload_n d_jA_copyOf_24 rfl 2 rfl ?_
    refine g_callS d_jA_copyOf_25 k_jM_min l_jA_304 s_jM_min (by rfl) (by rfl) (Nat.le_of_ble_eq_true rfl) (by decide) (C_jM_min (by omega) (by omega) ⟨_, rfl, ?_⟩)
    have c1 := @nI_clamp (min n0 N) (by omega)
    have c0 : (0 : Int32).toNatClampNeg = 0 := sb_cl0
    refine g_acopy d_jA_copyOf_28 l_jA_150 (by assumption) (by assumption) (by decide) (by decide) (nI_pos (by omega)) (by rw [c0, c1]; omega) (by rw [c0, c1]; omega) (by decide) (Nat.le_of_ble_eq_true rfl) ?_
    rw [c0, c1]
    refine g_aload_nq d_jA_copyOf_31 rfl 0 rfl ?_
    refine g_aret d_jA_copyOf_32 ?_
    rw [← e1, znew_put]
    exact hQ q hq
  · exact absurd ((nI_eq (by omega) (by omega)).mp h3) hne

set_option maxHeartbeats 4000000 in
set_option maxRecDepth 100000 in
theorem C_Rm_count {w : zC} {Z : zZ} {Q : zR → zZ → Prop} {a k v f : Nat} {x : Int32} (h0 : zhs Z a (.inr (5, [.ref k, .ref v, .ref f, .int x]))) (hQ : Q (.inl (some (.int x))) Z) : Cz w (0, 0) y_Rm_count (Cond.code y_Rm_count c_Rm_count 1 r_Rm_count :: wz) [.ref a] Z Q := by
  refine Cz.of (by decide +kernel) (by simp [lg_sl, Value.category]) ?_
  show G _ _ _ _ _ _ _ _ [(0, _)] _ _
  refine g_aload_nq d_Rm_count_0 rfl 0 rfl ?_
  refine g_get d_Rm_count_1 f_Rm_21_Rm (by assumption) (by rfl) ?_
  refine g_iret d_Rm_count_4 ?_
  exact hQ

set_option maxHeartbeats 4000000 in
set_option maxRecDepth 100000 in
theorem C_Rm_wipe {w : zC} {Z : zZ} {Q : zR → zZ → Prop} {a k v f : Nat} {x : Int32} (h0 : zhs Z a (.inr (5, [.ref k, .ref v, .ref f, .int x]))) (hQ : Q (.inl none) (zput Z a (.inr (5, [.ref k, .ref v, .ref f, .int 0])))) : Cz w (0, 0) y_Rm_wipe (Cond.code y_Rm_wipe c_Rm_wipe 1 r_Rm_wipe :: wz) [.ref a] Z Q := by
  refine Cz.of (by decide +kernel) (by simp [lg_sl, Value.category]) ?_
  show G _ _ _ _ _ _ _ _ [(0, _)] _ _
  refine g_aload_nq d_Rm_wipe_0 rfl 0 rfl ?_
  refine g_iconst (v := 0) d_Rm_wipe_1 rfl ?_
  refine g_put d_Rm_wipe_2 w_Rm_21_Rm (by assumption) (by rfl) (by rfl) (Nat.le_of_ble_eq_true rfl) ?_
  refine g_vret d_Rm_wipe_5 ?_
  exact hQ

set_option maxHeartbeats 4000000 in
set_option maxRecDepth 100000 in
theorem C_Rm_setFirst {w : zC} {Z : zZ} {Q : zR → zZ → Prop} {a k v f c N : Nat} {ff : Nat → Int32} {i x : Int32} (h0 : zhs Z a (.inr (5, [.ref k, .ref v, .ref f, .int (nI c)]))) (h1 : zhs Z f (.inl (w.2.2.2.1 0, N, .inl ff))) (hc : c ≤ N) (hN : N < 2 ^ 31) (hi : ¬ i < 0 ∧ ¬ nI c ≤ i) (hQ : Q (.inl none) (zput Z f (.inl (w.2.2.2.1 0, N, .inl (upd ff i.toNatClampNeg x))))) : Cz w (1, 21) y_Rm_setFirst (Cond.code y_Rm_setFirst c_Rm_setFirst 3 r_Rm_setFirst :: wz) [.ref a, .int i, .int x] Z Q := by
  refine Cz.of (by decide +kernel) (by simp [lg_sl, Value.category]) ?_
  show G _ _ _ _ _ _ _ _ [(0, _), (1, _), (2, _)] _ _
  refine g_iload_n d_Rm_setFirst_0 rfl 1 rfl ?_
  refine g_aload_nq d_Rm_setFirst_1 rfl 0 rfl ?_
  refine g_get d_Rm_setFirst_2 f_Rm_21_Rm (by assumption) (by rfl) ?_
  refine g_callSN d_Rm_setFirst_5 k_K_isBelow l_Rm_40 s_K_isBelow (by rfl) (by rfl) (Nat.le_of_ble_eq_true rfl) (by decide) (C_K_isBelow ⟨_, rfl, ?_⟩)
  first | refine g_if_eqB (tgt := 27) d_Rm_setFirst_8 (by decide) (fun h8 => ?_) (fun h8 => ?_) | refine g_if_eq (tgt := 27) d_Rm_setFirst_8 (by decide) (fun h8 => ?_) (fun h8 => ?_)
  · exact absurd hi h8
  · refine g_iload_n d_Rm_setFirst_11 rfl 1 rfl ?_
    refine g_aload_nq d_Rm_setFirst_12 rfl 0 rfl ?_
    refine g_get d_Rm_setFirst_13 f_Rm_18_Rm (by assumption) (by rfl) ?_
    refine g_alen d_Rm_setFirst_16 0 (by assumption) rfl ?_
    refine g_icmp_ge (tgt := 27) d_Rm_setFirst_17 (by decide) (fun h17 => ?_) (fun h17 => ?_)
    · exact absurd h17 (vin_le hi.2 hc hN)
    · refine g_aload_nq d_Rm_setFirst_20 rfl 0 rfl ?_
      refine g_get d_Rm_setFirst_21 f_Rm_18_Rm (by assumption) (by rfl) ?_
      refine g_iload_n d_Rm_setFirst_24 rfl 1 rfl ?_
      refine g_iload_n d_Rm_setFirst_25 rfl 2 rfl ?_
      refine g_iast d_Rm_setFirst_26 (by assumption) (vin_of hi.1 h17 hN) ?_
      refine g_vret d_Rm_setFirst_27 ?_
      exact hQ
