/-! Part, Net, Pin -/
theorem sw_15_19 (x : Int32) : (x.toInt < 15 ∨ 19 < x.toInt) ∨ x = 15 ∨ x = 16 ∨ x = 17 ∨ x = 18 ∨ x = 19 := by
  by_cases h15 : x = 15
  · simp [h15]
  have n15 : ¬ x.toInt = 15 := fun q => h15 (Int32.toInt_inj.mp (q.trans (by decide)))
  by_cases h16 : x = 16
  · simp [h16]
  have n16 : ¬ x.toInt = 16 := fun q => h16 (Int32.toInt_inj.mp (q.trans (by decide)))
  by_cases h17 : x = 17
  · simp [h17]
  have n17 : ¬ x.toInt = 17 := fun q => h17 (Int32.toInt_inj.mp (q.trans (by decide)))
  by_cases h18 : x = 18
  · simp [h18]
  have n18 : ¬ x.toInt = 18 := fun q => h18 (Int32.toInt_inj.mp (q.trans (by decide)))
  by_cases h19 : x = 19
  · simp [h19]
  have n19 : ¬ x.toInt = 19 := fun q => h19 (Int32.toInt_inj.mp (q.trans (by decide)))
  exact Or.inl (by omega)
set_option maxHeartbeats 4000000 in
set_option maxRecDepth 100000 in
theorem C_Pa_setField {w : zC} {Z : zZ} {Q : zR → zZ → Prop} {a q g : Nat} {s p n : Int32} (h0 : zhs Z a (.inr (6, [.int s, .int p, .ref q, .int n, .ref g]))) {ff : Nat → Int64} (h2 : zhs Z g (.inl (w.2.2.2.1 1, 8, .inr (.inl ff)))) {k : Nat} {v : Int64} (hk : k < 8) (hQ : Q (.inl (some (.int (zb (¬ ff k = v))))) (zput Z g (.inl (w.2.2.2.1 1, 8, .inr (.inl (vp_updL ff k v)))))) : Cz w (1, 21) y_Pa_setField (Cond.code y_Pa_setField c_Pa_setField 5 r_Pa_setField :: wz) [.ref a, .int (nI k), .long v] Z Q := by
  refine Cz.of (by decide +kernel) (by simp [lg_sl, Value.category]) ?_
  show G _ _ _ _ _ _ _ _ [(0, _), (1, _), (2, _)] _ _
  refine g_iload_n d_Pa_setField_0 rfl 1 rfl ?_
  refine g_aload_nq d_Pa_setField_1 rfl 0 rfl ?_
  refine g_get d_Pa_setField_2 f_Pa_9_Pa (by assumption) (by first | rfl | assumption) ?_
  refine g_alen d_Pa_setField_5 1 (by assumption) rfl ?_
  refine g_callSN d_Pa_setField_6 k_K_isBelow l_Pa_15 s_K_isBelow (by rfl) (by rfl) (Nat.le_of_ble_eq_true rfl) (by decide) (C_K_isBelow ⟨_, rfl, ?_⟩)
  first | refine g_if_neB (tgt := 14) d_Pa_setField_9 (by decide) (fun h9 => ?_) (fun h9 => ?_) | refine g_if_ne (tgt := 14) d_Pa_setField_9 (by decide) (fun h9 => ?_) (fun h9 => ?_)
  · refine g_aload_nq d_Pa_setField_14 rfl 0 rfl ?_
    refine g_get d_Pa_setField_15 f_Pa_9_Pa (by assumption) (by first | rfl | assumption) ?_
    refine g_iload_n d_Pa_setField_18 rfl 1 rfl ?_
    refine g_lald d_Pa_setField_19 (by assumption) (vp_in_nI hk (by decide)) ?_
    rw [nI_clamp (by omega)]
    refine g_lload_n d_Pa_setField_20 rfl 2 rfl ?_
    refine g_lcmp d_Pa_setField_21 ?_
    first | refine g_if_eqB (tgt := 29) d_Pa_setField_22 (by decide) (fun h22 => ?_) (fun h22 => ?_) | refine g_if_eq (tgt := 29) d_Pa_setField_22 (by decide) (fun h22 => ?_) (fun h22 => ?_)
    · rw [lg_cmp_eq] at h22
      rw [zb_f (fun z => z h22)] at hQ
      refine g_iconst (v := 0) d_Pa_setField_29 rfl ?_
      refine g_istore d_Pa_setField_30 (by decide) rfl ?_
      show G _ _ _ _ _ _ _ _ [(4, _), (0, _), (1, _), (2, _)] _ _
      refine g_aload_nq d_Pa_setField_32 rfl 1 rfl ?_
      refine g_get d_Pa_setField_33 f_Pa_9_Pa (by assumption) (by first | rfl | assumption) ?_
      refine g_iload_n d_Pa_setField_36 rfl 2 rfl ?_
      refine g_lload_n d_Pa_setField_37 rfl 3 rfl ?_
      refine g_last d_Pa_setField_38 (by assumption) (vp_in_nI hk (by decide)) ?_
      rw [nI_clamp (by omega)]
      refine g_iload d_Pa_setField_39 0 rfl ?_
      refine g_zret d_Pa_setField_41 ?_ ?_
      · first | rfl | exact zb_nar _ | exact zb_narc (by assumption)
      · exact hQ
    · rw [lg_cmp_eq] at h22
      rw [zb_t h22] at hQ
      refine g_iconst (v := 1) d_Pa_setField_25 rfl ?_
      refine g_goto (tgt := 30) d_Pa_setField_26 (by decide) ?_
      refine g_istore d_Pa_setField_30 (by decide) rfl ?_
      show G _ _ _ _ _ _ _ _ [(4, _), (0, _), (1, _), (2, _)] _ _
      refine g_aload_nq d_Pa_setField_32 rfl 1 rfl ?_
      refine g_get d_Pa_setField_33 f_Pa_9_Pa (by assumption) (by first | rfl | assumption) ?_
      refine g_iload_n d_Pa_setField_36 rfl 2 rfl ?_
      refine g_lload_n d_Pa_setField_37 rfl 3 rfl ?_
      refine g_last d_Pa_setField_38 (by assumption) (vp_in_nI hk (by decide)) ?_
      rw [nI_clamp (by omega)]
      refine g_iload d_Pa_setField_39 0 rfl ?_
      refine g_zret d_Pa_setField_41 ?_ ?_
      · first | rfl | exact zb_nar _ | exact zb_narc (by assumption)
      · exact hQ
  · exact absurd ⟨nI_pos (by omega), nI_ge hk (by decide)⟩ h9

set_option maxHeartbeats 4000000 in
set_option maxRecDepth 100000 in
theorem C_Pa_fieldAt {w : zC} {Z : zZ} {Q : zR → zZ → Prop} {a q g : Nat} {s p n : Int32} (h0 : zhs Z a (.inr (6, [.int s, .int p, .ref q, .int n, .ref g]))) {ff : Nat → Int64} (h2 : zhs Z g (.inl (w.2.2.2.1 1, 8, .inr (.inl ff)))) {x : Int32} (hQ : Q (.inl (some (.long (if ¬ x < 0 ∧ ¬ nI 8 ≤ x then ff x.toNatClampNeg else 0)))) Z) : Cz w (1, 21) y_Pa_fieldAt (Cond.code y_Pa_fieldAt c_Pa_fieldAt 2 r_Pa_fieldAt :: wz) [.ref a, .int x] Z Q := by
  refine Cz.of (by decide +kernel) (by simp [lg_sl, Value.category]) ?_
  show G _ _ _ _ _ _ _ _ [(0, _), (1, _)] _ _
  refine g_iload_n d_Pa_fieldAt_0 rfl 1 rfl ?_
  refine g_aload_nq d_Pa_fieldAt_1 rfl 0 rfl ?_
  refine g_get d_Pa_fieldAt_2 f_Pa_9_Pa (by assumption) (by first | rfl | assumption) ?_
  refine g_alen d_Pa_fieldAt_5 1 (by assumption) rfl ?_
  refine g_callSN d_Pa_fieldAt_6 k_K_isBelow l_Pa_15 s_K_isBelow (by rfl) (by rfl) (Nat.le_of_ble_eq_true rfl) (by decide) (C_K_isBelow ⟨_, rfl, ?_⟩)
  first | refine g_if_eqB (tgt := 21) d_Pa_fieldAt_9 (by decide) (fun h9 => ?_) (fun h9 => ?_) | refine g_if_eq (tgt := 21) d_Pa_fieldAt_9 (by decide) (fun h9 => ?_) (fun h9 => ?_)
  · refine g_lconst (v := 0) d_Pa_fieldAt_21 rfl ?_
    refine g_lret d_Pa_fieldAt_22 ?_
    first | (rw [if_pos h9] at hQ; exact hQ) | (rw [if_neg h9] at hQ; exact hQ)
  · refine g_aload_nq d_Pa_fieldAt_12 rfl 0 rfl ?_
    refine g_get d_Pa_fieldAt_13 f_Pa_9_Pa (by assumption) (by first | rfl | assumption) ?_
    refine g_iload_n d_Pa_fieldAt_16 rfl 1 rfl ?_
    refine g_lald d_Pa_fieldAt_17 (by assumption) (vin_of h9.1 h9.2 (by decide)) ?_
    refine g_goto (tgt := 22) d_Pa_fieldAt_18 (by decide) ?_
    refine g_lret d_Pa_fieldAt_22 ?_
    first | (rw [if_pos h9] at hQ; exact hQ) | (rw [if_neg h9] at hQ; exact hQ)

set_option maxHeartbeats 4000000 in
set_option maxRecDepth 100000 in
theorem C_Pa_builtInWeight {w : zC} {Z : zZ} {Q : zR → zZ → Prop} {a b : Nat} {x : Int32} (hQ : Q (.inl (some (.int 0))) Z) : Cz w (0, 0) y_Pa_builtInWeight (Cond.code y_Pa_builtInWeight c_Pa_builtInWeight 3 r_Pa_builtInWeight :: wz) [.ref a, .int x, .ref b] Z Q := by
  refine Cz.of (by decide +kernel) (by simp [lg_sl, Value.category]) ?_
  show G _ _ _ _ _ _ _ _ [(0, _), (1, _), (2, _)] _ _
  refine g_iconst (v := 0) d_Pa_builtInWeight_0 rfl ?_
  refine g_iret d_Pa_builtInWeight_1 ?_
  exact hQ

set_option maxHeartbeats 4000000 in
set_option maxRecDepth 100000 in
theorem C_Pa_ownValueOf {w : zC} {Z : zZ} {Q : zR → zZ → Prop} {a q g : Nat} {s p n : Int32} (h0 : zhs Z a (.inr (6, [.int s, .int p, .ref q, .int n, .ref g]))) {ff : Nat → Int64} (h2 : zhs Z g (.inl (w.2.2.2.1 1, 8, .inr (.inl ff)))) {t x : Int32} (hQ : Q (.inl (some (.long (if t = 14 then (if ¬ x < 0 ∧ ¬ nI 8 ≤ x then ff x.toNatClampNeg else 0) else 0)))) Z) : Cz w (2, 42) y_Pa_ownValueOf (Cond.code y_Pa_ownValueOf c_Pa_ownValueOf 3 r_Pa_ownValueOf :: wz) [.ref a, .int t, .int x] Z Q := by
  refine Cz.of (by decide +kernel) (by simp [lg_sl, Value.category]) ?_
  show G _ _ _ _ _ _ _ _ [(0, _), (1, _), (2, _)] _ _
  refine g_iload_n d_Pa_ownValueOf_0 rfl 1 rfl ?_
  refine g_bipush (v := 14) d_Pa_ownValueOf_1 rfl ?_
  refine g_icmp_ne (tgt := 14) d_Pa_ownValueOf_3 (by decide) (fun h3 => ?_) (fun h3 => ?_)
  · refine g_lconst (v := 0) d_Pa_ownValueOf_14 rfl ?_
    refine g_lret d_Pa_ownValueOf_15 ?_
    first | (rw [if_pos h3] at hQ; exact hQ) | (rw [if_neg h3] at hQ; exact hQ)
  · refine g_aload_nq d_Pa_ownValueOf_6 rfl 0 rfl ?_
    refine g_iload_n d_Pa_ownValueOf_7 rfl 2 rfl ?_
    refine g_callV d_Pa_ownValueOf_8 k_Pa_fieldAt l_Pa_21 i_Pa_fieldAt rfl q_Pa_Pa_fieldAt_Pa (by assumption) (by rfl) (by rfl) (Nat.le_of_ble_eq_true rfl) (by decide) (C_Pa_fieldAt h0 h2 ⟨_, rfl, ?_⟩)
    refine g_goto (tgt := 15) d_Pa_ownValueOf_11 (by decide) ?_
    refine g_lret d_Pa_ownValueOf_15 ?_
    first | (rw [if_pos h3] at hQ; exact hQ) | (rw [if_neg h3] at hQ; exact hQ)

set_option maxHeartbeats 4000000 in
set_option maxRecDepth 100000 in
theorem C_Ne_name {w : zC} {Z : zZ} {Q : zR → zZ → Prop} {a q : Nat} {s p n m e : Int32} (h0 : zhs Z a (.inr (7, [.int s, .int p, .ref q, .int n, .int m, .int e]))) (hQ : Q (.inl (some (.int m))) Z) : Cz w (0, 0) y_Ne_name (Cond.code y_Ne_name c_Ne_name 1 r_Ne_name :: wz) [.ref a] Z Q := by
  refine Cz.of (by decide +kernel) (by simp [lg_sl, Value.category]) ?_
  show G _ _ _ _ _ _ _ _ [(0, _)] _ _
  refine g_aload_nq d_Ne_name_0 rfl 0 rfl ?_
  refine g_get d_Ne_name_1 f_Ne_15_Ne (by assumption) (by first | rfl | assumption) ?_
  refine g_iret d_Ne_name_4 ?_
  exact hQ

set_option maxHeartbeats 4000000 in
set_option maxRecDepth 100000 in
theorem C_Ne_ownValueOf {w : zC} {Z : zZ} {Q : zR → zZ → Prop} {a q : Nat} {s p n m e : Int32} (h0 : zhs Z a (.inr (7, [.int s, .int p, .ref q, .int n, .int m, .int e]))) {t x : Int32} (hQ : Q (.inl (some (.long (if t = 17 then m.toInt64 else 0)))) Z) : Cz w (0, 0) y_Ne_ownValueOf (Cond.code y_Ne_ownValueOf c_Ne_ownValueOf 3 r_Ne_ownValueOf :: wz) [.ref a, .int t, .int x] Z Q := by
  refine Cz.of (by decide +kernel) (by simp [lg_sl, Value.category]) ?_
  show G _ _ _ _ _ _ _ _ [(0, _), (1, _), (2, _)] _ _
  refine g_iload_n d_Ne_ownValueOf_0 rfl 1 rfl ?_
  refine g_bipush (v := 17) d_Ne_ownValueOf_1 rfl ?_
  refine g_icmp_ne (tgt := 14) d_Ne_ownValueOf_3 (by decide) (fun h3 => ?_) (fun h3 => ?_)
  · refine g_lconst (v := 0) d_Ne_ownValueOf_14 rfl ?_
    refine g_lret d_Ne_ownValueOf_15 ?_
    first | (rw [if_pos h3] at hQ; exact hQ) | (rw [if_neg h3] at hQ; exact hQ)
  · refine g_aload_nq d_Ne_ownValueOf_6 rfl 0 rfl ?_
    refine g_get d_Ne_ownValueOf_7 f_Ne_15_Ne (by assumption) (by first | rfl | assumption) ?_
    refine g_i2l d_Ne_ownValueOf_10 rfl ?_
    refine g_goto (tgt := 15) d_Ne_ownValueOf_11 (by decide) ?_
    refine g_lret d_Ne_ownValueOf_15 ?_
    first | (rw [if_pos h3] at hQ; exact hQ) | (rw [if_neg h3] at hQ; exact hQ)

set_option maxHeartbeats 4000000 in
set_option maxRecDepth 100000 in
theorem C_Ne_noteEnd {w : zC} {Z : zZ} {Q : zR → zZ → Prop} {a q : Nat} {s p n m e : Int32} (h0 : zhs Z a (.inr (7, [.int s, .int p, .ref q, .int n, .int m, .int e]))) {x y : Int64} (hQ : Q (.inl none) (zput Z a (.inr (7, [.int s, .int p, .ref q, .int n, .int m, .int (if (¬ x - x / 100 * 100 = 0 ∨ ¬ y - y / 100 * 100 = 0) then 1 else e)])))) : Cz w (0, 0) y_Ne_noteEnd (Cond.code y_Ne_noteEnd c_Ne_noteEnd 5 r_Ne_noteEnd :: wz) [.ref a, .long x, .long y] Z Q := by
  refine Cz.of (by decide +kernel) (by simp [lg_sl, Value.category]) ?_
  show G _ _ _ _ _ _ _ _ [(0, _), (1, _), (3, _)] _ _
  refine g_lload_n d_Ne_noteEnd_0 rfl 1 rfl ?_
  refine g_ldc2 v_Ne_19 d_Ne_noteEnd_1 ?_
  refine g_lrem d_Ne_noteEnd_4 (by decide) ?_
  refine g_lconst (v := 0) d_Ne_noteEnd_5 rfl ?_
  refine g_lcmp d_Ne_noteEnd_6 ?_
  first | refine g_if_neB (tgt := 20) d_Ne_noteEnd_7 (by decide) (fun h7 => ?_) (fun h7 => ?_) | refine g_if_ne (tgt := 20) d_Ne_noteEnd_7 (by decide) (fun h7 => ?_) (fun h7 => ?_)
  · rw [lg_cmp_eq] at h7
    rw [if_pos (Or.inl h7)] at hQ
    refine g_aload_nq d_Ne_noteEnd_20 rfl 0 rfl ?_
    refine g_iconst (v := 1) d_Ne_noteEnd_21 rfl ?_
    refine g_put d_Ne_noteEnd_22 w_Ne_9_Ne (by assumption) (by first | rfl | exact zb_nar _) (by first | rfl | exact zb_fit _ | exact zrf_fit _) (by first | exact Nat.le_of_ble_eq_true rfl | omega) ?_
    refine g_vret d_Ne_noteEnd_25 ?_
    exact hQ
  · rw [lg_cmp_eq] at h7
    refine g_lload_n d_Ne_noteEnd_10 rfl 2 rfl ?_
    refine g_ldc2 v_Ne_19 d_Ne_noteEnd_11 ?_
    refine g_lrem d_Ne_noteEnd_14 (by decide) ?_
    refine g_lconst (v := 0) d_Ne_noteEnd_15 rfl ?_
    refine g_lcmp d_Ne_noteEnd_16 ?_
    first | refine g_if_eqB (tgt := 25) d_Ne_noteEnd_17 (by decide) (fun h17 => ?_) (fun h17 => ?_) | refine g_if_eq (tgt := 25) d_Ne_noteEnd_17 (by decide) (fun h17 => ?_) (fun h17 => ?_)
    · rw [lg_cmp_eq] at h17
      rw [if_neg (fun z => z.elim (fun z => z h7) (fun z => z h17)), zput_self h0] at hQ
      refine g_vret d_Ne_noteEnd_25 ?_
      exact hQ
    · rw [lg_cmp_eq] at h17
      rw [if_pos (Or.inr h17)] at hQ
      refine g_aload_nq d_Ne_noteEnd_20 rfl 0 rfl ?_
      refine g_iconst (v := 1) d_Ne_noteEnd_21 rfl ?_
      refine g_put d_Ne_noteEnd_22 w_Ne_9_Ne (by assumption) (by first | rfl | exact zb_nar _) (by first | rfl | exact zb_fit _ | exact zrf_fit _) (by first | exact Nat.le_of_ble_eq_true rfl | omega) ?_
      refine g_vret d_Ne_noteEnd_25 ?_
      exact hQ

set_option maxHeartbeats 4000000 in
set_option maxRecDepth 100000 in
theorem C_Pi_kind {w : zC} {Z : zZ} {Q : zR → zZ → Prop} {a t : Nat} {s p k : Int32} {r : Option Nat} (h0 : zhs Z a (.inr (8, [.int s, .int p, .ref t, .int k, va_rf r]))) (hQ : Q (.inl (some (.int k))) Z) : Cz w (0, 0) y_Pi_kind (Cond.code y_Pi_kind c_Pi_kind 1 r_Pi_kind :: wz) [.ref a] Z Q := by
  refine Cz.of (by decide +kernel) (by simp [lg_sl, Value.category]) ?_
  show G _ _ _ _ _ _ _ _ [(0, _)] _ _
  refine g_aload_nq d_Pi_kind_0 rfl 0 rfl ?_
  refine g_get d_Pi_kind_1 f_Pi_25_Pi (by assumption) (by first | rfl | assumption) ?_
  refine g_iret d_Pi_kind_4 ?_
  exact hQ

set_option maxHeartbeats 4000000 in
set_option maxRecDepth 100000 in
theorem C_Pi_netOrNull {w : zC} {Z : zZ} {Q : zR → zZ → Prop} {a t : Nat} {s p k : Int32} {r : Option Nat} (h0 : zhs Z a (.inr (8, [.int s, .int p, .ref t, .int k, va_rf r]))) (hQ : Q (.inl (some (va_rf r))) Z) : Cz w (0, 0) y_Pi_netOrNull (Cond.code y_Pi_netOrNull c_Pi_netOrNull 1 r_Pi_netOrNull :: wz) [.ref a] Z Q := by
  refine Cz.of (by decide +kernel) (by simp [lg_sl, Value.category]) ?_
  show G _ _ _ _ _ _ _ _ [(0, _)] _ _
  refine g_aload_nq d_Pi_netOrNull_0 rfl 0 rfl ?_
  refine g_get d_Pi_netOrNull_1 f_Pi_15_Pi (by assumption) (by first | rfl | assumption) ?_
  refine g_aret d_Pi_netOrNull_4 ?_
  exact hQ

set_option maxHeartbeats 4000000 in
set_option maxRecDepth 100000 in
theorem C_Ph_valueOfP {w : zC} {Z : zZ} {Q : zR → zZ → Prop} {a q g : Nat} {s p n : Int32} (h0 : zhs Z a (.inr (6, [.int s, .int p, .ref q, .int n, .ref g]))) {pf : Nat → Int32} (h9 : zhs Z q (.inl (w.2.2.2.1 0, 10, .inl pf))) {ff : Nat → Int64} (h2 : zhs Z g (.inl (w.2.2.2.1 1, 8, .inr (.inl ff)))) {t x : Int32} (hQ : Q (.inl (some (.long (if t = 15 then n.toInt64 else if t = 18 then s.toInt64 else if t = 19 then (if ¬ x < 0 ∧ ¬ nI 10 ≤ x then pf x.toNatClampNeg else 0).toInt64 else (if t = 14 then (if ¬ x < 0 ∧ ¬ nI 8 ≤ x then ff x.toNatClampNeg else 0) else 0))))) Z) : Cz w (3, 64) y_Ph_valueOf (Cond.code y_Ph_valueOf c_Ph_valueOf 3 r_Ph_valueOf :: wz) [.ref a, .int t, .int x] Z Q := by
  refine Cz.of (by decide +kernel) (by simp [lg_sl, Value.category]) ?_
  show G _ _ _ _ _ _ _ _ [(0, _), (1, _), (2, _)] _ _
  refine g_iload_n d_Ph_valueOf_0 rfl 1 rfl ?_
  rcases sw_15_19 t with h1 | rfl | rfl | rfl | rfl | rfl
  · refine g_tableOut (tgt := 55) d_Ph_valueOf_1 h1 (by decide) ?_
    refine g_aload_nq d_Ph_valueOf_55 rfl 0 rfl ?_
    refine g_iload_n d_Ph_valueOf_56 rfl 1 rfl ?_
    refine g_iload_n d_Ph_valueOf_57 rfl 2 rfl ?_
    refine g_callU d_Ph_valueOf_58 k_Pa_ownValueOf l_Ph_30 e_Ph_Ph_ownValueOf z_Ph_ownValueOf (by decide +kernel) rfl i_Pa_ownValueOf rfl q_Pa_Ph_ownValueOf_Pa (by assumption) (by rfl) (by rfl) (Nat.le_of_ble_eq_true rfl) (by decide) (C_Pa_ownValueOf h0 h2 ⟨_, rfl, ?_⟩)
    refine g_lret d_Ph_valueOf_61 ?_
    first | (rw [if_neg (by decide), if_neg (by decide), if_neg (by decide)] at hQ; exact hQ) | (rw [if_neg (fun z => by rw [z] at h1; exact absurd h1 (by decide)), if_neg (fun z => by rw [z] at h1; exact absurd h1 (by decide)), if_neg (fun z => by rw [z] at h1; exact absurd h1 (by decide))] at hQ; exact hQ)
  · refine g_tableIn (tgt := 36) d_Ph_valueOf_1 (by decide) (by decide) rfl (by decide) ?_
    refine g_aload_nq d_Ph_valueOf_36 rfl 0 rfl ?_
    refine g_get d_Ph_valueOf_37 f_Ph_15_Pa (by assumption) (by first | rfl | assumption) ?_
    refine g_i2l d_Ph_valueOf_40 rfl ?_
    refine g_lret d_Ph_valueOf_41 ?_
    rw [if_pos rfl] at hQ
    exact hQ
  · refine g_tableIn (tgt := 55) d_Ph_valueOf_1 (by decide) (by decide) rfl (by decide) ?_
    refine g_aload_nq d_Ph_valueOf_55 rfl 0 rfl ?_
    refine g_iload_n d_Ph_valueOf_56 rfl 1 rfl ?_
    refine g_iload_n d_Ph_valueOf_57 rfl 2 rfl ?_
    refine g_callU d_Ph_valueOf_58 k_Pa_ownValueOf l_Ph_30 e_Ph_Ph_ownValueOf z_Ph_ownValueOf (by decide +kernel) rfl i_Pa_ownValueOf rfl q_Pa_Ph_ownValueOf_Pa (by assumption) (by rfl) (by rfl) (Nat.le_of_ble_eq_true rfl) (by decide) (C_Pa_ownValueOf h0 h2 ⟨_, rfl, ?_⟩)
    refine g_lret d_Ph_valueOf_61 ?_
    first | (rw [if_neg (by decide), if_neg (by decide), if_neg (by decide)] at hQ; exact hQ) | (rw [if_neg (fun z => by rw [z] at h1; exact absurd h1 (by decide)), if_neg (fun z => by rw [z] at h1; exact absurd h1 (by decide)), if_neg (fun z => by rw [z] at h1; exact absurd h1 (by decide))] at hQ; exact hQ)
  · refine g_tableIn (tgt := 55) d_Ph_valueOf_1 (by decide) (by decide) rfl (by decide) ?_
    refine g_aload_nq d_Ph_valueOf_55 rfl 0 rfl ?_
    refine g_iload_n d_Ph_valueOf_56 rfl 1 rfl ?_
    refine g_iload_n d_Ph_valueOf_57 rfl 2 rfl ?_
    refine g_callU d_Ph_valueOf_58 k_Pa_ownValueOf l_Ph_30 e_Ph_Ph_ownValueOf z_Ph_ownValueOf (by decide +kernel) rfl i_Pa_ownValueOf rfl q_Pa_Ph_ownValueOf_Pa (by assumption) (by rfl) (by rfl) (Nat.le_of_ble_eq_true rfl) (by decide) (C_Pa_ownValueOf h0 h2 ⟨_, rfl, ?_⟩)
    refine g_lret d_Ph_valueOf_61 ?_
    first | (rw [if_neg (by decide), if_neg (by decide), if_neg (by decide)] at hQ; exact hQ) | (rw [if_neg (fun z => by rw [z] at h1; exact absurd h1 (by decide)), if_neg (fun z => by rw [z] at h1; exact absurd h1 (by decide)), if_neg (fun z => by rw [z] at h1; exact absurd h1 (by decide))] at hQ; exact hQ)
  · refine g_tableIn (tgt := 49) d_Ph_valueOf_1 (by decide) (by decide) rfl (by decide) ?_
    refine g_aload_nq d_Ph_valueOf_49 rfl 0 rfl ?_
    refine g_callU d_Ph_valueOf_50 k_Th_sheet l_Ph_26 e_Ph_Th_sheet z_Th_sheet (by decide +kernel) rfl i_Th_sheet rfl q_Pa_Ph_sheet_Th (by assumption) (by rfl) (by rfl) (Nat.le_of_ble_eq_true rfl) (by decide) (C_Th_sheet (by simp [thk]) h0 rfl ⟨_, rfl, ?_⟩)
    refine g_i2l d_Ph_valueOf_53 rfl ?_
    refine g_lret d_Ph_valueOf_54 ?_
    rw [if_neg (by decide), if_pos rfl] at hQ
    exact hQ
  · refine g_tableIn (tgt := 42) d_Ph_valueOf_1 (by decide) (by decide) rfl (by decide) ?_
    refine g_aload_nq d_Ph_valueOf_42 rfl 0 rfl ?_
    refine g_iload_n d_Ph_valueOf_43 rfl 2 rfl ?_
    refine g_callU d_Ph_valueOf_44 k_Ph_pinsOfKind l_Ph_23 e_Ph_Ph_pinsOfKind z_Ph_pinsOfKind (by decide +kernel) rfl i_Ph_pinsOfKind rfl q_Pa_Ph_pinsOfKind_Ph (by assumption) (by rfl) (by rfl) (Nat.le_of_ble_eq_true rfl) (by decide) (C_Ph_pinsOfKind (by simp [phk]) h0 rfl h9 ⟨_, rfl, ?_⟩)
    refine g_i2l d_Ph_valueOf_47 rfl ?_
    refine g_lret d_Ph_valueOf_48 ?_
    rw [if_neg (by decide), if_neg (by decide), if_pos rfl] at hQ
    exact hQ

set_option maxHeartbeats 4000000 in
set_option maxRecDepth 100000 in
theorem C_Ph_valueOfN {w : zC} {Z : zZ} {Q : zR → zZ → Prop} {a q : Nat} {s p n m e : Int32} (h0 : zhs Z a (.inr (7, [.int s, .int p, .ref q, .int n, .int m, .int e]))) {pf : Nat → Int32} (h9 : zhs Z q (.inl (w.2.2.2.1 0, 10, .inl pf))) {t x : Int32} (hQ : Q (.inl (some (.long (if t = 15 then n.toInt64 else if t = 18 then s.toInt64 else if t = 19 then (if ¬ x < 0 ∧ ¬ nI 10 ≤ x then pf x.toNatClampNeg else 0).toInt64 else (if t = 17 then m.toInt64 else 0))))) Z) : Cz w (3, 64) y_Ph_valueOf (Cond.code y_Ph_valueOf c_Ph_valueOf 3 r_Ph_valueOf :: wz) [.ref a, .int t, .int x] Z Q := by
  refine Cz.of (by decide +kernel) (by simp [lg_sl, Value.category]) ?_
  show G _ _ _ _ _ _ _ _ [(0, _), (1, _), (2, _)] _ _
  refine g_iload_n d_Ph_valueOf_0 rfl 1 rfl ?_
  rcases sw_15_19 t with h1 | rfl | rfl | rfl | rfl | rfl
  · refine g_tableOut (tgt := 55) d_Ph_valueOf_1 h1 (by decide) ?_
    refine g_aload_nq d_Ph_valueOf_55 rfl 0 rfl ?_
    refine g_iload_n d_Ph_valueOf_56 rfl 1 rfl ?_
    refine g_iload_n d_Ph_valueOf_57 rfl 2 rfl ?_
    refine g_callU d_Ph_valueOf_58 k_Ne_ownValueOf l_Ph_30 e_Ph_Ph_ownValueOf z_Ph_ownValueOf (by decide +kernel) rfl i_Ne_ownValueOf rfl q_Ne_Ph_ownValueOf_Ne (by assumption) (by rfl) (by rfl) (Nat.le_of_ble_eq_true rfl) (by decide) (C_Ne_ownValueOf h0 ⟨_, rfl, ?_⟩)
    refine g_lret d_Ph_valueOf_61 ?_
    first | (rw [if_neg (by decide), if_neg (by decide), if_neg (by decide)] at hQ; exact hQ) | (rw [if_neg (fun z => by rw [z] at h1; exact absurd h1 (by decide)), if_neg (fun z => by rw [z] at h1; exact absurd h1 (by decide)), if_neg (fun z => by rw [z] at h1; exact absurd h1 (by decide))] at hQ; exact hQ)
  · refine g_tableIn (tgt := 36) d_Ph_valueOf_1 (by decide) (by decide) rfl (by decide) ?_
    refine g_aload_nq d_Ph_valueOf_36 rfl 0 rfl ?_
    refine g_get d_Ph_valueOf_37 f_Ph_15_Ne (by assumption) (by first | rfl | assumption) ?_
    refine g_i2l d_Ph_valueOf_40 rfl ?_
    refine g_lret d_Ph_valueOf_41 ?_
    rw [if_pos rfl] at hQ
    exact hQ
  · refine g_tableIn (tgt := 55) d_Ph_valueOf_1 (by decide) (by decide) rfl (by decide) ?_
    refine g_aload_nq d_Ph_valueOf_55 rfl 0 rfl ?_
    refine g_iload_n d_Ph_valueOf_56 rfl 1 rfl ?_
    refine g_iload_n d_Ph_valueOf_57 rfl 2 rfl ?_
    refine g_callU d_Ph_valueOf_58 k_Ne_ownValueOf l_Ph_30 e_Ph_Ph_ownValueOf z_Ph_ownValueOf (by decide +kernel) rfl i_Ne_ownValueOf rfl q_Ne_Ph_ownValueOf_Ne (by assumption) (by rfl) (by rfl) (Nat.le_of_ble_eq_true rfl) (by decide) (C_Ne_ownValueOf h0 ⟨_, rfl, ?_⟩)
    refine g_lret d_Ph_valueOf_61 ?_
    first | (rw [if_neg (by decide), if_neg (by decide), if_neg (by decide)] at hQ; exact hQ) | (rw [if_neg (fun z => by rw [z] at h1; exact absurd h1 (by decide)), if_neg (fun z => by rw [z] at h1; exact absurd h1 (by decide)), if_neg (fun z => by rw [z] at h1; exact absurd h1 (by decide))] at hQ; exact hQ)
  · refine g_tableIn (tgt := 55) d_Ph_valueOf_1 (by decide) (by decide) rfl (by decide) ?_
    refine g_aload_nq d_Ph_valueOf_55 rfl 0 rfl ?_
    refine g_iload_n d_Ph_valueOf_56 rfl 1 rfl ?_
    refine g_iload_n d_Ph_valueOf_57 rfl 2 rfl ?_
    refine g_callU d_Ph_valueOf_58 k_Ne_ownValueOf l_Ph_30 e_Ph_Ph_ownValueOf z_Ph_ownValueOf (by decide +kernel) rfl i_Ne_ownValueOf rfl q_Ne_Ph_ownValueOf_Ne (by assumption) (by rfl) (by rfl) (Nat.le_of_ble_eq_true rfl) (by decide) (C_Ne_ownValueOf h0 ⟨_, rfl, ?_⟩)
    refine g_lret d_Ph_valueOf_61 ?_
    first | (rw [if_neg (by decide), if_neg (by decide), if_neg (by decide)] at hQ; exact hQ) | (rw [if_neg (fun z => by rw [z] at h1; exact absurd h1 (by decide)), if_neg (fun z => by rw [z] at h1; exact absurd h1 (by decide)), if_neg (fun z => by rw [z] at h1; exact absurd h1 (by decide))] at hQ; exact hQ)
  · refine g_tableIn (tgt := 49) d_Ph_valueOf_1 (by decide) (by decide) rfl (by decide) ?_
    refine g_aload_nq d_Ph_valueOf_49 rfl 0 rfl ?_
    refine g_callU d_Ph_valueOf_50 k_Th_sheet l_Ph_26 e_Ph_Th_sheet z_Th_sheet (by decide +kernel) rfl i_Th_sheet rfl q_Ne_Ph_sheet_Th (by assumption) (by rfl) (by rfl) (Nat.le_of_ble_eq_true rfl) (by decide) (C_Th_sheet (by simp [thk]) h0 rfl ⟨_, rfl, ?_⟩)
    refine g_i2l d_Ph_valueOf_53 rfl ?_
    refine g_lret d_Ph_valueOf_54 ?_
    rw [if_neg (by decide), if_pos rfl] at hQ
    exact hQ
  · refine g_tableIn (tgt := 42) d_Ph_valueOf_1 (by decide) (by decide) rfl (by decide) ?_
    refine g_aload_nq d_Ph_valueOf_42 rfl 0 rfl ?_
    refine g_iload_n d_Ph_valueOf_43 rfl 2 rfl ?_
    refine g_callU d_Ph_valueOf_44 k_Ph_pinsOfKind l_Ph_23 e_Ph_Ph_pinsOfKind z_Ph_pinsOfKind (by decide +kernel) rfl i_Ph_pinsOfKind rfl q_Ne_Ph_pinsOfKind_Ph (by assumption) (by rfl) (by rfl) (Nat.le_of_ble_eq_true rfl) (by decide) (C_Ph_pinsOfKind (by simp [phk]) h0 rfl h9 ⟨_, rfl, ?_⟩)
    refine g_i2l d_Ph_valueOf_47 rfl ?_
    refine g_lret d_Ph_valueOf_48 ?_
    rw [if_neg (by decide), if_neg (by decide), if_pos rfl] at hQ
    exact hQ
