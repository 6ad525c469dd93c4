/-! Constructors of things and rules; setVerdict -/
theorem zfr_mem {Z Z' : zZ} {a b : Nat} {e : va_E} (h : zfr Z Z' [a]) (ha : zhs Z' a e) (hb : b ∈ Z.1) : b ∈ Z'.1 := by
  by_cases hab : b = a
  · rw [hab]; exact ha.1
  · exact (h b _ (by simp [hab]) ⟨hb, rfl⟩).1
set_option maxHeartbeats 4000000 in
set_option maxRecDepth 100000 in
theorem C_Tr_init {w : zC} {Z : zZ} {Q : zR → zZ → Prop} {a p q : Nat} {x y : Int32} (hz : zhs Z a (.inr (9, [.int 0, .int 0, .null, .null]))) (hQ : Q (.inl none) (zput Z a (.inr (9, [.int x, .int y, .ref p, .ref q])))) : Cz w (1, 20) y_Tr_init (Cond.code y_Tr_init c_Tr_init 5 r_Tr_init :: wz) [.ref a, .int x, .int y, .ref p, .ref q] Z Q := by
  refine Cz.of (by decide +kernel) (by simp [lg_sl, Value.category]) ?_
  show G _ _ _ _ _ _ _ _ [(0, _), (1, _), (2, _), (3, _), (4, _)] _ _
  have h0 := hz
  refine g_aload_nq d_Tr_init_0 rfl 0 rfl ?_
  refine g_objI d_Tr_init_1 l_Tr_3 (by decide) (Nat.le_of_ble_eq_true rfl) ?_
  refine g_aload_nq d_Tr_init_4 rfl 0 rfl ?_
  refine g_iload_n d_Tr_init_5 rfl 1 rfl ?_
  refine g_putF d_Tr_init_6 w_Tr_9_Tr rfl (by assumption) (by first | rfl | exact zb_nar _) (by first | rfl | exact zb_fit _ | exact zrf_fit _) (by first | exact Nat.le_of_ble_eq_true rfl | omega) ?_
  generalize e1 : zput _ _ _ = Z1
  have h0 := zhs_put_same' e1 hz
  simp only [List.set] at h0 e1
  refine g_aload_nq d_Tr_init_9 rfl 0 rfl ?_
  refine g_iload_n d_Tr_init_10 rfl 2 rfl ?_
  refine g_putF d_Tr_init_11 w_Tr_15_Tr rfl (by assumption) (by first | rfl | exact zb_nar _) (by first | rfl | exact zb_fit _ | exact zrf_fit _) (by first | exact Nat.le_of_ble_eq_true rfl | omega) ?_
  rw [← e1, zput_put]
  generalize e2 : zput _ _ _ = Z2
  have h0 := zhs_put_same' e2 hz
  simp only [List.set] at h0 e2
  refine g_aload_nq d_Tr_init_14 rfl 0 rfl ?_
  refine g_aload_nq d_Tr_init_15 rfl 3 rfl ?_
  refine g_putF d_Tr_init_16 w_Tr_18_Tr rfl (by assumption) (by first | rfl | exact zb_nar _) (by first | rfl | exact zb_fit _ | exact zrf_fit _) (by first | exact Nat.le_of_ble_eq_true rfl | omega) ?_
  rw [← e2, zput_put]
  generalize e3 : zput _ _ _ = Z3
  have h0 := zhs_put_same' e3 hz
  simp only [List.set] at h0 e3
  refine g_aload_nq d_Tr_init_19 rfl 0 rfl ?_
  refine g_aloadq d_Tr_init_20 4 rfl ?_
  refine g_putF d_Tr_init_22 w_Tr_22_Tr rfl (by assumption) (by first | rfl | exact zb_nar _) (by first | rfl | exact zb_fit _ | exact zrf_fit _) (by first | exact Nat.le_of_ble_eq_true rfl | omega) ?_
  rw [← e3, zput_put]
  generalize e4 : zput _ _ _ = Z4
  have h0 := zhs_put_same' e4 hz
  simp only [List.set] at h0 e4
  refine g_vret d_Tr_init_25 ?_
  rw [← e4]
  exact hQ

set_option maxHeartbeats 4000000 in
set_option maxRecDepth 100000 in
theorem C_Ne_init {w : zC} {Z : zZ} {Q : zR → zZ → Prop} {a : Nat} {s n m : Int32} (hz : zhs Z a (.inr (7, [.int 0, .int 0, .null, .int 0, .int 0, .int 0]))) (hb : 1 ≤ Z.2.2.1 ∧ 10 ≤ Z.2.2.2) (hQ : ∀ Z' q, q ∉ Z.1 → zhs Z' a (.inr (7, [.int s, .int ((s * 3 + 1) * 160 + n), .ref q, .int 0, .int m, .int 0])) → zhs Z' q (.inl (w.2.2.2.1 0, 10, .inl fun _ => 0)) → zfr Z Z' [a] → Z'.2.2.1 = Z.2.2.1 - 1 → Z'.2.2.2 = Z.2.2.2 - 10 → Q (.inl none) Z') : Cz w (3, 66) y_Ne_init (Cond.code y_Ne_init c_Ne_init 4 r_Ne_init :: wz) [.ref a, .int s, .int n, .int m] Z Q := by
  refine Cz.of (by decide +kernel) (by simp [lg_sl, Value.category]) ?_
  show G _ _ _ _ _ _ _ _ [(0, _), (1, _), (2, _), (3, _)] _ _
  refine g_aload_nq d_Ne_init_0 rfl 0 rfl ?_
  refine g_iload_n d_Ne_init_1 rfl 1 rfl ?_
  refine g_iconst (v := 1) d_Ne_init_2 rfl ?_
  refine g_iload_n d_Ne_init_3 rfl 2 rfl ?_
  refine g_callI d_Ne_init_4 k_Ph_init rfl l_Ne_3 i_Ph_init (by rfl) (by rfl) (Nat.le_of_ble_eq_true rfl) (by decide) (C_Ph_init (by simp [phk]) hz (by decide) (by omega) (fun Z0 q hq h0 g0 F0 B1 B2 => ⟨_, rfl, ?_⟩))
  simp only [List.set] at h0
  have haq := zhs_fresh hz hq
  have hy := h0
  refine g_aload_nq d_Ne_init_7 rfl 0 rfl ?_
  refine g_iconst (v := 0) d_Ne_init_8 rfl ?_
  refine g_put d_Ne_init_9 w_Ne_9_Ne (by assumption) (by first | rfl | exact zb_nar _) (by first | rfl | exact zb_fit _ | exact zrf_fit _) (by first | exact Nat.le_of_ble_eq_true rfl | omega) ?_
  generalize e1 : zput _ _ _ = Z1
  have h0 := zhs_put_same' e1 hy
  simp only [List.set] at h0 e1
  refine g_aload_nq d_Ne_init_12 rfl 0 rfl ?_
  refine g_iload_n d_Ne_init_13 rfl 3 rfl ?_
  refine g_putF d_Ne_init_14 w_Ne_15_Ne rfl (by assumption) (by first | rfl | exact zb_nar _) (by first | rfl | exact zb_fit _ | exact zrf_fit _) (by first | exact Nat.le_of_ble_eq_true rfl | omega) ?_
  rw [← e1, zput_put]
  generalize e2 : zput _ _ _ = Z2
  have h0 := zhs_put_same' e2 hy
  simp only [List.set] at h0 e2
  refine g_vret d_Ne_init_17 ?_
  have g0 := zhs_put_ne' e2 g0 (Ne.symm haq)
  have b := zbud_put e2
  exact hQ Z2 q hq h0 g0 (zfr_tr F0 (zfr_put e2 (by simp))) (by omega) (by omega)

set_option maxHeartbeats 4000000 in
set_option maxRecDepth 100000 in
theorem C_Pa_init {w : zC} {Z : zZ} {Q : zR → zZ → Prop} {a : Nat} {s n : Int32} (hz : zhs Z a (.inr (6, [.int 0, .int 0, .null, .int 0, .null]))) (hb : 2 ≤ Z.2.2.1 ∧ 18 ≤ Z.2.2.2) (hQ : ∀ Z' q r, q ∉ Z.1 → r ∉ Z.1 → q ≠ r → zhs Z' a (.inr (6, [.int s, .int ((s * 3 + 0) * 160 + n), .ref q, .int 0, .ref r])) → zhs Z' q (.inl (w.2.2.2.1 0, 10, .inl fun _ => 0)) → zhs Z' r (.inl (w.2.2.2.1 1, 8, .inr <| .inl fun _ => 0)) → zfr Z Z' [a] → Z'.2.2.1 = Z.2.2.1 - 2 → Z'.2.2.2 = Z.2.2.2 - 18 → Q (.inl none) Z') : Cz w (3, 66) y_Pa_init (Cond.code y_Pa_init c_Pa_init 3 r_Pa_init :: wz) [.ref a, .int s, .int n] Z Q := by
  refine Cz.of (by decide +kernel) (by simp [lg_sl, Value.category]) ?_
  show G _ _ _ _ _ _ _ _ [(0, _), (1, _), (2, _)] _ _
  refine g_aload_nq d_Pa_init_0 rfl 0 rfl ?_
  refine g_iload_n d_Pa_init_1 rfl 1 rfl ?_
  refine g_iconst (v := 0) d_Pa_init_2 rfl ?_
  refine g_iload_n d_Pa_init_3 rfl 2 rfl ?_
  refine g_callI d_Pa_init_4 k_Ph_init rfl l_Pa_3 i_Ph_init (by rfl) (by rfl) (Nat.le_of_ble_eq_true rfl) (by decide) (C_Ph_init (by simp [phk]) hz (by decide) (by omega) (fun Z0 q hq h0 g0 F0 B1 B2 => ⟨_, rfl, ?_⟩))
  simp only [List.set] at h0
  have haq := zhs_fresh hz hq
  have hy := h0
  refine g_aload_nq d_Pa_init_7 rfl 0 rfl ?_
  refine g_bipush (v := 8) d_Pa_init_8 rfl ?_
  have hx := h0
  have g9 := g0
  refine g_newl (N := 8) d_Pa_init_10 rfl a_long rfl (by decide) (by omega) (by omega) (fun q2 hq2 => ?_)
  generalize e8 : znew _ _ _ _ = Z8
  have g1 := zhs_new_same' e8
  have h0 := zhs_new_old' e8 h0 hq2
  have g0 := zhs_new_old' e8 g0 hq2
  have b8 := zbud_new e8
  have hy := h0
  refine g_putF d_Pa_init_12 w_Pa_9_Pa rfl (by assumption) (by first | rfl | exact zb_nar _) (by first | rfl | exact zb_fit _ | exact zrf_fit _) (by first | exact Nat.le_of_ble_eq_true rfl | omega) ?_
  generalize e1 : zput _ _ _ = Z1
  have h0 := zhs_put_same' e1 hy
  simp only [List.set] at h0 e1
  refine g_vret d_Pa_init_15 ?_
  have d1 := zhs_fresh hx hq2
  have d2 := zhs_fresh g9 hq2
  have g0 := zhs_put_ne' e1 g0 (Ne.symm haq)
  have g1 := zhs_put_ne' e1 g1 (Ne.symm d1)
  have b := zbud_put e1
  exact hQ Z1 q q2 hq (fun z => hq2 (zfr_mem F0 hx z)) d2 h0 g0 g1 (zfr_tr F0 (zfr_tr (zfr_new e8 hq2) (zfr_put e1 (by simp)))) (by omega) (by omega)

set_option maxHeartbeats 4000000 in
set_option maxRecDepth 100000 in
theorem C_Pi_init {w : zC} {Z : zZ} {Q : zR → zZ → Prop} {a b : Nat} {fs : List Value} {s n k : Int32} (hz : zhs Z a (.inr (8, [.int 0, .int 0, .null, .int 0, .null]))) (hp : zhs Z b (.inr (6, fs))) (hs : fs[0]? = some (.int s)) (hQ : Q (.inl none) (zput Z a (.inr (8, [.int s, .int ((s * 3 + 2) * 160 + n), .ref b, .int k, .null])))) : Cz w (2, 43) y_Pi_init (Cond.code y_Pi_init c_Pi_init 4 r_Pi_init :: wz) [.ref a, .ref b, .int n, .int k] Z Q := by
  refine Cz.of (by decide +kernel) (by simp [lg_sl, Value.category]) ?_
  show G _ _ _ _ _ _ _ _ [(0, _), (1, _), (2, _), (3, _)] _ _
  refine g_aload_nq d_Pi_init_0 rfl 0 rfl ?_
  refine g_aload_nq d_Pi_init_1 rfl 1 rfl ?_
  refine g_callU d_Pi_init_2 k_Th_sheet l_Pi_3 e_Pa_Th_sheet z_Th_sheet (by decide +kernel) rfl i_Th_sheet rfl q_Pa_Pa_sheet_Th hp (by rfl) (by rfl) (Nat.le_of_ble_eq_true rfl) (by decide) (C_Th_sheet (by simp [thk]) hp hs ⟨_, rfl, ?_⟩)
  refine g_iconst (v := 2) d_Pi_init_5 rfl ?_
  refine g_iload_n d_Pi_init_6 rfl 2 rfl ?_
  refine g_callI d_Pi_init_7 k_Th_init rfl l_Pi_9 i_Th_init (by rfl) (by rfl) (Nat.le_of_ble_eq_true rfl) (by decide) (C_Th_init (by simp [thk]) hz (by decide) ⟨_, rfl, ?_⟩)
  generalize e1 : zput _ _ _ = Z1
  have h0 := zhs_put_same' e1 hz
  simp only [List.set] at h0 e1
  refine g_aload_nq d_Pi_init_10 rfl 0 rfl ?_
  refine g_null d_Pi_init_11 ?_
  refine g_put d_Pi_init_12 w_Pi_15_Pi (by assumption) (by first | rfl | exact zb_nar _) (by first | rfl | exact zb_fit _ | exact zrf_fit _) (by first | exact Nat.le_of_ble_eq_true rfl | omega) ?_
  rw [← e1, zput_put]
  generalize e2 : zput _ _ _ = Z2
  have h0 := zhs_put_same' e2 hz
  simp only [List.set] at h0 e2
  refine g_aload_nq d_Pi_init_15 rfl 0 rfl ?_
  refine g_aload_nq d_Pi_init_16 rfl 1 rfl ?_
  refine g_putF d_Pi_init_17 w_Pi_21_Pi rfl (by assumption) (by first | rfl | exact zb_nar _) (by first | rfl | exact zb_fit _ | exact zrf_fit _) (by first | exact Nat.le_of_ble_eq_true rfl | omega) ?_
  rw [← e2, zput_put]
  generalize e3 : zput _ _ _ = Z3
  have h0 := zhs_put_same' e3 hz
  simp only [List.set] at h0 e3
  refine g_aload_nq d_Pi_init_20 rfl 0 rfl ?_
  refine g_iload_n d_Pi_init_21 rfl 3 rfl ?_
  refine g_putF d_Pi_init_22 w_Pi_25_Pi rfl (by assumption) (by first | rfl | exact zb_nar _) (by first | rfl | exact zb_fit _ | exact zrf_fit _) (by first | exact Nat.le_of_ble_eq_true rfl | omega) ?_
  rw [← e3, zput_put]
  generalize e4 : zput _ _ _ = Z4
  have h0 := zhs_put_same' e4 hz
  simp only [List.set] at h0 e4
  refine g_vret d_Pi_init_25 ?_
  rw [← e4]
  exact hQ

set_option maxHeartbeats 4000000 in
set_option maxRecDepth 100000 in
theorem C_Sc_setVerdict {w : zC} {Z : zZ} {Q : zR → zZ → Prop} {ad : Nat → Nat} {S : ST} (hR : Rep w ad S Z) {a b : Nat} {x : Int32} (ha : a < 10) (hb : b < 10) (hQ : ∀ Z', Rep w ad (wI S 11 (upd (upd (sI S 11) (a * 10 + b) x) (b * 10 + a) x)) Z' → Z'.2.2 = Z.2.2 → Q (.inl (some (.int (zb (¬ sI S 11 (a * 10 + b) = x))))) Z') : Cz w (2, 44) y_Sc_setVerdict (Cond.code y_Sc_setVerdict c_Sc_setVerdict 5 r_Sc_setVerdict :: wz) [.ref (ad 1), .int (nI a), .int (nI b), .int x] Z Q := by
  refine Cz.of (by decide +kernel) (by simp [lg_sl, Value.category]) ?_
  show G _ _ _ _ _ _ _ _ [(0, _), (1, _), (2, _), (3, _)] _ _
  have h1 : zhs Z (ad 1) (.inr (1, [.ref (ad 11), .ref (ad 12), .ref (ad 13), .ref (ad 14), .ref (ad 15), .int (nI (sN S 0)), .int (nI (sN S 1)), .int (nI (sN S 2)), .int (nI (sN S 7))])) := hR.k 1 (by decide)
  have hz : zhs Z (ad 11) (xi w 100 (sI S 11)) := hR.k 11 (by decide)
  have h2 := hz
  refine g_iload_n d_Sc_setVerdict_0 rfl 1 rfl ?_
  refine g_bipush (v := 10) d_Sc_setVerdict_1 rfl ?_
  refine g_callSN d_Sc_setVerdict_3 k_K_isBelow l_Sc_58 s_K_isBelow (by rfl) (by rfl) (Nat.le_of_ble_eq_true rfl) (by decide) (C_K_isBelow ⟨_, rfl, ?_⟩)
  first | refine g_if_eqB (tgt := 18) d_Sc_setVerdict_6 (by decide) (fun h6 => ?_) (fun h6 => ?_) | refine g_if_eq (tgt := 18) d_Sc_setVerdict_6 (by decide) (fun h6 => ?_) (fun h6 => ?_)
  · exact absurd (inr_nI ha (by decide)) h6
  · refine g_iload_n d_Sc_setVerdict_9 rfl 2 rfl ?_
    refine g_bipush (v := 10) d_Sc_setVerdict_10 rfl ?_
    refine g_callSN d_Sc_setVerdict_12 k_K_isBelow l_Sc_58 s_K_isBelow (by rfl) (by rfl) (Nat.le_of_ble_eq_true rfl) (by decide) (C_K_isBelow ⟨_, rfl, ?_⟩)
    first | refine g_if_neB (tgt := 20) d_Sc_setVerdict_15 (by decide) (fun h15 => ?_) (fun h15 => ?_) | refine g_if_ne (tgt := 20) d_Sc_setVerdict_15 (by decide) (fun h15 => ?_) (fun h15 => ?_)
    · refine g_aload_nq d_Sc_setVerdict_20 rfl 0 rfl ?_
      refine g_iload_n d_Sc_setVerdict_21 rfl 1 rfl ?_
      refine g_iload_n d_Sc_setVerdict_22 rfl 2 rfl ?_
      refine g_callV d_Sc_setVerdict_23 k_Sc_verdictOf l_Sc_62 i_Sc_verdictOf rfl p_Sc_verdictOf h1 (by rfl) (by rfl) (Nat.le_of_ble_eq_true rfl) (by decide) (C_Sc_verdictOf hR ha hb ⟨_, rfl, ?_⟩)
      refine g_iload_n d_Sc_setVerdict_26 rfl 3 rfl ?_
      refine g_icmp_eq (tgt := 34) d_Sc_setVerdict_27 (by decide) (fun h27 => ?_) (fun h27 => ?_)
      · rw [zb_f (fun z => z h27)] at hQ
        refine g_iconst (v := 0) d_Sc_setVerdict_34 rfl ?_
        refine g_istore d_Sc_setVerdict_35 (by decide) rfl ?_
        show G _ _ _ _ _ _ _ _ [(4, _), (0, _), (1, _), (2, _), (3, _)] _ _
        refine g_aload_nq d_Sc_setVerdict_37 rfl 1 rfl ?_
        refine g_get d_Sc_setVerdict_38 f_Sc_9_Sc (by assumption) (by first | rfl | assumption) ?_
        refine g_iload_n d_Sc_setVerdict_41 rfl 2 rfl ?_
        refine g_bipush (v := 10) d_Sc_setVerdict_42 rfl ?_
        refine g_imul d_Sc_setVerdict_44 ?_
        refine g_iload_n d_Sc_setVerdict_45 rfl 3 rfl ?_
        refine g_iadd d_Sc_setVerdict_46 ?_
        rw [show (10 : Int32) = nI 10 from rfl, pk_mul, nI_add]
        refine g_iload_n d_Sc_setVerdict_47 rfl 4 rfl ?_
        refine g_iast d_Sc_setVerdict_48 (by assumption) (vp_in_nI (by omega) (by decide)) ?_
        rw [nI_clamp (by omega)]
        generalize e1 : zput _ _ _ = Z1
        have h2 := zhs_put_same' e1 hz
        have h1 := zhs_put_ne' e1 h1 (hR.inj (Or.inl (by decide)) (Or.inl (by decide)) (by decide))
        refine g_aload_nq d_Sc_setVerdict_49 rfl 1 rfl ?_
        refine g_get d_Sc_setVerdict_50 f_Sc_9_Sc (by assumption) (by first | rfl | assumption) ?_
        refine g_iload_n d_Sc_setVerdict_53 rfl 3 rfl ?_
        refine g_bipush (v := 10) d_Sc_setVerdict_54 rfl ?_
        refine g_imul d_Sc_setVerdict_56 ?_
        refine g_iload_n d_Sc_setVerdict_57 rfl 2 rfl ?_
        refine g_iadd d_Sc_setVerdict_58 ?_
        rw [show (10 : Int32) = nI 10 from rfl, pk_mul, nI_add]
        refine g_iload_n d_Sc_setVerdict_59 rfl 4 rfl ?_
        refine g_iast d_Sc_setVerdict_60 (by assumption) (vp_in_nI (by omega) (by decide)) ?_
        rw [nI_clamp (by omega), ← e1, zput_put]
        have hR2 : Rep w ad (wI S 11 (upd (upd (sI S 11) (a * 10 + b) x) (b * 10 + a) x)) _ := hR.putI (i := 11) (f := upd (upd (sI S 11) (a * 10 + b) x) (b * 10 + a) x) (e := xi w 100 (upd (upd (sI S 11) (a * 10 + b) x) (b * 10 + a) x)) (Or.inl (by decide)) (by rw [cell_K (by decide)]; exact congrArg (xi w 100) (va_up_self S.1 11 _))
        refine g_iload d_Sc_setVerdict_61 0 rfl ?_
        refine g_zret d_Sc_setVerdict_63 ?_ ?_
        · first | rfl | exact zb_nar _ | exact zb_narc (by assumption)
        · exact hQ _ hR2 rfl
      · rw [zb_t h27] at hQ
        refine g_iconst (v := 1) d_Sc_setVerdict_30 rfl ?_
        refine g_goto (tgt := 35) d_Sc_setVerdict_31 (by decide) ?_
        refine g_istore d_Sc_setVerdict_35 (by decide) rfl ?_
        show G _ _ _ _ _ _ _ _ [(4, _), (0, _), (1, _), (2, _), (3, _)] _ _
        refine g_aload_nq d_Sc_setVerdict_37 rfl 1 rfl ?_
        refine g_get d_Sc_setVerdict_38 f_Sc_9_Sc (by assumption) (by first | rfl | assumption) ?_
        refine g_iload_n d_Sc_setVerdict_41 rfl 2 rfl ?_
        refine g_bipush (v := 10) d_Sc_setVerdict_42 rfl ?_
        refine g_imul d_Sc_setVerdict_44 ?_
        refine g_iload_n d_Sc_setVerdict_45 rfl 3 rfl ?_
        refine g_iadd d_Sc_setVerdict_46 ?_
        rw [show (10 : Int32) = nI 10 from rfl, pk_mul, nI_add]
        refine g_iload_n d_Sc_setVerdict_47 rfl 4 rfl ?_
        refine g_iast d_Sc_setVerdict_48 (by assumption) (vp_in_nI (by omega) (by decide)) ?_
        rw [nI_clamp (by omega)]
        generalize e1 : zput _ _ _ = Z1
        have h2 := zhs_put_same' e1 hz
        have h1 := zhs_put_ne' e1 h1 (hR.inj (Or.inl (by decide)) (Or.inl (by decide)) (by decide))
        refine g_aload_nq d_Sc_setVerdict_49 rfl 1 rfl ?_
        refine g_get d_Sc_setVerdict_50 f_Sc_9_Sc (by assumption) (by first | rfl | assumption) ?_
        refine g_iload_n d_Sc_setVerdict_53 rfl 3 rfl ?_
        refine g_bipush (v := 10) d_Sc_setVerdict_54 rfl ?_
        refine g_imul d_Sc_setVerdict_56 ?_
        refine g_iload_n d_Sc_setVerdict_57 rfl 2 rfl ?_
        refine g_iadd d_Sc_setVerdict_58 ?_
        rw [show (10 : Int32) = nI 10 from rfl, pk_mul, nI_add]
        refine g_iload_n d_Sc_setVerdict_59 rfl 4 rfl ?_
        refine g_iast d_Sc_setVerdict_60 (by assumption) (vp_in_nI (by omega) (by decide)) ?_
        rw [nI_clamp (by omega), ← e1, zput_put]
        have hR2 : Rep w ad (wI S 11 (upd (upd (sI S 11) (a * 10 + b) x) (b * 10 + a) x)) _ := hR.putI (i := 11) (f := upd (upd (sI S 11) (a * 10 + b) x) (b * 10 + a) x) (e := xi w 100 (upd (upd (sI S 11) (a * 10 + b) x) (b * 10 + a) x)) (Or.inl (by decide)) (by rw [cell_K (by decide)]; exact congrArg (xi w 100) (va_up_self S.1 11 _))
        refine g_iload d_Sc_setVerdict_61 0 rfl ?_
        refine g_zret d_Sc_setVerdict_63 ?_ ?_
        · first | rfl | exact zb_nar _ | exact zb_narc (by assumption)
        · exact hQ _ hR2 rfl
    · exact absurd (inr_nI hb (by decide)) h15
