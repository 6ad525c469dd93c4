/-! Thing, PinHolder, Part, Net, Pin: what each holds and answers -/
theorem zrf_fit {n : String} (r : Option Nat) : fits (.object n) (va_rf r) = true := by cases r <;> rfl
def thk (ci : Nat) : Prop := ci = 6 ∨ ci = 7 ∨ ci = 8
def phk (ci : Nat) : Prop := ci = 6 ∨ ci = 7
theorem phk.th {ci : Nat} (h : phk ci) : thk ci := by rcases h with h | h <;> simp [thk, h]
theorem fT9 {ci : Nat} (h : thk ci) : zF "PinKindChecks$Thing" 9 ci 0 := by
  rcases h with rfl | rfl | rfl
  · exact f_Th_9_Pa
  · exact f_Th_9_Ne
  · exact f_Th_9_Pi
theorem wT9 {ci : Nat} (h : thk ci) : zFp "PinKindChecks$Thing" 9 ci 0 .int true := by
  rcases h with rfl | rfl | rfl
  · exact w_Th_9_Pa
  · exact w_Th_9_Ne
  · exact w_Th_9_Pi
theorem fT15 {ci : Nat} (h : thk ci) : zF "PinKindChecks$Thing" 15 ci 1 := by
  rcases h with rfl | rfl | rfl
  · exact f_Th_15_Pa
  · exact f_Th_15_Ne
  · exact f_Th_15_Pi
theorem wT15 {ci : Nat} (h : thk ci) : zFp "PinKindChecks$Thing" 15 ci 1 .int true := by
  rcases h with rfl | rfl | rfl
  · exact w_Th_15_Pa
  · exact w_Th_15_Ne
  · exact w_Th_15_Pi
theorem fP9 {ci : Nat} (h : phk ci) : zF "PinKindChecks$PinHolder" 9 ci 2 := by
  rcases h with rfl | rfl
  · exact f_Ph_9_Pa
  · exact f_Ph_9_Ne
theorem wP9 {ci : Nat} (h : phk ci) : zFp "PinKindChecks$PinHolder" 9 ci 2 (.array .int) true := by
  rcases h with rfl | rfl
  · exact w_Ph_9_Pa
  · exact w_Ph_9_Ne
theorem fP15 {ci : Nat} (h : phk ci) : zF "PinKindChecks$PinHolder" 15 ci 3 := by
  rcases h with rfl | rfl
  · exact f_Ph_15_Pa
  · exact f_Ph_15_Ne
theorem wP15 {ci : Nat} (h : phk ci) : zFp "PinKindChecks$PinHolder" 15 ci 3 .int false := by
  rcases h with rfl | rfl
  · exact w_Ph_15_Pa
  · exact w_Ph_15_Ne
set_option maxHeartbeats 4000000 in
set_option maxRecDepth 100000 in
theorem C_Th_sheet {w : zC} {Z : zZ} {Q : zR → zZ → Prop} {a ci : Nat} {fs : List Value} (hk : thk ci) (h0 : zhs Z a (.inr (ci, fs))) {s : Int32} (hs : fs[0]? = some (.int s)) (hQ : Q (.inl (some (.int s))) Z) : Cz w (0, 0) y_Th_sheet (Cond.code y_Th_sheet c_Th_sheet 1 r_Th_sheet :: wz) [.ref a] Z Q := by
  refine Cz.of (by decide +kernel) (by simp [lg_sl, Value.category]) ?_
  show G _ _ _ _ _ _ _ _ [(0, _)] _ _
  refine g_aload_nq d_Th_sheet_0 rfl 0 rfl ?_
  refine g_get d_Th_sheet_1 (fT9 hk) (by assumption) (by first | rfl | assumption) ?_
  refine g_iret d_Th_sheet_4 ?_
  exact hQ

set_option maxHeartbeats 4000000 in
set_option maxRecDepth 100000 in
theorem C_Th_number {w : zC} {Z : zZ} {Q : zR → zZ → Prop} {a ci : Nat} {fs : List Value} (hk : thk ci) (h0 : zhs Z a (.inr (ci, fs))) {p : Int32} (hp : fs[1]? = some (.int p)) (hQ : Q (.inl (some (.int (p - p / 160 * 160)))) Z) : Cz w (0, 0) y_Th_number (Cond.code y_Th_number c_Th_number 1 r_Th_number :: wz) [.ref a] Z Q := by
  refine Cz.of (by decide +kernel) (by simp [lg_sl, Value.category]) ?_
  show G _ _ _ _ _ _ _ _ [(0, _)] _ _
  refine g_aload_nq d_Th_number_0 rfl 0 rfl ?_
  refine g_get d_Th_number_1 (fT15 hk) (by assumption) (by first | rfl | assumption) ?_
  refine g_sipush (v := 160) d_Th_number_4 rfl ?_
  refine g_irem d_Th_number_7 (by decide) ?_
  refine g_iret d_Th_number_8 ?_
  exact hQ

set_option maxHeartbeats 4000000 in
set_option maxRecDepth 100000 in
theorem C_Th_keyWith {w : zC} {Z : zZ} {Q : zR → zZ → Prop} {a ci : Nat} {fs : List Value} (hk : thk ci) (h0 : zhs Z a (.inr (ci, fs))) {p x : Int32} (hp : fs[1]? = some (.int p)) (hQ : Q (.inl (some (.int (p * 27 + x)))) Z) : Cz w (0, 0) y_Th_keyWith (Cond.code y_Th_keyWith c_Th_keyWith 2 r_Th_keyWith :: wz) [.ref a, .int x] Z Q := by
  refine Cz.of (by decide +kernel) (by simp [lg_sl, Value.category]) ?_
  show G _ _ _ _ _ _ _ _ [(0, _), (1, _)] _ _
  refine g_aload_nq d_Th_keyWith_0 rfl 0 rfl ?_
  refine g_get d_Th_keyWith_1 (fT15 hk) (by assumption) (by first | rfl | assumption) ?_
  refine g_bipush (v := 27) d_Th_keyWith_4 rfl ?_
  refine g_imul d_Th_keyWith_6 ?_
  refine g_iload_n d_Th_keyWith_7 rfl 1 rfl ?_
  refine g_iadd d_Th_keyWith_8 ?_
  refine g_iret d_Th_keyWith_9 ?_
  exact hQ

set_option maxHeartbeats 4000000 in
set_option maxRecDepth 100000 in
theorem C_Th_isBefore {w : zC} {Z : zZ} {Q : zR → zZ → Prop} {a ci : Nat} {fs : List Value} (hk : thk ci) (h0 : zhs Z a (.inr (ci, fs))) {b cj : Nat} {gs : List Value} (hk2 : thk cj) (h1 : zhs Z b (.inr (cj, gs))) {p r : Int32} (hp : fs[1]? = some (.int p)) (hr : gs[1]? = some (.int r)) (hQ : Q (.inl (some (.int (zb (p < r))))) Z) : Cz w (0, 0) y_Th_isBefore (Cond.code y_Th_isBefore c_Th_isBefore 2 r_Th_isBefore :: wz) [.ref a, .ref b] Z Q := by
  refine Cz.of (by decide +kernel) (by simp [lg_sl, Value.category]) ?_
  show G _ _ _ _ _ _ _ _ [(0, _), (1, _)] _ _
  refine g_aload_nq d_Th_isBefore_0 rfl 1 rfl ?_
  refine g_ifnull d_Th_isBefore_1 ?_
  refine g_aload_nq d_Th_isBefore_4 rfl 0 rfl ?_
  refine g_get d_Th_isBefore_5 (fT15 hk) h0 hp ?_
  refine g_aload_nq d_Th_isBefore_8 rfl 1 rfl ?_
  refine g_get d_Th_isBefore_9 (fT15 hk2) h1 hr ?_
  refine g_icmp_ge (tgt := 19) d_Th_isBefore_12 (by decide) (fun h12 => ?_) (fun h12 => ?_)
  · refine g_iconst (v := 0) d_Th_isBefore_19 rfl ?_
    refine g_zret d_Th_isBefore_20 ?_ ?_
    · first | rfl | exact zb_nar _ | exact zb_narc (by assumption)
    · first | (rw [zb_f (Int32.not_lt.mpr h12)] at hQ; exact hQ) | (rw [zb_t (Int32.not_le.mp h12)] at hQ; exact hQ)
  · refine g_iconst (v := 1) d_Th_isBefore_15 rfl ?_
    refine g_goto (tgt := 20) d_Th_isBefore_16 (by decide) ?_
    refine g_zret d_Th_isBefore_20 ?_ ?_
    · first | rfl | exact zb_nar _ | exact zb_narc (by assumption)
    · first | (rw [zb_f (Int32.not_lt.mpr h12)] at hQ; exact hQ) | (rw [zb_t (Int32.not_le.mp h12)] at hQ; exact hQ)

set_option maxHeartbeats 4000000 in
set_option maxRecDepth 100000 in
theorem C_Th_init {w : zC} {Z : zZ} {Q : zR → zZ → Prop} {a ci : Nat} {fs : List Value} (hk : thk ci) (h0 : zhs Z a (.inr (ci, fs))) {s k n : Int32} (hl : 2 ≤ fs.length) (hQ : Q (.inl none) (zput Z a (.inr (ci, (fs.set 0 (.int s)).set 1 (.int ((s * 3 + k) * 160 + n)))))) : Cz w (1, 20) y_Th_init (Cond.code y_Th_init c_Th_init 4 r_Th_init :: wz) [.ref a, .int s, .int k, .int n] Z Q := by
  refine Cz.of (by decide +kernel) (by simp [lg_sl, Value.category]) ?_
  show G _ _ _ _ _ _ _ _ [(0, _), (1, _), (2, _), (3, _)] _ _
  refine g_aload_nq d_Th_init_0 rfl 0 rfl ?_
  refine g_objI d_Th_init_1 l_Th_3 (by decide) (Nat.le_of_ble_eq_true rfl) ?_
  refine g_aload_nq d_Th_init_4 rfl 0 rfl ?_
  refine g_iload_n d_Th_init_5 rfl 1 rfl ?_
  refine g_putF d_Th_init_6 (wT9 hk) rfl h0 rfl rfl (by omega) ?_
  generalize e1 : zput _ _ _ = Z1
  have h0 := zhs_put_same' e1 h0
  refine g_aload_nq d_Th_init_9 rfl 0 rfl ?_
  refine g_iload_n d_Th_init_10 rfl 1 rfl ?_
  refine g_iconst (v := 3) d_Th_init_11 rfl ?_
  refine g_imul d_Th_init_12 ?_
  refine g_iload_n d_Th_init_13 rfl 2 rfl ?_
  refine g_iadd d_Th_init_14 ?_
  refine g_sipush (v := 160) d_Th_init_15 rfl ?_
  refine g_imul d_Th_init_18 ?_
  refine g_iload_n d_Th_init_19 rfl 3 rfl ?_
  refine g_iadd d_Th_init_20 ?_
  refine g_putF d_Th_init_21 (wT15 hk) rfl h0 rfl rfl (by rw [List.length_set]; omega) ?_
  rw [← e1, zput_put]
  refine g_vret d_Th_init_24 ?_
  exact hQ

set_option maxHeartbeats 4000000 in
set_option maxRecDepth 100000 in
theorem C_Ph_pinCount {w : zC} {Z : zZ} {Q : zR → zZ → Prop} {a ci : Nat} {fs : List Value} (hk : phk ci) (h0 : zhs Z a (.inr (ci, fs))) {n : Int32} (hn : fs[3]? = some (.int n)) (hQ : Q (.inl (some (.int n))) Z) : Cz w (0, 0) y_Ph_pinCount (Cond.code y_Ph_pinCount c_Ph_pinCount 1 r_Ph_pinCount :: wz) [.ref a] Z Q := by
  refine Cz.of (by decide +kernel) (by simp [lg_sl, Value.category]) ?_
  show G _ _ _ _ _ _ _ _ [(0, _)] _ _
  refine g_aload_nq d_Ph_pinCount_0 rfl 0 rfl ?_
  refine g_get d_Ph_pinCount_1 (fP15 hk) (by assumption) (by first | rfl | assumption) ?_
  refine g_iret d_Ph_pinCount_4 ?_
  exact hQ

set_option maxHeartbeats 4000000 in
set_option maxRecDepth 100000 in
theorem C_Ph_pinsOfKind {w : zC} {Z : zZ} {Q : zR → zZ → Prop} {a ci q : Nat} {fs : List Value} {pf : Nat → Int32} (hk : phk ci) (h0 : zhs Z a (.inr (ci, fs))) (hq : fs[2]? = some (.ref q)) (h1 : zhs Z q (.inl (w.2.2.2.1 0, 10, .inl pf))) {x : Int32} (hQ : Q (.inl (some (.int (if ¬ x < 0 ∧ ¬ nI 10 ≤ x then pf x.toNatClampNeg else 0)))) Z) : Cz w (1, 21) y_Ph_pinsOfKind (Cond.code y_Ph_pinsOfKind c_Ph_pinsOfKind 2 r_Ph_pinsOfKind :: wz) [.ref a, .int x] Z Q := by
  refine Cz.of (by decide +kernel) (by simp [lg_sl, Value.category]) ?_
  show G _ _ _ _ _ _ _ _ [(0, _), (1, _)] _ _
  refine g_iload_n d_Ph_pinsOfKind_0 rfl 1 rfl ?_
  refine g_aload_nq d_Ph_pinsOfKind_1 rfl 0 rfl ?_
  refine g_get d_Ph_pinsOfKind_2 (fP9 hk) (by assumption) (by first | rfl | assumption) ?_
  refine g_alen d_Ph_pinsOfKind_5 0 (by assumption) rfl ?_
  refine g_callSN d_Ph_pinsOfKind_6 k_K_isBelow l_Ph_19 s_K_isBelow (by rfl) (by rfl) (Nat.le_of_ble_eq_true rfl) (by decide) (C_K_isBelow ⟨_, rfl, ?_⟩)
  first | refine g_if_eqB (tgt := 21) d_Ph_pinsOfKind_9 (by decide) (fun h9 => ?_) (fun h9 => ?_) | refine g_if_eq (tgt := 21) d_Ph_pinsOfKind_9 (by decide) (fun h9 => ?_) (fun h9 => ?_)
  · refine g_iconst (v := 0) d_Ph_pinsOfKind_21 rfl ?_
    refine g_iret d_Ph_pinsOfKind_22 ?_
    first | (rw [if_pos h9] at hQ; exact hQ) | (rw [if_neg h9] at hQ; exact hQ)
  · refine g_aload_nq d_Ph_pinsOfKind_12 rfl 0 rfl ?_
    refine g_get d_Ph_pinsOfKind_13 (fP9 hk) (by assumption) (by first | rfl | assumption) ?_
    refine g_iload_n d_Ph_pinsOfKind_16 rfl 1 rfl ?_
    refine g_iald d_Ph_pinsOfKind_17 (by assumption) (vin_of h9.1 h9.2 (by decide)) ?_
    refine g_goto (tgt := 22) d_Ph_pinsOfKind_18 (by decide) ?_
    refine g_iret d_Ph_pinsOfKind_22 ?_
    first | (rw [if_pos h9] at hQ; exact hQ) | (rw [if_neg h9] at hQ; exact hQ)

set_option maxHeartbeats 4000000 in
set_option maxRecDepth 100000 in
theorem C_Ph_countPins {w : zC} {Z : zZ} {Q : zR → zZ → Prop} {a ci q : Nat} {fs : List Value} {pf : Nat → Int32} (hk : phk ci) (h0 : zhs Z a (.inr (ci, fs))) (hq : fs[2]? = some (.ref q)) (h1 : zhs Z q (.inl (w.2.2.2.1 0, 10, .inl pf))) {k : Nat} {m n : Int32} (hk9 : k < 10) (hn : fs[3]? = some (.int n)) (hl : 4 ≤ fs.length) (hQ : Q (.inl none) (zput (zput Z q (.inl (w.2.2.2.1 0, 10, .inl (upd pf k (pf k + m))))) a (.inr (ci, fs.set 3 (.int (n + m)))))) : Cz w (1, 21) y_Ph_countPins (Cond.code y_Ph_countPins c_Ph_countPins 3 r_Ph_countPins :: wz) [.ref a, .int (nI k), .int m] Z Q := by
  refine Cz.of (by decide +kernel) (by simp [lg_sl, Value.category]) ?_
  show G _ _ _ _ _ _ _ _ [(0, _), (1, _), (2, _)] _ _
  refine g_iload_n d_Ph_countPins_0 rfl 1 rfl ?_
  refine g_aload_nq d_Ph_countPins_1 rfl 0 rfl ?_
  refine g_get d_Ph_countPins_2 (fP9 hk) (by assumption) (by first | rfl | assumption) ?_
  refine g_alen d_Ph_countPins_5 0 (by assumption) rfl ?_
  refine g_callSN d_Ph_countPins_6 k_K_isBelow l_Ph_19 s_K_isBelow (by rfl) (by rfl) (Nat.le_of_ble_eq_true rfl) (by decide) (C_K_isBelow ⟨_, rfl, ?_⟩)
  first | refine g_if_eqB (tgt := 32) d_Ph_countPins_9 (by decide) (fun h9 => ?_) (fun h9 => ?_) | refine g_if_eq (tgt := 32) d_Ph_countPins_9 (by decide) (fun h9 => ?_) (fun h9 => ?_)
  · exact absurd ⟨nI_pos (by omega), nI_ge hk9 (by decide)⟩ h9
  · refine g_aload_nq d_Ph_countPins_12 rfl 0 rfl ?_
    refine g_get d_Ph_countPins_13 (fP9 hk) (by assumption) (by first | rfl | assumption) ?_
    refine g_iload_n d_Ph_countPins_16 rfl 1 rfl ?_
    refine g_dup2_11 d_Ph_countPins_17 rfl rfl ?_
    refine g_iald d_Ph_countPins_18 (by assumption) (vp_in_nI hk9 (by decide)) ?_
    rw [nI_clamp (by omega)]
    refine g_iload_n d_Ph_countPins_19 rfl 2 rfl ?_
    refine g_iadd d_Ph_countPins_20 ?_
    refine g_iast d_Ph_countPins_21 (by assumption) (vp_in_nI hk9 (by decide)) ?_
    rw [nI_clamp (by omega)]
    generalize e1 : zput _ _ _ = Z1
    have h0 := zhs_put_ne' e1 h0 (zhs_ne h0 h1 (by simp))
    have h1 := zhs_put_same' e1 h1
    refine g_aload_nq d_Ph_countPins_22 rfl 0 rfl ?_
    refine g_dup d_Ph_countPins_23 rfl ?_
    refine g_get d_Ph_countPins_24 (fP15 hk) (by assumption) (by first | rfl | assumption) ?_
    refine g_iload_n d_Ph_countPins_27 rfl 2 rfl ?_
    refine g_iadd d_Ph_countPins_28 ?_
    refine g_put d_Ph_countPins_29 (wP15 hk) h0 rfl rfl (by omega) ?_
    rw [← e1]
    refine g_vret d_Ph_countPins_32 ?_
    exact hQ

set_option maxHeartbeats 4000000 in
set_option maxRecDepth 100000 in
theorem C_Ph_init {w : zC} {Z : zZ} {Q : zR → zZ → Prop} {a ci : Nat} {fs : List Value} (hk : phk ci) (h0 : zhs Z a (.inr (ci, fs))) {s k n : Int32} (hl : 4 ≤ fs.length) (hb : 1 ≤ Z.2.2.1 ∧ 10 ≤ Z.2.2.2) (hQ : ∀ Z' q, q ∉ Z.1 → zhs Z' a (.inr (ci, ((((fs.set 0 (.int s)).set 1 (.int ((s * 3 + k) * 160 + n))).set 2 (.ref q)).set 3 (.int 0)))) → zhs Z' q (.inl (w.2.2.2.1 0, 10, .inl fun _ => 0)) → zfr Z Z' [a] → Z'.2.2.1 = Z.2.2.1 - 1 → Z'.2.2.2 = Z.2.2.2 - 10 → Q (.inl none) Z') : Cz w (2, 43) y_Ph_init (Cond.code y_Ph_init c_Ph_init 4 r_Ph_init :: wz) [.ref a, .int s, .int k, .int n] Z Q := by
  refine Cz.of (by decide +kernel) (by simp [lg_sl, Value.category]) ?_
  show G _ _ _ _ _ _ _ _ [(0, _), (1, _), (2, _), (3, _)] _ _
  refine g_aload_nq d_Ph_init_0 rfl 0 rfl ?_
  refine g_iload_n d_Ph_init_1 rfl 1 rfl ?_
  refine g_iload_n d_Ph_init_2 rfl 2 rfl ?_
  refine g_iload_n d_Ph_init_3 rfl 3 rfl ?_
  refine g_callI d_Ph_init_4 k_Th_init rfl l_Ph_3 i_Th_init (by rfl) (by rfl) (Nat.le_of_ble_eq_true rfl) (by decide) (C_Th_init hk.th h0 (by omega) ⟨_, rfl, ?_⟩)
  generalize e1 : zput _ _ _ = Z1
  have h0 := zhs_put_same' e1 h0
  have B1 := zbud_put e1
  refine g_aload_nq d_Ph_init_7 rfl 0 rfl ?_
  refine g_bipush (v := 10) d_Ph_init_8 rfl ?_
  refine g_newi (N := 10) d_Ph_init_10 rfl a_int rfl (by decide) (by omega) (by omega) (fun q hq => ?_)
  generalize e2 : znew _ _ _ _ = Z2
  have n0 := zhs_new_same' e2
  have h0 := zhs_new_old' e2 h0 hq
  have B2 := zbud_new e2
  refine g_putF d_Ph_init_12 (wP9 hk) rfl h0 rfl rfl (by simp only [List.length_set]; omega) ?_
  generalize e3 : zput _ _ _ = Z3
  have n0 := zhs_put_ne' e3 n0 (Ne.symm (zhs_ne h0 n0 (by simp)))
  have h0 := zhs_put_same' e3 h0
  have B3 := zbud_put e3
  refine g_aload_nq d_Ph_init_15 rfl 0 rfl ?_
  refine g_iconst (v := 0) d_Ph_init_16 rfl ?_
  refine g_put d_Ph_init_17 (wP15 hk) h0 rfl rfl (by simp only [List.length_set]; omega) ?_
  generalize e4 : zput _ _ _ = Z4
  have n0 := zhs_put_ne' e4 n0 (Ne.symm (zhs_ne h0 n0 (by simp)))
  have h0 := zhs_put_same' e4 h0
  have B4 := zbud_put e4
  refine g_vret d_Ph_init_20 ?_
  exact hQ Z4 q (fun z => hq ((zmem_put e1).mpr z)) h0 n0 (zfr_tr (zfr_put e1 (by simp)) (zfr_tr (zfr_new e2 hq) (zfr_tr (zfr_put e3 (by simp)) (zfr_put e4 (by simp))))) (by omega) (by omega)
