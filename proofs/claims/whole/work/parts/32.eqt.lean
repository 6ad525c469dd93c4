/-! What a rule's weight rests on; small methods of PinKindChecks -/
/-- the ints of things, rules and verdicts, the references, the counts of things and rules -/
def eqT (S S' : ST) : Prop := (∀ m, (100 ≤ m ∨ m = 11) → sI S' m = sI S m) ∧ (∀ m, 100 ≤ m → sJ S' m = sJ S m) ∧ (∀ m, 100 ≤ m → sR S' m = sR S m) ∧ ∀ m, (m < 4 ∨ 1000 ≤ m) → sN S' m = sN S m
theorem eqT.rf {S : ST} : eqT S S := ⟨fun _ _ => rfl, fun _ _ => rfl, fun _ _ => rfl, fun _ _ => rfl⟩
theorem mv.eqT {S S' : ST} {j : Nat} (hj : j < 3) (h : mv S S' j) : eqT S S' := ⟨fun m hm => h.1 m (by omega), fun m hm => h.2.1 m (by omega), fun m _ => by rw [h.2.2.1], fun m hm => h.2.2.2 m (by omega)⟩
theorem lnB_congr {S S' : ST} (h : eqT S S') (k : Nat) : lnB S' k = lnB S k := by
  unfold lnB
  have e : (fun i => decide (sI S' (220 + 2 * i) 4 = sI S' (220 + 2 * k) 4)) = (fun i => decide (sI S (220 + 2 * i) 4 = sI S (220 + 2 * k) 4)) := by
    funext i
    rw [h.1 (220 + 2 * i) (by omega), h.1 (220 + 2 * k) (by omega)]
  rw [e]
theorem wvF_congr {S S' : ST} (h : eqT S S') (p : Nat) : ∀ n, wvF S' p n = wvF S p n
  | 0 => rfl
  | n + 1 => by
    unfold wvF
    rw [wvF_congr h p n, h.1 (300 + p) (by omega), h.1 (300 + n) (by omega), h.1 11 (by omega), h.2.2.1 (300 + n) (by omega), h.2.2.1 (300 + p) (by omega)]
theorem nbw_congr {S S' : ST} (h : eqT S S') (k : Nat) (x : Int32) : nbw S' k x = nbw S k x := by
  unfold nbw
  rw [lnB_congr h, h.1 (221 + 2 * k) (by omega), h.1 (220 + 2 * k) (by omega)]
theorem pbw_congr {S S' : ST} (h : eqT S S') (k : Nat) (x : Int32) : pbw S' k x = pbw S k x := by
  unfold pbw
  rw [wvF_congr h, h.1 (300 + k) (by omega), h.2.2.1 (300 + k) (by omega)]
theorem tv_congr {S S' : ST} (h : eqT S S') (c k : Nat) : tv S' c k = tv S c k := by
  funext t x
  unfold tv pv nv qv fAt
  rw [h.1 (100 + 3 * k) (by omega), h.1 (101 + 3 * k) (by omega), h.1 (220 + 2 * k) (by omega), h.1 (221 + 2 * k) (by omega), h.1 (300 + k) (by omega), h.2.2.1 (300 + k) (by omega), h.2.2.2 (2000 + k) (by omega), h.2.1 (102 + 3 * k) (by omega), h.2.1 (102 + 3 * sN S (2000 + k)) (by omega)]
  cases sR S (300 + k) 4 with
  | none => rfl
  | some n => simp only [h.1 (220 + 2 * n) (by omega)]
theorem evr_congr {S S' : ST} (h : eqT S S') (h10 : sJ S' 10 = sJ S 10) (c k r : Nat) : evr S' c k r = evr S c k r := by
  unfold evr
  rw [tv_congr h, h.1 (461 + 3 * r) (by omega), h.1 (462 + 3 * r) (by omega), h.2.2.2 (3000 + r) (by omega), h10]
theorem wgt_congr {S S' : ST} (h : eqT S S') (h10 : sJ S' 10 = sJ S 10) (c k p : Nat) : wgt S' c k p = wgt S c k p := by
  unfold wgt
  rw [nbw_congr h, pbw_congr h, evr_congr h h10, h.1 (460 + 3 * (p - 7)) (by omega)]
/-- what a rule says doesn't rest on what the stack held before -/
def ciInd (S : ST) : Prop := ∀ f c k p, wgt (wJ S 10 f) c k p = wgt S c k p
theorem wgt_eqT {S S' : ST} (h : eqT S S') (hi : ciInd S) (c k p : Nat) : wgt S' c k p = wgt S c k p := by
  rw [← hi (sJ S' 10) c k p]
  exact wgt_congr (S := wJ S 10 (sJ S' 10)) (S' := S') ⟨h.1, fun m hm => by rw [h.2.1 m hm]; exact (va_up_ne S.2.1 (sJ S' 10) (by omega)).symm, h.2.2.1, h.2.2.2⟩ (va_up_self S.2.1 10 (sJ S' 10)).symm c k p
theorem ciInd.eqT {S S' : ST} (hi : ciInd S) (h : eqT S S') : ciInd S' := fun f c k p => by
  rw [wgt_eqT h hi]
  exact wgt_eqT (S := S) (S' := wJ S' 10 f) ⟨h.1, fun m hm => (va_up_ne S'.2.1 f (by omega)).trans (h.2.1 m hm), h.2.2.1, h.2.2.2⟩ hi c k p
theorem ciSh.eqT {S S' : ST} (hs : ciSh S) (h : eqT S S') : ciSh S' := by
  refine ⟨fun k hk => ?_, fun k hk => ?_, fun k hk => ?_⟩
  · rw [h.1 _ (by omega)]; exact hs.1 k (by rw [h.2.2.2 0 (by omega)] at hk; exact hk)
  · rw [h.1 _ (by omega)]; exact hs.2.1 k (by rw [h.2.2.2 1 (by omega)] at hk; exact hk)
  · rw [h.1 _ (by omega)]; exact hs.2.2 k (by rw [h.2.2.2 2 (by omega)] at hk; exact hk)
theorem ciPin.eqT {S S' : ST} (hs : ciPin S) (h : eqT S S') : ciPin S' := fun k hk => by
  rw [h.2.2.2 2 (by omega)] at hk
  rw [h.1 _ (by omega), h.2.2.1 _ (by omega), h.2.2.2 (2000 + k) (by omega), h.2.2.2 0 (by omega), h.2.2.2 1 (by omega)]
  exact hs k hk
theorem ciTold.eqT {S S' : ST} (hs : ciTold S) (h : eqT S S') : ciTold S' := fun r hr => by
  rw [h.2.2.2 3 (by omega)] at hr
  rw [h.2.2.2 _ (by omega)]
  exact hs r hr
theorem ciOrd.eqT {S S' : ST} (hs : ciOrd S) (h : eqT S S') : ciOrd S' := fun k hk => by
  rw [h.2.2.2 0 (by omega), h.2.2.2 1 (by omega), h.2.2.2 2 (by omega)] at hk
  rw [h.2.2.2 _ (by omega)]
  exact hs k hk
theorem tok.eqT {S S' : ST} {c k : Nat} (hs : tok S c k) (h : eqT S S') : tok S' c k := by
  unfold tok
  rw [h.2.2.2 0 (by omega), h.2.2.2 1 (by omega), h.2.2.2 2 (by omega)]
  exact hs
set_option maxHeartbeats 4000000 in
set_option maxRecDepth 100000 in
theorem C_K_ruleCount {w : zC} {Z : zZ} {Q : zR → zZ → Prop} {ad : Nat → Nat} {S : ST} (hR : Rep w ad S Z) (hQ : Q (.inl (some (.int (nI (7 + sN S 3))))) Z) : Cz w (0, 0) y_K_ruleCount (Cond.code y_K_ruleCount c_K_ruleCount 1 r_K_ruleCount :: wz) [.ref (ad 0)] Z Q := by
  refine Cz.of (by decide +kernel) (by simp [lg_sl, Value.category]) ?_
  show G _ _ _ _ _ _ _ _ [(0, _)] _ _
  have h0 : zhs Z (ad 0) (.inr (0, [.ref (ad 1), .ref (ad 3), .ref (ad 8), .ref (ad 9), .ref (ad 4), .ref (ad 5), .ref (ad 10), .ref (ad (5 + sN S 8)), .ref (ad (8 - sN S 8)), .int (nI (sN S 3)), .int (sI S 0 11)])) := hR.k 0 (by decide)
  refine g_bipush (v := 7) d_K_ruleCount_0 rfl ?_
  refine g_aload_nq d_K_ruleCount_2 rfl 0 rfl ?_
  refine g_get d_K_ruleCount_3 f_K_57_K (by assumption) (by first | rfl | assumption) ?_
  refine g_iadd d_K_ruleCount_6 ?_
  rw [show (7 : Int32) = nI 7 from rfl, nI_add]
  refine g_iret d_K_ruleCount_7 ?_
  exact hQ

set_option maxHeartbeats 4000000 in
set_option maxRecDepth 100000 in
theorem C_K_isRule {w : zC} {Z : zZ} {Q : zR → zZ → Prop} {ad : Nat → Nat} {S : ST} (hR : Rep w ad S Z) {x : Int32} (hQ : Q (.inl (some (.int (zb (¬ x < 0 ∧ ¬ nI (7 + sN S 3) ≤ x))))) Z) : Cz w (1, 21) y_K_isRule (Cond.code y_K_isRule c_K_isRule 2 r_K_isRule :: wz) [.ref (ad 0), .int x] Z Q := by
  refine Cz.of (by decide +kernel) (by simp [lg_sl, Value.category]) ?_
  show G _ _ _ _ _ _ _ _ [(0, _), (1, _)] _ _
  have n3 := hR.1.2.2.2.1
  have h0 : zhs Z (ad 0) (.inr (0, [.ref (ad 1), .ref (ad 3), .ref (ad 8), .ref (ad 9), .ref (ad 4), .ref (ad 5), .ref (ad 10), .ref (ad (5 + sN S 8)), .ref (ad (8 - sN S 8)), .int (nI (sN S 3)), .int (sI S 0 11)])) := hR.k 0 (by decide)
  have h9 : zhs Z (ad 9) (xz w 27 (sI S 9)) := hR.k 9 (by decide)
  refine g_iload_n d_K_isRule_0 rfl 1 rfl ?_
  refine g_aload_nq d_K_isRule_1 rfl 0 rfl ?_
  refine g_callV d_K_isRule_2 k_K_ruleCount l_K_161 i_K_ruleCount rfl p_K_ruleCount (by assumption) (by rfl) (by rfl) (Nat.le_of_ble_eq_true rfl) (by decide) (C_K_ruleCount hR ⟨_, rfl, ?_⟩)
  refine g_callS d_K_isRule_5 k_K_isBelow l_K_64 s_K_isBelow (by rfl) (by rfl) (Nat.le_of_ble_eq_true rfl) (by decide) (C_K_isBelow ⟨_, rfl, ?_⟩)
  first | refine g_if_eqB (tgt := 24) d_K_isRule_8 (by decide) (fun h8 => ?_) (fun h8 => ?_) | refine g_if_eq (tgt := 24) d_K_isRule_8 (by decide) (fun h8 => ?_) (fun h8 => ?_)
  · rw [zb_f h8] at hQ
    refine g_iconst (v := 0) d_K_isRule_24 rfl ?_
    refine g_zret d_K_isRule_25 ?_ ?_
    · first | rfl | exact zb_nar _ | exact zb_narc (by assumption)
    · exact hQ
  · rw [zb_t h8] at hQ
    refine g_iload_n d_K_isRule_11 rfl 1 rfl ?_
    refine g_aload_nq d_K_isRule_12 rfl 0 rfl ?_
    refine g_get d_K_isRule_13 f_K_29_K (by assumption) (by first | rfl | assumption) ?_
    refine g_alen d_K_isRule_16 2 (by assumption) rfl ?_
    refine g_icmp_ge (tgt := 24) d_K_isRule_17 (by decide) (fun h17 => ?_) (fun h17 => ?_)
    · exact absurd h17 (vin_le h8.2 (by omega) (by decide))
    · refine g_iconst (v := 1) d_K_isRule_20 rfl ?_
      refine g_goto (tgt := 25) d_K_isRule_21 (by decide) ?_
      refine g_zret d_K_isRule_25 ?_ ?_
      · first | rfl | exact zb_nar _ | exact zb_narc (by assumption)
      · exact hQ

set_option maxHeartbeats 4000000 in
set_option maxRecDepth 100000 in
theorem C_K_isNetOrNone {w : zC} {Z : zZ} {Q : zR → zZ → Prop} {ad : Nat → Nat} {S : ST} (hR : Rep w ad S Z) {x : Int32} (hQ : Q (.inl (some (.int (zb (x = -1 ∨ (¬ x < 0 ∧ ¬ nI (sN S 1) ≤ x)))))) Z) : Cz w (2, 42) y_K_isNetOrNone (Cond.code y_K_isNetOrNone c_K_isNetOrNone 2 r_K_isNetOrNone :: wz) [.ref (ad 0), .int x] Z Q := by
  refine Cz.of (by decide +kernel) (by simp [lg_sl, Value.category]) ?_
  show G _ _ _ _ _ _ _ _ [(0, _), (1, _)] _ _
  have h0 : zhs Z (ad 0) (.inr (0, [.ref (ad 1), .ref (ad 3), .ref (ad 8), .ref (ad 9), .ref (ad 4), .ref (ad 5), .ref (ad 10), .ref (ad (5 + sN S 8)), .ref (ad (8 - sN S 8)), .int (nI (sN S 3)), .int (sI S 0 11)])) := hR.k 0 (by decide)
  have h1 : zhs Z (ad 1) (.inr (1, [.ref (ad 11), .ref (ad 12), .ref (ad 13), .ref (ad 14), .ref (ad 15), .int (nI (sN S 0)), .int (nI (sN S 1)), .int (nI (sN S 2)), .int (nI (sN S 7))])) := hR.k 1 (by decide)
  refine g_iload_n d_K_isNetOrNone_0 rfl 1 rfl ?_
  refine g_iconst (v := (-1)) d_K_isNetOrNone_1 rfl ?_
  refine g_icmp_eq (tgt := 16) d_K_isNetOrNone_2 (by decide) (fun h2 => ?_) (fun h2 => ?_)
  · rw [zb_t (Or.inl h2)] at hQ
    refine g_iconst (v := 1) d_K_isNetOrNone_16 rfl ?_
    refine g_goto (tgt := 21) d_K_isNetOrNone_17 (by decide) ?_
    refine g_zret d_K_isNetOrNone_21 ?_ ?_
    · first | rfl | exact zb_nar _ | exact zb_narc (by assumption)
    · exact hQ
  · refine g_aload_nq d_K_isNetOrNone_5 rfl 0 rfl ?_
    refine g_get d_K_isNetOrNone_6 f_K_12_K (by assumption) (by first | rfl | assumption) ?_
    refine g_iload_n d_K_isNetOrNone_9 rfl 1 rfl ?_
    refine g_callV d_K_isNetOrNone_10 k_Sc_netAt l_K_108 i_Sc_netAt rfl q_Sc_Sc_netAt_Sc (by assumption) (by rfl) (by rfl) (Nat.le_of_ble_eq_true rfl) (by decide) (C_Sc_netAt hR ⟨_, rfl, ?_⟩)
    refine g_ifnullq (tgt := 20) d_K_isNetOrNone_13 (by decide) (fun h13 => ?_) (fun q13 h13 => ?_)
    · have hno : ¬ (¬ x < 0 ∧ ¬ nI (sN S 1) ≤ x) := fun z => by unfold atN at h13; rw [if_pos z] at h13; cases h13
      rw [zb_f (fun z => z.elim h2 hno)] at hQ
      refine g_iconst (v := 0) d_K_isNetOrNone_20 rfl ?_
      refine g_zret d_K_isNetOrNone_21 ?_ ?_
      · first | rfl | exact zb_nar _ | exact zb_narc (by assumption)
      · exact hQ
    · have hyes : ¬ x < 0 ∧ ¬ nI (sN S 1) ≤ x := Classical.byContradiction fun z => by unfold atN at h13; rw [if_neg z] at h13; cases h13
      rw [zb_t (Or.inr hyes)] at hQ
      refine g_iconst (v := 1) d_K_isNetOrNone_16 rfl ?_
      refine g_goto (tgt := 21) d_K_isNetOrNone_17 (by decide) ?_
      refine g_zret d_K_isNetOrNone_21 ?_ ?_
      · first | rfl | exact zb_nar _ | exact zb_narc (by assumption)
      · exact hQ

set_option maxHeartbeats 4000000 in
set_option maxRecDepth 100000 in
theorem C_K_aboutKey {w : zC} {Z : zZ} {Q : zR → zZ → Prop} {x t : Int32} (hQ : Q (.inl (some (.int (if t = 0 then x - x / 27 * 27 else if t = 1 then x / 27 / 160 - x / 27 / 160 / 3 * 3 else x / 27 - x / 27 / 160 * 160)))) Z) : Cz w (0, 0) y_K_aboutKey (Cond.code y_K_aboutKey c_K_aboutKey 3 r_K_aboutKey :: wz) [.int x, .int t] Z Q := by
  refine Cz.of (by decide +kernel) (by simp [lg_sl, Value.category]) ?_
  show G _ _ _ _ _ _ _ _ [(0, _), (1, _)] _ _
  refine g_iload_n d_K_aboutKey_0 rfl 1 rfl ?_
  first | refine g_if_neB (tgt := 9) d_K_aboutKey_1 (by decide) (fun h1 => ?_) (fun h1 => ?_) | refine g_if_ne (tgt := 9) d_K_aboutKey_1 (by decide) (fun h1 => ?_) (fun h1 => ?_)
  · rw [if_neg h1] at hQ
    refine g_iload_n d_K_aboutKey_9 rfl 0 rfl ?_
    refine g_bipush (v := 27) d_K_aboutKey_10 rfl ?_
    refine g_idiv d_K_aboutKey_12 (by decide) ?_
    refine g_istore_n d_K_aboutKey_13 rfl (by decide) rfl ?_
    show G _ _ _ _ _ _ _ _ [(2, _), (0, _), (1, _)] _ _
    refine g_iload_n d_K_aboutKey_14 rfl 2 rfl ?_
    refine g_iconst (v := 1) d_K_aboutKey_15 rfl ?_
    refine g_icmp_ne (tgt := 29) d_K_aboutKey_16 (by decide) (fun h16 => ?_) (fun h16 => ?_)
    · rw [if_neg h16] at hQ
      refine g_iload_n d_K_aboutKey_29 rfl 0 rfl ?_
      refine g_sipush (v := 160) d_K_aboutKey_30 rfl ?_
      refine g_irem d_K_aboutKey_33 (by decide) ?_
      refine g_iret d_K_aboutKey_34 ?_
      exact hQ
    · rw [if_pos h16] at hQ
      refine g_iload_n d_K_aboutKey_19 rfl 0 rfl ?_
      refine g_sipush (v := 160) d_K_aboutKey_20 rfl ?_
      refine g_idiv d_K_aboutKey_23 (by decide) ?_
      refine g_iconst (v := 3) d_K_aboutKey_24 rfl ?_
      refine g_irem d_K_aboutKey_25 (by decide) ?_
      refine g_goto (tgt := 34) d_K_aboutKey_26 (by decide) ?_
      refine g_iret d_K_aboutKey_34 ?_
      exact hQ
  · rw [if_pos h1] at hQ
    refine g_iload_n d_K_aboutKey_4 rfl 0 rfl ?_
    refine g_bipush (v := 27) d_K_aboutKey_5 rfl ?_
    refine g_irem d_K_aboutKey_7 (by decide) ?_
    refine g_iret d_K_aboutKey_8 ?_
    exact hQ
