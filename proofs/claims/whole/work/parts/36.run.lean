/-! PinKindChecks.run -/
def tc (i : Nat) : Nat := if i < 220 then 0 else if i < 300 then 1 else 2
def tq (i : Nat) : Nat := if i < 220 then (i - 100) / 3 else if i < 300 then (i - 220) / 2 else i - 300
theorem tc_tid {S : ST} {c q : Nat} (h : tok S c q) (b0 : sN S 0 ≤ 40) (b1 : sN S 1 ≤ 40) : tc (tid c q) = c ∧ tq (tid c q) = q := by
  rcases h with ⟨rfl, h⟩ | ⟨rfl, h⟩ | ⟨rfl, h⟩
  · show tc (100 + 3 * q) = 0 ∧ tq (100 + 3 * q) = q
    unfold tc tq
    rw [if_pos (by omega), if_pos (by omega)]
    omega
  · show tc (220 + 2 * q) = 1 ∧ tq (220 + 2 * q) = q
    unfold tc tq
    rw [if_neg (by omega), if_pos (by omega), if_neg (by omega), if_pos (by omega)]
    omega
  · show tc (300 + q) = 2 ∧ tq (300 + q) = q
    unfold tc tq
    rw [if_neg (by omega), if_neg (by omega), if_neg (by omega), if_neg (by omega)]
    omega
/-- what the rules say of the thing of number i -/
def thR (S : ST) (i : Nat) : List RM := manyR S (tc i) (tq i) (7 + sN S 3) 0
def allR (S : ST) : Nat → Nat → List RM
  | 0, _ => []
  | n + 1, i => thR S (sN S (1000 + i)) ++ allR S n (i + 1)
theorem allR_eqT {S S' : ST} (h : eqT S S') (hi : ciInd S) (h9 : sI S' 9 = sI S 9) (h0 : sI S' 0 = sI S 0) : ∀ n i, allR S' n i = allR S n i
  | 0, _ => rfl
  | n + 1, i => by
    unfold allR thR
    rw [allR_eqT h hi h9 h0 n, manyR_eqT h hi h9 h0, h.2.2.2 3 (by omega), h.2.2.2 _ (by omega)]
theorem ciLive.eqT {S S' : ST} (hs : ciLive S) (h : eqT S S') : ciLive S' := by
  refine ⟨fun k hk => ?_, fun k hk => ?_⟩
  · rw [h.2.2.2 0 (by omega), h.2.2.2 1 (by omega), h.2.2.2 2 (by omega)] at hk
    obtain ⟨c, q, h1, h2⟩ := hs.1 k hk
    exact ⟨c, q, h1.eqT h, by rw [h.2.2.2 _ (by omega)]; exact h2⟩
  · rw [h.2.2.2 2 (by omega)] at hk
    rw [h.2.2.2 (2000 + k) (by omega), h.2.2.2 0 (by omega), h.2.2.2 1 (by omega), h.2.2.1 _ (by omega)]
    exact hs.2 k hk
/-- what the three rows may still cost, beside X cells and Y slots of others -/
def bAll (S : ST) (Z : zZ) (X Y : Nat) : Prop := gC (sN S 4) + gC (sN S 5) + gC (sN S 6) + X ≤ Z.2.2.1 ∧ gS (sN S 4) + gS (sN S 5) + gS (sN S 6) + Y ≤ Z.2.2.2
theorem bAll.row {S : ST} {Z : zZ} {X Y j : Nat} (h : bAll S Z X Y) (hj : j < 3) : bOK S Z j := by
  unfold bAll at h
  unfold bOK
  rcases (show j = 0 ∨ j = 1 ∨ j = 2 by omega) with rfl | rfl | rfl <;> simp only [Nat.add_zero, Nat.reduceAdd] at * <;> omega
theorem bAll.st {S S' : ST} {Z Z' : zZ} {X Y j : Nat} (h : bAll S Z X Y) (hj : j < 3) (hN : ∀ m, 4 ≤ m → m ≤ 6 → m ≠ 4 + j → sN S' m = sN S m) (b : bud S S' Z Z' j) : bAll S' Z' X Y := by
  unfold bAll at *
  unfold bud at b
  rcases (show j = 0 ∨ j = 1 ∨ j = 2 by omega) with rfl | rfl | rfl
  · rw [hN 5 (by omega) (by omega) (by omega), hN 6 (by omega) (by omega) (by omega)]; simp only [Nat.add_zero, Nat.reduceAdd] at *; omega
  · rw [hN 4 (by omega) (by omega) (by omega), hN 6 (by omega) (by omega) (by omega)]; simp only [Nat.add_zero, Nat.reduceAdd] at *; omega
  · rw [hN 4 (by omega) (by omega) (by omega), hN 5 (by omega) (by omega) (by omega)]; simp only [Nat.add_zero, Nat.reduceAdd] at *; omega
/-- a run begins: the rows change places, the new one is wiped -/
def bgn (S : ST) : ST := wN (swp S) (17 + (3 - sN S 8)) 0
theorem bgn_N {S : ST} {m : Nat} (h8 : m ≠ 8) (h : m ≠ 17 + (3 - sN S 8)) : sN (bgn S) m = sN S m := (wN_ne h).trans (wN_ne h8)
theorem bgn_8 {S : ST} (h : sN S 8 = 1 ∨ sN S 8 = 2) : sN (bgn S) 8 = 3 - sN S 8 := (wN_ne (by omega)).trans wN_self
theorem bgn_eqT {S : ST} (h : sN S 8 = 1 ∨ sN S 8 = 2) : eqT S (bgn S) := ⟨fun _ _ => rfl, fun _ _ => rfl, fun _ _ => rfl, fun m hm => bgn_N (by omega) (by omega)⟩
set_option maxHeartbeats 4000000 in
set_option maxRecDepth 100000 in
theorem L_K_run {w : zC} {Q : zR → zZ → Prop} {j v : Nat} (hj : j < 3) (n : Nat) : ∀ i ad S Z, i + n = sN S 0 + sN S 1 + sN S 2 → Rep w ad S Z → sN S 8 = j → ciAll S → ciLive S → capOK S j → bOK S Z j → (remL S j).length + (allR S n i).length ≤ 3720 → (∀ Z' ad' S', Rep w ad' S' Z' → mvA ad ad' j → mv S S' j → remL S' j = remL S j ++ allR S n i → capOK S' j → bud S S' Z Z' j → G w y_K_run c_K_run 3 r_K_run (8, 190) Q 56 [(2, .int (nI (sN S 0 + sN S 1 + sN S 2))), (1, .ref v), (0, .ref (ad 0))] [] Z') → G w y_K_run c_K_run 3 r_K_run (8, 190) Q 27 [(2, .int (nI i)), (1, .ref v), (0, .ref (ad 0))] [] Z := by
  induction n with
  | zero =>
    intro i ad S Z hi hR h8 hci hL hcap hb hl hQ
    have n0 := hR.1.1
    have n1 := hR.1.2.1
    have n2 := hR.1.2.2.1
    have h0 : zhs Z (ad 0) (.inr (0, [.ref (ad 1), .ref (ad 3), .ref (ad 8), .ref (ad 9), .ref (ad 4), .ref (ad 5), .ref (ad 10), .ref (ad (5 + sN S 8)), .ref (ad (8 - sN S 8)), .int (nI (sN S 3)), .int (sI S 0 11)])) := hR.k 0 (by decide)
    have h1 : zhs Z (ad 1) (.inr (1, [.ref (ad 11), .ref (ad 12), .ref (ad 13), .ref (ad 14), .ref (ad 15), .int (nI (sN S 0)), .int (nI (sN S 1)), .int (nI (sN S 2)), .int (nI (sN S 7))])) := hR.k 1 (by decide)
    refine g_iload_n d_K_run_27 rfl 0 rfl ?_
    refine g_aload_nq d_K_run_28 rfl 2 rfl ?_
    refine g_get d_K_run_29 f_K_12_K (by assumption) (by first | rfl | assumption) ?_
    refine g_callV d_K_run_32 k_Sc_thingCount l_K_170 i_Sc_thingCount rfl q_Sc_Sc_thingCount_Sc h1 (by rfl) (by rfl) (Nat.le_of_ble_eq_true rfl) (by decide) (C_Sc_thingCount hR ⟨_, rfl, ?_⟩)
    refine g_icmp_ge (tgt := 56) d_K_run_35 (by decide) (fun h35 => ?_) (fun h35 => ?_)
    · have hi : i = sN S 0 + sN S 1 + sN S 2 := by omega
      subst hi
      exact hQ Z ad S hR mvA.rf mv.rf (by rw [allR, List.append_nil]) hcap bud.rf
    · exact absurd (nI_le (by omega) (by omega)) h35
  | succ n ih =>
    intro i ad S Z hi hR h8 hci hL hcap hb hl hQ
    have n0 := hR.1.1
    have n1 := hR.1.2.1
    have n2 := hR.1.2.2.1
    have h0 : zhs Z (ad 0) (.inr (0, [.ref (ad 1), .ref (ad 3), .ref (ad 8), .ref (ad 9), .ref (ad 4), .ref (ad 5), .ref (ad 10), .ref (ad (5 + sN S 8)), .ref (ad (8 - sN S 8)), .int (nI (sN S 3)), .int (sI S 0 11)])) := hR.k 0 (by decide)
    have h1 : zhs Z (ad 1) (.inr (1, [.ref (ad 11), .ref (ad 12), .ref (ad 13), .ref (ad 14), .ref (ad 15), .int (nI (sN S 0)), .int (nI (sN S 1)), .int (nI (sN S 2)), .int (nI (sN S 7))])) := hR.k 1 (by decide)
    refine g_iload_n d_K_run_27 rfl 0 rfl ?_
    refine g_aload_nq d_K_run_28 rfl 2 rfl ?_
    refine g_get d_K_run_29 f_K_12_K (by assumption) (by first | rfl | assumption) ?_
    refine g_callV d_K_run_32 k_Sc_thingCount l_K_170 i_Sc_thingCount rfl q_Sc_Sc_thingCount_Sc h1 (by rfl) (by rfl) (Nat.le_of_ble_eq_true rfl) (by decide) (C_Sc_thingCount hR ⟨_, rfl, ?_⟩)
    refine g_icmp_ge (tgt := 56) d_K_run_35 (by decide) (fun h35 => ?_) (fun h35 => ?_)
    · exact absurd h35 (nI_ge (by omega) (by omega))
    · refine g_aload_nq d_K_run_38 rfl 2 rfl ?_
      refine g_aload_nq d_K_run_39 rfl 2 rfl ?_
      refine g_get d_K_run_40 f_K_12_K (by assumption) (by first | rfl | assumption) ?_
      refine g_iload_n d_K_run_43 rfl 0 rfl ?_
      refine g_callV d_K_run_44 k_Sc_thingInOrder l_K_173 i_Sc_thingInOrder rfl q_Sc_Sc_thingInOrder_Sc h1 (by rfl) (by rfl) (Nat.le_of_ble_eq_true rfl) (by decide) (C_Sc_thingInOrder hR ⟨_, rfl, ?_⟩)
      obtain ⟨c, q, ht, hid⟩ := hL.1 i (by omega)
      unfold atO
      rw [if_pos ⟨nI_pos (by omega), nI_ge (by omega) (by omega)⟩, nI_clamp (by omega), hid]
      simp only [va_rf]
      have htq := tc_tid ht n0 n1
      have hth : thR S (sN S (1000 + i)) = manyR S c q (7 + sN S 3) 0 := by unfold thR; rw [hid, htq.1, htq.2]
      rw [allR, List.length_append, hth] at hl
      refine g_callV d_K_run_47 k_K_checkThing l_K_177 i_K_checkThing rfl p_K_checkThing h0 (by rfl) (by rfl) (Nat.le_of_ble_eq_true rfl) (by decide) (C_K_checkThing hR hj h8 ht hci hcap hb (by omega) (fun Z2 ad2 S2 hR2 ma2 m2 r2 c2 b2 => ⟨_, rfl, ?_⟩))
      have e2 := m2.eqT hj
      have em := allR_eqT e2 hci.2.2.2.2 (m2.1 9 (by omega)) (m2.1 0 (by omega))
      refine g_iinc (k := 0) d_K_run_50 rfl (nI_1 i) (by decide) rfl ?_
      refine g_goto (tgt := 27) d_K_run_53 (by decide) ?_
      rw [← ma2 0 (by omega)]
      refine ih (i + 1) ad2 S2 Z2 (by rw [e2.2.2.2 0 (by omega), e2.2.2.2 1 (by omega), e2.2.2.2 2 (by omega)]; omega) hR2 (by rw [m2.2.2.2 8 (by omega)]; exact h8) (hci.eqT e2) (hL.eqT e2) c2 (hb.st b2) (by rw [em, r2, List.length_append]; omega) ?_
      intro Z3 ad3 S3 q1 q2 q3 q4 q5 q6
      have h9 := hQ Z3 ad3 S3 q1 (ma2.tr q2) (m2.tr q3) (by rw [q4, r2, em, allR, hth, List.append_assoc]) q5 (b2.tr q6)
      rw [e2.2.2.2 0 (by omega), e2.2.2.2 1 (by omega), e2.2.2.2 2 (by omega), ma2 0 (by omega)]
      exact h9

set_option maxHeartbeats 4000000 in
set_option maxRecDepth 100000 in
theorem C_K_run {w : zC} {Z : zZ} {Q : zR → zZ → Prop} {ad : Nat → Nat} {S : ST} (hR : Rep w ad S Z) {j b X Y : Nat} (hjb : j + b = 3) (h8 : sN S 8 = b) (hci : ciAll S) (hL : ciLive S) (hcap : ∀ t, t < 3 → capOK S t) (hw : sN S 16 ≤ 50) (hb : bAll S Z X Y) (hl : (allR S (sN S 0 + sN S 1 + sN S 2) 0).length ≤ 3720) (hQ : ∀ Z' ad' S1 S', Rep w ad' S' Z' → (∀ m, (m < 22 ∨ 30 < m) → ad' m = ad m) → mv (bgn S) S1 j → remL S1 j = allR S (sN S 0 + sN S 1 + sN S 2) 0 → mvC S1 S' j → (sI S' (24 + 3 * j), remL S' 0) = cmpF (sI S1 (22 + 3 * j)) (sN S1 (17 + j)) (sI S1 (22 + 3 * b)) (sI S1 (23 + 3 * b)) (sI S1 (24 + 3 * b)) (sN S1 (17 + b)) 0 0 (sI S1 (24 + 3 * j), []) → (∀ t, t < 3 → capOK S' t) → bAll S' Z' X Y → Q (.inl (some (.int (nI (opn S' j (sN S' (17 + j)) 0))))) Z') : Cz w (8, 190) y_K_run (Cond.code y_K_run c_K_run 3 r_K_run :: wz) [.ref (ad 0)] Z Q := by
  refine Cz.of (by decide +kernel) (by simp [lg_sl, Value.category]) ?_
  show G _ _ _ _ _ _ _ _ [(0, _)] _ _
  have b8 := hR.1.2.2.2.2
  have h0 : zhs Z (ad 0) (.inr (0, [.ref (ad 1), .ref (ad 3), .ref (ad 8), .ref (ad 9), .ref (ad 4), .ref (ad 5), .ref (ad 10), .ref (ad (5 + sN S 8)), .ref (ad (8 - sN S 8)), .int (nI (sN S 3)), .int (sI S 0 11)])) := hR.k 0 (by decide)
  refine g_aload_nq d_K_run_0 rfl 0 rfl ?_
  refine g_get d_K_run_1 f_K_54_K (by assumption) (by first | rfl | assumption) ?_
  refine g_astore_nq d_K_run_4 rfl (by decide) rfl ?_
  show G _ _ _ _ _ _ _ _ [(1, _), (0, _)] _ _
  refine g_aload_nq d_K_run_5 rfl 1 rfl ?_
  refine g_aload_nq d_K_run_6 rfl 1 rfl ?_
  refine g_get d_K_run_7 f_K_51_K (by assumption) (by first | rfl | assumption) ?_
  refine g_put d_K_run_10 w_K_54_K (by assumption) (by rfl) (by rfl) (Nat.le_of_ble_eq_true rfl) ?_
  generalize hz1 : zput _ _ _ = Z1
  have h0 := zhs_put_same' hz1 h0
  refine g_aload_nq d_K_run_13 rfl 1 rfl ?_
  refine g_aload_nq d_K_run_14 rfl 0 rfl ?_
  refine g_put d_K_run_15 w_K_51_K (by assumption) (by rfl) (by rfl) (Nat.le_of_ble_eq_true rfl) ?_
  generalize hz2 : zput _ _ _ = Z2
  have h0 := zhs_put_same' hz2 h0
  rw [← hz1, zput_put] at hz2
  have hR2 : Rep w ad (swp S) Z2 := by rw [← hz2]; exact hR.swap hL
  have hL2 : ciLive (swp S) := hL.eqT ⟨fun _ _ => rfl, fun _ _ => rfl, fun _ _ => rfl, fun m hm => wN_ne (by omega)⟩
  have ej : 8 - sN S 8 = 5 + j := by omega
  have ej3 : 3 - sN S 8 = j := by omega
  simp only [List.set] at h0
  rw [ej] at h0
  have gj := hR2.rem (j := j) (by omega)
  refine g_aload_nq d_K_run_18 rfl 1 rfl ?_
  refine g_get d_K_run_19 f_K_51_K (by assumption) (by first | rfl | assumption) ?_
  refine g_callV d_K_run_22 k_Rm_wipe l_K_169 i_Rm_wipe rfl q_Rm_Rm_wipe_Rm gj.1 (by rfl) (by rfl) (Nat.le_of_ble_eq_true rfl) (by decide) (C_Rm_wipe gj.1 ⟨_, rfl, ?_⟩)
  have hR3 := hR2.wipe hL2 (j := j) (by omega)
  rw [show wN (swp S) (17 + j) 0 = bgn S by unfold bgn; rw [ej3]] at hR3
  have b3 := zbud_put (Z := Z2) (a := ad (5 + j)) (e := .inr (5, [.ref (ad (22 + 3 * j)), .ref (ad (23 + 3 * j)), .ref (ad (24 + 3 * j)), .int 0])) rfl
  have b2 := zbud_put hz2
  generalize zput Z2 (ad (5 + j)) (.inr (5, [.ref (ad (22 + 3 * j)), .ref (ad (23 + 3 * j)), .ref (ad (24 + 3 * j)), .int 0])) = Z3 at hR3 b3
  refine g_iconst (v := 0) d_K_run_25 rfl ?_
  refine g_istore_n d_K_run_26 rfl (by decide) rfl ?_
  show G _ _ _ _ _ _ _ _ [(2, _), (1, _), (0, _)] _ _
  have e3 := bgn_eqT b8
  have hci3 := hci.eqT e3
  have hL3 := hL.eqT e3
  have N3 : ∀ m, m ≠ 8 → m ≠ 17 + j → sN (bgn S) m = sN S m := fun m h1 h2 => bgn_N h1 (by rw [ej3]; exact h2)
  have c3 : ∀ t, t < 3 → capOK (bgn S) t := fun t ht => by
    have hct := hcap t ht
    unfold capOK at *
    rw [N3 (4 + t) (by omega) (by omega)]
    by_cases htj : t = j
    · subst htj; rw [show sN (bgn S) (17 + t) = 0 by unfold bgn; rw [ej3]; exact wN_self]; omega
    · rw [N3 (17 + t) (by omega) (by omega)]; exact hct
  have bb : bAll (bgn S) Z3 X Y := by unfold bAll at *; rw [N3 4 (by omega) (by omega), N3 5 (by omega) (by omega), N3 6 (by omega) (by omega), b3.1, b3.2, b2.1, b2.2]; exact hb
  have r3 : remL (bgn S) j = [] := by unfold remL; rw [show sN (bgn S) (17 + j) = 0 by unfold bgn; rw [ej3]; exact wN_self]; rfl
  have em := allR_eqT e3 hci.2.2.2.2 rfl rfl
  have q0 := e3.2.2.2 0 (by omega)
  have q1 := e3.2.2.2 1 (by omega)
  have q2 := e3.2.2.2 2 (by omega)
  refine L_K_run (j := j) (by omega) (sN S 0 + sN S 1 + sN S 2) 0 ad (bgn S) Z3 (by omega) hR3 (by rw [bgn_8 b8]; exact ej3) hci3 hL3 (c3 j (by omega)) (bb.row (by omega)) (by rw [em, r3]; simp only [List.length_nil]; omega) ?_
  intro Z4 ad4 S4 hR4 ma4 m4 r4 c4 b4
  have e4 := m4.eqT (by omega)
  have hL4 := hL3.eqT e4
  have h84 : sN S4 8 = j := by rw [m4.2.2.2 8 (by omega), bgn_8 b8]; exact ej3
  have bb4 := bb.st (by omega) (fun m h1 h2 h3 => m4.2.2.2 m (by omega)) b4
  have c44 : ∀ t, t < 3 → capOK S4 t := fun t ht => by
    by_cases htj : t = j
    · subst htj; exact c4
    · have hct := c3 t ht
      unfold capOK at *
      rw [m4.2.2.2 (4 + t) (by omega), m4.2.2.2 (17 + t) (by omega)]
      exact hct
  rw [← ma4 0 (by omega)]
  have h0 : zhs Z4 (ad4 0) (.inr (0, [.ref (ad4 1), .ref (ad4 3), .ref (ad4 8), .ref (ad4 9), .ref (ad4 4), .ref (ad4 5), .ref (ad4 10), .ref (ad4 (5 + sN S4 8)), .ref (ad4 (8 - sN S4 8)), .int (nI (sN S4 3)), .int (sI S4 0 11)])) := hR4.k 0 (by decide)
  refine g_aload_nq d_K_run_56 rfl 2 rfl ?_
  refine g_callV d_K_run_57 k_K_compareWithBefore l_K_181 i_K_compareWithBefore rfl p_K_compareWithBefore h0 (by rfl) (by rfl) (Nat.le_of_ble_eq_true rfl) (by decide) (C_K_compareWithBefore hR4 hjb (by omega) (by omega) h84 (c44 j (by omega)) (c44 b (by omega)) (c44 0 (by omega)) hL4 (bb4.row (by omega)) (fun Z5 ad5 S5 hR5 ma5 m5 r5 c5 b5 => ⟨_, rfl, ?_⟩))
  rw [← ma5 0 (by omega)]
  have h0 : zhs Z5 (ad5 0) (.inr (0, [.ref (ad5 1), .ref (ad5 3), .ref (ad5 8), .ref (ad5 9), .ref (ad5 4), .ref (ad5 5), .ref (ad5 10), .ref (ad5 (5 + sN S5 8)), .ref (ad5 (8 - sN S5 8)), .int (nI (sN S5 3)), .int (sI S5 0 11)])) := hR5.k 0 (by decide)
  have c55 : ∀ t, t < 3 → capOK S5 t := fun t ht => by
    by_cases htj : t = 0
    · subst htj; exact c5
    · have hct := c44 t ht
      unfold capOK at *
      rw [m5.2.2.2 (4 + t) (by omega), m5.2.2.2 (17 + t) (by omega)]
      exact hct
  refine g_aload_nq d_K_run_60 rfl 2 rfl ?_
  refine g_callV d_K_run_61 k_K_countOpen l_K_184 i_K_countOpen rfl p_K_countOpen h0 (by rfl) (by rfl) (Nat.le_of_ble_eq_true rfl) (by decide) (C_K_countOpen hR5 (j := j) (by omega) (by rw [m5.2.2.2 8 (by omega)]; exact h84) (c55 j (by omega)) (by rw [m5.2.2.2 16 (by omega), m4.2.2.2 16 (by omega), N3 16 (by omega) (by omega)]; exact hw) ⟨_, rfl, ?_⟩)
  refine g_iret d_K_run_64 ?_
  exact hQ Z5 ad5 S4 S5 hR5 (fun m hm => (ma5 m (by omega)).trans (ma4 m (by omega))) m4 (by rw [r4, r3, em]; rfl) m5 r5 c55 (bb4.st (by omega) (fun m h1 h2 h3 => m5.2.2.2 m (by omega)) b5)
