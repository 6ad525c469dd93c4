/-! PinKindChecks.checkThing -/
def plc (S : ST) (c k : Nat) : Int32 := (sI S (tid c k) 0 * 3 + nI c) * 160 + nI k
def oneR (S : ST) (c k p : Nat) : List RM := if sI S 9 p = 0 ∧ 0 < wgt S c k p then [(plc S c k * 27 + nI p, wgt S c k p, sI S 0 11)] else []
def manyR (S : ST) (c k : Nat) : Nat → Nat → List RM
  | 0, _ => []
  | n + 1, i => oneR S c k i ++ manyR S c k n (i + 1)
theorem tid_ge {c k : Nat} : 100 ≤ tid c k := by unfold tid; split <;> (try split) <;> omega
theorem oneR_eqT {S S' : ST} (h : eqT S S') (hi : ciInd S) (h9 : sI S' 9 = sI S 9) (h0 : sI S' 0 = sI S 0) (c k p : Nat) : oneR S' c k p = oneR S c k p := by
  unfold oneR plc
  rw [wgt_eqT h hi, h9, h0, h.1 _ (Or.inl tid_ge)]
theorem manyR_eqT {S S' : ST} (h : eqT S S') (hi : ciInd S) (h9 : sI S' 9 = sI S 9) (h0 : sI S' 0 = sI S 0) (c k : Nat) : ∀ n i, manyR S' c k n i = manyR S c k n i
  | 0, _ => rfl
  | n + 1, i => by
    unfold manyR
    rw [oneR_eqT h hi h9 h0, manyR_eqT h hi h9 h0 c k n]
theorem mv_wgS {S : ST} {c k p j : Nat} : mv S (wgS S c k p) j := by
  unfold wgS
  split
  · exact mv.rf
  · split
    · exact mv.wJ
    · exact mv.rf
theorem remL_wgS {S : ST} {c k p j : Nat} : remL (wgS S c k p) j = remL S j := by
  unfold wgS
  split
  · rfl
  · split <;> rfl
theorem capOK_wgS {S : ST} {c k p j : Nat} (h : capOK S j) : capOK (wgS S c k p) j := by
  unfold wgS
  split
  · exact h
  · split <;> exact h
theorem N_wgS {S : ST} {c k p : Nat} : sN (wgS S c k p) = sN S := by
  unfold wgS
  split
  · rfl
  · split <;> rfl
/-- a row's budget -/
def bOK (S : ST) (Z : zZ) (j : Nat) : Prop := gC (sN S (4 + j)) ≤ Z.2.2.1 ∧ gS (sN S (4 + j)) ≤ Z.2.2.2
theorem bOK.st {S S' : ST} {Z Z' : zZ} {j : Nat} (h : bOK S Z j) (b : bud S S' Z Z' j) : bOK S' Z' j := by unfold bOK bud at *; omega
def ciAll (S : ST) : Prop := ciSh S ∧ ciPin S ∧ ciTold S ∧ ciOrd S ∧ ciInd S
theorem ciAll.eqT {S S' : ST} (h : ciAll S) (e : eqT S S') : ciAll S' := ⟨h.1.eqT e, h.2.1.eqT e, h.2.2.1.eqT e, h.2.2.2.1.eqT e, h.2.2.2.2.eqT e⟩
theorem V_keyWith {w : zC} {Z : zZ} {Post : zR → zZ → Prop} {ad : Nat → Nat} {S : ST} {c k : Nat} (hR : Rep w ad S Z) (hk : tok S c k) {y : MethodName} {cc : ByteArray} {nL pc idx : Nat} {rt : Option FieldType} {d : Nat × Nat} {x : Int32} {lv : List (Nat × Value)} {st : List Value} (hdg : decode cc pc = .ok (.invokevirtual idx, 3)) (hlink : Cond.methodLink y.cls idx y_Th_keyWith ∈ wz) (hsum : (st.map fun v => v.category).sum ≤ 8) (hd : 1 ≤ d.1 ∧ 21 ≤ d.2)
    (kk : G w y cc nL rt d Post (pc + 3) lv (.int (plc S c k * 27 + x) :: st) Z) : G w y cc nL rt d Post pc lv (.int x :: .ref (ad (tid c k)) :: st) Z := by
  rcases hk with ⟨rfl, hk⟩ | ⟨rfl, hk⟩ | ⟨rfl, hk⟩
  · have h0 : zhs Z (ad (100 + 3 * k)) (pPart ad S k) := (hR.part hk).1
    show G _ _ _ _ _ _ _ _ _ (_ :: .ref (ad (100 + 3 * k)) :: _) _
    refine g_callV (d' := (0, 0)) hdg k_Th_keyWith hlink i_Th_keyWith rfl q_Pa_Th_keyWith_Th h0 (by rfl) (by rfl) hsum (by omega) (C_Th_keyWith (by simp [thk]) h0 rfl ⟨_, rfl, kk⟩)
  · have h0 : zhs Z (ad (220 + 2 * k)) (pNet ad S k) := (hR.net hk).1
    show G _ _ _ _ _ _ _ _ _ (_ :: .ref (ad (220 + 2 * k)) :: _) _
    refine g_callV (d' := (0, 0)) hdg k_Th_keyWith hlink i_Th_keyWith rfl q_Ne_Th_keyWith_Th h0 (by rfl) (by rfl) hsum (by omega) (C_Th_keyWith (by simp [thk]) h0 rfl ⟨_, rfl, kk⟩)
  · have h0 : zhs Z (ad (300 + k)) (pPin ad S k) := hR.pin hk
    show G _ _ _ _ _ _ _ _ _ (_ :: .ref (ad (300 + k)) :: _) _
    refine g_callV (d' := (0, 0)) hdg k_Th_keyWith hlink i_Th_keyWith rfl q_Pi_Th_keyWith_Th h0 (by rfl) (by rfl) hsum (by omega) (C_Th_keyWith (by simp [thk]) h0 rfl ⟨_, rfl, kk⟩)
set_option maxHeartbeats 4000000 in
set_option maxRecDepth 100000 in
theorem L_K_checkThing {w : zC} {Q : zR → zZ → Prop} {c k j : Nat} (hj : j < 3) (n : Nat) : ∀ i ad S Z, i + n = 7 + sN S 3 → Rep w ad S Z → sN S 8 = j → tok S c k → ciAll S → capOK S j → bOK S Z j → (remL S j).length + (manyR S c k n i).length ≤ 3720 → (∀ Z' ad' S', Rep w ad' S' Z' → mvA ad ad' j → mv S S' j → remL S' j = remL S j ++ manyR S c k n i → capOK S' j → bud S S' Z Z' j → Q (.inl none) Z') → G w y_K_checkThing c_K_checkThing 4 r_K_checkThing (7, 160) Q 7 [(2, .int (nI i)), (0, .ref (ad 0)), (1, .ref (ad (tid c k)))] [] Z := by
  induction n with
  | zero =>
    intro i ad S Z hi hR h8 ht hci hcap hb hl hQ
    have n3 := hR.1.2.2.2.1
    have h0 : zhs Z (ad 0) (.inr (0, [.ref (ad 1), .ref (ad 3), .ref (ad 8), .ref (ad 9), .ref (ad 4), .ref (ad 5), .ref (ad 10), .ref (ad (5 + sN S 8)), .ref (ad (8 - sN S 8)), .int (nI (sN S 3)), .int (sI S 0 11)])) := hR.k 0 (by decide)
    have h9 : zhs Z (ad 9) (xz w 27 (sI S 9)) := hR.k 9 (by decide)
    refine g_iload_n d_K_checkThing_7 rfl 0 rfl ?_
    refine g_aload_nq d_K_checkThing_8 rfl 1 rfl ?_
    refine g_callV d_K_checkThing_9 k_K_ruleCount l_K_161 i_K_ruleCount rfl p_K_ruleCount (by assumption) (by rfl) (by rfl) (Nat.le_of_ble_eq_true rfl) (by decide) (C_K_ruleCount hR ⟨_, rfl, ?_⟩)
    refine g_icmp_ge (tgt := 71) d_K_checkThing_12 (by decide) (fun h12 => ?_) (fun h12 => ?_)
    · refine g_vret d_K_checkThing_71 ?_
      exact hQ Z ad S hR mvA.rf mv.rf (by rw [manyR, List.append_nil]) hcap bud.rf
    · exact absurd (nI_le (by omega) (by omega)) h12
  | succ n ih =>
    intro i ad S Z hi hR h8 ht hci hcap hb hl hQ
    have n3 := hR.1.2.2.2.1
    have next : ∀ Z' ad' S' x, Rep w ad' S' Z' → mvA ad ad' j → mv S S' j → remL S' j = remL S j ++ oneR S c k i → capOK S' j → bud S S' Z Z' j → G w y_K_checkThing c_K_checkThing 4 r_K_checkThing (7, 160) Q 65 [(3, x), (2, .int (nI i)), (0, .ref (ad 0)), (1, .ref (ad (tid c k)))] [] Z' := by
      intro Z' ad' S' x hR' ma m r cap b
      have e := m.eqT hj
      refine g_iinc (k := 1) d_K_checkThing_65 rfl (nI_1 i) (by decide) rfl ?_
      refine g_goto (tgt := 7) d_K_checkThing_68 (by decide) ?_
      refine g_sub (lv := [(2, .int (nI (i + 1))), (0, .ref (ad 0)), (1, .ref (ad (tid c k)))]) [0, 2, 3] rfl ?_
      have tg := tid_ge (c := c) (k := k)
      rw [← ma 0 (by omega), ← ma (tid c k) (by omega)]
      have em := manyR_eqT e hci.2.2.2.2 (m.1 9 (by omega)) (m.1 0 (by omega)) c k
      refine ih (i + 1) ad' S' Z' (by rw [e.2.2.2 3 (by omega)]; omega) hR' (by rw [m.2.2.2 8 (by omega)]; exact h8) (ht.eqT e) (hci.eqT e) cap (hb.st b) ?_ ?_
      · rw [em, r, List.length_append]
        rw [manyR, List.length_append] at hl
        omega
      · intro Z2 ad2 S2 q1 q2 q3 q4 q5 q6
        refine hQ Z2 ad2 S2 q1 (ma.tr q2) (m.tr q3) ?_ q5 (b.tr q6)
        rw [q4, r, em, manyR, List.append_assoc]
    have n3 := hR.1.2.2.2.1
    have h0 : zhs Z (ad 0) (.inr (0, [.ref (ad 1), .ref (ad 3), .ref (ad 8), .ref (ad 9), .ref (ad 4), .ref (ad 5), .ref (ad 10), .ref (ad (5 + sN S 8)), .ref (ad (8 - sN S 8)), .int (nI (sN S 3)), .int (sI S 0 11)])) := hR.k 0 (by decide)
    have h9 : zhs Z (ad 9) (xz w 27 (sI S 9)) := hR.k 9 (by decide)
    refine g_iload_n d_K_checkThing_7 rfl 0 rfl ?_
    refine g_aload_nq d_K_checkThing_8 rfl 1 rfl ?_
    refine g_callV d_K_checkThing_9 k_K_ruleCount l_K_161 i_K_ruleCount rfl p_K_ruleCount (by assumption) (by rfl) (by rfl) (Nat.le_of_ble_eq_true rfl) (by decide) (C_K_ruleCount hR ⟨_, rfl, ?_⟩)
    refine g_icmp_ge (tgt := 71) d_K_checkThing_12 (by decide) (fun h12 => ?_) (fun h12 => ?_)
    · exact absurd h12 (nI_ge (by omega) (by omega))
    · refine g_iload_n d_K_checkThing_15 rfl 0 rfl ?_
      refine g_aload_nq d_K_checkThing_16 rfl 1 rfl ?_
      refine g_get d_K_checkThing_17 f_K_29_K (by assumption) (by first | rfl | assumption) ?_
      refine g_alen d_K_checkThing_20 2 (by assumption) rfl ?_
      refine g_icmp_ge (tgt := 71) d_K_checkThing_21 (by decide) (fun h21 => ?_) (fun h21 => ?_)
      · exact absurd h21 (nI_ge (by omega) (by decide))
      · refine g_aload_nq d_K_checkThing_24 rfl 1 rfl ?_
        refine g_get d_K_checkThing_25 f_K_29_K (by assumption) (by first | rfl | assumption) ?_
        refine g_iload_n d_K_checkThing_28 rfl 0 rfl ?_
        refine g_zald d_K_checkThing_29 (by assumption) (vp_in_nI (by omega) (by decide)) ?_
        rw [nI_clamp (by omega)]
        first | refine g_if_eqB (tgt := 37) d_K_checkThing_30 (by decide) (fun h30 => ?_) (fun h30 => ?_) | refine g_if_eq (tgt := 37) d_K_checkThing_30 (by decide) (fun h30 => ?_) (fun h30 => ?_)
        · refine g_aload_nq d_K_checkThing_37 rfl 1 rfl ?_
          refine g_iload_n d_K_checkThing_38 rfl 0 rfl ?_
          refine g_aload_nq d_K_checkThing_39 rfl 2 rfl ?_
          refine g_callV d_K_checkThing_40 k_K_weightOf l_K_227 i_K_weightOf rfl p_K_weightOf h0 (by rfl) (by rfl) (Nat.le_of_ble_eq_true rfl) (by decide) (C_K_weightOf hR (by omega) ht hci.1 hci.2.1 hci.2.2.1 (fun Z1 hR1 hB1 => ⟨_, rfl, ?_⟩))
          have m1 : mv S (wgS S c k i) j := mv_wgS
          have r1 : remL (wgS S c k i) j = remL S j := remL_wgS
          have c1 : capOK (wgS S c k i) j := capOK_wgS hcap
          have N1 : sN (wgS S c k i) = sN S := N_wgS
          generalize wgS S c k i = S1 at hR1 m1 r1 c1 N1
          have e1 := m1.eqT hj
          have b1 : bud S S1 Z Z1 j := by unfold bud; rw [N1, hB1]; exact ⟨Nat.le_refl _, Nat.le_refl _⟩
          refine g_istore_n d_K_checkThing_43 rfl (by decide) rfl ?_
          show G _ _ _ _ _ _ _ _ [(3, _), (2, _), (0, _), (1, _)] _ _
          refine g_iload_n d_K_checkThing_44 rfl 0 rfl ?_
          refine g_if_le (tgt := 65) d_K_checkThing_45 (by decide) (fun h45 => ?_) (fun h45 => ?_)
          · exact next Z1 ad S1 _ hR1 mvA.rf m1 (by unfold oneR; rw [if_neg (fun z => Int32.not_lt.mpr h45 z.2), List.append_nil]; exact r1) c1 b1
          · have hpos : 0 < wgt S c k i := Int32.not_le.mp h45
            have one : oneR S c k i = [(plc S c k * 27 + nI i, wgt S c k i, sI S 0 11)] := by unfold oneR; rw [if_pos ⟨h30, hpos⟩]
            have h0 : zhs Z1 (ad 0) (.inr (0, [.ref (ad 1), .ref (ad 3), .ref (ad 8), .ref (ad 9), .ref (ad 4), .ref (ad 5), .ref (ad 10), .ref (ad (5 + sN S1 8)), .ref (ad (8 - sN S1 8)), .int (nI (sN S1 3)), .int (sI S1 0 11)])) := hR1.k 0 (by decide)
            have e8 : sN S1 8 = j := by rw [N1]; exact h8
            rw [e8, m1.1 0 (by omega)] at h0
            have g0 := (hR1.rem hj).1
            have ep : plc S1 c k = plc S c k := by unfold plc; rw [e1.1 _ (Or.inl tid_ge)]
            refine g_aload_nq d_K_checkThing_48 rfl 2 rfl ?_
            refine g_get d_K_checkThing_49 f_K_51_K (by assumption) (by first | rfl | assumption) ?_
            refine g_aload_nq d_K_checkThing_52 rfl 3 rfl ?_
            refine g_iload_n d_K_checkThing_53 rfl 1 rfl ?_
            refine V_keyWith hR1 (ht.eqT e1) d_K_checkThing_54 l_K_217 (Nat.le_of_ble_eq_true rfl) (by decide) ?_
            rw [ep]
            refine g_iload_n d_K_checkThing_57 rfl 0 rfl ?_
            refine g_aload_nq d_K_checkThing_58 rfl 2 rfl ?_
            refine g_get d_K_checkThing_59 f_K_61_K (by assumption) (by first | rfl | assumption) ?_
            refine g_callV d_K_checkThing_62 k_Rm_add l_K_230 i_Rm_add rfl q_Rm_Rm_add_Rm g0 (by rfl) (by rfl) (Nat.le_of_ble_eq_true rfl) (by decide) (A_add hR1 hj (hci.eqT e1).2.2.2.1 c1 ?_ (hb.st b1) (fun Z2 ad2 S2 hR2 ma2 m2 r2 c2 b2 => ⟨_, rfl, ?_⟩))
            · rw [manyR, List.length_append, one, remL_len] at hl
              rw [N1]
              simp only [List.length_cons] at hl
              omega
            · exact next Z2 ad2 S2 _ hR2 ma2 (m1.tr m2) (by rw [r2, r1, one]) c2 (b1.tr b2)
        · refine g_iconst (v := 0) d_K_checkThing_33 rfl ?_
          refine g_goto (tgt := 43) d_K_checkThing_34 (by decide) ?_
          refine g_istore_n d_K_checkThing_43 rfl (by decide) rfl ?_
          refine g_iload_n d_K_checkThing_44 rfl 0 rfl ?_
          refine g_if_le (tgt := 65) d_K_checkThing_45 (by decide) (fun _ => ?_) (fun z => absurd (by decide) z)
          exact next Z ad S _ hR mvA.rf mv.rf (by unfold oneR; rw [if_neg (fun z => h30 z.1), List.append_nil]) hcap bud.rf

set_option maxHeartbeats 4000000 in
set_option maxRecDepth 100000 in
theorem C_K_checkThing {w : zC} {Z : zZ} {Q : zR → zZ → Prop} {ad : Nat → Nat} {S : ST} (hR : Rep w ad S Z) {c k j : Nat} (hj : j < 3) (h8 : sN S 8 = j) (ht : tok S c k) (hci : ciAll S) (hcap : capOK S j) (hb : bOK S Z j) (hl : (remL S j).length + (manyR S c k (7 + sN S 3) 0).length ≤ 3720) (hQ : (∀ Z' ad' S', Rep w ad' S' Z' → mvA ad ad' j → mv S S' j → remL S' j = remL S j ++ manyR S c k (7 + sN S 3) 0 → capOK S' j → bud S S' Z Z' j → Q (.inl none) Z')) : Cz w (7, 160) y_K_checkThing (Cond.code y_K_checkThing c_K_checkThing 4 r_K_checkThing :: wz) [.ref (ad 0), .ref (ad (tid c k))] Z Q := by
  refine Cz.of (by decide +kernel) (by simp [lg_sl, Value.category]) ?_
  show G _ _ _ _ _ _ _ _ [(0, _), (1, _)] _ _
  refine g_aload_nq d_K_checkThing_0 rfl 1 rfl ?_
  refine g_ifnonnull (tgt := 5) d_K_checkThing_1 (by decide) ?_
  refine g_iconst (v := 0) d_K_checkThing_5 rfl ?_
  refine g_istore_n d_K_checkThing_6 rfl (by decide) rfl ?_
  show G _ _ _ _ _ _ _ _ [(2, _), (0, _), (1, _)] _ _
  exact L_K_checkThing hj _ 0 ad S Z (by omega) hR h8 ht hci hcap hb hl hQ
