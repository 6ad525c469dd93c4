/-! PinKindChecks.weightOf -/
def evr (S : ST) (c k r : Nat) : Nat × (Nat → Int64) := evl (tv S c k) (sI S (461 + 3 * r)) (sI S (462 + 3 * r)) (sN S (3000 + r)) 0 (0, sJ S 10)
def wgt (S : ST) (c k p : Nat) : Int32 := if p < 7 then (if c = 0 then 0 else if c = 1 then nbw S k (nI p) else pbw S k (nI p)) else if sI S (460 + 3 * (p - 7)) 0 = nI c then (if (evr S c k (p - 7)).1 = 1 ∧ ¬ (evr S c k (p - 7)).2 0 = 0 then sI S (460 + 3 * (p - 7)) 1 else 0) else 0
def wgS (S : ST) (c k p : Nat) : ST := if p < 7 then S else if sI S (460 + 3 * (p - 7)) 0 = nI c then wJ S 10 (evr S c k (p - 7)).2 else S
def ciTold (S : ST) : Prop := ∀ r, r < sN S 3 → sN S (3000 + r) ≤ 80
set_option maxHeartbeats 4000000 in
set_option maxRecDepth 100000 in
theorem C_K_weightOf0 {w : zC} {Z : zZ} {Q : zR → zZ → Prop} {ad : Nat → Nat} {S : ST} (hR : Rep w ad S Z) {p k : Nat} (hp : p < 7 + sN S 3) (hk : k < sN S 0) (hs : ciSh S) (hc : ciPin S) (ht9 : ciTold S) (hQ : ∀ Z', Rep w ad (wgS S 0 k p) Z' → Z'.2.2 = Z.2.2 → Q (.inl (some (.int (wgt S 0 k p)))) Z') : Cz w (6, 134) y_K_weightOf (Cond.code y_K_weightOf c_K_weightOf 5 r_K_weightOf :: wz) [.ref (ad 0), .int (nI p), .ref (ad (100 + 3 * k))] Z Q := by
  refine Cz.of (by decide +kernel) (by simp [lg_sl, Value.category]) ?_
  show G _ _ _ _ _ _ _ _ [(0, _), (1, _), (2, _)] _ _
  have n3 := hR.1.2.2.2.1
  have ht : tok S 0 k := by simp [tok, hk]
  have h9 : zhs Z (ad (100 + 3 * k)) (.inr (6, [.int (sI S (100 + 3 * k) 0), .int ((sI S (100 + 3 * k) 0 * 3 + 0) * 160 + nI k), .ref (ad (101 + 3 * k)), .int (sI S (100 + 3 * k) 3), .ref (ad (102 + 3 * k))])) := (hR.part hk).1
  have h0 : zhs Z (ad 0) (.inr (0, [.ref (ad 1), .ref (ad 3), .ref (ad 8), .ref (ad 9), .ref (ad 4), .ref (ad 5), .ref (ad 10), .ref (ad (5 + sN S 8)), .ref (ad (8 - sN S 8)), .int (nI (sN S 3)), .int (sI S 0 11)])) := hR.k 0 (by decide)
  have h8 : zhs Z (ad 8) (xr w 8 20 (fun k => if k < sN S 3 then some (ad (460 + 3 * k)) else sR S 8 k)) := hR.k 8 (by decide)
  have h10 : zhs Z (ad 10) (xl w 80 (sJ S 10)) := hR.k 10 (by decide)
  refine g_iload_n d_K_weightOf_0 rfl 1 rfl ?_
  refine g_bipush (v := 7) d_K_weightOf_1 rfl ?_
  refine g_icmp_ge (tgt := 16) d_K_weightOf_3 (by decide) (fun h3 => ?_) (fun h3 => ?_)
  · have h7 : ¬ p < 7 := fun z => nI_ge z (by decide) h3
    obtain ⟨r, rfl⟩ : ∃ r, p = r + 7 := ⟨p - 7, by omega⟩
    have hr : r < sN S 3 := by omega
    refine g_iload_n d_K_weightOf_16 rfl 1 rfl ?_
    refine g_bipush (v := 7) d_K_weightOf_17 rfl ?_
    refine g_isub d_K_weightOf_19 ?_
    rw [show nI (r + 7) - 7 = nI r from (pk_sub (a := r + 7) (b := 7) (by omega)).trans (by rw [Nat.add_sub_cancel])]
    refine g_istore_n d_K_weightOf_20 rfl (by decide) rfl ?_
    show G _ _ _ _ _ _ _ _ [(3, _), (0, _), (1, _), (2, _)] _ _
    refine g_iload_n d_K_weightOf_21 rfl 0 rfl ?_
    refine g_aload_nq d_K_weightOf_22 rfl 1 rfl ?_
    refine g_get d_K_weightOf_23 f_K_25_K (by assumption) (by first | rfl | assumption) ?_
    refine g_alen d_K_weightOf_26 8 (by assumption) rfl ?_
    refine g_callS d_K_weightOf_27 k_K_isBelow l_K_64 s_K_isBelow (by rfl) (by rfl) (Nat.le_of_ble_eq_true rfl) (by decide) (C_K_isBelow ⟨_, rfl, ?_⟩)
    first | refine g_if_eqB (tgt := 42) d_K_weightOf_30 (by decide) (fun h30 => ?_) (fun h30 => ?_) | refine g_if_eq (tgt := 42) d_K_weightOf_30 (by decide) (fun h30 => ?_) (fun h30 => ?_)
    · exact absurd (inr_nI (by omega) (by decide)) h30
    · refine g_aload_nq d_K_weightOf_33 rfl 1 rfl ?_
      refine g_get d_K_weightOf_34 f_K_25_K (by assumption) (by first | rfl | assumption) ?_
      refine g_iload_n d_K_weightOf_37 rfl 0 rfl ?_
      refine g_aald d_K_weightOf_38 8 (by assumption) rfl (vp_in_nI (by omega) (by decide)) ?_
      rw [nI_clamp (by omega), if_pos hr]
      simp only [va_rf]
      have h5 : zhs Z (ad (460 + 3 * r)) (.inr (9, [.int (sI S (460 + 3 * r) 0), .int (sI S (460 + 3 * r) 1), .ref (ad (461 + 3 * r)), .ref (ad (462 + 3 * r))])) := (hR.rule hr).1
      refine g_goto (tgt := 43) d_K_weightOf_39 (by decide) ?_
      refine g_astoreq d_K_weightOf_43 (by decide) rfl ?_
      show G _ _ _ _ _ _ _ _ [(4, _), (3, _), (0, _), (1, _), (2, _)] _ _
      refine g_aloadq d_K_weightOf_45 0 rfl ?_
      refine g_ifnull d_K_weightOf_47 ?_
      refine g_aloadq d_K_weightOf_50 0 rfl ?_
      refine g_aload_nq d_K_weightOf_52 rfl 4 rfl ?_
      refine g_callV d_K_weightOf_53 k_Tr_isAbout l_K_238 i_Tr_isAbout rfl q_Tr_Tr_isAbout_Tr h5 (by rfl) (by rfl) (Nat.le_of_ble_eq_true rfl) (by decide) (C_Tr_isAbout0 hR hr hk ⟨_, rfl, ?_⟩)
      first | refine g_if_eqB (tgt := 80) d_K_weightOf_56 (by decide) (fun h56 => ?_) (fun h56 => ?_) | refine g_if_eq (tgt := 80) d_K_weightOf_56 (by decide) (fun h56 => ?_) (fun h56 => ?_)
      · have hQ := hQ Z (by unfold wgS; rw [if_neg h7, Nat.add_sub_cancel, if_neg h56]; exact hR) rfl
        unfold wgt at hQ
        rw [if_neg h7, Nat.add_sub_cancel, if_neg h56] at hQ
        refine g_iconst (v := 0) d_K_weightOf_80 rfl ?_
        refine g_iret d_K_weightOf_81 ?_
        exact hQ
      · refine g_aloadq d_K_weightOf_59 0 rfl ?_
        refine g_aload_nq d_K_weightOf_61 rfl 4 rfl ?_
        refine g_aload_nq d_K_weightOf_62 rfl 2 rfl ?_
        refine g_get d_K_weightOf_63 f_K_47_K (by assumption) (by first | rfl | assumption) ?_
        refine g_callV d_K_weightOf_66 k_Tr_holdsFor l_K_242 i_Tr_holdsFor rfl q_Tr_Tr_holdsFor_Tr h5 (by rfl) (by rfl) (Nat.le_of_ble_eq_true rfl) (by decide) (C_Tr_holdsFor (c := 0) hR hr ht hc (ht9 r hr) (fun Z9 hR9 hB9 => ⟨_, rfl, ?_⟩))
        have hQ := hQ Z9 (by unfold wgS; rw [if_neg h7, Nat.add_sub_cancel, if_pos h56]; exact hR9) hB9
        unfold wgt at hQ
        rw [if_neg h7, Nat.add_sub_cancel, if_pos h56] at hQ
        have h5 : zhs Z9 (ad (460 + 3 * r)) (.inr (9, [.int (sI S (460 + 3 * r) 0), .int (sI S (460 + 3 * r) 1), .ref (ad (461 + 3 * r)), .ref (ad (462 + 3 * r))])) := (hR9.rule hr).1
        first | refine g_if_eqB (tgt := 80) d_K_weightOf_69 (by decide) (fun h69 => ?_) (fun h69 => ?_) | refine g_if_eq (tgt := 80) d_K_weightOf_69 (by decide) (fun h69 => ?_) (fun h69 => ?_)
        · rw [if_neg (show ¬ ((evr S 0 k r).1 = 1 ∧ ¬ (evr S 0 k r).2 0 = 0) from h69)] at hQ
          refine g_iconst (v := 0) d_K_weightOf_80 rfl ?_
          refine g_iret d_K_weightOf_81 ?_
          exact hQ
        · rw [if_pos (show (evr S 0 k r).1 = 1 ∧ ¬ (evr S 0 k r).2 0 = 0 from h69)] at hQ
          refine g_aloadq d_K_weightOf_72 0 rfl ?_
          refine g_callV d_K_weightOf_74 k_Tr_weight l_K_246 i_Tr_weight rfl q_Tr_Tr_weight_Tr h5 (by rfl) (by rfl) (Nat.le_of_ble_eq_true rfl) (by decide) (C_Tr_weight h5 ⟨_, rfl, ?_⟩)
          refine g_goto (tgt := 81) d_K_weightOf_77 (by decide) ?_
          refine g_iret d_K_weightOf_81 ?_
          exact hQ
  · have h7 : p < 7 := Nat.not_le.mp (fun z => h3 (nI_le z (by omega)))
    refine g_aload_nq d_K_weightOf_6 rfl 2 rfl ?_
    refine g_iload_n d_K_weightOf_7 rfl 1 rfl ?_
    refine g_aload_nq d_K_weightOf_8 rfl 0 rfl ?_
    refine g_get d_K_weightOf_9 f_K_12_K (by assumption) (by first | rfl | assumption) ?_
    refine g_callU d_K_weightOf_12 k_Pa_builtInWeight l_K_234 e_Th_Th_builtInWeight z_Th_builtInWeight (by decide +kernel) rfl i_Pa_builtInWeight rfl q_Pa_Th_builtInWeight_Pa h9 (by rfl) (by rfl) (Nat.le_of_ble_eq_true rfl) (by decide) (C_Pa_builtInWeight ⟨_, rfl, ?_⟩)
    refine g_iret d_K_weightOf_15 ?_
    have hQ := hQ Z (by unfold wgS; rw [if_pos h7]; exact hR) rfl
    unfold wgt at hQ
    rw [if_pos h7, if_pos rfl] at hQ
    exact hQ

set_option maxHeartbeats 4000000 in
set_option maxRecDepth 100000 in
theorem C_K_weightOf1 {w : zC} {Z : zZ} {Q : zR → zZ → Prop} {ad : Nat → Nat} {S : ST} (hR : Rep w ad S Z) {p k : Nat} (hp : p < 7 + sN S 3) (hk : k < sN S 1) (hs : ciSh S) (hc : ciPin S) (ht9 : ciTold S) (hQ : ∀ Z', Rep w ad (wgS S 1 k p) Z' → Z'.2.2 = Z.2.2 → Q (.inl (some (.int (wgt S 1 k p)))) Z') : Cz w (6, 134) y_K_weightOf (Cond.code y_K_weightOf c_K_weightOf 5 r_K_weightOf :: wz) [.ref (ad 0), .int (nI p), .ref (ad (220 + 2 * k))] Z Q := by
  refine Cz.of (by decide +kernel) (by simp [lg_sl, Value.category]) ?_
  show G _ _ _ _ _ _ _ _ [(0, _), (1, _), (2, _)] _ _
  have n3 := hR.1.2.2.2.1
  have ht : tok S 1 k := by simp [tok, hk]
  have h9 : zhs Z (ad (220 + 2 * k)) (.inr (7, [.int (sI S (220 + 2 * k) 0), .int ((sI S (220 + 2 * k) 0 * 3 + 1) * 160 + nI k), .ref (ad (221 + 2 * k)), .int (sI S (220 + 2 * k) 3), .int (sI S (220 + 2 * k) 4), .int (sI S (220 + 2 * k) 5)])) := (hR.net hk).1
  have h0 : zhs Z (ad 0) (.inr (0, [.ref (ad 1), .ref (ad 3), .ref (ad 8), .ref (ad 9), .ref (ad 4), .ref (ad 5), .ref (ad 10), .ref (ad (5 + sN S 8)), .ref (ad (8 - sN S 8)), .int (nI (sN S 3)), .int (sI S 0 11)])) := hR.k 0 (by decide)
  have h8 : zhs Z (ad 8) (xr w 8 20 (fun k => if k < sN S 3 then some (ad (460 + 3 * k)) else sR S 8 k)) := hR.k 8 (by decide)
  have h10 : zhs Z (ad 10) (xl w 80 (sJ S 10)) := hR.k 10 (by decide)
  refine g_iload_n d_K_weightOf_0 rfl 1 rfl ?_
  refine g_bipush (v := 7) d_K_weightOf_1 rfl ?_
  refine g_icmp_ge (tgt := 16) d_K_weightOf_3 (by decide) (fun h3 => ?_) (fun h3 => ?_)
  · have h7 : ¬ p < 7 := fun z => nI_ge z (by decide) h3
    obtain ⟨r, rfl⟩ : ∃ r, p = r + 7 := ⟨p - 7, by omega⟩
    have hr : r < sN S 3 := by omega
    refine g_iload_n d_K_weightOf_16 rfl 1 rfl ?_
    refine g_bipush (v := 7) d_K_weightOf_17 rfl ?_
    refine g_isub d_K_weightOf_19 ?_
    rw [show nI (r + 7) - 7 = nI r from (pk_sub (a := r + 7) (b := 7) (by omega)).trans (by rw [Nat.add_sub_cancel])]
    refine g_istore_n d_K_weightOf_20 rfl (by decide) rfl ?_
    show G _ _ _ _ _ _ _ _ [(3, _), (0, _), (1, _), (2, _)] _ _
    refine g_iload_n d_K_weightOf_21 rfl 0 rfl ?_
    refine g_aload_nq d_K_weightOf_22 rfl 1 rfl ?_
    refine g_get d_K_weightOf_23 f_K_25_K (by assumption) (by first | rfl | assumption) ?_
    refine g_alen d_K_weightOf_26 8 (by assumption) rfl ?_
    refine g_callS d_K_weightOf_27 k_K_isBelow l_K_64 s_K_isBelow (by rfl) (by rfl) (Nat.le_of_ble_eq_true rfl) (by decide) (C_K_isBelow ⟨_, rfl, ?_⟩)
    first | refine g_if_eqB (tgt := 42) d_K_weightOf_30 (by decide) (fun h30 => ?_) (fun h30 => ?_) | refine g_if_eq (tgt := 42) d_K_weightOf_30 (by decide) (fun h30 => ?_) (fun h30 => ?_)
    · exact absurd (inr_nI (by omega) (by decide)) h30
    · refine g_aload_nq d_K_weightOf_33 rfl 1 rfl ?_
      refine g_get d_K_weightOf_34 f_K_25_K (by assumption) (by first | rfl | assumption) ?_
      refine g_iload_n d_K_weightOf_37 rfl 0 rfl ?_
      refine g_aald d_K_weightOf_38 8 (by assumption) rfl (vp_in_nI (by omega) (by decide)) ?_
      rw [nI_clamp (by omega), if_pos hr]
      simp only [va_rf]
      have h5 : zhs Z (ad (460 + 3 * r)) (.inr (9, [.int (sI S (460 + 3 * r) 0), .int (sI S (460 + 3 * r) 1), .ref (ad (461 + 3 * r)), .ref (ad (462 + 3 * r))])) := (hR.rule hr).1
      refine g_goto (tgt := 43) d_K_weightOf_39 (by decide) ?_
      refine g_astoreq d_K_weightOf_43 (by decide) rfl ?_
      show G _ _ _ _ _ _ _ _ [(4, _), (3, _), (0, _), (1, _), (2, _)] _ _
      refine g_aloadq d_K_weightOf_45 0 rfl ?_
      refine g_ifnull d_K_weightOf_47 ?_
      refine g_aloadq d_K_weightOf_50 0 rfl ?_
      refine g_aload_nq d_K_weightOf_52 rfl 4 rfl ?_
      refine g_callV d_K_weightOf_53 k_Tr_isAbout l_K_238 i_Tr_isAbout rfl q_Tr_Tr_isAbout_Tr h5 (by rfl) (by rfl) (Nat.le_of_ble_eq_true rfl) (by decide) (C_Tr_isAbout1 hR hr hk ⟨_, rfl, ?_⟩)
      first | refine g_if_eqB (tgt := 80) d_K_weightOf_56 (by decide) (fun h56 => ?_) (fun h56 => ?_) | refine g_if_eq (tgt := 80) d_K_weightOf_56 (by decide) (fun h56 => ?_) (fun h56 => ?_)
      · have hQ := hQ Z (by unfold wgS; rw [if_neg h7, Nat.add_sub_cancel, if_neg h56]; exact hR) rfl
        unfold wgt at hQ
        rw [if_neg h7, Nat.add_sub_cancel, if_neg h56] at hQ
        refine g_iconst (v := 0) d_K_weightOf_80 rfl ?_
        refine g_iret d_K_weightOf_81 ?_
        exact hQ
      · refine g_aloadq d_K_weightOf_59 0 rfl ?_
        refine g_aload_nq d_K_weightOf_61 rfl 4 rfl ?_
        refine g_aload_nq d_K_weightOf_62 rfl 2 rfl ?_
        refine g_get d_K_weightOf_63 f_K_47_K (by assumption) (by first | rfl | assumption) ?_
        refine g_callV d_K_weightOf_66 k_Tr_holdsFor l_K_242 i_Tr_holdsFor rfl q_Tr_Tr_holdsFor_Tr h5 (by rfl) (by rfl) (Nat.le_of_ble_eq_true rfl) (by decide) (C_Tr_holdsFor (c := 1) hR hr ht hc (ht9 r hr) (fun Z9 hR9 hB9 => ⟨_, rfl, ?_⟩))
        have hQ := hQ Z9 (by unfold wgS; rw [if_neg h7, Nat.add_sub_cancel, if_pos h56]; exact hR9) hB9
        unfold wgt at hQ
        rw [if_neg h7, Nat.add_sub_cancel, if_pos h56] at hQ
        have h5 : zhs Z9 (ad (460 + 3 * r)) (.inr (9, [.int (sI S (460 + 3 * r) 0), .int (sI S (460 + 3 * r) 1), .ref (ad (461 + 3 * r)), .ref (ad (462 + 3 * r))])) := (hR9.rule hr).1
        first | refine g_if_eqB (tgt := 80) d_K_weightOf_69 (by decide) (fun h69 => ?_) (fun h69 => ?_) | refine g_if_eq (tgt := 80) d_K_weightOf_69 (by decide) (fun h69 => ?_) (fun h69 => ?_)
        · rw [if_neg (show ¬ ((evr S 1 k r).1 = 1 ∧ ¬ (evr S 1 k r).2 0 = 0) from h69)] at hQ
          refine g_iconst (v := 0) d_K_weightOf_80 rfl ?_
          refine g_iret d_K_weightOf_81 ?_
          exact hQ
        · rw [if_pos (show (evr S 1 k r).1 = 1 ∧ ¬ (evr S 1 k r).2 0 = 0 from h69)] at hQ
          refine g_aloadq d_K_weightOf_72 0 rfl ?_
          refine g_callV d_K_weightOf_74 k_Tr_weight l_K_246 i_Tr_weight rfl q_Tr_Tr_weight_Tr h5 (by rfl) (by rfl) (Nat.le_of_ble_eq_true rfl) (by decide) (C_Tr_weight h5 ⟨_, rfl, ?_⟩)
          refine g_goto (tgt := 81) d_K_weightOf_77 (by decide) ?_
          refine g_iret d_K_weightOf_81 ?_
          exact hQ
  · have h7 : p < 7 := Nat.not_le.mp (fun z => h3 (nI_le z (by omega)))
    refine g_aload_nq d_K_weightOf_6 rfl 2 rfl ?_
    refine g_iload_n d_K_weightOf_7 rfl 1 rfl ?_
    refine g_aload_nq d_K_weightOf_8 rfl 0 rfl ?_
    refine g_get d_K_weightOf_9 f_K_12_K (by assumption) (by first | rfl | assumption) ?_
    refine g_callU d_K_weightOf_12 k_Ne_builtInWeight l_K_234 e_Th_Th_builtInWeight z_Th_builtInWeight (by decide +kernel) rfl i_Ne_builtInWeight rfl q_Ne_Th_builtInWeight_Ne h9 (by rfl) (by rfl) (Nat.le_of_ble_eq_true rfl) (by decide) (C_Ne_builtInWeight hR hk hs ⟨_, rfl, ?_⟩)
    refine g_iret d_K_weightOf_15 ?_
    have hQ := hQ Z (by unfold wgS; rw [if_pos h7]; exact hR) rfl
    unfold wgt at hQ
    rw [if_pos h7, if_neg (by decide), if_pos rfl] at hQ
    exact hQ

set_option maxHeartbeats 4000000 in
set_option maxRecDepth 100000 in
theorem C_K_weightOf2 {w : zC} {Z : zZ} {Q : zR → zZ → Prop} {ad : Nat → Nat} {S : ST} (hR : Rep w ad S Z) {p k : Nat} (hp : p < 7 + sN S 3) (hk : k < sN S 2) (hs : ciSh S) (hc : ciPin S) (ht9 : ciTold S) (hQ : ∀ Z', Rep w ad (wgS S 2 k p) Z' → Z'.2.2 = Z.2.2 → Q (.inl (some (.int (wgt S 2 k p)))) Z') : Cz w (6, 134) y_K_weightOf (Cond.code y_K_weightOf c_K_weightOf 5 r_K_weightOf :: wz) [.ref (ad 0), .int (nI p), .ref (ad (300 + k))] Z Q := by
  refine Cz.of (by decide +kernel) (by simp [lg_sl, Value.category]) ?_
  show G _ _ _ _ _ _ _ _ [(0, _), (1, _), (2, _)] _ _
  have n3 := hR.1.2.2.2.1
  have ht : tok S 2 k := by simp [tok, hk]
  have h9 : zhs Z (ad (300 + k)) (.inr (8, [.int (sI S (300 + k) 0), .int ((sI S (300 + k) 0 * 3 + 2) * 160 + nI k), .ref (ad (100 + 3 * sN S (2000 + k))), .int (sI S (300 + k) 3), va_rf ((sR S (300 + k) 4).map (fun n => ad (220 + 2 * n)))])) := hR.pin hk
  have h0 : zhs Z (ad 0) (.inr (0, [.ref (ad 1), .ref (ad 3), .ref (ad 8), .ref (ad 9), .ref (ad 4), .ref (ad 5), .ref (ad 10), .ref (ad (5 + sN S 8)), .ref (ad (8 - sN S 8)), .int (nI (sN S 3)), .int (sI S 0 11)])) := hR.k 0 (by decide)
  have h8 : zhs Z (ad 8) (xr w 8 20 (fun k => if k < sN S 3 then some (ad (460 + 3 * k)) else sR S 8 k)) := hR.k 8 (by decide)
  have h10 : zhs Z (ad 10) (xl w 80 (sJ S 10)) := hR.k 10 (by decide)
  refine g_iload_n d_K_weightOf_0 rfl 1 rfl ?_
  refine g_bipush (v := 7) d_K_weightOf_1 rfl ?_
  refine g_icmp_ge (tgt := 16) d_K_weightOf_3 (by decide) (fun h3 => ?_) (fun h3 => ?_)
  · have h7 : ¬ p < 7 := fun z => nI_ge z (by decide) h3
    obtain ⟨r, rfl⟩ : ∃ r, p = r + 7 := ⟨p - 7, by omega⟩
    have hr : r < sN S 3 := by omega
    refine g_iload_n d_K_weightOf_16 rfl 1 rfl ?_
    refine g_bipush (v := 7) d_K_weightOf_17 rfl ?_
    refine g_isub d_K_weightOf_19 ?_
    rw [show nI (r + 7) - 7 = nI r from (pk_sub (a := r + 7) (b := 7) (by omega)).trans (by rw [Nat.add_sub_cancel])]
    refine g_istore_n d_K_weightOf_20 rfl (by decide) rfl ?_
    show G _ _ _ _ _ _ _ _ [(3, _), (0, _), (1, _), (2, _)] _ _
    refine g_iload_n d_K_weightOf_21 rfl 0 rfl ?_
    refine g_aload_nq d_K_weightOf_22 rfl 1 rfl ?_
    refine g_get d_K_weightOf_23 f_K_25_K (by assumption) (by first | rfl | assumption) ?_
    refine g_alen d_K_weightOf_26 8 (by assumption) rfl ?_
    refine g_callS d_K_weightOf_27 k_K_isBelow l_K_64 s_K_isBelow (by rfl) (by rfl) (Nat.le_of_ble_eq_true rfl) (by decide) (C_K_isBelow ⟨_, rfl, ?_⟩)
    first | refine g_if_eqB (tgt := 42) d_K_weightOf_30 (by decide) (fun h30 => ?_) (fun h30 => ?_) | refine g_if_eq (tgt := 42) d_K_weightOf_30 (by decide) (fun h30 => ?_) (fun h30 => ?_)
    · exact absurd (inr_nI (by omega) (by decide)) h30
    · refine g_aload_nq d_K_weightOf_33 rfl 1 rfl ?_
      refine g_get d_K_weightOf_34 f_K_25_K (by assumption) (by first | rfl | assumption) ?_
      refine g_iload_n d_K_weightOf_37 rfl 0 rfl ?_
      refine g_aald d_K_weightOf_38 8 (by assumption) rfl (vp_in_nI (by omega) (by decide)) ?_
      rw [nI_clamp (by omega), if_pos hr]
      simp only [va_rf]
      have h5 : zhs Z (ad (460 + 3 * r)) (.inr (9, [.int (sI S (460 + 3 * r) 0), .int (sI S (460 + 3 * r) 1), .ref (ad (461 + 3 * r)), .ref (ad (462 + 3 * r))])) := (hR.rule hr).1
      refine g_goto (tgt := 43) d_K_weightOf_39 (by decide) ?_
      refine g_astoreq d_K_weightOf_43 (by decide) rfl ?_
      show G _ _ _ _ _ _ _ _ [(4, _), (3, _), (0, _), (1, _), (2, _)] _ _
      refine g_aloadq d_K_weightOf_45 0 rfl ?_
      refine g_ifnull d_K_weightOf_47 ?_
      refine g_aloadq d_K_weightOf_50 0 rfl ?_
      refine g_aload_nq d_K_weightOf_52 rfl 4 rfl ?_
      refine g_callV d_K_weightOf_53 k_Tr_isAbout l_K_238 i_Tr_isAbout rfl q_Tr_Tr_isAbout_Tr h5 (by rfl) (by rfl) (Nat.le_of_ble_eq_true rfl) (by decide) (C_Tr_isAbout2 hR hr hk ⟨_, rfl, ?_⟩)
      first | refine g_if_eqB (tgt := 80) d_K_weightOf_56 (by decide) (fun h56 => ?_) (fun h56 => ?_) | refine g_if_eq (tgt := 80) d_K_weightOf_56 (by decide) (fun h56 => ?_) (fun h56 => ?_)
      · have hQ := hQ Z (by unfold wgS; rw [if_neg h7, Nat.add_sub_cancel, if_neg h56]; exact hR) rfl
        unfold wgt at hQ
        rw [if_neg h7, Nat.add_sub_cancel, if_neg h56] at hQ
        refine g_iconst (v := 0) d_K_weightOf_80 rfl ?_
        refine g_iret d_K_weightOf_81 ?_
        exact hQ
      · refine g_aloadq d_K_weightOf_59 0 rfl ?_
        refine g_aload_nq d_K_weightOf_61 rfl 4 rfl ?_
        refine g_aload_nq d_K_weightOf_62 rfl 2 rfl ?_
        refine g_get d_K_weightOf_63 f_K_47_K (by assumption) (by first | rfl | assumption) ?_
        refine g_callV d_K_weightOf_66 k_Tr_holdsFor l_K_242 i_Tr_holdsFor rfl q_Tr_Tr_holdsFor_Tr h5 (by rfl) (by rfl) (Nat.le_of_ble_eq_true rfl) (by decide) (C_Tr_holdsFor (c := 2) hR hr ht hc (ht9 r hr) (fun Z9 hR9 hB9 => ⟨_, rfl, ?_⟩))
        have hQ := hQ Z9 (by unfold wgS; rw [if_neg h7, Nat.add_sub_cancel, if_pos h56]; exact hR9) hB9
        unfold wgt at hQ
        rw [if_neg h7, Nat.add_sub_cancel, if_pos h56] at hQ
        have h5 : zhs Z9 (ad (460 + 3 * r)) (.inr (9, [.int (sI S (460 + 3 * r) 0), .int (sI S (460 + 3 * r) 1), .ref (ad (461 + 3 * r)), .ref (ad (462 + 3 * r))])) := (hR9.rule hr).1
        first | refine g_if_eqB (tgt := 80) d_K_weightOf_69 (by decide) (fun h69 => ?_) (fun h69 => ?_) | refine g_if_eq (tgt := 80) d_K_weightOf_69 (by decide) (fun h69 => ?_) (fun h69 => ?_)
        · rw [if_neg (show ¬ ((evr S 2 k r).1 = 1 ∧ ¬ (evr S 2 k r).2 0 = 0) from h69)] at hQ
          refine g_iconst (v := 0) d_K_weightOf_80 rfl ?_
          refine g_iret d_K_weightOf_81 ?_
          exact hQ
        · rw [if_pos (show (evr S 2 k r).1 = 1 ∧ ¬ (evr S 2 k r).2 0 = 0 from h69)] at hQ
          refine g_aloadq d_K_weightOf_72 0 rfl ?_
          refine g_callV d_K_weightOf_74 k_Tr_weight l_K_246 i_Tr_weight rfl q_Tr_Tr_weight_Tr h5 (by rfl) (by rfl) (Nat.le_of_ble_eq_true rfl) (by decide) (C_Tr_weight h5 ⟨_, rfl, ?_⟩)
          refine g_goto (tgt := 81) d_K_weightOf_77 (by decide) ?_
          refine g_iret d_K_weightOf_81 ?_
          exact hQ
  · have h7 : p < 7 := Nat.not_le.mp (fun z => h3 (nI_le z (by omega)))
    refine g_aload_nq d_K_weightOf_6 rfl 2 rfl ?_
    refine g_iload_n d_K_weightOf_7 rfl 1 rfl ?_
    refine g_aload_nq d_K_weightOf_8 rfl 0 rfl ?_
    refine g_get d_K_weightOf_9 f_K_12_K (by assumption) (by first | rfl | assumption) ?_
    refine g_callU d_K_weightOf_12 k_Pi_builtInWeight l_K_234 e_Th_Th_builtInWeight z_Th_builtInWeight (by decide +kernel) rfl i_Pi_builtInWeight rfl q_Pi_Th_builtInWeight_Pi h9 (by rfl) (by rfl) (Nat.le_of_ble_eq_true rfl) (by decide) (C_Pi_builtInWeight hR hk hs hc ⟨_, rfl, ?_⟩)
    refine g_iret d_K_weightOf_15 ?_
    have hQ := hQ Z (by unfold wgS; rw [if_pos h7]; exact hR) rfl
    unfold wgt at hQ
    rw [if_pos h7, if_neg (by decide), if_neg (by decide)] at hQ
    exact hQ

set_option maxHeartbeats 4000000 in
set_option maxRecDepth 100000 in
theorem C_K_weightOf {w : zC} {Z : zZ} {Q : zR → zZ → Prop} {ad : Nat → Nat} {S : ST} (hR : Rep w ad S Z) {p c k : Nat} (hp : p < 7 + sN S 3) (hk : tok S c k) (hs : ciSh S) (hc : ciPin S) (ht9 : ciTold S) (hQ : ∀ Z', Rep w ad (wgS S c k p) Z' → Z'.2.2 = Z.2.2 → Q (.inl (some (.int (wgt S c k p)))) Z') : Cz w (6, 134) y_K_weightOf (Cond.code y_K_weightOf c_K_weightOf 5 r_K_weightOf :: wz) [.ref (ad 0), .int (nI p), .ref (ad (tid c k))] Z Q := by
  rcases hk with ⟨rfl, hk⟩ | ⟨rfl, hk⟩ | ⟨rfl, hk⟩
  · exact C_K_weightOf0 hR hp hk hs hc ht9 hQ
  · exact C_K_weightOf1 hR hp hk hs hc ht9 hQ
  · exact C_K_weightOf2 hR hp hk hs hc ht9 hQ
