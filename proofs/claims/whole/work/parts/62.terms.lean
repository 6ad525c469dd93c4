/-! Terms; any word -/
theorem sw_0_4 (x : Int32) : (x.toInt < 0 ∨ 4 < x.toInt) ∨ x = 0 ∨ x = 1 ∨ x = 2 ∨ x = 3 ∨ x = 4 := by
  by_cases h0 : x = 0
  · simp [h0]
  have n0 : ¬ x.toInt = 0 := fun q => h0 (Int32.toInt_inj.mp (q.trans (by decide)))
  by_cases h1 : x = 1
  · simp [h1]
  have n1 : ¬ x.toInt = 1 := fun q => h1 (Int32.toInt_inj.mp (q.trans (by decide)))
  by_cases h2 : x = 2
  · simp [h2]
  have n2 : ¬ x.toInt = 2 := fun q => h2 (Int32.toInt_inj.mp (q.trans (by decide)))
  by_cases h3 : x = 3
  · simp [h3]
  have n3 : ¬ x.toInt = 3 := fun q => h3 (Int32.toInt_inj.mp (q.trans (by decide)))
  by_cases h4 : x = 4
  · simp [h4]
  have n4 : ¬ x.toInt = 4 := fun q => h4 (Int32.toInt_inj.mp (q.trans (by decide)))
  exact Or.inl (by omega)
set_option maxHeartbeats 4000000 in
set_option maxRecDepth 100000 in
theorem L_Rd_takeNumber {w : zC} {Z : zZ} {Q : zR → zZ → Prop} {ad : Nat → Nat} {S : ST} (hR : Rep w ad S Z) (hI : rdI S) (m : Nat) : ∀ i v, i + m = sN S 11 - sN S 10 → tkQ w ad S Z Q ((numF S m i v).map (trm S 13)) → G w y_Rd_takeNumber c_Rd_takeNumber 5 r_Rd_takeNumber (2, 45) Q 20 [(3, .int (nI i)), (2, .int v), (1, .int (nI (sN S 11 - sN S 10))), (0, .ref (ad 3))] [] Z := by
  have h3 : zhs Z (ad 3) (.inr (3, [.ref (ad 17), .ref (ad 18), .ref (ad 19), .ref (ad 2), .int (nI (sN S 12)), .int (nI (sN S 13)), .int (nI (sN S 14)), .int (sI S 3 7), .int (nI (sN S 15)), .int (sI S 3 9), .int (sI S 3 10), .int (sI S 3 11)])) := hR.k 3 (by decide)
  have h2 : zhs Z (ad 2) (.inr (2, [.ref (ad 16), .int (nI (sN S 9)), .int (nI (sN S 10)), .int (nI (sN S 11))])) := hR.k 2 (by decide)
  have h16 : zhs Z (ad 16) (xc w 160 (sI S 16)) := hR.k 16 (by decide)
  induction m with
  | zero =>
    intro i v hi hQ
    refine g_iload_n d_Rd_takeNumber_20 rfl 0 rfl ?_
    refine g_iload_n d_Rd_takeNumber_21 rfl 2 rfl ?_
    refine g_icmp_ge (tgt := 57) d_Rd_takeNumber_22 (by decide) (fun h22 => ?_) (fun h22 => ?_)
    · refine g_aload_nq d_Rd_takeNumber_57 rfl 3 rfl ?_
      refine g_bipush (v := 13) d_Rd_takeNumber_58 rfl ?_
      refine g_iload_n d_Rd_takeNumber_60 rfl 1 rfl ?_
      refine g_callV d_Rd_takeNumber_61 k_Rd_putTerm l_Rd_154 i_Rd_putTerm rfl p_Rd_putTerm h3 (by rfl) (by rfl) (Nat.le_of_ble_eq_true rfl) (by decide) (C_Rd_putTerm hR hI.2.2.2.2.1 hI.2.2.2.2.2.1 (fun Z1 hR1 B1 => ⟨_, rfl, ?_⟩))
      refine g_zret d_Rd_takeNumber_64 ?_ ?_
      · first | rfl | exact zb_nar _ | exact zb_narc (by assumption)
      · exact hQ Z1 hR1 B1
    · exact absurd (nI_le (by omega) (by have := hI.1; have := hI.2.1; have := hI.2.2.1; omega)) h22
  | succ m ih =>
    intro i v hi hQ
    refine g_iload_n d_Rd_takeNumber_20 rfl 0 rfl ?_
    refine g_iload_n d_Rd_takeNumber_21 rfl 2 rfl ?_
    refine g_icmp_ge (tgt := 57) d_Rd_takeNumber_22 (by decide) (fun h22 => ?_) (fun h22 => ?_)
    · exact absurd h22 (nI_ge (by omega) (by have := hI.1; have := hI.2.1; have := hI.2.2.1; omega))
    · refine g_aload_nq d_Rd_takeNumber_25 rfl 3 rfl ?_
      refine g_get d_Rd_takeNumber_26 f_Rd_24_Rd (by assumption) (by first | rfl | assumption) ?_
      refine g_iload_n d_Rd_takeNumber_29 rfl 0 rfl ?_
      refine g_callV d_Rd_takeNumber_30 k_Tx_digitOfWord l_Rd_161 i_Tx_digitOfWord rfl q_Tx_Tx_digitOfWord_Tx h2 (by rfl) (by rfl) (Nat.le_of_ble_eq_true rfl) (by decide) (C_Tx_digitOfWord (i := i) h2 h16 hI.1 hI.2.2.1 (by have := hI.1; have := hI.2.1; have := hI.2.2.1; omega) hI.2.2.2.1 ⟨_, rfl, ?_⟩)
      refine g_istore d_Rd_takeNumber_33 (by decide) rfl ?_
      show G _ _ _ _ _ _ _ _ [(4, _), (3, _), (2, _), (1, _), (0, _)] _ _
      refine g_iload d_Rd_takeNumber_35 0 rfl ?_
      refine g_iconst (v := (-1)) d_Rd_takeNumber_37 rfl ?_
      refine g_icmp_ne (tgt := 43) d_Rd_takeNumber_38 (by decide) (fun h38 => ?_) (fun h38 => ?_)
      · rw [numF, if_neg (show ¬ dgt (ltW S i) = -1 from h38)] at hQ
        refine g_iload_n d_Rd_takeNumber_43 rfl 2 rfl ?_
        refine g_bipush (v := 10) d_Rd_takeNumber_44 rfl ?_
        refine g_imul d_Rd_takeNumber_46 ?_
        refine g_iload d_Rd_takeNumber_47 0 rfl ?_
        refine g_iadd d_Rd_takeNumber_49 ?_
        refine g_istore_n d_Rd_takeNumber_50 rfl (by decide) rfl ?_
        show G _ _ _ _ _ _ _ _ [(2, _), (4, _), (3, _), (1, _), (0, _)] _ _
        refine g_iinc (k := 2) d_Rd_takeNumber_51 rfl (nI_1 i) (by decide) rfl ?_
        refine g_goto (tgt := 20) d_Rd_takeNumber_54 (by decide) ?_
        refine g_sub [0, 1, 3, 4] rfl (ih (i + 1) _ (by omega) hQ)
      · rw [numF, if_pos (show dgt (ltW S i) = -1 from h38)] at hQ
        refine g_iconst (v := 0) d_Rd_takeNumber_41 rfl ?_
        refine g_zret d_Rd_takeNumber_42 ?_ ?_
        · first | rfl | exact zb_nar _ | exact zb_narc (by assumption)
        · exact hQ Z hR rfl

set_option maxHeartbeats 4000000 in
set_option maxRecDepth 100000 in
theorem C_Rd_takeNumber {w : zC} {Z : zZ} {Q : zR → zZ → Prop} {ad : Nat → Nat} {S : ST} (hR : Rep w ad S Z) (hI : rdI S) (hQ : tkQ w ad S Z Q (tNum S)) : Cz w (2, 45) y_Rd_takeNumber (Cond.code y_Rd_takeNumber c_Rd_takeNumber 5 r_Rd_takeNumber :: wz) [.ref (ad 3)] Z Q := by
  refine Cz.of (by decide +kernel) (by simp [lg_sl, Value.category]) ?_
  show G _ _ _ _ _ _ _ _ [(0, _)] _ _
  have h3 : zhs Z (ad 3) (.inr (3, [.ref (ad 17), .ref (ad 18), .ref (ad 19), .ref (ad 2), .int (nI (sN S 12)), .int (nI (sN S 13)), .int (nI (sN S 14)), .int (sI S 3 7), .int (nI (sN S 15)), .int (sI S 3 9), .int (sI S 3 10), .int (sI S 3 11)])) := hR.k 3 (by decide)
  have h2 : zhs Z (ad 2) (.inr (2, [.ref (ad 16), .int (nI (sN S 9)), .int (nI (sN S 10)), .int (nI (sN S 11))])) := hR.k 2 (by decide)
  have h16 : zhs Z (ad 16) (xc w 160 (sI S 16)) := hR.k 16 (by decide)
  refine g_aload_nq d_Rd_takeNumber_0 rfl 0 rfl ?_
  refine g_get d_Rd_takeNumber_1 f_Rd_24_Rd (by assumption) (by first | rfl | assumption) ?_
  refine g_callV d_Rd_takeNumber_4 k_Tx_wordLength l_Rd_158 i_Tx_wordLength rfl q_Tx_Tx_wordLength_Tx h2 (by rfl) (by rfl) (Nat.le_of_ble_eq_true rfl) (by decide) (C_Tx_wordLength h2 ⟨_, rfl, ?_⟩)
  rw [nI_sub hI.2.1]
  refine g_istore_n d_Rd_takeNumber_7 rfl (by decide) rfl ?_
  show G _ _ _ _ _ _ _ _ [(1, _), (0, _)] _ _
  refine g_iload_n d_Rd_takeNumber_8 rfl 0 rfl ?_
  refine g_bipush (v := 9) d_Rd_takeNumber_9 rfl ?_
  refine g_icmp_le (tgt := 16) d_Rd_takeNumber_11 (by decide) (fun h11 => ?_) (fun h11 => ?_)
  · rw [tNum, if_pos (show wl S ≤ 9 from h11)] at hQ
    refine g_iconst (v := 0) d_Rd_takeNumber_16 rfl ?_
    refine g_istore_n d_Rd_takeNumber_17 rfl (by decide) rfl ?_
    show G _ _ _ _ _ _ _ _ [(2, _), (1, _), (0, _)] _ _
    refine g_iconst (v := 0) d_Rd_takeNumber_18 rfl ?_
    refine g_istore_n d_Rd_takeNumber_19 rfl (by decide) rfl ?_
    show G _ _ _ _ _ _ _ _ [(3, _), (2, _), (1, _), (0, _)] _ _
    exact L_Rd_takeNumber hR hI (sN S 11 - sN S 10) 0 0 (by omega) hQ
  · rw [tNum, if_neg (show ¬ wl S ≤ 9 from h11)] at hQ
    refine g_iconst (v := 0) d_Rd_takeNumber_14 rfl ?_
    refine g_zret d_Rd_takeNumber_15 ?_ ?_
    · first | rfl | exact zb_nar _ | exact zb_narc (by assumption)
    · exact hQ Z hR rfl

set_option maxHeartbeats 4000000 in
set_option maxRecDepth 100000 in
theorem C_Rd_takeField {w : zC} {Z : zZ} {Q : zR → zZ → Prop} {ad : Nat → Nat} {S : ST} (hR : Rep w ad S Z) (hI : rdI S) (hQ : tkQ w ad S Z Q (tFld S)) : Cz w (2, 45) y_Rd_takeField (Cond.code y_Rd_takeField c_Rd_takeField 2 r_Rd_takeField :: wz) [.ref (ad 3)] Z Q := by
  refine Cz.of (by decide +kernel) (by simp [lg_sl, Value.category]) ?_
  show G _ _ _ _ _ _ _ _ [(0, _)] _ _
  have h3 : zhs Z (ad 3) (.inr (3, [.ref (ad 17), .ref (ad 18), .ref (ad 19), .ref (ad 2), .int (nI (sN S 12)), .int (nI (sN S 13)), .int (nI (sN S 14)), .int (sI S 3 7), .int (nI (sN S 15)), .int (sI S 3 9), .int (sI S 3 10), .int (sI S 3 11)])) := hR.k 3 (by decide)
  have h2 : zhs Z (ad 2) (.inr (2, [.ref (ad 16), .int (nI (sN S 9)), .int (nI (sN S 10)), .int (nI (sN S 11))])) := hR.k 2 (by decide)
  have h16 : zhs Z (ad 16) (xc w 160 (sI S 16)) := hR.k 16 (by decide)
  refine g_aload_nq d_Rd_takeField_0 rfl 0 rfl ?_
  refine g_get d_Rd_takeField_1 f_Rd_48_Rd (by assumption) (by first | rfl | assumption) ?_
  refine g_iconst (v := 1) d_Rd_takeField_4 rfl ?_
  refine g_icmp_eq (tgt := 32) d_Rd_takeField_5 (by decide) (fun h5 => ?_) (fun h5 => ?_)
  · rw [tFld, if_neg (fun z => z.1 h5)] at hQ
    refine g_iconst (v := 0) d_Rd_takeField_32 rfl ?_
    refine g_zret d_Rd_takeField_33 ?_ ?_
    · first | rfl | exact zb_nar _ | exact zb_narc (by assumption)
    · exact hQ Z hR rfl
  · refine g_aload_nq d_Rd_takeField_8 rfl 0 rfl ?_
    refine g_get d_Rd_takeField_9 f_Rd_24_Rd (by assumption) (by first | rfl | assumption) ?_
    refine g_callV d_Rd_takeField_12 k_Tx_wordLength l_Rd_158 i_Tx_wordLength rfl q_Tx_Tx_wordLength_Tx h2 (by rfl) (by rfl) (Nat.le_of_ble_eq_true rfl) (by decide) (C_Tx_wordLength h2 ⟨_, rfl, ?_⟩)
    rw [nI_sub hI.2.1]
    refine g_iconst (v := 2) d_Rd_takeField_15 rfl ?_
    refine g_icmp_ne (tgt := 32) d_Rd_takeField_16 (by decide) (fun h16b => ?_) (fun h16b => ?_)
    · rw [tFld, if_neg (fun z => h16b z.2.1)] at hQ
      refine g_iconst (v := 0) d_Rd_takeField_32 rfl ?_
      refine g_zret d_Rd_takeField_33 ?_ ?_
      · first | rfl | exact zb_nar _ | exact zb_narc (by assumption)
      · exact hQ Z hR rfl
    · refine g_aload_nq d_Rd_takeField_19 rfl 0 rfl ?_
      refine g_get d_Rd_takeField_20 f_Rd_24_Rd (by assumption) (by first | rfl | assumption) ?_
      refine g_iconst (v := 0) d_Rd_takeField_23 rfl ?_
      refine g_callV d_Rd_takeField_24 k_Tx_letterOfWord l_Rd_165 i_Tx_letterOfWord rfl q_Tx_Tx_letterOfWord_Tx h2 (by rfl) (by rfl) (Nat.le_of_ble_eq_true rfl) (by decide) (C_Tx_letterOfWord (i := 0) h2 h16 hI.1 hI.2.2.1 (by have := hI.1; have := hI.2.1; have := hI.2.2.1; omega) hI.2.2.2.1 ⟨_, rfl, ?_⟩)
      refine g_bipush (v := 102) d_Rd_takeField_27 rfl ?_
      refine g_icmp_eq (tgt := 34) d_Rd_takeField_29 (by decide) (fun h29 => ?_) (fun h29 => ?_)
      · refine g_aload_nq d_Rd_takeField_34 rfl 0 rfl ?_
        refine g_get d_Rd_takeField_35 f_Rd_24_Rd (by assumption) (by first | rfl | assumption) ?_
        refine g_iconst (v := 1) d_Rd_takeField_38 rfl ?_
        refine g_callV d_Rd_takeField_39 k_Tx_digitOfWord l_Rd_161 i_Tx_digitOfWord rfl q_Tx_Tx_digitOfWord_Tx h2 (by rfl) (by rfl) (Nat.le_of_ble_eq_true rfl) (by decide) (C_Tx_digitOfWord (i := 1) h2 h16 hI.1 hI.2.2.1 (by have := hI.1; have := hI.2.1; have := hI.2.2.1; omega) hI.2.2.2.1 ⟨_, rfl, ?_⟩)
        refine g_istore_n d_Rd_takeField_42 rfl (by decide) rfl ?_
        show G _ _ _ _ _ _ _ _ [(1, _), (0, _)] _ _
        refine g_iload_n d_Rd_takeField_43 rfl 0 rfl ?_
        refine g_bipush (v := 8) d_Rd_takeField_44 rfl ?_
        refine g_callSN d_Rd_takeField_46 k_K_isBelow l_Rd_169 s_K_isBelow (by rfl) (by rfl) (Nat.le_of_ble_eq_true rfl) (by decide) (C_K_isBelow ⟨_, rfl, ?_⟩)
        first | refine g_if_eqB (tgt := 66) d_Rd_takeField_49 (by decide) (fun h49 => ?_) (fun h49 => ?_) | refine g_if_eq (tgt := 66) d_Rd_takeField_49 (by decide) (fun h49 => ?_) (fun h49 => ?_)
        · rw [tFld, if_neg (fun z => h49 z.2.2.2)] at hQ
          refine g_iconst (v := 0) d_Rd_takeField_66 rfl ?_
          refine g_zret d_Rd_takeField_67 ?_ ?_
          · first | rfl | exact zb_nar _ | exact zb_narc (by assumption)
          · first | exact hQ Z1 hR1 B1 | exact hQ Z hR rfl
        · rw [tFld, if_pos ⟨h5, h16b, h29, h49⟩] at hQ
          refine g_aload_nq d_Rd_takeField_52 rfl 1 rfl ?_
          refine g_bipush (v := 14) d_Rd_takeField_53 rfl ?_
          refine g_iload_n d_Rd_takeField_55 rfl 0 rfl ?_
          refine g_callV d_Rd_takeField_56 k_Rd_putTerm l_Rd_154 i_Rd_putTerm rfl p_Rd_putTerm h3 (by rfl) (by rfl) (Nat.le_of_ble_eq_true rfl) (by decide) (C_Rd_putTerm hR hI.2.2.2.2.1 hI.2.2.2.2.2.1 (fun Z1 hR1 B1 => ⟨_, rfl, ?_⟩))
          first | refine g_if_eqB (tgt := 66) d_Rd_takeField_59 (by decide) (fun h59 => ?_) (fun h59 => ?_) | refine g_if_eq (tgt := 66) d_Rd_takeField_59 (by decide) (fun h59 => ?_) (fun h59 => ?_)
          · exact absurd h59 (by decide)
          · refine g_iconst (v := 1) d_Rd_takeField_62 rfl ?_
            refine g_goto (tgt := 67) d_Rd_takeField_63 (by decide) ?_
            refine g_zret d_Rd_takeField_67 ?_ ?_
            · first | rfl | exact zb_nar _ | exact zb_narc (by assumption)
            · first | exact hQ Z1 hR1 B1 | exact hQ Z hR rfl
      · rw [tFld, if_neg (fun z => h29 z.2.2.1)] at hQ
        refine g_iconst (v := 0) d_Rd_takeField_32 rfl ?_
        refine g_zret d_Rd_takeField_33 ?_ ?_
        · first | rfl | exact zb_nar _ | exact zb_narc (by assumption)
        · exact hQ Z hR rfl

set_option maxHeartbeats 4000000 in
set_option maxRecDepth 100000 in
theorem C_Rd_takeKind {w : zC} {Z : zZ} {Q : zR → zZ → Prop} {ad : Nat → Nat} {S : ST} (hR : Rep w ad S Z) (hI : rdI S) (hQ : tkQ w ad S Z Q (tKnd S)) : Cz w (2, 45) y_Rd_takeKind (Cond.code y_Rd_takeKind c_Rd_takeKind 2 r_Rd_takeKind :: wz) [.ref (ad 3)] Z Q := by
  refine Cz.of (by decide +kernel) (by simp [lg_sl, Value.category]) ?_
  show G _ _ _ _ _ _ _ _ [(0, _)] _ _
  have h3 : zhs Z (ad 3) (.inr (3, [.ref (ad 17), .ref (ad 18), .ref (ad 19), .ref (ad 2), .int (nI (sN S 12)), .int (nI (sN S 13)), .int (nI (sN S 14)), .int (sI S 3 7), .int (nI (sN S 15)), .int (sI S 3 9), .int (sI S 3 10), .int (sI S 3 11)])) := hR.k 3 (by decide)
  have h2 : zhs Z (ad 2) (.inr (2, [.ref (ad 16), .int (nI (sN S 9)), .int (nI (sN S 10)), .int (nI (sN S 11))])) := hR.k 2 (by decide)
  have h16 : zhs Z (ad 16) (xc w 160 (sI S 16)) := hR.k 16 (by decide)
  refine g_aload_nq d_Rd_takeKind_0 rfl 0 rfl ?_
  refine g_get d_Rd_takeKind_1 f_Rd_24_Rd (by assumption) (by first | rfl | assumption) ?_
  refine g_iconst (v := 0) d_Rd_takeKind_4 rfl ?_
  refine g_callV d_Rd_takeKind_5 k_Tx_digitOfWord l_Rd_161 i_Tx_digitOfWord rfl q_Tx_Tx_digitOfWord_Tx h2 (by rfl) (by rfl) (Nat.le_of_ble_eq_true rfl) (by decide) (C_Tx_digitOfWord (i := 0) h2 h16 hI.1 hI.2.2.1 (by have := hI.1; have := hI.2.1; have := hI.2.2.1; omega) hI.2.2.2.1 ⟨_, rfl, ?_⟩)
  refine g_istore_n d_Rd_takeKind_8 rfl (by decide) rfl ?_
  show G _ _ _ _ _ _ _ _ [(1, _), (0, _)] _ _
  refine g_aload_nq d_Rd_takeKind_9 rfl 1 rfl ?_
  refine g_get d_Rd_takeKind_10 f_Rd_24_Rd (by assumption) (by first | rfl | assumption) ?_
  refine g_callV d_Rd_takeKind_13 k_Tx_wordLength l_Rd_158 i_Tx_wordLength rfl q_Tx_Tx_wordLength_Tx h2 (by rfl) (by rfl) (Nat.le_of_ble_eq_true rfl) (by decide) (C_Tx_wordLength h2 ⟨_, rfl, ?_⟩)
  rw [nI_sub hI.2.1]
  refine g_iconst (v := 1) d_Rd_takeKind_16 rfl ?_
  refine g_icmp_ne (tgt := 39) d_Rd_takeKind_17 (by decide) (fun h17 => ?_) (fun h17 => ?_)
  · rw [tKnd, if_neg (fun z => h17 z.1)] at hQ
    refine g_iconst (v := 0) d_Rd_takeKind_39 rfl ?_
    refine g_zret d_Rd_takeKind_40 ?_ ?_
    · first | rfl | exact zb_nar _ | exact zb_narc (by assumption)
    · first | exact hQ Z1 hR1 B1 | exact hQ Z hR rfl
  · refine g_iload_n d_Rd_takeKind_20 rfl 0 rfl ?_
    refine g_iconst (v := (-1)) d_Rd_takeKind_21 rfl ?_
    refine g_icmp_eq (tgt := 39) d_Rd_takeKind_22 (by decide) (fun h22 => ?_) (fun h22 => ?_)
    · rw [tKnd, if_neg (fun z => z.2 h22)] at hQ
      refine g_iconst (v := 0) d_Rd_takeKind_39 rfl ?_
      refine g_zret d_Rd_takeKind_40 ?_ ?_
      · first | rfl | exact zb_nar _ | exact zb_narc (by assumption)
      · first | exact hQ Z1 hR1 B1 | exact hQ Z hR rfl
    · rw [tKnd, if_pos ⟨h17, h22⟩] at hQ
      refine g_aload_nq d_Rd_takeKind_25 rfl 1 rfl ?_
      refine g_bipush (v := 19) d_Rd_takeKind_26 rfl ?_
      refine g_iload_n d_Rd_takeKind_28 rfl 0 rfl ?_
      refine g_callV d_Rd_takeKind_29 k_Rd_putTerm l_Rd_154 i_Rd_putTerm rfl p_Rd_putTerm h3 (by rfl) (by rfl) (Nat.le_of_ble_eq_true rfl) (by decide) (C_Rd_putTerm hR hI.2.2.2.2.1 hI.2.2.2.2.2.1 (fun Z1 hR1 B1 => ⟨_, rfl, ?_⟩))
      first | refine g_if_eqB (tgt := 39) d_Rd_takeKind_32 (by decide) (fun h32 => ?_) (fun h32 => ?_) | refine g_if_eq (tgt := 39) d_Rd_takeKind_32 (by decide) (fun h32 => ?_) (fun h32 => ?_)
      · exact absurd h32 (by decide)
      · refine g_iconst (v := 1) d_Rd_takeKind_35 rfl ?_
        refine g_goto (tgt := 40) d_Rd_takeKind_36 (by decide) ?_
        refine g_zret d_Rd_takeKind_40 ?_ ?_
        · first | rfl | exact zb_nar _ | exact zb_narc (by assumption)
        · first | exact hQ Z1 hR1 B1 | exact hQ Z hR rfl

set_option maxHeartbeats 4000000 in
set_option maxRecDepth 100000 in
theorem C_Rd_takeTerm {w : zC} {Z : zZ} {Q : zR → zZ → Prop} {ad : Nat → Nat} {S : ST} (hR : Rep w ad S Z) {adK adV : Nat → Nat} (hK : zLit w adK adV) (hI : rdI S) (hQ : tkQ w ad S Z Q (tTrm S)) : Cz w (6, 127) y_Rd_takeTerm (Cond.code y_Rd_takeTerm c_Rd_takeTerm 2 r_Rd_takeTerm :: wz) [.ref (ad 3)] Z Q := by
  refine Cz.of (by decide +kernel) (by simp [lg_sl, Value.category]) ?_
  show G _ _ _ _ _ _ _ _ [(0, _)] _ _
  have h3 : zhs Z (ad 3) (.inr (3, [.ref (ad 17), .ref (ad 18), .ref (ad 19), .ref (ad 2), .int (nI (sN S 12)), .int (nI (sN S 13)), .int (nI (sN S 14)), .int (sI S 3 7), .int (nI (sN S 15)), .int (sI S 3 9), .int (sI S 3 10), .int (sI S 3 11)])) := hR.k 3 (by decide)
  have h2 : zhs Z (ad 2) (.inr (2, [.ref (ad 16), .int (nI (sN S 9)), .int (nI (sN S 10)), .int (nI (sN S 11))])) := hR.k 2 (by decide)
  have h16 : zhs Z (ad 16) (xc w 160 (sI S 16)) := hR.k 16 (by decide)
  refine g_aload_nq d_Rd_takeTerm_0 rfl 0 rfl ?_
  refine g_callV d_Rd_takeTerm_1 k_Rd_takeNumber l_Rd_142 i_Rd_takeNumber rfl p_Rd_takeNumber h3 (by rfl) (by rfl) (Nat.le_of_ble_eq_true rfl) (by decide) (C_Rd_takeNumber hR hI (fun Z1 hR1 B1 => ⟨_, rfl, ?_⟩))
  first | refine g_if_neB (tgt := 14) d_Rd_takeTerm_4 (by decide) (fun h4 => ?_) (fun h4 => ?_) | refine g_if_ne (tgt := 14) d_Rd_takeTerm_4 (by decide) (fun h4 => ?_) (fun h4 => ?_)
  · obtain ⟨S1, hs1⟩ := Option.isSome_iff_exists.mp h4
    rw [hs1] at hR1
    rw [tTrm, hs1, Option.some_or] at hQ
    have hF := hQ Z1 hR1 (B1)
    refine g_iconst (v := 1) d_Rd_takeTerm_14 rfl ?_
    refine g_zret d_Rd_takeTerm_15 ?_ ?_
    · first | rfl | exact zb_nar _ | exact zb_narc (by assumption)
    · exact hF
  · have hn1 := is_none h4
    rw [hn1] at hR1
    have hR1 : Rep w ad S Z1 := hR1
    rw [tTrm, hn1, Option.none_or] at hQ
    have h3 : zhs Z1 (ad 3) (.inr (3, [.ref (ad 17), .ref (ad 18), .ref (ad 19), .ref (ad 2), .int (nI (sN S 12)), .int (nI (sN S 13)), .int (nI (sN S 14)), .int (sI S 3 7), .int (nI (sN S 15)), .int (sI S 3 9), .int (sI S 3 10), .int (sI S 3 11)])) := hR1.k 3 (by decide)
    have h2 : zhs Z1 (ad 2) (.inr (2, [.ref (ad 16), .int (nI (sN S 9)), .int (nI (sN S 10)), .int (nI (sN S 11))])) := hR1.k 2 (by decide)
    have h16 : zhs Z1 (ad 16) (xc w 160 (sI S 16)) := hR1.k 16 (by decide)
    refine g_aload_nq d_Rd_takeTerm_7 rfl 0 rfl ?_
    refine g_callV d_Rd_takeTerm_8 k_Rd_takeField l_Rd_145 i_Rd_takeField rfl p_Rd_takeField h3 (by rfl) (by rfl) (Nat.le_of_ble_eq_true rfl) (by decide) (C_Rd_takeField hR1 hI (fun Z2 hR2 B2 => ⟨_, rfl, ?_⟩))
    first | refine g_if_eqB (tgt := 16) d_Rd_takeTerm_11 (by decide) (fun h11 => ?_) (fun h11 => ?_) | refine g_if_eq (tgt := 16) d_Rd_takeTerm_11 (by decide) (fun h11 => ?_) (fun h11 => ?_)
    · have hn2 := is_none h11
      rw [hn2] at hR2
      have hR2 : Rep w ad S Z2 := hR2
      rw [hn2, Option.none_or] at hQ
      have h3 : zhs Z2 (ad 3) (.inr (3, [.ref (ad 17), .ref (ad 18), .ref (ad 19), .ref (ad 2), .int (nI (sN S 12)), .int (nI (sN S 13)), .int (nI (sN S 14)), .int (sI S 3 7), .int (nI (sN S 15)), .int (sI S 3 9), .int (sI S 3 10), .int (sI S 3 11)])) := hR2.k 3 (by decide)
      have h2 : zhs Z2 (ad 2) (.inr (2, [.ref (ad 16), .int (nI (sN S 9)), .int (nI (sN S 10)), .int (nI (sN S 11))])) := hR2.k 2 (by decide)
      have h16 : zhs Z2 (ad 16) (xc w 160 (sI S 16)) := hR2.k 16 (by decide)
      refine g_aload_nq d_Rd_takeTerm_16 rfl 0 rfl ?_
      refine g_get d_Rd_takeTerm_17 f_Rd_48_Rd (by assumption) (by first | rfl | assumption) ?_
      refine g_iconst (v := 2) d_Rd_takeTerm_20 rfl ?_
      refine g_icmp_eq (tgt := 43) d_Rd_takeTerm_21 (by decide) (fun h21 => ?_) (fun h21 => ?_)
      · rw [if_neg (fun z => z.1 h21)] at hQ
        refine g_aload_nq d_Rd_takeTerm_43 rfl 0 rfl ?_
        refine g_callV d_Rd_takeTerm_44 k_Rd_plainTerm l_Rd_150 i_Rd_plainTerm rfl p_Rd_plainTerm h3 (by rfl) (by rfl) (Nat.le_of_ble_eq_true rfl) (by decide) (C_Rd_plainTerm hR2 hK hI ⟨_, rfl, ?_⟩)
        generalize plT S = x at hQ ⊢
        refine g_istore_n d_Rd_takeTerm_47 rfl (by decide) rfl ?_
        show G _ _ _ _ _ _ _ _ [(1, _), (0, _)] _ _
        refine g_iload_n d_Rd_takeTerm_48 rfl 0 rfl ?_
        refine g_iconst (v := (-1)) d_Rd_takeTerm_49 rfl ?_
        refine g_icmp_eq (tgt := 66) d_Rd_takeTerm_50 (by decide) (fun h50 => ?_) (fun h50 => ?_)
        · rw [if_pos h50] at hQ
          refine g_iconst (v := 0) d_Rd_takeTerm_66 rfl ?_
          refine g_zret d_Rd_takeTerm_67 ?_ ?_
          · first | rfl | exact zb_nar _ | exact zb_narc (by assumption)
          · first | exact hQ Z3 hR3 (B3.trans (B2.trans B1)) | exact hQ Z2 hR2 (B2.trans B1)
        · rw [if_neg h50] at hQ
          refine g_aload_nq d_Rd_takeTerm_53 rfl 1 rfl ?_
          refine g_iload_n d_Rd_takeTerm_54 rfl 0 rfl ?_
          refine g_iconst (v := 0) d_Rd_takeTerm_55 rfl ?_
          refine g_callV d_Rd_takeTerm_56 k_Rd_putTerm l_Rd_154 i_Rd_putTerm rfl p_Rd_putTerm h3 (by rfl) (by rfl) (Nat.le_of_ble_eq_true rfl) (by decide) (C_Rd_putTerm hR2 hI.2.2.2.2.1 hI.2.2.2.2.2.1 (fun Z3 hR3 B3 => ⟨_, rfl, ?_⟩))
          first | refine g_if_eqB (tgt := 66) d_Rd_takeTerm_59 (by decide) (fun h59 => ?_) (fun h59 => ?_) | refine g_if_eq (tgt := 66) d_Rd_takeTerm_59 (by decide) (fun h59 => ?_) (fun h59 => ?_)
          · exact absurd h59 (by decide)
          · refine g_iconst (v := 1) d_Rd_takeTerm_62 rfl ?_
            refine g_goto (tgt := 67) d_Rd_takeTerm_63 (by decide) ?_
            refine g_zret d_Rd_takeTerm_67 ?_ ?_
            · first | rfl | exact zb_nar _ | exact zb_narc (by assumption)
            · first | exact hQ Z3 hR3 (B3.trans (B2.trans B1)) | exact hQ Z2 hR2 (B2.trans B1)
      · refine g_aload_nq d_Rd_takeTerm_24 rfl 0 rfl ?_
        refine g_get d_Rd_takeTerm_25 f_Rd_24_Rd (by assumption) (by first | rfl | assumption) ?_
        refine g_ldcS hK zl_17 d_Rd_takeTerm_28 ?_
        refine g_callV d_Rd_takeTerm_30 k_Tx_wordIs l_Rd_118 i_Tx_wordIs rfl q_Tx_Tx_wordIs_Tx h2 (by rfl) (by rfl) (Nat.le_of_ble_eq_true rfl) (by decide) (C_Tx_wordIs h2 h16 hI.1 hI.2.1 hI.2.2.1 hI.2.2.2.1 hK zl_17 ⟨_, rfl, ?_⟩)
        first | refine g_if_eqB (tgt := 43) d_Rd_takeTerm_33 (by decide) (fun h33 => ?_) (fun h33 => ?_) | refine g_if_eq (tgt := 43) d_Rd_takeTerm_33 (by decide) (fun h33 => ?_) (fun h33 => ?_)
        · rw [if_neg (fun z => h33 z.2)] at hQ
          refine g_aload_nq d_Rd_takeTerm_43 rfl 0 rfl ?_
          refine g_callV d_Rd_takeTerm_44 k_Rd_plainTerm l_Rd_150 i_Rd_plainTerm rfl p_Rd_plainTerm h3 (by rfl) (by rfl) (Nat.le_of_ble_eq_true rfl) (by decide) (C_Rd_plainTerm hR2 hK hI ⟨_, rfl, ?_⟩)
          generalize plT S = x at hQ ⊢
          refine g_istore_n d_Rd_takeTerm_47 rfl (by decide) rfl ?_
          show G _ _ _ _ _ _ _ _ [(1, _), (0, _)] _ _
          refine g_iload_n d_Rd_takeTerm_48 rfl 0 rfl ?_
          refine g_iconst (v := (-1)) d_Rd_takeTerm_49 rfl ?_
          refine g_icmp_eq (tgt := 66) d_Rd_takeTerm_50 (by decide) (fun h50 => ?_) (fun h50 => ?_)
          · rw [if_pos h50] at hQ
            refine g_iconst (v := 0) d_Rd_takeTerm_66 rfl ?_
            refine g_zret d_Rd_takeTerm_67 ?_ ?_
            · first | rfl | exact zb_nar _ | exact zb_narc (by assumption)
            · first | exact hQ Z3 hR3 (B3.trans (B2.trans B1)) | exact hQ Z2 hR2 (B2.trans B1)
          · rw [if_neg h50] at hQ
            refine g_aload_nq d_Rd_takeTerm_53 rfl 1 rfl ?_
            refine g_iload_n d_Rd_takeTerm_54 rfl 0 rfl ?_
            refine g_iconst (v := 0) d_Rd_takeTerm_55 rfl ?_
            refine g_callV d_Rd_takeTerm_56 k_Rd_putTerm l_Rd_154 i_Rd_putTerm rfl p_Rd_putTerm h3 (by rfl) (by rfl) (Nat.le_of_ble_eq_true rfl) (by decide) (C_Rd_putTerm hR2 hI.2.2.2.2.1 hI.2.2.2.2.2.1 (fun Z3 hR3 B3 => ⟨_, rfl, ?_⟩))
            first | refine g_if_eqB (tgt := 66) d_Rd_takeTerm_59 (by decide) (fun h59 => ?_) (fun h59 => ?_) | refine g_if_eq (tgt := 66) d_Rd_takeTerm_59 (by decide) (fun h59 => ?_) (fun h59 => ?_)
            · exact absurd h59 (by decide)
            · refine g_iconst (v := 1) d_Rd_takeTerm_62 rfl ?_
              refine g_goto (tgt := 67) d_Rd_takeTerm_63 (by decide) ?_
              refine g_zret d_Rd_takeTerm_67 ?_ ?_
              · first | rfl | exact zb_nar _ | exact zb_narc (by assumption)
              · first | exact hQ Z3 hR3 (B3.trans (B2.trans B1)) | exact hQ Z2 hR2 (B2.trans B1)
        · rw [if_pos ⟨h21, h33⟩] at hQ
          refine g_aload_nq d_Rd_takeTerm_36 rfl 0 rfl ?_
          refine g_iconst (v := 4) d_Rd_takeTerm_37 rfl ?_
          refine g_put d_Rd_takeTerm_38 w_Rd_38_Rd (by assumption) (by first | rfl | exact zb_nar _) (by first | rfl | exact zb_fit _ | exact zrf_fit _) (by first | exact Nat.le_of_ble_eq_true rfl | omega) ?_
          have hR3 := hR2.put3 7 (4)
          generalize e3 : zput _ _ _ = Z3
          have hR3 : Rep w ad (w3 S 7 (4)) Z3 := by rw [← e3]; exact hR3
          have B3 : Z3.2.2 = Z2.2.2 := by rw [← e3]; rfl
          generalize f3 : w3 S 7 (4) = S3 at hR3 hQ
          have h3 : zhs Z3 (ad 3) (.inr (3, [.ref (ad 17), .ref (ad 18), .ref (ad 19), .ref (ad 2), .int (nI (sN S3 12)), .int (nI (sN S3 13)), .int (nI (sN S3 14)), .int (sI S3 3 7), .int (nI (sN S3 15)), .int (sI S3 3 9), .int (sI S3 3 10), .int (sI S3 3 11)])) := hR3.k 3 (by decide)
          refine g_iconst (v := 1) d_Rd_takeTerm_41 rfl ?_
          refine g_zret d_Rd_takeTerm_42 ?_ ?_
          · first | rfl | exact zb_nar _ | exact zb_narc (by assumption)
          · exact hQ Z3 hR3 (B3.trans (B2.trans B1))
    · obtain ⟨S2, hs2⟩ := Option.isSome_iff_exists.mp h11
      rw [hs2] at hR2
      rw [hs2, Option.some_or] at hQ
      have hF := hQ Z2 hR2 (B2.trans B1)
      refine g_iconst (v := 1) d_Rd_takeTerm_14 rfl ?_
      refine g_zret d_Rd_takeTerm_15 ?_ ?_
      · first | rfl | exact zb_nar _ | exact zb_narc (by assumption)
      · exact hF

set_option maxHeartbeats 4000000 in
set_option maxRecDepth 100000 in
theorem C_Rd_takeWord {w : zC} {Z : zZ} {Q : zR → zZ → Prop} {ad : Nat → Nat} {S : ST} (hR : Rep w ad S Z) {adK adV : Nat → Nat} (hK : zLit w adK adV) (hI : rdI S) (hQ : tkQ w ad S Z Q (tWd S)) : Cz w (7, 148) y_Rd_takeWord (Cond.code y_Rd_takeWord c_Rd_takeWord 1 r_Rd_takeWord :: wz) [.ref (ad 3)] Z Q := by
  refine Cz.of (by decide +kernel) (by simp [lg_sl, Value.category]) ?_
  show G _ _ _ _ _ _ _ _ [(0, _)] _ _
  have h3 : zhs Z (ad 3) (.inr (3, [.ref (ad 17), .ref (ad 18), .ref (ad 19), .ref (ad 2), .int (nI (sN S 12)), .int (nI (sN S 13)), .int (nI (sN S 14)), .int (sI S 3 7), .int (nI (sN S 15)), .int (sI S 3 9), .int (sI S 3 10), .int (sI S 3 11)])) := hR.k 3 (by decide)
  have h2 : zhs Z (ad 2) (.inr (2, [.ref (ad 16), .int (nI (sN S 9)), .int (nI (sN S 10)), .int (nI (sN S 11))])) := hR.k 2 (by decide)
  have h16 : zhs Z (ad 16) (xc w 160 (sI S 16)) := hR.k 16 (by decide)
  refine g_aload_nq d_Rd_takeWord_0 rfl 0 rfl ?_
  refine g_get d_Rd_takeWord_1 f_Rd_38_Rd (by assumption) (by first | rfl | assumption) ?_
  unfold tWd at hQ
  generalize hv : sI S 3 7 = v at h3 hQ ⊢
  rcases sw_0_4 v with h4 | rfl | rfl | rfl | rfl | rfl
  · refine g_tableOut (tgt := 87) d_Rd_takeWord_4 h4 (by decide) ?_
    rw [if_neg (show ¬ v = 0 from fun z => by subst z; exact absurd h4 (by decide)), if_neg (show ¬ v = 1 from fun z => by subst z; exact absurd h4 (by decide)), if_neg (show ¬ v = 2 from fun z => by subst z; exact absurd h4 (by decide)), if_neg (show ¬ v = 3 from fun z => by subst z; exact absurd h4 (by decide)), if_neg (show ¬ v = 4 from fun z => by subst z; exact absurd h4 (by decide))] at hQ
    refine g_aload_nq d_Rd_takeWord_87 rfl 0 rfl ?_
    refine g_callV d_Rd_takeWord_88 k_Rd_takeOperator l_Rd_110 i_Rd_takeOperator rfl p_Rd_takeOperator h3 (by rfl) (by rfl) (Nat.le_of_ble_eq_true rfl) (by decide) (C_Rd_takeOperator hR hK hI (fun Z1 hR1 B1 => ⟨_, rfl, ?_⟩))
    first | refine g_if_neB (tgt := 101) d_Rd_takeWord_91 (by decide) (fun h91 => ?_) (fun h91 => ?_) | refine g_if_ne (tgt := 101) d_Rd_takeWord_91 (by decide) (fun h91 => ?_) (fun h91 => ?_)
    · obtain ⟨S1, hs1⟩ := Option.isSome_iff_exists.mp h91
      rw [hs1] at hR1
      rw [hs1, Option.some_or] at hQ
      have hF := hQ Z1 hR1 (B1)
      refine g_iconst (v := 1) d_Rd_takeWord_101 rfl ?_
      refine g_goto (tgt := 106) d_Rd_takeWord_102 (by decide) ?_
      refine g_zret d_Rd_takeWord_106 ?_ ?_
      · first | rfl | exact zb_nar _ | exact zb_narc (by assumption)
      · exact hF
    · have hn1 := is_none h91
      rw [hn1] at hR1
      have hR1 : Rep w ad S Z1 := hR1
      rw [hn1, Option.none_or] at hQ
      have h3 : zhs Z1 (ad 3) (.inr (3, [.ref (ad 17), .ref (ad 18), .ref (ad 19), .ref (ad 2), .int (nI (sN S 12)), .int (nI (sN S 13)), .int (nI (sN S 14)), .int (sI S 3 7), .int (nI (sN S 15)), .int (sI S 3 9), .int (sI S 3 10), .int (sI S 3 11)])) := hR1.k 3 (by decide)
      have h2 : zhs Z1 (ad 2) (.inr (2, [.ref (ad 16), .int (nI (sN S 9)), .int (nI (sN S 10)), .int (nI (sN S 11))])) := hR1.k 2 (by decide)
      have h16 : zhs Z1 (ad 16) (xc w 160 (sI S 16)) := hR1.k 16 (by decide)
      refine g_aload_nq d_Rd_takeWord_94 rfl 0 rfl ?_
      refine g_callV d_Rd_takeWord_95 k_Rd_takeClosing l_Rd_113 i_Rd_takeClosing rfl p_Rd_takeClosing h3 (by rfl) (by rfl) (Nat.le_of_ble_eq_true rfl) (by decide) (C_Rd_takeClosing hR1 hK hI (fun Z2 hR2 B2 => ⟨_, rfl, ?_⟩))
      first | refine g_if_eqB (tgt := 105) d_Rd_takeWord_98 (by decide) (fun h98 => ?_) (fun h98 => ?_) | refine g_if_eq (tgt := 105) d_Rd_takeWord_98 (by decide) (fun h98 => ?_) (fun h98 => ?_)
      · have hn2 := is_none h98
        rw [hn2] at hR2 hQ
        have hF := hQ Z2 hR2 (B2.trans B1)
        refine g_iconst (v := 0) d_Rd_takeWord_105 rfl ?_
        refine g_zret d_Rd_takeWord_106 ?_ ?_
        · first | rfl | exact zb_nar _ | exact zb_narc (by assumption)
        · exact hF
      · obtain ⟨S2, hs2⟩ := Option.isSome_iff_exists.mp h98
        rw [hs2] at hR2 hQ
        have hF := hQ Z2 hR2 (B2.trans B1)
        refine g_iconst (v := 1) d_Rd_takeWord_101 rfl ?_
        refine g_goto (tgt := 106) d_Rd_takeWord_102 (by decide) ?_
        refine g_zret d_Rd_takeWord_106 ?_ ?_
        · first | rfl | exact zb_nar _ | exact zb_narc (by assumption)
        · exact hF
  · refine g_tableIn (tgt := 40) d_Rd_takeWord_4 (by decide) (by decide) rfl (by decide) ?_
    rw [if_pos rfl] at hQ
    refine g_aload_nq d_Rd_takeWord_40 rfl 0 rfl ?_
    refine g_callV d_Rd_takeWord_41 k_Rd_takeSubject l_Rd_92 i_Rd_takeSubject rfl p_Rd_takeSubject h3 (by rfl) (by rfl) (Nat.le_of_ble_eq_true rfl) (by decide) (C_Rd_takeSubject hR hK hI (fun Z1 hR1 B1 => ⟨_, rfl, ?_⟩))
    refine g_zret d_Rd_takeWord_44 ?_ ?_
    · first | rfl | exact zb_nar _ | exact zb_narc (by assumption)
    · exact hQ Z1 hR1 B1
  · refine g_tableIn (tgt := 45) d_Rd_takeWord_4 (by decide) (by decide) rfl (by decide) ?_
    rw [if_neg (by decide), if_pos rfl] at hQ
    refine g_aload_nq d_Rd_takeWord_45 rfl 0 rfl ?_
    refine g_callV d_Rd_takeWord_46 k_Rd_takeWeight l_Rd_95 i_Rd_takeWeight rfl p_Rd_takeWeight h3 (by rfl) (by rfl) (Nat.le_of_ble_eq_true rfl) (by decide) (C_Rd_takeWeight hR hK hI (fun Z1 hR1 B1 => ⟨_, rfl, ?_⟩))
    refine g_zret d_Rd_takeWord_49 ?_ ?_
    · first | rfl | exact zb_nar _ | exact zb_narc (by assumption)
    · exact hQ Z1 hR1 B1
  · refine g_tableIn (tgt := 50) d_Rd_takeWord_4 (by decide) (by decide) rfl (by decide) ?_
    rw [if_neg (by decide), if_neg (by decide), if_pos rfl] at hQ
    refine g_aload_nq d_Rd_takeWord_50 rfl 0 rfl ?_
    refine g_callV d_Rd_takeWord_51 k_Rd_takeNot l_Rd_98 i_Rd_takeNot rfl p_Rd_takeNot h3 (by rfl) (by rfl) (Nat.le_of_ble_eq_true rfl) (by decide) (C_Rd_takeNot hR hK hI (fun Z1 hR1 B1 => ⟨_, rfl, ?_⟩))
    first | refine g_if_neB (tgt := 71) d_Rd_takeWord_54 (by decide) (fun h54 => ?_) (fun h54 => ?_) | refine g_if_ne (tgt := 71) d_Rd_takeWord_54 (by decide) (fun h54 => ?_) (fun h54 => ?_)
    · obtain ⟨S1, hs1⟩ := Option.isSome_iff_exists.mp h54
      rw [hs1] at hR1
      rw [hs1, Option.some_or] at hQ
      have hF := hQ Z1 hR1 (B1)
      refine g_iconst (v := 1) d_Rd_takeWord_71 rfl ?_
      refine g_goto (tgt := 76) d_Rd_takeWord_72 (by decide) ?_
      refine g_zret d_Rd_takeWord_76 ?_ ?_
      · first | rfl | exact zb_nar _ | exact zb_narc (by assumption)
      · exact hF
    · have hn1 := is_none h54
      rw [hn1] at hR1
      have hR1 : Rep w ad S Z1 := hR1
      rw [hn1, Option.none_or] at hQ
      have h3 : zhs Z1 (ad 3) (.inr (3, [.ref (ad 17), .ref (ad 18), .ref (ad 19), .ref (ad 2), .int (nI (sN S 12)), .int (nI (sN S 13)), .int (nI (sN S 14)), .int (sI S 3 7), .int (nI (sN S 15)), .int (sI S 3 9), .int (sI S 3 10), .int (sI S 3 11)])) := hR1.k 3 (by decide)
      have h2 : zhs Z1 (ad 2) (.inr (2, [.ref (ad 16), .int (nI (sN S 9)), .int (nI (sN S 10)), .int (nI (sN S 11))])) := hR1.k 2 (by decide)
      have h16 : zhs Z1 (ad 16) (xc w 160 (sI S 16)) := hR1.k 16 (by decide)
      refine g_aload_nq d_Rd_takeWord_57 rfl 0 rfl ?_
      refine g_callV d_Rd_takeWord_58 k_Rd_takeOpening l_Rd_101 i_Rd_takeOpening rfl p_Rd_takeOpening h3 (by rfl) (by rfl) (Nat.le_of_ble_eq_true rfl) (by decide) (C_Rd_takeOpening hR1 hK hI (fun Z2 hR2 B2 => ⟨_, rfl, ?_⟩))
      first | refine g_if_neB (tgt := 71) d_Rd_takeWord_61 (by decide) (fun h61 => ?_) (fun h61 => ?_) | refine g_if_ne (tgt := 71) d_Rd_takeWord_61 (by decide) (fun h61 => ?_) (fun h61 => ?_)
      · obtain ⟨S2, hs2⟩ := Option.isSome_iff_exists.mp h61
        rw [hs2] at hR2
        rw [hs2, Option.some_or] at hQ
        have hF := hQ Z2 hR2 (B2.trans B1)
        refine g_iconst (v := 1) d_Rd_takeWord_71 rfl ?_
        refine g_goto (tgt := 76) d_Rd_takeWord_72 (by decide) ?_
        refine g_zret d_Rd_takeWord_76 ?_ ?_
        · first | rfl | exact zb_nar _ | exact zb_narc (by assumption)
        · exact hF
      · have hn2 := is_none h61
        rw [hn2] at hR2
        have hR2 : Rep w ad S Z2 := hR2
        rw [hn2, Option.none_or] at hQ
        have h3 : zhs Z2 (ad 3) (.inr (3, [.ref (ad 17), .ref (ad 18), .ref (ad 19), .ref (ad 2), .int (nI (sN S 12)), .int (nI (sN S 13)), .int (nI (sN S 14)), .int (sI S 3 7), .int (nI (sN S 15)), .int (sI S 3 9), .int (sI S 3 10), .int (sI S 3 11)])) := hR2.k 3 (by decide)
        have h2 : zhs Z2 (ad 2) (.inr (2, [.ref (ad 16), .int (nI (sN S 9)), .int (nI (sN S 10)), .int (nI (sN S 11))])) := hR2.k 2 (by decide)
        have h16 : zhs Z2 (ad 16) (xc w 160 (sI S 16)) := hR2.k 16 (by decide)
        refine g_aload_nq d_Rd_takeWord_64 rfl 0 rfl ?_
        refine g_callV d_Rd_takeWord_65 k_Rd_takeTerm l_Rd_104 i_Rd_takeTerm rfl p_Rd_takeTerm h3 (by rfl) (by rfl) (Nat.le_of_ble_eq_true rfl) (by decide) (C_Rd_takeTerm hR2 hK hI (fun Z3 hR3 B3 => ⟨_, rfl, ?_⟩))
        first | refine g_if_eqB (tgt := 75) d_Rd_takeWord_68 (by decide) (fun h68 => ?_) (fun h68 => ?_) | refine g_if_eq (tgt := 75) d_Rd_takeWord_68 (by decide) (fun h68 => ?_) (fun h68 => ?_)
        · have hn3 := is_none h68
          rw [hn3] at hR3 hQ
          have hF := hQ Z3 hR3 (B3.trans (B2.trans B1))
          refine g_iconst (v := 0) d_Rd_takeWord_75 rfl ?_
          refine g_zret d_Rd_takeWord_76 ?_ ?_
          · first | rfl | exact zb_nar _ | exact zb_narc (by assumption)
          · exact hF
        · obtain ⟨S3, hs3⟩ := Option.isSome_iff_exists.mp h68
          rw [hs3] at hR3 hQ
          have hF := hQ Z3 hR3 (B3.trans (B2.trans B1))
          refine g_iconst (v := 1) d_Rd_takeWord_71 rfl ?_
          refine g_goto (tgt := 76) d_Rd_takeWord_72 (by decide) ?_
          refine g_zret d_Rd_takeWord_76 ?_ ?_
          · first | rfl | exact zb_nar _ | exact zb_narc (by assumption)
          · exact hF
  · refine g_tableIn (tgt := 77) d_Rd_takeWord_4 (by decide) (by decide) rfl (by decide) ?_
    rw [if_neg (by decide), if_neg (by decide), if_neg (by decide), if_pos rfl] at hQ
    refine g_aload_nq d_Rd_takeWord_77 rfl 0 rfl ?_
    refine g_callV d_Rd_takeWord_78 k_Rd_takeTerm l_Rd_104 i_Rd_takeTerm rfl p_Rd_takeTerm h3 (by rfl) (by rfl) (Nat.le_of_ble_eq_true rfl) (by decide) (C_Rd_takeTerm hR hK hI (fun Z1 hR1 B1 => ⟨_, rfl, ?_⟩))
    refine g_zret d_Rd_takeWord_81 ?_ ?_
    · first | rfl | exact zb_nar _ | exact zb_narc (by assumption)
    · exact hQ Z1 hR1 B1
  · refine g_tableIn (tgt := 82) d_Rd_takeWord_4 (by decide) (by decide) rfl (by decide) ?_
    rw [if_neg (by decide), if_neg (by decide), if_neg (by decide), if_neg (by decide), if_pos rfl] at hQ
    refine g_aload_nq d_Rd_takeWord_82 rfl 0 rfl ?_
    refine g_callV d_Rd_takeWord_83 k_Rd_takeKind l_Rd_107 i_Rd_takeKind rfl p_Rd_takeKind h3 (by rfl) (by rfl) (Nat.le_of_ble_eq_true rfl) (by decide) (C_Rd_takeKind hR hI (fun Z1 hR1 B1 => ⟨_, rfl, ?_⟩))
    refine g_zret d_Rd_takeWord_86 ?_ ?_
    · first | rfl | exact zb_nar _ | exact zb_narc (by assumption)
    · exact hQ Z1 hR1 B1
