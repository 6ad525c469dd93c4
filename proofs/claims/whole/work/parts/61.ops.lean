/-! Operators and plain terms -/
set_option maxHeartbeats 4000000 in
set_option maxRecDepth 100000 in
theorem C_Rd_operatorOfLetter {w : zC} {Z : zZ} {Q : zR → zZ → Prop} {x : Int32} (hQ : Q (.inl (some (.int (opL x)))) Z) : Cz w (0, 0) y_Rd_operatorOfLetter (Cond.code y_Rd_operatorOfLetter c_Rd_operatorOfLetter 1 r_Rd_operatorOfLetter :: wz) [.int x] Z Q := by
  refine Cz.of (by decide +kernel) (by simp [lg_sl, Value.category]) ?_
  show G _ _ _ _ _ _ _ _ [(0, _)] _ _
  refine g_iload_n d_Rd_operatorOfLetter_0 rfl 0 rfl ?_
  by_cases s1_0 : x = 35
  · subst s1_0
    refine g_lookup (off := 69) (tgt := 70) d_Rd_operatorOfLetter_1 (by decide) (by decide +kernel) (by decide) ?_
    refine g_iconst (v := 5) d_Rd_operatorOfLetter_70 rfl ?_
    refine g_iret d_Rd_operatorOfLetter_71 ?_
    have e9 : opL 35 = 5 := by decide
    rw [e9] at hQ
    exact hQ
  by_cases s1_1 : x = 42
  · subst s1_1
    refine g_lookup (off := 83) (tgt := 84) d_Rd_operatorOfLetter_1 (by decide) (by decide +kernel) (by decide) ?_
    refine g_bipush (v := 12) d_Rd_operatorOfLetter_84 rfl ?_
    refine g_iret d_Rd_operatorOfLetter_86 ?_
    have e9 : opL 42 = 12 := by decide
    rw [e9] at hQ
    exact hQ
  by_cases s1_2 : x = 43
  · subst s1_2
    refine g_lookup (off := 77) (tgt := 78) d_Rd_operatorOfLetter_1 (by decide) (by decide +kernel) (by decide) ?_
    refine g_bipush (v := 10) d_Rd_operatorOfLetter_78 rfl ?_
    refine g_iret d_Rd_operatorOfLetter_80 ?_
    have e9 : opL 43 = 10 := by decide
    rw [e9] at hQ
    exact hQ
  by_cases s1_3 : x = 45
  · subst s1_3
    refine g_lookup (off := 80) (tgt := 81) d_Rd_operatorOfLetter_1 (by decide) (by decide +kernel) (by decide) ?_
    refine g_bipush (v := 11) d_Rd_operatorOfLetter_81 rfl ?_
    refine g_iret d_Rd_operatorOfLetter_83 ?_
    have e9 : opL 45 = 11 := by decide
    rw [e9] at hQ
    exact hQ
  by_cases s1_4 : x = 60
  · subst s1_4
    refine g_lookup (off := 71) (tgt := 72) d_Rd_operatorOfLetter_1 (by decide) (by decide +kernel) (by decide) ?_
    refine g_bipush (v := 6) d_Rd_operatorOfLetter_72 rfl ?_
    refine g_iret d_Rd_operatorOfLetter_74 ?_
    have e9 : opL 60 = 6 := by decide
    rw [e9] at hQ
    exact hQ
  by_cases s1_5 : x = 61
  · subst s1_5
    refine g_lookup (off := 67) (tgt := 68) d_Rd_operatorOfLetter_1 (by decide) (by decide +kernel) (by decide) ?_
    refine g_iconst (v := 4) d_Rd_operatorOfLetter_68 rfl ?_
    refine g_iret d_Rd_operatorOfLetter_69 ?_
    have e9 : opL 61 = 4 := by decide
    rw [e9] at hQ
    exact hQ
  by_cases s1_6 : x = 62
  · subst s1_6
    refine g_lookup (off := 74) (tgt := 75) d_Rd_operatorOfLetter_1 (by decide) (by decide +kernel) (by decide) ?_
    refine g_bipush (v := 7) d_Rd_operatorOfLetter_75 rfl ?_
    refine g_iret d_Rd_operatorOfLetter_77 ?_
    have e9 : opL 62 = 7 := by decide
    rw [e9] at hQ
    exact hQ
  refine g_lookup (off := 86) (tgt := 87) d_Rd_operatorOfLetter_1 (by decide) (by show Op.lookupswitch.offset [(35, 69), (42, 83), (43, 77), (45, 80), (60, 71), (61, 67), (62, 74)] 86 (x).toInt = 86; rw [lv_osw s1_0 (a := 35) (by decide), lv_osw s1_1 (a := 42) (by decide), lv_osw s1_2 (a := 43) (by decide), lv_osw s1_3 (a := 45) (by decide), lv_osw s1_4 (a := 60) (by decide), lv_osw s1_5 (a := 61) (by decide), lv_osw s1_6 (a := 62) (by decide)]; rfl) (by decide) ?_
  refine g_iconst (v := (-1)) d_Rd_operatorOfLetter_87 rfl ?_
  refine g_iret d_Rd_operatorOfLetter_88 ?_
  rw [opL, if_neg s1_0, if_neg s1_1, if_neg s1_2, if_neg s1_3, if_neg s1_4, if_neg s1_5, if_neg s1_6] at hQ
  exact hQ

set_option maxHeartbeats 4000000 in
set_option maxRecDepth 100000 in
theorem C_Rd_operatorOfWord {w : zC} {Z : zZ} {Q : zR → zZ → Prop} {ad : Nat → Nat} {S : ST} (hR : Rep w ad S Z) {adK adV : Nat → Nat} (hK : zLit w adK adV) (hI : rdI S) (hQ : Q (.inl (some (.int (opW S)))) Z) : Cz w (5, 107) y_Rd_operatorOfWord (Cond.code y_Rd_operatorOfWord c_Rd_operatorOfWord 1 r_Rd_operatorOfWord :: wz) [.ref (ad 3)] Z Q := by
  refine Cz.of (by decide +kernel) (by simp [lg_sl, Value.category]) ?_
  show G _ _ _ _ _ _ _ _ [(0, _)] _ _
  have h3 : zhs Z (ad 3) (.inr (3, [.ref (ad 17), .ref (ad 18), .ref (ad 19), .ref (ad 2), .int (nI (sN S 12)), .int (nI (sN S 13)), .int (nI (sN S 14)), .int (sI S 3 7), .int (nI (sN S 15)), .int (sI S 3 9), .int (sI S 3 10), .int (sI S 3 11)])) := hR.k 3 (by decide)
  have h2 : zhs Z (ad 2) (.inr (2, [.ref (ad 16), .int (nI (sN S 9)), .int (nI (sN S 10)), .int (nI (sN S 11))])) := hR.k 2 (by decide)
  have h16 : zhs Z (ad 16) (xc w 160 (sI S 16)) := hR.k 16 (by decide)
  refine g_aload_nq d_Rd_operatorOfWord_0 rfl 0 rfl ?_
  refine g_get d_Rd_operatorOfWord_1 f_Rd_24_Rd (by assumption) (by first | rfl | assumption) ?_
  refine g_callV d_Rd_operatorOfWord_4 k_Tx_wordLength l_Rd_158 i_Tx_wordLength rfl q_Tx_Tx_wordLength_Tx h2 (by rfl) (by rfl) (Nat.le_of_ble_eq_true rfl) (by decide) (C_Tx_wordLength h2 ⟨_, rfl, ?_⟩)
  rw [nI_sub hI.2.1]
  refine g_iconst (v := 1) d_Rd_operatorOfWord_7 rfl ?_
  refine g_icmp_ne (tgt := 23) d_Rd_operatorOfWord_8 (by decide) (fun h8 => ?_) (fun h8 => ?_)
  · rw [opW, if_neg (show ¬ wl S = 1 from h8)] at hQ
    refine g_aload_nq d_Rd_operatorOfWord_23 rfl 0 rfl ?_
    refine g_get d_Rd_operatorOfWord_24 f_Rd_24_Rd (by assumption) (by first | rfl | assumption) ?_
    refine g_ldcS hK zl_22 d_Rd_operatorOfWord_27 ?_
    refine g_callV d_Rd_operatorOfWord_29 k_Tx_wordIs l_Rd_118 i_Tx_wordIs rfl q_Tx_Tx_wordIs_Tx h2 (by rfl) (by rfl) (Nat.le_of_ble_eq_true rfl) (by decide) (C_Tx_wordIs h2 h16 hI.1 hI.2.1 hI.2.2.1 hI.2.2.2.1 hK zl_22 ⟨_, rfl, ?_⟩)
    first | refine g_if_eqB (tgt := 37) d_Rd_operatorOfWord_32 (by decide) (fun h32 => ?_) (fun h32 => ?_) | refine g_if_eq (tgt := 37) d_Rd_operatorOfWord_32 (by decide) (fun h32 => ?_) (fun h32 => ?_)
    · rw [if_neg h32] at hQ
      refine g_aload_nq d_Rd_operatorOfWord_37 rfl 0 rfl ?_
      refine g_get d_Rd_operatorOfWord_38 f_Rd_24_Rd (by assumption) (by first | rfl | assumption) ?_
      refine g_ldcS hK zl_23 d_Rd_operatorOfWord_41 ?_
      refine g_callV d_Rd_operatorOfWord_43 k_Tx_wordIs l_Rd_118 i_Tx_wordIs rfl q_Tx_Tx_wordIs_Tx h2 (by rfl) (by rfl) (Nat.le_of_ble_eq_true rfl) (by decide) (C_Tx_wordIs h2 h16 hI.1 hI.2.1 hI.2.2.1 hI.2.2.2.1 hK zl_23 ⟨_, rfl, ?_⟩)
      first | refine g_if_eqB (tgt := 51) d_Rd_operatorOfWord_46 (by decide) (fun h46 => ?_) (fun h46 => ?_) | refine g_if_eq (tgt := 51) d_Rd_operatorOfWord_46 (by decide) (fun h46 => ?_) (fun h46 => ?_)
      · rw [if_neg h46] at hQ
        refine g_aload_nq d_Rd_operatorOfWord_51 rfl 0 rfl ?_
        refine g_get d_Rd_operatorOfWord_52 f_Rd_24_Rd (by assumption) (by first | rfl | assumption) ?_
        refine g_ldcS hK zl_24 d_Rd_operatorOfWord_55 ?_
        refine g_callV d_Rd_operatorOfWord_57 k_Tx_wordIs l_Rd_118 i_Tx_wordIs rfl q_Tx_Tx_wordIs_Tx h2 (by rfl) (by rfl) (Nat.le_of_ble_eq_true rfl) (by decide) (C_Tx_wordIs h2 h16 hI.1 hI.2.1 hI.2.2.1 hI.2.2.2.1 hK zl_24 ⟨_, rfl, ?_⟩)
        first | refine g_if_eqB (tgt := 66) d_Rd_operatorOfWord_60 (by decide) (fun h60 => ?_) (fun h60 => ?_) | refine g_if_eq (tgt := 66) d_Rd_operatorOfWord_60 (by decide) (fun h60 => ?_) (fun h60 => ?_)
        · rw [if_neg h60] at hQ
          refine g_aload_nq d_Rd_operatorOfWord_66 rfl 0 rfl ?_
          refine g_get d_Rd_operatorOfWord_67 f_Rd_24_Rd (by assumption) (by first | rfl | assumption) ?_
          refine g_ldcS hK zl_25 d_Rd_operatorOfWord_70 ?_
          refine g_callV d_Rd_operatorOfWord_72 k_Tx_wordIs l_Rd_118 i_Tx_wordIs rfl q_Tx_Tx_wordIs_Tx h2 (by rfl) (by rfl) (Nat.le_of_ble_eq_true rfl) (by decide) (C_Tx_wordIs h2 h16 hI.1 hI.2.1 hI.2.2.1 hI.2.2.2.1 hK zl_25 ⟨_, rfl, ?_⟩)
          first | refine g_if_eqB (tgt := 83) d_Rd_operatorOfWord_75 (by decide) (fun h75 => ?_) (fun h75 => ?_) | refine g_if_eq (tgt := 83) d_Rd_operatorOfWord_75 (by decide) (fun h75 => ?_) (fun h75 => ?_)
          · rw [if_neg h75] at hQ
            refine g_iconst (v := (-1)) d_Rd_operatorOfWord_83 rfl ?_
            refine g_iret d_Rd_operatorOfWord_84 ?_
            exact hQ
          · rw [if_pos h75] at hQ
            refine g_bipush (v := 9) d_Rd_operatorOfWord_78 rfl ?_
            refine g_goto (tgt := 84) d_Rd_operatorOfWord_80 (by decide) ?_
            refine g_iret d_Rd_operatorOfWord_84 ?_
            exact hQ
        · rw [if_pos h60] at hQ
          refine g_bipush (v := 8) d_Rd_operatorOfWord_63 rfl ?_
          refine g_iret d_Rd_operatorOfWord_65 ?_
          exact hQ
      · rw [if_pos h46] at hQ
        refine g_iconst (v := 2) d_Rd_operatorOfWord_49 rfl ?_
        refine g_iret d_Rd_operatorOfWord_50 ?_
        exact hQ
    · rw [if_pos h32] at hQ
      refine g_iconst (v := 1) d_Rd_operatorOfWord_35 rfl ?_
      refine g_iret d_Rd_operatorOfWord_36 ?_
      exact hQ
  · rw [opW, if_pos (show wl S = 1 from h8)] at hQ
    refine g_aload_nq d_Rd_operatorOfWord_11 rfl 0 rfl ?_
    refine g_get d_Rd_operatorOfWord_12 f_Rd_24_Rd (by assumption) (by first | rfl | assumption) ?_
    refine g_iconst (v := 0) d_Rd_operatorOfWord_15 rfl ?_
    refine g_callV d_Rd_operatorOfWord_16 k_Tx_letterOfWord l_Rd_165 i_Tx_letterOfWord rfl q_Tx_Tx_letterOfWord_Tx h2 (by rfl) (by rfl) (Nat.le_of_ble_eq_true rfl) (by decide) (C_Tx_letterOfWord (i := 0) h2 h16 hI.1 hI.2.2.1 (by have := hI.1; have := hI.2.1; have := hI.2.2.1; omega) hI.2.2.2.1 ⟨_, rfl, ?_⟩)
    refine g_callS d_Rd_operatorOfWord_19 k_Rd_operatorOfLetter l_Rd_196 s_Rd_operatorOfLetter (by rfl) (by rfl) (Nat.le_of_ble_eq_true rfl) (by decide) (C_Rd_operatorOfLetter ⟨_, rfl, ?_⟩)
    refine g_iret d_Rd_operatorOfWord_22 ?_
    exact hQ

set_option maxHeartbeats 4000000 in
set_option maxRecDepth 100000 in
theorem C_Rd_plainTerm {w : zC} {Z : zZ} {Q : zR → zZ → Prop} {ad : Nat → Nat} {S : ST} (hR : Rep w ad S Z) {adK adV : Nat → Nat} (hK : zLit w adK adV) (hI : rdI S) (hQ : Q (.inl (some (.int (plT S)))) Z) : Cz w (5, 107) y_Rd_plainTerm (Cond.code y_Rd_plainTerm c_Rd_plainTerm 1 r_Rd_plainTerm :: wz) [.ref (ad 3)] Z Q := by
  refine Cz.of (by decide +kernel) (by simp [lg_sl, Value.category]) ?_
  show G _ _ _ _ _ _ _ _ [(0, _)] _ _
  have h3 : zhs Z (ad 3) (.inr (3, [.ref (ad 17), .ref (ad 18), .ref (ad 19), .ref (ad 2), .int (nI (sN S 12)), .int (nI (sN S 13)), .int (nI (sN S 14)), .int (sI S 3 7), .int (nI (sN S 15)), .int (sI S 3 9), .int (sI S 3 10), .int (sI S 3 11)])) := hR.k 3 (by decide)
  have h2 : zhs Z (ad 2) (.inr (2, [.ref (ad 16), .int (nI (sN S 9)), .int (nI (sN S 10)), .int (nI (sN S 11))])) := hR.k 2 (by decide)
  have h16 : zhs Z (ad 16) (xc w 160 (sI S 16)) := hR.k 16 (by decide)
  refine g_aload_nq d_Rd_plainTerm_0 rfl 0 rfl ?_
  refine g_get d_Rd_plainTerm_1 f_Rd_24_Rd (by assumption) (by first | rfl | assumption) ?_
  refine g_ldcS hK zl_18 d_Rd_plainTerm_4 ?_
  refine g_callV d_Rd_plainTerm_6 k_Tx_wordIs l_Rd_118 i_Tx_wordIs rfl q_Tx_Tx_wordIs_Tx h2 (by rfl) (by rfl) (Nat.le_of_ble_eq_true rfl) (by decide) (C_Tx_wordIs h2 h16 hI.1 hI.2.1 hI.2.2.1 hI.2.2.2.1 hK zl_18 ⟨_, rfl, ?_⟩)
  first | refine g_if_eqB (tgt := 15) d_Rd_plainTerm_9 (by decide) (fun h9 => ?_) (fun h9 => ?_) | refine g_if_eq (tgt := 15) d_Rd_plainTerm_9 (by decide) (fun h9 => ?_) (fun h9 => ?_)
  · rw [plT, if_neg h9] at hQ
    refine g_aload_nq d_Rd_plainTerm_15 rfl 0 rfl ?_
    refine g_get d_Rd_plainTerm_16 f_Rd_48_Rd (by assumption) (by first | rfl | assumption) ?_
    refine g_iconst (v := 2) d_Rd_plainTerm_19 rfl ?_
    refine g_icmp_eq (tgt := 38) d_Rd_plainTerm_20 (by decide) (fun h20 => ?_) (fun h20 => ?_)
    · rw [if_neg (fun z => z.1 h20)] at hQ
      refine g_aload_nq d_Rd_plainTerm_38 rfl 0 rfl ?_
      refine g_get d_Rd_plainTerm_39 f_Rd_48_Rd (by assumption) (by first | rfl | assumption) ?_
      refine g_iconst (v := 2) d_Rd_plainTerm_42 rfl ?_
      refine g_icmp_ne (tgt := 61) d_Rd_plainTerm_43 (by decide) (fun h43 => ?_) (fun h43 => ?_)
      · rw [if_neg (fun z => h43 z.1)] at hQ
        refine g_aload_nq d_Rd_plainTerm_61 rfl 0 rfl ?_
        refine g_get d_Rd_plainTerm_62 f_Rd_48_Rd (by assumption) (by first | rfl | assumption) ?_
        first | refine g_if_eqB (tgt := 85) d_Rd_plainTerm_65 (by decide) (fun h65 => ?_) (fun h65 => ?_) | refine g_if_eq (tgt := 85) d_Rd_plainTerm_65 (by decide) (fun h65 => ?_) (fun h65 => ?_)
        · rw [if_neg (fun z => z.1 h65)] at hQ
          refine g_iconst (v := (-1)) d_Rd_plainTerm_85 rfl ?_
          refine g_iret d_Rd_plainTerm_86 ?_
          exact hQ
        · refine g_aload_nq d_Rd_plainTerm_68 rfl 0 rfl ?_
          refine g_get d_Rd_plainTerm_69 f_Rd_24_Rd (by assumption) (by first | rfl | assumption) ?_
          refine g_ldcS hK zl_21 d_Rd_plainTerm_72 ?_
          refine g_callV d_Rd_plainTerm_74 k_Tx_wordIs l_Rd_118 i_Tx_wordIs rfl q_Tx_Tx_wordIs_Tx h2 (by rfl) (by rfl) (Nat.le_of_ble_eq_true rfl) (by decide) (C_Tx_wordIs h2 h16 hI.1 hI.2.1 hI.2.2.1 hI.2.2.2.1 hK zl_21 ⟨_, rfl, ?_⟩)
          first | refine g_if_eqB (tgt := 85) d_Rd_plainTerm_77 (by decide) (fun h77 => ?_) (fun h77 => ?_) | refine g_if_eq (tgt := 85) d_Rd_plainTerm_77 (by decide) (fun h77 => ?_) (fun h77 => ?_)
          · rw [if_neg (fun z => h77 z.2)] at hQ
            refine g_iconst (v := (-1)) d_Rd_plainTerm_85 rfl ?_
            refine g_iret d_Rd_plainTerm_86 ?_
            exact hQ
          · rw [if_pos ⟨h65, h77⟩] at hQ
            refine g_bipush (v := 17) d_Rd_plainTerm_80 rfl ?_
            refine g_goto (tgt := 86) d_Rd_plainTerm_82 (by decide) ?_
            refine g_iret d_Rd_plainTerm_86 ?_
            exact hQ
      · refine g_aload_nq d_Rd_plainTerm_46 rfl 0 rfl ?_
        refine g_get d_Rd_plainTerm_47 f_Rd_24_Rd (by assumption) (by first | rfl | assumption) ?_
        refine g_ldcS hK zl_20 d_Rd_plainTerm_50 ?_
        refine g_callV d_Rd_plainTerm_52 k_Tx_wordIs l_Rd_118 i_Tx_wordIs rfl q_Tx_Tx_wordIs_Tx h2 (by rfl) (by rfl) (Nat.le_of_ble_eq_true rfl) (by decide) (C_Tx_wordIs h2 h16 hI.1 hI.2.1 hI.2.2.1 hI.2.2.2.1 hK zl_20 ⟨_, rfl, ?_⟩)
        first | refine g_if_eqB (tgt := 61) d_Rd_plainTerm_55 (by decide) (fun h55 => ?_) (fun h55 => ?_) | refine g_if_eq (tgt := 61) d_Rd_plainTerm_55 (by decide) (fun h55 => ?_) (fun h55 => ?_)
        · rw [if_neg (fun z => h55 z.2)] at hQ
          refine g_aload_nq d_Rd_plainTerm_61 rfl 0 rfl ?_
          refine g_get d_Rd_plainTerm_62 f_Rd_48_Rd (by assumption) (by first | rfl | assumption) ?_
          first | refine g_if_eqB (tgt := 85) d_Rd_plainTerm_65 (by decide) (fun h65 => ?_) (fun h65 => ?_) | refine g_if_eq (tgt := 85) d_Rd_plainTerm_65 (by decide) (fun h65 => ?_) (fun h65 => ?_)
          · rw [if_neg (fun z => z.1 h65)] at hQ
            refine g_iconst (v := (-1)) d_Rd_plainTerm_85 rfl ?_
            refine g_iret d_Rd_plainTerm_86 ?_
            exact hQ
          · refine g_aload_nq d_Rd_plainTerm_68 rfl 0 rfl ?_
            refine g_get d_Rd_plainTerm_69 f_Rd_24_Rd (by assumption) (by first | rfl | assumption) ?_
            refine g_ldcS hK zl_21 d_Rd_plainTerm_72 ?_
            refine g_callV d_Rd_plainTerm_74 k_Tx_wordIs l_Rd_118 i_Tx_wordIs rfl q_Tx_Tx_wordIs_Tx h2 (by rfl) (by rfl) (Nat.le_of_ble_eq_true rfl) (by decide) (C_Tx_wordIs h2 h16 hI.1 hI.2.1 hI.2.2.1 hI.2.2.2.1 hK zl_21 ⟨_, rfl, ?_⟩)
            first | refine g_if_eqB (tgt := 85) d_Rd_plainTerm_77 (by decide) (fun h77 => ?_) (fun h77 => ?_) | refine g_if_eq (tgt := 85) d_Rd_plainTerm_77 (by decide) (fun h77 => ?_) (fun h77 => ?_)
            · rw [if_neg (fun z => h77 z.2)] at hQ
              refine g_iconst (v := (-1)) d_Rd_plainTerm_85 rfl ?_
              refine g_iret d_Rd_plainTerm_86 ?_
              exact hQ
            · rw [if_pos ⟨h65, h77⟩] at hQ
              refine g_bipush (v := 17) d_Rd_plainTerm_80 rfl ?_
              refine g_goto (tgt := 86) d_Rd_plainTerm_82 (by decide) ?_
              refine g_iret d_Rd_plainTerm_86 ?_
              exact hQ
        · rw [if_pos ⟨h43, h55⟩] at hQ
          refine g_bipush (v := 16) d_Rd_plainTerm_58 rfl ?_
          refine g_iret d_Rd_plainTerm_60 ?_
          exact hQ
    · refine g_aload_nq d_Rd_plainTerm_23 rfl 0 rfl ?_
      refine g_get d_Rd_plainTerm_24 f_Rd_24_Rd (by assumption) (by first | rfl | assumption) ?_
      refine g_ldcS hK zl_19 d_Rd_plainTerm_27 ?_
      refine g_callV d_Rd_plainTerm_29 k_Tx_wordIs l_Rd_118 i_Tx_wordIs rfl q_Tx_Tx_wordIs_Tx h2 (by rfl) (by rfl) (Nat.le_of_ble_eq_true rfl) (by decide) (C_Tx_wordIs h2 h16 hI.1 hI.2.1 hI.2.2.1 hI.2.2.2.1 hK zl_19 ⟨_, rfl, ?_⟩)
      first | refine g_if_eqB (tgt := 38) d_Rd_plainTerm_32 (by decide) (fun h32 => ?_) (fun h32 => ?_) | refine g_if_eq (tgt := 38) d_Rd_plainTerm_32 (by decide) (fun h32 => ?_) (fun h32 => ?_)
      · rw [if_neg (fun z => h32 z.2)] at hQ
        refine g_aload_nq d_Rd_plainTerm_38 rfl 0 rfl ?_
        refine g_get d_Rd_plainTerm_39 f_Rd_48_Rd (by assumption) (by first | rfl | assumption) ?_
        refine g_iconst (v := 2) d_Rd_plainTerm_42 rfl ?_
        refine g_icmp_ne (tgt := 61) d_Rd_plainTerm_43 (by decide) (fun h43 => ?_) (fun h43 => ?_)
        · rw [if_neg (fun z => h43 z.1)] at hQ
          refine g_aload_nq d_Rd_plainTerm_61 rfl 0 rfl ?_
          refine g_get d_Rd_plainTerm_62 f_Rd_48_Rd (by assumption) (by first | rfl | assumption) ?_
          first | refine g_if_eqB (tgt := 85) d_Rd_plainTerm_65 (by decide) (fun h65 => ?_) (fun h65 => ?_) | refine g_if_eq (tgt := 85) d_Rd_plainTerm_65 (by decide) (fun h65 => ?_) (fun h65 => ?_)
          · rw [if_neg (fun z => z.1 h65)] at hQ
            refine g_iconst (v := (-1)) d_Rd_plainTerm_85 rfl ?_
            refine g_iret d_Rd_plainTerm_86 ?_
            exact hQ
          · refine g_aload_nq d_Rd_plainTerm_68 rfl 0 rfl ?_
            refine g_get d_Rd_plainTerm_69 f_Rd_24_Rd (by assumption) (by first | rfl | assumption) ?_
            refine g_ldcS hK zl_21 d_Rd_plainTerm_72 ?_
            refine g_callV d_Rd_plainTerm_74 k_Tx_wordIs l_Rd_118 i_Tx_wordIs rfl q_Tx_Tx_wordIs_Tx h2 (by rfl) (by rfl) (Nat.le_of_ble_eq_true rfl) (by decide) (C_Tx_wordIs h2 h16 hI.1 hI.2.1 hI.2.2.1 hI.2.2.2.1 hK zl_21 ⟨_, rfl, ?_⟩)
            first | refine g_if_eqB (tgt := 85) d_Rd_plainTerm_77 (by decide) (fun h77 => ?_) (fun h77 => ?_) | refine g_if_eq (tgt := 85) d_Rd_plainTerm_77 (by decide) (fun h77 => ?_) (fun h77 => ?_)
            · rw [if_neg (fun z => h77 z.2)] at hQ
              refine g_iconst (v := (-1)) d_Rd_plainTerm_85 rfl ?_
              refine g_iret d_Rd_plainTerm_86 ?_
              exact hQ
            · rw [if_pos ⟨h65, h77⟩] at hQ
              refine g_bipush (v := 17) d_Rd_plainTerm_80 rfl ?_
              refine g_goto (tgt := 86) d_Rd_plainTerm_82 (by decide) ?_
              refine g_iret d_Rd_plainTerm_86 ?_
              exact hQ
        · refine g_aload_nq d_Rd_plainTerm_46 rfl 0 rfl ?_
          refine g_get d_Rd_plainTerm_47 f_Rd_24_Rd (by assumption) (by first | rfl | assumption) ?_
          refine g_ldcS hK zl_20 d_Rd_plainTerm_50 ?_
          refine g_callV d_Rd_plainTerm_52 k_Tx_wordIs l_Rd_118 i_Tx_wordIs rfl q_Tx_Tx_wordIs_Tx h2 (by rfl) (by rfl) (Nat.le_of_ble_eq_true rfl) (by decide) (C_Tx_wordIs h2 h16 hI.1 hI.2.1 hI.2.2.1 hI.2.2.2.1 hK zl_20 ⟨_, rfl, ?_⟩)
          first | refine g_if_eqB (tgt := 61) d_Rd_plainTerm_55 (by decide) (fun h55 => ?_) (fun h55 => ?_) | refine g_if_eq (tgt := 61) d_Rd_plainTerm_55 (by decide) (fun h55 => ?_) (fun h55 => ?_)
          · rw [if_neg (fun z => h55 z.2)] at hQ
            refine g_aload_nq d_Rd_plainTerm_61 rfl 0 rfl ?_
            refine g_get d_Rd_plainTerm_62 f_Rd_48_Rd (by assumption) (by first | rfl | assumption) ?_
            first | refine g_if_eqB (tgt := 85) d_Rd_plainTerm_65 (by decide) (fun h65 => ?_) (fun h65 => ?_) | refine g_if_eq (tgt := 85) d_Rd_plainTerm_65 (by decide) (fun h65 => ?_) (fun h65 => ?_)
            · rw [if_neg (fun z => z.1 h65)] at hQ
              refine g_iconst (v := (-1)) d_Rd_plainTerm_85 rfl ?_
              refine g_iret d_Rd_plainTerm_86 ?_
              exact hQ
            · refine g_aload_nq d_Rd_plainTerm_68 rfl 0 rfl ?_
              refine g_get d_Rd_plainTerm_69 f_Rd_24_Rd (by assumption) (by first | rfl | assumption) ?_
              refine g_ldcS hK zl_21 d_Rd_plainTerm_72 ?_
              refine g_callV d_Rd_plainTerm_74 k_Tx_wordIs l_Rd_118 i_Tx_wordIs rfl q_Tx_Tx_wordIs_Tx h2 (by rfl) (by rfl) (Nat.le_of_ble_eq_true rfl) (by decide) (C_Tx_wordIs h2 h16 hI.1 hI.2.1 hI.2.2.1 hI.2.2.2.1 hK zl_21 ⟨_, rfl, ?_⟩)
              first | refine g_if_eqB (tgt := 85) d_Rd_plainTerm_77 (by decide) (fun h77 => ?_) (fun h77 => ?_) | refine g_if_eq (tgt := 85) d_Rd_plainTerm_77 (by decide) (fun h77 => ?_) (fun h77 => ?_)
              · rw [if_neg (fun z => h77 z.2)] at hQ
                refine g_iconst (v := (-1)) d_Rd_plainTerm_85 rfl ?_
                refine g_iret d_Rd_plainTerm_86 ?_
                exact hQ
              · rw [if_pos ⟨h65, h77⟩] at hQ
                refine g_bipush (v := 17) d_Rd_plainTerm_80 rfl ?_
                refine g_goto (tgt := 86) d_Rd_plainTerm_82 (by decide) ?_
                refine g_iret d_Rd_plainTerm_86 ?_
                exact hQ
          · rw [if_pos ⟨h43, h55⟩] at hQ
            refine g_bipush (v := 16) d_Rd_plainTerm_58 rfl ?_
            refine g_iret d_Rd_plainTerm_60 ?_
            exact hQ
      · rw [if_pos ⟨h20, h32⟩] at hQ
        refine g_bipush (v := 15) d_Rd_plainTerm_35 rfl ?_
        refine g_iret d_Rd_plainTerm_37 ?_
        exact hQ
  · rw [plT, if_pos h9] at hQ
    refine g_bipush (v := 18) d_Rd_plainTerm_12 rfl ?_
    refine g_iret d_Rd_plainTerm_14 ?_
    exact hQ

set_option maxHeartbeats 4000000 in
set_option maxRecDepth 100000 in
theorem C_Rd_takeOperator {w : zC} {Z : zZ} {Q : zR → zZ → Prop} {ad : Nat → Nat} {S : ST} (hR : Rep w ad S Z) {adK adV : Nat → Nat} (hK : zLit w adK adV) (hI : rdI S) (hQ : tkQ w ad S Z Q (tOp S)) : Cz w (6, 127) y_Rd_takeOperator (Cond.code y_Rd_takeOperator c_Rd_takeOperator 2 r_Rd_takeOperator :: wz) [.ref (ad 3)] Z Q := by
  refine Cz.of (by decide +kernel) (by simp [lg_sl, Value.category]) ?_
  show G _ _ _ _ _ _ _ _ [(0, _)] _ _
  have h3 : zhs Z (ad 3) (.inr (3, [.ref (ad 17), .ref (ad 18), .ref (ad 19), .ref (ad 2), .int (nI (sN S 12)), .int (nI (sN S 13)), .int (nI (sN S 14)), .int (sI S 3 7), .int (nI (sN S 15)), .int (sI S 3 9), .int (sI S 3 10), .int (sI S 3 11)])) := hR.k 3 (by decide)
  have h2 : zhs Z (ad 2) (.inr (2, [.ref (ad 16), .int (nI (sN S 9)), .int (nI (sN S 10)), .int (nI (sN S 11))])) := hR.k 2 (by decide)
  have h16 : zhs Z (ad 16) (xc w 160 (sI S 16)) := hR.k 16 (by decide)
  refine g_aload_nq d_Rd_takeOperator_0 rfl 0 rfl ?_
  refine g_callV d_Rd_takeOperator_1 k_Rd_operatorOfWord l_Rd_184 i_Rd_operatorOfWord rfl p_Rd_operatorOfWord h3 (by rfl) (by rfl) (Nat.le_of_ble_eq_true rfl) (by decide) (C_Rd_operatorOfWord hR hK hI ⟨_, rfl, ?_⟩)
  unfold tOp at hQ
  generalize opW S = x at hQ ⊢
  refine g_istore_n d_Rd_takeOperator_4 rfl (by decide) rfl ?_
  show G _ _ _ _ _ _ _ _ [(1, _), (0, _)] _ _
  refine g_iload_n d_Rd_takeOperator_5 rfl 0 rfl ?_
  refine g_callS d_Rd_takeOperator_6 k_Tr_isJoining l_Rd_187 s_Tr_isJoining (by rfl) (by rfl) (Nat.le_of_ble_eq_true rfl) (by decide) (C_Tr_isJoining ⟨_, rfl, ?_⟩)
  first | refine g_if_eqB (tgt := 32) d_Rd_takeOperator_9 (by decide) (fun h9 => ?_) (fun h9 => ?_) | refine g_if_eq (tgt := 32) d_Rd_takeOperator_9 (by decide) (fun h9 => ?_) (fun h9 => ?_)
  · rw [opS, if_neg (fun z : (x = 1 ∨ x = 2) ∧ bhc S => h9 z.1)] at hQ
    refine g_iload_n d_Rd_takeOperator_32 rfl 0 rfl ?_
    refine g_callS d_Rd_takeOperator_33 k_Tr_isSign l_Rd_190 s_Tr_isSign (by rfl) (by rfl) (Nat.le_of_ble_eq_true rfl) (by decide) (C_Tr_isSign ⟨_, rfl, ?_⟩)
    first | refine g_if_eqB (tgt := 67) d_Rd_takeOperator_36 (by decide) (fun h36 => ?_) (fun h36 => ?_) | refine g_if_eq (tgt := 67) d_Rd_takeOperator_36 (by decide) (fun h36 => ?_) (fun h36 => ?_)
    · rw [if_neg (fun z => h36 z.1)] at hQ
      refine g_iload_n d_Rd_takeOperator_67 rfl 0 rfl ?_
      refine g_callS d_Rd_takeOperator_68 k_Tr_isArithmetic l_Rd_193 s_Tr_isArithmetic (by rfl) (by rfl) (Nat.le_of_ble_eq_true rfl) (by decide) (C_Tr_isArithmetic ⟨_, rfl, ?_⟩)
      first | refine g_if_eqB (tgt := 90) d_Rd_takeOperator_71 (by decide) (fun h71 => ?_) (fun h71 => ?_) | refine g_if_eq (tgt := 90) d_Rd_takeOperator_71 (by decide) (fun h71 => ?_) (fun h71 => ?_)
      · rw [if_neg (fun z => h71 z.1)] at hQ
        refine g_iconst (v := 0) d_Rd_takeOperator_90 rfl ?_
        refine g_zret d_Rd_takeOperator_91 ?_ ?_
        · first | rfl | exact zb_nar _ | exact zb_narc (by assumption)
        · exact hQ Z hR rfl
      · refine g_aload_nq d_Rd_takeOperator_74 rfl 1 rfl ?_
        refine g_get d_Rd_takeOperator_75 f_Rd_38_Rd (by assumption) (by first | rfl | assumption) ?_
        refine g_iconst (v := 5) d_Rd_takeOperator_78 rfl ?_
        refine g_icmp_ne (tgt := 90) d_Rd_takeOperator_79 (by decide) (fun h79 => ?_) (fun h79 => ?_)
        · rw [if_neg (fun z => h79 z.2)] at hQ
          refine g_iconst (v := 0) d_Rd_takeOperator_90 rfl ?_
          refine g_zret d_Rd_takeOperator_91 ?_ ?_
          · first | rfl | exact zb_nar _ | exact zb_narc (by assumption)
          · exact hQ Z hR rfl
        · rw [if_pos ⟨h71, h79⟩] at hQ
          refine g_aload_nq d_Rd_takeOperator_82 rfl 1 rfl ?_
          refine g_iconst (v := 3) d_Rd_takeOperator_83 rfl ?_
          refine g_put d_Rd_takeOperator_84 w_Rd_38_Rd (by assumption) (by first | rfl | exact zb_nar _) (by first | rfl | exact zb_fit _ | exact zrf_fit _) (by first | exact Nat.le_of_ble_eq_true rfl | omega) ?_
          have hR2 := hR.put3 7 (3)
          generalize e2 : zput _ _ _ = Z2
          have hR2 : Rep w ad (w3 S 7 (3)) Z2 := by rw [← e2]; exact hR2
          have B2 : Z2.2.2 = Z.2.2 := by rw [← e2]; rfl
          generalize f2 : w3 S 7 (3) = S2 at hR2 hQ
          have h3 : zhs Z2 (ad 3) (.inr (3, [.ref (ad 17), .ref (ad 18), .ref (ad 19), .ref (ad 2), .int (nI (sN S2 12)), .int (nI (sN S2 13)), .int (nI (sN S2 14)), .int (sI S2 3 7), .int (nI (sN S2 15)), .int (sI S2 3 9), .int (sI S2 3 10), .int (sI S2 3 11)])) := hR2.k 3 (by decide)
          have T2 : rdC S S2 := by rw [← f2]; exact rdC.w3
          have N12 : sN S2 12 = sN S 12 := by rw [← f2]; rfl
          have N13 : sN S2 13 = sN S 13 := by rw [← f2]; rfl
          refine g_goto (tgt := 92) d_Rd_takeOperator_87 (by decide) ?_
          refine g_aload_nq d_Rd_takeOperator_92 rfl 1 rfl ?_
          refine g_iload_n d_Rd_takeOperator_93 rfl 0 rfl ?_
          refine g_callV d_Rd_takeOperator_94 k_Rd_putOutDownTo l_Rd_76 i_Rd_putOutDownTo rfl p_Rd_putOutDownTo h3 (by rfl) (by rfl) (Nat.le_of_ble_eq_true rfl) (by decide) (C_Rd_putOutDownTo hR2 (hI.2.2.2.2.1.eqT T2.eqT) (by rw [N12]; exact hI.2.2.2.2.2.1) (by rw [N13]; exact hI.2.2.2.2.2.2.1) (fun Z3 hR3 B3 => ⟨_, rfl, ?_⟩))
          refine g_aload_nq d_Rd_takeOperator_97 rfl 1 rfl ?_
          refine g_iload_n d_Rd_takeOperator_98 rfl 0 rfl ?_
          have h3 : zhs Z3 (ad 3) (.inr (3, [.ref (ad 17), .ref (ad 18), .ref (ad 19), .ref (ad 2), .int (nI (sN (podF x (sN S2 13) S2) 12)), .int (nI (sN (podF x (sN S2 13) S2) 13)), .int (nI (sN (podF x (sN S2 13) S2) 14)), .int (sI (podF x (sN S2 13) S2) 3 7), .int (nI (sN (podF x (sN S2 13) S2) 15)), .int (sI (podF x (sN S2 13) S2) 3 9), .int (sI (podF x (sN S2 13) S2) 3 10), .int (sI (podF x (sN S2 13) S2) 3 11)])) := hR3.k 3 (by decide)
          refine g_callV d_Rd_takeOperator_99 k_Rd_putOff l_Rd_132 i_Rd_putOff rfl p_Rd_putOff h3 (by rfl) (by rfl) (Nat.le_of_ble_eq_true rfl) (by decide) (C_Rd_putOff' hR3 (hI.2.2.2.2.1.eqT (T2.tr rdC.pod).eqT) (Nat.le_trans (podF_13 rfl) (by rw [N13]; exact hI.2.2.2.2.2.2.1)) (fun Z4 hR4 B4 => ⟨_, rfl, ?_⟩))
          refine g_iconst (v := 1) d_Rd_takeOperator_102 rfl ?_
          refine g_zret d_Rd_takeOperator_103 ?_ ?_
          · first | rfl | exact zb_nar _ | exact zb_narc (by assumption)
          · exact hQ Z4 hR4 (B4.trans (B3.trans B2))
    · refine g_aload_nq d_Rd_takeOperator_39 rfl 1 rfl ?_
      refine g_get d_Rd_takeOperator_40 f_Rd_38_Rd (by assumption) (by first | rfl | assumption) ?_
      refine g_iconst (v := 5) d_Rd_takeOperator_43 rfl ?_
      refine g_icmp_ne (tgt := 67) d_Rd_takeOperator_44 (by decide) (fun h44 => ?_) (fun h44 => ?_)
      · rw [if_neg (fun z => h44 z.2.1)] at hQ
        refine g_iload_n d_Rd_takeOperator_67 rfl 0 rfl ?_
        refine g_callS d_Rd_takeOperator_68 k_Tr_isArithmetic l_Rd_193 s_Tr_isArithmetic (by rfl) (by rfl) (Nat.le_of_ble_eq_true rfl) (by decide) (C_Tr_isArithmetic ⟨_, rfl, ?_⟩)
        first | refine g_if_eqB (tgt := 90) d_Rd_takeOperator_71 (by decide) (fun h71 => ?_) (fun h71 => ?_) | refine g_if_eq (tgt := 90) d_Rd_takeOperator_71 (by decide) (fun h71 => ?_) (fun h71 => ?_)
        · rw [if_neg (fun z => h71 z.1)] at hQ
          refine g_iconst (v := 0) d_Rd_takeOperator_90 rfl ?_
          refine g_zret d_Rd_takeOperator_91 ?_ ?_
          · first | rfl | exact zb_nar _ | exact zb_narc (by assumption)
          · exact hQ Z hR rfl
        · refine g_aload_nq d_Rd_takeOperator_74 rfl 1 rfl ?_
          refine g_get d_Rd_takeOperator_75 f_Rd_38_Rd (by assumption) (by first | rfl | assumption) ?_
          refine g_iconst (v := 5) d_Rd_takeOperator_78 rfl ?_
          refine g_icmp_ne (tgt := 90) d_Rd_takeOperator_79 (by decide) (fun h79 => ?_) (fun h79 => ?_)
          · rw [if_neg (fun z => h79 z.2)] at hQ
            refine g_iconst (v := 0) d_Rd_takeOperator_90 rfl ?_
            refine g_zret d_Rd_takeOperator_91 ?_ ?_
            · first | rfl | exact zb_nar _ | exact zb_narc (by assumption)
            · exact hQ Z hR rfl
          · rw [if_pos ⟨h71, h79⟩] at hQ
            refine g_aload_nq d_Rd_takeOperator_82 rfl 1 rfl ?_
            refine g_iconst (v := 3) d_Rd_takeOperator_83 rfl ?_
            refine g_put d_Rd_takeOperator_84 w_Rd_38_Rd (by assumption) (by first | rfl | exact zb_nar _) (by first | rfl | exact zb_fit _ | exact zrf_fit _) (by first | exact Nat.le_of_ble_eq_true rfl | omega) ?_
            have hR2 := hR.put3 7 (3)
            generalize e2 : zput _ _ _ = Z2
            have hR2 : Rep w ad (w3 S 7 (3)) Z2 := by rw [← e2]; exact hR2
            have B2 : Z2.2.2 = Z.2.2 := by rw [← e2]; rfl
            generalize f2 : w3 S 7 (3) = S2 at hR2 hQ
            have h3 : zhs Z2 (ad 3) (.inr (3, [.ref (ad 17), .ref (ad 18), .ref (ad 19), .ref (ad 2), .int (nI (sN S2 12)), .int (nI (sN S2 13)), .int (nI (sN S2 14)), .int (sI S2 3 7), .int (nI (sN S2 15)), .int (sI S2 3 9), .int (sI S2 3 10), .int (sI S2 3 11)])) := hR2.k 3 (by decide)
            have T2 : rdC S S2 := by rw [← f2]; exact rdC.w3
            have N12 : sN S2 12 = sN S 12 := by rw [← f2]; rfl
            have N13 : sN S2 13 = sN S 13 := by rw [← f2]; rfl
            refine g_goto (tgt := 92) d_Rd_takeOperator_87 (by decide) ?_
            refine g_aload_nq d_Rd_takeOperator_92 rfl 1 rfl ?_
            refine g_iload_n d_Rd_takeOperator_93 rfl 0 rfl ?_
            refine g_callV d_Rd_takeOperator_94 k_Rd_putOutDownTo l_Rd_76 i_Rd_putOutDownTo rfl p_Rd_putOutDownTo h3 (by rfl) (by rfl) (Nat.le_of_ble_eq_true rfl) (by decide) (C_Rd_putOutDownTo hR2 (hI.2.2.2.2.1.eqT T2.eqT) (by rw [N12]; exact hI.2.2.2.2.2.1) (by rw [N13]; exact hI.2.2.2.2.2.2.1) (fun Z3 hR3 B3 => ⟨_, rfl, ?_⟩))
            refine g_aload_nq d_Rd_takeOperator_97 rfl 1 rfl ?_
            refine g_iload_n d_Rd_takeOperator_98 rfl 0 rfl ?_
            have h3 : zhs Z3 (ad 3) (.inr (3, [.ref (ad 17), .ref (ad 18), .ref (ad 19), .ref (ad 2), .int (nI (sN (podF x (sN S2 13) S2) 12)), .int (nI (sN (podF x (sN S2 13) S2) 13)), .int (nI (sN (podF x (sN S2 13) S2) 14)), .int (sI (podF x (sN S2 13) S2) 3 7), .int (nI (sN (podF x (sN S2 13) S2) 15)), .int (sI (podF x (sN S2 13) S2) 3 9), .int (sI (podF x (sN S2 13) S2) 3 10), .int (sI (podF x (sN S2 13) S2) 3 11)])) := hR3.k 3 (by decide)
            refine g_callV d_Rd_takeOperator_99 k_Rd_putOff l_Rd_132 i_Rd_putOff rfl p_Rd_putOff h3 (by rfl) (by rfl) (Nat.le_of_ble_eq_true rfl) (by decide) (C_Rd_putOff' hR3 (hI.2.2.2.2.1.eqT (T2.tr rdC.pod).eqT) (Nat.le_trans (podF_13 rfl) (by rw [N13]; exact hI.2.2.2.2.2.2.1)) (fun Z4 hR4 B4 => ⟨_, rfl, ?_⟩))
            refine g_iconst (v := 1) d_Rd_takeOperator_102 rfl ?_
            refine g_zret d_Rd_takeOperator_103 ?_ ?_
            · first | rfl | exact zb_nar _ | exact zb_narc (by assumption)
            · exact hQ Z4 hR4 (B4.trans (B3.trans B2))
      · refine g_aload_nq d_Rd_takeOperator_47 rfl 1 rfl ?_
        refine g_get d_Rd_takeOperator_48 f_Rd_44_Rd (by assumption) (by first | rfl | assumption) ?_
        first | refine g_if_neB (tgt := 67) d_Rd_takeOperator_51 (by decide) (fun h51 => ?_) (fun h51 => ?_) | refine g_if_ne (tgt := 67) d_Rd_takeOperator_51 (by decide) (fun h51 => ?_) (fun h51 => ?_)
        · rw [if_neg (fun z => h51 z.2.2)] at hQ
          refine g_iload_n d_Rd_takeOperator_67 rfl 0 rfl ?_
          refine g_callS d_Rd_takeOperator_68 k_Tr_isArithmetic l_Rd_193 s_Tr_isArithmetic (by rfl) (by rfl) (Nat.le_of_ble_eq_true rfl) (by decide) (C_Tr_isArithmetic ⟨_, rfl, ?_⟩)
          first | refine g_if_eqB (tgt := 90) d_Rd_takeOperator_71 (by decide) (fun h71 => ?_) (fun h71 => ?_) | refine g_if_eq (tgt := 90) d_Rd_takeOperator_71 (by decide) (fun h71 => ?_) (fun h71 => ?_)
          · rw [if_neg (fun z => h71 z.1)] at hQ
            refine g_iconst (v := 0) d_Rd_takeOperator_90 rfl ?_
            refine g_zret d_Rd_takeOperator_91 ?_ ?_
            · first | rfl | exact zb_nar _ | exact zb_narc (by assumption)
            · exact hQ Z hR rfl
          · refine g_aload_nq d_Rd_takeOperator_74 rfl 1 rfl ?_
            refine g_get d_Rd_takeOperator_75 f_Rd_38_Rd (by assumption) (by first | rfl | assumption) ?_
            refine g_iconst (v := 5) d_Rd_takeOperator_78 rfl ?_
            refine g_icmp_ne (tgt := 90) d_Rd_takeOperator_79 (by decide) (fun h79 => ?_) (fun h79 => ?_)
            · rw [if_neg (fun z => h79 z.2)] at hQ
              refine g_iconst (v := 0) d_Rd_takeOperator_90 rfl ?_
              refine g_zret d_Rd_takeOperator_91 ?_ ?_
              · first | rfl | exact zb_nar _ | exact zb_narc (by assumption)
              · exact hQ Z hR rfl
            · rw [if_pos ⟨h71, h79⟩] at hQ
              refine g_aload_nq d_Rd_takeOperator_82 rfl 1 rfl ?_
              refine g_iconst (v := 3) d_Rd_takeOperator_83 rfl ?_
              refine g_put d_Rd_takeOperator_84 w_Rd_38_Rd (by assumption) (by first | rfl | exact zb_nar _) (by first | rfl | exact zb_fit _ | exact zrf_fit _) (by first | exact Nat.le_of_ble_eq_true rfl | omega) ?_
              have hR2 := hR.put3 7 (3)
              generalize e2 : zput _ _ _ = Z2
              have hR2 : Rep w ad (w3 S 7 (3)) Z2 := by rw [← e2]; exact hR2
              have B2 : Z2.2.2 = Z.2.2 := by rw [← e2]; rfl
              generalize f2 : w3 S 7 (3) = S2 at hR2 hQ
              have h3 : zhs Z2 (ad 3) (.inr (3, [.ref (ad 17), .ref (ad 18), .ref (ad 19), .ref (ad 2), .int (nI (sN S2 12)), .int (nI (sN S2 13)), .int (nI (sN S2 14)), .int (sI S2 3 7), .int (nI (sN S2 15)), .int (sI S2 3 9), .int (sI S2 3 10), .int (sI S2 3 11)])) := hR2.k 3 (by decide)
              have T2 : rdC S S2 := by rw [← f2]; exact rdC.w3
              have N12 : sN S2 12 = sN S 12 := by rw [← f2]; rfl
              have N13 : sN S2 13 = sN S 13 := by rw [← f2]; rfl
              refine g_goto (tgt := 92) d_Rd_takeOperator_87 (by decide) ?_
              refine g_aload_nq d_Rd_takeOperator_92 rfl 1 rfl ?_
              refine g_iload_n d_Rd_takeOperator_93 rfl 0 rfl ?_
              refine g_callV d_Rd_takeOperator_94 k_Rd_putOutDownTo l_Rd_76 i_Rd_putOutDownTo rfl p_Rd_putOutDownTo h3 (by rfl) (by rfl) (Nat.le_of_ble_eq_true rfl) (by decide) (C_Rd_putOutDownTo hR2 (hI.2.2.2.2.1.eqT T2.eqT) (by rw [N12]; exact hI.2.2.2.2.2.1) (by rw [N13]; exact hI.2.2.2.2.2.2.1) (fun Z3 hR3 B3 => ⟨_, rfl, ?_⟩))
              refine g_aload_nq d_Rd_takeOperator_97 rfl 1 rfl ?_
              refine g_iload_n d_Rd_takeOperator_98 rfl 0 rfl ?_
              have h3 : zhs Z3 (ad 3) (.inr (3, [.ref (ad 17), .ref (ad 18), .ref (ad 19), .ref (ad 2), .int (nI (sN (podF x (sN S2 13) S2) 12)), .int (nI (sN (podF x (sN S2 13) S2) 13)), .int (nI (sN (podF x (sN S2 13) S2) 14)), .int (sI (podF x (sN S2 13) S2) 3 7), .int (nI (sN (podF x (sN S2 13) S2) 15)), .int (sI (podF x (sN S2 13) S2) 3 9), .int (sI (podF x (sN S2 13) S2) 3 10), .int (sI (podF x (sN S2 13) S2) 3 11)])) := hR3.k 3 (by decide)
              refine g_callV d_Rd_takeOperator_99 k_Rd_putOff l_Rd_132 i_Rd_putOff rfl p_Rd_putOff h3 (by rfl) (by rfl) (Nat.le_of_ble_eq_true rfl) (by decide) (C_Rd_putOff' hR3 (hI.2.2.2.2.1.eqT (T2.tr rdC.pod).eqT) (Nat.le_trans (podF_13 rfl) (by rw [N13]; exact hI.2.2.2.2.2.2.1)) (fun Z4 hR4 B4 => ⟨_, rfl, ?_⟩))
              refine g_iconst (v := 1) d_Rd_takeOperator_102 rfl ?_
              refine g_zret d_Rd_takeOperator_103 ?_ ?_
              · first | rfl | exact zb_nar _ | exact zb_narc (by assumption)
              · exact hQ Z4 hR4 (B4.trans (B3.trans B2))
        · rw [if_pos ⟨h36, h44, h51⟩] at hQ
          refine g_aload_nq d_Rd_takeOperator_54 rfl 1 rfl ?_
          refine g_iconst (v := 1) d_Rd_takeOperator_55 rfl ?_
          refine g_put d_Rd_takeOperator_56 w_Rd_44_Rd (by assumption) (by first | rfl | exact zb_nar _) (by first | rfl | exact zb_fit _ | exact zrf_fit _) (by first | exact Nat.le_of_ble_eq_true rfl | omega) ?_
          have hR1 := hR.put3 9 (1)
          generalize e1 : zput _ _ _ = Z1
          have hR1 : Rep w ad (w3 S 9 (1)) Z1 := by rw [← e1]; exact hR1
          have B1 : Z1.2.2 = Z.2.2 := by rw [← e1]; rfl
          generalize f1 : w3 S 9 (1) = S1 at hR1 hQ
          have h3 : zhs Z1 (ad 3) (.inr (3, [.ref (ad 17), .ref (ad 18), .ref (ad 19), .ref (ad 2), .int (nI (sN S1 12)), .int (nI (sN S1 13)), .int (nI (sN S1 14)), .int (sI S1 3 7), .int (nI (sN S1 15)), .int (sI S1 3 9), .int (sI S1 3 10), .int (sI S1 3 11)])) := hR1.k 3 (by decide)
          refine g_aload_nq d_Rd_takeOperator_59 rfl 1 rfl ?_
          refine g_iconst (v := 3) d_Rd_takeOperator_60 rfl ?_
          refine g_put d_Rd_takeOperator_61 w_Rd_38_Rd (by assumption) (by first | rfl | exact zb_nar _) (by first | rfl | exact zb_fit _ | exact zrf_fit _) (by first | exact Nat.le_of_ble_eq_true rfl | omega) ?_
          have hR2 := hR1.put3 7 (3)
          generalize e2 : zput _ _ _ = Z2
          have hR2 : Rep w ad (w3 S1 7 (3)) Z2 := by rw [← e2]; exact hR2
          have B2 : Z2.2.2 = Z1.2.2 := by rw [← e2]; rfl
          generalize f2 : w3 S1 7 (3) = S2 at hR2 hQ
          have h3 : zhs Z2 (ad 3) (.inr (3, [.ref (ad 17), .ref (ad 18), .ref (ad 19), .ref (ad 2), .int (nI (sN S2 12)), .int (nI (sN S2 13)), .int (nI (sN S2 14)), .int (sI S2 3 7), .int (nI (sN S2 15)), .int (sI S2 3 9), .int (sI S2 3 10), .int (sI S2 3 11)])) := hR2.k 3 (by decide)
          have T2 : rdC S S2 := by rw [← f2, ← f1]; exact rdC.w3.tr rdC.w3
          have B2 := B2.trans B1
          have N12 : sN S2 12 = sN S 12 := by rw [← f2, ← f1]; rfl
          have N13 : sN S2 13 = sN S 13 := by rw [← f2, ← f1]; rfl
          refine g_goto (tgt := 92) d_Rd_takeOperator_64 (by decide) ?_
          refine g_aload_nq d_Rd_takeOperator_92 rfl 1 rfl ?_
          refine g_iload_n d_Rd_takeOperator_93 rfl 0 rfl ?_
          refine g_callV d_Rd_takeOperator_94 k_Rd_putOutDownTo l_Rd_76 i_Rd_putOutDownTo rfl p_Rd_putOutDownTo h3 (by rfl) (by rfl) (Nat.le_of_ble_eq_true rfl) (by decide) (C_Rd_putOutDownTo hR2 (hI.2.2.2.2.1.eqT T2.eqT) (by rw [N12]; exact hI.2.2.2.2.2.1) (by rw [N13]; exact hI.2.2.2.2.2.2.1) (fun Z3 hR3 B3 => ⟨_, rfl, ?_⟩))
          refine g_aload_nq d_Rd_takeOperator_97 rfl 1 rfl ?_
          refine g_iload_n d_Rd_takeOperator_98 rfl 0 rfl ?_
          have h3 : zhs Z3 (ad 3) (.inr (3, [.ref (ad 17), .ref (ad 18), .ref (ad 19), .ref (ad 2), .int (nI (sN (podF x (sN S2 13) S2) 12)), .int (nI (sN (podF x (sN S2 13) S2) 13)), .int (nI (sN (podF x (sN S2 13) S2) 14)), .int (sI (podF x (sN S2 13) S2) 3 7), .int (nI (sN (podF x (sN S2 13) S2) 15)), .int (sI (podF x (sN S2 13) S2) 3 9), .int (sI (podF x (sN S2 13) S2) 3 10), .int (sI (podF x (sN S2 13) S2) 3 11)])) := hR3.k 3 (by decide)
          refine g_callV d_Rd_takeOperator_99 k_Rd_putOff l_Rd_132 i_Rd_putOff rfl p_Rd_putOff h3 (by rfl) (by rfl) (Nat.le_of_ble_eq_true rfl) (by decide) (C_Rd_putOff' hR3 (hI.2.2.2.2.1.eqT (T2.tr rdC.pod).eqT) (Nat.le_trans (podF_13 rfl) (by rw [N13]; exact hI.2.2.2.2.2.2.1)) (fun Z4 hR4 B4 => ⟨_, rfl, ?_⟩))
          refine g_iconst (v := 1) d_Rd_takeOperator_102 rfl ?_
          refine g_zret d_Rd_takeOperator_103 ?_ ?_
          · first | rfl | exact zb_nar _ | exact zb_narc (by assumption)
          · exact hQ Z4 hR4 (B4.trans (B3.trans B2))
  · refine g_aload_nq d_Rd_takeOperator_12 rfl 1 rfl ?_
    refine g_callV d_Rd_takeOperator_13 k_Rd_isBehindCondition l_Rd_71 i_Rd_isBehindCondition rfl p_Rd_isBehindCondition h3 (by rfl) (by rfl) (Nat.le_of_ble_eq_true rfl) (by decide) (C_Rd_isBehindCondition hR ⟨_, rfl, ?_⟩)
    first | refine g_if_eqB (tgt := 32) d_Rd_takeOperator_16 (by decide) (fun h16 => ?_) (fun h16 => ?_) | refine g_if_eq (tgt := 32) d_Rd_takeOperator_16 (by decide) (fun h16 => ?_) (fun h16 => ?_)
    · rw [opS, if_neg (fun z : (x = 1 ∨ x = 2) ∧ bhc S => h16 z.2)] at hQ
      refine g_iload_n d_Rd_takeOperator_32 rfl 0 rfl ?_
      refine g_callS d_Rd_takeOperator_33 k_Tr_isSign l_Rd_190 s_Tr_isSign (by rfl) (by rfl) (Nat.le_of_ble_eq_true rfl) (by decide) (C_Tr_isSign ⟨_, rfl, ?_⟩)
      first | refine g_if_eqB (tgt := 67) d_Rd_takeOperator_36 (by decide) (fun h36 => ?_) (fun h36 => ?_) | refine g_if_eq (tgt := 67) d_Rd_takeOperator_36 (by decide) (fun h36 => ?_) (fun h36 => ?_)
      · rw [if_neg (fun z => h36 z.1)] at hQ
        refine g_iload_n d_Rd_takeOperator_67 rfl 0 rfl ?_
        refine g_callS d_Rd_takeOperator_68 k_Tr_isArithmetic l_Rd_193 s_Tr_isArithmetic (by rfl) (by rfl) (Nat.le_of_ble_eq_true rfl) (by decide) (C_Tr_isArithmetic ⟨_, rfl, ?_⟩)
        first | refine g_if_eqB (tgt := 90) d_Rd_takeOperator_71 (by decide) (fun h71 => ?_) (fun h71 => ?_) | refine g_if_eq (tgt := 90) d_Rd_takeOperator_71 (by decide) (fun h71 => ?_) (fun h71 => ?_)
        · rw [if_neg (fun z => h71 z.1)] at hQ
          refine g_iconst (v := 0) d_Rd_takeOperator_90 rfl ?_
          refine g_zret d_Rd_takeOperator_91 ?_ ?_
          · first | rfl | exact zb_nar _ | exact zb_narc (by assumption)
          · exact hQ Z hR rfl
        · refine g_aload_nq d_Rd_takeOperator_74 rfl 1 rfl ?_
          refine g_get d_Rd_takeOperator_75 f_Rd_38_Rd (by assumption) (by first | rfl | assumption) ?_
          refine g_iconst (v := 5) d_Rd_takeOperator_78 rfl ?_
          refine g_icmp_ne (tgt := 90) d_Rd_takeOperator_79 (by decide) (fun h79 => ?_) (fun h79 => ?_)
          · rw [if_neg (fun z => h79 z.2)] at hQ
            refine g_iconst (v := 0) d_Rd_takeOperator_90 rfl ?_
            refine g_zret d_Rd_takeOperator_91 ?_ ?_
            · first | rfl | exact zb_nar _ | exact zb_narc (by assumption)
            · exact hQ Z hR rfl
          · rw [if_pos ⟨h71, h79⟩] at hQ
            refine g_aload_nq d_Rd_takeOperator_82 rfl 1 rfl ?_
            refine g_iconst (v := 3) d_Rd_takeOperator_83 rfl ?_
            refine g_put d_Rd_takeOperator_84 w_Rd_38_Rd (by assumption) (by first | rfl | exact zb_nar _) (by first | rfl | exact zb_fit _ | exact zrf_fit _) (by first | exact Nat.le_of_ble_eq_true rfl | omega) ?_
            have hR2 := hR.put3 7 (3)
            generalize e2 : zput _ _ _ = Z2
            have hR2 : Rep w ad (w3 S 7 (3)) Z2 := by rw [← e2]; exact hR2
            have B2 : Z2.2.2 = Z.2.2 := by rw [← e2]; rfl
            generalize f2 : w3 S 7 (3) = S2 at hR2 hQ
            have h3 : zhs Z2 (ad 3) (.inr (3, [.ref (ad 17), .ref (ad 18), .ref (ad 19), .ref (ad 2), .int (nI (sN S2 12)), .int (nI (sN S2 13)), .int (nI (sN S2 14)), .int (sI S2 3 7), .int (nI (sN S2 15)), .int (sI S2 3 9), .int (sI S2 3 10), .int (sI S2 3 11)])) := hR2.k 3 (by decide)
            have T2 : rdC S S2 := by rw [← f2]; exact rdC.w3
            have N12 : sN S2 12 = sN S 12 := by rw [← f2]; rfl
            have N13 : sN S2 13 = sN S 13 := by rw [← f2]; rfl
            refine g_goto (tgt := 92) d_Rd_takeOperator_87 (by decide) ?_
            refine g_aload_nq d_Rd_takeOperator_92 rfl 1 rfl ?_
            refine g_iload_n d_Rd_takeOperator_93 rfl 0 rfl ?_
            refine g_callV d_Rd_takeOperator_94 k_Rd_putOutDownTo l_Rd_76 i_Rd_putOutDownTo rfl p_Rd_putOutDownTo h3 (by rfl) (by rfl) (Nat.le_of_ble_eq_true rfl) (by decide) (C_Rd_putOutDownTo hR2 (hI.2.2.2.2.1.eqT T2.eqT) (by rw [N12]; exact hI.2.2.2.2.2.1) (by rw [N13]; exact hI.2.2.2.2.2.2.1) (fun Z3 hR3 B3 => ⟨_, rfl, ?_⟩))
            refine g_aload_nq d_Rd_takeOperator_97 rfl 1 rfl ?_
            refine g_iload_n d_Rd_takeOperator_98 rfl 0 rfl ?_
            have h3 : zhs Z3 (ad 3) (.inr (3, [.ref (ad 17), .ref (ad 18), .ref (ad 19), .ref (ad 2), .int (nI (sN (podF x (sN S2 13) S2) 12)), .int (nI (sN (podF x (sN S2 13) S2) 13)), .int (nI (sN (podF x (sN S2 13) S2) 14)), .int (sI (podF x (sN S2 13) S2) 3 7), .int (nI (sN (podF x (sN S2 13) S2) 15)), .int (sI (podF x (sN S2 13) S2) 3 9), .int (sI (podF x (sN S2 13) S2) 3 10), .int (sI (podF x (sN S2 13) S2) 3 11)])) := hR3.k 3 (by decide)
            refine g_callV d_Rd_takeOperator_99 k_Rd_putOff l_Rd_132 i_Rd_putOff rfl p_Rd_putOff h3 (by rfl) (by rfl) (Nat.le_of_ble_eq_true rfl) (by decide) (C_Rd_putOff' hR3 (hI.2.2.2.2.1.eqT (T2.tr rdC.pod).eqT) (Nat.le_trans (podF_13 rfl) (by rw [N13]; exact hI.2.2.2.2.2.2.1)) (fun Z4 hR4 B4 => ⟨_, rfl, ?_⟩))
            refine g_iconst (v := 1) d_Rd_takeOperator_102 rfl ?_
            refine g_zret d_Rd_takeOperator_103 ?_ ?_
            · first | rfl | exact zb_nar _ | exact zb_narc (by assumption)
            · exact hQ Z4 hR4 (B4.trans (B3.trans B2))
      · refine g_aload_nq d_Rd_takeOperator_39 rfl 1 rfl ?_
        refine g_get d_Rd_takeOperator_40 f_Rd_38_Rd (by assumption) (by first | rfl | assumption) ?_
        refine g_iconst (v := 5) d_Rd_takeOperator_43 rfl ?_
        refine g_icmp_ne (tgt := 67) d_Rd_takeOperator_44 (by decide) (fun h44 => ?_) (fun h44 => ?_)
        · rw [if_neg (fun z => h44 z.2.1)] at hQ
          refine g_iload_n d_Rd_takeOperator_67 rfl 0 rfl ?_
          refine g_callS d_Rd_takeOperator_68 k_Tr_isArithmetic l_Rd_193 s_Tr_isArithmetic (by rfl) (by rfl) (Nat.le_of_ble_eq_true rfl) (by decide) (C_Tr_isArithmetic ⟨_, rfl, ?_⟩)
          first | refine g_if_eqB (tgt := 90) d_Rd_takeOperator_71 (by decide) (fun h71 => ?_) (fun h71 => ?_) | refine g_if_eq (tgt := 90) d_Rd_takeOperator_71 (by decide) (fun h71 => ?_) (fun h71 => ?_)
          · rw [if_neg (fun z => h71 z.1)] at hQ
            refine g_iconst (v := 0) d_Rd_takeOperator_90 rfl ?_
            refine g_zret d_Rd_takeOperator_91 ?_ ?_
            · first | rfl | exact zb_nar _ | exact zb_narc (by assumption)
            · exact hQ Z hR rfl
          · refine g_aload_nq d_Rd_takeOperator_74 rfl 1 rfl ?_
            refine g_get d_Rd_takeOperator_75 f_Rd_38_Rd (by assumption) (by first | rfl | assumption) ?_
            refine g_iconst (v := 5) d_Rd_takeOperator_78 rfl ?_
            refine g_icmp_ne (tgt := 90) d_Rd_takeOperator_79 (by decide) (fun h79 => ?_) (fun h79 => ?_)
            · rw [if_neg (fun z => h79 z.2)] at hQ
              refine g_iconst (v := 0) d_Rd_takeOperator_90 rfl ?_
              refine g_zret d_Rd_takeOperator_91 ?_ ?_
              · first | rfl | exact zb_nar _ | exact zb_narc (by assumption)
              · exact hQ Z hR rfl
            · rw [if_pos ⟨h71, h79⟩] at hQ
              refine g_aload_nq d_Rd_takeOperator_82 rfl 1 rfl ?_
              refine g_iconst (v := 3) d_Rd_takeOperator_83 rfl ?_
              refine g_put d_Rd_takeOperator_84 w_Rd_38_Rd (by assumption) (by first | rfl | exact zb_nar _) (by first | rfl | exact zb_fit _ | exact zrf_fit _) (by first | exact Nat.le_of_ble_eq_true rfl | omega) ?_
              have hR2 := hR.put3 7 (3)
              generalize e2 : zput _ _ _ = Z2
              have hR2 : Rep w ad (w3 S 7 (3)) Z2 := by rw [← e2]; exact hR2
              have B2 : Z2.2.2 = Z.2.2 := by rw [← e2]; rfl
              generalize f2 : w3 S 7 (3) = S2 at hR2 hQ
              have h3 : zhs Z2 (ad 3) (.inr (3, [.ref (ad 17), .ref (ad 18), .ref (ad 19), .ref (ad 2), .int (nI (sN S2 12)), .int (nI (sN S2 13)), .int (nI (sN S2 14)), .int (sI S2 3 7), .int (nI (sN S2 15)), .int (sI S2 3 9), .int (sI S2 3 10), .int (sI S2 3 11)])) := hR2.k 3 (by decide)
              have T2 : rdC S S2 := by rw [← f2]; exact rdC.w3
              have N12 : sN S2 12 = sN S 12 := by rw [← f2]; rfl
              have N13 : sN S2 13 = sN S 13 := by rw [← f2]; rfl
              refine g_goto (tgt := 92) d_Rd_takeOperator_87 (by decide) ?_
              refine g_aload_nq d_Rd_takeOperator_92 rfl 1 rfl ?_
              refine g_iload_n d_Rd_takeOperator_93 rfl 0 rfl ?_
              refine g_callV d_Rd_takeOperator_94 k_Rd_putOutDownTo l_Rd_76 i_Rd_putOutDownTo rfl p_Rd_putOutDownTo h3 (by rfl) (by rfl) (Nat.le_of_ble_eq_true rfl) (by decide) (C_Rd_putOutDownTo hR2 (hI.2.2.2.2.1.eqT T2.eqT) (by rw [N12]; exact hI.2.2.2.2.2.1) (by rw [N13]; exact hI.2.2.2.2.2.2.1) (fun Z3 hR3 B3 => ⟨_, rfl, ?_⟩))
              refine g_aload_nq d_Rd_takeOperator_97 rfl 1 rfl ?_
              refine g_iload_n d_Rd_takeOperator_98 rfl 0 rfl ?_
              have h3 : zhs Z3 (ad 3) (.inr (3, [.ref (ad 17), .ref (ad 18), .ref (ad 19), .ref (ad 2), .int (nI (sN (podF x (sN S2 13) S2) 12)), .int (nI (sN (podF x (sN S2 13) S2) 13)), .int (nI (sN (podF x (sN S2 13) S2) 14)), .int (sI (podF x (sN S2 13) S2) 3 7), .int (nI (sN (podF x (sN S2 13) S2) 15)), .int (sI (podF x (sN S2 13) S2) 3 9), .int (sI (podF x (sN S2 13) S2) 3 10), .int (sI (podF x (sN S2 13) S2) 3 11)])) := hR3.k 3 (by decide)
              refine g_callV d_Rd_takeOperator_99 k_Rd_putOff l_Rd_132 i_Rd_putOff rfl p_Rd_putOff h3 (by rfl) (by rfl) (Nat.le_of_ble_eq_true rfl) (by decide) (C_Rd_putOff' hR3 (hI.2.2.2.2.1.eqT (T2.tr rdC.pod).eqT) (Nat.le_trans (podF_13 rfl) (by rw [N13]; exact hI.2.2.2.2.2.2.1)) (fun Z4 hR4 B4 => ⟨_, rfl, ?_⟩))
              refine g_iconst (v := 1) d_Rd_takeOperator_102 rfl ?_
              refine g_zret d_Rd_takeOperator_103 ?_ ?_
              · first | rfl | exact zb_nar _ | exact zb_narc (by assumption)
              · exact hQ Z4 hR4 (B4.trans (B3.trans B2))
        · refine g_aload_nq d_Rd_takeOperator_47 rfl 1 rfl ?_
          refine g_get d_Rd_takeOperator_48 f_Rd_44_Rd (by assumption) (by first | rfl | assumption) ?_
          first | refine g_if_neB (tgt := 67) d_Rd_takeOperator_51 (by decide) (fun h51 => ?_) (fun h51 => ?_) | refine g_if_ne (tgt := 67) d_Rd_takeOperator_51 (by decide) (fun h51 => ?_) (fun h51 => ?_)
          · rw [if_neg (fun z => h51 z.2.2)] at hQ
            refine g_iload_n d_Rd_takeOperator_67 rfl 0 rfl ?_
            refine g_callS d_Rd_takeOperator_68 k_Tr_isArithmetic l_Rd_193 s_Tr_isArithmetic (by rfl) (by rfl) (Nat.le_of_ble_eq_true rfl) (by decide) (C_Tr_isArithmetic ⟨_, rfl, ?_⟩)
            first | refine g_if_eqB (tgt := 90) d_Rd_takeOperator_71 (by decide) (fun h71 => ?_) (fun h71 => ?_) | refine g_if_eq (tgt := 90) d_Rd_takeOperator_71 (by decide) (fun h71 => ?_) (fun h71 => ?_)
            · rw [if_neg (fun z => h71 z.1)] at hQ
              refine g_iconst (v := 0) d_Rd_takeOperator_90 rfl ?_
              refine g_zret d_Rd_takeOperator_91 ?_ ?_
              · first | rfl | exact zb_nar _ | exact zb_narc (by assumption)
              · exact hQ Z hR rfl
            · refine g_aload_nq d_Rd_takeOperator_74 rfl 1 rfl ?_
              refine g_get d_Rd_takeOperator_75 f_Rd_38_Rd (by assumption) (by first | rfl | assumption) ?_
              refine g_iconst (v := 5) d_Rd_takeOperator_78 rfl ?_
              refine g_icmp_ne (tgt := 90) d_Rd_takeOperator_79 (by decide) (fun h79 => ?_) (fun h79 => ?_)
              · rw [if_neg (fun z => h79 z.2)] at hQ
                refine g_iconst (v := 0) d_Rd_takeOperator_90 rfl ?_
                refine g_zret d_Rd_takeOperator_91 ?_ ?_
                · first | rfl | exact zb_nar _ | exact zb_narc (by assumption)
                · exact hQ Z hR rfl
              · rw [if_pos ⟨h71, h79⟩] at hQ
                refine g_aload_nq d_Rd_takeOperator_82 rfl 1 rfl ?_
                refine g_iconst (v := 3) d_Rd_takeOperator_83 rfl ?_
                refine g_put d_Rd_takeOperator_84 w_Rd_38_Rd (by assumption) (by first | rfl | exact zb_nar _) (by first | rfl | exact zb_fit _ | exact zrf_fit _) (by first | exact Nat.le_of_ble_eq_true rfl | omega) ?_
                have hR2 := hR.put3 7 (3)
                generalize e2 : zput _ _ _ = Z2
                have hR2 : Rep w ad (w3 S 7 (3)) Z2 := by rw [← e2]; exact hR2
                have B2 : Z2.2.2 = Z.2.2 := by rw [← e2]; rfl
                generalize f2 : w3 S 7 (3) = S2 at hR2 hQ
                have h3 : zhs Z2 (ad 3) (.inr (3, [.ref (ad 17), .ref (ad 18), .ref (ad 19), .ref (ad 2), .int (nI (sN S2 12)), .int (nI (sN S2 13)), .int (nI (sN S2 14)), .int (sI S2 3 7), .int (nI (sN S2 15)), .int (sI S2 3 9), .int (sI S2 3 10), .int (sI S2 3 11)])) := hR2.k 3 (by decide)
                have T2 : rdC S S2 := by rw [← f2]; exact rdC.w3
                have N12 : sN S2 12 = sN S 12 := by rw [← f2]; rfl
                have N13 : sN S2 13 = sN S 13 := by rw [← f2]; rfl
                refine g_goto (tgt := 92) d_Rd_takeOperator_87 (by decide) ?_
                refine g_aload_nq d_Rd_takeOperator_92 rfl 1 rfl ?_
                refine g_iload_n d_Rd_takeOperator_93 rfl 0 rfl ?_
                refine g_callV d_Rd_takeOperator_94 k_Rd_putOutDownTo l_Rd_76 i_Rd_putOutDownTo rfl p_Rd_putOutDownTo h3 (by rfl) (by rfl) (Nat.le_of_ble_eq_true rfl) (by decide) (C_Rd_putOutDownTo hR2 (hI.2.2.2.2.1.eqT T2.eqT) (by rw [N12]; exact hI.2.2.2.2.2.1) (by rw [N13]; exact hI.2.2.2.2.2.2.1) (fun Z3 hR3 B3 => ⟨_, rfl, ?_⟩))
                refine g_aload_nq d_Rd_takeOperator_97 rfl 1 rfl ?_
                refine g_iload_n d_Rd_takeOperator_98 rfl 0 rfl ?_
                have h3 : zhs Z3 (ad 3) (.inr (3, [.ref (ad 17), .ref (ad 18), .ref (ad 19), .ref (ad 2), .int (nI (sN (podF x (sN S2 13) S2) 12)), .int (nI (sN (podF x (sN S2 13) S2) 13)), .int (nI (sN (podF x (sN S2 13) S2) 14)), .int (sI (podF x (sN S2 13) S2) 3 7), .int (nI (sN (podF x (sN S2 13) S2) 15)), .int (sI (podF x (sN S2 13) S2) 3 9), .int (sI (podF x (sN S2 13) S2) 3 10), .int (sI (podF x (sN S2 13) S2) 3 11)])) := hR3.k 3 (by decide)
                refine g_callV d_Rd_takeOperator_99 k_Rd_putOff l_Rd_132 i_Rd_putOff rfl p_Rd_putOff h3 (by rfl) (by rfl) (Nat.le_of_ble_eq_true rfl) (by decide) (C_Rd_putOff' hR3 (hI.2.2.2.2.1.eqT (T2.tr rdC.pod).eqT) (Nat.le_trans (podF_13 rfl) (by rw [N13]; exact hI.2.2.2.2.2.2.1)) (fun Z4 hR4 B4 => ⟨_, rfl, ?_⟩))
                refine g_iconst (v := 1) d_Rd_takeOperator_102 rfl ?_
                refine g_zret d_Rd_takeOperator_103 ?_ ?_
                · first | rfl | exact zb_nar _ | exact zb_narc (by assumption)
                · exact hQ Z4 hR4 (B4.trans (B3.trans B2))
          · rw [if_pos ⟨h36, h44, h51⟩] at hQ
            refine g_aload_nq d_Rd_takeOperator_54 rfl 1 rfl ?_
            refine g_iconst (v := 1) d_Rd_takeOperator_55 rfl ?_
            refine g_put d_Rd_takeOperator_56 w_Rd_44_Rd (by assumption) (by first | rfl | exact zb_nar _) (by first | rfl | exact zb_fit _ | exact zrf_fit _) (by first | exact Nat.le_of_ble_eq_true rfl | omega) ?_
            have hR1 := hR.put3 9 (1)
            generalize e1 : zput _ _ _ = Z1
            have hR1 : Rep w ad (w3 S 9 (1)) Z1 := by rw [← e1]; exact hR1
            have B1 : Z1.2.2 = Z.2.2 := by rw [← e1]; rfl
            generalize f1 : w3 S 9 (1) = S1 at hR1 hQ
            have h3 : zhs Z1 (ad 3) (.inr (3, [.ref (ad 17), .ref (ad 18), .ref (ad 19), .ref (ad 2), .int (nI (sN S1 12)), .int (nI (sN S1 13)), .int (nI (sN S1 14)), .int (sI S1 3 7), .int (nI (sN S1 15)), .int (sI S1 3 9), .int (sI S1 3 10), .int (sI S1 3 11)])) := hR1.k 3 (by decide)
            refine g_aload_nq d_Rd_takeOperator_59 rfl 1 rfl ?_
            refine g_iconst (v := 3) d_Rd_takeOperator_60 rfl ?_
            refine g_put d_Rd_takeOperator_61 w_Rd_38_Rd (by assumption) (by first | rfl | exact zb_nar _) (by first | rfl | exact zb_fit _ | exact zrf_fit _) (by first | exact Nat.le_of_ble_eq_true rfl | omega) ?_
            have hR2 := hR1.put3 7 (3)
            generalize e2 : zput _ _ _ = Z2
            have hR2 : Rep w ad (w3 S1 7 (3)) Z2 := by rw [← e2]; exact hR2
            have B2 : Z2.2.2 = Z1.2.2 := by rw [← e2]; rfl
            generalize f2 : w3 S1 7 (3) = S2 at hR2 hQ
            have h3 : zhs Z2 (ad 3) (.inr (3, [.ref (ad 17), .ref (ad 18), .ref (ad 19), .ref (ad 2), .int (nI (sN S2 12)), .int (nI (sN S2 13)), .int (nI (sN S2 14)), .int (sI S2 3 7), .int (nI (sN S2 15)), .int (sI S2 3 9), .int (sI S2 3 10), .int (sI S2 3 11)])) := hR2.k 3 (by decide)
            have T2 : rdC S S2 := by rw [← f2, ← f1]; exact rdC.w3.tr rdC.w3
            have B2 := B2.trans B1
            have N12 : sN S2 12 = sN S 12 := by rw [← f2, ← f1]; rfl
            have N13 : sN S2 13 = sN S 13 := by rw [← f2, ← f1]; rfl
            refine g_goto (tgt := 92) d_Rd_takeOperator_64 (by decide) ?_
            refine g_aload_nq d_Rd_takeOperator_92 rfl 1 rfl ?_
            refine g_iload_n d_Rd_takeOperator_93 rfl 0 rfl ?_
            refine g_callV d_Rd_takeOperator_94 k_Rd_putOutDownTo l_Rd_76 i_Rd_putOutDownTo rfl p_Rd_putOutDownTo h3 (by rfl) (by rfl) (Nat.le_of_ble_eq_true rfl) (by decide) (C_Rd_putOutDownTo hR2 (hI.2.2.2.2.1.eqT T2.eqT) (by rw [N12]; exact hI.2.2.2.2.2.1) (by rw [N13]; exact hI.2.2.2.2.2.2.1) (fun Z3 hR3 B3 => ⟨_, rfl, ?_⟩))
            refine g_aload_nq d_Rd_takeOperator_97 rfl 1 rfl ?_
            refine g_iload_n d_Rd_takeOperator_98 rfl 0 rfl ?_
            have h3 : zhs Z3 (ad 3) (.inr (3, [.ref (ad 17), .ref (ad 18), .ref (ad 19), .ref (ad 2), .int (nI (sN (podF x (sN S2 13) S2) 12)), .int (nI (sN (podF x (sN S2 13) S2) 13)), .int (nI (sN (podF x (sN S2 13) S2) 14)), .int (sI (podF x (sN S2 13) S2) 3 7), .int (nI (sN (podF x (sN S2 13) S2) 15)), .int (sI (podF x (sN S2 13) S2) 3 9), .int (sI (podF x (sN S2 13) S2) 3 10), .int (sI (podF x (sN S2 13) S2) 3 11)])) := hR3.k 3 (by decide)
            refine g_callV d_Rd_takeOperator_99 k_Rd_putOff l_Rd_132 i_Rd_putOff rfl p_Rd_putOff h3 (by rfl) (by rfl) (Nat.le_of_ble_eq_true rfl) (by decide) (C_Rd_putOff' hR3 (hI.2.2.2.2.1.eqT (T2.tr rdC.pod).eqT) (Nat.le_trans (podF_13 rfl) (by rw [N13]; exact hI.2.2.2.2.2.2.1)) (fun Z4 hR4 B4 => ⟨_, rfl, ?_⟩))
            refine g_iconst (v := 1) d_Rd_takeOperator_102 rfl ?_
            refine g_zret d_Rd_takeOperator_103 ?_ ?_
            · first | rfl | exact zb_nar _ | exact zb_narc (by assumption)
            · exact hQ Z4 hR4 (B4.trans (B3.trans B2))
    · rw [opS, if_pos (show (x = 1 ∨ x = 2) ∧ bhc S from ⟨h9, h16⟩)] at hQ
      refine g_aload_nq d_Rd_takeOperator_19 rfl 1 rfl ?_
      refine g_iconst (v := 0) d_Rd_takeOperator_20 rfl ?_
      refine g_put d_Rd_takeOperator_21 w_Rd_44_Rd (by assumption) (by first | rfl | exact zb_nar _) (by first | rfl | exact zb_fit _ | exact zrf_fit _) (by first | exact Nat.le_of_ble_eq_true rfl | omega) ?_
      have hR1 := hR.put3 9 (0)
      generalize e1 : zput _ _ _ = Z1
      have hR1 : Rep w ad (w3 S 9 (0)) Z1 := by rw [← e1]; exact hR1
      have B1 : Z1.2.2 = Z.2.2 := by rw [← e1]; rfl
      generalize f1 : w3 S 9 (0) = S1 at hR1 hQ
      have h3 : zhs Z1 (ad 3) (.inr (3, [.ref (ad 17), .ref (ad 18), .ref (ad 19), .ref (ad 2), .int (nI (sN S1 12)), .int (nI (sN S1 13)), .int (nI (sN S1 14)), .int (sI S1 3 7), .int (nI (sN S1 15)), .int (sI S1 3 9), .int (sI S1 3 10), .int (sI S1 3 11)])) := hR1.k 3 (by decide)
      refine g_aload_nq d_Rd_takeOperator_24 rfl 1 rfl ?_
      refine g_iconst (v := 2) d_Rd_takeOperator_25 rfl ?_
      refine g_put d_Rd_takeOperator_26 w_Rd_38_Rd (by assumption) (by first | rfl | exact zb_nar _) (by first | rfl | exact zb_fit _ | exact zrf_fit _) (by first | exact Nat.le_of_ble_eq_true rfl | omega) ?_
      have hR2 := hR1.put3 7 (2)
      generalize e2 : zput _ _ _ = Z2
      have hR2 : Rep w ad (w3 S1 7 (2)) Z2 := by rw [← e2]; exact hR2
      have B2 : Z2.2.2 = Z1.2.2 := by rw [← e2]; rfl
      generalize f2 : w3 S1 7 (2) = S2 at hR2 hQ
      have h3 : zhs Z2 (ad 3) (.inr (3, [.ref (ad 17), .ref (ad 18), .ref (ad 19), .ref (ad 2), .int (nI (sN S2 12)), .int (nI (sN S2 13)), .int (nI (sN S2 14)), .int (sI S2 3 7), .int (nI (sN S2 15)), .int (sI S2 3 9), .int (sI S2 3 10), .int (sI S2 3 11)])) := hR2.k 3 (by decide)
      have T2 : rdC S S2 := by rw [← f2, ← f1]; exact rdC.w3.tr rdC.w3
      have B2 := B2.trans B1
      have N12 : sN S2 12 = sN S 12 := by rw [← f2, ← f1]; rfl
      have N13 : sN S2 13 = sN S 13 := by rw [← f2, ← f1]; rfl
      refine g_goto (tgt := 92) d_Rd_takeOperator_29 (by decide) ?_
      refine g_aload_nq d_Rd_takeOperator_92 rfl 1 rfl ?_
      refine g_iload_n d_Rd_takeOperator_93 rfl 0 rfl ?_
      refine g_callV d_Rd_takeOperator_94 k_Rd_putOutDownTo l_Rd_76 i_Rd_putOutDownTo rfl p_Rd_putOutDownTo h3 (by rfl) (by rfl) (Nat.le_of_ble_eq_true rfl) (by decide) (C_Rd_putOutDownTo hR2 (hI.2.2.2.2.1.eqT T2.eqT) (by rw [N12]; exact hI.2.2.2.2.2.1) (by rw [N13]; exact hI.2.2.2.2.2.2.1) (fun Z3 hR3 B3 => ⟨_, rfl, ?_⟩))
      refine g_aload_nq d_Rd_takeOperator_97 rfl 1 rfl ?_
      refine g_iload_n d_Rd_takeOperator_98 rfl 0 rfl ?_
      have h3 : zhs Z3 (ad 3) (.inr (3, [.ref (ad 17), .ref (ad 18), .ref (ad 19), .ref (ad 2), .int (nI (sN (podF x (sN S2 13) S2) 12)), .int (nI (sN (podF x (sN S2 13) S2) 13)), .int (nI (sN (podF x (sN S2 13) S2) 14)), .int (sI (podF x (sN S2 13) S2) 3 7), .int (nI (sN (podF x (sN S2 13) S2) 15)), .int (sI (podF x (sN S2 13) S2) 3 9), .int (sI (podF x (sN S2 13) S2) 3 10), .int (sI (podF x (sN S2 13) S2) 3 11)])) := hR3.k 3 (by decide)
      refine g_callV d_Rd_takeOperator_99 k_Rd_putOff l_Rd_132 i_Rd_putOff rfl p_Rd_putOff h3 (by rfl) (by rfl) (Nat.le_of_ble_eq_true rfl) (by decide) (C_Rd_putOff' hR3 (hI.2.2.2.2.1.eqT (T2.tr rdC.pod).eqT) (Nat.le_trans (podF_13 rfl) (by rw [N13]; exact hI.2.2.2.2.2.2.1)) (fun Z4 hR4 B4 => ⟨_, rfl, ?_⟩))
      refine g_iconst (v := 1) d_Rd_takeOperator_102 rfl ?_
      refine g_zret d_Rd_takeOperator_103 ?_ ?_
      · first | rfl | exact zb_nar _ | exact zb_narc (by assumption)
      · exact hQ Z4 hR4 (B4.trans (B3.trans B2))
