/-! ToldRule: codes and how they work out -/
def tl (c : Prop) [Decidable c] : Int64 := if c then 1 else 0
theorem tl_t {c : Prop} [Decidable c] (h : c) : tl c = 1 := if_pos h
theorem tl_f {c : Prop} [Decidable c] (h : ¬ c) : tl c = 0 := if_neg h
def wo (op : Int32) (a b : Int64) : Int64 :=
  if op = 1 then a ||| b else if op = 2 then a &&& b else if op = 4 then tl (a = b) else if op = 5 then tl (¬ a = b) else if op = 6 then tl (a < b) else if op = 7 then tl (b < a) else if op = 8 then tl (a ≤ b) else if op = 9 then tl (b ≤ a) else if op = 10 then a + b else if op = 11 then a - b else a * b
def isSg (x : Int32) : Prop := ¬ x < 4 ∧ ¬ 9 < x
def isAr (x : Int32) : Prop := ¬ x < 10 ∧ ¬ 12 < x
def stg (x : Int32) : Int32 := if 3 < x then (if ¬ x < 4 ∧ ¬ 9 < x then 4 else if x = 12 then 12 else 10) else x
theorem sw_1_11 (x : Int32) : (x.toInt < 1 ∨ 11 < x.toInt) ∨ x = 1 ∨ x = 2 ∨ x = 3 ∨ x = 4 ∨ x = 5 ∨ x = 6 ∨ x = 7 ∨ x = 8 ∨ x = 9 ∨ x = 10 ∨ x = 11 := by
  by_cases h1 : x = 1
  · simp [h1]
  have n1 : ¬ x.toInt = 1 := fun q => h1 (Int32.toInt_inj.mp (q.trans (by decide)))
  by_cases h2 : x = 2
  · simp [h2]
  have n2 : ¬ x.toInt = 2 := fun q => h2 (Int32.toInt_inj.mp (q.trans (by decide)))
  by_cases h3 : x = 3
  · simp [h3]
  have n3 : ¬ x.toInt = 3 := fun q => h3 (Int32.toInt_inj.mp (q.trans (by decide)))
  by_cases h4 : x = 4
  · simp [h4]
  have n4 : ¬ x.toInt = 4 := fun q => h4 (Int32.toInt_inj.mp (q.trans (by decide)))
  by_cases h5 : x = 5
  · simp [h5]
  have n5 : ¬ x.toInt = 5 := fun q => h5 (Int32.toInt_inj.mp (q.trans (by decide)))
  by_cases h6 : x = 6
  · simp [h6]
  have n6 : ¬ x.toInt = 6 := fun q => h6 (Int32.toInt_inj.mp (q.trans (by decide)))
  by_cases h7 : x = 7
  · simp [h7]
  have n7 : ¬ x.toInt = 7 := fun q => h7 (Int32.toInt_inj.mp (q.trans (by decide)))
  by_cases h8 : x = 8
  · simp [h8]
  have n8 : ¬ x.toInt = 8 := fun q => h8 (Int32.toInt_inj.mp (q.trans (by decide)))
  by_cases h9 : x = 9
  · simp [h9]
  have n9 : ¬ x.toInt = 9 := fun q => h9 (Int32.toInt_inj.mp (q.trans (by decide)))
  by_cases h10 : x = 10
  · simp [h10]
  have n10 : ¬ x.toInt = 10 := fun q => h10 (Int32.toInt_inj.mp (q.trans (by decide)))
  by_cases h11 : x = 11
  · simp [h11]
  have n11 : ¬ x.toInt = 11 := fun q => h11 (Int32.toInt_inj.mp (q.trans (by decide)))
  exact Or.inl (by omega)
set_option maxHeartbeats 4000000 in
set_option maxRecDepth 100000 in
theorem C_Tr_truth {w : zC} {Z : zZ} {Q : zR → zZ → Prop} {x : Int32} (hQ : Q (.inl (some (.long (if x = 0 then 0 else 1)))) Z) : Cz w (0, 0) y_Tr_truth (Cond.code y_Tr_truth c_Tr_truth 1 r_Tr_truth :: wz) [.int x] Z Q := by
  refine Cz.of (by decide +kernel) (by simp [lg_sl, Value.category]) ?_
  show G _ _ _ _ _ _ _ _ [(0, _)] _ _
  refine g_iload_n d_Tr_truth_0 rfl 0 rfl ?_
  first | refine g_if_eqB (tgt := 8) d_Tr_truth_1 (by decide) (fun h1 => ?_) (fun h1 => ?_) | refine g_if_eq (tgt := 8) d_Tr_truth_1 (by decide) (fun h1 => ?_) (fun h1 => ?_)
  · refine g_lconst (v := 0) d_Tr_truth_8 rfl ?_
    refine g_lret d_Tr_truth_9 ?_
    first | (rw [if_pos h1] at hQ; exact hQ) | (rw [if_neg h1] at hQ; exact hQ)
  · refine g_lconst (v := 1) d_Tr_truth_4 rfl ?_
    refine g_goto (tgt := 9) d_Tr_truth_5 (by decide) ?_
    refine g_lret d_Tr_truth_9 ?_
    first | (rw [if_pos h1] at hQ; exact hQ) | (rw [if_neg h1] at hQ; exact hQ)

set_option maxHeartbeats 4000000 in
set_option maxRecDepth 100000 in
theorem C_Tr_isJoining {w : zC} {Z : zZ} {Q : zR → zZ → Prop} {x : Int32} (hQ : Q (.inl (some (.int (zb (x = 1 ∨ x = 2))))) Z) : Cz w (0, 0) y_Tr_isJoining (Cond.code y_Tr_isJoining c_Tr_isJoining 1 r_Tr_isJoining :: wz) [.int x] Z Q := by
  refine Cz.of (by decide +kernel) (by simp [lg_sl, Value.category]) ?_
  show G _ _ _ _ _ _ _ _ [(0, _)] _ _
  refine g_iload_n d_Tr_isJoining_0 rfl 0 rfl ?_
  refine g_iconst (v := 1) d_Tr_isJoining_1 rfl ?_
  refine g_icmp_eq (tgt := 10) d_Tr_isJoining_2 (by decide) (fun h2 => ?_) (fun h2 => ?_)
  · rw [zb_t (Or.inl h2)] at hQ
    refine g_iconst (v := 1) d_Tr_isJoining_10 rfl ?_
    refine g_goto (tgt := 15) d_Tr_isJoining_11 (by decide) ?_
    refine g_zret d_Tr_isJoining_15 ?_ ?_
    · first | rfl | exact zb_nar _ | exact zb_narc (by assumption)
    · exact hQ
  · refine g_iload_n d_Tr_isJoining_5 rfl 0 rfl ?_
    refine g_iconst (v := 2) d_Tr_isJoining_6 rfl ?_
    refine g_icmp_ne (tgt := 14) d_Tr_isJoining_7 (by decide) (fun h7 => ?_) (fun h7 => ?_)
    · rw [zb_f (fun z => z.elim h2 h7)] at hQ
      refine g_iconst (v := 0) d_Tr_isJoining_14 rfl ?_
      refine g_zret d_Tr_isJoining_15 ?_ ?_
      · first | rfl | exact zb_nar _ | exact zb_narc (by assumption)
      · exact hQ
    · rw [zb_t (Or.inr h7)] at hQ
      refine g_iconst (v := 1) d_Tr_isJoining_10 rfl ?_
      refine g_goto (tgt := 15) d_Tr_isJoining_11 (by decide) ?_
      refine g_zret d_Tr_isJoining_15 ?_ ?_
      · first | rfl | exact zb_nar _ | exact zb_narc (by assumption)
      · exact hQ

set_option maxHeartbeats 4000000 in
set_option maxRecDepth 100000 in
theorem C_Tr_isSign {w : zC} {Z : zZ} {Q : zR → zZ → Prop} {x : Int32} (hQ : Q (.inl (some (.int (zb (¬ x < 4 ∧ ¬ 9 < x))))) Z) : Cz w (0, 0) y_Tr_isSign (Cond.code y_Tr_isSign c_Tr_isSign 1 r_Tr_isSign :: wz) [.int x] Z Q := by
  refine Cz.of (by decide +kernel) (by simp [lg_sl, Value.category]) ?_
  show G _ _ _ _ _ _ _ _ [(0, _)] _ _
  refine g_iload_n d_Tr_isSign_0 rfl 0 rfl ?_
  refine g_iconst (v := 4) d_Tr_isSign_1 rfl ?_
  refine g_icmp_lt (tgt := 15) d_Tr_isSign_2 (by decide) (fun h2 => ?_) (fun h2 => ?_)
  · rw [zb_f (fun z => z.1 h2)] at hQ
    refine g_iconst (v := 0) d_Tr_isSign_15 rfl ?_
    refine g_zret d_Tr_isSign_16 ?_ ?_
    · first | rfl | exact zb_nar _ | exact zb_narc (by assumption)
    · exact hQ
  · refine g_iload_n d_Tr_isSign_5 rfl 0 rfl ?_
    refine g_bipush (v := 9) d_Tr_isSign_6 rfl ?_
    refine g_icmp_gt (tgt := 15) d_Tr_isSign_8 (by decide) (fun h8 => ?_) (fun h8 => ?_)
    · rw [zb_f (fun z => z.2 h8)] at hQ
      refine g_iconst (v := 0) d_Tr_isSign_15 rfl ?_
      refine g_zret d_Tr_isSign_16 ?_ ?_
      · first | rfl | exact zb_nar _ | exact zb_narc (by assumption)
      · exact hQ
    · rw [zb_t ⟨h2, h8⟩] at hQ
      refine g_iconst (v := 1) d_Tr_isSign_11 rfl ?_
      refine g_goto (tgt := 16) d_Tr_isSign_12 (by decide) ?_
      refine g_zret d_Tr_isSign_16 ?_ ?_
      · first | rfl | exact zb_nar _ | exact zb_narc (by assumption)
      · exact hQ

set_option maxHeartbeats 4000000 in
set_option maxRecDepth 100000 in
theorem C_Tr_isArithmetic {w : zC} {Z : zZ} {Q : zR → zZ → Prop} {x : Int32} (hQ : Q (.inl (some (.int (zb (¬ x < 10 ∧ ¬ 12 < x))))) Z) : Cz w (0, 0) y_Tr_isArithmetic (Cond.code y_Tr_isArithmetic c_Tr_isArithmetic 1 r_Tr_isArithmetic :: wz) [.int x] Z Q := by
  refine Cz.of (by decide +kernel) (by simp [lg_sl, Value.category]) ?_
  show G _ _ _ _ _ _ _ _ [(0, _)] _ _
  refine g_iload_n d_Tr_isArithmetic_0 rfl 0 rfl ?_
  refine g_bipush (v := 10) d_Tr_isArithmetic_1 rfl ?_
  refine g_icmp_lt (tgt := 16) d_Tr_isArithmetic_3 (by decide) (fun h3 => ?_) (fun h3 => ?_)
  · rw [zb_f (fun z => z.1 h3)] at hQ
    refine g_iconst (v := 0) d_Tr_isArithmetic_16 rfl ?_
    refine g_zret d_Tr_isArithmetic_17 ?_ ?_
    · first | rfl | exact zb_nar _ | exact zb_narc (by assumption)
    · exact hQ
  · refine g_iload_n d_Tr_isArithmetic_6 rfl 0 rfl ?_
    refine g_bipush (v := 12) d_Tr_isArithmetic_7 rfl ?_
    refine g_icmp_gt (tgt := 16) d_Tr_isArithmetic_9 (by decide) (fun h9 => ?_) (fun h9 => ?_)
    · rw [zb_f (fun z => z.2 h9)] at hQ
      refine g_iconst (v := 0) d_Tr_isArithmetic_16 rfl ?_
      refine g_zret d_Tr_isArithmetic_17 ?_ ?_
      · first | rfl | exact zb_nar _ | exact zb_narc (by assumption)
      · exact hQ
    · rw [zb_t ⟨h3, h9⟩] at hQ
      refine g_iconst (v := 1) d_Tr_isArithmetic_12 rfl ?_
      refine g_goto (tgt := 17) d_Tr_isArithmetic_13 (by decide) ?_
      refine g_zret d_Tr_isArithmetic_17 ?_ ?_
      · first | rfl | exact zb_nar _ | exact zb_narc (by assumption)
      · exact hQ

set_option maxHeartbeats 4000000 in
set_option maxRecDepth 100000 in
theorem C_Tr_strength {w : zC} {Z : zZ} {Q : zR → zZ → Prop} {x : Int32} (hQ : Q (.inl (some (.int (stg x)))) Z) : Cz w (1, 20) y_Tr_strength (Cond.code y_Tr_strength c_Tr_strength 1 r_Tr_strength :: wz) [.int x] Z Q := by
  refine Cz.of (by decide +kernel) (by simp [lg_sl, Value.category]) ?_
  show G _ _ _ _ _ _ _ _ [(0, _)] _ _
  refine g_iload_n d_Tr_strength_0 rfl 0 rfl ?_
  refine g_iconst (v := 3) d_Tr_strength_1 rfl ?_
  refine g_icmp_gt (tgt := 7) d_Tr_strength_2 (by decide) (fun h2 => ?_) (fun h2 => ?_)
  · unfold stg at hQ
    rw [if_pos h2] at hQ
    refine g_iload_n d_Tr_strength_7 rfl 0 rfl ?_
    refine g_callS d_Tr_strength_8 k_Tr_isSign l_Tr_25 s_Tr_isSign (by rfl) (by rfl) (Nat.le_of_ble_eq_true rfl) (by decide) (C_Tr_isSign ⟨_, rfl, ?_⟩)
    first | refine g_if_eqB (tgt := 16) d_Tr_strength_11 (by decide) (fun h11 => ?_) (fun h11 => ?_) | refine g_if_eq (tgt := 16) d_Tr_strength_11 (by decide) (fun h11 => ?_) (fun h11 => ?_)
    · rw [if_neg h11] at hQ
      refine g_iload_n d_Tr_strength_16 rfl 0 rfl ?_
      refine g_bipush (v := 12) d_Tr_strength_17 rfl ?_
      refine g_icmp_ne (tgt := 27) d_Tr_strength_19 (by decide) (fun h19 => ?_) (fun h19 => ?_)
      · rw [if_neg h19] at hQ
        refine g_bipush (v := 10) d_Tr_strength_27 rfl ?_
        refine g_iret d_Tr_strength_29 ?_
        exact hQ
      · rw [if_pos h19] at hQ
        refine g_bipush (v := 12) d_Tr_strength_22 rfl ?_
        refine g_goto (tgt := 29) d_Tr_strength_24 (by decide) ?_
        refine g_iret d_Tr_strength_29 ?_
        exact hQ
    · rw [if_pos h11] at hQ
      refine g_iconst (v := 4) d_Tr_strength_14 rfl ?_
      refine g_iret d_Tr_strength_15 ?_
      exact hQ
  · unfold stg at hQ
    rw [if_neg h2] at hQ
    refine g_iload_n d_Tr_strength_5 rfl 0 rfl ?_
    refine g_iret d_Tr_strength_6 ?_
    exact hQ

set_option maxHeartbeats 4000000 in
set_option maxRecDepth 100000 in
theorem C_Tr_workOut {w : zC} {Z : zZ} {Q : zR → zZ → Prop} {op : Int32} {a b : Int64} (hQ : Q (.inl (some (.long (wo op a b)))) Z) : Cz w (1, 20) y_Tr_workOut (Cond.code y_Tr_workOut c_Tr_workOut 5 r_Tr_workOut :: wz) [.int op, .long a, .long b] Z Q := by
  refine Cz.of (by decide +kernel) (by simp [lg_sl, Value.category]) ?_
  show G _ _ _ _ _ _ _ _ [(0, _), (1, _), (3, _)] _ _
  refine g_iload_n d_Tr_workOut_0 rfl 0 rfl ?_
  rcases sw_1_11 op with h1 | rfl | rfl | rfl | rfl | rfl | rfl | rfl | rfl | rfl | rfl | rfl
  · refine g_tableOut (tgt := 166) d_Tr_workOut_1 h1 (by decide) ?_
    refine g_lload_n d_Tr_workOut_166 rfl 1 rfl ?_
    refine g_lload_n d_Tr_workOut_167 rfl 2 rfl ?_
    refine g_lmul d_Tr_workOut_168 ?_
    refine g_lret d_Tr_workOut_169 ?_
    unfold wo at hQ
    first | (rw [if_neg (by decide), if_neg (by decide), if_neg (by decide), if_neg (by decide), if_neg (by decide), if_neg (by decide), if_neg (by decide), if_neg (by decide), if_neg (by decide), if_neg (by decide)] at hQ; exact hQ) | (rw [if_neg (fun z => by rw [z] at h1; exact absurd h1 (by decide)), if_neg (fun z => by rw [z] at h1; exact absurd h1 (by decide)), if_neg (fun z => by rw [z] at h1; exact absurd h1 (by decide)), if_neg (fun z => by rw [z] at h1; exact absurd h1 (by decide)), if_neg (fun z => by rw [z] at h1; exact absurd h1 (by decide)), if_neg (fun z => by rw [z] at h1; exact absurd h1 (by decide)), if_neg (fun z => by rw [z] at h1; exact absurd h1 (by decide)), if_neg (fun z => by rw [z] at h1; exact absurd h1 (by decide)), if_neg (fun z => by rw [z] at h1; exact absurd h1 (by decide)), if_neg (fun z => by rw [z] at h1; exact absurd h1 (by decide))] at hQ; exact hQ)
  · refine g_tableIn (tgt := 60) d_Tr_workOut_1 (by decide) (by decide) rfl (by decide) ?_
    refine g_lload_n d_Tr_workOut_60 rfl 1 rfl ?_
    refine g_lload_n d_Tr_workOut_61 rfl 2 rfl ?_
    refine g_lor d_Tr_workOut_62 ?_
    refine g_lret d_Tr_workOut_63 ?_
    unfold wo at hQ
    rw [if_pos rfl] at hQ
    exact hQ
  · refine g_tableIn (tgt := 64) d_Tr_workOut_1 (by decide) (by decide) rfl (by decide) ?_
    refine g_lload_n d_Tr_workOut_64 rfl 1 rfl ?_
    refine g_lload_n d_Tr_workOut_65 rfl 2 rfl ?_
    refine g_land d_Tr_workOut_66 ?_
    refine g_lret d_Tr_workOut_67 ?_
    unfold wo at hQ
    rw [if_neg (by decide), if_pos rfl] at hQ
    exact hQ
  · refine g_tableIn (tgt := 166) d_Tr_workOut_1 (by decide) (by decide) rfl (by decide) ?_
    refine g_lload_n d_Tr_workOut_166 rfl 1 rfl ?_
    refine g_lload_n d_Tr_workOut_167 rfl 2 rfl ?_
    refine g_lmul d_Tr_workOut_168 ?_
    refine g_lret d_Tr_workOut_169 ?_
    unfold wo at hQ
    first | (rw [if_neg (by decide), if_neg (by decide), if_neg (by decide), if_neg (by decide), if_neg (by decide), if_neg (by decide), if_neg (by decide), if_neg (by decide), if_neg (by decide), if_neg (by decide)] at hQ; exact hQ) | (rw [if_neg (fun z => by rw [z] at h1; exact absurd h1 (by decide)), if_neg (fun z => by rw [z] at h1; exact absurd h1 (by decide)), if_neg (fun z => by rw [z] at h1; exact absurd h1 (by decide)), if_neg (fun z => by rw [z] at h1; exact absurd h1 (by decide)), if_neg (fun z => by rw [z] at h1; exact absurd h1 (by decide)), if_neg (fun z => by rw [z] at h1; exact absurd h1 (by decide)), if_neg (fun z => by rw [z] at h1; exact absurd h1 (by decide)), if_neg (fun z => by rw [z] at h1; exact absurd h1 (by decide)), if_neg (fun z => by rw [z] at h1; exact absurd h1 (by decide)), if_neg (fun z => by rw [z] at h1; exact absurd h1 (by decide))] at hQ; exact hQ)
  · refine g_tableIn (tgt := 68) d_Tr_workOut_1 (by decide) (by decide) rfl (by decide) ?_
    unfold wo at hQ
    rw [if_neg (by decide), if_neg (by decide), if_pos rfl] at hQ
    refine g_lload_n d_Tr_workOut_68 rfl 1 rfl ?_
    refine g_lload_n d_Tr_workOut_69 rfl 2 rfl ?_
    refine g_lcmp d_Tr_workOut_70 ?_
    first | refine g_if_neB (tgt := 78) d_Tr_workOut_71 (by decide) (fun h71 => ?_) (fun h71 => ?_) | refine g_if_ne (tgt := 78) d_Tr_workOut_71 (by decide) (fun h71 => ?_) (fun h71 => ?_)
    · rw [lg_cmp_eq] at h71
      rw [tl_f h71] at hQ
      refine g_iconst (v := 0) d_Tr_workOut_78 rfl ?_
      refine g_callS d_Tr_workOut_79 k_Tr_truth l_Tr_41 s_Tr_truth (by rfl) (by rfl) (Nat.le_of_ble_eq_true rfl) (by decide) (C_Tr_truth ⟨_, rfl, ?_⟩)
      refine g_lret d_Tr_workOut_82 ?_
      first | (rw [if_pos rfl]; exact hQ) | (rw [if_neg (by decide)]; exact hQ)
    · rw [lg_cmp_eq] at h71
      rw [tl_t h71] at hQ
      refine g_iconst (v := 1) d_Tr_workOut_74 rfl ?_
      refine g_goto (tgt := 79) d_Tr_workOut_75 (by decide) ?_
      refine g_callS d_Tr_workOut_79 k_Tr_truth l_Tr_41 s_Tr_truth (by rfl) (by rfl) (Nat.le_of_ble_eq_true rfl) (by decide) (C_Tr_truth ⟨_, rfl, ?_⟩)
      refine g_lret d_Tr_workOut_82 ?_
      first | (rw [if_pos rfl]; exact hQ) | (rw [if_neg (by decide)]; exact hQ)
  · refine g_tableIn (tgt := 83) d_Tr_workOut_1 (by decide) (by decide) rfl (by decide) ?_
    unfold wo at hQ
    rw [if_neg (by decide), if_neg (by decide), if_neg (by decide), if_pos rfl] at hQ
    refine g_lload_n d_Tr_workOut_83 rfl 1 rfl ?_
    refine g_lload_n d_Tr_workOut_84 rfl 2 rfl ?_
    refine g_lcmp d_Tr_workOut_85 ?_
    first | refine g_if_eqB (tgt := 93) d_Tr_workOut_86 (by decide) (fun h86 => ?_) (fun h86 => ?_) | refine g_if_eq (tgt := 93) d_Tr_workOut_86 (by decide) (fun h86 => ?_) (fun h86 => ?_)
    · rw [lg_cmp_eq] at h86
      rw [tl_f (fun z => z h86)] at hQ
      refine g_iconst (v := 0) d_Tr_workOut_93 rfl ?_
      refine g_callS d_Tr_workOut_94 k_Tr_truth l_Tr_41 s_Tr_truth (by rfl) (by rfl) (Nat.le_of_ble_eq_true rfl) (by decide) (C_Tr_truth ⟨_, rfl, ?_⟩)
      refine g_lret d_Tr_workOut_97 ?_
      first | (rw [if_pos rfl]; exact hQ) | (rw [if_neg (by decide)]; exact hQ)
    · rw [lg_cmp_eq] at h86
      rw [tl_t h86] at hQ
      refine g_iconst (v := 1) d_Tr_workOut_89 rfl ?_
      refine g_goto (tgt := 94) d_Tr_workOut_90 (by decide) ?_
      refine g_callS d_Tr_workOut_94 k_Tr_truth l_Tr_41 s_Tr_truth (by rfl) (by rfl) (Nat.le_of_ble_eq_true rfl) (by decide) (C_Tr_truth ⟨_, rfl, ?_⟩)
      refine g_lret d_Tr_workOut_97 ?_
      first | (rw [if_pos rfl]; exact hQ) | (rw [if_neg (by decide)]; exact hQ)
  · refine g_tableIn (tgt := 98) d_Tr_workOut_1 (by decide) (by decide) rfl (by decide) ?_
    unfold wo at hQ
    rw [if_neg (by decide), if_neg (by decide), if_neg (by decide), if_neg (by decide), if_pos rfl] at hQ
    refine g_lload_n d_Tr_workOut_98 rfl 1 rfl ?_
    refine g_lload_n d_Tr_workOut_99 rfl 2 rfl ?_
    refine g_lcmp d_Tr_workOut_100 ?_
    refine g_if_ge (tgt := 108) d_Tr_workOut_101 (by decide) (fun h101 => ?_) (fun h101 => ?_)
    · rw [lg_cmp_ge] at h101
      rw [tl_f (fun z => Int64.not_le.mpr z h101)] at hQ
      refine g_iconst (v := 0) d_Tr_workOut_108 rfl ?_
      refine g_callS d_Tr_workOut_109 k_Tr_truth l_Tr_41 s_Tr_truth (by rfl) (by rfl) (Nat.le_of_ble_eq_true rfl) (by decide) (C_Tr_truth ⟨_, rfl, ?_⟩)
      refine g_lret d_Tr_workOut_112 ?_
      first | (rw [if_pos rfl]; exact hQ) | (rw [if_neg (by decide)]; exact hQ)
    · rw [lg_cmp_ge] at h101
      rw [tl_t (Int64.not_le.mp h101)] at hQ
      refine g_iconst (v := 1) d_Tr_workOut_104 rfl ?_
      refine g_goto (tgt := 109) d_Tr_workOut_105 (by decide) ?_
      refine g_callS d_Tr_workOut_109 k_Tr_truth l_Tr_41 s_Tr_truth (by rfl) (by rfl) (Nat.le_of_ble_eq_true rfl) (by decide) (C_Tr_truth ⟨_, rfl, ?_⟩)
      refine g_lret d_Tr_workOut_112 ?_
      first | (rw [if_pos rfl]; exact hQ) | (rw [if_neg (by decide)]; exact hQ)
  · refine g_tableIn (tgt := 113) d_Tr_workOut_1 (by decide) (by decide) rfl (by decide) ?_
    unfold wo at hQ
    rw [if_neg (by decide), if_neg (by decide), if_neg (by decide), if_neg (by decide), if_neg (by decide), if_pos rfl] at hQ
    refine g_lload_n d_Tr_workOut_113 rfl 1 rfl ?_
    refine g_lload_n d_Tr_workOut_114 rfl 2 rfl ?_
    refine g_lcmp d_Tr_workOut_115 ?_
    refine g_if_le (tgt := 123) d_Tr_workOut_116 (by decide) (fun h116 => ?_) (fun h116 => ?_)
    · rw [lg_cmp_le] at h116
      rw [tl_f (fun z => Int64.not_le.mpr z h116)] at hQ
      refine g_iconst (v := 0) d_Tr_workOut_123 rfl ?_
      refine g_callS d_Tr_workOut_124 k_Tr_truth l_Tr_41 s_Tr_truth (by rfl) (by rfl) (Nat.le_of_ble_eq_true rfl) (by decide) (C_Tr_truth ⟨_, rfl, ?_⟩)
      refine g_lret d_Tr_workOut_127 ?_
      first | (rw [if_pos rfl]; exact hQ) | (rw [if_neg (by decide)]; exact hQ)
    · rw [lg_cmp_le] at h116
      rw [tl_t (Int64.not_le.mp h116)] at hQ
      refine g_iconst (v := 1) d_Tr_workOut_119 rfl ?_
      refine g_goto (tgt := 124) d_Tr_workOut_120 (by decide) ?_
      refine g_callS d_Tr_workOut_124 k_Tr_truth l_Tr_41 s_Tr_truth (by rfl) (by rfl) (Nat.le_of_ble_eq_true rfl) (by decide) (C_Tr_truth ⟨_, rfl, ?_⟩)
      refine g_lret d_Tr_workOut_127 ?_
      first | (rw [if_pos rfl]; exact hQ) | (rw [if_neg (by decide)]; exact hQ)
  · refine g_tableIn (tgt := 128) d_Tr_workOut_1 (by decide) (by decide) rfl (by decide) ?_
    unfold wo at hQ
    rw [if_neg (by decide), if_neg (by decide), if_neg (by decide), if_neg (by decide), if_neg (by decide), if_neg (by decide), if_pos rfl] at hQ
    refine g_lload_n d_Tr_workOut_128 rfl 1 rfl ?_
    refine g_lload_n d_Tr_workOut_129 rfl 2 rfl ?_
    refine g_lcmp d_Tr_workOut_130 ?_
    refine g_if_gt (tgt := 138) d_Tr_workOut_131 (by decide) (fun h131 => ?_) (fun h131 => ?_)
    · rw [lg_cmp_gt] at h131
      rw [tl_f (fun z => Int64.not_lt.mpr z h131)] at hQ
      refine g_iconst (v := 0) d_Tr_workOut_138 rfl ?_
      refine g_callS d_Tr_workOut_139 k_Tr_truth l_Tr_41 s_Tr_truth (by rfl) (by rfl) (Nat.le_of_ble_eq_true rfl) (by decide) (C_Tr_truth ⟨_, rfl, ?_⟩)
      refine g_lret d_Tr_workOut_142 ?_
      first | (rw [if_pos rfl]; exact hQ) | (rw [if_neg (by decide)]; exact hQ)
    · rw [lg_cmp_gt] at h131
      rw [tl_t (Int64.not_lt.mp h131)] at hQ
      refine g_iconst (v := 1) d_Tr_workOut_134 rfl ?_
      refine g_goto (tgt := 139) d_Tr_workOut_135 (by decide) ?_
      refine g_callS d_Tr_workOut_139 k_Tr_truth l_Tr_41 s_Tr_truth (by rfl) (by rfl) (Nat.le_of_ble_eq_true rfl) (by decide) (C_Tr_truth ⟨_, rfl, ?_⟩)
      refine g_lret d_Tr_workOut_142 ?_
      first | (rw [if_pos rfl]; exact hQ) | (rw [if_neg (by decide)]; exact hQ)
  · refine g_tableIn (tgt := 143) d_Tr_workOut_1 (by decide) (by decide) rfl (by decide) ?_
    unfold wo at hQ
    rw [if_neg (by decide), if_neg (by decide), if_neg (by decide), if_neg (by decide), if_neg (by decide), if_neg (by decide), if_neg (by decide), if_pos rfl] at hQ
    refine g_lload_n d_Tr_workOut_143 rfl 1 rfl ?_
    refine g_lload_n d_Tr_workOut_144 rfl 2 rfl ?_
    refine g_lcmp d_Tr_workOut_145 ?_
    refine g_if_lt (tgt := 153) d_Tr_workOut_146 (by decide) (fun h146 => ?_) (fun h146 => ?_)
    · rw [lg_cmp_lt] at h146
      rw [tl_f (fun z => Int64.not_lt.mpr z h146)] at hQ
      refine g_iconst (v := 0) d_Tr_workOut_153 rfl ?_
      refine g_callS d_Tr_workOut_154 k_Tr_truth l_Tr_41 s_Tr_truth (by rfl) (by rfl) (Nat.le_of_ble_eq_true rfl) (by decide) (C_Tr_truth ⟨_, rfl, ?_⟩)
      refine g_lret d_Tr_workOut_157 ?_
      first | (rw [if_pos rfl]; exact hQ) | (rw [if_neg (by decide)]; exact hQ)
    · rw [lg_cmp_lt] at h146
      rw [tl_t (Int64.not_lt.mp h146)] at hQ
      refine g_iconst (v := 1) d_Tr_workOut_149 rfl ?_
      refine g_goto (tgt := 154) d_Tr_workOut_150 (by decide) ?_
      refine g_callS d_Tr_workOut_154 k_Tr_truth l_Tr_41 s_Tr_truth (by rfl) (by rfl) (Nat.le_of_ble_eq_true rfl) (by decide) (C_Tr_truth ⟨_, rfl, ?_⟩)
      refine g_lret d_Tr_workOut_157 ?_
      first | (rw [if_pos rfl]; exact hQ) | (rw [if_neg (by decide)]; exact hQ)
  · refine g_tableIn (tgt := 158) d_Tr_workOut_1 (by decide) (by decide) rfl (by decide) ?_
    refine g_lload_n d_Tr_workOut_158 rfl 1 rfl ?_
    refine g_lload_n d_Tr_workOut_159 rfl 2 rfl ?_
    refine g_ladd d_Tr_workOut_160 ?_
    refine g_lret d_Tr_workOut_161 ?_
    unfold wo at hQ
    rw [if_neg (by decide), if_neg (by decide), if_neg (by decide), if_neg (by decide), if_neg (by decide), if_neg (by decide), if_neg (by decide), if_neg (by decide), if_pos rfl] at hQ
    exact hQ
  · refine g_tableIn (tgt := 162) d_Tr_workOut_1 (by decide) (by decide) rfl (by decide) ?_
    refine g_lload_n d_Tr_workOut_162 rfl 1 rfl ?_
    refine g_lload_n d_Tr_workOut_163 rfl 2 rfl ?_
    refine g_lsub d_Tr_workOut_164 ?_
    refine g_lret d_Tr_workOut_165 ?_
    unfold wo at hQ
    rw [if_neg (by decide), if_neg (by decide), if_neg (by decide), if_neg (by decide), if_neg (by decide), if_neg (by decide), if_neg (by decide), if_neg (by decide), if_neg (by decide), if_pos rfl] at hQ
    exact hQ
