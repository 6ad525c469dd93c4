/-! The reference: a term, a result, a rule that holds -/
def rsl (g : Int32) (a b : Int64) : Int64 := if g = 10 then a * b else if g = 11 then a + b else if g = 12 then a - b else if g = 13 then zl (a = b) else if g = 14 then zl (¬ a = b) else if g = 15 then zl (a < b) else if g = 16 then zl (b < a) else if g = 17 then zl (b ≤ a) else if g = 18 then zl (a ≤ b) else if g = 20 then zl (¬ a = 0 ∧ ¬ b = 0) else zl (¬ a = 0 ∨ ¬ b = 0)
theorem zl_t {c : Prop} [Decidable c] (h : c) : zl c = 1 := if_pos h
theorem zl_f {c : Prop} [Decidable c] (h : ¬ c) : zl c = 0 := if_neg h
theorem sw_10_20 (x : Int32) : (x.toInt < 10 ∨ 20 < x.toInt) ∨ x = 10 ∨ x = 11 ∨ x = 12 ∨ x = 13 ∨ x = 14 ∨ x = 15 ∨ x = 16 ∨ x = 17 ∨ x = 18 ∨ x = 19 ∨ x = 20 := by
  by_cases h10 : x = 10
  · simp [h10]
  have n10 : ¬ x.toInt = 10 := fun q => h10 (Int32.toInt_inj.mp (q.trans (by decide)))
  by_cases h11 : x = 11
  · simp [h11]
  have n11 : ¬ x.toInt = 11 := fun q => h11 (Int32.toInt_inj.mp (q.trans (by decide)))
  by_cases h12 : x = 12
  · simp [h12]
  have n12 : ¬ x.toInt = 12 := fun q => h12 (Int32.toInt_inj.mp (q.trans (by decide)))
  by_cases h13 : x = 13
  · simp [h13]
  have n13 : ¬ x.toInt = 13 := fun q => h13 (Int32.toInt_inj.mp (q.trans (by decide)))
  by_cases h14 : x = 14
  · simp [h14]
  have n14 : ¬ x.toInt = 14 := fun q => h14 (Int32.toInt_inj.mp (q.trans (by decide)))
  by_cases h15 : x = 15
  · simp [h15]
  have n15 : ¬ x.toInt = 15 := fun q => h15 (Int32.toInt_inj.mp (q.trans (by decide)))
  by_cases h16 : x = 16
  · simp [h16]
  have n16 : ¬ x.toInt = 16 := fun q => h16 (Int32.toInt_inj.mp (q.trans (by decide)))
  by_cases h17 : x = 17
  · simp [h17]
  have n17 : ¬ x.toInt = 17 := fun q => h17 (Int32.toInt_inj.mp (q.trans (by decide)))
  by_cases h18 : x = 18
  · simp [h18]
  have n18 : ¬ x.toInt = 18 := fun q => h18 (Int32.toInt_inj.mp (q.trans (by decide)))
  by_cases h19 : x = 19
  · simp [h19]
  have n19 : ¬ x.toInt = 19 := fun q => h19 (Int32.toInt_inj.mp (q.trans (by decide)))
  by_cases h20 : x = 20
  · simp [h20]
  have n20 : ¬ x.toInt = 20 := fun q => h20 (Int32.toInt_inj.mp (q.trans (by decide)))
  exact Or.inl (by omega)
theorem sw_0_5 (x : Int32) : (x.toInt < 0 ∨ 5 < x.toInt) ∨ x = 0 ∨ x = 1 ∨ x = 2 ∨ x = 3 ∨ x = 4 ∨ x = 5 := by
  by_cases h0 : x = 0
  · simp [h0]
  have n0 : ¬ x.toInt = 0 := fun q => h0 (Int32.toInt_inj.mp (q.trans (by decide)))
  by_cases h1 : x = 1
  · simp [h1]
  have n1 : ¬ x.toInt = 1 := fun q => h1 (Int32.toInt_inj.mp (q.trans (by decide)))
  by_cases h2 : x = 2
  · simp [h2]
  have n2 : ¬ x.toInt = 2 := fun q => h2 (Int32.toInt_inj.mp (q.trans (by decide)))
  by_cases h3 : x = 3
  · simp [h3]
  have n3 : ¬ x.toInt = 3 := fun q => h3 (Int32.toInt_inj.mp (q.trans (by decide)))
  by_cases h4 : x = 4
  · simp [h4]
  have n4 : ¬ x.toInt = 4 := fun q => h4 (Int32.toInt_inj.mp (q.trans (by decide)))
  by_cases h5 : x = 5
  · simp [h5]
  have n5 : ¬ x.toInt = 5 := fun q => h5 (Int32.toInt_inj.mp (q.trans (by decide)))
  exact Or.inl (by omega)
set_option maxHeartbeats 4000000 in
set_option maxRecDepth 100000 in
theorem C_Mo_term {w : zC} {Z : zZ} {Q : zR → zZ → Prop} {ad : Nat → Nat} {S : ST} (hR : Rep w ad S Z) (hI : mInv S) {g x s : Int32} {k : Nat} (hk : k < 160) (hs : s = 2 ∨ k < 40) (hx : g = 1 → ∃ j, j < 8 ∧ x = nI j) (hQ : Q (.inl (some (.long (tmR S g x s k)))) Z) : Cz w (2, 55) y_Mo_term (Cond.code y_Mo_term c_Mo_term 5 r_Mo_term :: wz) [.ref (ad 600), .int g, .int x, .int s, .int (nI k)] Z Q := by
  refine Cz.of (by decide +kernel) (by simp [lg_sl, Value.category]) ?_
  show G _ _ _ _ _ _ _ _ [(0, _), (1, _), (2, _), (3, _), (4, _)] _ _
  have hm : zhs Z (ad 600) (.inr (10, [.int (sI S 600 0), .ref (ad 701), .int (nI (sN S 20)), .int (nI (sN S 21)), .int (nI (sN S 22)), .ref (ad 705), .ref (ad 706), .ref (ad 707), .ref (ad 708), .ref (ad 709), .ref (ad 710), .ref (ad 711), .int (nI (sN S 23)), .ref (ad 713), .ref (ad 714), .ref (ad 715), .ref (ad 716), .int (nI (sN S 24)), .int (nI (sN S 25)), .ref (ad 719), .ref (ad 720), .ref (ad 721), .ref (ad 722), .ref (ad 723), .ref (ad 724), .int (sI S 600 25), .ref (ad 726), .ref (ad 727), .ref (ad 728), .int (sI S 600 29), .int (nI (sN S 26)), .ref (ad 731), .ref (ad 732), .int (nI (sN S 27)), .int (nI (sN S 28)), .int (nI (sN S 29)), .int (nI (sN S 30)), .ref (ad 737), .int (nI (sN S 31)), .int (nI (sN S 32)), .int (sI S 600 40), .ref (ad 741)])) := hR.m
  have m706 : zhs Z (ad 706) (xl w 320 (sJ S 706)) := hR.ma 706 (by decide)
  have m708 : zhs Z (ad 708) (xi w 40 (sI S 708)) := hR.ma 708 (by decide)
  have m710 : zhs Z (ad 710) (xi w 160 (sI S 710)) := hR.ma 710 (by decide)
  have m711 : zhs Z (ad 711) (xi w 160 (sI S 711)) := hR.ma 711 (by decide)
  have J : ∀ i j, mL i → mL j → i ≠ j → ad i ≠ ad j := fun i j hi hj hne => hR.inj (lvL hi) (lvL hj) hne
  obtain ⟨Z0, hZ0⟩ : ∃ Z0, Z0 = Z := ⟨_, rfl⟩
  have hB : Z.2.2 = Z0.2.2 := by rw [hZ0]
  refine g_iload_n d_Mo_term_0 rfl 1 rfl ?_
  rcases sw_0_5 g with h1 | rfl | rfl | rfl | rfl | rfl | rfl
  · refine g_tableOut (tgt := 136) d_Mo_term_1 h1 (by decide) ?_
    unfold tmR at hQ
    rw [if_neg (show ¬ g = 0 from fun z => by subst z; exact absurd h1 (by decide)), if_neg (show ¬ g = 1 from fun z => by subst z; exact absurd h1 (by decide)), if_neg (show ¬ g = 2 from fun z => by subst z; exact absurd h1 (by decide)), if_neg (show ¬ g = 3 from fun z => by subst z; exact absurd h1 (by decide)), if_neg (show ¬ g = 4 from fun z => by subst z; exact absurd h1 (by decide)), if_neg (show ¬ g = 5 from fun z => by subst z; exact absurd h1 (by decide))] at hQ
    refine g_aload_nq d_Mo_term_136 rfl 0 rfl ?_
    refine g_iload_n d_Mo_term_137 rfl 3 rfl ?_
    refine g_iload d_Mo_term_138 4 rfl ?_
    refine g_iload_n d_Mo_term_140 rfl 2 rfl ?_
    refine g_callV d_Mo_term_141 k_Mo_pinsOf l_Mo_220 i_Mo_pinsOf rfl p_Mo_pinsOf hm (by rfl) (by rfl) (Nat.le_of_ble_eq_true rfl) (by decide) (C_Mo_pinsOf hR hI ⟨_, rfl, ?_⟩)
    refine g_i2l d_Mo_term_144 rfl ?_
    refine g_lret d_Mo_term_145 ?_
    exact hQ
  · refine g_tableIn (tgt := 40) d_Mo_term_1 (by decide) (by decide) rfl (by decide) ?_
    unfold tmR at hQ
    rw [if_pos rfl] at hQ
    refine g_iload_n d_Mo_term_40 rfl 2 rfl ?_
    refine g_i2l d_Mo_term_41 rfl ?_
    refine g_lret d_Mo_term_42 ?_
    exact hQ
  · refine g_tableIn (tgt := 43) d_Mo_term_1 (by decide) (by decide) rfl (by decide) ?_
    obtain ⟨j, hj, rfl⟩ := hx rfl
    have hp := ptO_lt hI hk hs
    unfold tmR at hQ
    rw [if_neg (by decide), if_pos rfl] at hQ
    rw [nI_clamp (by omega)] at hQ
    refine g_aload_nq d_Mo_term_43 rfl 0 rfl ?_
    refine g_get d_Mo_term_44 f_Mo_16_Mo (by assumption) (by first | rfl | assumption) ?_
    refine g_bipush (v := 8) d_Mo_term_47 rfl ?_
    refine g_aload_nq d_Mo_term_49 rfl 0 rfl ?_
    refine g_iload_n d_Mo_term_50 rfl 3 rfl ?_
    refine g_iload d_Mo_term_51 4 rfl ?_
    refine g_callV d_Mo_term_53 k_Mo_partOf l_Mo_216 i_Mo_partOf rfl p_Mo_partOf hm (by rfl) (by rfl) (Nat.le_of_ble_eq_true rfl) (by decide) (C_Mo_partOf hR hI hk ⟨_, rfl, ?_⟩)
    refine g_imul d_Mo_term_56 ?_
    rw [show (8 : Int32) = nI 8 from rfl, pk_mul]
    refine g_iload_n d_Mo_term_57 rfl 2 rfl ?_
    refine g_iadd d_Mo_term_58 ?_
    rw [nI_add]
    refine g_lald d_Mo_term_59 (by assumption) (vp_in_nI (by omega) (by decide)) ?_
    rw [nI_clamp (by omega)]
    refine g_lret d_Mo_term_60 ?_
    exact hQ
  · refine g_tableIn (tgt := 61) d_Mo_term_1 (by decide) (by decide) rfl (by decide) ?_
    unfold tmR at hQ
    rw [if_neg (by decide), if_neg (by decide), if_pos rfl] at hQ
    refine g_aload_nq d_Mo_term_61 rfl 0 rfl ?_
    refine g_iload_n d_Mo_term_62 rfl 3 rfl ?_
    refine g_iload d_Mo_term_63 4 rfl ?_
    refine g_iconst (v := (-1)) d_Mo_term_65 rfl ?_
    refine g_callV d_Mo_term_66 k_Mo_pinsOf l_Mo_220 i_Mo_pinsOf rfl p_Mo_pinsOf hm (by rfl) (by rfl) (Nat.le_of_ble_eq_true rfl) (by decide) (C_Mo_pinsOf hR hI ⟨_, rfl, ?_⟩)
    refine g_i2l d_Mo_term_69 rfl ?_
    refine g_lret d_Mo_term_70 ?_
    exact hQ
  · refine g_tableIn (tgt := 71) d_Mo_term_1 (by decide) (by decide) rfl (by decide) ?_
    unfold tmR at hQ
    rw [if_neg (by decide), if_neg (by decide), if_neg (by decide), if_pos rfl] at hQ
    refine g_aload_nq d_Mo_term_71 rfl 0 rfl ?_
    refine g_get d_Mo_term_72 f_Mo_32_Mo (by assumption) (by first | rfl | assumption) ?_
    refine g_iload d_Mo_term_75 4 rfl ?_
    refine g_iald d_Mo_term_77 (by assumption) (vp_in_nI (n := k) (by omega) (by decide)) ?_
    rw [nI_clamp (by omega)]
    refine g_i2l d_Mo_term_78 rfl ?_
    refine g_lret d_Mo_term_79 ?_
    exact hQ
  · refine g_tableIn (tgt := 80) d_Mo_term_1 (by decide) (by decide) rfl (by decide) ?_
    unfold tmR at hQ
    rw [if_neg (by decide), if_neg (by decide), if_neg (by decide), if_neg (by decide), if_pos rfl] at hQ
    refine g_iload_n d_Mo_term_80 rfl 3 rfl ?_
    refine g_iconst (v := 1) d_Mo_term_81 rfl ?_
    refine g_icmp_ne (tgt := 96) d_Mo_term_82 (by decide) (fun h82 => ?_) (fun h82 => ?_)
    · rw [if_neg h82] at hQ
      refine g_aload_nq d_Mo_term_96 rfl 0 rfl ?_
      refine g_get d_Mo_term_97 f_Mo_29_Mo (by assumption) (by first | rfl | assumption) ?_
      refine g_iload d_Mo_term_100 4 rfl ?_
      refine g_iald d_Mo_term_102 (by assumption) (vp_in_nI (n := k) (by omega) (by decide)) ?_
      rw [nI_clamp (by omega)]
      refine g_iconst (v := (-1)) d_Mo_term_103 rfl ?_
      refine g_icmp_ne (tgt := 113) d_Mo_term_104 (by decide) (fun h104 => ?_) (fun h104 => ?_)
      · rw [if_neg h104] at hQ
        obtain ⟨n, hn, en⟩ : ∃ n, n < 40 ∧ sI S 710 k = nI n := by rcases hI.2.2.1 k hk with z | z; exact absurd z h104; exact z
        rw [en, nI_clamp (by omega)] at hQ
        refine g_aload_nq d_Mo_term_113 rfl 0 rfl ?_
        refine g_get d_Mo_term_114 f_Mo_23_Mo (by assumption) (by first | rfl | assumption) ?_
        refine g_aload_nq d_Mo_term_117 rfl 0 rfl ?_
        refine g_get d_Mo_term_118 f_Mo_29_Mo (by assumption) (by first | rfl | assumption) ?_
        refine g_iload d_Mo_term_121 4 rfl ?_
        refine g_iald d_Mo_term_123 (by assumption) (vp_in_nI (n := k) (by omega) (by decide)) ?_
        rw [nI_clamp (by omega)]
        rw [en]
        refine g_iald d_Mo_term_124 (by assumption) (vp_in_nI (n := n) (by omega) (by decide)) ?_
        rw [nI_clamp (by omega)]
        refine g_i2l d_Mo_term_125 rfl ?_
        refine g_lret d_Mo_term_126 ?_
        exact hQ
      · rw [if_pos h104] at hQ
        refine g_ldc2 v_Mo_224 d_Mo_term_107 ?_
        refine g_goto (tgt := 126) d_Mo_term_110 (by decide) ?_
        refine g_lret d_Mo_term_126 ?_
        exact hQ
    · rw [if_pos h82] at hQ
      have h40 : k < 40 := by rcases hs with rfl | hs; exact absurd h82 (by decide); exact hs
      refine g_aload_nq d_Mo_term_85 rfl 0 rfl ?_
      refine g_get d_Mo_term_86 f_Mo_23_Mo (by assumption) (by first | rfl | assumption) ?_
      refine g_iload d_Mo_term_89 4 rfl ?_
      refine g_iald d_Mo_term_91 (by assumption) (vp_in_nI (n := k) h40 (by decide)) ?_
      rw [nI_clamp (by omega)]
      refine g_i2l d_Mo_term_92 rfl ?_
      refine g_goto (tgt := 126) d_Mo_term_93 (by decide) ?_
      refine g_lret d_Mo_term_126 ?_
      exact hQ
  · refine g_tableIn (tgt := 127) d_Mo_term_1 (by decide) (by decide) rfl (by decide) ?_
    unfold tmR at hQ
    rw [if_neg (by decide), if_neg (by decide), if_neg (by decide), if_neg (by decide), if_neg (by decide), if_pos rfl] at hQ
    refine g_aload_nq d_Mo_term_127 rfl 0 rfl ?_
    refine g_iload_n d_Mo_term_128 rfl 3 rfl ?_
    refine g_iload d_Mo_term_129 4 rfl ?_
    refine g_callV d_Mo_term_131 k_Mo_sheetOf l_Mo_226 i_Mo_sheetOf rfl p_Mo_sheetOf hm (by rfl) (by rfl) (Nat.le_of_ble_eq_true rfl) (by decide) (C_Mo_sheetOf hR hI hk hs ⟨_, rfl, ?_⟩)
    refine g_i2l d_Mo_term_134 rfl ?_
    refine g_lret d_Mo_term_135 ?_
    exact hQ

theorem rsl_d {g : Int32} {a b : Int64} (h4 : g.toInt < 10 ∨ 20 < g.toInt) : rsl g a b = zl (¬ a = 0 ∨ ¬ b = 0) := by
  have hn : ∀ j : Int32, j ∈ [10, 11, 12, 13, 14, 15, 16, 17, 18, 20] → ¬ g = j := fun j hj z => by
    subst z
    simp only [List.mem_cons, List.not_mem_nil, or_false] at hj
    rcases hj with rfl | rfl | rfl | rfl | rfl | rfl | rfl | rfl | rfl | rfl <;> exact absurd h4 (by decide)
  unfold rsl
  rw [if_neg (hn 10 (by decide)), if_neg (hn 11 (by decide)), if_neg (hn 12 (by decide)), if_neg (hn 13 (by decide)), if_neg (hn 14 (by decide)), if_neg (hn 15 (by decide)), if_neg (hn 16 (by decide)), if_neg (hn 17 (by decide)), if_neg (hn 18 (by decide)), if_neg (hn 20 (by decide))]

set_option maxHeartbeats 4000000 in
set_option maxRecDepth 100000 in
theorem E1_Mo_result {w : zC} {Z : zZ} {Q : zR → zZ → Prop} {g : Int32} {a b : Int64} (hQ : Q (.inl (some (.long 1))) Z) : G w y_Mo_result c_Mo_result 6 r_Mo_result (0, 0) Q 213 [(5, .int 1), (0, .int g), (1, .long a), (3, .long b)] [] Z := by
  refine g_iload d_Mo_result_213 0 rfl ?_
  first | refine g_if_eqB (tgt := 222) d_Mo_result_215 (by decide) (fun h215 => ?_) (fun h215 => ?_) | refine g_if_eq (tgt := 222) d_Mo_result_215 (by decide) (fun h215 => ?_) (fun h215 => ?_)
  · exact absurd h215 (by decide)
  · refine g_lconst (v := 1) d_Mo_result_218 rfl ?_
    refine g_goto (tgt := 223) d_Mo_result_219 (by decide) ?_
    refine g_lret d_Mo_result_223 ?_
    exact hQ

set_option maxHeartbeats 4000000 in
set_option maxRecDepth 100000 in
theorem E0_Mo_result {w : zC} {Z : zZ} {Q : zR → zZ → Prop} {g : Int32} {a b : Int64} (hQ : Q (.inl (some (.long 0))) Z) : G w y_Mo_result c_Mo_result 6 r_Mo_result (0, 0) Q 213 [(5, .int 0), (0, .int g), (1, .long a), (3, .long b)] [] Z := by
  refine g_iload d_Mo_result_213 0 rfl ?_
  first | refine g_if_eqB (tgt := 222) d_Mo_result_215 (by decide) (fun h215 => ?_) (fun h215 => ?_) | refine g_if_eq (tgt := 222) d_Mo_result_215 (by decide) (fun h215 => ?_) (fun h215 => ?_)
  · refine g_lconst (v := 0) d_Mo_result_222 rfl ?_
    refine g_lret d_Mo_result_223 ?_
    exact hQ
  · exact absurd rfl h215

set_option maxHeartbeats 4000000 in
set_option maxRecDepth 100000 in
theorem C_Mo_result {w : zC} {Z : zZ} {Q : zR → zZ → Prop} {g : Int32} {a b : Int64} (hQ : Q (.inl (some (.long (rsl g a b)))) Z) : Cz w (0, 0) y_Mo_result (Cond.code y_Mo_result c_Mo_result 6 r_Mo_result :: wz) [.int g, .long a, .long b] Z Q := by
  refine Cz.of (by decide +kernel) (by simp [lg_sl, Value.category]) ?_
  show G _ _ _ _ _ _ _ _ [(0, _), (1, _), (3, _)] _ _
  refine g_iconst (v := 0) d_Mo_result_0 rfl ?_
  refine g_istore d_Mo_result_1 (by decide) rfl ?_
  show G _ _ _ _ _ _ _ _ [(5, _), (0, _), (1, _), (3, _)] _ _
  refine g_iload_n d_Mo_result_3 rfl 1 rfl ?_
  rcases sw_10_20 g with h4 | rfl | rfl | rfl | rfl | rfl | rfl | rfl | rfl | rfl | rfl | rfl
  · refine g_tableOut (tgt := 194) d_Mo_result_4 h4 (by decide) ?_
    first | rw [rsl_d h4] at hQ | rw [show rsl 19 a b = zl (¬ a = 0 ∨ ¬ b = 0) from rfl] at hQ
    refine g_lload_n d_Mo_result_194 rfl 2 rfl ?_
    refine g_lconst (v := 0) d_Mo_result_195 rfl ?_
    refine g_lcmp d_Mo_result_196 ?_
    refine g_if_ne (tgt := 206) d_Mo_result_197 (by decide) (fun h197 => ?_) (fun h197 => ?_)
    · rw [lg_cmp_eq] at h197
      rw [zl_t (Or.inl h197)] at hQ
      refine g_iconst (v := 1) d_Mo_result_206 rfl ?_
      refine g_goto (tgt := 211) d_Mo_result_207 (by decide) ?_
      refine g_istore d_Mo_result_211 (by decide) rfl ?_
      show G _ _ _ _ _ _ _ _ [(5, _), (0, _), (1, _), (3, _)] _ _
      first | exact E1_Mo_result hQ | exact E0_Mo_result hQ
    · rw [lg_cmp_eq] at h197
      refine g_lload_n d_Mo_result_200 rfl 3 rfl ?_
      refine g_lconst (v := 0) d_Mo_result_201 rfl ?_
      refine g_lcmp d_Mo_result_202 ?_
      refine g_if_eq (tgt := 210) d_Mo_result_203 (by decide) (fun h203 => ?_) (fun h203 => ?_)
      · rw [lg_cmp_eq] at h203
        rw [zl_f (fun z => by rcases z with z | z; exact z h197; exact z h203)] at hQ
        refine g_iconst (v := 0) d_Mo_result_210 rfl ?_
        refine g_istore d_Mo_result_211 (by decide) rfl ?_
        show G _ _ _ _ _ _ _ _ [(5, _), (0, _), (1, _), (3, _)] _ _
        first | exact E1_Mo_result hQ | exact E0_Mo_result hQ
      · rw [lg_cmp_eq] at h203
        rw [zl_t (Or.inr h203)] at hQ
        refine g_iconst (v := 1) d_Mo_result_206 rfl ?_
        refine g_goto (tgt := 211) d_Mo_result_207 (by decide) ?_
        refine g_istore d_Mo_result_211 (by decide) rfl ?_
        show G _ _ _ _ _ _ _ _ [(5, _), (0, _), (1, _), (3, _)] _ _
        first | exact E1_Mo_result hQ | exact E0_Mo_result hQ
  · refine g_tableIn (tgt := 64) d_Mo_result_4 (by decide) (by decide) rfl (by decide) ?_
    unfold rsl at hQ
    rw [if_pos rfl] at hQ
    refine g_lload_n d_Mo_result_64 rfl 2 rfl ?_
    refine g_lload_n d_Mo_result_65 rfl 3 rfl ?_
    refine g_lmul d_Mo_result_66 ?_
    refine g_lret d_Mo_result_67 ?_
    exact hQ
  · refine g_tableIn (tgt := 68) d_Mo_result_4 (by decide) (by decide) rfl (by decide) ?_
    unfold rsl at hQ
    rw [if_neg (by decide), if_pos rfl] at hQ
    refine g_lload_n d_Mo_result_68 rfl 2 rfl ?_
    refine g_lload_n d_Mo_result_69 rfl 3 rfl ?_
    refine g_ladd d_Mo_result_70 ?_
    refine g_lret d_Mo_result_71 ?_
    exact hQ
  · refine g_tableIn (tgt := 72) d_Mo_result_4 (by decide) (by decide) rfl (by decide) ?_
    unfold rsl at hQ
    rw [if_neg (by decide), if_neg (by decide), if_pos rfl] at hQ
    refine g_lload_n d_Mo_result_72 rfl 2 rfl ?_
    refine g_lload_n d_Mo_result_73 rfl 3 rfl ?_
    refine g_lsub d_Mo_result_74 ?_
    refine g_lret d_Mo_result_75 ?_
    exact hQ
  · refine g_tableIn (tgt := 76) d_Mo_result_4 (by decide) (by decide) rfl (by decide) ?_
    unfold rsl at hQ
    rw [if_neg (by decide), if_neg (by decide), if_neg (by decide), if_pos rfl] at hQ
    refine g_lload_n d_Mo_result_76 rfl 2 rfl ?_
    refine g_lload_n d_Mo_result_77 rfl 3 rfl ?_
    refine g_lcmp d_Mo_result_78 ?_
    refine g_if_ne (tgt := 86) d_Mo_result_79 (by decide) (fun h79 => ?_) (fun h79 => ?_)
    · rw [lg_cmp_eq] at h79
      rw [zl_f h79] at hQ
      refine g_iconst (v := 0) d_Mo_result_86 rfl ?_
      refine g_istore d_Mo_result_87 (by decide) rfl ?_
      show G _ _ _ _ _ _ _ _ [(5, _), (0, _), (1, _), (3, _)] _ _
      refine g_goto (tgt := 213) d_Mo_result_89 (by decide) ?_
      first | exact E1_Mo_result hQ | exact E0_Mo_result hQ
    · rw [lg_cmp_eq] at h79
      rw [zl_t h79] at hQ
      refine g_iconst (v := 1) d_Mo_result_82 rfl ?_
      refine g_goto (tgt := 87) d_Mo_result_83 (by decide) ?_
      refine g_istore d_Mo_result_87 (by decide) rfl ?_
      show G _ _ _ _ _ _ _ _ [(5, _), (0, _), (1, _), (3, _)] _ _
      refine g_goto (tgt := 213) d_Mo_result_89 (by decide) ?_
      first | exact E1_Mo_result hQ | exact E0_Mo_result hQ
  · refine g_tableIn (tgt := 92) d_Mo_result_4 (by decide) (by decide) rfl (by decide) ?_
    unfold rsl at hQ
    rw [if_neg (by decide), if_neg (by decide), if_neg (by decide), if_neg (by decide), if_pos rfl] at hQ
    refine g_lload_n d_Mo_result_92 rfl 2 rfl ?_
    refine g_lload_n d_Mo_result_93 rfl 3 rfl ?_
    refine g_lcmp d_Mo_result_94 ?_
    refine g_if_eq (tgt := 102) d_Mo_result_95 (by decide) (fun h95 => ?_) (fun h95 => ?_)
    · rw [lg_cmp_eq] at h95
      rw [zl_f (fun z => z h95)] at hQ
      refine g_iconst (v := 0) d_Mo_result_102 rfl ?_
      refine g_istore d_Mo_result_103 (by decide) rfl ?_
      show G _ _ _ _ _ _ _ _ [(5, _), (0, _), (1, _), (3, _)] _ _
      refine g_goto (tgt := 213) d_Mo_result_105 (by decide) ?_
      first | exact E1_Mo_result hQ | exact E0_Mo_result hQ
    · rw [lg_cmp_eq] at h95
      rw [zl_t h95] at hQ
      refine g_iconst (v := 1) d_Mo_result_98 rfl ?_
      refine g_goto (tgt := 103) d_Mo_result_99 (by decide) ?_
      refine g_istore d_Mo_result_103 (by decide) rfl ?_
      show G _ _ _ _ _ _ _ _ [(5, _), (0, _), (1, _), (3, _)] _ _
      refine g_goto (tgt := 213) d_Mo_result_105 (by decide) ?_
      first | exact E1_Mo_result hQ | exact E0_Mo_result hQ
  · refine g_tableIn (tgt := 108) d_Mo_result_4 (by decide) (by decide) rfl (by decide) ?_
    unfold rsl at hQ
    rw [if_neg (by decide), if_neg (by decide), if_neg (by decide), if_neg (by decide), if_neg (by decide), if_pos rfl] at hQ
    refine g_lload_n d_Mo_result_108 rfl 2 rfl ?_
    refine g_lload_n d_Mo_result_109 rfl 3 rfl ?_
    refine g_lcmp d_Mo_result_110 ?_
    refine g_if_ge (tgt := 118) d_Mo_result_111 (by decide) (fun h111 => ?_) (fun h111 => ?_)
    · rw [lg_cmp_ge] at h111
      rw [zl_f (Int64.not_lt.mpr h111)] at hQ
      refine g_iconst (v := 0) d_Mo_result_118 rfl ?_
      refine g_istore d_Mo_result_119 (by decide) rfl ?_
      show G _ _ _ _ _ _ _ _ [(5, _), (0, _), (1, _), (3, _)] _ _
      refine g_goto (tgt := 213) d_Mo_result_121 (by decide) ?_
      first | exact E1_Mo_result hQ | exact E0_Mo_result hQ
    · rw [lg_cmp_ge] at h111
      rw [zl_t (Int64.not_le.mp h111)] at hQ
      refine g_iconst (v := 1) d_Mo_result_114 rfl ?_
      refine g_goto (tgt := 119) d_Mo_result_115 (by decide) ?_
      refine g_istore d_Mo_result_119 (by decide) rfl ?_
      show G _ _ _ _ _ _ _ _ [(5, _), (0, _), (1, _), (3, _)] _ _
      refine g_goto (tgt := 213) d_Mo_result_121 (by decide) ?_
      first | exact E1_Mo_result hQ | exact E0_Mo_result hQ
  · refine g_tableIn (tgt := 124) d_Mo_result_4 (by decide) (by decide) rfl (by decide) ?_
    unfold rsl at hQ
    rw [if_neg (by decide), if_neg (by decide), if_neg (by decide), if_neg (by decide), if_neg (by decide), if_neg (by decide), if_pos rfl] at hQ
    refine g_lload_n d_Mo_result_124 rfl 2 rfl ?_
    refine g_lload_n d_Mo_result_125 rfl 3 rfl ?_
    refine g_lcmp d_Mo_result_126 ?_
    refine g_if_le (tgt := 134) d_Mo_result_127 (by decide) (fun h127 => ?_) (fun h127 => ?_)
    · rw [lg_cmp_le] at h127
      rw [zl_f (Int64.not_lt.mpr h127)] at hQ
      refine g_iconst (v := 0) d_Mo_result_134 rfl ?_
      refine g_istore d_Mo_result_135 (by decide) rfl ?_
      show G _ _ _ _ _ _ _ _ [(5, _), (0, _), (1, _), (3, _)] _ _
      refine g_goto (tgt := 213) d_Mo_result_137 (by decide) ?_
      first | exact E1_Mo_result hQ | exact E0_Mo_result hQ
    · rw [lg_cmp_le] at h127
      rw [zl_t (Int64.not_le.mp h127)] at hQ
      refine g_iconst (v := 1) d_Mo_result_130 rfl ?_
      refine g_goto (tgt := 135) d_Mo_result_131 (by decide) ?_
      refine g_istore d_Mo_result_135 (by decide) rfl ?_
      show G _ _ _ _ _ _ _ _ [(5, _), (0, _), (1, _), (3, _)] _ _
      refine g_goto (tgt := 213) d_Mo_result_137 (by decide) ?_
      first | exact E1_Mo_result hQ | exact E0_Mo_result hQ
  · refine g_tableIn (tgt := 140) d_Mo_result_4 (by decide) (by decide) rfl (by decide) ?_
    unfold rsl at hQ
    rw [if_neg (by decide), if_neg (by decide), if_neg (by decide), if_neg (by decide), if_neg (by decide), if_neg (by decide), if_neg (by decide), if_pos rfl] at hQ
    refine g_lload_n d_Mo_result_140 rfl 2 rfl ?_
    refine g_lload_n d_Mo_result_141 rfl 3 rfl ?_
    refine g_lcmp d_Mo_result_142 ?_
    refine g_if_lt (tgt := 150) d_Mo_result_143 (by decide) (fun h143 => ?_) (fun h143 => ?_)
    · rw [lg_cmp_lt] at h143
      rw [zl_f (Int64.not_le.mpr h143)] at hQ
      refine g_iconst (v := 0) d_Mo_result_150 rfl ?_
      refine g_istore d_Mo_result_151 (by decide) rfl ?_
      show G _ _ _ _ _ _ _ _ [(5, _), (0, _), (1, _), (3, _)] _ _
      refine g_goto (tgt := 213) d_Mo_result_153 (by decide) ?_
      first | exact E1_Mo_result hQ | exact E0_Mo_result hQ
    · rw [lg_cmp_lt] at h143
      rw [zl_t (Int64.not_lt.mp h143)] at hQ
      refine g_iconst (v := 1) d_Mo_result_146 rfl ?_
      refine g_goto (tgt := 151) d_Mo_result_147 (by decide) ?_
      refine g_istore d_Mo_result_151 (by decide) rfl ?_
      show G _ _ _ _ _ _ _ _ [(5, _), (0, _), (1, _), (3, _)] _ _
      refine g_goto (tgt := 213) d_Mo_result_153 (by decide) ?_
      first | exact E1_Mo_result hQ | exact E0_Mo_result hQ
  · refine g_tableIn (tgt := 156) d_Mo_result_4 (by decide) (by decide) rfl (by decide) ?_
    unfold rsl at hQ
    rw [if_neg (by decide), if_neg (by decide), if_neg (by decide), if_neg (by decide), if_neg (by decide), if_neg (by decide), if_neg (by decide), if_neg (by decide), if_pos rfl] at hQ
    refine g_lload_n d_Mo_result_156 rfl 2 rfl ?_
    refine g_lload_n d_Mo_result_157 rfl 3 rfl ?_
    refine g_lcmp d_Mo_result_158 ?_
    refine g_if_gt (tgt := 166) d_Mo_result_159 (by decide) (fun h159 => ?_) (fun h159 => ?_)
    · rw [lg_cmp_gt] at h159
      rw [zl_f (Int64.not_le.mpr h159)] at hQ
      refine g_iconst (v := 0) d_Mo_result_166 rfl ?_
      refine g_istore d_Mo_result_167 (by decide) rfl ?_
      show G _ _ _ _ _ _ _ _ [(5, _), (0, _), (1, _), (3, _)] _ _
      refine g_goto (tgt := 213) d_Mo_result_169 (by decide) ?_
      first | exact E1_Mo_result hQ | exact E0_Mo_result hQ
    · rw [lg_cmp_gt] at h159
      rw [zl_t (Int64.not_lt.mp h159)] at hQ
      refine g_iconst (v := 1) d_Mo_result_162 rfl ?_
      refine g_goto (tgt := 167) d_Mo_result_163 (by decide) ?_
      refine g_istore d_Mo_result_167 (by decide) rfl ?_
      show G _ _ _ _ _ _ _ _ [(5, _), (0, _), (1, _), (3, _)] _ _
      refine g_goto (tgt := 213) d_Mo_result_169 (by decide) ?_
      first | exact E1_Mo_result hQ | exact E0_Mo_result hQ
  · refine g_tableIn (tgt := 194) d_Mo_result_4 (by decide) (by decide) rfl (by decide) ?_
    first | rw [rsl_d h4] at hQ | rw [show rsl 19 a b = zl (¬ a = 0 ∨ ¬ b = 0) from rfl] at hQ
    refine g_lload_n d_Mo_result_194 rfl 2 rfl ?_
    refine g_lconst (v := 0) d_Mo_result_195 rfl ?_
    refine g_lcmp d_Mo_result_196 ?_
    refine g_if_ne (tgt := 206) d_Mo_result_197 (by decide) (fun h197 => ?_) (fun h197 => ?_)
    · rw [lg_cmp_eq] at h197
      rw [zl_t (Or.inl h197)] at hQ
      refine g_iconst (v := 1) d_Mo_result_206 rfl ?_
      refine g_goto (tgt := 211) d_Mo_result_207 (by decide) ?_
      refine g_istore d_Mo_result_211 (by decide) rfl ?_
      show G _ _ _ _ _ _ _ _ [(5, _), (0, _), (1, _), (3, _)] _ _
      first | exact E1_Mo_result hQ | exact E0_Mo_result hQ
    · rw [lg_cmp_eq] at h197
      refine g_lload_n d_Mo_result_200 rfl 3 rfl ?_
      refine g_lconst (v := 0) d_Mo_result_201 rfl ?_
      refine g_lcmp d_Mo_result_202 ?_
      refine g_if_eq (tgt := 210) d_Mo_result_203 (by decide) (fun h203 => ?_) (fun h203 => ?_)
      · rw [lg_cmp_eq] at h203
        rw [zl_f (fun z => by rcases z with z | z; exact z h197; exact z h203)] at hQ
        refine g_iconst (v := 0) d_Mo_result_210 rfl ?_
        refine g_istore d_Mo_result_211 (by decide) rfl ?_
        show G _ _ _ _ _ _ _ _ [(5, _), (0, _), (1, _), (3, _)] _ _
        first | exact E1_Mo_result hQ | exact E0_Mo_result hQ
      · rw [lg_cmp_eq] at h203
        rw [zl_t (Or.inr h203)] at hQ
        refine g_iconst (v := 1) d_Mo_result_206 rfl ?_
        refine g_goto (tgt := 211) d_Mo_result_207 (by decide) ?_
        refine g_istore d_Mo_result_211 (by decide) rfl ?_
        show G _ _ _ _ _ _ _ _ [(5, _), (0, _), (1, _), (3, _)] _ _
        first | exact E1_Mo_result hQ | exact E0_Mo_result hQ
  · refine g_tableIn (tgt := 172) d_Mo_result_4 (by decide) (by decide) rfl (by decide) ?_
    unfold rsl at hQ
    rw [if_neg (by decide), if_neg (by decide), if_neg (by decide), if_neg (by decide), if_neg (by decide), if_neg (by decide), if_neg (by decide), if_neg (by decide), if_neg (by decide), if_pos rfl] at hQ
    refine g_lload_n d_Mo_result_172 rfl 2 rfl ?_
    refine g_lconst (v := 0) d_Mo_result_173 rfl ?_
    refine g_lcmp d_Mo_result_174 ?_
    refine g_if_eq (tgt := 188) d_Mo_result_175 (by decide) (fun h175 => ?_) (fun h175 => ?_)
    · rw [lg_cmp_eq] at h175
      rw [zl_f (fun z => z.1 h175)] at hQ
      refine g_iconst (v := 0) d_Mo_result_188 rfl ?_
      refine g_istore d_Mo_result_189 (by decide) rfl ?_
      show G _ _ _ _ _ _ _ _ [(5, _), (0, _), (1, _), (3, _)] _ _
      refine g_goto (tgt := 213) d_Mo_result_191 (by decide) ?_
      first | exact E1_Mo_result hQ | exact E0_Mo_result hQ
    · rw [lg_cmp_eq] at h175
      refine g_lload_n d_Mo_result_178 rfl 3 rfl ?_
      refine g_lconst (v := 0) d_Mo_result_179 rfl ?_
      refine g_lcmp d_Mo_result_180 ?_
      refine g_if_eq (tgt := 188) d_Mo_result_181 (by decide) (fun h181 => ?_) (fun h181 => ?_)
      · rw [lg_cmp_eq] at h181
        rw [zl_f (fun z => z.2 h181)] at hQ
        refine g_iconst (v := 0) d_Mo_result_188 rfl ?_
        refine g_istore d_Mo_result_189 (by decide) rfl ?_
        show G _ _ _ _ _ _ _ _ [(5, _), (0, _), (1, _), (3, _)] _ _
        refine g_goto (tgt := 213) d_Mo_result_191 (by decide) ?_
        first | exact E1_Mo_result hQ | exact E0_Mo_result hQ
      · rw [lg_cmp_eq] at h181
        rw [zl_t ⟨h175, h181⟩] at hQ
        refine g_iconst (v := 1) d_Mo_result_184 rfl ?_
        refine g_goto (tgt := 189) d_Mo_result_185 (by decide) ?_
        refine g_istore d_Mo_result_189 (by decide) rfl ?_
        show G _ _ _ _ _ _ _ _ [(5, _), (0, _), (1, _), (3, _)] _ _
        refine g_goto (tgt := 213) d_Mo_result_191 (by decide) ?_
        first | exact E1_Mo_result hQ | exact E0_Mo_result hQ

/-- what the counts and terms read -/
def rdR (S S' : ST) : Prop := S'.1 = S.1 ∧ sJ S' 706 = sJ S 706 ∧ sN S' 22 = sN S 22
theorem pcR_cg {S S' : ST} (h : S'.1 = S.1) {s k t : Int32} : ∀ n, pcR S' s k t n = pcR S s k t n
  | 0 => rfl
  | n + 1 => by
    unfold pcR
    rw [pcR_cg h n]
    unfold pcC hasC
    simp only [sI, h]
theorem tmR_cg {S S' : ST} (h : rdR S S') {g x s : Int32} {k : Nat} : tmR S' g x s k = tmR S g x s k := by
  unfold tmR shR ptO
  rw [h.2.2, pcR_cg h.1, pcR_cg h.1, h.2.1]
  simp only [sI, h.1]
/-- the codes of a rule, worked out on a row -/
def rpR (S : ST) (s : Int32) (k : Nat) : Nat → Nat → List Int64 → Option (List Int64)
  | 0, _, l => some l
  | m + 1, i, l => if sI S 722 i < 10 then (if l.length < 90 ∧ (sI S 722 i = 1 → ¬ sI S 723 i < 0 ∧ ¬ 8 ≤ sI S 723 i) then rpR S s k m (i + 1) (tmR S (sI S 722 i) (sI S 723 i) s k :: l) else none)
    else if sI S 722 i = 19 then (match l with
      | [] => none
      | a :: r => rpR S s k m (i + 1) (zl (a = 0) :: r))
    else (match l with
      | b :: a :: r => rpR S s k m (i + 1) (rsl (sI S 722 i) a b :: r)
      | _ => none)
def stk (g : Nat → Int64) (l : List Int64) : Prop := ∀ j, j < l.length → g j = l.getD (l.length - 1 - j) 0
theorem stk.push {g : Nat → Int64} {l : List Int64} {a : Int64} (h : stk g l) : stk (vp_updL g l.length a) (a :: l) := by
  intro j hj
  rw [List.length_cons] at hj ⊢
  by_cases e : j = l.length
  · subst e
    rw [show l.length + 1 - 1 - l.length = 0 by omega]
    exact if_pos rfl
  · rw [show vp_updL g l.length a j = g j from if_neg e, h j (by omega), show l.length + 1 - 1 - j = (l.length - 1 - j) + 1 by omega]
    rfl
theorem stk.pop {g : Nat → Int64} {l : List Int64} {a : Int64} (h : stk g (a :: l)) : stk g l ∧ g l.length = a := by
  refine ⟨fun j hj => ?_, ?_⟩
  · have h1 := h j (by rw [List.length_cons]; omega)
    rw [List.length_cons, show l.length + 1 - 1 - j = (l.length - 1 - j) + 1 by omega] at h1
    exact h1
  · have h1 := h l.length (by rw [List.length_cons]; omega)
    rw [List.length_cons, show l.length + 1 - 1 - l.length = 0 by omega] at h1
    exact h1
