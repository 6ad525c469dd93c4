/-! the law, whole -/
set_option maxHeartbeats 4000000 in
theorem La_start {w : zC} {Post : zR → zZ → Prop} {b L : Nat} {xs : Nat → Int32} {adK adV : Nat → Nat} (hs : zScr w b L xs) (hK : zLit w adK adV) (hT : zThr w) (hL : L ≤ 3072) (hP : ∀ Z, Post (.inl (some (.int 1))) Z) {Z : zZ} (h1 : Z.2.2.1 = 601024) (h2 : Z.2.2.2 = 7293034) : G w x code 7 ret (14, 510) Post 0 [(0, .ref b)] [] Z := by
  refine g_new d_La_law_0 n_La_8 (by omega) (by omega) (fun a ha => ?_)
  refine g_dup d_La_law_3 rfl ?_
  refine g_callI d_La_law_4 k_K_init rfl l_La_61 i_K_init (by rfl) (by rfl) (Nat.le_of_ble_eq_true rfl) (by decide) (C_K_initA zhs_new_same (by show 30 ≤ Z.2.2.1 - 1 ∧ 1535 ≤ Z.2.2.2 - 11; omega) (fun Z1 q8 r8_0 r8_1 r8_2 q7 r7_0 r7_1 r7_2 q6 q5 r5_0 r5_1 r5_2 q4 r4_0 r4_1 q3 q2 q1 r1_0 r1_1 r1_2 r1_3 r1_4 q0 r0_0 r0_1 r0_2 r0_3 r0_4 hA hO c1 c2 => ⟨_, rfl, ?_⟩))
  have c1' : Z1.2.2.1 = Z.2.2.1 - 1 - 30 := c1
  have c2' : Z1.2.2.2 = Z.2.2.2 - 11 - 1535 := c2
  refine g_astore_nq d_La_law_7 rfl (by decide) rfl ?_
  show G _ _ _ _ _ _ _ _ [(1, _), (0, _)] _ _
  refine g_new d_La_law_8 n_La_62 (by omega) (by omega) (fun m hm => ?_)
  refine g_dup d_La_law_11 rfl ?_
  refine g_callI d_La_law_12 k_Mo_init rfl l_La_64 i_Mo_init (by rfl) (by rfl) (Nat.le_of_ble_eq_true rfl) (by decide) (C_Mo_initA zhs_new_same (by show 25 ≤ Z1.2.2.1 - 1 ∧ 24897 ≤ Z1.2.2.2 - 42; omega) (fun Z2 p24 p23 p22 p21 p20 p19 p18 p17 p16 p15 p14 p13 p12 p11 p10 p9 p8 p7 p6 p5 p4 p3 p2 p1 p0 hA2 hO2 d1 d2 => ⟨_, rfl, ?_⟩))
  have d1' : Z2.2.2.1 = Z1.2.2.1 - 1 - 25 := d1
  have d2' : Z2.2.2.2 = Z1.2.2.2 - 42 - 24897 := d2
  refine g_astore_nq d_La_law_15 rfl (by decide) rfl ?_
  show G _ _ _ _ _ _ _ _ [(2, _), (1, _), (0, _)] _ _
  refine g_iconst (v := 1) d_La_law_16 rfl ?_
  refine g_newl (N := 1) d_La_law_17 rfl a_long rfl (by decide) (by omega) (by omega) (fun o ho => ?_)
  refine g_astore_nq d_La_law_19 rfl (by decide) rfl ?_
  show G _ _ _ _ _ _ _ _ [(3, _), (2, _), (1, _), (0, _)] _ _
  refine g_iconst (v := 0) d_La_law_20 rfl ?_
  refine g_istore d_La_law_21 (by decide) rfl ?_
  have rep := rep0 hA hO hm hA2 hO2 ho
  refine La_loop hs hK hT hL hP 512 0 (ad0 [(57, o), (600, m), (741, p24), (737, p23), (732, p22), (731, p21), (728, p20), (727, p19), (726, p18), (724, p17), (723, p16), (722, p15), (721, p14), (720, p13), (719, p12), (716, p11), (715, p10), (714, p9), (713, p8), (711, p7), (710, p6), (709, p5), (708, p4), (707, p3), (706, p2), (705, p1), (701, p0), (0, a), (7, q8), (30, r8_0), (29, r8_1), (28, r8_2), (6, q7), (27, r7_0), (26, r7_1), (25, r7_2), (10, q6), (5, q5), (24, r5_0), (23, r5_1), (22, r5_2), (4, q4), (21, r4_0), (20, r4_1), (9, q3), (8, q2), (3, q1), (2, r1_0), (16, r1_1), (19, r1_2), (18, r1_3), (17, r1_4), (1, q0), (15, r0_0), (14, r0_1), (13, r0_2), (12, r0_3), (11, r0_4)]) S0 _ rfl rep si_0 ?_
  show gC 32 + gC 32 + gC 32 + 3 * 512 ≤ Z2.2.2.1 - 1 ∧ gS 32 + gS 32 + gS 32 + 164 * 512 ≤ Z2.2.2.2 - 1
  have e1 : gC 32 = 11064 := by decide
  have e2 : gS 32 = 34128 := by decide
  rw [e1, e2]
  omega
