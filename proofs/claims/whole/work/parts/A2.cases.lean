/-! the law: rules, flags, runs -/
theorem ltr_nar {x : Int32} (h : x = 0 ∨ ltr x) : narrow .char (.int x) = .int x := by
  have key : ∀ d, d < 127 → narrow .char (.int (nI d)) = .int (nI d) := by decide +kernel
  rcases h with rfl | ⟨h1, h2⟩
  · exact key 0 (by decide)
  · obtain ⟨d, hd, rfl⟩ := nI_of (x := x) (fun z => h1 (Int32.lt_trans z (by decide)))
    rw [show (126 : Int32) = nI 126 from rfl, nI_ltI (by omega) hd] at h2
    exact key d (by omega)
theorem Sim.rd {n : Nat} {S : ST} (h : Sim n S) : rdH S := ⟨h.2.2.2.2.1.1.2.1, fun k => ltr_nar (h.2.2.2.2.1.2 k), h.live⟩
theorem live_ru {T : ST} {r : Nat} (h : ciLive (mRu (mRd (thS T 0) r).1)) : ciLive T := by
  obtain ⟨k1, -, k3, -⟩ := mRd_kp (S := thS T 0) (r := r)
  refine h.same' k1.symm (fun m hm => ?_)
  generalize (mRd (thS T 0) r).1 = X at *
  have e : sN (mRu X) m = sN X m := by
    unfold mRu
    rw [wN_ne (by omega)]
    show sN (wN X 24 0) m = _
    rw [wN_ne (by omega)]
  rw [e, k3 m (by omega)]
  rfl
theorem La_rule_w {w : zC} {Post : zR → zZ → Prop} {Z : zZ} {b L n : Nat} {xs : Nat → Int32} {adK adV : Nat → Nat} {ad : Nat → Nat} {S : ST} {k : Nat} (hs : zScr w b L xs) (hK : zLit w adK adV) (hT : zThr w) (hn : 6 * n + 6 ≤ L) (hL : L ≤ 3072) (hR : Rep w ad S Z) (hS : Sim n S) (hb : bAll S Z (3 * (k + 1)) (164 * (k + 1))) (kont : ∀ ad' S' Z', Rep w ad' S' Z' → Sim (n + 1) S' → bAll S' Z' (3 * k) (164 * k) → (ad' 57 = ad 57 ∧ ad' 600 = ad 600 ∧ ad' 0 = ad 0) → G w x code 7 ret (14, 510) Post 1217 [(4, .int (nI (6 * n))), (3, .ref (ad 57)), (2, .ref (ad 600)), (1, .ref (ad 0)), (0, .ref b)] [] Z') : G w x code 7 ret (14, 510) Post 785 [(4, .int (nI (6 * n))), (3, .ref (ad 57)), (2, .ref (ad 600)), (1, .ref (ad 0)), (0, .ref b)] [] Z := by
  have c25 : sN S 25 = sN S 3 := hS.2.1.1
  have h20 : sN S 3 ≤ 20 := hS.2.1.2.1
  have h24 : sN S 24 = sN S 9 := hS.2.2.2.2.1.1.1.symm
  have h160 : sN S 9 ≤ 160 := hS.2.2.2.2.1.1.2.1
  refine g_aload_nq d_La_law_785 rfl 3 rfl ?_
  refine g_aload_nq d_La_law_786 rfl 1 rfl ?_
  refine g_callSW d_La_law_787 kw_La_rule l_La_103 s_La_rule (by rfl) (by rfl) (Nat.le_of_ble_eq_true rfl) (by decide) (C_La_rule hR hK hT hS.rd (b3 hb (by omega) (by omega)) (b16 hb) (fun c1 => ⟨_, rfl, ?_⟩) (fun c1 => ⟨fun hg Z1 r1 b1 => ⟨_, rfl, ?_⟩, fun hg Z1 a9 q9 r9 r1 b1 b1' => ⟨_, rfl, ?_⟩⟩))
  · refine g_istore d_La_law_790 (by decide) rfl ?_
    show G _ _ _ _ _ _ _ _ [(5, _), (4, _), (3, _), (2, _), (1, _), (0, _)] _ _
    refine g_aload_nq d_La_law_792 rfl 3 rfl ?_
    refine g_callV d_La_law_793 k_Mo_rule l_La_106 i_Mo_rule rfl q_Mo_Mo_rule_Mo (Rep.m (Rep.pay hR)) (by rfl) (by rfl) (Nat.le_of_ble_eq_true rfl) (by decide) (C_Mo_rule (Rep.pay hR) hS.live (by omega) (by omega) (fun _ Z2 r2 b2 => ⟨_, rfl, ?_⟩) (fun c9 => absurd c9 (by omega)))
    exact Tl_rule (u := 0) r2 th0 (fun z => absurd z (by decide)) (kont ad (thS S 1) Z2 r2 (si_th hS).up (bA hb (fun _ _ _ => rfl) (zP b2).1 (zP b2).2) ⟨rfl, rfl, rfl⟩)
  · obtain ⟨s1, s2, s3, s4, s5⟩ := si_rule0 (v := (-1 - nI (sN (rdL 80 (stO S)).1 14)).toInt64) hS hg _ rfl
    obtain ⟨f1, f2, f3, f4⟩ := frC.st.tr (frC.go 80 (stO S))
    have tN : ∀ m, m ≠ 9 → (m < 10 ∨ 15 < m) → sN (outS (wN (rdL 80 (stO S)).1 9 0) (-1 - nI (sN (rdL 80 (stO S)).1 14)).toInt64) m = sN S m := fun m h1 h2 => (wN_ne h1).trans (f4 m h2)
    have lv1 : ciLive (outS (wN (rdL 80 (stO S)).1 9 0) (-1 - nI (sN (rdL 80 (stO S)).1 14)).toInt64) := hS.live.same' (by funext i; exact f3 i) (fun m hm => tN m (by omega) (by omega))
    have o57 : sJ (outS (wN (rdL 80 (stO S)).1 9 0) (-1 - nI (sN (rdL 80 (stO S)).1 14)).toInt64) 57 0 = (-1 - nI (sN (rdL 80 (stO S)).1 14)).toInt64 := out57
    generalize outS (wN (rdL 80 (stO S)).1 9 0) (-1 - nI (sN (rdL 80 (stO S)).1 14)).toInt64 = T at *
    refine g_istore d_La_law_790 (by decide) rfl ?_
    show G _ _ _ _ _ _ _ _ [(5, _), (4, _), (3, _), (2, _), (1, _), (0, _)] _ _
    refine g_aload_nq d_La_law_792 rfl 3 rfl ?_
    refine g_callV d_La_law_793 k_Mo_rule l_La_106 i_Mo_rule rfl q_Mo_Mo_rule_Mo (Rep.m r1) (by rfl) (by rfl) (Nat.le_of_ble_eq_true rfl) (by decide) (C_Mo_rule r1 lv1 (by rw [tN 25 (by decide) (by decide)]; omega) (by rw [tN 24 (by decide) (by decide)]; omega) (fun c9 => absurd c9 (by rw [tN 25 (by decide) (by decide)]; omega)) (fun _ => ?_))
    rw [if_neg (by rw [s1]; decide)]
    intro Z2 r2 b2
    refine ⟨_, rfl, ?_⟩
    rw [s3]
    have k3 := (mRd_kp (S := thS T 0) (r := sN T 25)).2.2.1
    exact Tl_rule r2 s4 (fun _ => (congrFun s5 0).trans o57) (kont ad _ Z2 r2 s2.up (bA hb (fun m h1 h2 => (wN_ne (by omega)).trans ((k3 m (by omega)).trans (tN m (by omega) (by omega)))) (zE (b2.trans b1)).1 (zE (b2.trans b1)).2) ⟨rfl, rfl, rfl⟩)
  · have h12 : sN (rdE S) 12 ≤ 78 := (rdE_12 hS.rd hg).1
    obtain ⟨s1, s2, s3, s4, s5⟩ := si_rule1 (v := (nI (7 + sN S 3)).toInt64) hS c1 hg (by omega) _ rfl
    obtain ⟨f1, f2, f3, f4⟩ := rdE_fr (S := S)
    have q3 : sN (wN (rdE S) 9 0) 3 = sN S 3 := by rw [wN_ne (by decide), f4 3 (by decide)]
    have qe : sN (rdE S) 3 = sN S 3 := f4 3 (by decide)
    have tN : ∀ m, m ≠ 9 → m ≠ 3 → m < 1000 → (m < 10 ∨ 15 < m) → sN (outS (ruleS (wN (rdE S) 9 0) (sI (rdE S) 3 10) (sI (rdE S) 3 11) (sN (rdE S) 12) (cpy80 (sI (rdE S) 17) (sN (rdE S) 12)) (cpy80 (sI (rdE S) 18) (sN (rdE S) 12))) (nI (7 + sN S 3)).toInt64) m = sN S m := fun m h1 h2 h3 h4 => by
      show va_up (va_up (sN (wN (rdE S) 9 0)) 3 (sN (wN (rdE S) 9 0) 3 + 1)) (3000 + sN (wN (rdE S) 9 0) 3) (sN (rdE S) 12) m = _
      rw [va_up_ne _ _ (by omega), va_up_ne _ _ h2, wN_ne h1]
      exact f4 m h4
    have e57 : ruleA ad (sN (rdE S) 3) a9 q9 r9 57 = ad 57 := by unfold ruleA; rw [va_up_ne _ _ (by omega), va_up_ne _ _ (by omega), va_up_ne _ _ (by omega)]
    have e600 : ruleA ad (sN (rdE S) 3) a9 q9 r9 600 = ad 600 := by unfold ruleA; rw [va_up_ne _ _ (by omega), va_up_ne _ _ (by omega), va_up_ne _ _ (by omega)]
    have e0 : ruleA ad (sN (rdE S) 3) a9 q9 r9 0 = ad 0 := by unfold ruleA; rw [va_up_ne _ _ (by omega), va_up_ne _ _ (by omega), va_up_ne _ _ (by omega)]
    have o57 : sJ (outS (ruleS (wN (rdE S) 9 0) (sI (rdE S) 3 10) (sI (rdE S) 3 11) (sN (rdE S) 12) (cpy80 (sI (rdE S) 17) (sN (rdE S) 12)) (cpy80 (sI (rdE S) 18) (sN (rdE S) 12))) (nI (7 + sN S 3)).toInt64) 57 0 = (nI (7 + sN S 3)).toInt64 := out57
    generalize ruleA ad (sN (rdE S) 3) a9 q9 r9 = ad1 at *
    generalize outS (ruleS (wN (rdE S) 9 0) (sI (rdE S) 3 10) (sI (rdE S) 3 11) (sN (rdE S) 12) (cpy80 (sI (rdE S) 17) (sN (rdE S) 12)) (cpy80 (sI (rdE S) 18) (sN (rdE S) 12))) (nI (7 + sN S 3)).toInt64 = T at *
    have lv1 : ciLive T := live_ru s2.live
    have k3 := (mRd_kp (S := thS T 0) (r := sN T 25)).2.2.1
    rw [← e57, ← e600, ← e0] at kont ⊢
    refine g_istore d_La_law_790 (by decide) rfl ?_
    show G _ _ _ _ _ _ _ _ [(5, _), (4, _), (3, _), (2, _), (1, _), (0, _)] _ _
    refine g_aload_nq d_La_law_792 rfl 3 rfl ?_
    refine g_callV d_La_law_793 k_Mo_rule l_La_106 i_Mo_rule rfl q_Mo_Mo_rule_Mo (Rep.m r1) (by rfl) (by rfl) (Nat.le_of_ble_eq_true rfl) (by decide) (C_Mo_rule r1 lv1 (by rw [s3]; omega) (by rw [tN 24 (by decide) (by decide) (by decide) (by decide)]; omega) (fun c9 => absurd c9 (by rw [s3]; omega)) (fun _ => ?_))
    rw [if_pos s1]
    intro Z2 r2 b2
    refine ⟨_, rfl, ?_⟩
    have e6 : nI (7 + sN T 25) = nI (7 + sN S 3) := by rw [s3]
    rw [e6]
    exact Tl_rule r2 s4 (fun _ => (congrFun s5 0).trans o57) (kont ad1 _ Z2 r2 s2.up (bA hb (fun m h1 h2 => (wN_ne (by omega)).trans ((wN_ne (S := (mRd (thS T 0) (sN T 25)).1) (n := 24) (v := 0) (by omega)).trans ((k3 m (by omega)).trans (tN m (by omega) (by omega) (by omega) (by omega))))) (zA b2 b1 b1' (by omega) (by omega)).1 (zA b2 b1 b1' (by omega) (by omega)).2) ⟨rfl, rfl, rfl⟩)
