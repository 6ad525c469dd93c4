/-! The reference: waive, clear -/
abbrev tkM (w : zC) (ad : Nat → Nat) (S0 : ST) (Z : zZ) (Q : zR → zZ → Prop) (r : Option ST) : Prop := ∀ Z', Rep w ad (r.getD S0) Z' → Z'.2.2 = Z.2.2 → Q (.inl (some (.int (zb (r.isSome = true))))) Z'
set_option maxHeartbeats 4000000 in
set_option maxRecDepth 100000 in
theorem L_Mo_waive {w : zC} {Z : zZ} {Q : zR → zZ → Prop} {S : ST} {a c n : Nat} {x v1 v2 v3 v4 v5 : Int32} {fs : List Value} (h0 : zhs Z a (.inr (10, fs))) (h30 : fs[30]? = some (.int (nI n))) (h31 : fs[31]? = some (.ref c)) (h7 : zhs Z c (xi w 50 (sI S 731))) (hn : n ≤ 50) (m : Nat) : ∀ i, i + m = n → G w y_Mo_waive c_Mo_waive 8 r_Mo_waive (1, 40) Q 134 [(7, .int (nI (atR S x m i))), (6, .int x), (5, .int v5), (0, .ref a), (1, .int v1), (2, .int v2), (3, .int v3), (4, .int v4)] [] Z → G w y_Mo_waive c_Mo_waive 8 r_Mo_waive (1, 40) Q 107 [(7, .int (nI i)), (6, .int x), (5, .int v5), (0, .ref a), (1, .int v1), (2, .int v2), (3, .int v3), (4, .int v4)] [] Z := by
  induction m with
  | zero =>
    intro i hi hk
    refine g_iload d_Mo_waive_107 0 rfl ?_
    refine g_aload_nq d_Mo_waive_109 rfl 3 rfl ?_
    refine g_get d_Mo_waive_110 f_Mo_268_Mo (by assumption) (by first | rfl | assumption) ?_
    refine g_icmp_ge (tgt := 134) d_Mo_waive_113 (by decide) (fun h113 => ?_) (fun h113 => ?_)
    · exact hk
    · exact absurd (nI_le (by omega) (by omega)) h113
  | succ m ih =>
    intro i hi hk
    refine g_iload d_Mo_waive_107 0 rfl ?_
    refine g_aload_nq d_Mo_waive_109 rfl 3 rfl ?_
    refine g_get d_Mo_waive_110 f_Mo_268_Mo (by assumption) (by first | rfl | assumption) ?_
    refine g_icmp_ge (tgt := 134) d_Mo_waive_113 (by decide) (fun h113 => ?_) (fun h113 => ?_)
    · exact absurd h113 (nI_ge (by omega) (by omega))
    · refine g_aload_nq d_Mo_waive_116 rfl 3 rfl ?_
      refine g_get d_Mo_waive_117 f_Mo_79_Mo (by assumption) (by first | rfl | assumption) ?_
      refine g_iload d_Mo_waive_120 0 rfl ?_
      refine g_iald d_Mo_waive_122 h7 (vp_in_nI (n := i) (by omega) (by decide)) ?_
      rw [nI_clamp (by omega)]
      refine g_iload d_Mo_waive_123 1 rfl ?_
      refine g_icmp_eq (tgt := 134) d_Mo_waive_125 (by decide) (fun h125 => ?_) (fun h125 => ?_)
      · rw [atR, if_pos h125] at hk
        exact hk
      · rw [atR, if_neg h125] at hk
        refine g_iinc (k := 0) d_Mo_waive_128 rfl (nI_1 i) (by decide) rfl ?_
        refine g_goto (tgt := 107) d_Mo_waive_131 (by decide) ?_
        exact ih (i + 1) (by omega) hk

set_option maxHeartbeats 4000000 in
set_option maxRecDepth 100000 in
theorem C_Mo_waive {w : zC} {Z : zZ} {Q : zR → zZ → Prop} {ad : Nat → Nat} {S : ST} (hR : Rep w ad S Z) (hL : ciLive S) (hIv : mInv S) (h25 : sN S 25 ≤ 20) {r t x y : Int32} (hI : ¬ (inr r (7 + sN S 25) ∧ (∃ c k, c < 3 ∧ k < mny S c ∧ t = nI c ∧ x = nI k)) → ∀ Z', Rep w ad (thS S 1) Z' → Z'.2.2 = Z.2.2 → Q (.inl (some (.int (0)))) Z') (hA : inr r (7 + sN S 25) → (∃ c k, c < 3 ∧ k < mny S c ∧ t = nI c ∧ x = nI k) → ¬ (y = -1 ∨ inr y 1000) → ∀ Z', Rep w ad (thS S 2) Z' → Z'.2.2 = Z.2.2 → Q (.inl (some (.int (0)))) Z') (hN : ∀ p c k, p < 7 + sN S 25 → c < 3 → k < mny S c → r = nI p → t = nI c → x = nI k → (y = -1 ∨ inr y 1000) → tkM w ad (thS S 0) Z Q (wvM S (nI (tI p (nI c) k)) y)) : Cz w (1, 40) y_Mo_waive (Cond.code y_Mo_waive c_Mo_waive 8 r_Mo_waive :: wz) [.ref (ad 600), .int r, .int t, .int x, .int y] Z Q := by
  refine Cz.of (by decide +kernel) (by simp [lg_sl, Value.category]) ?_
  show G _ _ _ _ _ _ _ _ [(0, _), (1, _), (2, _), (3, _), (4, _)] _ _
  have hm : zhs Z (ad 600) (.inr (10, [.int (sI S 600 0), .ref (ad 701), .int (nI (sN S 20)), .int (nI (sN S 21)), .int (nI (sN S 22)), .ref (ad 705), .ref (ad 706), .ref (ad 707), .ref (ad 708), .ref (ad 709), .ref (ad 710), .ref (ad 711), .int (nI (sN S 23)), .ref (ad 713), .ref (ad 714), .ref (ad 715), .ref (ad 716), .int (nI (sN S 24)), .int (nI (sN S 25)), .ref (ad 719), .ref (ad 720), .ref (ad 721), .ref (ad 722), .ref (ad 723), .ref (ad 724), .int (sI S 600 25), .ref (ad 726), .ref (ad 727), .ref (ad 728), .int (sI S 600 29), .int (nI (sN S 26)), .ref (ad 731), .ref (ad 732), .int (nI (sN S 27)), .int (nI (sN S 28)), .int (nI (sN S 29)), .int (nI (sN S 30)), .ref (ad 737), .int (nI (sN S 31)), .int (nI (sN S 32)), .int (sI S 600 40), .ref (ad 741)])) := hR.m
  have m731 : zhs Z (ad 731) (xi w 50 (sI S 731)) := hR.ma 731 (by decide)
  have m732 : zhs Z (ad 732) (xi w 50 (sI S 732)) := hR.ma 732 (by decide)
  have J : ∀ i j, mL i → mL j → i ≠ j → ad i ≠ ad j := fun i j hi hj hne => hR.inj (lvL hi) (lvL hj) hne
  obtain ⟨Z0, hZ0⟩ : ∃ Z0, Z0 = Z := ⟨_, rfl⟩
  have hB : Z.2.2 = Z0.2.2 := by rw [hZ0]
  refine g_aload_nq d_Mo_waive_0 rfl 0 rfl ?_
  refine g_iload_n d_Mo_waive_1 rfl 1 rfl ?_
  refine g_callV d_Mo_waive_2 k_Mo_isRule l_Mo_281 i_Mo_isRule rfl p_Mo_isRule hm (by rfl) (by rfl) (Nat.le_of_ble_eq_true rfl) (by decide) (C_Mo_isRule hR ⟨_, rfl, ?_⟩)
  first | refine g_if_eqB (tgt := 34) d_Mo_waive_5 (by decide) (fun h5 => ?_) (fun h5 => ?_) | refine g_if_eq (tgt := 34) d_Mo_waive_5 (by decide) (fun h5 => ?_) (fun h5 => ?_)
  · have hF := hI (fun z => h5 z.1)
    refine g_iconst (v := 0) d_Mo_waive_34 rfl ?_
    refine g_istore d_Mo_waive_35 (by decide) rfl ?_
    show G _ _ _ _ _ _ _ _ [(5, _), (0, _), (1, _), (2, _), (3, _), (4, _)] _ _
    refine g_aload_nq d_Mo_waive_37 rfl 1 rfl ?_
    refine g_iload d_Mo_waive_38 0 rfl ?_
    first | refine g_if_neB (tgt := 47) d_Mo_waive_40 (by decide) (fun h40 => ?_) (fun h40 => ?_) | refine g_if_ne (tgt := 47) d_Mo_waive_40 (by decide) (fun h40 => ?_) (fun h40 => ?_)
    · exact absurd rfl h40
    · refine g_iconst (v := 1) d_Mo_waive_43 rfl ?_
      refine g_goto (tgt := 66) d_Mo_waive_44 (by decide) ?_
      refine g_put d_Mo_waive_66 w_Mo_91_Mo (by assumption) (by first | rfl | exact zb_nar _) (by first | rfl | exact zb_fit _ | exact zrf_fit _) (by first | exact Nat.le_of_ble_eq_true rfl | omega) ?_
      refine gen_putI (P := fun z => G w y_Mo_waive c_Mo_waive 8 r_Mo_waive (1, 40) Q _ _ _ z) hR (i := 600) lv6 c6_0 (fun Z1 e1 hR => ?_)
      have m731 := zhs_put_ne' e1 m731 (J 731 600 (by decide) (by decide) (by decide))
      have m732 := zhs_put_ne' e1 m732 (J 732 600 (by decide) (by decide) (by decide))
      have hm := zhs_put_same' e1 hm
      simp only [List.set] at hm
      have hB : Z1.2.2 = Z0.2.2 := by rw [← e1]; exact hB
      refine g_aload_nq d_Mo_waive_69 rfl 1 rfl ?_
      refine g_get d_Mo_waive_70 f_Mo_91_Mo (by assumption) (by first | rfl | assumption) ?_
      first | refine g_if_eqB (tgt := 78) d_Mo_waive_73 (by decide) (fun h73 => ?_) (fun h73 => ?_) | refine g_if_eq (tgt := 78) d_Mo_waive_73 (by decide) (fun h73 => ?_) (fun h73 => ?_)
      · exact absurd h73 (by decide)
      · refine g_iconst (v := 0) d_Mo_waive_76 rfl ?_
        refine g_zret d_Mo_waive_77 ?_ ?_
        · first | rfl | exact zb_nar _ | exact zb_narc (by assumption)
        · exact hF _ hR (by rw [hB, hZ0])
  · refine g_iload_n d_Mo_waive_8 rfl 2 rfl ?_
    refine g_if_lt (tgt := 34) d_Mo_waive_9 (by decide) (fun h9 => ?_) (fun h9 => ?_)
    · have hF := hI (fun z => by obtain ⟨c, k, z1, z2, z3, z4⟩ := z.2; rw [z3] at h9; exact nI_pos (by omega) h9)
      refine g_iconst (v := 0) d_Mo_waive_34 rfl ?_
      refine g_istore d_Mo_waive_35 (by decide) rfl ?_
      show G _ _ _ _ _ _ _ _ [(5, _), (0, _), (1, _), (2, _), (3, _), (4, _)] _ _
      refine g_aload_nq d_Mo_waive_37 rfl 1 rfl ?_
      refine g_iload d_Mo_waive_38 0 rfl ?_
      first | refine g_if_neB (tgt := 47) d_Mo_waive_40 (by decide) (fun h40 => ?_) (fun h40 => ?_) | refine g_if_ne (tgt := 47) d_Mo_waive_40 (by decide) (fun h40 => ?_) (fun h40 => ?_)
      · exact absurd rfl h40
      · refine g_iconst (v := 1) d_Mo_waive_43 rfl ?_
        refine g_goto (tgt := 66) d_Mo_waive_44 (by decide) ?_
        refine g_put d_Mo_waive_66 w_Mo_91_Mo (by assumption) (by first | rfl | exact zb_nar _) (by first | rfl | exact zb_fit _ | exact zrf_fit _) (by first | exact Nat.le_of_ble_eq_true rfl | omega) ?_
        refine gen_putI (P := fun z => G w y_Mo_waive c_Mo_waive 8 r_Mo_waive (1, 40) Q _ _ _ z) hR (i := 600) lv6 c6_0 (fun Z1 e1 hR => ?_)
        have m731 := zhs_put_ne' e1 m731 (J 731 600 (by decide) (by decide) (by decide))
        have m732 := zhs_put_ne' e1 m732 (J 732 600 (by decide) (by decide) (by decide))
        have hm := zhs_put_same' e1 hm
        simp only [List.set] at hm
        have hB : Z1.2.2 = Z0.2.2 := by rw [← e1]; exact hB
        refine g_aload_nq d_Mo_waive_69 rfl 1 rfl ?_
        refine g_get d_Mo_waive_70 f_Mo_91_Mo (by assumption) (by first | rfl | assumption) ?_
        first | refine g_if_eqB (tgt := 78) d_Mo_waive_73 (by decide) (fun h73 => ?_) (fun h73 => ?_) | refine g_if_eq (tgt := 78) d_Mo_waive_73 (by decide) (fun h73 => ?_) (fun h73 => ?_)
        · exact absurd h73 (by decide)
        · refine g_iconst (v := 0) d_Mo_waive_76 rfl ?_
          refine g_zret d_Mo_waive_77 ?_ ?_
          · first | rfl | exact zb_nar _ | exact zb_narc (by assumption)
          · exact hF _ hR (by rw [hB, hZ0])
    · refine g_iload_n d_Mo_waive_12 rfl 2 rfl ?_
      refine g_iconst (v := 3) d_Mo_waive_13 rfl ?_
      refine g_icmp_ge (tgt := 34) d_Mo_waive_14 (by decide) (fun h14 => ?_) (fun h14 => ?_)
      · have hF := hI (fun z => by obtain ⟨c, k, z1, z2, z3, z4⟩ := z.2; rw [z3] at h14; exact nI_ge (b := 3) z1 (by decide) h14)
        refine g_iconst (v := 0) d_Mo_waive_34 rfl ?_
        refine g_istore d_Mo_waive_35 (by decide) rfl ?_
        show G _ _ _ _ _ _ _ _ [(5, _), (0, _), (1, _), (2, _), (3, _), (4, _)] _ _
        refine g_aload_nq d_Mo_waive_37 rfl 1 rfl ?_
        refine g_iload d_Mo_waive_38 0 rfl ?_
        first | refine g_if_neB (tgt := 47) d_Mo_waive_40 (by decide) (fun h40 => ?_) (fun h40 => ?_) | refine g_if_ne (tgt := 47) d_Mo_waive_40 (by decide) (fun h40 => ?_) (fun h40 => ?_)
        · exact absurd rfl h40
        · refine g_iconst (v := 1) d_Mo_waive_43 rfl ?_
          refine g_goto (tgt := 66) d_Mo_waive_44 (by decide) ?_
          refine g_put d_Mo_waive_66 w_Mo_91_Mo (by assumption) (by first | rfl | exact zb_nar _) (by first | rfl | exact zb_fit _ | exact zrf_fit _) (by first | exact Nat.le_of_ble_eq_true rfl | omega) ?_
          refine gen_putI (P := fun z => G w y_Mo_waive c_Mo_waive 8 r_Mo_waive (1, 40) Q _ _ _ z) hR (i := 600) lv6 c6_0 (fun Z1 e1 hR => ?_)
          have m731 := zhs_put_ne' e1 m731 (J 731 600 (by decide) (by decide) (by decide))
          have m732 := zhs_put_ne' e1 m732 (J 732 600 (by decide) (by decide) (by decide))
          have hm := zhs_put_same' e1 hm
          simp only [List.set] at hm
          have hB : Z1.2.2 = Z0.2.2 := by rw [← e1]; exact hB
          refine g_aload_nq d_Mo_waive_69 rfl 1 rfl ?_
          refine g_get d_Mo_waive_70 f_Mo_91_Mo (by assumption) (by first | rfl | assumption) ?_
          first | refine g_if_eqB (tgt := 78) d_Mo_waive_73 (by decide) (fun h73 => ?_) (fun h73 => ?_) | refine g_if_eq (tgt := 78) d_Mo_waive_73 (by decide) (fun h73 => ?_) (fun h73 => ?_)
          · exact absurd h73 (by decide)
          · refine g_iconst (v := 0) d_Mo_waive_76 rfl ?_
            refine g_zret d_Mo_waive_77 ?_ ?_
            · first | rfl | exact zb_nar _ | exact zb_narc (by assumption)
            · exact hF _ hR (by rw [hB, hZ0])
      · obtain ⟨c0, hc0, rfl⟩ := bel (n := 3) ⟨h9, h14⟩ (by decide)
        have hml := (mny_le hIv hc0).1
        refine g_iload_n d_Mo_waive_17 rfl 3 rfl ?_
        refine g_if_lt (tgt := 34) d_Mo_waive_18 (by decide) (fun h18 => ?_) (fun h18 => ?_)
        · have hF := hI (fun z => by obtain ⟨c, k, z1, z2, z3, z4⟩ := z.2; have := (mny_le hIv z1).1; rw [z4] at h18; exact nI_pos (by omega) h18)
          refine g_iconst (v := 0) d_Mo_waive_34 rfl ?_
          refine g_istore d_Mo_waive_35 (by decide) rfl ?_
          show G _ _ _ _ _ _ _ _ [(5, _), (0, _), (1, _), (2, _), (3, _), (4, _)] _ _
          refine g_aload_nq d_Mo_waive_37 rfl 1 rfl ?_
          refine g_iload d_Mo_waive_38 0 rfl ?_
          first | refine g_if_neB (tgt := 47) d_Mo_waive_40 (by decide) (fun h40 => ?_) (fun h40 => ?_) | refine g_if_ne (tgt := 47) d_Mo_waive_40 (by decide) (fun h40 => ?_) (fun h40 => ?_)
          · exact absurd rfl h40
          · refine g_iconst (v := 1) d_Mo_waive_43 rfl ?_
            refine g_goto (tgt := 66) d_Mo_waive_44 (by decide) ?_
            refine g_put d_Mo_waive_66 w_Mo_91_Mo (by assumption) (by first | rfl | exact zb_nar _) (by first | rfl | exact zb_fit _ | exact zrf_fit _) (by first | exact Nat.le_of_ble_eq_true rfl | omega) ?_
            refine gen_putI (P := fun z => G w y_Mo_waive c_Mo_waive 8 r_Mo_waive (1, 40) Q _ _ _ z) hR (i := 600) lv6 c6_0 (fun Z1 e1 hR => ?_)
            have m731 := zhs_put_ne' e1 m731 (J 731 600 (by decide) (by decide) (by decide))
            have m732 := zhs_put_ne' e1 m732 (J 732 600 (by decide) (by decide) (by decide))
            have hm := zhs_put_same' e1 hm
            simp only [List.set] at hm
            have hB : Z1.2.2 = Z0.2.2 := by rw [← e1]; exact hB
            refine g_aload_nq d_Mo_waive_69 rfl 1 rfl ?_
            refine g_get d_Mo_waive_70 f_Mo_91_Mo (by assumption) (by first | rfl | assumption) ?_
            first | refine g_if_eqB (tgt := 78) d_Mo_waive_73 (by decide) (fun h73 => ?_) (fun h73 => ?_) | refine g_if_eq (tgt := 78) d_Mo_waive_73 (by decide) (fun h73 => ?_) (fun h73 => ?_)
            · exact absurd h73 (by decide)
            · refine g_iconst (v := 0) d_Mo_waive_76 rfl ?_
              refine g_zret d_Mo_waive_77 ?_ ?_
              · first | rfl | exact zb_nar _ | exact zb_narc (by assumption)
              · exact hF _ hR (by rw [hB, hZ0])
        · refine g_iload_n d_Mo_waive_21 rfl 3 rfl ?_
          refine g_aload_nq d_Mo_waive_22 rfl 0 rfl ?_
          refine g_iload_n d_Mo_waive_23 rfl 2 rfl ?_
          refine g_callV d_Mo_waive_24 k_Mo_many l_Mo_252 i_Mo_many rfl p_Mo_many hm (by rfl) (by rfl) (Nat.le_of_ble_eq_true rfl) (by decide) (C_Mo_many hR ⟨_, rfl, ?_⟩)
          rw [mny_nI hc0]
          refine g_icmp_ge (tgt := 34) d_Mo_waive_27 (by decide) (fun h27 => ?_) (fun h27 => ?_)
          · have hF := hI (fun z => by obtain ⟨c, k, z1, z2, z3, z4⟩ := z.2; have e9 : c0 = c := (nI_eq (by omega) (by omega)).mp z3; subst e9; rw [z4] at h27; exact nI_ge z2 (by omega) h27)
            refine g_iconst (v := 0) d_Mo_waive_34 rfl ?_
            refine g_istore d_Mo_waive_35 (by decide) rfl ?_
            show G _ _ _ _ _ _ _ _ [(5, _), (0, _), (1, _), (2, _), (3, _), (4, _)] _ _
            refine g_aload_nq d_Mo_waive_37 rfl 1 rfl ?_
            refine g_iload d_Mo_waive_38 0 rfl ?_
            first | refine g_if_neB (tgt := 47) d_Mo_waive_40 (by decide) (fun h40 => ?_) (fun h40 => ?_) | refine g_if_ne (tgt := 47) d_Mo_waive_40 (by decide) (fun h40 => ?_) (fun h40 => ?_)
            · exact absurd rfl h40
            · refine g_iconst (v := 1) d_Mo_waive_43 rfl ?_
              refine g_goto (tgt := 66) d_Mo_waive_44 (by decide) ?_
              refine g_put d_Mo_waive_66 w_Mo_91_Mo (by assumption) (by first | rfl | exact zb_nar _) (by first | rfl | exact zb_fit _ | exact zrf_fit _) (by first | exact Nat.le_of_ble_eq_true rfl | omega) ?_
              refine gen_putI (P := fun z => G w y_Mo_waive c_Mo_waive 8 r_Mo_waive (1, 40) Q _ _ _ z) hR (i := 600) lv6 c6_0 (fun Z1 e1 hR => ?_)
              have m731 := zhs_put_ne' e1 m731 (J 731 600 (by decide) (by decide) (by decide))
              have m732 := zhs_put_ne' e1 m732 (J 732 600 (by decide) (by decide) (by decide))
              have hm := zhs_put_same' e1 hm
              simp only [List.set] at hm
              have hB : Z1.2.2 = Z0.2.2 := by rw [← e1]; exact hB
              refine g_aload_nq d_Mo_waive_69 rfl 1 rfl ?_
              refine g_get d_Mo_waive_70 f_Mo_91_Mo (by assumption) (by first | rfl | assumption) ?_
              first | refine g_if_eqB (tgt := 78) d_Mo_waive_73 (by decide) (fun h73 => ?_) (fun h73 => ?_) | refine g_if_eq (tgt := 78) d_Mo_waive_73 (by decide) (fun h73 => ?_) (fun h73 => ?_)
              · exact absurd h73 (by decide)
              · refine g_iconst (v := 0) d_Mo_waive_76 rfl ?_
                refine g_zret d_Mo_waive_77 ?_ ?_
                · first | rfl | exact zb_nar _ | exact zb_narc (by assumption)
                · exact hF _ hR (by rw [hB, hZ0])
          · obtain ⟨k0, hk0, rfl⟩ := bel (n := mny S c0) ⟨h18, h27⟩ (by omega)
            have ha : inr r (7 + sN S 25) := h5
            have hb9 : (∃ c k, c < 3 ∧ k < mny S c ∧ nI c0 = nI c ∧ nI k0 = nI k) := ⟨c0, k0, hc0, hk0, rfl, rfl⟩
            refine g_iconst (v := 1) d_Mo_waive_30 rfl ?_
            refine g_goto (tgt := 35) d_Mo_waive_31 (by decide) ?_
            refine g_istore d_Mo_waive_35 (by decide) rfl ?_
            show G _ _ _ _ _ _ _ _ [(5, _), (0, _), (1, _), (2, _), (3, _), (4, _)] _ _
            refine g_aload_nq d_Mo_waive_37 rfl 1 rfl ?_
            refine g_iload d_Mo_waive_38 0 rfl ?_
            first | refine g_if_neB (tgt := 47) d_Mo_waive_40 (by decide) (fun h40 => ?_) (fun h40 => ?_) | refine g_if_ne (tgt := 47) d_Mo_waive_40 (by decide) (fun h40 => ?_) (fun h40 => ?_)
            · refine g_iload d_Mo_waive_47 5 rfl ?_
              refine g_iconst (v := (-1)) d_Mo_waive_49 rfl ?_
              refine g_icmp_lt (tgt := 61) d_Mo_waive_50 (by decide) (fun h50 => ?_) (fun h50 => ?_)
              · have hF := hA ha hb9 (fun z => (rea_no z).1 h50)
                refine g_iconst (v := 2) d_Mo_waive_61 rfl ?_
                refine g_goto (tgt := 66) d_Mo_waive_62 (by decide) ?_
                refine g_put d_Mo_waive_66 w_Mo_91_Mo (by assumption) (by first | rfl | exact zb_nar _) (by first | rfl | exact zb_fit _ | exact zrf_fit _) (by first | exact Nat.le_of_ble_eq_true rfl | omega) ?_
                refine gen_putI (P := fun z => G w y_Mo_waive c_Mo_waive 8 r_Mo_waive (1, 40) Q _ _ _ z) hR (i := 600) lv6 c6_0 (fun Z1 e1 hR => ?_)
                have m731 := zhs_put_ne' e1 m731 (J 731 600 (by decide) (by decide) (by decide))
                have m732 := zhs_put_ne' e1 m732 (J 732 600 (by decide) (by decide) (by decide))
                have hm := zhs_put_same' e1 hm
                simp only [List.set] at hm
                have hB : Z1.2.2 = Z0.2.2 := by rw [← e1]; exact hB
                refine g_aload_nq d_Mo_waive_69 rfl 1 rfl ?_
                refine g_get d_Mo_waive_70 f_Mo_91_Mo (by assumption) (by first | rfl | assumption) ?_
                first | refine g_if_eqB (tgt := 78) d_Mo_waive_73 (by decide) (fun h73 => ?_) (fun h73 => ?_) | refine g_if_eq (tgt := 78) d_Mo_waive_73 (by decide) (fun h73 => ?_) (fun h73 => ?_)
                · exact absurd h73 (by decide)
                · refine g_iconst (v := 0) d_Mo_waive_76 rfl ?_
                  refine g_zret d_Mo_waive_77 ?_ ?_
                  · first | rfl | exact zb_nar _ | exact zb_narc (by assumption)
                  · exact hF _ hR (by rw [hB, hZ0])
              · refine g_iload d_Mo_waive_53 5 rfl ?_
                refine g_sipush (v := 999) d_Mo_waive_55 rfl ?_
                refine g_icmp_le (tgt := 65) d_Mo_waive_58 (by decide) (fun h58 => ?_) (fun h58 => ?_)
                · obtain ⟨p, hp, rfl⟩ := bel (n := 7 + sN S 25) ha (by omega)
                  obtain ⟨c, hc, hcc⟩ : ∃ c, c < 3 ∧ c = c0 := ⟨c0, hc0, rfl⟩
                  obtain ⟨k, hk, hkk⟩ : ∃ k, k < mny S c ∧ k = k0 := ⟨k0, by rw [hcc]; exact hk0, rfl⟩
                  subst hcc; subst hkk
                  have hN := hN p c k hp hc hk rfl rfl rfl (rea_ok h50 h58)
                  refine g_iconst (v := 0) d_Mo_waive_65 rfl ?_
                  refine g_put d_Mo_waive_66 w_Mo_91_Mo (by assumption) (by first | rfl | exact zb_nar _) (by first | rfl | exact zb_fit _ | exact zrf_fit _) (by first | exact Nat.le_of_ble_eq_true rfl | omega) ?_
                  refine gen_putI (P := fun z => G w y_Mo_waive c_Mo_waive 8 r_Mo_waive (1, 40) Q _ _ _ z) hR (i := 600) lv6 c6_0 (fun Z1 e1 hR => ?_)
                  have m731 := zhs_put_ne' e1 m731 (J 731 600 (by decide) (by decide) (by decide))
                  have m732 := zhs_put_ne' e1 m732 (J 732 600 (by decide) (by decide) (by decide))
                  have hm := zhs_put_same' e1 hm
                  simp only [List.set] at hm
                  have hB : Z1.2.2 = Z0.2.2 := by rw [← e1]; exact hB
                  refine g_aload_nq d_Mo_waive_69 rfl 1 rfl ?_
                  refine g_get d_Mo_waive_70 f_Mo_91_Mo (by assumption) (by first | rfl | assumption) ?_
                  first | refine g_if_eqB (tgt := 78) d_Mo_waive_73 (by decide) (fun h73 => ?_) (fun h73 => ?_) | refine g_if_eq (tgt := 78) d_Mo_waive_73 (by decide) (fun h73 => ?_) (fun h73 => ?_)
                  · refine g_sipush (v := 240) d_Mo_waive_78 rfl ?_
                    refine g_iload_n d_Mo_waive_81 rfl 2 rfl ?_
                    refine g_imul d_Mo_waive_82 ?_
                    rw [show (240 : Int32) = nI 240 from rfl, pk_mul]
                    refine g_iload_n d_Mo_waive_83 rfl 3 rfl ?_
                    refine g_iload_n d_Mo_waive_84 rfl 4 rfl ?_
                    refine g_callS d_Mo_waive_85 k_Mo_thing l_Mo_255 s_Mo_thing (by rfl) (by rfl) (Nat.le_of_ble_eq_true rfl) (by decide) (C_Mo_thing ⟨_, rfl, ?_⟩)
                    rw [th_nI hc]
                    refine g_iadd d_Mo_waive_88 ?_
                    rw [nI_add, show 240 * p + (if nI c = 0 then k else if nI c = 1 then 40 + k else 80 + k) = tI p (nI c) k from rfl]
                    refine g_istore d_Mo_waive_89 (by decide) rfl ?_
                    show G _ _ _ _ _ _ _ _ [(6, _), (5, _), (0, _), (1, _), (2, _), (3, _), (4, _)] _ _
                    refine g_aload_nq d_Mo_waive_91 rfl 2 rfl ?_
                    refine g_iload d_Mo_waive_92 0 rfl ?_
                    refine g_callV d_Mo_waive_94 k_Mo_reason l_Mo_261 i_Mo_reason rfl p_Mo_reason hm (by rfl) (by rfl) (Nat.le_of_ble_eq_true rfl) (by decide) (C_Mo_reason hR (hIv.eq thS_eq) ⟨_, rfl, ?_⟩)
                    rw [show rsR (wI S 600 (va_up (sI S 600) 0 0)) (nI (tI p (nI c) k)) (sN (wI S 600 (va_up (sI S 600) 0 0)) 26) = rsR S (nI (tI p (nI c) k)) (sN S 26) from rsR_eq (thS_eq (x := 0)) _]
                    refine g_iload d_Mo_waive_97 6 rfl ?_
                    refine g_icmp_ne (tgt := 104) d_Mo_waive_99 (by decide) (fun h99 => ?_) (fun h99 => ?_)
                    · rw [wvM, if_neg h99] at hN
                      refine g_iconst (v := 0) d_Mo_waive_104 rfl ?_
                      refine g_istore d_Mo_waive_105 (by decide) rfl ?_
                      show G _ _ _ _ _ _ _ _ [(7, _), (6, _), (5, _), (0, _), (1, _), (2, _), (3, _), (4, _)] _ _
                      refine L_Mo_waive hm rfl rfl m731 (hIv.1.2.2.2.2) (sN S 26) 0 (by omega) ?_
                      have hle := atR_le (S := S) (x := nI (tI p (nI c) k)) (sN S 26) 0
                      have h50 := hIv.1.2.2.2.2
                      refine g_iload d_Mo_waive_134 7 rfl ?_
                      refine g_iconst (v := (-1)) d_Mo_waive_136 rfl ?_
                      refine g_icmp_ne (tgt := 184) d_Mo_waive_137 (by decide) (fun h137 => ?_) (fun h137 => ?_)
                      · rw [if_neg h137] at hN
                        refine g_iload d_Mo_waive_184 0 rfl ?_
                        refine g_bipush (v := 50) d_Mo_waive_186 rfl ?_
                        refine g_icmp_ne (tgt := 193) d_Mo_waive_188 (by decide) (fun h188 => ?_) (fun h188 => ?_)
                        · have h5 : ¬ atR S (nI (tI p (nI c) k)) (sN S 26) 0 = 50 := fun z => h188 (by rw [z]; rfl)
                          rw [if_neg h5] at hN
                          refine g_aload_nq d_Mo_waive_193 rfl 3 rfl ?_
                          refine g_get d_Mo_waive_194 f_Mo_79_Mo (by assumption) (by first | rfl | assumption) ?_
                          refine g_iload d_Mo_waive_197 0 rfl ?_
                          refine g_iload d_Mo_waive_199 1 rfl ?_
                          refine g_iast d_Mo_waive_201 (by assumption) (vp_in_nI (by omega) (by decide)) ?_
                          rw [nI_clamp (by omega)]
                          refine gen_putI (P := fun z => G w y_Mo_waive c_Mo_waive 8 r_Mo_waive (1, 40) Q _ _ _ z) hR (i := 731) (lvM (by decide)) cM_731 (fun Z1 e1 hR => ?_)
                          have m732 := zhs_put_ne' e1 m732 (J 732 731 (by decide) (by decide) (by decide))
                          have hm := zhs_put_ne' e1 hm (J 600 731 (by decide) (by decide) (by decide))
                          have m731 := zhs_put_same' e1 m731
                          have hB : Z1.2.2 = Z0.2.2 := by rw [← e1]; exact hB
                          refine g_aload_nq d_Mo_waive_202 rfl 3 rfl ?_
                          refine g_get d_Mo_waive_203 f_Mo_82_Mo (by assumption) (by first | rfl | assumption) ?_
                          refine g_iload d_Mo_waive_206 0 rfl ?_
                          refine g_iload d_Mo_waive_208 7 rfl ?_
                          refine g_iast d_Mo_waive_210 (by assumption) (vp_in_nI (by omega) (by decide)) ?_
                          rw [nI_clamp (by omega)]
                          refine gen_putI (P := fun z => G w y_Mo_waive c_Mo_waive 8 r_Mo_waive (1, 40) Q _ _ _ z) hR (i := 732) (lvM (by decide)) cM_732 (fun Z1 e1 hR => ?_)
                          have m731 := zhs_put_ne' e1 m731 (J 731 732 (by decide) (by decide) (by decide))
                          have hm := zhs_put_ne' e1 hm (J 600 732 (by decide) (by decide) (by decide))
                          have m732 := zhs_put_same' e1 m732
                          have hB : Z1.2.2 = Z0.2.2 := by rw [← e1]; exact hB
                          refine g_aload_nq d_Mo_waive_211 rfl 3 rfl ?_
                          refine g_iload d_Mo_waive_212 0 rfl ?_
                          refine g_aload_nq d_Mo_waive_214 rfl 3 rfl ?_
                          refine g_get d_Mo_waive_215 f_Mo_268_Mo (by assumption) (by first | rfl | assumption) ?_
                          refine g_icmp_ne (tgt := 230) d_Mo_waive_218 (by decide) (fun h218 => ?_) (fun h218 => ?_)
                          · have h9 : ¬ atR S (nI (tI p (nI c) k)) (sN S 26) 0 = sN S 26 := fun z => h218 (by rw [z])
                            rw [if_neg h9] at hN
                            refine g_aload_nq d_Mo_waive_230 rfl 3 rfl ?_
                            refine g_get d_Mo_waive_231 f_Mo_268_Mo (by assumption) (by first | rfl | assumption) ?_
                            refine g_put d_Mo_waive_234 w_Mo_268_Mo (by assumption) (by first | rfl | exact zb_nar _) (by first | rfl | exact zb_fit _ | exact zrf_fit _) (by first | exact Nat.le_of_ble_eq_true rfl | omega) ?_
                            refine gen_putN (P := fun z => G w y_Mo_waive c_Mo_waive 8 r_Mo_waive (1, 40) Q _ _ _ z) hR hL (n := 26) (by decide) c6N_26 (fun Z1 e1 hR hL => ?_)
                            have m731 := zhs_put_ne' e1 m731 (J 731 600 (by decide) (by decide) (by decide))
                            have m732 := zhs_put_ne' e1 m732 (J 732 600 (by decide) (by decide) (by decide))
                            have hm := zhs_put_same' e1 hm
                            simp only [List.set] at hm
                            have hB : Z1.2.2 = Z0.2.2 := by rw [← e1]; exact hB
                            refine g_iconst (v := 1) d_Mo_waive_237 rfl ?_
                            refine g_zret d_Mo_waive_238 ?_ ?_
                            · first | rfl | exact zb_nar _ | exact zb_narc (by assumption)
                            · exact hN _ hR (by rw [hB, hZ0])
                          · have h9 : atR S (nI (tI p (nI c) k)) (sN S 26) 0 = sN S 26 := (nI_eq (by omega) (by omega)).mp h218
                            rw [if_pos h9] at hN
                            refine g_aload_nq d_Mo_waive_221 rfl 3 rfl ?_
                            refine g_get d_Mo_waive_222 f_Mo_268_Mo (by assumption) (by first | rfl | assumption) ?_
                            refine g_iconst (v := 1) d_Mo_waive_225 rfl ?_
                            refine g_iadd d_Mo_waive_226 ?_
                            rw [show (1 : Int32) = nI 1 from rfl, nI_add]
                            refine g_goto (tgt := 234) d_Mo_waive_227 (by decide) ?_
                            refine g_put d_Mo_waive_234 w_Mo_268_Mo (by assumption) (by first | rfl | exact zb_nar _) (by first | rfl | exact zb_fit _ | exact zrf_fit _) (by first | exact Nat.le_of_ble_eq_true rfl | omega) ?_
                            refine gen_putN (P := fun z => G w y_Mo_waive c_Mo_waive 8 r_Mo_waive (1, 40) Q _ _ _ z) hR hL (n := 26) (by decide) c6N_26 (fun Z1 e1 hR hL => ?_)
                            have m731 := zhs_put_ne' e1 m731 (J 731 600 (by decide) (by decide) (by decide))
                            have m732 := zhs_put_ne' e1 m732 (J 732 600 (by decide) (by decide) (by decide))
                            have hm := zhs_put_same' e1 hm
                            simp only [List.set] at hm
                            have hB : Z1.2.2 = Z0.2.2 := by rw [← e1]; exact hB
                            refine g_iconst (v := 1) d_Mo_waive_237 rfl ?_
                            refine g_zret d_Mo_waive_238 ?_ ?_
                            · first | rfl | exact zb_nar _ | exact zb_narc (by assumption)
                            · exact hN _ hR (by rw [hB, hZ0])
                        · have h5 : atR S (nI (tI p (nI c) k)) (sN S 26) 0 = 50 := (nI_eq (b := 50) (by omega) (by decide)).mp h188
                          rw [if_pos h5] at hN
                          refine g_iconst (v := 0) d_Mo_waive_191 rfl ?_
                          refine g_zret d_Mo_waive_192 ?_ ?_
                          · first | rfl | exact zb_nar _ | exact zb_narc (by assumption)
                          · exact hN _ hR (by rw [hB, hZ0])
                      · have hlt : atR S (nI (tI p (nI c) k)) (sN S 26) 0 < sN S 26 := Nat.lt_of_le_of_ne (by omega) (fun z => h99 (by rw [h137]; exact rsR_no _ (fun j hj => atR_no (sN S 26) 0 (by omega) j (by omega) (by omega))))
                        rw [if_pos h137] at hN
                        refine g_aload_nq d_Mo_waive_140 rfl 3 rfl ?_
                        refine g_dup d_Mo_waive_141 rfl ?_
                        refine g_get d_Mo_waive_142 f_Mo_268_Mo (by assumption) (by first | rfl | assumption) ?_
                        refine g_iconst (v := 1) d_Mo_waive_145 rfl ?_
                        refine g_isub d_Mo_waive_146 ?_
                        rw [show nI (sN S 26) - 1 = nI (sN S 26 - 1) by rw [show sN S 26 = (sN S 26 - 1) + 1 by omega, nI_pred, Nat.add_sub_cancel]]
                        refine g_put d_Mo_waive_147 w_Mo_268_Mo (by assumption) (by first | rfl | exact zb_nar _) (by first | rfl | exact zb_fit _ | exact zrf_fit _) (by first | exact Nat.le_of_ble_eq_true rfl | omega) ?_
                        refine gen_putN (P := fun z => G w y_Mo_waive c_Mo_waive 8 r_Mo_waive (1, 40) Q _ _ _ z) hR hL (n := 26) (by decide) c6N_26 (fun Z1 e1 hR hL => ?_)
                        have m731 := zhs_put_ne' e1 m731 (J 731 600 (by decide) (by decide) (by decide))
                        have m732 := zhs_put_ne' e1 m732 (J 732 600 (by decide) (by decide) (by decide))
                        have hm := zhs_put_same' e1 hm
                        simp only [List.set] at hm
                        have hB : Z1.2.2 = Z0.2.2 := by rw [← e1]; exact hB
                        refine g_aload_nq d_Mo_waive_150 rfl 3 rfl ?_
                        refine g_get d_Mo_waive_151 f_Mo_79_Mo (by assumption) (by first | rfl | assumption) ?_
                        refine g_iload d_Mo_waive_154 0 rfl ?_
                        refine g_aload_nq d_Mo_waive_156 rfl 3 rfl ?_
                        refine g_get d_Mo_waive_157 f_Mo_79_Mo (by assumption) (by first | rfl | assumption) ?_
                        refine g_aload_nq d_Mo_waive_160 rfl 3 rfl ?_
                        refine g_get d_Mo_waive_161 f_Mo_268_Mo (by assumption) (by first | rfl | assumption) ?_
                        refine g_iald d_Mo_waive_164 (by assumption) (vp_in_nI (n := (sN S 26 - 1)) (by omega) (by decide)) ?_
                        rw [nI_clamp (by omega)]
                        refine g_iast d_Mo_waive_165 (by assumption) (vp_in_nI (by omega) (by decide)) ?_
                        rw [nI_clamp (by omega)]
                        refine gen_putI (P := fun z => G w y_Mo_waive c_Mo_waive 8 r_Mo_waive (1, 40) Q _ _ _ z) hR (i := 731) (lvM (by decide)) cM_731 (fun Z1 e1 hR => ?_)
                        have m732 := zhs_put_ne' e1 m732 (J 732 731 (by decide) (by decide) (by decide))
                        have hm := zhs_put_ne' e1 hm (J 600 731 (by decide) (by decide) (by decide))
                        have m731 := zhs_put_same' e1 m731
                        have hB : Z1.2.2 = Z0.2.2 := by rw [← e1]; exact hB
                        refine g_aload_nq d_Mo_waive_166 rfl 3 rfl ?_
                        refine g_get d_Mo_waive_167 f_Mo_82_Mo (by assumption) (by first | rfl | assumption) ?_
                        refine g_iload d_Mo_waive_170 0 rfl ?_
                        refine g_aload_nq d_Mo_waive_172 rfl 3 rfl ?_
                        refine g_get d_Mo_waive_173 f_Mo_82_Mo (by assumption) (by first | rfl | assumption) ?_
                        refine g_aload_nq d_Mo_waive_176 rfl 3 rfl ?_
                        refine g_get d_Mo_waive_177 f_Mo_268_Mo (by assumption) (by first | rfl | assumption) ?_
                        refine g_iald d_Mo_waive_180 (by assumption) (vp_in_nI (n := (sN S 26 - 1)) (by omega) (by decide)) ?_
                        rw [nI_clamp (by omega)]
                        refine g_iast d_Mo_waive_181 (by assumption) (vp_in_nI (by omega) (by decide)) ?_
                        rw [nI_clamp (by omega)]
                        refine gen_putI (P := fun z => G w y_Mo_waive c_Mo_waive 8 r_Mo_waive (1, 40) Q _ _ _ z) hR (i := 732) (lvM (by decide)) cM_732 (fun Z1 e1 hR => ?_)
                        have m731 := zhs_put_ne' e1 m731 (J 731 732 (by decide) (by decide) (by decide))
                        have hm := zhs_put_ne' e1 hm (J 600 732 (by decide) (by decide) (by decide))
                        have m732 := zhs_put_same' e1 m732
                        have hB : Z1.2.2 = Z0.2.2 := by rw [← e1]; exact hB
                        refine g_iconst (v := 1) d_Mo_waive_182 rfl ?_
                        refine g_zret d_Mo_waive_183 ?_ ?_
                        · first | rfl | exact zb_nar _ | exact zb_narc (by assumption)
                        · exact hN _ hR (by rw [hB, hZ0])
                    · rw [wvM, if_pos h99] at hN
                      refine g_iconst (v := 0) d_Mo_waive_102 rfl ?_
                      refine g_zret d_Mo_waive_103 ?_ ?_
                      · first | rfl | exact zb_nar _ | exact zb_narc (by assumption)
                      · exact hN _ hR (by rw [hB, hZ0])
                  · exact absurd rfl h73
                · have hF := hA ha hb9 (fun z => h58 (rea_no z).2)
                  refine g_iconst (v := 2) d_Mo_waive_61 rfl ?_
                  refine g_goto (tgt := 66) d_Mo_waive_62 (by decide) ?_
                  refine g_put d_Mo_waive_66 w_Mo_91_Mo (by assumption) (by first | rfl | exact zb_nar _) (by first | rfl | exact zb_fit _ | exact zrf_fit _) (by first | exact Nat.le_of_ble_eq_true rfl | omega) ?_
                  refine gen_putI (P := fun z => G w y_Mo_waive c_Mo_waive 8 r_Mo_waive (1, 40) Q _ _ _ z) hR (i := 600) lv6 c6_0 (fun Z1 e1 hR => ?_)
                  have m731 := zhs_put_ne' e1 m731 (J 731 600 (by decide) (by decide) (by decide))
                  have m732 := zhs_put_ne' e1 m732 (J 732 600 (by decide) (by decide) (by decide))
                  have hm := zhs_put_same' e1 hm
                  simp only [List.set] at hm
                  have hB : Z1.2.2 = Z0.2.2 := by rw [← e1]; exact hB
                  refine g_aload_nq d_Mo_waive_69 rfl 1 rfl ?_
                  refine g_get d_Mo_waive_70 f_Mo_91_Mo (by assumption) (by first | rfl | assumption) ?_
                  first | refine g_if_eqB (tgt := 78) d_Mo_waive_73 (by decide) (fun h73 => ?_) (fun h73 => ?_) | refine g_if_eq (tgt := 78) d_Mo_waive_73 (by decide) (fun h73 => ?_) (fun h73 => ?_)
                  · exact absurd h73 (by decide)
                  · refine g_iconst (v := 0) d_Mo_waive_76 rfl ?_
                    refine g_zret d_Mo_waive_77 ?_ ?_
                    · first | rfl | exact zb_nar _ | exact zb_narc (by assumption)
                    · exact hF _ hR (by rw [hB, hZ0])
            · exact absurd h40 (by decide)
