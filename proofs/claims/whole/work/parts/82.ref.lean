/-! The reference: holds -/
theorem nI_dec (n : Nat) : nI (n + 1) + (-1) = nI n := by
  have h := nI_pred n
  rw [Int32.sub_eq_add_neg] at h
  exact h
theorem rpR_t {S : ST} {s : Int32} {k m i : Nat} {l : List Int64} (h : sI S 722 i < 10) : rpR S s k (m + 1) i l = (if l.length < 90 ∧ (sI S 722 i = 1 → ¬ sI S 723 i < 0 ∧ ¬ 8 ≤ sI S 723 i) then rpR S s k m (i + 1) (tmR S (sI S 722 i) (sI S 723 i) s k :: l) else none) := if_pos h
theorem rpR_n0 {S : ST} {s : Int32} {k m i : Nat} (h : ¬ sI S 722 i < 10) : rpR S s k (m + 1) i [] = none := by
  refine (if_neg h).trans ?_
  by_cases h2 : sI S 722 i = 19
  · exact if_pos h2
  · exact if_neg h2
theorem rpR_n {S : ST} {s : Int32} {k m i : Nat} {a : Int64} {l : List Int64} (h : ¬ sI S 722 i < 10) (h2 : sI S 722 i = 19) : rpR S s k (m + 1) i (a :: l) = rpR S s k m (i + 1) (zl (a = 0) :: l) := (if_neg h).trans (if_pos h2)
theorem rpR_b {S : ST} {s : Int32} {k m i : Nat} {a b : Int64} {l : List Int64} (h : ¬ sI S 722 i < 10) (h2 : ¬ sI S 722 i = 19) : rpR S s k (m + 1) i (b :: a :: l) = rpR S s k m (i + 1) (rsl (sI S 722 i) a b :: l) := (if_neg h).trans (if_neg h2)
theorem rpR_b1 {S : ST} {s : Int32} {k m i : Nat} {b : Int64} (h : ¬ sI S 722 i < 10) (h2 : ¬ sI S 722 i = 19) : rpR S s k (m + 1) i [b] = none := (if_neg h).trans (if_neg h2)
set_option maxHeartbeats 4000000 in
set_option maxRecDepth 100000 in
theorem L_Mo_holds {w : zC} {Q : zR → zZ → Prop} {ad : Nat → Nat} {S : ST} (hI : mInv S) {s : Int32} {k r c : Nat} {v : Int64} (hr : r < 20) (hc : sI S 721 r = nI c) (hc9 : c ≤ 90) (hsub : sI S 719 r = s) (hk : k < 160) (hs : s = 2 ∨ k < 40) (m : Nat) : ∀ i l g Z, Rep w ad (wJ S 741 g) Z → i + m = 90 * r + c → stk g l → l.length ≤ 90 → rpR S s k m i l = some [v] → (∀ Z' g', Rep w ad (wJ S 741 g') Z' → Z'.2.2 = Z.2.2 → Q (.inl (some (.int (zb (¬ v = 0))))) Z') → G w y_Mo_holds c_Mo_holds 5 r_Mo_holds (3, 82) Q 8 [(4, .int (nI i)), (3, .int (nI l.length)), (0, .ref (ad 600)), (1, .int (nI r)), (2, .int (nI k))] [] Z := by
  induction m with
  | zero =>
    intro i l g Z hR hi hst hlen hrp hk9
    have hm : zhs Z (ad 600) (.inr (10, [.int (sI S 600 0), .ref (ad 701), .int (nI (sN S 20)), .int (nI (sN S 21)), .int (nI (sN S 22)), .ref (ad 705), .ref (ad 706), .ref (ad 707), .ref (ad 708), .ref (ad 709), .ref (ad 710), .ref (ad 711), .int (nI (sN S 23)), .ref (ad 713), .ref (ad 714), .ref (ad 715), .ref (ad 716), .int (nI (sN S 24)), .int (nI (sN S 25)), .ref (ad 719), .ref (ad 720), .ref (ad 721), .ref (ad 722), .ref (ad 723), .ref (ad 724), .int (sI S 600 25), .ref (ad 726), .ref (ad 727), .ref (ad 728), .int (sI S 600 29), .int (nI (sN S 26)), .ref (ad 731), .ref (ad 732), .int (nI (sN S 27)), .int (nI (sN S 28)), .int (nI (sN S 29)), .int (nI (sN S 30)), .ref (ad 737), .int (nI (sN S 31)), .int (nI (sN S 32)), .int (sI S 600 40), .ref (ad 741)])) := hR.m
    have m719 : zhs Z (ad 719) (xi w 20 (sI S 719)) := hR.ma 719 (by decide)
    have m721 : zhs Z (ad 721) (xi w 20 (sI S 721)) := hR.ma 721 (by decide)
    have m722 : zhs Z (ad 722) (xi w 1800 (sI S 722)) := hR.ma 722 (by decide)
    have m723 : zhs Z (ad 723) (xi w 1800 (sI S 723)) := hR.ma 723 (by decide)
    have m741 : zhs Z (ad 741) (xl w 90 (g)) := hR.ma 741 (by decide)
    have J : ∀ i j, mL i → mL j → i ≠ j → ad i ≠ ad j := fun i j hi hj hne => hR.inj (lvL hi) (lvL hj) hne
    obtain ⟨Z0, hZ0⟩ : ∃ Z0, Z0 = Z := ⟨_, rfl⟩
    have hB : Z.2.2 = Z0.2.2 := by rw [hZ0]
    refine g_iload d_Mo_holds_8 0 rfl ?_
    refine g_bipush (v := 90) d_Mo_holds_10 rfl ?_
    refine g_iload_n d_Mo_holds_12 rfl 3 rfl ?_
    refine g_imul d_Mo_holds_13 ?_
    rw [show (90 : Int32) = nI 90 from rfl, pk_mul]
    refine g_aload_nq d_Mo_holds_14 rfl 2 rfl ?_
    refine g_get d_Mo_holds_15 f_Mo_53_Mo (by assumption) (by first | rfl | assumption) ?_
    refine g_iload_n d_Mo_holds_18 rfl 3 rfl ?_
    refine g_iald d_Mo_holds_19 (by assumption) (vp_in_nI (n := r) (by omega) (by decide)) ?_
    rw [nI_clamp (by omega)]
    rw [hc]
    refine g_iadd d_Mo_holds_20 ?_
    rw [nI_add]
    refine g_icmp_ge (tgt := 157) d_Mo_holds_21 (by decide) (fun h21 => ?_) (fun h21 => ?_)
    · have hl : l = [v] := Option.some.inj hrp
      subst hl
      have h0 : g 0 = v := hst 0 Nat.zero_lt_one
      refine g_aload_nq d_Mo_holds_157 rfl 2 rfl ?_
      refine g_get d_Mo_holds_158 f_Mo_88_Mo (by assumption) (by first | rfl | assumption) ?_
      refine g_iconst (v := 0) d_Mo_holds_161 rfl ?_
      refine g_lald d_Mo_holds_162 (by assumption) (vp_in_nI (n := 0) (N := 90) (by decide) (by decide)) ?_
      rw [show g (Int32.toNatClampNeg 0) = v from h0]
      refine g_lconst (v := 0) d_Mo_holds_163 rfl ?_
      refine g_lcmp d_Mo_holds_164 ?_
      refine g_if_eq (tgt := 172) d_Mo_holds_165 (by decide) (fun h165 => ?_) (fun h165 => ?_)
      · rw [lg_cmp_eq] at h165
        have hk9 := hk9 Z g hR rfl
        rw [zb_f (fun z => z h165)] at hk9
        refine g_iconst (v := 0) d_Mo_holds_172 rfl ?_
        refine g_zret d_Mo_holds_173 ?_ ?_
        · first | rfl | exact zb_nar _ | exact zb_narc (by assumption)
        · exact hk9
      · rw [lg_cmp_eq] at h165
        have hk9 := hk9 Z g hR rfl
        rw [zb_t h165] at hk9
        refine g_iconst (v := 1) d_Mo_holds_168 rfl ?_
        refine g_goto (tgt := 173) d_Mo_holds_169 (by decide) ?_
        refine g_zret d_Mo_holds_173 ?_ ?_
        · first | rfl | exact zb_nar _ | exact zb_narc (by assumption)
        · exact hk9
    · exact absurd (nI_le (by omega) (by omega)) h21
  | succ m ih =>
    intro i l g Z hR hi hst hlen hrp hk9
    have hm : zhs Z (ad 600) (.inr (10, [.int (sI S 600 0), .ref (ad 701), .int (nI (sN S 20)), .int (nI (sN S 21)), .int (nI (sN S 22)), .ref (ad 705), .ref (ad 706), .ref (ad 707), .ref (ad 708), .ref (ad 709), .ref (ad 710), .ref (ad 711), .int (nI (sN S 23)), .ref (ad 713), .ref (ad 714), .ref (ad 715), .ref (ad 716), .int (nI (sN S 24)), .int (nI (sN S 25)), .ref (ad 719), .ref (ad 720), .ref (ad 721), .ref (ad 722), .ref (ad 723), .ref (ad 724), .int (sI S 600 25), .ref (ad 726), .ref (ad 727), .ref (ad 728), .int (sI S 600 29), .int (nI (sN S 26)), .ref (ad 731), .ref (ad 732), .int (nI (sN S 27)), .int (nI (sN S 28)), .int (nI (sN S 29)), .int (nI (sN S 30)), .ref (ad 737), .int (nI (sN S 31)), .int (nI (sN S 32)), .int (sI S 600 40), .ref (ad 741)])) := hR.m
    have m719 : zhs Z (ad 719) (xi w 20 (sI S 719)) := hR.ma 719 (by decide)
    have m721 : zhs Z (ad 721) (xi w 20 (sI S 721)) := hR.ma 721 (by decide)
    have m722 : zhs Z (ad 722) (xi w 1800 (sI S 722)) := hR.ma 722 (by decide)
    have m723 : zhs Z (ad 723) (xi w 1800 (sI S 723)) := hR.ma 723 (by decide)
    have m741 : zhs Z (ad 741) (xl w 90 (g)) := hR.ma 741 (by decide)
    have J : ∀ i j, mL i → mL j → i ≠ j → ad i ≠ ad j := fun i j hi hj hne => hR.inj (lvL hi) (lvL hj) hne
    obtain ⟨Z0, hZ0⟩ : ∃ Z0, Z0 = Z := ⟨_, rfl⟩
    have hB : Z.2.2 = Z0.2.2 := by rw [hZ0]
    refine g_iload d_Mo_holds_8 0 rfl ?_
    refine g_bipush (v := 90) d_Mo_holds_10 rfl ?_
    refine g_iload_n d_Mo_holds_12 rfl 3 rfl ?_
    refine g_imul d_Mo_holds_13 ?_
    rw [show (90 : Int32) = nI 90 from rfl, pk_mul]
    refine g_aload_nq d_Mo_holds_14 rfl 2 rfl ?_
    refine g_get d_Mo_holds_15 f_Mo_53_Mo (by assumption) (by first | rfl | assumption) ?_
    refine g_iload_n d_Mo_holds_18 rfl 3 rfl ?_
    refine g_iald d_Mo_holds_19 (by assumption) (vp_in_nI (n := r) (by omega) (by decide)) ?_
    rw [nI_clamp (by omega)]
    rw [hc]
    refine g_iadd d_Mo_holds_20 ?_
    rw [nI_add]
    refine g_icmp_ge (tgt := 157) d_Mo_holds_21 (by decide) (fun h21 => ?_) (fun h21 => ?_)
    · exact absurd h21 (nI_ge (by omega) (by omega))
    · refine g_aload_nq d_Mo_holds_24 rfl 2 rfl ?_
      refine g_get d_Mo_holds_25 f_Mo_56_Mo (by assumption) (by first | rfl | assumption) ?_
      refine g_iload d_Mo_holds_28 0 rfl ?_
      refine g_iald d_Mo_holds_30 (by assumption) (vp_in_nI (n := i) (by omega) (by decide)) ?_
      rw [nI_clamp (by omega)]
      refine g_bipush (v := 10) d_Mo_holds_31 rfl ?_
      refine g_icmp_ge (tgt := 73) d_Mo_holds_33 (by decide) (fun h33 => ?_) (fun h33 => ?_)
      · have hop := Int32.not_lt.mpr h33
        refine g_aload_nq d_Mo_holds_73 rfl 2 rfl ?_
        refine g_get d_Mo_holds_74 f_Mo_56_Mo (by assumption) (by first | rfl | assumption) ?_
        refine g_iload d_Mo_holds_77 0 rfl ?_
        refine g_iald d_Mo_holds_79 (by assumption) (vp_in_nI (n := i) (by omega) (by decide)) ?_
        rw [nI_clamp (by omega)]
        refine g_bipush (v := 19) d_Mo_holds_80 rfl ?_
        refine g_icmp_ne (tgt := 114) d_Mo_holds_82 (by decide) (fun h82 => ?_) (fun h82 => ?_)
        · rcases l with _ | ⟨b, _ | ⟨a, l⟩⟩
          rw [rpR_n0 hop] at hrp; cases hrp
          rw [rpR_b1 hop h82] at hrp; cases hrp
          rw [rpR_b hop h82] at hrp
          obtain ⟨st1, st2⟩ := stk.pop hst
          obtain ⟨st3, st4⟩ := stk.pop st1
          have hl9 : l.length + 1 + 1 ≤ 90 := hlen
          refine g_aload_nq d_Mo_holds_114 rfl 2 rfl ?_
          refine g_get d_Mo_holds_115 f_Mo_88_Mo (by assumption) (by first | rfl | assumption) ?_
          refine g_iload_n d_Mo_holds_118 rfl 1 rfl ?_
          refine g_iconst (v := 2) d_Mo_holds_119 rfl ?_
          refine g_isub d_Mo_holds_120 ?_
          rw [List.length_cons, List.length_cons, show (2 : Int32) = nI 2 from rfl, nI_sub (by omega), show l.length + 1 + 1 - 2 = l.length by omega]
          refine g_aload_nq d_Mo_holds_121 rfl 2 rfl ?_
          refine g_get d_Mo_holds_122 f_Mo_56_Mo (by assumption) (by first | rfl | assumption) ?_
          refine g_iload d_Mo_holds_125 0 rfl ?_
          refine g_iald d_Mo_holds_127 (by assumption) (vp_in_nI (n := i) (by omega) (by decide)) ?_
          rw [nI_clamp (by omega)]
          refine g_aload_nq d_Mo_holds_128 rfl 2 rfl ?_
          refine g_get d_Mo_holds_129 f_Mo_88_Mo (by assumption) (by first | rfl | assumption) ?_
          refine g_iload_n d_Mo_holds_132 rfl 1 rfl ?_
          refine g_iconst (v := 2) d_Mo_holds_133 rfl ?_
          refine g_isub d_Mo_holds_134 ?_
          rw [show (2 : Int32) = nI 2 from rfl, nI_sub (by omega), show l.length + 1 + 1 - 2 = l.length by omega]
          refine g_lald d_Mo_holds_135 (by assumption) (vp_in_nI (n := l.length) (by omega) (by decide)) ?_
          rw [nI_clamp (by omega)]
          rw [st4]
          refine g_aload_nq d_Mo_holds_136 rfl 2 rfl ?_
          refine g_get d_Mo_holds_137 f_Mo_88_Mo (by assumption) (by first | rfl | assumption) ?_
          refine g_iload_n d_Mo_holds_140 rfl 1 rfl ?_
          refine g_iconst (v := 1) d_Mo_holds_141 rfl ?_
          refine g_isub d_Mo_holds_142 ?_
          rw [nI_pred]
          refine g_lald d_Mo_holds_143 (by assumption) (vp_in_nI (n := (l.length + 1)) (by omega) (by decide)) ?_
          rw [nI_clamp (by omega)]
          rw [show g (l.length + 1) = b from st2]
          refine g_callS d_Mo_holds_144 k_Mo_result l_Mo_233 s_Mo_result (by rfl) (by rfl) (Nat.le_of_ble_eq_true rfl) (by decide) (C_Mo_result ⟨_, rfl, ?_⟩)
          refine g_last d_Mo_holds_147 (by assumption) (vp_in_nI (n := l.length) (by omega) (by decide)) ?_
          rw [nI_clamp (by omega)]
          refine gen_putJ (P := fun z => G w y_Mo_holds c_Mo_holds 5 r_Mo_holds (3, 82) Q _ _ _ z) hR (i := 741) (lvM (by decide)) cM_741 (fun Z1 e1 hR => ?_)
          rw [wJ_wJ] at hR
          have hB1 : Z1.2.2 = Z.2.2 := by rw [← e1]; rfl
          refine g_iinc (k := 1) d_Mo_holds_148 rfl (nI_dec (l.length + 1)) (by decide) rfl ?_
          show G _ _ _ _ _ _ _ _ [(3, _), (4, _), (0, _), (1, _), (2, _)] _ _
          refine g_iinc (k := 1) d_Mo_holds_151 rfl (nI_1 i) (by decide) rfl ?_
          refine g_goto (tgt := 8) d_Mo_holds_154 (by decide) ?_
          exact ih (i + 1) _ _ Z1 hR (by omega) (stk.push st3) (by rw [List.length_cons]; omega) hrp (fun Z9 g9 r9 b9 => hk9 Z9 g9 r9 (b9.trans hB1))
        · rcases l with _ | ⟨a, l⟩
          rw [rpR_n0 hop] at hrp; cases hrp
          rw [rpR_n hop h82] at hrp
          obtain ⟨st1, st2⟩ := stk.pop hst
          have hl9 : l.length + 1 ≤ 90 := hlen
          refine g_aload_nq d_Mo_holds_85 rfl 2 rfl ?_
          refine g_get d_Mo_holds_86 f_Mo_88_Mo (by assumption) (by first | rfl | assumption) ?_
          refine g_iload_n d_Mo_holds_89 rfl 1 rfl ?_
          refine g_iconst (v := 1) d_Mo_holds_90 rfl ?_
          refine g_isub d_Mo_holds_91 ?_
          rw [List.length_cons, nI_pred]
          refine g_aload_nq d_Mo_holds_92 rfl 2 rfl ?_
          refine g_get d_Mo_holds_93 f_Mo_88_Mo (by assumption) (by first | rfl | assumption) ?_
          refine g_iload_n d_Mo_holds_96 rfl 1 rfl ?_
          refine g_iconst (v := 1) d_Mo_holds_97 rfl ?_
          refine g_isub d_Mo_holds_98 ?_
          rw [nI_pred]
          refine g_lald d_Mo_holds_99 (by assumption) (vp_in_nI (n := l.length) (by omega) (by decide)) ?_
          rw [nI_clamp (by omega)]
          rw [st2]
          refine g_lconst (v := 0) d_Mo_holds_100 rfl ?_
          refine g_lcmp d_Mo_holds_101 ?_
          refine g_if_ne (tgt := 109) d_Mo_holds_102 (by decide) (fun h102 => ?_) (fun h102 => ?_)
          · rw [lg_cmp_eq] at h102
            rw [zl_f h102] at hrp
            refine g_lconst (v := 0) d_Mo_holds_109 rfl ?_
            refine g_last d_Mo_holds_110 (by assumption) (vp_in_nI (n := l.length) (by omega) (by decide)) ?_
            rw [nI_clamp (by omega)]
            refine gen_putJ (P := fun z => G w y_Mo_holds c_Mo_holds 5 r_Mo_holds (3, 82) Q _ _ _ z) hR (i := 741) (lvM (by decide)) cM_741 (fun Z1 e1 hR => ?_)
            rw [wJ_wJ] at hR
            have hB1 : Z1.2.2 = Z.2.2 := by rw [← e1]; rfl
            refine g_goto (tgt := 151) d_Mo_holds_111 (by decide) ?_
            refine g_iinc (k := 0) d_Mo_holds_151 rfl (nI_1 i) (by decide) rfl ?_
            refine g_goto (tgt := 8) d_Mo_holds_154 (by decide) ?_
            exact ih (i + 1) _ _ Z1 hR (by omega) (stk.push st1) (by rw [List.length_cons]; omega) hrp (fun Z9 g9 r9 b9 => hk9 Z9 g9 r9 (b9.trans hB1))
          · rw [lg_cmp_eq] at h102
            rw [zl_t h102] at hrp
            refine g_lconst (v := 1) d_Mo_holds_105 rfl ?_
            refine g_goto (tgt := 110) d_Mo_holds_106 (by decide) ?_
            refine g_last d_Mo_holds_110 (by assumption) (vp_in_nI (n := l.length) (by omega) (by decide)) ?_
            rw [nI_clamp (by omega)]
            refine gen_putJ (P := fun z => G w y_Mo_holds c_Mo_holds 5 r_Mo_holds (3, 82) Q _ _ _ z) hR (i := 741) (lvM (by decide)) cM_741 (fun Z1 e1 hR => ?_)
            rw [wJ_wJ] at hR
            have hB1 : Z1.2.2 = Z.2.2 := by rw [← e1]; rfl
            refine g_goto (tgt := 151) d_Mo_holds_111 (by decide) ?_
            refine g_iinc (k := 0) d_Mo_holds_151 rfl (nI_1 i) (by decide) rfl ?_
            refine g_goto (tgt := 8) d_Mo_holds_154 (by decide) ?_
            exact ih (i + 1) _ _ Z1 hR (by omega) (stk.push st1) (by rw [List.length_cons]; omega) hrp (fun Z9 g9 r9 b9 => hk9 Z9 g9 r9 (b9.trans hB1))
      · have hop : sI S 722 i < 10 := Int32.not_le.mp h33
        rw [rpR_t hop] at hrp
        split at hrp
        rotate_left
        exact absurd hrp (by simp)
        rename_i hin
        refine g_aload_nq d_Mo_holds_36 rfl 2 rfl ?_
        refine g_get d_Mo_holds_37 f_Mo_88_Mo (by assumption) (by first | rfl | assumption) ?_
        refine g_iload_n d_Mo_holds_40 rfl 1 rfl ?_
        refine g_aload_nq d_Mo_holds_41 rfl 2 rfl ?_
        refine g_aload_nq d_Mo_holds_42 rfl 2 rfl ?_
        refine g_get d_Mo_holds_43 f_Mo_56_Mo (by assumption) (by first | rfl | assumption) ?_
        refine g_iload d_Mo_holds_46 0 rfl ?_
        refine g_iald d_Mo_holds_48 (by assumption) (vp_in_nI (n := i) (by omega) (by decide)) ?_
        rw [nI_clamp (by omega)]
        refine g_aload_nq d_Mo_holds_49 rfl 2 rfl ?_
        refine g_get d_Mo_holds_50 f_Mo_59_Mo (by assumption) (by first | rfl | assumption) ?_
        refine g_iload d_Mo_holds_53 0 rfl ?_
        refine g_iald d_Mo_holds_55 (by assumption) (vp_in_nI (n := i) (by omega) (by decide)) ?_
        rw [nI_clamp (by omega)]
        refine g_aload_nq d_Mo_holds_56 rfl 2 rfl ?_
        refine g_get d_Mo_holds_57 f_Mo_47_Mo (by assumption) (by first | rfl | assumption) ?_
        refine g_iload_n d_Mo_holds_60 rfl 3 rfl ?_
        refine g_iald d_Mo_holds_61 (by assumption) (vp_in_nI (n := r) (by omega) (by decide)) ?_
        rw [nI_clamp (by omega)]
        rw [hsub]
        refine g_iload_n d_Mo_holds_62 rfl 4 rfl ?_
        refine g_callV d_Mo_holds_63 k_Mo_term l_Mo_229 i_Mo_term rfl p_Mo_term hm (by rfl) (by rfl) (Nat.le_of_ble_eq_true rfl) (by decide) (C_Mo_term hR hI hk hs (fun z => by obtain ⟨j, hj, ej⟩ := bel (n := 8) (hin.2 z) (by decide); exact ⟨j, hj, ej⟩) ⟨_, rfl, ?_⟩)
        rw [tmR_cg (S := S) (S' := wJ S 741 g) ⟨rfl, rfl, rfl⟩]
        refine g_last d_Mo_holds_66 (by assumption) (vp_in_nI (n := l.length) hin.1 (by decide)) ?_
        rw [nI_clamp (by omega)]
        refine gen_putJ (P := fun z => G w y_Mo_holds c_Mo_holds 5 r_Mo_holds (3, 82) Q _ _ _ z) hR (i := 741) (lvM (by decide)) cM_741 (fun Z1 e1 hR => ?_)
        rw [wJ_wJ] at hR
        have hB1 : Z1.2.2 = Z.2.2 := by rw [← e1]; rfl
        refine g_iinc (k := 1) d_Mo_holds_67 rfl (nI_1 l.length) (by decide) rfl ?_
        show G _ _ _ _ _ _ _ _ [(3, _), (4, _), (0, _), (1, _), (2, _)] _ _
        refine g_goto (tgt := 151) d_Mo_holds_70 (by decide) ?_
        refine g_iinc (k := 1) d_Mo_holds_151 rfl (nI_1 i) (by decide) rfl ?_
        refine g_goto (tgt := 8) d_Mo_holds_154 (by decide) ?_
        exact ih (i + 1) _ _ Z1 hR (by omega) (stk.push hst) (by rw [List.length_cons]; omega) hrp (fun Z9 g9 r9 b9 => hk9 Z9 g9 r9 (b9.trans hB1))

set_option maxHeartbeats 4000000 in
set_option maxRecDepth 100000 in
theorem C_Mo_holds {w : zC} {Z : zZ} {Q : zR → zZ → Prop} {ad : Nat → Nat} {S : ST} (hR : Rep w ad S Z) (hI : mInv S) {s : Int32} {k r c : Nat} {v : Int64} (hr : r < 20) (hc : sI S 721 r = nI c) (hc9 : c ≤ 90) (hsub : sI S 719 r = s) (hk : k < 160) (hs : s = 2 ∨ k < 40) (hrp : rpR S s k c (90 * r) [] = some [v]) (hQ : ∀ Z' g', Rep w ad (wJ S 741 g') Z' → Z'.2.2 = Z.2.2 → Q (.inl (some (.int (zb (¬ v = 0))))) Z') : Cz w (3, 82) y_Mo_holds (Cond.code y_Mo_holds c_Mo_holds 5 r_Mo_holds :: wz) [.ref (ad 600), .int (nI r), .int (nI k)] Z Q := by
  refine Cz.of (by decide +kernel) (by simp [lg_sl, Value.category]) ?_
  show G _ _ _ _ _ _ _ _ [(0, _), (1, _), (2, _)] _ _
  refine g_iconst (v := 0) d_Mo_holds_0 rfl ?_
  refine g_istore_n d_Mo_holds_1 rfl (by decide) rfl ?_
  show G _ _ _ _ _ _ _ _ [(3, _), (0, _), (1, _), (2, _)] _ _
  refine g_bipush (v := 90) d_Mo_holds_2 rfl ?_
  refine g_iload_n d_Mo_holds_4 rfl 2 rfl ?_
  refine g_imul d_Mo_holds_5 ?_
  rw [show (90 : Int32) = nI 90 from rfl, pk_mul]
  refine g_istore d_Mo_holds_6 (by decide) rfl ?_
  show G _ _ _ _ _ _ _ _ [(4, _), (3, _), (0, _), (1, _), (2, _)] _ _
  exact L_Mo_holds hI hr hc hc9 hsub hk hs c (90 * r) [] (sJ S 741) Z (by rw [wJ_self]; exact hR) (by omega) (fun j hj => absurd hj (Nat.not_lt_zero _)) (by decide) hrp hQ
