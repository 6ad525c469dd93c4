/-! The reference: takes -/
def mTk (S : ST) (s : Int32) : ST × Bool := if sI S 600 40 = 2 ∨ sI S 600 40 = 4 ∨ sI S 600 40 = 5 then mSg S
  else if sI S 600 40 = 0 ∧ spR S = wdR 110 111 116 0 0 then (mwai S 19, true)
  else if sI S 600 40 = 0 ∧ spR S = 40 then (if nI (sN S 32) = 8 then (S, false) else (wN (mwai S 22) 32 (sN (mwai S 22) 32 + 1), true))
  else if (mTm S s).2 = true then (w6 (mTm S s).1 40 (if 2 ≤ sI (mTm S s).1 600 40 then 4 else 2), true) else ((mTm S s).1, false)
theorem ciLive.wai {S : ST} {x : Int32} (h : ciLive S) : ciLive (mwai S x) := h.same' rfl (fun m hm => wN_ne (by omega))
set_option maxHeartbeats 4000000 in
set_option maxRecDepth 100000 in
theorem C_Mo_takes {w : zC} {Z : zZ} {Q : zR → zZ → Prop} {ad : Nat → Nat} {S : ST} (hR : Rep w ad S Z) (hL : ciLive S) {s : Int32} (hw : mW S) (hq : mQ S) (ho : 0 < sN S 32 → 0 < sN (mrel 1 (sN S 31) S) 31) (hQ : mkQ w ad Z Q (mTk S s)) : Cz w (3, 80) y_Mo_takes (Cond.code y_Mo_takes c_Mo_takes 2 r_Mo_takes :: wz) [.ref (ad 600), .int s] Z Q := by
  refine Cz.of (by decide +kernel) (by simp [lg_sl, Value.category]) ?_
  show G _ _ _ _ _ _ _ _ [(0, _), (1, _)] _ _
  have hm : zhs Z (ad 600) (.inr (10, [.int (sI S 600 0), .ref (ad 701), .int (nI (sN S 20)), .int (nI (sN S 21)), .int (nI (sN S 22)), .ref (ad 705), .ref (ad 706), .ref (ad 707), .ref (ad 708), .ref (ad 709), .ref (ad 710), .ref (ad 711), .int (nI (sN S 23)), .ref (ad 713), .ref (ad 714), .ref (ad 715), .ref (ad 716), .int (nI (sN S 24)), .int (nI (sN S 25)), .ref (ad 719), .ref (ad 720), .ref (ad 721), .ref (ad 722), .ref (ad 723), .ref (ad 724), .int (sI S 600 25), .ref (ad 726), .ref (ad 727), .ref (ad 728), .int (sI S 600 29), .int (nI (sN S 26)), .ref (ad 731), .ref (ad 732), .int (nI (sN S 27)), .int (nI (sN S 28)), .int (nI (sN S 29)), .int (nI (sN S 30)), .ref (ad 737), .int (nI (sN S 31)), .int (nI (sN S 32)), .int (sI S 600 40), .ref (ad 741)])) := hR.m
  refine g_aload_nq d_Mo_takes_0 rfl 0 rfl ?_
  refine g_get d_Mo_takes_1 f_Mo_184_Mo (by assumption) (by first | rfl | assumption) ?_
  refine g_iconst (v := 2) d_Mo_takes_4 rfl ?_
  refine g_icmp_eq (tgt := 24) d_Mo_takes_5 (by decide) (fun h5 => ?_) (fun h5 => ?_)
  · rw [mTk, if_pos (Or.inl h5)] at hQ
    refine g_aload_nq d_Mo_takes_24 rfl 0 rfl ?_
    refine g_callV d_Mo_takes_25 k_Mo_takesSign l_Mo_199 i_Mo_takesSign rfl p_Mo_takesSign hm (by rfl) (by rfl) (Nat.le_of_ble_eq_true rfl) (by decide) (C_Mo_takesSign hR hL hw hq ho (fun Z1 hR1 B1 => ⟨_, rfl, ?_⟩))
    refine g_zret d_Mo_takes_28 ?_ ?_
    · first | rfl | exact zb_nar _ | exact zb_narc (by assumption)
    · exact hQ Z1 hR1 B1
  · refine g_aload_nq d_Mo_takes_8 rfl 0 rfl ?_
    refine g_get d_Mo_takes_9 f_Mo_184_Mo (by assumption) (by first | rfl | assumption) ?_
    refine g_iconst (v := 4) d_Mo_takes_12 rfl ?_
    refine g_icmp_eq (tgt := 24) d_Mo_takes_13 (by decide) (fun h13 => ?_) (fun h13 => ?_)
    · rw [mTk, if_pos (Or.inr (Or.inl h13))] at hQ
      refine g_aload_nq d_Mo_takes_24 rfl 0 rfl ?_
      refine g_callV d_Mo_takes_25 k_Mo_takesSign l_Mo_199 i_Mo_takesSign rfl p_Mo_takesSign hm (by rfl) (by rfl) (Nat.le_of_ble_eq_true rfl) (by decide) (C_Mo_takesSign hR hL hw hq ho (fun Z1 hR1 B1 => ⟨_, rfl, ?_⟩))
      refine g_zret d_Mo_takes_28 ?_ ?_
      · first | rfl | exact zb_nar _ | exact zb_narc (by assumption)
      · exact hQ Z1 hR1 B1
    · refine g_aload_nq d_Mo_takes_16 rfl 0 rfl ?_
      refine g_get d_Mo_takes_17 f_Mo_184_Mo (by assumption) (by first | rfl | assumption) ?_
      refine g_iconst (v := 5) d_Mo_takes_20 rfl ?_
      refine g_icmp_ne (tgt := 29) d_Mo_takes_21 (by decide) (fun h21 => ?_) (fun h21 => ?_)
      · rw [mTk, if_neg (fun z => by rcases z with z | z | z; exact h5 z; exact h13 z; exact h21 z)] at hQ
        refine g_aload_nq d_Mo_takes_29 rfl 0 rfl ?_
        refine g_get d_Mo_takes_30 f_Mo_184_Mo (by assumption) (by first | rfl | assumption) ?_
        first | refine g_if_neB (tgt := 63) d_Mo_takes_33 (by decide) (fun h33 => ?_) (fun h33 => ?_) | refine g_if_ne (tgt := 63) d_Mo_takes_33 (by decide) (fun h33 => ?_) (fun h33 => ?_)
        · rw [if_neg (fun z => h33 z.1)] at hQ
          refine g_aload_nq d_Mo_takes_63 rfl 0 rfl ?_
          refine g_get d_Mo_takes_64 f_Mo_184_Mo (by assumption) (by first | rfl | assumption) ?_
          first | refine g_if_neB (tgt := 110) d_Mo_takes_67 (by decide) (fun h67 => ?_) (fun h67 => ?_) | refine g_if_ne (tgt := 110) d_Mo_takes_67 (by decide) (fun h67 => ?_) (fun h67 => ?_)
          · rw [if_neg (fun z => h67 z.1)] at hQ
            refine g_aload_nq d_Mo_takes_110 rfl 0 rfl ?_
            refine g_iload_n d_Mo_takes_111 rfl 1 rfl ?_
            refine g_callV d_Mo_takes_112 k_Mo_isTerm l_Mo_204 i_Mo_isTerm rfl p_Mo_isTerm hm (by rfl) (by rfl) (Nat.le_of_ble_eq_true rfl) (by decide) (C_Mo_isTerm hR hL hw hq (fun Z1 hR1 B1 => ⟨_, rfl, ?_⟩))
            generalize mTm S s = T at *
            have hm : zhs Z1 (ad 600) (.inr (10, [.int (sI T.1 600 0), .ref (ad 701), .int (nI (sN T.1 20)), .int (nI (sN T.1 21)), .int (nI (sN T.1 22)), .ref (ad 705), .ref (ad 706), .ref (ad 707), .ref (ad 708), .ref (ad 709), .ref (ad 710), .ref (ad 711), .int (nI (sN T.1 23)), .ref (ad 713), .ref (ad 714), .ref (ad 715), .ref (ad 716), .int (nI (sN T.1 24)), .int (nI (sN T.1 25)), .ref (ad 719), .ref (ad 720), .ref (ad 721), .ref (ad 722), .ref (ad 723), .ref (ad 724), .int (sI T.1 600 25), .ref (ad 726), .ref (ad 727), .ref (ad 728), .int (sI T.1 600 29), .int (nI (sN T.1 26)), .ref (ad 731), .ref (ad 732), .int (nI (sN T.1 27)), .int (nI (sN T.1 28)), .int (nI (sN T.1 29)), .int (nI (sN T.1 30)), .ref (ad 737), .int (nI (sN T.1 31)), .int (nI (sN T.1 32)), .int (sI T.1 600 40), .ref (ad 741)])) := hR1.m
            first | refine g_if_neB (tgt := 120) d_Mo_takes_115 (by decide) (fun h115 => ?_) (fun h115 => ?_) | refine g_if_ne (tgt := 120) d_Mo_takes_115 (by decide) (fun h115 => ?_) (fun h115 => ?_)
            · rw [if_pos h115] at hQ
              refine g_aload_nq d_Mo_takes_120 rfl 0 rfl ?_
              refine g_aload_nq d_Mo_takes_121 rfl 0 rfl ?_
              refine g_get d_Mo_takes_122 f_Mo_184_Mo (by assumption) (by first | rfl | assumption) ?_
              refine g_iconst (v := 2) d_Mo_takes_125 rfl ?_
              refine g_icmp_ge (tgt := 133) d_Mo_takes_126 (by decide) (fun h126 => ?_) (fun h126 => ?_)
              · rw [if_pos h126] at hQ
                refine g_iconst (v := 4) d_Mo_takes_133 rfl ?_
                refine g_put d_Mo_takes_134 w_Mo_184_Mo (by assumption) (by rfl) (by rfl) (by first | exact Nat.le_of_ble_eq_true rfl | omega) ?_
                refine gen_putI (P := fun z => G w y_Mo_takes c_Mo_takes 2 r_Mo_takes (3, 80) Q _ _ _ z) hR1 (i := 600) lv6 c6_40 (fun Z2 e2 hR2 => ?_)
                have hF := hQ Z2 hR2 (by rw [← e2]; exact B1)
                refine g_iconst (v := 1) d_Mo_takes_137 rfl ?_
                refine g_zret d_Mo_takes_138 ?_ ?_
                · first | rfl | exact zb_nar _ | exact zb_narc (by assumption)
                · exact hF
              · rw [if_neg h126] at hQ
                refine g_iconst (v := 2) d_Mo_takes_129 rfl ?_
                refine g_goto (tgt := 134) d_Mo_takes_130 (by decide) ?_
                refine g_put d_Mo_takes_134 w_Mo_184_Mo (by assumption) (by rfl) (by rfl) (by first | exact Nat.le_of_ble_eq_true rfl | omega) ?_
                refine gen_putI (P := fun z => G w y_Mo_takes c_Mo_takes 2 r_Mo_takes (3, 80) Q _ _ _ z) hR1 (i := 600) lv6 c6_40 (fun Z2 e2 hR2 => ?_)
                have hF := hQ Z2 hR2 (by rw [← e2]; exact B1)
                refine g_iconst (v := 1) d_Mo_takes_137 rfl ?_
                refine g_zret d_Mo_takes_138 ?_ ?_
                · first | rfl | exact zb_nar _ | exact zb_narc (by assumption)
                · exact hF
            · rw [if_neg h115] at hQ
              have hF := hQ Z1 hR1 B1
              refine g_iconst (v := 0) d_Mo_takes_118 rfl ?_
              refine g_zret d_Mo_takes_119 ?_ ?_
              · first | rfl | exact zb_nar _ | exact zb_narc (by assumption)
              · exact hF
          · refine g_aload_nq d_Mo_takes_70 rfl 0 rfl ?_
            refine g_callV d_Mo_takes_71 k_Mo_spelt l_Mo_145 i_Mo_spelt rfl p_Mo_spelt hm (by rfl) (by rfl) (Nat.le_of_ble_eq_true rfl) (by decide) (C_Mo_spelt hR hw.2.1 (Nat.le_trans hw.2.2 hw.1) ⟨_, rfl, ?_⟩)
            refine g_ldc2 v_Mo_202 d_Mo_takes_74 ?_
            refine g_lcmp d_Mo_takes_77 ?_
            refine g_if_ne (tgt := 110) d_Mo_takes_78 (by decide) (fun h78 => ?_) (fun h78 => ?_)
            · rw [lg_cmp_eq] at h78
              rw [if_neg (fun z => h78 z.2)] at hQ
              refine g_aload_nq d_Mo_takes_110 rfl 0 rfl ?_
              refine g_iload_n d_Mo_takes_111 rfl 1 rfl ?_
              refine g_callV d_Mo_takes_112 k_Mo_isTerm l_Mo_204 i_Mo_isTerm rfl p_Mo_isTerm hm (by rfl) (by rfl) (Nat.le_of_ble_eq_true rfl) (by decide) (C_Mo_isTerm hR hL hw hq (fun Z1 hR1 B1 => ⟨_, rfl, ?_⟩))
              generalize mTm S s = T at *
              have hm : zhs Z1 (ad 600) (.inr (10, [.int (sI T.1 600 0), .ref (ad 701), .int (nI (sN T.1 20)), .int (nI (sN T.1 21)), .int (nI (sN T.1 22)), .ref (ad 705), .ref (ad 706), .ref (ad 707), .ref (ad 708), .ref (ad 709), .ref (ad 710), .ref (ad 711), .int (nI (sN T.1 23)), .ref (ad 713), .ref (ad 714), .ref (ad 715), .ref (ad 716), .int (nI (sN T.1 24)), .int (nI (sN T.1 25)), .ref (ad 719), .ref (ad 720), .ref (ad 721), .ref (ad 722), .ref (ad 723), .ref (ad 724), .int (sI T.1 600 25), .ref (ad 726), .ref (ad 727), .ref (ad 728), .int (sI T.1 600 29), .int (nI (sN T.1 26)), .ref (ad 731), .ref (ad 732), .int (nI (sN T.1 27)), .int (nI (sN T.1 28)), .int (nI (sN T.1 29)), .int (nI (sN T.1 30)), .ref (ad 737), .int (nI (sN T.1 31)), .int (nI (sN T.1 32)), .int (sI T.1 600 40), .ref (ad 741)])) := hR1.m
              first | refine g_if_neB (tgt := 120) d_Mo_takes_115 (by decide) (fun h115 => ?_) (fun h115 => ?_) | refine g_if_ne (tgt := 120) d_Mo_takes_115 (by decide) (fun h115 => ?_) (fun h115 => ?_)
              · rw [if_pos h115] at hQ
                refine g_aload_nq d_Mo_takes_120 rfl 0 rfl ?_
                refine g_aload_nq d_Mo_takes_121 rfl 0 rfl ?_
                refine g_get d_Mo_takes_122 f_Mo_184_Mo (by assumption) (by first | rfl | assumption) ?_
                refine g_iconst (v := 2) d_Mo_takes_125 rfl ?_
                refine g_icmp_ge (tgt := 133) d_Mo_takes_126 (by decide) (fun h126 => ?_) (fun h126 => ?_)
                · rw [if_pos h126] at hQ
                  refine g_iconst (v := 4) d_Mo_takes_133 rfl ?_
                  refine g_put d_Mo_takes_134 w_Mo_184_Mo (by assumption) (by rfl) (by rfl) (by first | exact Nat.le_of_ble_eq_true rfl | omega) ?_
                  refine gen_putI (P := fun z => G w y_Mo_takes c_Mo_takes 2 r_Mo_takes (3, 80) Q _ _ _ z) hR1 (i := 600) lv6 c6_40 (fun Z2 e2 hR2 => ?_)
                  have hF := hQ Z2 hR2 (by rw [← e2]; exact B1)
                  refine g_iconst (v := 1) d_Mo_takes_137 rfl ?_
                  refine g_zret d_Mo_takes_138 ?_ ?_
                  · first | rfl | exact zb_nar _ | exact zb_narc (by assumption)
                  · exact hF
                · rw [if_neg h126] at hQ
                  refine g_iconst (v := 2) d_Mo_takes_129 rfl ?_
                  refine g_goto (tgt := 134) d_Mo_takes_130 (by decide) ?_
                  refine g_put d_Mo_takes_134 w_Mo_184_Mo (by assumption) (by rfl) (by rfl) (by first | exact Nat.le_of_ble_eq_true rfl | omega) ?_
                  refine gen_putI (P := fun z => G w y_Mo_takes c_Mo_takes 2 r_Mo_takes (3, 80) Q _ _ _ z) hR1 (i := 600) lv6 c6_40 (fun Z2 e2 hR2 => ?_)
                  have hF := hQ Z2 hR2 (by rw [← e2]; exact B1)
                  refine g_iconst (v := 1) d_Mo_takes_137 rfl ?_
                  refine g_zret d_Mo_takes_138 ?_ ?_
                  · first | rfl | exact zb_nar _ | exact zb_narc (by assumption)
                  · exact hF
              · rw [if_neg h115] at hQ
                have hF := hQ Z1 hR1 B1
                refine g_iconst (v := 0) d_Mo_takes_118 rfl ?_
                refine g_zret d_Mo_takes_119 ?_ ?_
                · first | rfl | exact zb_nar _ | exact zb_narc (by assumption)
                · exact hF
            · rw [lg_cmp_eq] at h78
              rw [if_pos ⟨h67, h78⟩] at hQ
              refine g_aload_nq d_Mo_takes_81 rfl 0 rfl ?_
              refine g_get d_Mo_takes_82 f_Mo_196_Mo (by assumption) (by first | rfl | assumption) ?_
              refine g_bipush (v := 8) d_Mo_takes_85 rfl ?_
              refine g_icmp_ne (tgt := 92) d_Mo_takes_87 (by decide) (fun h87 => ?_) (fun h87 => ?_)
              · rw [if_neg h87] at hQ
                refine g_aload_nq d_Mo_takes_92 rfl 0 rfl ?_
                refine g_bipush (v := 22) d_Mo_takes_93 rfl ?_
                refine g_callV d_Mo_takes_95 k_Mo_wait l_Mo_191 i_Mo_wait rfl p_Mo_wait hm (by rfl) (by rfl) (Nat.le_of_ble_eq_true rfl) (by decide) (C_Mo_wait hR hL (by have := hq.2.1; omega) (fun Z1 hR1 B1 => ⟨_, rfl, ?_⟩))
                have hm : zhs Z1 (ad 600) (.inr (10, [.int (sI (mwai S 22) 600 0), .ref (ad 701), .int (nI (sN (mwai S 22) 20)), .int (nI (sN (mwai S 22) 21)), .int (nI (sN (mwai S 22) 22)), .ref (ad 705), .ref (ad 706), .ref (ad 707), .ref (ad 708), .ref (ad 709), .ref (ad 710), .ref (ad 711), .int (nI (sN (mwai S 22) 23)), .ref (ad 713), .ref (ad 714), .ref (ad 715), .ref (ad 716), .int (nI (sN (mwai S 22) 24)), .int (nI (sN (mwai S 22) 25)), .ref (ad 719), .ref (ad 720), .ref (ad 721), .ref (ad 722), .ref (ad 723), .ref (ad 724), .int (sI (mwai S 22) 600 25), .ref (ad 726), .ref (ad 727), .ref (ad 728), .int (sI (mwai S 22) 600 29), .int (nI (sN (mwai S 22) 26)), .ref (ad 731), .ref (ad 732), .int (nI (sN (mwai S 22) 27)), .int (nI (sN (mwai S 22) 28)), .int (nI (sN (mwai S 22) 29)), .int (nI (sN (mwai S 22) 30)), .ref (ad 737), .int (nI (sN (mwai S 22) 31)), .int (nI (sN (mwai S 22) 32)), .int (sI (mwai S 22) 600 40), .ref (ad 741)])) := hR1.m
                refine g_aload_nq d_Mo_takes_98 rfl 0 rfl ?_
                refine g_dup d_Mo_takes_99 rfl ?_
                refine g_get d_Mo_takes_100 f_Mo_196_Mo (by assumption) (by first | rfl | assumption) ?_
                refine g_iconst (v := 1) d_Mo_takes_103 rfl ?_
                refine g_iadd d_Mo_takes_104 ?_
                rw [nI_1]
                refine g_put d_Mo_takes_105 w_Mo_196_Mo (by assumption) (by rfl) (by rfl) (by first | exact Nat.le_of_ble_eq_true rfl | omega) ?_
                refine gen_putN (P := fun z => G w y_Mo_takes c_Mo_takes 2 r_Mo_takes (3, 80) Q _ _ _ z) hR1 hL.wai (n := 32) (by decide) c6N_32 (fun Z2 e2 hR2 hL2 => ?_)
                have hF := hQ Z2 hR2 (by rw [← e2]; exact B1)
                refine g_iconst (v := 1) d_Mo_takes_108 rfl ?_
                refine g_zret d_Mo_takes_109 ?_ ?_
                · first | rfl | exact zb_nar _ | exact zb_narc (by assumption)
                · exact hF
              · rw [if_pos h87] at hQ
                have hF := hQ Z hR rfl
                refine g_iconst (v := 0) d_Mo_takes_90 rfl ?_
                refine g_zret d_Mo_takes_91 ?_ ?_
                · first | rfl | exact zb_nar _ | exact zb_narc (by assumption)
                · exact hF
        · refine g_aload_nq d_Mo_takes_36 rfl 0 rfl ?_
          refine g_callV d_Mo_takes_37 k_Mo_spelt l_Mo_145 i_Mo_spelt rfl p_Mo_spelt hm (by rfl) (by rfl) (Nat.le_of_ble_eq_true rfl) (by decide) (C_Mo_spelt hR hw.2.1 (Nat.le_trans hw.2.2 hw.1) ⟨_, rfl, ?_⟩)
          refine g_bipush (v := 110) d_Mo_takes_40 rfl ?_
          refine g_bipush (v := 111) d_Mo_takes_42 rfl ?_
          refine g_bipush (v := 116) d_Mo_takes_44 rfl ?_
          refine g_iconst (v := 0) d_Mo_takes_46 rfl ?_
          refine g_iconst (v := 0) d_Mo_takes_47 rfl ?_
          refine g_callS d_Mo_takes_48 k_Mo_word l_Mo_157 s_Mo_word (by rfl) (by rfl) (Nat.le_of_ble_eq_true rfl) (by decide) (C_Mo_word ⟨_, rfl, ?_⟩)
          refine g_lcmp d_Mo_takes_51 ?_
          refine g_if_ne (tgt := 63) d_Mo_takes_52 (by decide) (fun h52 => ?_) (fun h52 => ?_)
          · rw [lg_cmp_eq] at h52
            rw [if_neg (fun z => h52 z.2)] at hQ
            refine g_aload_nq d_Mo_takes_63 rfl 0 rfl ?_
            refine g_get d_Mo_takes_64 f_Mo_184_Mo (by assumption) (by first | rfl | assumption) ?_
            first | refine g_if_neB (tgt := 110) d_Mo_takes_67 (by decide) (fun h67 => ?_) (fun h67 => ?_) | refine g_if_ne (tgt := 110) d_Mo_takes_67 (by decide) (fun h67 => ?_) (fun h67 => ?_)
            · rw [if_neg (fun z => h67 z.1)] at hQ
              refine g_aload_nq d_Mo_takes_110 rfl 0 rfl ?_
              refine g_iload_n d_Mo_takes_111 rfl 1 rfl ?_
              refine g_callV d_Mo_takes_112 k_Mo_isTerm l_Mo_204 i_Mo_isTerm rfl p_Mo_isTerm hm (by rfl) (by rfl) (Nat.le_of_ble_eq_true rfl) (by decide) (C_Mo_isTerm hR hL hw hq (fun Z1 hR1 B1 => ⟨_, rfl, ?_⟩))
              generalize mTm S s = T at *
              have hm : zhs Z1 (ad 600) (.inr (10, [.int (sI T.1 600 0), .ref (ad 701), .int (nI (sN T.1 20)), .int (nI (sN T.1 21)), .int (nI (sN T.1 22)), .ref (ad 705), .ref (ad 706), .ref (ad 707), .ref (ad 708), .ref (ad 709), .ref (ad 710), .ref (ad 711), .int (nI (sN T.1 23)), .ref (ad 713), .ref (ad 714), .ref (ad 715), .ref (ad 716), .int (nI (sN T.1 24)), .int (nI (sN T.1 25)), .ref (ad 719), .ref (ad 720), .ref (ad 721), .ref (ad 722), .ref (ad 723), .ref (ad 724), .int (sI T.1 600 25), .ref (ad 726), .ref (ad 727), .ref (ad 728), .int (sI T.1 600 29), .int (nI (sN T.1 26)), .ref (ad 731), .ref (ad 732), .int (nI (sN T.1 27)), .int (nI (sN T.1 28)), .int (nI (sN T.1 29)), .int (nI (sN T.1 30)), .ref (ad 737), .int (nI (sN T.1 31)), .int (nI (sN T.1 32)), .int (sI T.1 600 40), .ref (ad 741)])) := hR1.m
              first | refine g_if_neB (tgt := 120) d_Mo_takes_115 (by decide) (fun h115 => ?_) (fun h115 => ?_) | refine g_if_ne (tgt := 120) d_Mo_takes_115 (by decide) (fun h115 => ?_) (fun h115 => ?_)
              · rw [if_pos h115] at hQ
                refine g_aload_nq d_Mo_takes_120 rfl 0 rfl ?_
                refine g_aload_nq d_Mo_takes_121 rfl 0 rfl ?_
                refine g_get d_Mo_takes_122 f_Mo_184_Mo (by assumption) (by first | rfl | assumption) ?_
                refine g_iconst (v := 2) d_Mo_takes_125 rfl ?_
                refine g_icmp_ge (tgt := 133) d_Mo_takes_126 (by decide) (fun h126 => ?_) (fun h126 => ?_)
                · rw [if_pos h126] at hQ
                  refine g_iconst (v := 4) d_Mo_takes_133 rfl ?_
                  refine g_put d_Mo_takes_134 w_Mo_184_Mo (by assumption) (by rfl) (by rfl) (by first | exact Nat.le_of_ble_eq_true rfl | omega) ?_
                  refine gen_putI (P := fun z => G w y_Mo_takes c_Mo_takes 2 r_Mo_takes (3, 80) Q _ _ _ z) hR1 (i := 600) lv6 c6_40 (fun Z2 e2 hR2 => ?_)
                  have hF := hQ Z2 hR2 (by rw [← e2]; exact B1)
                  refine g_iconst (v := 1) d_Mo_takes_137 rfl ?_
                  refine g_zret d_Mo_takes_138 ?_ ?_
                  · first | rfl | exact zb_nar _ | exact zb_narc (by assumption)
                  · exact hF
                · rw [if_neg h126] at hQ
                  refine g_iconst (v := 2) d_Mo_takes_129 rfl ?_
                  refine g_goto (tgt := 134) d_Mo_takes_130 (by decide) ?_
                  refine g_put d_Mo_takes_134 w_Mo_184_Mo (by assumption) (by rfl) (by rfl) (by first | exact Nat.le_of_ble_eq_true rfl | omega) ?_
                  refine gen_putI (P := fun z => G w y_Mo_takes c_Mo_takes 2 r_Mo_takes (3, 80) Q _ _ _ z) hR1 (i := 600) lv6 c6_40 (fun Z2 e2 hR2 => ?_)
                  have hF := hQ Z2 hR2 (by rw [← e2]; exact B1)
                  refine g_iconst (v := 1) d_Mo_takes_137 rfl ?_
                  refine g_zret d_Mo_takes_138 ?_ ?_
                  · first | rfl | exact zb_nar _ | exact zb_narc (by assumption)
                  · exact hF
              · rw [if_neg h115] at hQ
                have hF := hQ Z1 hR1 B1
                refine g_iconst (v := 0) d_Mo_takes_118 rfl ?_
                refine g_zret d_Mo_takes_119 ?_ ?_
                · first | rfl | exact zb_nar _ | exact zb_narc (by assumption)
                · exact hF
            · refine g_aload_nq d_Mo_takes_70 rfl 0 rfl ?_
              refine g_callV d_Mo_takes_71 k_Mo_spelt l_Mo_145 i_Mo_spelt rfl p_Mo_spelt hm (by rfl) (by rfl) (Nat.le_of_ble_eq_true rfl) (by decide) (C_Mo_spelt hR hw.2.1 (Nat.le_trans hw.2.2 hw.1) ⟨_, rfl, ?_⟩)
              refine g_ldc2 v_Mo_202 d_Mo_takes_74 ?_
              refine g_lcmp d_Mo_takes_77 ?_
              refine g_if_ne (tgt := 110) d_Mo_takes_78 (by decide) (fun h78 => ?_) (fun h78 => ?_)
              · rw [lg_cmp_eq] at h78
                rw [if_neg (fun z => h78 z.2)] at hQ
                refine g_aload_nq d_Mo_takes_110 rfl 0 rfl ?_
                refine g_iload_n d_Mo_takes_111 rfl 1 rfl ?_
                refine g_callV d_Mo_takes_112 k_Mo_isTerm l_Mo_204 i_Mo_isTerm rfl p_Mo_isTerm hm (by rfl) (by rfl) (Nat.le_of_ble_eq_true rfl) (by decide) (C_Mo_isTerm hR hL hw hq (fun Z1 hR1 B1 => ⟨_, rfl, ?_⟩))
                generalize mTm S s = T at *
                have hm : zhs Z1 (ad 600) (.inr (10, [.int (sI T.1 600 0), .ref (ad 701), .int (nI (sN T.1 20)), .int (nI (sN T.1 21)), .int (nI (sN T.1 22)), .ref (ad 705), .ref (ad 706), .ref (ad 707), .ref (ad 708), .ref (ad 709), .ref (ad 710), .ref (ad 711), .int (nI (sN T.1 23)), .ref (ad 713), .ref (ad 714), .ref (ad 715), .ref (ad 716), .int (nI (sN T.1 24)), .int (nI (sN T.1 25)), .ref (ad 719), .ref (ad 720), .ref (ad 721), .ref (ad 722), .ref (ad 723), .ref (ad 724), .int (sI T.1 600 25), .ref (ad 726), .ref (ad 727), .ref (ad 728), .int (sI T.1 600 29), .int (nI (sN T.1 26)), .ref (ad 731), .ref (ad 732), .int (nI (sN T.1 27)), .int (nI (sN T.1 28)), .int (nI (sN T.1 29)), .int (nI (sN T.1 30)), .ref (ad 737), .int (nI (sN T.1 31)), .int (nI (sN T.1 32)), .int (sI T.1 600 40), .ref (ad 741)])) := hR1.m
                first | refine g_if_neB (tgt := 120) d_Mo_takes_115 (by decide) (fun h115 => ?_) (fun h115 => ?_) | refine g_if_ne (tgt := 120) d_Mo_takes_115 (by decide) (fun h115 => ?_) (fun h115 => ?_)
                · rw [if_pos h115] at hQ
                  refine g_aload_nq d_Mo_takes_120 rfl 0 rfl ?_
                  refine g_aload_nq d_Mo_takes_121 rfl 0 rfl ?_
                  refine g_get d_Mo_takes_122 f_Mo_184_Mo (by assumption) (by first | rfl | assumption) ?_
                  refine g_iconst (v := 2) d_Mo_takes_125 rfl ?_
                  refine g_icmp_ge (tgt := 133) d_Mo_takes_126 (by decide) (fun h126 => ?_) (fun h126 => ?_)
                  · rw [if_pos h126] at hQ
                    refine g_iconst (v := 4) d_Mo_takes_133 rfl ?_
                    refine g_put d_Mo_takes_134 w_Mo_184_Mo (by assumption) (by rfl) (by rfl) (by first | exact Nat.le_of_ble_eq_true rfl | omega) ?_
                    refine gen_putI (P := fun z => G w y_Mo_takes c_Mo_takes 2 r_Mo_takes (3, 80) Q _ _ _ z) hR1 (i := 600) lv6 c6_40 (fun Z2 e2 hR2 => ?_)
                    have hF := hQ Z2 hR2 (by rw [← e2]; exact B1)
                    refine g_iconst (v := 1) d_Mo_takes_137 rfl ?_
                    refine g_zret d_Mo_takes_138 ?_ ?_
                    · first | rfl | exact zb_nar _ | exact zb_narc (by assumption)
                    · exact hF
                  · rw [if_neg h126] at hQ
                    refine g_iconst (v := 2) d_Mo_takes_129 rfl ?_
                    refine g_goto (tgt := 134) d_Mo_takes_130 (by decide) ?_
                    refine g_put d_Mo_takes_134 w_Mo_184_Mo (by assumption) (by rfl) (by rfl) (by first | exact Nat.le_of_ble_eq_true rfl | omega) ?_
                    refine gen_putI (P := fun z => G w y_Mo_takes c_Mo_takes 2 r_Mo_takes (3, 80) Q _ _ _ z) hR1 (i := 600) lv6 c6_40 (fun Z2 e2 hR2 => ?_)
                    have hF := hQ Z2 hR2 (by rw [← e2]; exact B1)
                    refine g_iconst (v := 1) d_Mo_takes_137 rfl ?_
                    refine g_zret d_Mo_takes_138 ?_ ?_
                    · first | rfl | exact zb_nar _ | exact zb_narc (by assumption)
                    · exact hF
                · rw [if_neg h115] at hQ
                  have hF := hQ Z1 hR1 B1
                  refine g_iconst (v := 0) d_Mo_takes_118 rfl ?_
                  refine g_zret d_Mo_takes_119 ?_ ?_
                  · first | rfl | exact zb_nar _ | exact zb_narc (by assumption)
                  · exact hF
              · rw [lg_cmp_eq] at h78
                rw [if_pos ⟨h67, h78⟩] at hQ
                refine g_aload_nq d_Mo_takes_81 rfl 0 rfl ?_
                refine g_get d_Mo_takes_82 f_Mo_196_Mo (by assumption) (by first | rfl | assumption) ?_
                refine g_bipush (v := 8) d_Mo_takes_85 rfl ?_
                refine g_icmp_ne (tgt := 92) d_Mo_takes_87 (by decide) (fun h87 => ?_) (fun h87 => ?_)
                · rw [if_neg h87] at hQ
                  refine g_aload_nq d_Mo_takes_92 rfl 0 rfl ?_
                  refine g_bipush (v := 22) d_Mo_takes_93 rfl ?_
                  refine g_callV d_Mo_takes_95 k_Mo_wait l_Mo_191 i_Mo_wait rfl p_Mo_wait hm (by rfl) (by rfl) (Nat.le_of_ble_eq_true rfl) (by decide) (C_Mo_wait hR hL (by have := hq.2.1; omega) (fun Z1 hR1 B1 => ⟨_, rfl, ?_⟩))
                  have hm : zhs Z1 (ad 600) (.inr (10, [.int (sI (mwai S 22) 600 0), .ref (ad 701), .int (nI (sN (mwai S 22) 20)), .int (nI (sN (mwai S 22) 21)), .int (nI (sN (mwai S 22) 22)), .ref (ad 705), .ref (ad 706), .ref (ad 707), .ref (ad 708), .ref (ad 709), .ref (ad 710), .ref (ad 711), .int (nI (sN (mwai S 22) 23)), .ref (ad 713), .ref (ad 714), .ref (ad 715), .ref (ad 716), .int (nI (sN (mwai S 22) 24)), .int (nI (sN (mwai S 22) 25)), .ref (ad 719), .ref (ad 720), .ref (ad 721), .ref (ad 722), .ref (ad 723), .ref (ad 724), .int (sI (mwai S 22) 600 25), .ref (ad 726), .ref (ad 727), .ref (ad 728), .int (sI (mwai S 22) 600 29), .int (nI (sN (mwai S 22) 26)), .ref (ad 731), .ref (ad 732), .int (nI (sN (mwai S 22) 27)), .int (nI (sN (mwai S 22) 28)), .int (nI (sN (mwai S 22) 29)), .int (nI (sN (mwai S 22) 30)), .ref (ad 737), .int (nI (sN (mwai S 22) 31)), .int (nI (sN (mwai S 22) 32)), .int (sI (mwai S 22) 600 40), .ref (ad 741)])) := hR1.m
                  refine g_aload_nq d_Mo_takes_98 rfl 0 rfl ?_
                  refine g_dup d_Mo_takes_99 rfl ?_
                  refine g_get d_Mo_takes_100 f_Mo_196_Mo (by assumption) (by first | rfl | assumption) ?_
                  refine g_iconst (v := 1) d_Mo_takes_103 rfl ?_
                  refine g_iadd d_Mo_takes_104 ?_
                  rw [nI_1]
                  refine g_put d_Mo_takes_105 w_Mo_196_Mo (by assumption) (by rfl) (by rfl) (by first | exact Nat.le_of_ble_eq_true rfl | omega) ?_
                  refine gen_putN (P := fun z => G w y_Mo_takes c_Mo_takes 2 r_Mo_takes (3, 80) Q _ _ _ z) hR1 hL.wai (n := 32) (by decide) c6N_32 (fun Z2 e2 hR2 hL2 => ?_)
                  have hF := hQ Z2 hR2 (by rw [← e2]; exact B1)
                  refine g_iconst (v := 1) d_Mo_takes_108 rfl ?_
                  refine g_zret d_Mo_takes_109 ?_ ?_
                  · first | rfl | exact zb_nar _ | exact zb_narc (by assumption)
                  · exact hF
                · rw [if_pos h87] at hQ
                  have hF := hQ Z hR rfl
                  refine g_iconst (v := 0) d_Mo_takes_90 rfl ?_
                  refine g_zret d_Mo_takes_91 ?_ ?_
                  · first | rfl | exact zb_nar _ | exact zb_narc (by assumption)
                  · exact hF
          · rw [lg_cmp_eq] at h52
            rw [if_pos ⟨h33, h52⟩] at hQ
            refine g_aload_nq d_Mo_takes_55 rfl 0 rfl ?_
            refine g_bipush (v := 19) d_Mo_takes_56 rfl ?_
            refine g_callV d_Mo_takes_58 k_Mo_wait l_Mo_191 i_Mo_wait rfl p_Mo_wait hm (by rfl) (by rfl) (Nat.le_of_ble_eq_true rfl) (by decide) (C_Mo_wait hR hL (by have := hq.2.1; omega) (fun Z1 hR1 B1 => ⟨_, rfl, ?_⟩))
            refine g_iconst (v := 1) d_Mo_takes_61 rfl ?_
            refine g_zret d_Mo_takes_62 ?_ ?_
            · first | rfl | exact zb_nar _ | exact zb_narc (by assumption)
            · exact hQ Z1 hR1 B1
      · rw [mTk, if_pos (Or.inr (Or.inr h21))] at hQ
        refine g_aload_nq d_Mo_takes_24 rfl 0 rfl ?_
        refine g_callV d_Mo_takes_25 k_Mo_takesSign l_Mo_199 i_Mo_takesSign rfl p_Mo_takesSign hm (by rfl) (by rfl) (Nat.le_of_ble_eq_true rfl) (by decide) (C_Mo_takesSign hR hL hw hq ho (fun Z1 hR1 B1 => ⟨_, rfl, ?_⟩))
        refine g_zret d_Mo_takes_28 ?_ ?_
        · first | rfl | exact zb_nar _ | exact zb_narc (by assumption)
        · exact hQ Z1 hR1 B1
