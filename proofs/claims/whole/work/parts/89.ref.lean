/-! The reference: clear -/
def mclS (S : ST) : ST := wN (wI (wI (wI (wI (wI (wN (wN (wN (wN (wN (wN (wI (thS S 0) 701 (fillF (sI S 701) 0 100 0)) 20 0) 21 0) 22 0) 23 0) 24 0) 25 0) 724 (fillF (sI S 724) 0 27 0)) 600 (va_up (va_up (sI S 600) 0 0) 25 1)) 726 (fillF (sI S 726) 0 6480 0)) 728 (fillF (sI S 728) 0 6480 0)) 600 (va_up (va_up (va_up (sI S 600) 0 0) 25 1) 29 0)) 26 0
set_option maxHeartbeats 4000000 in
set_option maxRecDepth 100000 in
theorem L1_Mo_clear {w : zC} {Q : zR → zZ → Prop} {a c : Nat} {fs : List Value} (m : Nat) : ∀ i f Z, i + m = 100 → zhs Z a (.inr (10, fs)) → fs[1]? = some (.ref c) → zhs Z c (xi w 100 f) → G w y_Mo_clear c_Mo_clear 2 r_Mo_clear (0, 0) Q 26 [(1, .int (nI 100)), (0, .ref a)] [] (zput Z c (xi w 100 (fillF f 0 m i))) → G w y_Mo_clear c_Mo_clear 2 r_Mo_clear (0, 0) Q 7 [(1, .int (nI i)), (0, .ref a)] [] Z := by
  induction m with
  | zero =>
    intro i f Z hi h0 h6 h7 hk
    refine g_iload_n d_Mo_clear_7 rfl 0 rfl ?_
    refine g_bipush (v := 100) d_Mo_clear_8 rfl ?_
    refine g_icmp_ge (tgt := 26) d_Mo_clear_10 (by decide) (fun h10 => ?_) (fun h10 => ?_)
    · rw [fillF, zput_self h7] at hk
      rw [show i = 100 by omega]
      exact hk
    · exact absurd (show (100 : Int32) ≤ nI i from nI_le (a := 100) (by omega) (by omega)) h10
  | succ m ih =>
    intro i f Z hi h0 h6 h7 hk
    have ha : a ≠ c := zhs_ne h0 h7 (by simp)
    refine g_iload_n d_Mo_clear_7 rfl 0 rfl ?_
    refine g_bipush (v := 100) d_Mo_clear_8 rfl ?_
    refine g_icmp_ge (tgt := 26) d_Mo_clear_10 (by decide) (fun h10 => ?_) (fun h10 => ?_)
    · exact absurd h10 (nI_ge (b := 100) (by omega) (by decide))
    · refine g_aload_nq d_Mo_clear_13 rfl 1 rfl ?_
      refine g_get d_Mo_clear_14 f_Mo_7_Mo (by assumption) (by first | rfl | assumption) ?_
      refine g_iload_n d_Mo_clear_17 rfl 0 rfl ?_
      refine g_iconst (v := 0) d_Mo_clear_18 rfl ?_
      refine g_iast d_Mo_clear_19 h7 (vp_in_nI (n := i) (by omega) (by decide)) ?_
      rw [nI_clamp (by omega)]
      refine g_iinc (k := 0) d_Mo_clear_20 rfl (nI_1 i) (by decide) rfl ?_
      refine g_goto (tgt := 7) d_Mo_clear_23 (by decide) ?_
      exact ih (i + 1) _ _ (by omega) (zhs_put_ne h0 ha) h6 (zhs_put_same h7) (by rw [zput_put]; exact hk)

set_option maxHeartbeats 4000000 in
set_option maxRecDepth 100000 in
theorem L2_Mo_clear {w : zC} {Q : zR → zZ → Prop} {a c : Nat} {fs : List Value} (m : Nat) : ∀ i f Z, i + m = 27 → zhs Z a (.inr (10, fs)) → fs[24]? = some (.ref c) → zhs Z c (xz w 27 f) → G w y_Mo_clear c_Mo_clear 2 r_Mo_clear (0, 0) Q 77 [(1, .int (nI 27)), (0, .ref a)] [] (zput Z c (xz w 27 (fillF f 0 m i))) → G w y_Mo_clear c_Mo_clear 2 r_Mo_clear (0, 0) Q 58 [(1, .int (nI i)), (0, .ref a)] [] Z := by
  induction m with
  | zero =>
    intro i f Z hi h0 h6 h7 hk
    refine g_iload_n d_Mo_clear_58 rfl 0 rfl ?_
    refine g_bipush (v := 27) d_Mo_clear_59 rfl ?_
    refine g_icmp_ge (tgt := 77) d_Mo_clear_61 (by decide) (fun h61 => ?_) (fun h61 => ?_)
    · rw [fillF, zput_self h7] at hk
      rw [show i = 27 by omega]
      exact hk
    · exact absurd (show (27 : Int32) ≤ nI i from nI_le (a := 27) (by omega) (by omega)) h61
  | succ m ih =>
    intro i f Z hi h0 h6 h7 hk
    have ha : a ≠ c := zhs_ne h0 h7 (by simp)
    refine g_iload_n d_Mo_clear_58 rfl 0 rfl ?_
    refine g_bipush (v := 27) d_Mo_clear_59 rfl ?_
    refine g_icmp_ge (tgt := 77) d_Mo_clear_61 (by decide) (fun h61 => ?_) (fun h61 => ?_)
    · exact absurd h61 (nI_ge (b := 27) (by omega) (by decide))
    · refine g_aload_nq d_Mo_clear_64 rfl 1 rfl ?_
      refine g_get d_Mo_clear_65 f_Mo_62_Mo (by assumption) (by first | rfl | assumption) ?_
      refine g_iload_n d_Mo_clear_68 rfl 0 rfl ?_
      refine g_iconst (v := 0) d_Mo_clear_69 rfl ?_
      refine g_zast d_Mo_clear_70 h7 (vp_in_nI (n := i) (by omega) (by decide)) ?_
      rw [nI_clamp (by omega), show vp_nar .boolean 0 = 0 from rfl]
      refine g_iinc (k := 0) d_Mo_clear_71 rfl (nI_1 i) (by decide) rfl ?_
      refine g_goto (tgt := 58) d_Mo_clear_74 (by decide) ?_
      exact ih (i + 1) _ _ (by omega) (zhs_put_ne h0 ha) h6 (zhs_put_same h7) (by rw [zput_put]; exact hk)

set_option maxHeartbeats 4000000 in
set_option maxRecDepth 100000 in
theorem L3_Mo_clear {w : zC} {Q : zR → zZ → Prop} {a c : Nat} {fs : List Value} (m : Nat) : ∀ i f Z, i + m = 6480 → zhs Z a (.inr (10, fs)) → fs[26]? = some (.ref c) → zhs Z c (xi w 6480 f) → G w y_Mo_clear c_Mo_clear 2 r_Mo_clear (0, 0) Q 104 [(1, .int (nI 6480)), (0, .ref a)] [] (zput Z c (xi w 6480 (fillF f 0 m i))) → G w y_Mo_clear c_Mo_clear 2 r_Mo_clear (0, 0) Q 84 [(1, .int (nI i)), (0, .ref a)] [] Z := by
  induction m with
  | zero =>
    intro i f Z hi h0 h6 h7 hk
    refine g_iload_n d_Mo_clear_84 rfl 0 rfl ?_
    refine g_sipush (v := 6480) d_Mo_clear_85 rfl ?_
    refine g_icmp_ge (tgt := 104) d_Mo_clear_88 (by decide) (fun h88 => ?_) (fun h88 => ?_)
    · rw [fillF, zput_self h7] at hk
      rw [show i = 6480 by omega]
      exact hk
    · exact absurd (show (6480 : Int32) ≤ nI i from nI_le (a := 6480) (by omega) (by omega)) h88
  | succ m ih =>
    intro i f Z hi h0 h6 h7 hk
    have ha : a ≠ c := zhs_ne h0 h7 (by simp)
    refine g_iload_n d_Mo_clear_84 rfl 0 rfl ?_
    refine g_sipush (v := 6480) d_Mo_clear_85 rfl ?_
    refine g_icmp_ge (tgt := 104) d_Mo_clear_88 (by decide) (fun h88 => ?_) (fun h88 => ?_)
    · exact absurd h88 (nI_ge (b := 6480) (by omega) (by decide))
    · refine g_aload_nq d_Mo_clear_91 rfl 1 rfl ?_
      refine g_get d_Mo_clear_92 f_Mo_70_Mo (by assumption) (by first | rfl | assumption) ?_
      refine g_iload_n d_Mo_clear_95 rfl 0 rfl ?_
      refine g_iconst (v := 0) d_Mo_clear_96 rfl ?_
      refine g_iast d_Mo_clear_97 h7 (vp_in_nI (n := i) (by omega) (by decide)) ?_
      rw [nI_clamp (by omega)]
      refine g_iinc (k := 0) d_Mo_clear_98 rfl (nI_1 i) (by decide) rfl ?_
      refine g_goto (tgt := 84) d_Mo_clear_101 (by decide) ?_
      exact ih (i + 1) _ _ (by omega) (zhs_put_ne h0 ha) h6 (zhs_put_same h7) (by rw [zput_put]; exact hk)

set_option maxHeartbeats 4000000 in
set_option maxRecDepth 100000 in
theorem L4_Mo_clear {w : zC} {Q : zR → zZ → Prop} {a c : Nat} {fs : List Value} (m : Nat) : ∀ i f Z, i + m = 6480 → zhs Z a (.inr (10, fs)) → fs[28]? = some (.ref c) → zhs Z c (xi w 6480 f) → G w y_Mo_clear c_Mo_clear 2 r_Mo_clear (0, 0) Q 126 [(1, .int (nI 6480)), (0, .ref a)] [] (zput Z c (xi w 6480 (fillF f 0 m i))) → G w y_Mo_clear c_Mo_clear 2 r_Mo_clear (0, 0) Q 106 [(1, .int (nI i)), (0, .ref a)] [] Z := by
  induction m with
  | zero =>
    intro i f Z hi h0 h6 h7 hk
    refine g_iload_n d_Mo_clear_106 rfl 0 rfl ?_
    refine g_sipush (v := 6480) d_Mo_clear_107 rfl ?_
    refine g_icmp_ge (tgt := 126) d_Mo_clear_110 (by decide) (fun h110 => ?_) (fun h110 => ?_)
    · rw [fillF, zput_self h7] at hk
      rw [show i = 6480 by omega]
      exact hk
    · exact absurd (show (6480 : Int32) ≤ nI i from nI_le (a := 6480) (by omega) (by omega)) h110
  | succ m ih =>
    intro i f Z hi h0 h6 h7 hk
    have ha : a ≠ c := zhs_ne h0 h7 (by simp)
    refine g_iload_n d_Mo_clear_106 rfl 0 rfl ?_
    refine g_sipush (v := 6480) d_Mo_clear_107 rfl ?_
    refine g_icmp_ge (tgt := 126) d_Mo_clear_110 (by decide) (fun h110 => ?_) (fun h110 => ?_)
    · exact absurd h110 (nI_ge (b := 6480) (by omega) (by decide))
    · refine g_aload_nq d_Mo_clear_113 rfl 1 rfl ?_
      refine g_get d_Mo_clear_114 f_Mo_76_Mo (by assumption) (by first | rfl | assumption) ?_
      refine g_iload_n d_Mo_clear_117 rfl 0 rfl ?_
      refine g_iconst (v := 0) d_Mo_clear_118 rfl ?_
      refine g_iast d_Mo_clear_119 h7 (vp_in_nI (n := i) (by omega) (by decide)) ?_
      rw [nI_clamp (by omega)]
      refine g_iinc (k := 0) d_Mo_clear_120 rfl (nI_1 i) (by decide) rfl ?_
      refine g_goto (tgt := 106) d_Mo_clear_123 (by decide) ?_
      exact ih (i + 1) _ _ (by omega) (zhs_put_ne h0 ha) h6 (zhs_put_same h7) (by rw [zput_put]; exact hk)

set_option maxHeartbeats 4000000 in
set_option maxRecDepth 100000 in
theorem C_Mo_clear {w : zC} {Z : zZ} {Q : zR → zZ → Prop} {ad : Nat → Nat} {S : ST} (hR : Rep w ad S Z) (hL : ciLive S) (hQ : ∀ Z', Rep w ad (mclS S) Z' → Z'.2.2 = Z.2.2 → Q (.inl none) Z') : Cz w (0, 0) y_Mo_clear (Cond.code y_Mo_clear c_Mo_clear 2 r_Mo_clear :: wz) [.ref (ad 600)] Z Q := by
  refine Cz.of (by decide +kernel) (by simp [lg_sl, Value.category]) ?_
  show G _ _ _ _ _ _ _ _ [(0, _)] _ _
  have hm : zhs Z (ad 600) (.inr (10, [.int (sI S 600 0), .ref (ad 701), .int (nI (sN S 20)), .int (nI (sN S 21)), .int (nI (sN S 22)), .ref (ad 705), .ref (ad 706), .ref (ad 707), .ref (ad 708), .ref (ad 709), .ref (ad 710), .ref (ad 711), .int (nI (sN S 23)), .ref (ad 713), .ref (ad 714), .ref (ad 715), .ref (ad 716), .int (nI (sN S 24)), .int (nI (sN S 25)), .ref (ad 719), .ref (ad 720), .ref (ad 721), .ref (ad 722), .ref (ad 723), .ref (ad 724), .int (sI S 600 25), .ref (ad 726), .ref (ad 727), .ref (ad 728), .int (sI S 600 29), .int (nI (sN S 26)), .ref (ad 731), .ref (ad 732), .int (nI (sN S 27)), .int (nI (sN S 28)), .int (nI (sN S 29)), .int (nI (sN S 30)), .ref (ad 737), .int (nI (sN S 31)), .int (nI (sN S 32)), .int (sI S 600 40), .ref (ad 741)])) := hR.m
  have m701 : zhs Z (ad 701) (xi w 100 (sI S 701)) := hR.ma 701 (by decide)
  have m724 : zhs Z (ad 724) (xz w 27 (sI S 724)) := hR.ma 724 (by decide)
  have m726 : zhs Z (ad 726) (xi w 6480 (sI S 726)) := hR.ma 726 (by decide)
  have m728 : zhs Z (ad 728) (xi w 6480 (sI S 728)) := hR.ma 728 (by decide)
  have J : ∀ i j, mL i → mL j → i ≠ j → ad i ≠ ad j := fun i j hi hj hne => hR.inj (lvL hi) (lvL hj) hne
  obtain ⟨Z0, hZ0⟩ : ∃ Z0, Z0 = Z := ⟨_, rfl⟩
  have hB : Z.2.2 = Z0.2.2 := by rw [hZ0]
  refine g_aload_nq d_Mo_clear_0 rfl 0 rfl ?_
  refine g_iconst (v := 0) d_Mo_clear_1 rfl ?_
  refine g_put d_Mo_clear_2 w_Mo_91_Mo (by assumption) (by first | rfl | exact zb_nar _) (by first | rfl | exact zb_fit _ | exact zrf_fit _) (by first | exact Nat.le_of_ble_eq_true rfl | omega) ?_
  refine gen_putI (P := fun z => G w y_Mo_clear c_Mo_clear 2 r_Mo_clear (0, 0) Q _ _ _ z) hR (i := 600) lv6 c6_0 (fun Z1 e1 hR => ?_)
  have m701 := zhs_put_ne' e1 m701 (J 701 600 (by decide) (by decide) (by decide))
  have m724 := zhs_put_ne' e1 m724 (J 724 600 (by decide) (by decide) (by decide))
  have m726 := zhs_put_ne' e1 m726 (J 726 600 (by decide) (by decide) (by decide))
  have m728 := zhs_put_ne' e1 m728 (J 728 600 (by decide) (by decide) (by decide))
  have hm := zhs_put_same' e1 hm
  simp only [List.set] at hm
  have hB : Z1.2.2 = Z0.2.2 := by rw [← e1]; exact hB
  refine g_iconst (v := 0) d_Mo_clear_5 rfl ?_
  refine g_istore_n d_Mo_clear_6 rfl (by decide) rfl ?_
  show G _ _ _ _ _ _ _ _ [(1, _), (0, _)] _ _
  refine L1_Mo_clear 100 0 (sI S 701) Z1 (by omega) hm rfl m701 ?_
  refine gen_putI (P := fun z => G w y_Mo_clear c_Mo_clear 2 r_Mo_clear (0, 0) Q _ _ _ z) hR (i := 701) (lvM (by decide)) cM_701 (fun Z1 e1 hR => ?_)
  have m724 := zhs_put_ne' e1 m724 (J 724 701 (by decide) (by decide) (by decide))
  have m726 := zhs_put_ne' e1 m726 (J 726 701 (by decide) (by decide) (by decide))
  have m728 := zhs_put_ne' e1 m728 (J 728 701 (by decide) (by decide) (by decide))
  have hm := zhs_put_ne' e1 hm (J 600 701 (by decide) (by decide) (by decide))
  have m701 := zhs_put_same' e1 m701
  have hB : Z1.2.2 = Z0.2.2 := by rw [← e1]; exact hB
  refine g_aload_nq d_Mo_clear_26 rfl 1 rfl ?_
  refine g_iconst (v := 0) d_Mo_clear_27 rfl ?_
  refine g_put d_Mo_clear_28 w_Mo_97_Mo (by assumption) (by first | rfl | exact zb_nar _) (by first | rfl | exact zb_fit _ | exact zrf_fit _) (by first | exact Nat.le_of_ble_eq_true rfl | omega) ?_
  refine gen_putN (P := fun z => G w y_Mo_clear c_Mo_clear 2 r_Mo_clear (0, 0) Q _ _ _ z) hR hL (n := 20) (by decide) c6N_20 (fun Z1 e1 hR hL => ?_)
  have m701 := zhs_put_ne' e1 m701 (J 701 600 (by decide) (by decide) (by decide))
  have m724 := zhs_put_ne' e1 m724 (J 724 600 (by decide) (by decide) (by decide))
  have m726 := zhs_put_ne' e1 m726 (J 726 600 (by decide) (by decide) (by decide))
  have m728 := zhs_put_ne' e1 m728 (J 728 600 (by decide) (by decide) (by decide))
  have hm := zhs_put_same' e1 hm
  simp only [List.set] at hm
  have hB : Z1.2.2 = Z0.2.2 := by rw [← e1]; exact hB
  refine g_aload_nq d_Mo_clear_31 rfl 1 rfl ?_
  refine g_iconst (v := 0) d_Mo_clear_32 rfl ?_
  refine g_put d_Mo_clear_33 w_Mo_94_Mo (by assumption) (by first | rfl | exact zb_nar _) (by first | rfl | exact zb_fit _ | exact zrf_fit _) (by first | exact Nat.le_of_ble_eq_true rfl | omega) ?_
  refine gen_putN (P := fun z => G w y_Mo_clear c_Mo_clear 2 r_Mo_clear (0, 0) Q _ _ _ z) hR hL (n := 21) (by decide) c6N_21 (fun Z1 e1 hR hL => ?_)
  have m701 := zhs_put_ne' e1 m701 (J 701 600 (by decide) (by decide) (by decide))
  have m724 := zhs_put_ne' e1 m724 (J 724 600 (by decide) (by decide) (by decide))
  have m726 := zhs_put_ne' e1 m726 (J 726 600 (by decide) (by decide) (by decide))
  have m728 := zhs_put_ne' e1 m728 (J 728 600 (by decide) (by decide) (by decide))
  have hm := zhs_put_same' e1 hm
  simp only [List.set] at hm
  have hB : Z1.2.2 = Z0.2.2 := by rw [← e1]; exact hB
  refine g_aload_nq d_Mo_clear_36 rfl 1 rfl ?_
  refine g_iconst (v := 0) d_Mo_clear_37 rfl ?_
  refine g_put d_Mo_clear_38 w_Mo_113_Mo (by assumption) (by first | rfl | exact zb_nar _) (by first | rfl | exact zb_fit _ | exact zrf_fit _) (by first | exact Nat.le_of_ble_eq_true rfl | omega) ?_
  refine gen_putN (P := fun z => G w y_Mo_clear c_Mo_clear 2 r_Mo_clear (0, 0) Q _ _ _ z) hR hL (n := 22) (by decide) c6N_22 (fun Z1 e1 hR hL => ?_)
  have m701 := zhs_put_ne' e1 m701 (J 701 600 (by decide) (by decide) (by decide))
  have m724 := zhs_put_ne' e1 m724 (J 724 600 (by decide) (by decide) (by decide))
  have m726 := zhs_put_ne' e1 m726 (J 726 600 (by decide) (by decide) (by decide))
  have m728 := zhs_put_ne' e1 m728 (J 728 600 (by decide) (by decide) (by decide))
  have hm := zhs_put_same' e1 hm
  simp only [List.set] at hm
  have hB : Z1.2.2 = Z0.2.2 := by rw [← e1]; exact hB
  refine g_aload_nq d_Mo_clear_41 rfl 1 rfl ?_
  refine g_iconst (v := 0) d_Mo_clear_42 rfl ?_
  refine g_put d_Mo_clear_43 w_Mo_116_Mo (by assumption) (by first | rfl | exact zb_nar _) (by first | rfl | exact zb_fit _ | exact zrf_fit _) (by first | exact Nat.le_of_ble_eq_true rfl | omega) ?_
  refine gen_putN (P := fun z => G w y_Mo_clear c_Mo_clear 2 r_Mo_clear (0, 0) Q _ _ _ z) hR hL (n := 23) (by decide) c6N_23 (fun Z1 e1 hR hL => ?_)
  have m701 := zhs_put_ne' e1 m701 (J 701 600 (by decide) (by decide) (by decide))
  have m724 := zhs_put_ne' e1 m724 (J 724 600 (by decide) (by decide) (by decide))
  have m726 := zhs_put_ne' e1 m726 (J 726 600 (by decide) (by decide) (by decide))
  have m728 := zhs_put_ne' e1 m728 (J 728 600 (by decide) (by decide) (by decide))
  have hm := zhs_put_same' e1 hm
  simp only [List.set] at hm
  have hB : Z1.2.2 = Z0.2.2 := by rw [← e1]; exact hB
  refine g_aload_nq d_Mo_clear_46 rfl 1 rfl ?_
  refine g_iconst (v := 0) d_Mo_clear_47 rfl ?_
  refine g_put d_Mo_clear_48 w_Mo_119_Mo (by assumption) (by first | rfl | exact zb_nar _) (by first | rfl | exact zb_fit _ | exact zrf_fit _) (by first | exact Nat.le_of_ble_eq_true rfl | omega) ?_
  refine gen_putN (P := fun z => G w y_Mo_clear c_Mo_clear 2 r_Mo_clear (0, 0) Q _ _ _ z) hR hL (n := 24) (by decide) c6N_24 (fun Z1 e1 hR hL => ?_)
  have m701 := zhs_put_ne' e1 m701 (J 701 600 (by decide) (by decide) (by decide))
  have m724 := zhs_put_ne' e1 m724 (J 724 600 (by decide) (by decide) (by decide))
  have m726 := zhs_put_ne' e1 m726 (J 726 600 (by decide) (by decide) (by decide))
  have m728 := zhs_put_ne' e1 m728 (J 728 600 (by decide) (by decide) (by decide))
  have hm := zhs_put_same' e1 hm
  simp only [List.set] at hm
  have hB : Z1.2.2 = Z0.2.2 := by rw [← e1]; exact hB
  refine g_aload_nq d_Mo_clear_51 rfl 1 rfl ?_
  refine g_iconst (v := 0) d_Mo_clear_52 rfl ?_
  refine g_put d_Mo_clear_53 w_Mo_210_Mo (by assumption) (by first | rfl | exact zb_nar _) (by first | rfl | exact zb_fit _ | exact zrf_fit _) (by first | exact Nat.le_of_ble_eq_true rfl | omega) ?_
  refine gen_putN (P := fun z => G w y_Mo_clear c_Mo_clear 2 r_Mo_clear (0, 0) Q _ _ _ z) hR hL (n := 25) (by decide) c6N_25 (fun Z1 e1 hR hL => ?_)
  have m701 := zhs_put_ne' e1 m701 (J 701 600 (by decide) (by decide) (by decide))
  have m724 := zhs_put_ne' e1 m724 (J 724 600 (by decide) (by decide) (by decide))
  have m726 := zhs_put_ne' e1 m726 (J 726 600 (by decide) (by decide) (by decide))
  have m728 := zhs_put_ne' e1 m728 (J 728 600 (by decide) (by decide) (by decide))
  have hm := zhs_put_same' e1 hm
  simp only [List.set] at hm
  have hB : Z1.2.2 = Z0.2.2 := by rw [← e1]; exact hB
  refine g_iconst (v := 0) d_Mo_clear_56 rfl ?_
  refine g_istore_n d_Mo_clear_57 rfl (by decide) rfl ?_
  show G _ _ _ _ _ _ _ _ [(1, _), (0, _)] _ _
  refine L2_Mo_clear 27 0 (sI S 724) Z1 (by omega) hm rfl m724 ?_
  refine gen_putI (P := fun z => G w y_Mo_clear c_Mo_clear 2 r_Mo_clear (0, 0) Q _ _ _ z) hR (i := 724) (lvM (by decide)) cM_724 (fun Z1 e1 hR => ?_)
  have m701 := zhs_put_ne' e1 m701 (J 701 724 (by decide) (by decide) (by decide))
  have m726 := zhs_put_ne' e1 m726 (J 726 724 (by decide) (by decide) (by decide))
  have m728 := zhs_put_ne' e1 m728 (J 728 724 (by decide) (by decide) (by decide))
  have hm := zhs_put_ne' e1 hm (J 600 724 (by decide) (by decide) (by decide))
  have m724 := zhs_put_same' e1 m724
  have hB : Z1.2.2 = Z0.2.2 := by rw [← e1]; exact hB
  refine g_aload_nq d_Mo_clear_77 rfl 1 rfl ?_
  refine g_iconst (v := 1) d_Mo_clear_78 rfl ?_
  refine g_put d_Mo_clear_79 w_Mo_66_Mo (by assumption) (by first | rfl | exact zb_nar _) (by first | rfl | exact zb_fit _ | exact zrf_fit _) (by first | exact Nat.le_of_ble_eq_true rfl | omega) ?_
  refine gen_putI (P := fun z => G w y_Mo_clear c_Mo_clear 2 r_Mo_clear (0, 0) Q _ _ _ z) hR (i := 600) lv6 c6_25 (fun Z1 e1 hR => ?_)
  have m701 := zhs_put_ne' e1 m701 (J 701 600 (by decide) (by decide) (by decide))
  have m724 := zhs_put_ne' e1 m724 (J 724 600 (by decide) (by decide) (by decide))
  have m726 := zhs_put_ne' e1 m726 (J 726 600 (by decide) (by decide) (by decide))
  have m728 := zhs_put_ne' e1 m728 (J 728 600 (by decide) (by decide) (by decide))
  have hm := zhs_put_same' e1 hm
  simp only [List.set] at hm
  have hB : Z1.2.2 = Z0.2.2 := by rw [← e1]; exact hB
  refine g_iconst (v := 0) d_Mo_clear_82 rfl ?_
  refine g_istore_n d_Mo_clear_83 rfl (by decide) rfl ?_
  show G _ _ _ _ _ _ _ _ [(1, _), (0, _)] _ _
  refine L3_Mo_clear 6480 0 (sI S 726) Z1 (by omega) hm rfl m726 ?_
  refine gen_putI (P := fun z => G w y_Mo_clear c_Mo_clear 2 r_Mo_clear (0, 0) Q _ _ _ z) hR (i := 726) (lvM (by decide)) cM_726 (fun Z1 e1 hR => ?_)
  have m701 := zhs_put_ne' e1 m701 (J 701 726 (by decide) (by decide) (by decide))
  have m724 := zhs_put_ne' e1 m724 (J 724 726 (by decide) (by decide) (by decide))
  have m728 := zhs_put_ne' e1 m728 (J 728 726 (by decide) (by decide) (by decide))
  have hm := zhs_put_ne' e1 hm (J 600 726 (by decide) (by decide) (by decide))
  have m726 := zhs_put_same' e1 m726
  have hB : Z1.2.2 = Z0.2.2 := by rw [← e1]; exact hB
  refine g_iconst (v := 0) d_Mo_clear_104 rfl ?_
  refine g_istore_n d_Mo_clear_105 rfl (by decide) rfl ?_
  show G _ _ _ _ _ _ _ _ [(1, _), (0, _)] _ _
  refine L4_Mo_clear 6480 0 (sI S 728) Z1 (by omega) hm rfl m728 ?_
  refine gen_putI (P := fun z => G w y_Mo_clear c_Mo_clear 2 r_Mo_clear (0, 0) Q _ _ _ z) hR (i := 728) (lvM (by decide)) cM_728 (fun Z1 e1 hR => ?_)
  have m701 := zhs_put_ne' e1 m701 (J 701 728 (by decide) (by decide) (by decide))
  have m724 := zhs_put_ne' e1 m724 (J 724 728 (by decide) (by decide) (by decide))
  have m726 := zhs_put_ne' e1 m726 (J 726 728 (by decide) (by decide) (by decide))
  have hm := zhs_put_ne' e1 hm (J 600 728 (by decide) (by decide) (by decide))
  have m728 := zhs_put_same' e1 m728
  have hB : Z1.2.2 = Z0.2.2 := by rw [← e1]; exact hB
  refine g_aload_nq d_Mo_clear_126 rfl 1 rfl ?_
  refine g_iconst (v := 0) d_Mo_clear_127 rfl ?_
  refine g_put d_Mo_clear_128 w_Mo_264_Mo (by assumption) (by first | rfl | exact zb_nar _) (by first | rfl | exact zb_fit _ | exact zrf_fit _) (by first | exact Nat.le_of_ble_eq_true rfl | omega) ?_
  refine gen_putI (P := fun z => G w y_Mo_clear c_Mo_clear 2 r_Mo_clear (0, 0) Q _ _ _ z) hR (i := 600) lv6 c6_29 (fun Z1 e1 hR => ?_)
  have m701 := zhs_put_ne' e1 m701 (J 701 600 (by decide) (by decide) (by decide))
  have m724 := zhs_put_ne' e1 m724 (J 724 600 (by decide) (by decide) (by decide))
  have m726 := zhs_put_ne' e1 m726 (J 726 600 (by decide) (by decide) (by decide))
  have m728 := zhs_put_ne' e1 m728 (J 728 600 (by decide) (by decide) (by decide))
  have hm := zhs_put_same' e1 hm
  simp only [List.set] at hm
  have hB : Z1.2.2 = Z0.2.2 := by rw [← e1]; exact hB
  refine g_aload_nq d_Mo_clear_131 rfl 1 rfl ?_
  refine g_iconst (v := 0) d_Mo_clear_132 rfl ?_
  refine g_put d_Mo_clear_133 w_Mo_268_Mo (by assumption) (by first | rfl | exact zb_nar _) (by first | rfl | exact zb_fit _ | exact zrf_fit _) (by first | exact Nat.le_of_ble_eq_true rfl | omega) ?_
  refine gen_putN (P := fun z => G w y_Mo_clear c_Mo_clear 2 r_Mo_clear (0, 0) Q _ _ _ z) hR hL (n := 26) (by decide) c6N_26 (fun Z1 e1 hR hL => ?_)
  have m701 := zhs_put_ne' e1 m701 (J 701 600 (by decide) (by decide) (by decide))
  have m724 := zhs_put_ne' e1 m724 (J 724 600 (by decide) (by decide) (by decide))
  have m726 := zhs_put_ne' e1 m726 (J 726 600 (by decide) (by decide) (by decide))
  have m728 := zhs_put_ne' e1 m728 (J 728 600 (by decide) (by decide) (by decide))
  have hm := zhs_put_same' e1 hm
  simp only [List.set] at hm
  have hB : Z1.2.2 = Z0.2.2 := by rw [← e1]; exact hB
  refine g_vret d_Mo_clear_136 ?_
  exact hQ _ hR (by rw [hB, hZ0])
