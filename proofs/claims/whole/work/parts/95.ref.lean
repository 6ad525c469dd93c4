/-! The reference: reads, rule -/
def sbR (v : Int64) : Int32 := if v = wdR 112 97 114 116 0 then 0 else if v = wdR 110 101 116 0 0 then 1 else if v = wdR 112 105 110 0 0 then 2 else -1
def wtR (v : Int64) : Int32 := if v = wdR 119 97 114 110 0 then 1 else if v = wdR 101 114 114 111 114 then 2 else 0
def mS0 (S : ST) (r : Nat) : ST := wI (w6 (wN (wN (wN (wN (wN S 30 r) 28 0) 29 0) 31 0) 32 0) 40 0) 721 (upd (sI S 721) r 0)
def mNo (S : ST) : ST := if mP S < mE S then mnx S else wN (mnx S) 29 (sN (mnx S) 29 + 1)
def mWv (S : ST) : Int64 := if mP S < mE S then spR (mnx S) else 0
def mS1 (S : ST) (r : Nat) : ST := wI (mNo S) 719 (upd (sI (mNo S) 719) r (sbR (mWv S)))
def mS2 (S : ST) (r : Nat) : ST := wI (mNo S) 720 (upd (sI (mNo S) 720) r (wtR (mWv S)))
def mEnd (S : ST) : ST × Bool := if sI S 600 40 < 4 ∨ ¬ nI (sN S 32) ≤ 0 then (wN S 29 (sN S 29 + 1), false) else (mrel 1 (sN S 31) S, true)
def mGo (r : Nat) : Nat → ST → ST × Bool
  | 0, S => (S, false)
  | n + 1, S => if mP S < mE S then (if (mTk (mnx S) (sI (mnx S) 719 r)).2 = true then mGo r n (mTk (mnx S) (sI (mnx S) 719 r)).1 else ((mTk (mnx S) (sI (mnx S) 719 r)).1, false)) else mEnd (mnx S)
def mRd2 (B : ST) (r : Nat) : ST × Bool := if mP B < mE B ∧ ¬ wtR (mWv B) = 0 then mGo r 82 (mS2 B r) else (mS2 B r, false)
def mRd1 (A : ST) (r : Nat) : ST × Bool := if mP A < mE A ∧ ¬ sbR (mWv A) = -1 then mRd2 (mS1 A r) r else (mS1 A r, false)
def mRd (S : ST) (r : Nat) : ST × Bool := mRd1 (mS0 S r) r
theorem ciLive.no {S : ST} (h : ciLive S) : ciLive (mNo S) := by
  unfold mNo
  split
  · exact h.nx
  · exact h.nx.same' rfl (fun m hm => wN_ne (by omega))
theorem jI.lo {S : ST} {r k : Nat} (h : jI S r (k + 1)) : jI S r k := h.cg (fun _ _ => rfl) rfl h.1.2.2.2 (by omega) h.2.2
theorem jI.no {S : ST} {r : Nat} (h : jI S r 0) (hl : mP S < mE S) : jI (mNo S) r 0 := by
  unfold mNo
  rw [if_pos hl]
  exact (h.nx hl).1.lo
theorem jI.i719 {S : ST} {r k : Nat} {f : Nat → Int32} (h : jI S r k) : jI (wI S 719 f) r k := h.cg (fun _ _ => rfl) rfl h.1.2.2.2 (Nat.le_refl _) h.2.2
theorem jI.i720 {S : ST} {r k : Nat} {f : Nat → Int32} (h : jI S r k) : jI (wI S 720 f) r k := h.cg (fun _ _ => rfl) rfl h.1.2.2.2 (Nat.le_refl _) h.2.2
theorem mS0_jI {S : ST} {r : Nat} (h : sN S 24 ≤ 160) : jI (mS0 S r) r 0 := by
  have hp : pcn (mS0 S r) = 0 := by
    show (upd (sI S 721) r 0 r).toNatClampNeg = 0
    rw [show upd (sI S 721) r 0 r = 0 from if_pos rfl]
    rfl
  refine ⟨⟨h, Nat.zero_le _, rfl, ?_⟩, ⟨?_, ?_, Or.inl rfl⟩, rfl⟩
  · rw [hp]
    exact if_pos rfl
  · rw [hp]
    exact Nat.le_refl _
  · exact Nat.zero_le _
set_option maxHeartbeats 4000000 in
set_option maxRecDepth 100000 in
theorem J1_Mo_reads {w : zC} {Z : zZ} {Q : zR → zZ → Prop} {ad : Nat → Nat} {A : ST} {r : Nat} (hR : Rep w ad (mnx A) Z) (hL : ciLive A) (hW : mW (mnx A)) (k9 : ∀ Z', Rep w ad (mNo A) Z' → Z'.2.2 = Z.2.2 → G w y_Mo_reads c_Mo_reads 5 r_Mo_reads (4, 106) Q 69 [(3, .long (mWv A)), (2, .int (zb (mP A < mE A))), (0, .ref (ad 600)), (1, .int (nI r))] [] Z') : G w y_Mo_reads c_Mo_reads 5 r_Mo_reads (4, 106) Q 42 [(2, .int (zb (mP A < mE A))), (0, .ref (ad 600)), (1, .int (nI r))] [] Z := by
  have hm : zhs Z (ad 600) (.inr (10, [.int (sI (mnx A) 600 0), .ref (ad 701), .int (nI (sN (mnx A) 20)), .int (nI (sN (mnx A) 21)), .int (nI (sN (mnx A) 22)), .ref (ad 705), .ref (ad 706), .ref (ad 707), .ref (ad 708), .ref (ad 709), .ref (ad 710), .ref (ad 711), .int (nI (sN (mnx A) 23)), .ref (ad 713), .ref (ad 714), .ref (ad 715), .ref (ad 716), .int (nI (sN (mnx A) 24)), .int (nI (sN (mnx A) 25)), .ref (ad 719), .ref (ad 720), .ref (ad 721), .ref (ad 722), .ref (ad 723), .ref (ad 724), .int (sI (mnx A) 600 25), .ref (ad 726), .ref (ad 727), .ref (ad 728), .int (sI (mnx A) 600 29), .int (nI (sN (mnx A) 26)), .ref (ad 731), .ref (ad 732), .int (nI (sN (mnx A) 27)), .int (nI (sN (mnx A) 28)), .int (nI (sN (mnx A) 29)), .int (nI (sN (mnx A) 30)), .ref (ad 737), .int (nI (sN (mnx A) 31)), .int (nI (sN (mnx A) 32)), .int (sI (mnx A) 600 40), .ref (ad 741)])) := hR.m
  refine g_iload_n d_Mo_reads_42 rfl 0 rfl ?_
  first | refine g_if_neB (tgt := 56) d_Mo_reads_43 (by decide) (fun h43 => ?_) (fun h43 => ?_) | refine g_if_ne (tgt := 56) d_Mo_reads_43 (by decide) (fun h43 => ?_) (fun h43 => ?_)
  · rw [mWv, mNo, if_pos h43, if_pos h43] at k9
    have hZ := k9 Z hR rfl
    refine g_iload_n d_Mo_reads_56 rfl 0 rfl ?_
    first | refine g_if_eqB (tgt := 67) d_Mo_reads_57 (by decide) (fun h57 => ?_) (fun h57 => ?_) | refine g_if_eq (tgt := 67) d_Mo_reads_57 (by decide) (fun h57 => ?_) (fun h57 => ?_)
    · exact absurd h43 h57
    · refine g_aload_nq d_Mo_reads_60 rfl 1 rfl ?_
      refine g_callV d_Mo_reads_61 k_Mo_spelt l_Mo_145 i_Mo_spelt rfl p_Mo_spelt hm (by rfl) (by rfl) (Nat.le_of_ble_eq_true rfl) (by decide) (C_Mo_spelt hR hW.2.1 (Nat.le_trans hW.2.2 hW.1) ⟨_, rfl, ?_⟩)
      refine g_goto (tgt := 68) d_Mo_reads_64 (by decide) ?_
      refine g_lstore_n d_Mo_reads_68 rfl (by decide) rfl ?_
      show G _ _ _ _ _ _ _ _ [(3, _), (2, _), (0, _), (1, _)] _ _
      exact hZ
  · rw [mWv, mNo, if_neg h43, if_neg h43] at k9
    refine g_aload_nq d_Mo_reads_46 rfl 1 rfl ?_
    refine g_dup d_Mo_reads_47 rfl ?_
    refine g_get d_Mo_reads_48 f_Mo_128_Mo (by assumption) (by first | rfl | assumption) ?_
    refine g_iconst (v := 1) d_Mo_reads_51 rfl ?_
    refine g_iadd d_Mo_reads_52 ?_
    rw [nI_1]
    refine g_put d_Mo_reads_53 w_Mo_128_Mo (by assumption) (by rfl) (by rfl) (by first | exact Nat.le_of_ble_eq_true rfl | omega) ?_
    refine gen_putN (P := fun z => G w y_Mo_reads c_Mo_reads 5 r_Mo_reads (4, 106) Q _ _ _ z) hR hL.nx (n := 29) (by decide) c6N_29 (fun Z2 e2 hR2 hL2 => ?_)
    have hZ := k9 Z2 hR2 (by rw [← e2]; rfl)
    refine g_iload_n d_Mo_reads_56 rfl 0 rfl ?_
    first | refine g_if_eqB (tgt := 67) d_Mo_reads_57 (by decide) (fun h57 => ?_) (fun h57 => ?_) | refine g_if_eq (tgt := 67) d_Mo_reads_57 (by decide) (fun h57 => ?_) (fun h57 => ?_)
    · refine g_lconst (v := 0) d_Mo_reads_67 rfl ?_
      refine g_lstore_n d_Mo_reads_68 rfl (by decide) rfl ?_
      show G _ _ _ _ _ _ _ _ [(3, _), (2, _), (0, _), (1, _)] _ _
      exact hZ
    · exact absurd h57 h43

set_option maxHeartbeats 4000000 in
set_option maxRecDepth 100000 in
theorem J1b_Mo_reads {w : zC} {Z : zZ} {Q : zR → zZ → Prop} {ad : Nat → Nat} {A : ST} {r : Nat} {v0 : Int64} (hR : Rep w ad (mnx A) Z) (hL : ciLive A) (hW : mW (mnx A)) (k9 : ∀ Z', Rep w ad (mNo A) Z' → Z'.2.2 = Z.2.2 → G w y_Mo_reads c_Mo_reads 5 r_Mo_reads (4, 106) Q 185 [(3, .long (mWv A)), (2, .int (zb (mP A < mE A))), (0, .ref (ad 600)), (1, .int (nI r))] [] Z') : G w y_Mo_reads c_Mo_reads 5 r_Mo_reads (4, 106) Q 158 [(2, .int (zb (mP A < mE A))), (3, .long v0), (0, .ref (ad 600)), (1, .int (nI r))] [] Z := by
  have hm : zhs Z (ad 600) (.inr (10, [.int (sI (mnx A) 600 0), .ref (ad 701), .int (nI (sN (mnx A) 20)), .int (nI (sN (mnx A) 21)), .int (nI (sN (mnx A) 22)), .ref (ad 705), .ref (ad 706), .ref (ad 707), .ref (ad 708), .ref (ad 709), .ref (ad 710), .ref (ad 711), .int (nI (sN (mnx A) 23)), .ref (ad 713), .ref (ad 714), .ref (ad 715), .ref (ad 716), .int (nI (sN (mnx A) 24)), .int (nI (sN (mnx A) 25)), .ref (ad 719), .ref (ad 720), .ref (ad 721), .ref (ad 722), .ref (ad 723), .ref (ad 724), .int (sI (mnx A) 600 25), .ref (ad 726), .ref (ad 727), .ref (ad 728), .int (sI (mnx A) 600 29), .int (nI (sN (mnx A) 26)), .ref (ad 731), .ref (ad 732), .int (nI (sN (mnx A) 27)), .int (nI (sN (mnx A) 28)), .int (nI (sN (mnx A) 29)), .int (nI (sN (mnx A) 30)), .ref (ad 737), .int (nI (sN (mnx A) 31)), .int (nI (sN (mnx A) 32)), .int (sI (mnx A) 600 40), .ref (ad 741)])) := hR.m
  refine g_iload_n d_Mo_reads_158 rfl 0 rfl ?_
  first | refine g_if_neB (tgt := 172) d_Mo_reads_159 (by decide) (fun h159 => ?_) (fun h159 => ?_) | refine g_if_ne (tgt := 172) d_Mo_reads_159 (by decide) (fun h159 => ?_) (fun h159 => ?_)
  · rw [mWv, mNo, if_pos h159, if_pos h159] at k9
    have hZ := k9 Z hR rfl
    refine g_iload_n d_Mo_reads_172 rfl 0 rfl ?_
    first | refine g_if_eqB (tgt := 183) d_Mo_reads_173 (by decide) (fun h173 => ?_) (fun h173 => ?_) | refine g_if_eq (tgt := 183) d_Mo_reads_173 (by decide) (fun h173 => ?_) (fun h173 => ?_)
    · exact absurd h159 h173
    · refine g_aload_nq d_Mo_reads_176 rfl 2 rfl ?_
      refine g_callV d_Mo_reads_177 k_Mo_spelt l_Mo_145 i_Mo_spelt rfl p_Mo_spelt hm (by rfl) (by rfl) (Nat.le_of_ble_eq_true rfl) (by decide) (C_Mo_spelt hR hW.2.1 (Nat.le_trans hW.2.2 hW.1) ⟨_, rfl, ?_⟩)
      refine g_goto (tgt := 184) d_Mo_reads_180 (by decide) ?_
      refine g_lstore_n d_Mo_reads_184 rfl (by decide) rfl ?_
      show G _ _ _ _ _ _ _ _ [(3, _), (2, _), (0, _), (1, _)] _ _
      exact hZ
  · rw [mWv, mNo, if_neg h159, if_neg h159] at k9
    refine g_aload_nq d_Mo_reads_162 rfl 2 rfl ?_
    refine g_dup d_Mo_reads_163 rfl ?_
    refine g_get d_Mo_reads_164 f_Mo_128_Mo (by assumption) (by first | rfl | assumption) ?_
    refine g_iconst (v := 1) d_Mo_reads_167 rfl ?_
    refine g_iadd d_Mo_reads_168 ?_
    rw [nI_1]
    refine g_put d_Mo_reads_169 w_Mo_128_Mo (by assumption) (by rfl) (by rfl) (by first | exact Nat.le_of_ble_eq_true rfl | omega) ?_
    refine gen_putN (P := fun z => G w y_Mo_reads c_Mo_reads 5 r_Mo_reads (4, 106) Q _ _ _ z) hR hL.nx (n := 29) (by decide) c6N_29 (fun Z2 e2 hR2 hL2 => ?_)
    have hZ := k9 Z2 hR2 (by rw [← e2]; rfl)
    refine g_iload_n d_Mo_reads_172 rfl 0 rfl ?_
    first | refine g_if_eqB (tgt := 183) d_Mo_reads_173 (by decide) (fun h173 => ?_) (fun h173 => ?_) | refine g_if_eq (tgt := 183) d_Mo_reads_173 (by decide) (fun h173 => ?_) (fun h173 => ?_)
    · refine g_lconst (v := 0) d_Mo_reads_183 rfl ?_
      refine g_lstore_n d_Mo_reads_184 rfl (by decide) rfl ?_
      show G _ _ _ _ _ _ _ _ [(3, _), (2, _), (0, _), (1, _)] _ _
      exact hZ
    · exact absurd h173 h159

set_option maxHeartbeats 4000000 in
set_option maxRecDepth 100000 in
theorem J2_Mo_reads {w : zC} {Z : zZ} {Q : zR → zZ → Prop} {ad : Nat → Nat} {A : ST} {r : Nat} {v : Int64} {g : Int32} (hR : Rep w ad A Z) (hr : r < 20) (k9 : ∀ Z', Rep w ad (wI A 719 (upd (sI A 719) r (sbR v))) Z' → Z'.2.2 = Z.2.2 → G w y_Mo_reads c_Mo_reads 5 r_Mo_reads (4, 106) Q 137 [(3, .long v), (2, .int g), (0, .ref (ad 600)), (1, .int (nI r))] [] Z') : G w y_Mo_reads c_Mo_reads 5 r_Mo_reads (4, 106) Q 69 [(3, .long v), (2, .int g), (0, .ref (ad 600)), (1, .int (nI r))] [] Z := by
  have hm : zhs Z (ad 600) (.inr (10, [.int (sI A 600 0), .ref (ad 701), .int (nI (sN A 20)), .int (nI (sN A 21)), .int (nI (sN A 22)), .ref (ad 705), .ref (ad 706), .ref (ad 707), .ref (ad 708), .ref (ad 709), .ref (ad 710), .ref (ad 711), .int (nI (sN A 23)), .ref (ad 713), .ref (ad 714), .ref (ad 715), .ref (ad 716), .int (nI (sN A 24)), .int (nI (sN A 25)), .ref (ad 719), .ref (ad 720), .ref (ad 721), .ref (ad 722), .ref (ad 723), .ref (ad 724), .int (sI A 600 25), .ref (ad 726), .ref (ad 727), .ref (ad 728), .int (sI A 600 29), .int (nI (sN A 26)), .ref (ad 731), .ref (ad 732), .int (nI (sN A 27)), .int (nI (sN A 28)), .int (nI (sN A 29)), .int (nI (sN A 30)), .ref (ad 737), .int (nI (sN A 31)), .int (nI (sN A 32)), .int (sI A 600 40), .ref (ad 741)])) := hR.m
  have m719 : zhs Z (ad 719) (xi w 20 (sI A 719)) := hR.ma 719 (by decide)
  refine g_aload_nq d_Mo_reads_69 rfl 2 rfl ?_
  refine g_get d_Mo_reads_70 f_Mo_47_Mo (by assumption) (by first | rfl | assumption) ?_
  refine g_iload_n d_Mo_reads_73 rfl 3 rfl ?_
  refine g_lload_n d_Mo_reads_74 rfl 0 rfl ?_
  refine g_bipush (v := 112) d_Mo_reads_75 rfl ?_
  refine g_bipush (v := 97) d_Mo_reads_77 rfl ?_
  refine g_bipush (v := 114) d_Mo_reads_79 rfl ?_
  refine g_bipush (v := 116) d_Mo_reads_81 rfl ?_
  refine g_iconst (v := 0) d_Mo_reads_83 rfl ?_
  refine g_callS d_Mo_reads_84 k_Mo_word l_Mo_157 s_Mo_word (by rfl) (by rfl) (Nat.le_of_ble_eq_true rfl) (by decide) (C_Mo_word ⟨_, rfl, ?_⟩)
  refine g_lcmp d_Mo_reads_87 ?_
  refine g_if_ne (tgt := 95) d_Mo_reads_88 (by decide) (fun h88 => ?_) (fun h88 => ?_)
  · rw [lg_cmp_eq] at h88
    rw [sbR, if_neg h88] at k9
    refine g_lload_n d_Mo_reads_95 rfl 0 rfl ?_
    refine g_bipush (v := 110) d_Mo_reads_96 rfl ?_
    refine g_bipush (v := 101) d_Mo_reads_98 rfl ?_
    refine g_bipush (v := 116) d_Mo_reads_100 rfl ?_
    refine g_iconst (v := 0) d_Mo_reads_102 rfl ?_
    refine g_iconst (v := 0) d_Mo_reads_103 rfl ?_
    refine g_callS d_Mo_reads_104 k_Mo_word l_Mo_157 s_Mo_word (by rfl) (by rfl) (Nat.le_of_ble_eq_true rfl) (by decide) (C_Mo_word ⟨_, rfl, ?_⟩)
    refine g_lcmp d_Mo_reads_107 ?_
    refine g_if_ne (tgt := 115) d_Mo_reads_108 (by decide) (fun h108 => ?_) (fun h108 => ?_)
    · rw [lg_cmp_eq] at h108
      rw [if_neg h108] at k9
      refine g_lload_n d_Mo_reads_115 rfl 0 rfl ?_
      refine g_bipush (v := 112) d_Mo_reads_116 rfl ?_
      refine g_bipush (v := 105) d_Mo_reads_118 rfl ?_
      refine g_bipush (v := 110) d_Mo_reads_120 rfl ?_
      refine g_iconst (v := 0) d_Mo_reads_122 rfl ?_
      refine g_iconst (v := 0) d_Mo_reads_123 rfl ?_
      refine g_callS d_Mo_reads_124 k_Mo_word l_Mo_157 s_Mo_word (by rfl) (by rfl) (Nat.le_of_ble_eq_true rfl) (by decide) (C_Mo_word ⟨_, rfl, ?_⟩)
      refine g_lcmp d_Mo_reads_127 ?_
      refine g_if_ne (tgt := 135) d_Mo_reads_128 (by decide) (fun h128 => ?_) (fun h128 => ?_)
      · rw [lg_cmp_eq] at h128
        rw [if_neg h128] at k9
        refine g_iconst (v := (-1)) d_Mo_reads_135 rfl ?_
        refine g_iast d_Mo_reads_136 (by assumption) (vp_in_nI (n := r) (N := 20) (by omega) (by decide)) ?_
        rw [nI_clamp (by omega)]
        refine gen_putI (P := fun z => G w y_Mo_reads c_Mo_reads 5 r_Mo_reads (4, 106) Q _ _ _ z) hR (i := 719) (lvM (by decide)) cM_719 (fun Z1 e1 hR => ?_)
        exact k9 Z1 hR (by rw [← e1]; rfl)
      · rw [lg_cmp_eq] at h128
        rw [if_pos h128] at k9
        refine g_iconst (v := 2) d_Mo_reads_131 rfl ?_
        refine g_goto (tgt := 136) d_Mo_reads_132 (by decide) ?_
        refine g_iast d_Mo_reads_136 (by assumption) (vp_in_nI (n := r) (N := 20) (by omega) (by decide)) ?_
        rw [nI_clamp (by omega)]
        refine gen_putI (P := fun z => G w y_Mo_reads c_Mo_reads 5 r_Mo_reads (4, 106) Q _ _ _ z) hR (i := 719) (lvM (by decide)) cM_719 (fun Z1 e1 hR => ?_)
        exact k9 Z1 hR (by rw [← e1]; rfl)
    · rw [lg_cmp_eq] at h108
      rw [if_pos h108] at k9
      refine g_iconst (v := 1) d_Mo_reads_111 rfl ?_
      refine g_goto (tgt := 136) d_Mo_reads_112 (by decide) ?_
      refine g_iast d_Mo_reads_136 (by assumption) (vp_in_nI (n := r) (N := 20) (by omega) (by decide)) ?_
      rw [nI_clamp (by omega)]
      refine gen_putI (P := fun z => G w y_Mo_reads c_Mo_reads 5 r_Mo_reads (4, 106) Q _ _ _ z) hR (i := 719) (lvM (by decide)) cM_719 (fun Z1 e1 hR => ?_)
      exact k9 Z1 hR (by rw [← e1]; rfl)
  · rw [lg_cmp_eq] at h88
    rw [sbR, if_pos h88] at k9
    refine g_iconst (v := 0) d_Mo_reads_91 rfl ?_
    refine g_goto (tgt := 136) d_Mo_reads_92 (by decide) ?_
    refine g_iast d_Mo_reads_136 (by assumption) (vp_in_nI (n := r) (N := 20) (by omega) (by decide)) ?_
    rw [nI_clamp (by omega)]
    refine gen_putI (P := fun z => G w y_Mo_reads c_Mo_reads 5 r_Mo_reads (4, 106) Q _ _ _ z) hR (i := 719) (lvM (by decide)) cM_719 (fun Z1 e1 hR => ?_)
    exact k9 Z1 hR (by rw [← e1]; rfl)

set_option maxHeartbeats 4000000 in
set_option maxRecDepth 100000 in
theorem J3_Mo_reads {w : zC} {Z : zZ} {Q : zR → zZ → Prop} {ad : Nat → Nat} {A : ST} {r : Nat} {v : Int64} {g : Int32} (hR : Rep w ad A Z) (hr : r < 20) (k9 : ∀ Z', Rep w ad (wI A 720 (upd (sI A 720) r (wtR v))) Z' → Z'.2.2 = Z.2.2 → G w y_Mo_reads c_Mo_reads 5 r_Mo_reads (4, 106) Q 235 [(3, .long v), (2, .int g), (0, .ref (ad 600)), (1, .int (nI r))] [] Z') : G w y_Mo_reads c_Mo_reads 5 r_Mo_reads (4, 106) Q 185 [(3, .long v), (2, .int g), (0, .ref (ad 600)), (1, .int (nI r))] [] Z := by
  have hm : zhs Z (ad 600) (.inr (10, [.int (sI A 600 0), .ref (ad 701), .int (nI (sN A 20)), .int (nI (sN A 21)), .int (nI (sN A 22)), .ref (ad 705), .ref (ad 706), .ref (ad 707), .ref (ad 708), .ref (ad 709), .ref (ad 710), .ref (ad 711), .int (nI (sN A 23)), .ref (ad 713), .ref (ad 714), .ref (ad 715), .ref (ad 716), .int (nI (sN A 24)), .int (nI (sN A 25)), .ref (ad 719), .ref (ad 720), .ref (ad 721), .ref (ad 722), .ref (ad 723), .ref (ad 724), .int (sI A 600 25), .ref (ad 726), .ref (ad 727), .ref (ad 728), .int (sI A 600 29), .int (nI (sN A 26)), .ref (ad 731), .ref (ad 732), .int (nI (sN A 27)), .int (nI (sN A 28)), .int (nI (sN A 29)), .int (nI (sN A 30)), .ref (ad 737), .int (nI (sN A 31)), .int (nI (sN A 32)), .int (sI A 600 40), .ref (ad 741)])) := hR.m
  have m720 : zhs Z (ad 720) (xi w 20 (sI A 720)) := hR.ma 720 (by decide)
  refine g_aload_nq d_Mo_reads_185 rfl 2 rfl ?_
  refine g_get d_Mo_reads_186 f_Mo_50_Mo (by assumption) (by first | rfl | assumption) ?_
  refine g_iload_n d_Mo_reads_189 rfl 3 rfl ?_
  refine g_lload_n d_Mo_reads_190 rfl 0 rfl ?_
  refine g_bipush (v := 119) d_Mo_reads_191 rfl ?_
  refine g_bipush (v := 97) d_Mo_reads_193 rfl ?_
  refine g_bipush (v := 114) d_Mo_reads_195 rfl ?_
  refine g_bipush (v := 110) d_Mo_reads_197 rfl ?_
  refine g_iconst (v := 0) d_Mo_reads_199 rfl ?_
  refine g_callS d_Mo_reads_200 k_Mo_word l_Mo_157 s_Mo_word (by rfl) (by rfl) (Nat.le_of_ble_eq_true rfl) (by decide) (C_Mo_word ⟨_, rfl, ?_⟩)
  refine g_lcmp d_Mo_reads_203 ?_
  refine g_if_ne (tgt := 211) d_Mo_reads_204 (by decide) (fun h204 => ?_) (fun h204 => ?_)
  · rw [lg_cmp_eq] at h204
    rw [wtR, if_neg h204] at k9
    refine g_lload_n d_Mo_reads_211 rfl 0 rfl ?_
    refine g_bipush (v := 101) d_Mo_reads_212 rfl ?_
    refine g_bipush (v := 114) d_Mo_reads_214 rfl ?_
    refine g_bipush (v := 114) d_Mo_reads_216 rfl ?_
    refine g_bipush (v := 111) d_Mo_reads_218 rfl ?_
    refine g_bipush (v := 114) d_Mo_reads_220 rfl ?_
    refine g_callS d_Mo_reads_222 k_Mo_word l_Mo_157 s_Mo_word (by rfl) (by rfl) (Nat.le_of_ble_eq_true rfl) (by decide) (C_Mo_word ⟨_, rfl, ?_⟩)
    refine g_lcmp d_Mo_reads_225 ?_
    refine g_if_ne (tgt := 233) d_Mo_reads_226 (by decide) (fun h226 => ?_) (fun h226 => ?_)
    · rw [lg_cmp_eq] at h226
      rw [if_neg h226] at k9
      refine g_iconst (v := 0) d_Mo_reads_233 rfl ?_
      refine g_iast d_Mo_reads_234 (by assumption) (vp_in_nI (n := r) (N := 20) (by omega) (by decide)) ?_
      rw [nI_clamp (by omega)]
      refine gen_putI (P := fun z => G w y_Mo_reads c_Mo_reads 5 r_Mo_reads (4, 106) Q _ _ _ z) hR (i := 720) (lvM (by decide)) cM_720 (fun Z1 e1 hR => ?_)
      exact k9 Z1 hR (by rw [← e1]; rfl)
    · rw [lg_cmp_eq] at h226
      rw [if_pos h226] at k9
      refine g_iconst (v := 2) d_Mo_reads_229 rfl ?_
      refine g_goto (tgt := 234) d_Mo_reads_230 (by decide) ?_
      refine g_iast d_Mo_reads_234 (by assumption) (vp_in_nI (n := r) (N := 20) (by omega) (by decide)) ?_
      rw [nI_clamp (by omega)]
      refine gen_putI (P := fun z => G w y_Mo_reads c_Mo_reads 5 r_Mo_reads (4, 106) Q _ _ _ z) hR (i := 720) (lvM (by decide)) cM_720 (fun Z1 e1 hR => ?_)
      exact k9 Z1 hR (by rw [← e1]; rfl)
  · rw [lg_cmp_eq] at h204
    rw [wtR, if_pos h204] at k9
    refine g_iconst (v := 1) d_Mo_reads_207 rfl ?_
    refine g_goto (tgt := 234) d_Mo_reads_208 (by decide) ?_
    refine g_iast d_Mo_reads_234 (by assumption) (vp_in_nI (n := r) (N := 20) (by omega) (by decide)) ?_
    rw [nI_clamp (by omega)]
    refine gen_putI (P := fun z => G w y_Mo_reads c_Mo_reads 5 r_Mo_reads (4, 106) Q _ _ _ z) hR (i := 720) (lvM (by decide)) cM_720 (fun Z1 e1 hR => ?_)
    exact k9 Z1 hR (by rw [← e1]; rfl)

theorem jI.nx0 {S : ST} {r k : Nat} (h : jI S r k) (hlt : ¬ mP S < mE S) : jI (mnx S) r k := by
  have e29 : sN (mnx S) 29 = sN S 29 := by
    unfold mnx
    rw [if_neg hlt, wN_ne (by decide), wN_ne (by decide)]
  have hle := mE_le h.1.2.1
  have hP := skS_le (f := sI S 716) (n := sN S 24 - sN S 28) (i := sN S 28)
  have hPP : sN S 28 ≤ mP S := hP.1
  refine ⟨⟨by rw [mnx_N (by decide)]; exact h.1.1, by rw [mnx_28, mnx_N (by decide)]; exact hle.2, by rw [mnx_N (by decide)]; exact h.1.2.2.1, by show (mnx S).1 721 r = _; rw [mnx_I.1, pcn_cg (S := S) mnx_I.1 (mnx_N (by decide))]; exact h.1.2.2.2⟩, ⟨?_, ?_, ?_⟩, ?_⟩
  · rw [pcn_cg (S := S) mnx_I.1 (mnx_N (by decide)), mnx_N (by decide), e29]
    exact h.2.1.1
  · rw [e29, mnx_28]
    have h6 := h.2.1.2.1
    omega
  · right
    rw [mnx_28, mnx_N (by decide), show sI (mnx S) 716 = sI S 716 from congrFun mnx_I.1 716]
    exact mE_end h.1.2.1
  · rw [mnx_N (by decide), mnx_N (by decide), show sI (mnx S) 737 = sI S 737 from congrFun mnx_I.1 737]
    exact h.2.2
/-- what takes leaves alone -/
def kpT (S T : ST) : Prop := T.2.2.1 = S.2.2.1 ∧ T.2.1 = S.2.1 ∧ (∀ m, (m < 27 ∨ 32 < m) → sN T m = sN S m) ∧ ∀ i, i ≠ 600 → i ≠ 721 → i ≠ 722 → i ≠ 723 → i ≠ 737 → sI T i = sI S i
theorem kpT.rf {S : ST} : kpT S S := ⟨rfl, rfl, fun _ _ => rfl, fun _ _ _ _ _ _ => rfl⟩
theorem kpT.tr {S T U : ST} (h : kpT S T) (h' : kpT T U) : kpT S U := ⟨h'.1.trans h.1, h'.2.1.trans h.2.1, fun m hm => (h'.2.2.1 m hm).trans (h.2.2.1 m hm), fun i a b c d e => (h'.2.2.2 i a b c d e).trans (h.2.2.2 i a b c d e)⟩
theorem kpT.put {S : ST} {x y : Int32} : kpT S (mput S x y) := ⟨rfl, rfl, fun _ _ => rfl, fun i _ b c d _ => by
  show va_up (va_up (va_up S.1 722 _) 723 _) 721 _ i = S.1 i
  rw [va_up_ne _ _ b, va_up_ne _ _ d, va_up_ne _ _ c]⟩
theorem kpT.n {S : ST} {n v : Nat} (h : 27 ≤ n ∧ n ≤ 32) : kpT S (wN S n v) := ⟨rfl, rfl, fun m hm => wN_ne (by omega), fun _ _ _ _ _ _ => rfl⟩
theorem kpT.wai {S : ST} {x : Int32} : kpT S (mwai S x) := ⟨rfl, rfl, fun m hm => wN_ne (by omega), fun i _ _ _ _ e => va_up_ne _ _ e⟩
theorem kpT.s6 {S : ST} {j : Nat} {x : Int32} : kpT S (w6 S j x) := ⟨rfl, rfl, fun _ _ => rfl, fun i a _ _ _ _ => va_up_ne _ _ a⟩
theorem kpT.nx {S : ST} : kpT S (mnx S) := ⟨mnx_I.2.2, mnx_I.2.1, fun m hm => mnx_N (by omega), fun i _ _ _ _ _ => congrFun mnx_I.1 i⟩
theorem kpT.rel {x : Int32} : ∀ {n S}, kpT S (mrel x n S)
  | 0, S => kpT.rf
  | n + 1, S => by
    unfold mrel
    split
    · exact kpT.rf
    · exact (kpT.n (n := 31) (by decide)).tr (kpT.put.tr kpT.rel)
theorem kpT.tm {S : ST} {s : Int32} : kpT S (mTm S s).1 := by
  unfold mTm
  repeat' split
  all_goals first | exact kpT.put | exact kpT.rf | skip
  unfold mDn
  repeat' split
  · exact kpT.nx.tr kpT.put
  · exact kpT.nx
  · exact kpT.nx.tr (kpT.n (by decide))
theorem kpT.sg {S : ST} : kpT S (mSg S).1 := by
  unfold mSg mRw
  repeat' split
  all_goals first | exact kpT.rf | exact (kpT.rel.tr kpT.wai).tr kpT.s6 | exact ((kpT.rel.tr (kpT.n (by decide))).tr (kpT.n (by decide))).tr kpT.s6
theorem kpT.tk {S : ST} {s : Int32} : kpT S (mTk S s).1 := by
  unfold mTk
  repeat' split
  all_goals first | exact kpT.sg | exact kpT.wai | exact kpT.rf | exact kpT.wai.tr (kpT.n (by decide)) | exact kpT.tm.tr kpT.s6 | exact kpT.tm
theorem ciLive.tk {S : ST} {s : Int32} (h : ciLive S) : ciLive (mTk S s).1 := h.same' kpT.tk.1 (fun m hm => kpT.tk.2.2.1 m (by omega))

set_option maxHeartbeats 4000000 in
set_option maxRecDepth 100000 in
theorem L_Mo_reads {w : zC} {Q : zR → zZ → Prop} {ad : Nat → Nat} {r : Nat} {v : Int64} {g : Int32} (hr : r < 20) (n : Nat) : ∀ S Z, jI S r 0 → 82 ≤ n + sN S 29 → Rep w ad S Z → ciLive S → mkQ w ad Z Q (mGo r n S) → G w y_Mo_reads c_Mo_reads 5 r_Mo_reads (4, 106) Q 250 [(3, .long v), (2, .int g), (0, .ref (ad 600)), (1, .int (nI r))] [] Z := by
  induction n with
  | zero =>
    intro S Z hj h82
    exact absurd hj.b (by omega)
  | succ n ih =>
    intro S Z hj h82 hR hL hQ
    have hm : zhs Z (ad 600) (.inr (10, [.int (sI S 600 0), .ref (ad 701), .int (nI (sN S 20)), .int (nI (sN S 21)), .int (nI (sN S 22)), .ref (ad 705), .ref (ad 706), .ref (ad 707), .ref (ad 708), .ref (ad 709), .ref (ad 710), .ref (ad 711), .int (nI (sN S 23)), .ref (ad 713), .ref (ad 714), .ref (ad 715), .ref (ad 716), .int (nI (sN S 24)), .int (nI (sN S 25)), .ref (ad 719), .ref (ad 720), .ref (ad 721), .ref (ad 722), .ref (ad 723), .ref (ad 724), .int (sI S 600 25), .ref (ad 726), .ref (ad 727), .ref (ad 728), .int (sI S 600 29), .int (nI (sN S 26)), .ref (ad 731), .ref (ad 732), .int (nI (sN S 27)), .int (nI (sN S 28)), .int (nI (sN S 29)), .int (nI (sN S 30)), .ref (ad 737), .int (nI (sN S 31)), .int (nI (sN S 32)), .int (sI S 600 40), .ref (ad 741)])) := hR.m
    refine g_aload_nq d_Mo_reads_250 rfl 2 rfl ?_
    refine g_callV d_Mo_reads_251 k_Mo_nextWord l_Mo_164 i_Mo_nextWord rfl p_Mo_nextWord hm (by rfl) (by rfl) (Nat.le_of_ble_eq_true rfl) (by decide) (C_Mo_nextWord hR hL hj.1.1 hj.1.2.1 (fun Z1 hR1 B1 => ⟨_, rfl, ?_⟩))
    have hL1 := hL.nx
    rw [mGo] at hQ
    first | refine g_if_eqB (tgt := 272) d_Mo_reads_254 (by decide) (fun h254 => ?_) (fun h254 => ?_) | refine g_if_eq (tgt := 272) d_Mo_reads_254 (by decide) (fun h254 => ?_) (fun h254 => ?_)
    · rw [if_neg h254] at hQ
      have hj1 := hj.nx0 h254
      have hm : zhs Z1 (ad 600) (.inr (10, [.int (sI (mnx S) 600 0), .ref (ad 701), .int (nI (sN (mnx S) 20)), .int (nI (sN (mnx S) 21)), .int (nI (sN (mnx S) 22)), .ref (ad 705), .ref (ad 706), .ref (ad 707), .ref (ad 708), .ref (ad 709), .ref (ad 710), .ref (ad 711), .int (nI (sN (mnx S) 23)), .ref (ad 713), .ref (ad 714), .ref (ad 715), .ref (ad 716), .int (nI (sN (mnx S) 24)), .int (nI (sN (mnx S) 25)), .ref (ad 719), .ref (ad 720), .ref (ad 721), .ref (ad 722), .ref (ad 723), .ref (ad 724), .int (sI (mnx S) 600 25), .ref (ad 726), .ref (ad 727), .ref (ad 728), .int (sI (mnx S) 600 29), .int (nI (sN (mnx S) 26)), .ref (ad 731), .ref (ad 732), .int (nI (sN (mnx S) 27)), .int (nI (sN (mnx S) 28)), .int (nI (sN (mnx S) 29)), .int (nI (sN (mnx S) 30)), .ref (ad 737), .int (nI (sN (mnx S) 31)), .int (nI (sN (mnx S) 32)), .int (sI (mnx S) 600 40), .ref (ad 741)])) := hR1.m
      rw [mEnd] at hQ
      refine g_aload_nq d_Mo_reads_272 rfl 2 rfl ?_
      refine g_get d_Mo_reads_273 f_Mo_184_Mo (by assumption) (by first | rfl | assumption) ?_
      refine g_iconst (v := 4) d_Mo_reads_276 rfl ?_
      refine g_icmp_lt (tgt := 287) d_Mo_reads_277 (by decide) (fun h277 => ?_) (fun h277 => ?_)
      · rw [if_pos (Or.inl h277)] at hQ
        refine g_aload_nq d_Mo_reads_287 rfl 2 rfl ?_
        refine g_dup d_Mo_reads_288 rfl ?_
        refine g_get d_Mo_reads_289 f_Mo_128_Mo (by assumption) (by first | rfl | assumption) ?_
        refine g_iconst (v := 1) d_Mo_reads_292 rfl ?_
        refine g_iadd d_Mo_reads_293 ?_
        rw [nI_1]
        refine g_put d_Mo_reads_294 w_Mo_128_Mo (by assumption) (by rfl) (by rfl) (by first | exact Nat.le_of_ble_eq_true rfl | omega) ?_
        refine gen_putN (P := fun z => G w y_Mo_reads c_Mo_reads 5 r_Mo_reads (4, 106) Q _ _ _ z) hR1 hL1 (n := 29) (by decide) c6N_29 (fun Z2 e2 hR2 hL2 => ?_)
        have hF := hQ Z2 hR2 (by rw [← e2]; exact B1)
        refine g_iconst (v := 0) d_Mo_reads_297 rfl ?_
        refine g_zret d_Mo_reads_298 ?_ ?_
        · first | rfl | exact zb_nar _ | exact zb_narc (by assumption)
        · exact hF
      · refine g_aload_nq d_Mo_reads_280 rfl 2 rfl ?_
        refine g_get d_Mo_reads_281 f_Mo_196_Mo (by assumption) (by first | rfl | assumption) ?_
        refine g_if_le (tgt := 299) d_Mo_reads_284 (by decide) (fun h284 => ?_) (fun h284 => ?_)
        · rw [if_neg (fun z => by rcases z with z | z; exact h277 z; exact z h284)] at hQ
          refine g_aload_nq d_Mo_reads_299 rfl 2 rfl ?_
          refine g_iconst (v := 1) d_Mo_reads_300 rfl ?_
          refine g_callV d_Mo_reads_301 k_Mo_release l_Mo_187 i_Mo_release rfl p_Mo_release hm (by rfl) (by rfl) (Nat.le_of_ble_eq_true rfl) (by decide) (C_Mo_release hR1 hL1 (hj1.q hr) (fun Z2 hR2 B2 => ⟨_, rfl, ?_⟩))
          refine g_iconst (v := 1) d_Mo_reads_304 rfl ?_
          refine g_zret d_Mo_reads_305 ?_ ?_
          · first | rfl | exact zb_nar _ | exact zb_narc (by assumption)
          · exact hQ Z2 hR2 (B2.trans B1)
        · rw [if_pos (Or.inr h284)] at hQ
          refine g_aload_nq d_Mo_reads_287 rfl 2 rfl ?_
          refine g_dup d_Mo_reads_288 rfl ?_
          refine g_get d_Mo_reads_289 f_Mo_128_Mo (by assumption) (by first | rfl | assumption) ?_
          refine g_iconst (v := 1) d_Mo_reads_292 rfl ?_
          refine g_iadd d_Mo_reads_293 ?_
          rw [nI_1]
          refine g_put d_Mo_reads_294 w_Mo_128_Mo (by assumption) (by rfl) (by rfl) (by first | exact Nat.le_of_ble_eq_true rfl | omega) ?_
          refine gen_putN (P := fun z => G w y_Mo_reads c_Mo_reads 5 r_Mo_reads (4, 106) Q _ _ _ z) hR1 hL1 (n := 29) (by decide) c6N_29 (fun Z2 e2 hR2 hL2 => ?_)
          have hF := hQ Z2 hR2 (by rw [← e2]; exact B1)
          refine g_iconst (v := 0) d_Mo_reads_297 rfl ?_
          refine g_zret d_Mo_reads_298 ?_ ?_
          · first | rfl | exact zb_nar _ | exact zb_narc (by assumption)
          · exact hF
    · rw [if_pos h254] at hQ
      obtain ⟨hj1, hW, e29⟩ := hj.nx h254
      have hm : zhs Z1 (ad 600) (.inr (10, [.int (sI (mnx S) 600 0), .ref (ad 701), .int (nI (sN (mnx S) 20)), .int (nI (sN (mnx S) 21)), .int (nI (sN (mnx S) 22)), .ref (ad 705), .ref (ad 706), .ref (ad 707), .ref (ad 708), .ref (ad 709), .ref (ad 710), .ref (ad 711), .int (nI (sN (mnx S) 23)), .ref (ad 713), .ref (ad 714), .ref (ad 715), .ref (ad 716), .int (nI (sN (mnx S) 24)), .int (nI (sN (mnx S) 25)), .ref (ad 719), .ref (ad 720), .ref (ad 721), .ref (ad 722), .ref (ad 723), .ref (ad 724), .int (sI (mnx S) 600 25), .ref (ad 726), .ref (ad 727), .ref (ad 728), .int (sI (mnx S) 600 29), .int (nI (sN (mnx S) 26)), .ref (ad 731), .ref (ad 732), .int (nI (sN (mnx S) 27)), .int (nI (sN (mnx S) 28)), .int (nI (sN (mnx S) 29)), .int (nI (sN (mnx S) 30)), .ref (ad 737), .int (nI (sN (mnx S) 31)), .int (nI (sN (mnx S) 32)), .int (sI (mnx S) 600 40), .ref (ad 741)])) := hR1.m
      have m719 : zhs Z1 (ad 719) (xi w 20 (sI (mnx S) 719)) := hR1.ma 719 (by decide)
      refine g_aload_nq d_Mo_reads_257 rfl 2 rfl ?_
      refine g_aload_nq d_Mo_reads_258 rfl 2 rfl ?_
      refine g_get d_Mo_reads_259 f_Mo_47_Mo (by assumption) (by first | rfl | assumption) ?_
      refine g_iload_n d_Mo_reads_262 rfl 3 rfl ?_
      refine g_iald d_Mo_reads_263 (by assumption) (vp_in_nI (n := r) (N := 20) (by omega) (by decide)) ?_
      rw [nI_clamp (by omega)]
      refine g_callV d_Mo_reads_264 k_Mo_takes l_Mo_207 i_Mo_takes rfl p_Mo_takes hm (by rfl) (by rfl) (Nat.le_of_ble_eq_true rfl) (by decide) (C_Mo_takes hR1 hL1 hW (hj1.q hr) hj1.ho (fun Z2 hR2 B2 => ⟨_, rfl, ?_⟩))
      first | refine g_if_neB (tgt := 250) d_Mo_reads_267 (by decide) (fun h267 => ?_) (fun h267 => ?_) | refine g_if_ne (tgt := 250) d_Mo_reads_267 (by decide) (fun h267 => ?_) (fun h267 => ?_)
      · rw [if_pos h267] at hQ
        obtain ⟨hj2, h29⟩ := mTk_jI hj1 h267
        exact ih _ Z2 hj2 (by omega) hR2 (hL1.tk) (fun Z9 r9 b9 => hQ Z9 r9 (b9.trans (B2.trans B1)))
      · rw [if_neg h267] at hQ
        refine g_iconst (v := 0) d_Mo_reads_270 rfl ?_
        refine g_zret d_Mo_reads_271 ?_ ?_
        · first | rfl | exact zb_nar _ | exact zb_narc (by assumption)
        · exact hQ Z2 hR2 (B2.trans B1)

set_option maxHeartbeats 4000000 in
set_option maxRecDepth 100000 in
theorem M2_Mo_reads {w : zC} {Z : zZ} {Q : zR → zZ → Prop} {ad : Nat → Nat} {B : ST} {r : Nat} {v : Int64} {g : Int32} (hR : Rep w ad B Z) (hL : ciLive B) (hj : jI B r 0) (hr : r < 20) (hQ : mkQ w ad Z Q (mRd2 B r)) : G w y_Mo_reads c_Mo_reads 5 r_Mo_reads (4, 106) Q 153 [(3, .long v), (2, .int g), (0, .ref (ad 600)), (1, .int (nI r))] [] Z := by
  have hm : zhs Z (ad 600) (.inr (10, [.int (sI B 600 0), .ref (ad 701), .int (nI (sN B 20)), .int (nI (sN B 21)), .int (nI (sN B 22)), .ref (ad 705), .ref (ad 706), .ref (ad 707), .ref (ad 708), .ref (ad 709), .ref (ad 710), .ref (ad 711), .int (nI (sN B 23)), .ref (ad 713), .ref (ad 714), .ref (ad 715), .ref (ad 716), .int (nI (sN B 24)), .int (nI (sN B 25)), .ref (ad 719), .ref (ad 720), .ref (ad 721), .ref (ad 722), .ref (ad 723), .ref (ad 724), .int (sI B 600 25), .ref (ad 726), .ref (ad 727), .ref (ad 728), .int (sI B 600 29), .int (nI (sN B 26)), .ref (ad 731), .ref (ad 732), .int (nI (sN B 27)), .int (nI (sN B 28)), .int (nI (sN B 29)), .int (nI (sN B 30)), .ref (ad 737), .int (nI (sN B 31)), .int (nI (sN B 32)), .int (sI B 600 40), .ref (ad 741)])) := hR.m
  refine g_aload_nq d_Mo_reads_153 rfl 2 rfl ?_
  refine g_callV d_Mo_reads_154 k_Mo_nextWord l_Mo_164 i_Mo_nextWord rfl p_Mo_nextWord hm (by rfl) (by rfl) (Nat.le_of_ble_eq_true rfl) (by decide) (C_Mo_nextWord hR hL hj.1.1 hj.1.2.1 (fun Z3 hR3 B3 => ⟨_, rfl, ?_⟩))
  refine g_istore_n d_Mo_reads_157 rfl (by decide) rfl ?_
  show G _ _ _ _ _ _ _ _ [(2, _), (3, _), (0, _), (1, _)] _ _
  refine J1b_Mo_reads hR3 hL (mnx_W hj.1.1 hj.1.2.1) (fun Z4 hR4 B4 => ?_)
  refine J3_Mo_reads hR4 hr (fun Z5 hR5 B5 => ?_)
  have hR5 : Rep w ad (mS2 B r) Z5 := hR5
  rw [mRd2] at hQ
  have hm : zhs Z5 (ad 600) (.inr (10, [.int (sI (mS2 B r) 600 0), .ref (ad 701), .int (nI (sN (mS2 B r) 20)), .int (nI (sN (mS2 B r) 21)), .int (nI (sN (mS2 B r) 22)), .ref (ad 705), .ref (ad 706), .ref (ad 707), .ref (ad 708), .ref (ad 709), .ref (ad 710), .ref (ad 711), .int (nI (sN (mS2 B r) 23)), .ref (ad 713), .ref (ad 714), .ref (ad 715), .ref (ad 716), .int (nI (sN (mS2 B r) 24)), .int (nI (sN (mS2 B r) 25)), .ref (ad 719), .ref (ad 720), .ref (ad 721), .ref (ad 722), .ref (ad 723), .ref (ad 724), .int (sI (mS2 B r) 600 25), .ref (ad 726), .ref (ad 727), .ref (ad 728), .int (sI (mS2 B r) 600 29), .int (nI (sN (mS2 B r) 26)), .ref (ad 731), .ref (ad 732), .int (nI (sN (mS2 B r) 27)), .int (nI (sN (mS2 B r) 28)), .int (nI (sN (mS2 B r) 29)), .int (nI (sN (mS2 B r) 30)), .ref (ad 737), .int (nI (sN (mS2 B r) 31)), .int (nI (sN (mS2 B r) 32)), .int (sI (mS2 B r) 600 40), .ref (ad 741)])) := hR5.m
  have m720 : zhs Z5 (ad 720) (xi w 20 (upd (sI (mNo B) 720) r (wtR (mWv B)))) := hR5.ma 720 (by decide)
  refine g_iload_n d_Mo_reads_235 rfl 1 rfl ?_
  first | refine g_if_eqB (tgt := 248) d_Mo_reads_236 (by decide) (fun h236 => ?_) (fun h236 => ?_) | refine g_if_eq (tgt := 248) d_Mo_reads_236 (by decide) (fun h236 => ?_) (fun h236 => ?_)
  · rw [if_neg (fun z => h236 z.1)] at hQ
    refine g_iconst (v := 0) d_Mo_reads_248 rfl ?_
    refine g_zret d_Mo_reads_249 ?_ ?_
    · first | rfl | exact zb_nar _ | exact zb_narc (by assumption)
    · exact hQ Z5 hR5 (B5.trans (B4.trans B3))
  · refine g_aload_nq d_Mo_reads_239 rfl 2 rfl ?_
    refine g_get d_Mo_reads_240 f_Mo_50_Mo (by assumption) (by first | rfl | assumption) ?_
    refine g_iload_n d_Mo_reads_243 rfl 3 rfl ?_
    refine g_iald d_Mo_reads_244 (by assumption) (vp_in_nI (n := r) (N := 20) (by omega) (by decide)) ?_
    rw [nI_clamp (by omega), show upd (sI (mNo B) 720) r (wtR (mWv B)) r = wtR (mWv B) from if_pos rfl]
    generalize wtR (mWv B) = xx at hQ ⊢
    first | refine g_if_neB (tgt := 250) d_Mo_reads_245 (by decide) (fun h245 => ?_) (fun h245 => ?_) | refine g_if_ne (tgt := 250) d_Mo_reads_245 (by decide) (fun h245 => ?_) (fun h245 => ?_)
    · rw [if_pos ⟨h236, h245⟩] at hQ
      exact L_Mo_reads hr 82 _ Z5 (hj.no h236).i720 (by omega) hR5 (hL.no.same' rfl (fun _ _ => rfl)) (fun Z9 r9 b9 => hQ Z9 r9 (b9.trans (B5.trans (B4.trans B3))))
    · rw [if_neg (fun z => z.2 h245)] at hQ
      refine g_iconst (v := 0) d_Mo_reads_248 rfl ?_
      refine g_zret d_Mo_reads_249 ?_ ?_
      · first | rfl | exact zb_nar _ | exact zb_narc (by assumption)
      · exact hQ Z5 hR5 (B5.trans (B4.trans B3))

set_option maxHeartbeats 4000000 in
set_option maxRecDepth 100000 in
theorem M1_Mo_reads {w : zC} {Z : zZ} {Q : zR → zZ → Prop} {ad : Nat → Nat} {B : ST} {r : Nat} (hR : Rep w ad B Z) (hL : ciLive B) (hj : jI B r 0) (hr : r < 20) (hQ : mkQ w ad Z Q (mRd1 B r)) : G w y_Mo_reads c_Mo_reads 5 r_Mo_reads (4, 106) Q 37 [(0, .ref (ad 600)), (1, .int (nI r))] [] Z := by
  have hm : zhs Z (ad 600) (.inr (10, [.int (sI B 600 0), .ref (ad 701), .int (nI (sN B 20)), .int (nI (sN B 21)), .int (nI (sN B 22)), .ref (ad 705), .ref (ad 706), .ref (ad 707), .ref (ad 708), .ref (ad 709), .ref (ad 710), .ref (ad 711), .int (nI (sN B 23)), .ref (ad 713), .ref (ad 714), .ref (ad 715), .ref (ad 716), .int (nI (sN B 24)), .int (nI (sN B 25)), .ref (ad 719), .ref (ad 720), .ref (ad 721), .ref (ad 722), .ref (ad 723), .ref (ad 724), .int (sI B 600 25), .ref (ad 726), .ref (ad 727), .ref (ad 728), .int (sI B 600 29), .int (nI (sN B 26)), .ref (ad 731), .ref (ad 732), .int (nI (sN B 27)), .int (nI (sN B 28)), .int (nI (sN B 29)), .int (nI (sN B 30)), .ref (ad 737), .int (nI (sN B 31)), .int (nI (sN B 32)), .int (sI B 600 40), .ref (ad 741)])) := hR.m
  refine g_aload_nq d_Mo_reads_37 rfl 0 rfl ?_
  refine g_callV d_Mo_reads_38 k_Mo_nextWord l_Mo_164 i_Mo_nextWord rfl p_Mo_nextWord hm (by rfl) (by rfl) (Nat.le_of_ble_eq_true rfl) (by decide) (C_Mo_nextWord hR hL hj.1.1 hj.1.2.1 (fun Z3 hR3 B3 => ⟨_, rfl, ?_⟩))
  refine g_istore_n d_Mo_reads_41 rfl (by decide) rfl ?_
  show G _ _ _ _ _ _ _ _ [(2, _), (0, _), (1, _)] _ _
  refine J1_Mo_reads hR3 hL (mnx_W hj.1.1 hj.1.2.1) (fun Z4 hR4 B4 => ?_)
  refine J2_Mo_reads hR4 hr (fun Z5 hR5 B5 => ?_)
  have hR5 : Rep w ad (mS1 B r) Z5 := hR5
  rw [mRd1] at hQ
  have hm : zhs Z5 (ad 600) (.inr (10, [.int (sI (mS1 B r) 600 0), .ref (ad 701), .int (nI (sN (mS1 B r) 20)), .int (nI (sN (mS1 B r) 21)), .int (nI (sN (mS1 B r) 22)), .ref (ad 705), .ref (ad 706), .ref (ad 707), .ref (ad 708), .ref (ad 709), .ref (ad 710), .ref (ad 711), .int (nI (sN (mS1 B r) 23)), .ref (ad 713), .ref (ad 714), .ref (ad 715), .ref (ad 716), .int (nI (sN (mS1 B r) 24)), .int (nI (sN (mS1 B r) 25)), .ref (ad 719), .ref (ad 720), .ref (ad 721), .ref (ad 722), .ref (ad 723), .ref (ad 724), .int (sI (mS1 B r) 600 25), .ref (ad 726), .ref (ad 727), .ref (ad 728), .int (sI (mS1 B r) 600 29), .int (nI (sN (mS1 B r) 26)), .ref (ad 731), .ref (ad 732), .int (nI (sN (mS1 B r) 27)), .int (nI (sN (mS1 B r) 28)), .int (nI (sN (mS1 B r) 29)), .int (nI (sN (mS1 B r) 30)), .ref (ad 737), .int (nI (sN (mS1 B r) 31)), .int (nI (sN (mS1 B r) 32)), .int (sI (mS1 B r) 600 40), .ref (ad 741)])) := hR5.m
  have m719 : zhs Z5 (ad 719) (xi w 20 (upd (sI (mNo B) 719) r (sbR (mWv B)))) := hR5.ma 719 (by decide)
  refine g_iload_n d_Mo_reads_137 rfl 1 rfl ?_
  first | refine g_if_eqB (tgt := 151) d_Mo_reads_138 (by decide) (fun h138 => ?_) (fun h138 => ?_) | refine g_if_eq (tgt := 151) d_Mo_reads_138 (by decide) (fun h138 => ?_) (fun h138 => ?_)
  · rw [if_neg (fun z => h138 z.1)] at hQ
    refine g_iconst (v := 0) d_Mo_reads_151 rfl ?_
    refine g_zret d_Mo_reads_152 ?_ ?_
    · first | rfl | exact zb_nar _ | exact zb_narc (by assumption)
    · exact hQ Z5 hR5 (B5.trans (B4.trans B3))
  · refine g_aload_nq d_Mo_reads_141 rfl 2 rfl ?_
    refine g_get d_Mo_reads_142 f_Mo_47_Mo (by assumption) (by first | rfl | assumption) ?_
    refine g_iload_n d_Mo_reads_145 rfl 3 rfl ?_
    refine g_iald d_Mo_reads_146 (by assumption) (vp_in_nI (n := r) (N := 20) (by omega) (by decide)) ?_
    rw [nI_clamp (by omega), show upd (sI (mNo B) 719) r (sbR (mWv B)) r = sbR (mWv B) from if_pos rfl]
    generalize sbR (mWv B) = xx at hQ ⊢
    refine g_iconst (v := (-1)) d_Mo_reads_147 rfl ?_
    refine g_icmp_ne (tgt := 153) d_Mo_reads_148 (by decide) (fun h148 => ?_) (fun h148 => ?_)
    · rw [if_pos ⟨h138, h148⟩] at hQ
      exact M2_Mo_reads hR5 (hL.no.same' rfl (fun _ _ => rfl)) (hj.no h138).i719 hr (fun Z9 r9 b9 => hQ Z9 r9 (b9.trans (B5.trans (B4.trans B3))))
    · rw [if_neg (fun z => z.2 h148)] at hQ
      refine g_iconst (v := 0) d_Mo_reads_151 rfl ?_
      refine g_zret d_Mo_reads_152 ?_ ?_
      · first | rfl | exact zb_nar _ | exact zb_narc (by assumption)
      · exact hQ Z5 hR5 (B5.trans (B4.trans B3))

set_option maxHeartbeats 4000000 in
set_option maxRecDepth 100000 in
theorem C_Mo_reads {w : zC} {Z : zZ} {Q : zR → zZ → Prop} {ad : Nat → Nat} {S : ST} (hR : Rep w ad S Z) (hL : ciLive S) {r : Nat} (hr : r < 20) (h24 : sN S 24 ≤ 160) (hQ : mkQ w ad Z Q (mRd S r)) : Cz w (4, 106) y_Mo_reads (Cond.code y_Mo_reads c_Mo_reads 5 r_Mo_reads :: wz) [.ref (ad 600), .int (nI r)] Z Q := by
  refine Cz.of (by decide +kernel) (by simp [lg_sl, Value.category]) ?_
  show G _ _ _ _ _ _ _ _ [(0, _), (1, _)] _ _
  have hm : zhs Z (ad 600) (.inr (10, [.int (sI S 600 0), .ref (ad 701), .int (nI (sN S 20)), .int (nI (sN S 21)), .int (nI (sN S 22)), .ref (ad 705), .ref (ad 706), .ref (ad 707), .ref (ad 708), .ref (ad 709), .ref (ad 710), .ref (ad 711), .int (nI (sN S 23)), .ref (ad 713), .ref (ad 714), .ref (ad 715), .ref (ad 716), .int (nI (sN S 24)), .int (nI (sN S 25)), .ref (ad 719), .ref (ad 720), .ref (ad 721), .ref (ad 722), .ref (ad 723), .ref (ad 724), .int (sI S 600 25), .ref (ad 726), .ref (ad 727), .ref (ad 728), .int (sI S 600 29), .int (nI (sN S 26)), .ref (ad 731), .ref (ad 732), .int (nI (sN S 27)), .int (nI (sN S 28)), .int (nI (sN S 29)), .int (nI (sN S 30)), .ref (ad 737), .int (nI (sN S 31)), .int (nI (sN S 32)), .int (sI S 600 40), .ref (ad 741)])) := hR.m
  have m721 : zhs Z (ad 721) (xi w 20 (sI S 721)) := hR.ma 721 (by decide)
  have J : ∀ i j, mL i → mL j → i ≠ j → ad i ≠ ad j := fun i j hi hj hne => hR.inj (lvL hi) (lvL hj) hne
  obtain ⟨Z0, hZ0⟩ : ∃ Z0, Z0 = Z := ⟨_, rfl⟩
  have hB : Z.2.2 = Z0.2.2 := by rw [hZ0]
  refine g_aload_nq d_Mo_reads_0 rfl 0 rfl ?_
  refine g_iload_n d_Mo_reads_1 rfl 1 rfl ?_
  refine g_put d_Mo_reads_2 w_Mo_131_Mo (by assumption) (by first | rfl | exact zb_nar _) (by first | rfl | exact zb_fit _ | exact zrf_fit _) (by first | exact Nat.le_of_ble_eq_true rfl | omega) ?_
  refine gen_putN (P := fun z => G w y_Mo_reads c_Mo_reads 5 r_Mo_reads (4, 106) Q _ _ _ z) hR hL (n := 30) (by decide) c6N_30 (fun Z1 e1 hR hL => ?_)
  have m721 := zhs_put_ne' e1 m721 (J 721 600 (by decide) (by decide) (by decide))
  have hm := zhs_put_same' e1 hm
  simp only [List.set] at hm
  have hB : Z1.2.2 = Z0.2.2 := by rw [← e1]; exact hB
  refine g_aload_nq d_Mo_reads_5 rfl 0 rfl ?_
  refine g_iconst (v := 0) d_Mo_reads_6 rfl ?_
  refine g_put d_Mo_reads_7 w_Mo_122_Mo (by assumption) (by first | rfl | exact zb_nar _) (by first | rfl | exact zb_fit _ | exact zrf_fit _) (by first | exact Nat.le_of_ble_eq_true rfl | omega) ?_
  refine gen_putN (P := fun z => G w y_Mo_reads c_Mo_reads 5 r_Mo_reads (4, 106) Q _ _ _ z) hR hL (n := 28) (by decide) c6N_28 (fun Z1 e1 hR hL => ?_)
  have m721 := zhs_put_ne' e1 m721 (J 721 600 (by decide) (by decide) (by decide))
  have hm := zhs_put_same' e1 hm
  simp only [List.set] at hm
  have hB : Z1.2.2 = Z0.2.2 := by rw [← e1]; exact hB
  refine g_aload_nq d_Mo_reads_10 rfl 0 rfl ?_
  refine g_iconst (v := 0) d_Mo_reads_11 rfl ?_
  refine g_put d_Mo_reads_12 w_Mo_128_Mo (by assumption) (by first | rfl | exact zb_nar _) (by first | rfl | exact zb_fit _ | exact zrf_fit _) (by first | exact Nat.le_of_ble_eq_true rfl | omega) ?_
  refine gen_putN (P := fun z => G w y_Mo_reads c_Mo_reads 5 r_Mo_reads (4, 106) Q _ _ _ z) hR hL (n := 29) (by decide) c6N_29 (fun Z1 e1 hR hL => ?_)
  have m721 := zhs_put_ne' e1 m721 (J 721 600 (by decide) (by decide) (by decide))
  have hm := zhs_put_same' e1 hm
  simp only [List.set] at hm
  have hB : Z1.2.2 = Z0.2.2 := by rw [← e1]; exact hB
  refine g_aload_nq d_Mo_reads_15 rfl 0 rfl ?_
  refine g_iconst (v := 0) d_Mo_reads_16 rfl ?_
  refine g_put d_Mo_reads_17 w_Mo_134_Mo (by assumption) (by first | rfl | exact zb_nar _) (by first | rfl | exact zb_fit _ | exact zrf_fit _) (by first | exact Nat.le_of_ble_eq_true rfl | omega) ?_
  refine gen_putN (P := fun z => G w y_Mo_reads c_Mo_reads 5 r_Mo_reads (4, 106) Q _ _ _ z) hR hL (n := 31) (by decide) c6N_31 (fun Z1 e1 hR hL => ?_)
  have m721 := zhs_put_ne' e1 m721 (J 721 600 (by decide) (by decide) (by decide))
  have hm := zhs_put_same' e1 hm
  simp only [List.set] at hm
  have hB : Z1.2.2 = Z0.2.2 := by rw [← e1]; exact hB
  refine g_aload_nq d_Mo_reads_20 rfl 0 rfl ?_
  refine g_iconst (v := 0) d_Mo_reads_21 rfl ?_
  refine g_put d_Mo_reads_22 w_Mo_196_Mo (by assumption) (by first | rfl | exact zb_nar _) (by first | rfl | exact zb_fit _ | exact zrf_fit _) (by first | exact Nat.le_of_ble_eq_true rfl | omega) ?_
  refine gen_putN (P := fun z => G w y_Mo_reads c_Mo_reads 5 r_Mo_reads (4, 106) Q _ _ _ z) hR hL (n := 32) (by decide) c6N_32 (fun Z1 e1 hR hL => ?_)
  have m721 := zhs_put_ne' e1 m721 (J 721 600 (by decide) (by decide) (by decide))
  have hm := zhs_put_same' e1 hm
  simp only [List.set] at hm
  have hB : Z1.2.2 = Z0.2.2 := by rw [← e1]; exact hB
  refine g_aload_nq d_Mo_reads_25 rfl 0 rfl ?_
  refine g_iconst (v := 0) d_Mo_reads_26 rfl ?_
  refine g_put d_Mo_reads_27 w_Mo_184_Mo (by assumption) (by first | rfl | exact zb_nar _) (by first | rfl | exact zb_fit _ | exact zrf_fit _) (by first | exact Nat.le_of_ble_eq_true rfl | omega) ?_
  refine gen_putI (P := fun z => G w y_Mo_reads c_Mo_reads 5 r_Mo_reads (4, 106) Q _ _ _ z) hR (i := 600) lv6 c6_40 (fun Z1 e1 hR => ?_)
  have m721 := zhs_put_ne' e1 m721 (J 721 600 (by decide) (by decide) (by decide))
  have hm := zhs_put_same' e1 hm
  simp only [List.set] at hm
  have hB : Z1.2.2 = Z0.2.2 := by rw [← e1]; exact hB
  refine g_aload_nq d_Mo_reads_30 rfl 0 rfl ?_
  refine g_get d_Mo_reads_31 f_Mo_53_Mo (by assumption) (by first | rfl | assumption) ?_
  refine g_iload_n d_Mo_reads_34 rfl 1 rfl ?_
  refine g_iconst (v := 0) d_Mo_reads_35 rfl ?_
  refine g_iast d_Mo_reads_36 (by assumption) (vp_in_nI (n := r) (N := 20) (by omega) (by decide)) ?_
  rw [nI_clamp (by omega)]
  refine gen_putI (P := fun z => G w y_Mo_reads c_Mo_reads 5 r_Mo_reads (4, 106) Q _ _ _ z) hR (i := 721) (lvM (by decide)) cM_721 (fun Z1 e1 hR => ?_)
  have hm := zhs_put_ne' e1 hm (J 600 721 (by decide) (by decide) (by decide))
  have m721 := zhs_put_same' e1 m721
  have hB : Z1.2.2 = Z0.2.2 := by rw [← e1]; exact hB
  exact M1_Mo_reads (B := mS0 S r) hR (hL.same' rfl (fun m hm => rfl)) (mS0_jI h24) hr (fun Z9 r9 b9 => hQ Z9 r9 (b9.trans (by rw [hB, hZ0])))

theorem kpT.i {S : ST} {f : Nat → Int32} {i : Nat} (h : i = 719 ∨ i = 720) : True := trivial
def kpU (S T : ST) : Prop := T.2.2.1 = S.2.2.1 ∧ T.2.1 = S.2.1 ∧ (∀ m, (m < 27 ∨ 32 < m) → sN T m = sN S m) ∧ ∀ i, i ≠ 600 → i ≠ 719 → i ≠ 720 → i ≠ 721 → i ≠ 722 → i ≠ 723 → i ≠ 737 → sI T i = sI S i
theorem kpU.tr {S T U : ST} (h : kpU S T) (h' : kpU T U) : kpU S U := ⟨h'.1.trans h.1, h'.2.1.trans h.2.1, fun m hm => (h'.2.2.1 m hm).trans (h.2.2.1 m hm), fun i a b c d e f g => (h'.2.2.2 i a b c d e f g).trans (h.2.2.2 i a b c d e f g)⟩
theorem kpT.u {S T : ST} (h : kpT S T) : kpU S T := ⟨h.1, h.2.1, h.2.2.1, fun i a _ _ b c d e => h.2.2.2 i a b c d e⟩
theorem kpU.no {S : ST} : kpU S (mNo S) := by
  unfold mNo
  split
  · exact kpT.nx.u
  · exact (kpT.nx.tr (kpT.n (by decide))).u
theorem mGo_kp {r : Nat} : ∀ {n : Nat} {S : ST}, kpT S (mGo r n S).1
  | 0, S => kpT.rf
  | n + 1, S => by
    unfold mGo
    split
    · split
      · exact (kpT.nx.tr kpT.tk).tr mGo_kp
      · exact kpT.nx.tr kpT.tk
    · unfold mEnd
      split
      · exact kpT.nx.tr (kpT.n (by decide))
      · exact kpT.nx.tr kpT.rel
theorem mS1_kp {S : ST} {r : Nat} : kpU S (mS1 S r) := kpU.no.tr ⟨rfl, rfl, fun _ _ => rfl, fun i _ b _ _ _ _ _ => va_up_ne _ _ b⟩
theorem mS2_kp {S : ST} {r : Nat} : kpU S (mS2 S r) := kpU.no.tr ⟨rfl, rfl, fun _ _ => rfl, fun i _ _ b _ _ _ _ => va_up_ne _ _ b⟩
theorem mS0_kp {S : ST} {r : Nat} : kpU S (mS0 S r) := ⟨rfl, rfl, fun m hm => by
  show sN (wN (wN (wN (wN (wN S 30 r) 28 0) 29 0) 31 0) 32 0) m = _
  rw [wN_ne (by omega), wN_ne (by omega), wN_ne (by omega), wN_ne (by omega), wN_ne (by omega)], fun i a _ _ b _ _ _ => by
  show va_up (va_up S.1 600 _) 721 _ i = _
  rw [va_up_ne _ _ b, va_up_ne _ _ a]⟩
theorem mRd_kp {S : ST} {r : Nat} : kpU S (mRd S r).1 := by
  unfold mRd mRd1 mRd2
  repeat' split
  · exact mS0_kp.tr (mS1_kp.tr (mS2_kp.tr mGo_kp.u))
  · exact mS0_kp.tr (mS1_kp.tr mS2_kp)
  · exact mS0_kp.tr mS1_kp
/-- the text is wiped, the rule counted -/
def mRu (T : ST) : ST := wN (wI (wN T 24 0) 724 (upd (sI T 724) (7 + sN T 25) 0)) 25 (sN T 25 + 1)

set_option maxHeartbeats 4000000 in
set_option maxRecDepth 100000 in
theorem C_Mo_rule {w : zC} {Z : zZ} {Q : zR → zZ → Prop} {ad : Nat → Nat} {S : ST} (hR : Rep w ad S Z) (hL : ciLive S) (h25 : sN S 25 ≤ 20) (h24 : sN S 24 ≤ 160) (hI : sN S 25 = 20 → ∀ Z', Rep w ad (thS S 1) Z' → Z'.2.2 = Z.2.2 → Q (.inl (some (.int (0)))) Z') (hN : sN S 25 < 20 → if (mRd (thS S 0) (sN S 25)).2 = true then (∀ Z', Rep w ad (mRu (mRd (thS S 0) (sN S 25)).1) Z' → Z'.2.2 = Z.2.2 → Q (.inl (some (.int (nI (7 + sN S 25))))) Z') else ∀ Z', Rep w ad (wN (mRd (thS S 0) (sN S 25)).1 24 0) Z' → Z'.2.2 = Z.2.2 → Q (.inl (some (.int (0 - nI (sN (mRd (thS S 0) (sN S 25)).1 29))))) Z') : Cz w (5, 134) y_Mo_rule (Cond.code y_Mo_rule c_Mo_rule 2 r_Mo_rule :: wz) [.ref (ad 600)] Z Q := by
  refine Cz.of (by decide +kernel) (by simp [lg_sl, Value.category]) ?_
  show G _ _ _ _ _ _ _ _ [(0, _)] _ _
  have hm : zhs Z (ad 600) (.inr (10, [.int (sI S 600 0), .ref (ad 701), .int (nI (sN S 20)), .int (nI (sN S 21)), .int (nI (sN S 22)), .ref (ad 705), .ref (ad 706), .ref (ad 707), .ref (ad 708), .ref (ad 709), .ref (ad 710), .ref (ad 711), .int (nI (sN S 23)), .ref (ad 713), .ref (ad 714), .ref (ad 715), .ref (ad 716), .int (nI (sN S 24)), .int (nI (sN S 25)), .ref (ad 719), .ref (ad 720), .ref (ad 721), .ref (ad 722), .ref (ad 723), .ref (ad 724), .int (sI S 600 25), .ref (ad 726), .ref (ad 727), .ref (ad 728), .int (sI S 600 29), .int (nI (sN S 26)), .ref (ad 731), .ref (ad 732), .int (nI (sN S 27)), .int (nI (sN S 28)), .int (nI (sN S 29)), .int (nI (sN S 30)), .ref (ad 737), .int (nI (sN S 31)), .int (nI (sN S 32)), .int (sI S 600 40), .ref (ad 741)])) := hR.m
  have J : ∀ i j, mL i → mL j → i ≠ j → ad i ≠ ad j := fun i j hi hj hne => hR.inj (lvL hi) (lvL hj) hne
  obtain ⟨Z0, hZ0⟩ : ∃ Z0, Z0 = Z := ⟨_, rfl⟩
  have hB : Z.2.2 = Z0.2.2 := by rw [hZ0]
  refine g_aload_nq d_Mo_rule_0 rfl 0 rfl ?_
  refine g_aload_nq d_Mo_rule_1 rfl 0 rfl ?_
  refine g_get d_Mo_rule_2 f_Mo_210_Mo (by assumption) (by first | rfl | assumption) ?_
  refine g_bipush (v := 20) d_Mo_rule_5 rfl ?_
  refine g_icmp_ne (tgt := 14) d_Mo_rule_7 (by decide) (fun h7 => ?_) (fun h7 => ?_)
  · have hlt : sN S 25 < 20 := Nat.lt_of_le_of_ne h25 (fun z => h7 (by rw [z]; rfl))
    have hN := hN hlt
    refine g_iconst (v := 0) d_Mo_rule_14 rfl ?_
    refine g_put d_Mo_rule_15 w_Mo_91_Mo (by assumption) (by first | rfl | exact zb_nar _) (by first | rfl | exact zb_fit _ | exact zrf_fit _) (by first | exact Nat.le_of_ble_eq_true rfl | omega) ?_
    refine gen_putI (P := fun z => G w y_Mo_rule c_Mo_rule 2 r_Mo_rule (5, 134) Q _ _ _ z) hR (i := 600) lv6 c6_0 (fun Z1 e1 hR => ?_)
    have hm := zhs_put_same' e1 hm
    simp only [List.set] at hm
    have hB : Z1.2.2 = Z0.2.2 := by rw [← e1]; exact hB
    refine g_aload_nq d_Mo_rule_18 rfl 0 rfl ?_
    refine g_get d_Mo_rule_19 f_Mo_91_Mo (by assumption) (by first | rfl | assumption) ?_
    first | refine g_if_eqB (tgt := 27) d_Mo_rule_22 (by decide) (fun h22 => ?_) (fun h22 => ?_) | refine g_if_eq (tgt := 27) d_Mo_rule_22 (by decide) (fun h22 => ?_) (fun h22 => ?_)
    · refine g_aload_nq d_Mo_rule_27 rfl 0 rfl ?_
      refine g_aload_nq d_Mo_rule_28 rfl 0 rfl ?_
      refine g_get d_Mo_rule_29 f_Mo_210_Mo (by assumption) (by first | rfl | assumption) ?_
      refine g_callV d_Mo_rule_32 k_Mo_reads l_Mo_213 i_Mo_reads rfl p_Mo_reads hm (by rfl) (by rfl) (Nat.le_of_ble_eq_true rfl) (by decide) (C_Mo_reads (S := thS S 0) hR (hL.same' rfl (fun _ _ => rfl)) hlt h24 (fun Z3 hR3 B3 => ⟨_, rfl, ?_⟩))
      have hR3 : Rep w ad (mRd (thS S 0) (sN S 25)).1 Z3 := hR3
      have hk3 := mRd_kp (S := thS S 0) (r := sN S 25)
      have hL3 : ciLive (mRd (thS S 0) (sN S 25)).1 := hL.same' hk3.1 (fun m hm => hk3.2.2.1 m (by omega))
      have hB3 : Z3.2.2 = Z0.2.2 := B3.trans hB
      have e25 : sN (mRd (thS S 0) (sN S 25)).1 25 = sN S 25 := hk3.2.2.1 25 (by omega)
      generalize mRd (thS S 0) (sN S 25) = T at *
      have hm : zhs Z3 (ad 600) (.inr (10, [.int (sI T.1 600 0), .ref (ad 701), .int (nI (sN T.1 20)), .int (nI (sN T.1 21)), .int (nI (sN T.1 22)), .ref (ad 705), .ref (ad 706), .ref (ad 707), .ref (ad 708), .ref (ad 709), .ref (ad 710), .ref (ad 711), .int (nI (sN T.1 23)), .ref (ad 713), .ref (ad 714), .ref (ad 715), .ref (ad 716), .int (nI (sN T.1 24)), .int (nI (sN T.1 25)), .ref (ad 719), .ref (ad 720), .ref (ad 721), .ref (ad 722), .ref (ad 723), .ref (ad 724), .int (sI T.1 600 25), .ref (ad 726), .ref (ad 727), .ref (ad 728), .int (sI T.1 600 29), .int (nI (sN T.1 26)), .ref (ad 731), .ref (ad 732), .int (nI (sN T.1 27)), .int (nI (sN T.1 28)), .int (nI (sN T.1 29)), .int (nI (sN T.1 30)), .ref (ad 737), .int (nI (sN T.1 31)), .int (nI (sN T.1 32)), .int (sI T.1 600 40), .ref (ad 741)])) := hR3.m
      refine g_istore_n d_Mo_rule_35 rfl (by decide) rfl ?_
      show G _ _ _ _ _ _ _ _ [(1, _), (0, _)] _ _
      refine g_aload_nq d_Mo_rule_36 rfl 1 rfl ?_
      refine g_iconst (v := 0) d_Mo_rule_37 rfl ?_
      refine g_put d_Mo_rule_38 w_Mo_119_Mo (by assumption) (by rfl) (by rfl) (by first | exact Nat.le_of_ble_eq_true rfl | omega) ?_
      refine gen_putN (P := fun z => G w y_Mo_rule c_Mo_rule 2 r_Mo_rule (5, 134) Q _ _ _ z) hR3 hL3 (n := 24) (by decide) c6N_24 (fun Z4 e4 hR4 hL4 => ?_)
      have hm := zhs_put_same' e4 hm
      simp only [List.set] at hm
      rw [e25] at hm
      have hB4 : Z4.2.2 = Z0.2.2 := by rw [← e4]; exact hB3
      have m724 : zhs Z4 (ad 724) (xz w 27 (sI T.1 724)) := hR4.ma 724 (by decide)
      refine g_iload_n d_Mo_rule_41 rfl 0 rfl ?_
      first | refine g_if_neB (tgt := 52) d_Mo_rule_42 (by decide) (fun h42 => ?_) (fun h42 => ?_) | refine g_if_ne (tgt := 52) d_Mo_rule_42 (by decide) (fun h42 => ?_) (fun h42 => ?_)
      · rw [if_pos h42] at hN
        refine g_aload_nq d_Mo_rule_52 rfl 1 rfl ?_
        refine g_get d_Mo_rule_53 f_Mo_62_Mo (by assumption) (by first | rfl | assumption) ?_
        refine g_bipush (v := 7) d_Mo_rule_56 rfl ?_
        refine g_aload_nq d_Mo_rule_58 rfl 1 rfl ?_
        refine g_get d_Mo_rule_59 f_Mo_210_Mo (by assumption) (by first | rfl | assumption) ?_
        refine g_iadd d_Mo_rule_62 ?_
        rw [show (7 : Int32) = nI 7 from rfl, nI_add]
        refine g_iconst (v := 0) d_Mo_rule_63 rfl ?_
        refine g_zast d_Mo_rule_64 (by assumption) (vp_in_nI (n := 7 + sN S 25) (N := 27) (by omega) (by decide)) ?_
        rw [nI_clamp (by omega)]
        refine gen_putI (P := fun z => G w y_Mo_rule c_Mo_rule 2 r_Mo_rule (5, 134) Q _ _ _ z) hR4 (i := 724) (lvM (by decide)) cM_724 (fun Z5 e5 hR5 => ?_)
        have hm := zhs_put_ne' e5 hm (J 600 724 (by decide) (by decide) (by decide))
        refine g_aload_nq d_Mo_rule_65 rfl 1 rfl ?_
        refine g_dup d_Mo_rule_66 rfl ?_
        refine g_get d_Mo_rule_67 f_Mo_210_Mo (by assumption) (by first | rfl | assumption) ?_
        refine g_iconst (v := 1) d_Mo_rule_70 rfl ?_
        refine g_iadd d_Mo_rule_71 ?_
        rw [nI_1]
        refine g_put d_Mo_rule_72 w_Mo_210_Mo (by assumption) (by rfl) (by rfl) (by first | exact Nat.le_of_ble_eq_true rfl | omega) ?_
        refine gen_putN (P := fun z => G w y_Mo_rule c_Mo_rule 2 r_Mo_rule (5, 134) Q _ _ _ z) hR5 hL4 (n := 25) (by decide) c6N_25 (fun Z6 e6 hR6 hL6 => ?_)
        have hm := zhs_put_same' e6 hm
        simp only [List.set] at hm
        refine g_bipush (v := 7) d_Mo_rule_75 rfl ?_
        refine g_aload_nq d_Mo_rule_77 rfl 1 rfl ?_
        refine g_get d_Mo_rule_78 f_Mo_210_Mo (by assumption) (by first | rfl | assumption) ?_
        refine g_iadd d_Mo_rule_81 ?_
        rw [show (7 : Int32) = nI 7 from rfl, nI_add]
        refine g_iconst (v := 1) d_Mo_rule_82 rfl ?_
        refine g_isub d_Mo_rule_83 ?_
        rw [show 7 + (sN S 25 + 1) = (7 + sN S 25) + 1 from rfl, nI_pred]
        refine g_iret d_Mo_rule_84 ?_
        exact hN _ (by unfold mRu; rw [e25]; exact hR6) (by rw [← e6, ← e5]; show Z4.2.2 = _; rw [hB4, hZ0])
      · rw [if_neg h42] at hN
        refine g_iconst (v := 0) d_Mo_rule_45 rfl ?_
        refine g_aload_nq d_Mo_rule_46 rfl 1 rfl ?_
        refine g_get d_Mo_rule_47 f_Mo_128_Mo (by assumption) (by first | rfl | assumption) ?_
        refine g_isub d_Mo_rule_50 ?_
        refine g_iret d_Mo_rule_51 ?_
        exact hN _ hR4 (by rw [hB4, hZ0])
    · exact absurd rfl h22
  · have h20 : sN S 25 = 20 := (nI_eq (b := 20) (by omega) (by decide)).mp h7
    refine g_iconst (v := 1) d_Mo_rule_10 rfl ?_
    refine g_goto (tgt := 15) d_Mo_rule_11 (by decide) ?_
    refine g_put d_Mo_rule_15 w_Mo_91_Mo (by assumption) (by first | rfl | exact zb_nar _) (by first | rfl | exact zb_fit _ | exact zrf_fit _) (by first | exact Nat.le_of_ble_eq_true rfl | omega) ?_
    refine gen_putI (P := fun z => G w y_Mo_rule c_Mo_rule 2 r_Mo_rule (5, 134) Q _ _ _ z) hR (i := 600) lv6 c6_0 (fun Z1 e1 hR => ?_)
    have hm := zhs_put_same' e1 hm
    simp only [List.set] at hm
    have hB : Z1.2.2 = Z0.2.2 := by rw [← e1]; exact hB
    refine g_aload_nq d_Mo_rule_18 rfl 0 rfl ?_
    refine g_get d_Mo_rule_19 f_Mo_91_Mo (by assumption) (by first | rfl | assumption) ?_
    first | refine g_if_eqB (tgt := 27) d_Mo_rule_22 (by decide) (fun h22 => ?_) (fun h22 => ?_) | refine g_if_eq (tgt := 27) d_Mo_rule_22 (by decide) (fun h22 => ?_) (fun h22 => ?_)
    · exact absurd h22 (by decide)
    · refine g_iconst (v := 0) d_Mo_rule_25 rfl ?_
      refine g_iret d_Mo_rule_26 ?_
      exact hI (by omega) _ hR (by rw [hB, hZ0])
