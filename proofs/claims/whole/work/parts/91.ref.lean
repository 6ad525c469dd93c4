/-! The reference: the waiting signs -/
def mQ (S : ST) : Prop := sN S 30 < 20 ∧ pcn S + sN S 31 ≤ 89 ∧ sI S 721 (sN S 30) = nI (pcn S)
def mW (S : ST) : Prop := sN S 24 ≤ 160 ∧ sN S 27 ≤ sN S 28 ∧ sN S 28 ≤ sN S 24
def mkQ (w : zC) (ad : Nat → Nat) (Z : zZ) (Q : zR → zZ → Prop) (p : ST × Bool) : Prop := ∀ Z', Rep w ad p.1 Z' → Z'.2.2 = Z.2.2 → Q (.inl (some (.int (zb (p.2 = true))))) Z'
theorem mput_pcn {S : ST} {x y : Int32} (h : pcn S ≤ 90) : pcn (mput S x y) = pcn S + 1 := by
  show (upd (sI S 721) (sN S 30) (nI (pcn S + 1)) (sN S 30)).toNatClampNeg = _
  rw [show upd (sI S 721) (sN S 30) (nI (pcn S + 1)) (sN S 30) = nI (pcn S + 1) from if_pos rfl, nI_clamp (by omega)]
theorem mput_721 {S : ST} {x y : Int32} (h : pcn S ≤ 90) : sI (mput S x y) 721 (sN (mput S x y) 30) = nI (pcn (mput S x y)) := by
  rw [mput_pcn h]
  exact if_pos rfl
def sgR (v : Int64) : Int32 := if v = 42 then 10 else if v = 43 then 11 else if v = 45 then 12 else if v = 61 then 13 else if v = 35 then 14 else if v = 60 then 15 else if v = 62 then 16 else if v = wdR 60 61 0 0 0 then 18 else if v = wdR 62 61 0 0 0 then 17 else if v = wdR 97 110 100 0 0 then 20 else if v = wdR 111 114 0 0 0 then 21 else -1
theorem mnx_I {S : ST} : (mnx S).1 = S.1 ∧ (mnx S).2.1 = S.2.1 ∧ (mnx S).2.2.1 = S.2.2.1 := by
  unfold mnx
  split <;> exact ⟨rfl, rfl, rfl⟩
theorem mnx_N {S : ST} {m : Nat} (h : m ≠ 27 ∧ m ≠ 28 ∧ m ≠ 29) : sN (mnx S) m = sN S m := by
  unfold mnx
  split
  · rw [wN_ne h.2.2, wN_ne h.2.1, wN_ne h.1]
  · rw [wN_ne h.2.1, wN_ne h.1]
theorem mnx_27 {S : ST} : sN (mnx S) 27 = mP S := by
  unfold mnx
  split
  · rw [wN_ne (by decide), wN_ne (by decide), wN_self]
  · rw [wN_ne (by decide), wN_self]
theorem mnx_28 {S : ST} : sN (mnx S) 28 = mE S := by
  unfold mnx
  split
  · rw [wN_ne (by decide), wN_self]
  · rw [wN_self]
theorem mE_le {S : ST} (h : sN S 28 ≤ sN S 24) : mP S ≤ mE S ∧ mE S ≤ sN S 24 := by
  have h1 := skS_le (f := sI S 716) (n := sN S 24 - sN S 28) (i := sN S 28)
  have h2 := skW_le (f := sI S 716) (n := sN S 24 - mP S) (i := mP S)
  unfold mE
  unfold mP at *
  omega
theorem mnx_W {S : ST} (h0 : sN S 24 ≤ 160) (h : sN S 28 ≤ sN S 24) : mW (mnx S) := by
  unfold mW
  rw [mnx_27, mnx_28, mnx_N (by decide)]
  exact ⟨h0, mE_le h⟩
theorem pcn_cg {S S' : ST} (h1 : S'.1 = S.1) (h2 : sN S' 30 = sN S 30) : pcn S' = pcn S := by
  unfold pcn
  rw [h2]
  show (S'.1 721 _).toNatClampNeg = _
  rw [h1]
theorem mQ.cg {S S' : ST} (h : mQ S) (h1 : S'.1 = S.1) (h2 : sN S' 30 = sN S 30) (h3 : sN S' 31 = sN S 31) : mQ S' := by
  unfold mQ
  rw [pcn_cg h1 h2, h2, h3]
  show _ ∧ _ ∧ S'.1 721 _ = _
  rw [h1]
  exact h
theorem ciLive.same' {S S' : ST} (h : ciLive S) (hR : S'.2.2.1 = S.2.2.1) (hN : ∀ m, (m < 4 ∨ 1000 ≤ m) → sN S' m = sN S m) : ciLive S' := by
  refine ⟨fun k hk => ?_, fun k hk => ?_⟩
  · rw [hN 0 (by omega), hN 1 (by omega), hN 2 (by omega)] at hk
    obtain ⟨c, q, h1, h2⟩ := h.1 k hk
    refine ⟨c, q, ?_, by rw [hN _ (by omega)]; exact h2⟩
    unfold tok at h1 ⊢
    rw [hN 0 (by omega), hN 1 (by omega), hN 2 (by omega)]
    exact h1
  · rw [hN 2 (by omega)] at hk
    obtain ⟨h1, h2⟩ := h.2 k hk
    refine ⟨by rw [hN _ (by omega), hN 0 (by omega)]; exact h1, fun n hn => ?_⟩
    rw [hN 1 (by omega)]
    exact h2 n (by rw [show sR S' = sR S from hR] at hn; exact hn)
theorem ciLive.nx {S : ST} (h : ciLive S) : ciLive (mnx S) := h.same' mnx_I.2.2 (fun m hm => mnx_N (by omega))
def mDn (S : ST) : ST × Bool := if mP S < mE S then (if nI (mE S - mP S) = 1 ∧ nuR (mnx S) (mE S) then (mput (mnx S) 6 (vaR (mnx S)), true) else (mnx S, false)) else (wN (mnx S) 29 (sN (mnx S) 29 + 1), false)
set_option maxHeartbeats 4000000 in
set_option maxRecDepth 100000 in
theorem C_Mo_put {w : zC} {Z : zZ} {Q : zR → zZ → Prop} {ad : Nat → Nat} {S : ST} (hR : Rep w ad S Z) {x y : Int32} (h30 : sN S 30 < 20) (hp : pcn S < 90) (hc : sI S 721 (sN S 30) = nI (pcn S)) (hQ : ∀ Z', Rep w ad (mput S x y) Z' → Z'.2.2 = Z.2.2 → Q (.inl none) Z') : Cz w (0, 0) y_Mo_put (Cond.code y_Mo_put c_Mo_put 4 r_Mo_put :: wz) [.ref (ad 600), .int x, .int y] Z Q := by
  refine Cz.of (by decide +kernel) (by simp [lg_sl, Value.category]) ?_
  show G _ _ _ _ _ _ _ _ [(0, _), (1, _), (2, _)] _ _
  have hm : zhs Z (ad 600) (.inr (10, [.int (sI S 600 0), .ref (ad 701), .int (nI (sN S 20)), .int (nI (sN S 21)), .int (nI (sN S 22)), .ref (ad 705), .ref (ad 706), .ref (ad 707), .ref (ad 708), .ref (ad 709), .ref (ad 710), .ref (ad 711), .int (nI (sN S 23)), .ref (ad 713), .ref (ad 714), .ref (ad 715), .ref (ad 716), .int (nI (sN S 24)), .int (nI (sN S 25)), .ref (ad 719), .ref (ad 720), .ref (ad 721), .ref (ad 722), .ref (ad 723), .ref (ad 724), .int (sI S 600 25), .ref (ad 726), .ref (ad 727), .ref (ad 728), .int (sI S 600 29), .int (nI (sN S 26)), .ref (ad 731), .ref (ad 732), .int (nI (sN S 27)), .int (nI (sN S 28)), .int (nI (sN S 29)), .int (nI (sN S 30)), .ref (ad 737), .int (nI (sN S 31)), .int (nI (sN S 32)), .int (sI S 600 40), .ref (ad 741)])) := hR.m
  have m721 : zhs Z (ad 721) (xi w 20 (sI S 721)) := hR.ma 721 (by decide)
  have m722 : zhs Z (ad 722) (xi w 1800 (sI S 722)) := hR.ma 722 (by decide)
  have m723 : zhs Z (ad 723) (xi w 1800 (sI S 723)) := hR.ma 723 (by decide)
  have J : ∀ i j, mL i → mL j → i ≠ j → ad i ≠ ad j := fun i j hi hj hne => hR.inj (lvL hi) (lvL hj) hne
  obtain ⟨Z0, hZ0⟩ : ∃ Z0, Z0 = Z := ⟨_, rfl⟩
  have hB : Z.2.2 = Z0.2.2 := by rw [hZ0]
  refine g_bipush (v := 90) d_Mo_put_0 rfl ?_
  refine g_aload_nq d_Mo_put_2 rfl 0 rfl ?_
  refine g_get d_Mo_put_3 f_Mo_131_Mo (by assumption) (by first | rfl | assumption) ?_
  refine g_imul d_Mo_put_6 ?_
  rw [show (90 : Int32) = nI 90 from rfl, pk_mul]
  refine g_aload_nq d_Mo_put_7 rfl 0 rfl ?_
  refine g_get d_Mo_put_8 f_Mo_53_Mo (by assumption) (by first | rfl | assumption) ?_
  refine g_aload_nq d_Mo_put_11 rfl 0 rfl ?_
  refine g_get d_Mo_put_12 f_Mo_131_Mo (by assumption) (by first | rfl | assumption) ?_
  refine g_iald d_Mo_put_15 (by assumption) (vp_in_nI (n := sN S 30) (by omega) (by decide)) ?_
  rw [nI_clamp (by omega), hc]
  refine g_iadd d_Mo_put_16 ?_
  rw [nI_add]
  refine g_istore_n d_Mo_put_17 rfl (by decide) rfl ?_
  show G _ _ _ _ _ _ _ _ [(3, _), (0, _), (1, _), (2, _)] _ _
  refine g_aload_nq d_Mo_put_18 rfl 1 rfl ?_
  refine g_get d_Mo_put_19 f_Mo_56_Mo (by assumption) (by first | rfl | assumption) ?_
  refine g_iload_n d_Mo_put_22 rfl 0 rfl ?_
  refine g_iload_n d_Mo_put_23 rfl 2 rfl ?_
  refine g_iast d_Mo_put_24 (by assumption) (vp_in_nI (n := 90 * sN S 30 + pcn S) (by omega) (by decide)) ?_
  rw [nI_clamp (by omega)]
  refine gen_putI (P := fun z => G w y_Mo_put c_Mo_put 4 r_Mo_put (0, 0) Q _ _ _ z) hR (i := 722) (lvM (by decide)) cM_722 (fun Z1 e1 hR => ?_)
  have m721 := zhs_put_ne' e1 m721 (J 721 722 (by decide) (by decide) (by decide))
  have m723 := zhs_put_ne' e1 m723 (J 723 722 (by decide) (by decide) (by decide))
  have hm := zhs_put_ne' e1 hm (J 600 722 (by decide) (by decide) (by decide))
  have m722 := zhs_put_same' e1 m722
  have hB : Z1.2.2 = Z0.2.2 := by rw [← e1]; exact hB
  refine g_aload_nq d_Mo_put_25 rfl 1 rfl ?_
  refine g_get d_Mo_put_26 f_Mo_59_Mo (by assumption) (by first | rfl | assumption) ?_
  refine g_iload_n d_Mo_put_29 rfl 0 rfl ?_
  refine g_iload_n d_Mo_put_30 rfl 3 rfl ?_
  refine g_iast d_Mo_put_31 (by assumption) (vp_in_nI (n := 90 * sN S 30 + pcn S) (by omega) (by decide)) ?_
  rw [nI_clamp (by omega)]
  refine gen_putI (P := fun z => G w y_Mo_put c_Mo_put 4 r_Mo_put (0, 0) Q _ _ _ z) hR (i := 723) (lvM (by decide)) cM_723 (fun Z1 e1 hR => ?_)
  have m721 := zhs_put_ne' e1 m721 (J 721 723 (by decide) (by decide) (by decide))
  have m722 := zhs_put_ne' e1 m722 (J 722 723 (by decide) (by decide) (by decide))
  have hm := zhs_put_ne' e1 hm (J 600 723 (by decide) (by decide) (by decide))
  have m723 := zhs_put_same' e1 m723
  have hB : Z1.2.2 = Z0.2.2 := by rw [← e1]; exact hB
  refine g_aload_nq d_Mo_put_32 rfl 1 rfl ?_
  refine g_get d_Mo_put_33 f_Mo_53_Mo (by assumption) (by first | rfl | assumption) ?_
  refine g_aload_nq d_Mo_put_36 rfl 1 rfl ?_
  refine g_get d_Mo_put_37 f_Mo_131_Mo (by assumption) (by first | rfl | assumption) ?_
  refine g_dup2_11 d_Mo_put_40 rfl rfl ?_
  refine g_iald d_Mo_put_41 (by assumption) (vp_in_nI (n := sN S 30) (by omega) (by decide)) ?_
  rw [nI_clamp (by omega), hc]
  refine g_iconst (v := 1) d_Mo_put_42 rfl ?_
  refine g_iadd d_Mo_put_43 ?_
  rw [nI_1]
  refine g_iast d_Mo_put_44 (by assumption) (vp_in_nI (n := sN S 30) (by omega) (by decide)) ?_
  rw [nI_clamp (by omega)]
  refine gen_putI (P := fun z => G w y_Mo_put c_Mo_put 4 r_Mo_put (0, 0) Q _ _ _ z) hR (i := 721) (lvM (by decide)) cM_721 (fun Z1 e1 hR => ?_)
  have m722 := zhs_put_ne' e1 m722 (J 722 721 (by decide) (by decide) (by decide))
  have m723 := zhs_put_ne' e1 m723 (J 723 721 (by decide) (by decide) (by decide))
  have hm := zhs_put_ne' e1 hm (J 600 721 (by decide) (by decide) (by decide))
  have m721 := zhs_put_same' e1 m721
  have hB : Z1.2.2 = Z0.2.2 := by rw [← e1]; exact hB
  refine g_vret d_Mo_put_45 ?_
  exact hQ _ hR (by rw [hB, hZ0])

set_option maxHeartbeats 4000000 in
set_option maxRecDepth 100000 in
theorem C_Mo_wait {w : zC} {Z : zZ} {Q : zR → zZ → Prop} {ad : Nat → Nat} {S : ST} (hR : Rep w ad S Z) (hL : ciLive S) {x : Int32} (h31 : sN S 31 < 100) (hQ : ∀ Z', Rep w ad (mwai S x) Z' → Z'.2.2 = Z.2.2 → Q (.inl none) Z') : Cz w (0, 0) y_Mo_wait (Cond.code y_Mo_wait c_Mo_wait 2 r_Mo_wait :: wz) [.ref (ad 600), .int x] Z Q := by
  refine Cz.of (by decide +kernel) (by simp [lg_sl, Value.category]) ?_
  show G _ _ _ _ _ _ _ _ [(0, _), (1, _)] _ _
  have hm : zhs Z (ad 600) (.inr (10, [.int (sI S 600 0), .ref (ad 701), .int (nI (sN S 20)), .int (nI (sN S 21)), .int (nI (sN S 22)), .ref (ad 705), .ref (ad 706), .ref (ad 707), .ref (ad 708), .ref (ad 709), .ref (ad 710), .ref (ad 711), .int (nI (sN S 23)), .ref (ad 713), .ref (ad 714), .ref (ad 715), .ref (ad 716), .int (nI (sN S 24)), .int (nI (sN S 25)), .ref (ad 719), .ref (ad 720), .ref (ad 721), .ref (ad 722), .ref (ad 723), .ref (ad 724), .int (sI S 600 25), .ref (ad 726), .ref (ad 727), .ref (ad 728), .int (sI S 600 29), .int (nI (sN S 26)), .ref (ad 731), .ref (ad 732), .int (nI (sN S 27)), .int (nI (sN S 28)), .int (nI (sN S 29)), .int (nI (sN S 30)), .ref (ad 737), .int (nI (sN S 31)), .int (nI (sN S 32)), .int (sI S 600 40), .ref (ad 741)])) := hR.m
  have m737 : zhs Z (ad 737) (xi w 100 (sI S 737)) := hR.ma 737 (by decide)
  have J : ∀ i j, mL i → mL j → i ≠ j → ad i ≠ ad j := fun i j hi hj hne => hR.inj (lvL hi) (lvL hj) hne
  obtain ⟨Z0, hZ0⟩ : ∃ Z0, Z0 = Z := ⟨_, rfl⟩
  have hB : Z.2.2 = Z0.2.2 := by rw [hZ0]
  refine g_aload_nq d_Mo_wait_0 rfl 0 rfl ?_
  refine g_get d_Mo_wait_1 f_Mo_85_Mo (by assumption) (by first | rfl | assumption) ?_
  refine g_aload_nq d_Mo_wait_4 rfl 0 rfl ?_
  refine g_get d_Mo_wait_5 f_Mo_134_Mo (by assumption) (by first | rfl | assumption) ?_
  refine g_iload_n d_Mo_wait_8 rfl 1 rfl ?_
  refine g_iast d_Mo_wait_9 (by assumption) (vp_in_nI (n := sN S 31) (by omega) (by decide)) ?_
  rw [nI_clamp (by omega)]
  refine gen_putI (P := fun z => G w y_Mo_wait c_Mo_wait 2 r_Mo_wait (0, 0) Q _ _ _ z) hR (i := 737) (lvM (by decide)) cM_737 (fun Z1 e1 hR => ?_)
  have hm := zhs_put_ne' e1 hm (J 600 737 (by decide) (by decide) (by decide))
  have m737 := zhs_put_same' e1 m737
  have hB : Z1.2.2 = Z0.2.2 := by rw [← e1]; exact hB
  refine g_aload_nq d_Mo_wait_10 rfl 0 rfl ?_
  refine g_dup d_Mo_wait_11 rfl ?_
  refine g_get d_Mo_wait_12 f_Mo_134_Mo (by assumption) (by first | rfl | assumption) ?_
  refine g_iconst (v := 1) d_Mo_wait_15 rfl ?_
  refine g_iadd d_Mo_wait_16 ?_
  rw [nI_1]
  refine g_put d_Mo_wait_17 w_Mo_134_Mo (by assumption) (by first | rfl | exact zb_nar _) (by first | rfl | exact zb_fit _ | exact zrf_fit _) (by first | exact Nat.le_of_ble_eq_true rfl | omega) ?_
  refine gen_putN (P := fun z => G w y_Mo_wait c_Mo_wait 2 r_Mo_wait (0, 0) Q _ _ _ z) hR hL (n := 31) (by decide) c6N_31 (fun Z1 e1 hR hL => ?_)
  have m737 := zhs_put_ne' e1 m737 (J 737 600 (by decide) (by decide) (by decide))
  have hm := zhs_put_same' e1 hm
  simp only [List.set] at hm
  have hB : Z1.2.2 = Z0.2.2 := by rw [← e1]; exact hB
  refine g_vret d_Mo_wait_20 ?_
  exact hQ _ hR (by rw [hB, hZ0])

set_option maxHeartbeats 4000000 in
set_option maxRecDepth 100000 in
theorem L_Mo_release {w : zC} {Q : zR → zZ → Prop} {ad : Nat → Nat} {x : Int32} (n : Nat) : ∀ S Z, sN S 31 = n → n ≤ 100 → Rep w ad S Z → ciLive S → mQ S → (∀ Z', Rep w ad (mrel x n S) Z' → Z'.2.2 = Z.2.2 → Q (.inl none) Z') → G w y_Mo_release c_Mo_release 2 r_Mo_release (1, 30) Q 0 [(0, .ref (ad 600)), (1, .int x)] [] Z := by
  induction n with
  | zero =>
    intro S Z hn h80 hR hL hq hQ
    have hm : zhs Z (ad 600) (.inr (10, [.int (sI S 600 0), .ref (ad 701), .int (nI (sN S 20)), .int (nI (sN S 21)), .int (nI (sN S 22)), .ref (ad 705), .ref (ad 706), .ref (ad 707), .ref (ad 708), .ref (ad 709), .ref (ad 710), .ref (ad 711), .int (nI (sN S 23)), .ref (ad 713), .ref (ad 714), .ref (ad 715), .ref (ad 716), .int (nI (sN S 24)), .int (nI (sN S 25)), .ref (ad 719), .ref (ad 720), .ref (ad 721), .ref (ad 722), .ref (ad 723), .ref (ad 724), .int (sI S 600 25), .ref (ad 726), .ref (ad 727), .ref (ad 728), .int (sI S 600 29), .int (nI (sN S 26)), .ref (ad 731), .ref (ad 732), .int (nI (sN S 27)), .int (nI (sN S 28)), .int (nI (sN S 29)), .int (nI (sN S 30)), .ref (ad 737), .int (nI (sN S 31)), .int (nI (sN S 32)), .int (sI S 600 40), .ref (ad 741)])) := hR.m
    rw [hn] at hm
    have m737 : zhs Z (ad 737) (xi w 100 (sI S 737)) := hR.ma 737 (by decide)
    have J : ∀ i j, mL i → mL j → i ≠ j → ad i ≠ ad j := fun i j hi hj hne => hR.inj (lvL hi) (lvL hj) hne
    refine g_aload_nq d_Mo_release_0 rfl 0 rfl ?_
    refine g_get d_Mo_release_1 f_Mo_134_Mo (by assumption) (by first | rfl | assumption) ?_
    refine g_if_le (tgt := 52) d_Mo_release_4 (by decide) (fun h4 => ?_) (fun h4 => ?_)
    · refine g_vret d_Mo_release_52 ?_
      exact hQ Z hR rfl
    · exact absurd (by decide) h4
  | succ n ih =>
    intro S Z hn h80 hR hL hq hQ
    have hm : zhs Z (ad 600) (.inr (10, [.int (sI S 600 0), .ref (ad 701), .int (nI (sN S 20)), .int (nI (sN S 21)), .int (nI (sN S 22)), .ref (ad 705), .ref (ad 706), .ref (ad 707), .ref (ad 708), .ref (ad 709), .ref (ad 710), .ref (ad 711), .int (nI (sN S 23)), .ref (ad 713), .ref (ad 714), .ref (ad 715), .ref (ad 716), .int (nI (sN S 24)), .int (nI (sN S 25)), .ref (ad 719), .ref (ad 720), .ref (ad 721), .ref (ad 722), .ref (ad 723), .ref (ad 724), .int (sI S 600 25), .ref (ad 726), .ref (ad 727), .ref (ad 728), .int (sI S 600 29), .int (nI (sN S 26)), .ref (ad 731), .ref (ad 732), .int (nI (sN S 27)), .int (nI (sN S 28)), .int (nI (sN S 29)), .int (nI (sN S 30)), .ref (ad 737), .int (nI (sN S 31)), .int (nI (sN S 32)), .int (sI S 600 40), .ref (ad 741)])) := hR.m
    rw [hn] at hm
    have m737 : zhs Z (ad 737) (xi w 100 (sI S 737)) := hR.ma 737 (by decide)
    have J : ∀ i j, mL i → mL j → i ≠ j → ad i ≠ ad j := fun i j hi hj hne => hR.inj (lvL hi) (lvL hj) hne
    refine g_aload_nq d_Mo_release_0 rfl 0 rfl ?_
    refine g_get d_Mo_release_1 f_Mo_134_Mo (by assumption) (by first | rfl | assumption) ?_
    refine g_if_le (tgt := 52) d_Mo_release_4 (by decide) (fun h4 => ?_) (fun h4 => ?_)
    · exact absurd h4 (Int32.not_le.mpr (nI_lt (a := 0) (b := n + 1) (by omega) (by omega)))
    · refine g_aload_nq d_Mo_release_7 rfl 0 rfl ?_
      refine g_get d_Mo_release_8 f_Mo_85_Mo (by assumption) (by first | rfl | assumption) ?_
      refine g_aload_nq d_Mo_release_11 rfl 0 rfl ?_
      refine g_get d_Mo_release_12 f_Mo_134_Mo (by assumption) (by first | rfl | assumption) ?_
      refine g_iconst (v := 1) d_Mo_release_15 rfl ?_
      refine g_isub d_Mo_release_16 ?_
      rw [nI_pred]
      refine g_iald d_Mo_release_17 (by assumption) (vp_in_nI (n := n) (by omega) (by decide)) ?_
      rw [nI_clamp (by omega)]
      refine g_callS d_Mo_release_18 k_Mo_rank l_Mo_137 s_Mo_rank (by rfl) (by rfl) (Nat.le_of_ble_eq_true rfl) (by decide) (C_Mo_rank ⟨_, rfl, ?_⟩)
      refine g_iload_n d_Mo_release_21 rfl 1 rfl ?_
      refine g_icmp_lt (tgt := 52) d_Mo_release_22 (by decide) (fun h22 => ?_) (fun h22 => ?_)
      · rw [mrel, if_pos h22] at hQ
        refine g_vret d_Mo_release_52 ?_
        exact hQ Z hR rfl
      · rw [mrel, if_neg h22] at hQ
        refine g_aload_nq d_Mo_release_25 rfl 0 rfl ?_
        refine g_dup d_Mo_release_26 rfl ?_
        refine g_get d_Mo_release_27 f_Mo_134_Mo (by assumption) (by first | rfl | assumption) ?_
        refine g_iconst (v := 1) d_Mo_release_30 rfl ?_
        refine g_isub d_Mo_release_31 ?_
        rw [nI_pred]
        refine g_put d_Mo_release_32 w_Mo_134_Mo (by assumption) (by rfl) (by rfl) (by first | exact Nat.le_of_ble_eq_true rfl | omega) ?_
        refine gen_putN (P := fun z => G w y_Mo_release c_Mo_release 2 r_Mo_release (1, 30) Q _ _ _ z) hR hL (n := 31) (by decide) c6N_31 (fun Z1 e1 hR1 hL1 => ?_)
        have hm := zhs_put_same' e1 hm
        simp only [List.set] at hm
        have m737 := zhs_put_ne' e1 m737 (J 737 600 (by decide) (by decide) (by decide))
        refine g_aload_nq d_Mo_release_35 rfl 0 rfl ?_
        refine g_aload_nq d_Mo_release_36 rfl 0 rfl ?_
        refine g_get d_Mo_release_37 f_Mo_85_Mo (by assumption) (by first | rfl | assumption) ?_
        refine g_aload_nq d_Mo_release_40 rfl 0 rfl ?_
        refine g_get d_Mo_release_41 f_Mo_134_Mo (by assumption) (by first | rfl | assumption) ?_
        refine g_iald d_Mo_release_44 (by assumption) (vp_in_nI (n := n) (by omega) (by decide)) ?_
        rw [nI_clamp (by omega)]
        refine g_iconst (v := 0) d_Mo_release_45 rfl ?_
        have hp0 : pcn S ≤ 89 := by have := hq.2.1; omega
        refine g_callV d_Mo_release_46 k_Mo_put l_Mo_141 i_Mo_put rfl p_Mo_put hm (by rfl) (by rfl) (Nat.le_of_ble_eq_true rfl) (by decide) (C_Mo_put hR1 hq.1 (show pcn S < 90 by omega) hq.2.2 (fun Z4 hR4 B4 => ⟨_, rfl, ?_⟩))
        refine g_goto (tgt := 0) d_Mo_release_49 (by decide) ?_
        exact ih (mput (wN S 31 n) (sI S 737 n) 0) Z4 (show sN (wN S 31 n) 31 = n from wN_self) (by omega) hR4 (hL1.same rfl rfl) ⟨hq.1, by rw [mput_pcn (S := wN S 31 n) (show pcn S ≤ 90 by omega)]; show pcn S + 1 + va_up S.2.2.2 31 n 31 ≤ 89; rw [va_up_self]; have := hq.2.1; omega, mput_721 (S := wN S 31 n) (show pcn S ≤ 90 by omega)⟩ (fun Z9 r9 b9 => hQ Z9 r9 (b9.trans (B4.trans (by rw [← e1]; rfl))))

set_option maxHeartbeats 4000000 in
set_option maxRecDepth 100000 in
theorem C_Mo_release {w : zC} {Z : zZ} {Q : zR → zZ → Prop} {ad : Nat → Nat} {S : ST} (hR : Rep w ad S Z) (hL : ciLive S) {x : Int32} (hq : mQ S) (hQ : ∀ Z', Rep w ad (mrel x (sN S 31) S) Z' → Z'.2.2 = Z.2.2 → Q (.inl none) Z') : Cz w (1, 30) y_Mo_release (Cond.code y_Mo_release c_Mo_release 2 r_Mo_release :: wz) [.ref (ad 600), .int x] Z Q := by
  refine Cz.of (by decide +kernel) (by simp [lg_sl, Value.category]) ?_
  show G _ _ _ _ _ _ _ _ [(0, _), (1, _)] _ _
  exact L_Mo_release (sN S 31) S Z rfl (by have := hq.2.1; omega) hR hL hq hQ

set_option maxHeartbeats 4000000 in
set_option maxRecDepth 100000 in
theorem C_Mo_signAt {w : zC} {Z : zZ} {Q : zR → zZ → Prop} {ad : Nat → Nat} {S : ST} (hR : Rep w ad S Z) (hw : mW S) (hQ : Q (.inl (some (.int (sgR (spR S))))) Z) : Cz w (1, 30) y_Mo_signAt (Cond.code y_Mo_signAt c_Mo_signAt 3 r_Mo_signAt :: wz) [.ref (ad 600)] Z Q := by
  refine Cz.of (by decide +kernel) (by simp [lg_sl, Value.category]) ?_
  show G _ _ _ _ _ _ _ _ [(0, _)] _ _
  have hm : zhs Z (ad 600) (.inr (10, [.int (sI S 600 0), .ref (ad 701), .int (nI (sN S 20)), .int (nI (sN S 21)), .int (nI (sN S 22)), .ref (ad 705), .ref (ad 706), .ref (ad 707), .ref (ad 708), .ref (ad 709), .ref (ad 710), .ref (ad 711), .int (nI (sN S 23)), .ref (ad 713), .ref (ad 714), .ref (ad 715), .ref (ad 716), .int (nI (sN S 24)), .int (nI (sN S 25)), .ref (ad 719), .ref (ad 720), .ref (ad 721), .ref (ad 722), .ref (ad 723), .ref (ad 724), .int (sI S 600 25), .ref (ad 726), .ref (ad 727), .ref (ad 728), .int (sI S 600 29), .int (nI (sN S 26)), .ref (ad 731), .ref (ad 732), .int (nI (sN S 27)), .int (nI (sN S 28)), .int (nI (sN S 29)), .int (nI (sN S 30)), .ref (ad 737), .int (nI (sN S 31)), .int (nI (sN S 32)), .int (sI S 600 40), .ref (ad 741)])) := hR.m
  refine g_aload_nq d_Mo_signAt_0 rfl 0 rfl ?_
  refine g_callV d_Mo_signAt_1 k_Mo_spelt l_Mo_145 i_Mo_spelt rfl p_Mo_spelt hm (by rfl) (by rfl) (Nat.le_of_ble_eq_true rfl) (by decide) (C_Mo_spelt hR hw.2.1 (Nat.le_trans hw.2.2 hw.1) ⟨_, rfl, ?_⟩)
  generalize spR S = v at hQ ⊢
  refine g_lstore_n d_Mo_signAt_4 rfl (by decide) rfl ?_
  show G _ _ _ _ _ _ _ _ [(1, _), (0, _)] _ _
  refine g_lload_n d_Mo_signAt_5 rfl 0 rfl ?_
  refine g_ldc2 v_Mo_167 d_Mo_signAt_6 ?_
  refine g_lcmp d_Mo_signAt_9 ?_
  refine g_if_ne (tgt := 16) d_Mo_signAt_10 (by decide) (fun h10 => ?_) (fun h10 => ?_)
  · rw [lg_cmp_eq] at h10
    rw [sgR, if_neg h10] at hQ
    refine g_lload_n d_Mo_signAt_16 rfl 0 rfl ?_
    refine g_ldc2 v_Mo_169 d_Mo_signAt_17 ?_
    refine g_lcmp d_Mo_signAt_20 ?_
    refine g_if_ne (tgt := 27) d_Mo_signAt_21 (by decide) (fun h21 => ?_) (fun h21 => ?_)
    · rw [lg_cmp_eq] at h21
      rw [if_neg h21] at hQ
      refine g_lload_n d_Mo_signAt_27 rfl 0 rfl ?_
      refine g_ldc2 v_Mo_171 d_Mo_signAt_28 ?_
      refine g_lcmp d_Mo_signAt_31 ?_
      refine g_if_ne (tgt := 38) d_Mo_signAt_32 (by decide) (fun h32 => ?_) (fun h32 => ?_)
      · rw [lg_cmp_eq] at h32
        rw [if_neg h32] at hQ
        refine g_lload_n d_Mo_signAt_38 rfl 0 rfl ?_
        refine g_ldc2 v_Mo_173 d_Mo_signAt_39 ?_
        refine g_lcmp d_Mo_signAt_42 ?_
        refine g_if_ne (tgt := 49) d_Mo_signAt_43 (by decide) (fun h43 => ?_) (fun h43 => ?_)
        · rw [lg_cmp_eq] at h43
          rw [if_neg h43] at hQ
          refine g_lload_n d_Mo_signAt_49 rfl 0 rfl ?_
          refine g_ldc2 v_Mo_175 d_Mo_signAt_50 ?_
          refine g_lcmp d_Mo_signAt_53 ?_
          refine g_if_ne (tgt := 60) d_Mo_signAt_54 (by decide) (fun h54 => ?_) (fun h54 => ?_)
          · rw [lg_cmp_eq] at h54
            rw [if_neg h54] at hQ
            refine g_lload_n d_Mo_signAt_60 rfl 0 rfl ?_
            refine g_ldc2 v_Mo_177 d_Mo_signAt_61 ?_
            refine g_lcmp d_Mo_signAt_64 ?_
            refine g_if_ne (tgt := 71) d_Mo_signAt_65 (by decide) (fun h65 => ?_) (fun h65 => ?_)
            · rw [lg_cmp_eq] at h65
              rw [if_neg h65] at hQ
              refine g_lload_n d_Mo_signAt_71 rfl 0 rfl ?_
              refine g_ldc2 v_Mo_179 d_Mo_signAt_72 ?_
              refine g_lcmp d_Mo_signAt_75 ?_
              refine g_if_ne (tgt := 82) d_Mo_signAt_76 (by decide) (fun h76 => ?_) (fun h76 => ?_)
              · rw [lg_cmp_eq] at h76
                rw [if_neg h76] at hQ
                refine g_lload_n d_Mo_signAt_82 rfl 0 rfl ?_
                refine g_bipush (v := 60) d_Mo_signAt_83 rfl ?_
                refine g_bipush (v := 61) d_Mo_signAt_85 rfl ?_
                refine g_iconst (v := 0) d_Mo_signAt_87 rfl ?_
                refine g_iconst (v := 0) d_Mo_signAt_88 rfl ?_
                refine g_iconst (v := 0) d_Mo_signAt_89 rfl ?_
                refine g_callS d_Mo_signAt_90 k_Mo_word l_Mo_157 s_Mo_word (by rfl) (by rfl) (Nat.le_of_ble_eq_true rfl) (by decide) (C_Mo_word ⟨_, rfl, ?_⟩)
                refine g_lcmp d_Mo_signAt_93 ?_
                refine g_if_ne (tgt := 100) d_Mo_signAt_94 (by decide) (fun h94 => ?_) (fun h94 => ?_)
                · rw [lg_cmp_eq] at h94
                  rw [if_neg h94] at hQ
                  refine g_lload_n d_Mo_signAt_100 rfl 0 rfl ?_
                  refine g_bipush (v := 62) d_Mo_signAt_101 rfl ?_
                  refine g_bipush (v := 61) d_Mo_signAt_103 rfl ?_
                  refine g_iconst (v := 0) d_Mo_signAt_105 rfl ?_
                  refine g_iconst (v := 0) d_Mo_signAt_106 rfl ?_
                  refine g_iconst (v := 0) d_Mo_signAt_107 rfl ?_
                  refine g_callS d_Mo_signAt_108 k_Mo_word l_Mo_157 s_Mo_word (by rfl) (by rfl) (Nat.le_of_ble_eq_true rfl) (by decide) (C_Mo_word ⟨_, rfl, ?_⟩)
                  refine g_lcmp d_Mo_signAt_111 ?_
                  refine g_if_ne (tgt := 118) d_Mo_signAt_112 (by decide) (fun h112 => ?_) (fun h112 => ?_)
                  · rw [lg_cmp_eq] at h112
                    rw [if_neg h112] at hQ
                    refine g_lload_n d_Mo_signAt_118 rfl 0 rfl ?_
                    refine g_bipush (v := 97) d_Mo_signAt_119 rfl ?_
                    refine g_bipush (v := 110) d_Mo_signAt_121 rfl ?_
                    refine g_bipush (v := 100) d_Mo_signAt_123 rfl ?_
                    refine g_iconst (v := 0) d_Mo_signAt_125 rfl ?_
                    refine g_iconst (v := 0) d_Mo_signAt_126 rfl ?_
                    refine g_callS d_Mo_signAt_127 k_Mo_word l_Mo_157 s_Mo_word (by rfl) (by rfl) (Nat.le_of_ble_eq_true rfl) (by decide) (C_Mo_word ⟨_, rfl, ?_⟩)
                    refine g_lcmp d_Mo_signAt_130 ?_
                    refine g_if_ne (tgt := 137) d_Mo_signAt_131 (by decide) (fun h131 => ?_) (fun h131 => ?_)
                    · rw [lg_cmp_eq] at h131
                      rw [if_neg h131] at hQ
                      refine g_lload_n d_Mo_signAt_137 rfl 0 rfl ?_
                      refine g_bipush (v := 111) d_Mo_signAt_138 rfl ?_
                      refine g_bipush (v := 114) d_Mo_signAt_140 rfl ?_
                      refine g_iconst (v := 0) d_Mo_signAt_142 rfl ?_
                      refine g_iconst (v := 0) d_Mo_signAt_143 rfl ?_
                      refine g_iconst (v := 0) d_Mo_signAt_144 rfl ?_
                      refine g_callS d_Mo_signAt_145 k_Mo_word l_Mo_157 s_Mo_word (by rfl) (by rfl) (Nat.le_of_ble_eq_true rfl) (by decide) (C_Mo_word ⟨_, rfl, ?_⟩)
                      refine g_lcmp d_Mo_signAt_148 ?_
                      refine g_if_ne (tgt := 155) d_Mo_signAt_149 (by decide) (fun h149 => ?_) (fun h149 => ?_)
                      · rw [lg_cmp_eq] at h149
                        rw [if_neg h149] at hQ
                        refine g_iconst (v := (-1)) d_Mo_signAt_155 rfl ?_
                        refine g_iret d_Mo_signAt_156 ?_
                        exact hQ
                      · rw [lg_cmp_eq] at h149
                        rw [if_pos h149] at hQ
                        refine g_bipush (v := 21) d_Mo_signAt_152 rfl ?_
                        refine g_iret d_Mo_signAt_154 ?_
                        exact hQ
                    · rw [lg_cmp_eq] at h131
                      rw [if_pos h131] at hQ
                      refine g_bipush (v := 20) d_Mo_signAt_134 rfl ?_
                      refine g_iret d_Mo_signAt_136 ?_
                      exact hQ
                  · rw [lg_cmp_eq] at h112
                    rw [if_pos h112] at hQ
                    refine g_bipush (v := 17) d_Mo_signAt_115 rfl ?_
                    refine g_iret d_Mo_signAt_117 ?_
                    exact hQ
                · rw [lg_cmp_eq] at h94
                  rw [if_pos h94] at hQ
                  refine g_bipush (v := 18) d_Mo_signAt_97 rfl ?_
                  refine g_iret d_Mo_signAt_99 ?_
                  exact hQ
              · rw [lg_cmp_eq] at h76
                rw [if_pos h76] at hQ
                refine g_bipush (v := 16) d_Mo_signAt_79 rfl ?_
                refine g_iret d_Mo_signAt_81 ?_
                exact hQ
            · rw [lg_cmp_eq] at h65
              rw [if_pos h65] at hQ
              refine g_bipush (v := 15) d_Mo_signAt_68 rfl ?_
              refine g_iret d_Mo_signAt_70 ?_
              exact hQ
          · rw [lg_cmp_eq] at h54
            rw [if_pos h54] at hQ
            refine g_bipush (v := 14) d_Mo_signAt_57 rfl ?_
            refine g_iret d_Mo_signAt_59 ?_
            exact hQ
        · rw [lg_cmp_eq] at h43
          rw [if_pos h43] at hQ
          refine g_bipush (v := 13) d_Mo_signAt_46 rfl ?_
          refine g_iret d_Mo_signAt_48 ?_
          exact hQ
      · rw [lg_cmp_eq] at h32
        rw [if_pos h32] at hQ
        refine g_bipush (v := 12) d_Mo_signAt_35 rfl ?_
        refine g_iret d_Mo_signAt_37 ?_
        exact hQ
    · rw [lg_cmp_eq] at h21
      rw [if_pos h21] at hQ
      refine g_bipush (v := 11) d_Mo_signAt_24 rfl ?_
      refine g_iret d_Mo_signAt_26 ?_
      exact hQ
  · rw [lg_cmp_eq] at h10
    rw [sgR, if_pos h10] at hQ
    refine g_bipush (v := 10) d_Mo_signAt_13 rfl ?_
    refine g_iret d_Mo_signAt_15 ?_
    exact hQ

set_option maxHeartbeats 4000000 in
set_option maxRecDepth 100000 in
theorem C_Mo_isDigitNext {w : zC} {Z : zZ} {Q : zR → zZ → Prop} {ad : Nat → Nat} {S : ST} (hR : Rep w ad S Z) (hL : ciLive S) (hw0 : sN S 24 ≤ 160) (hat : sN S 28 ≤ sN S 24) (hq : mQ S) (hQ : mkQ w ad Z Q (mDn S)) : Cz w (1, 30) y_Mo_isDigitNext (Cond.code y_Mo_isDigitNext c_Mo_isDigitNext 1 r_Mo_isDigitNext :: wz) [.ref (ad 600)] Z Q := by
  refine Cz.of (by decide +kernel) (by simp [lg_sl, Value.category]) ?_
  show G _ _ _ _ _ _ _ _ [(0, _)] _ _
  have hm : zhs Z (ad 600) (.inr (10, [.int (sI S 600 0), .ref (ad 701), .int (nI (sN S 20)), .int (nI (sN S 21)), .int (nI (sN S 22)), .ref (ad 705), .ref (ad 706), .ref (ad 707), .ref (ad 708), .ref (ad 709), .ref (ad 710), .ref (ad 711), .int (nI (sN S 23)), .ref (ad 713), .ref (ad 714), .ref (ad 715), .ref (ad 716), .int (nI (sN S 24)), .int (nI (sN S 25)), .ref (ad 719), .ref (ad 720), .ref (ad 721), .ref (ad 722), .ref (ad 723), .ref (ad 724), .int (sI S 600 25), .ref (ad 726), .ref (ad 727), .ref (ad 728), .int (sI S 600 29), .int (nI (sN S 26)), .ref (ad 731), .ref (ad 732), .int (nI (sN S 27)), .int (nI (sN S 28)), .int (nI (sN S 29)), .int (nI (sN S 30)), .ref (ad 737), .int (nI (sN S 31)), .int (nI (sN S 32)), .int (sI S 600 40), .ref (ad 741)])) := hR.m
  refine g_aload_nq d_Mo_isDigitNext_0 rfl 0 rfl ?_
  refine g_callV d_Mo_isDigitNext_1 k_Mo_nextWord l_Mo_164 i_Mo_nextWord rfl p_Mo_nextWord hm (by rfl) (by rfl) (Nat.le_of_ble_eq_true rfl) (by decide) (C_Mo_nextWord hR hL hw0 hat (fun Z1 hR1 B1 => ⟨_, rfl, ?_⟩))
  have hW := mnx_W hw0 hat
  have hQ1 := hq.cg mnx_I.1 (mnx_N (by decide)) (mnx_N (by decide))
  have hL1 := hL.nx
  rw [mDn] at hQ
  have e28 : sN (mnx S) 28 = mE S := mnx_28
  have e27 : sN (mnx S) 27 = mP S := mnx_27
  generalize mnx S = T at *
  have hm : zhs Z1 (ad 600) (.inr (10, [.int (sI T 600 0), .ref (ad 701), .int (nI (sN T 20)), .int (nI (sN T 21)), .int (nI (sN T 22)), .ref (ad 705), .ref (ad 706), .ref (ad 707), .ref (ad 708), .ref (ad 709), .ref (ad 710), .ref (ad 711), .int (nI (sN T 23)), .ref (ad 713), .ref (ad 714), .ref (ad 715), .ref (ad 716), .int (nI (sN T 24)), .int (nI (sN T 25)), .ref (ad 719), .ref (ad 720), .ref (ad 721), .ref (ad 722), .ref (ad 723), .ref (ad 724), .int (sI T 600 25), .ref (ad 726), .ref (ad 727), .ref (ad 728), .int (sI T 600 29), .int (nI (sN T 26)), .ref (ad 731), .ref (ad 732), .int (nI (sN T 27)), .int (nI (sN T 28)), .int (nI (sN T 29)), .int (nI (sN T 30)), .ref (ad 737), .int (nI (sN T 31)), .int (nI (sN T 32)), .int (sI T 600 40), .ref (ad 741)])) := hR1.m
  first | refine g_if_neB (tgt := 19) d_Mo_isDigitNext_4 (by decide) (fun h4 => ?_) (fun h4 => ?_) | refine g_if_ne (tgt := 19) d_Mo_isDigitNext_4 (by decide) (fun h4 => ?_) (fun h4 => ?_)
  · rw [if_pos h4] at hQ
    refine g_aload_nq d_Mo_isDigitNext_19 rfl 0 rfl ?_
    refine g_get d_Mo_isDigitNext_20 f_Mo_122_Mo (by assumption) (by first | rfl | assumption) ?_
    refine g_aload_nq d_Mo_isDigitNext_23 rfl 0 rfl ?_
    refine g_get d_Mo_isDigitNext_24 f_Mo_125_Mo (by assumption) (by first | rfl | assumption) ?_
    refine g_isub d_Mo_isDigitNext_27 ?_
    rw [nI_sub hW.2.1, e28, e27]
    refine g_iconst (v := 1) d_Mo_isDigitNext_28 rfl ?_
    refine g_icmp_ne (tgt := 39) d_Mo_isDigitNext_29 (by decide) (fun h29 => ?_) (fun h29 => ?_)
    · rw [if_neg (fun z => h29 z.1)] at hQ
      have hF := hQ Z1 hR1 B1
      refine g_iconst (v := 0) d_Mo_isDigitNext_39 rfl ?_
      refine g_zret d_Mo_isDigitNext_40 ?_ ?_
      · first | rfl | exact zb_nar _ | exact zb_narc (by assumption)
      · exact hF
    · refine g_aload_nq d_Mo_isDigitNext_32 rfl 0 rfl ?_
      refine g_callV d_Mo_isDigitNext_33 k_Mo_isNumber l_Mo_149 i_Mo_isNumber rfl p_Mo_isNumber hm (by rfl) (by rfl) (Nat.le_of_ble_eq_true rfl) (by decide) (C_Mo_isNumber hR1 hW.2.1 (Nat.le_trans hW.2.2 hW.1) ⟨_, rfl, ?_⟩)
      skip
      first | refine g_if_neB (tgt := 41) d_Mo_isDigitNext_36 (by decide) (fun h36 => ?_) (fun h36 => ?_) | refine g_if_ne (tgt := 41) d_Mo_isDigitNext_36 (by decide) (fun h36 => ?_) (fun h36 => ?_)
      · rw [e28] at h36
        rw [if_pos ⟨h29, h36⟩] at hQ
        refine g_aload_nq d_Mo_isDigitNext_41 rfl 0 rfl ?_
        refine g_bipush (v := 6) d_Mo_isDigitNext_42 rfl ?_
        refine g_aload_nq d_Mo_isDigitNext_44 rfl 0 rfl ?_
        refine g_callV d_Mo_isDigitNext_45 k_Mo_value l_Mo_153 i_Mo_value rfl p_Mo_value hm (by rfl) (by rfl) (Nat.le_of_ble_eq_true rfl) (by decide) (C_Mo_value hR1 hW.2.1 (Nat.le_trans hW.2.2 hW.1) ⟨_, rfl, ?_⟩)
        refine g_callV d_Mo_isDigitNext_48 k_Mo_put l_Mo_141 i_Mo_put rfl p_Mo_put hm (by rfl) (by rfl) (Nat.le_of_ble_eq_true rfl) (by decide) (C_Mo_put hR1 hQ1.1 (by have := hQ1.2.1; omega) hQ1.2.2 (fun Z3 hR3 B3 => ⟨_, rfl, ?_⟩))
        refine g_iconst (v := 1) d_Mo_isDigitNext_51 rfl ?_
        refine g_zret d_Mo_isDigitNext_52 ?_ ?_
        · first | rfl | exact zb_nar _ | exact zb_narc (by assumption)
        · exact hQ Z3 hR3 (B3.trans B1)
      · rw [e28] at h36
        rw [if_neg (fun z => h36 z.2)] at hQ
        have hF := hQ Z1 hR1 B1
        refine g_iconst (v := 0) d_Mo_isDigitNext_39 rfl ?_
        refine g_zret d_Mo_isDigitNext_40 ?_ ?_
        · first | rfl | exact zb_nar _ | exact zb_narc (by assumption)
        · exact hF
  · rw [if_neg h4] at hQ
    refine g_aload_nq d_Mo_isDigitNext_7 rfl 0 rfl ?_
    refine g_dup d_Mo_isDigitNext_8 rfl ?_
    refine g_get d_Mo_isDigitNext_9 f_Mo_128_Mo (by assumption) (by first | rfl | assumption) ?_
    refine g_iconst (v := 1) d_Mo_isDigitNext_12 rfl ?_
    refine g_iadd d_Mo_isDigitNext_13 ?_
    rw [nI_1]
    refine g_put d_Mo_isDigitNext_14 w_Mo_128_Mo (by assumption) (by rfl) (by rfl) (by first | exact Nat.le_of_ble_eq_true rfl | omega) ?_
    refine gen_putN (P := fun z => G w y_Mo_isDigitNext c_Mo_isDigitNext 1 r_Mo_isDigitNext (1, 30) Q _ _ _ z) hR1 hL1 (n := 29) (by decide) c6N_29 (fun Z2 e2 hR2 _ => ?_)
    have hF := hQ Z2 hR2 (by rw [← e2]; exact B1)
    refine g_iconst (v := 0) d_Mo_isDigitNext_17 rfl ?_
    refine g_zret d_Mo_isDigitNext_18 ?_ ?_
    · first | rfl | exact zb_nar _ | exact zb_narc (by assumption)
    · exact hF
