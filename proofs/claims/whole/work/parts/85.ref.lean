/-! The reference: run, whole -/
theorem up_self {α : Type} {f : Nat → α} {i : Nat} : va_up f i (f i) = f := by
  funext j
  unfold va_up
  by_cases h : j = i
  · rw [if_pos h, h]
  · rw [if_neg h]
theorem rS_start {S : ST} {bf : Nat → Int32} {n : Nat} : wI (thS S 0) 728 bf = rS S bf (sI S 726, sI S 727, n) (sJ S 741) := by
  show (va_up (thS S 0).1 728 bf, S.2.1, S.2.2.1, S.2.2.2) = (_, va_up S.2.1 741 (S.2.1 741), S.2.2.1, S.2.2.2)
  rw [up_self]
  congr 1
  funext i
  show va_up (thS S 0).1 728 bf i = (if i = 726 then sI S 726 else if i = 727 then sI S 727 else if i = 728 then bf else (thS S 0).1 i)
  by_cases h1 : i = 726
  · subst h1; rfl
  by_cases h2 : i = 727
  · subst h2; rfl
  rw [if_neg h1, if_neg h2]
  rfl
def runT (S : ST) : TR := rnR S (mixF (sI S 728) (sI S 726) 6480) 27 0 (sI S 726, sI S 727, 0)
def runZ (S : ST) (g : Nat → Int64) : ST := wI (rS S (mixF (sI S 728) (sI S 726) 6480) (runT S) g) 600 (va_up (sI (thS S 0) 600) 29 1)
set_option maxHeartbeats 4000000 in
set_option maxRecDepth 100000 in
theorem LS_Mo_run {w : zC} {Q : zR → zZ → Prop} {ad : Nat → Nat} {S : ST} {bf : Nat → Int32} (hI : mInv S) (hw : ∀ j s k, s < 3 → k < mny S s → j < sN S 25 → sI S 719 j = nI s → rOK S j (nI s) k) {r : Nat} (h25 : sN S 25 ≤ 20) (hr : r < 27) (m : Nat) : ∀ s t g Z, s + m = 3 → Rep w ad (rS S bf t g) Z → (∀ Z' g', Rep w ad (rS S bf (rnS S bf r m s t) g') Z' → Z'.2.2 = Z.2.2 → G w y_Mo_run c_Mo_run 7 r_Mo_run (5, 142) Q 194 [(3, .int (nI 3)), (2, .int (nI r)), (1, .int (nI (rnS S bf r m s t).2.2)), (0, .ref (ad 600))] [] Z') → G w y_Mo_run c_Mo_run 7 r_Mo_run (5, 142) Q 44 [(3, .int (nI s)), (2, .int (nI r)), (1, .int (nI t.2.2)), (0, .ref (ad 600))] [] Z := by
  induction m with
  | zero =>
    intro s t g Z hsm hR hk9
    refine g_iload_n d_Mo_run_44 rfl 0 rfl ?_
    refine g_iconst (v := 3) d_Mo_run_45 rfl ?_
    refine g_icmp_ge (tgt := 194) d_Mo_run_46 (by decide) (fun h46 => ?_) (fun h46 => ?_)
    · rw [show s = 3 by omega]
      exact hk9 Z g hR rfl
    · exact absurd (show (3 : Int32) ≤ nI s from nI_le (a := 3) (by omega) (by omega)) h46
  | succ m ih =>
    intro s t g Z hsm hR hk9
    refine g_iload_n d_Mo_run_44 rfl 0 rfl ?_
    refine g_iconst (v := 3) d_Mo_run_45 rfl ?_
    refine g_icmp_ge (tgt := 194) d_Mo_run_46 (by decide) (fun h46 => ?_) (fun h46 => ?_)
    · exact absurd h46 (nI_ge (b := 3) (by omega) (by decide))
    · refine g_iconst (v := 0) d_Mo_run_49 rfl ?_
      refine g_istore d_Mo_run_50 (by decide) rfl ?_
      show G _ _ _ _ _ _ _ _ [(4, _), (3, _), (2, _), (1, _), (0, _)] _ _
      refine LK_Mo_run hI hw h25 hr (by omega) (mny S s) 0 t g Z (by omega) hR (fun Z1 g1 hR1 b1 => ?_)
      refine g_iinc (k := 1) d_Mo_run_188 rfl (nI_1 s) (by decide) rfl ?_
      refine g_goto (tgt := 44) d_Mo_run_191 (by decide) ?_
      refine g_sub [0, 2, 3, 4] rfl (ih (s + 1) _ g1 Z1 (by omega) hR1 (fun Z9 g9 r9 b9 => hk9 Z9 g9 r9 (b9.trans b1)))

set_option maxHeartbeats 4000000 in
set_option maxRecDepth 100000 in
theorem LR_Mo_run {w : zC} {Q : zR → zZ → Prop} {ad : Nat → Nat} {S : ST} {bf : Nat → Int32} (hI : mInv S) (hw : ∀ j s k, s < 3 → k < mny S s → j < sN S 25 → sI S 719 j = nI s → rOK S j (nI s) k) (h25 : sN S 25 ≤ 20) (m : Nat) : ∀ r t g Z, r + m = 27 → Rep w ad (rS S bf t g) Z → (∀ Z' g', Rep w ad (rS S bf (rnR S bf m r t) g') Z' → Z'.2.2 = Z.2.2 → G w y_Mo_run c_Mo_run 7 r_Mo_run (5, 142) Q 200 [(2, .int (nI 27)), (1, .int (nI (rnR S bf m r t).2.2)), (0, .ref (ad 600))] [] Z') → G w y_Mo_run c_Mo_run 7 r_Mo_run (5, 142) Q 36 [(2, .int (nI r)), (1, .int (nI t.2.2)), (0, .ref (ad 600))] [] Z := by
  induction m with
  | zero =>
    intro r t g Z hrm hR hk9
    refine g_iload_n d_Mo_run_36 rfl 0 rfl ?_
    refine g_bipush (v := 27) d_Mo_run_37 rfl ?_
    refine g_icmp_ge (tgt := 200) d_Mo_run_39 (by decide) (fun h39 => ?_) (fun h39 => ?_)
    · rw [show r = 27 by omega]
      exact hk9 Z g hR rfl
    · exact absurd (show (27 : Int32) ≤ nI r from nI_le (a := 27) (by omega) (by omega)) h39
  | succ m ih =>
    intro r t g Z hrm hR hk9
    refine g_iload_n d_Mo_run_36 rfl 0 rfl ?_
    refine g_bipush (v := 27) d_Mo_run_37 rfl ?_
    refine g_icmp_ge (tgt := 200) d_Mo_run_39 (by decide) (fun h39 => ?_) (fun h39 => ?_)
    · exact absurd h39 (nI_ge (b := 27) (by omega) (by decide))
    · refine g_iconst (v := 0) d_Mo_run_42 rfl ?_
      refine g_istore_n d_Mo_run_43 rfl (by decide) rfl ?_
      show G _ _ _ _ _ _ _ _ [(3, _), (2, _), (1, _), (0, _)] _ _
      refine LS_Mo_run hI hw h25 (by omega) 3 0 t g Z (by omega) hR (fun Z1 g1 hR1 b1 => ?_)
      refine g_iinc (k := 1) d_Mo_run_194 rfl (nI_1 r) (by decide) rfl ?_
      refine g_goto (tgt := 36) d_Mo_run_197 (by decide) ?_
      refine g_sub [0, 2, 3] rfl (ih (r + 1) _ g1 Z1 (by omega) hR1 (fun Z9 g9 r9 b9 => hk9 Z9 g9 r9 (b9.trans b1)))

set_option maxHeartbeats 4000000 in
set_option maxRecDepth 100000 in
theorem LC_Mo_run {w : zC} {Q : zR → zZ → Prop} {ad : Nat → Nat} {S : ST} (m : Nat) : ∀ i Z, i + m = 6480 → Rep w ad (wI (thS S 0) 728 (mixF (sI S 728) (sI S 726) i)) Z → (∀ Z', Rep w ad (wI (thS S 0) 728 (mixF (sI S 728) (sI S 726) 6480)) Z' → Z'.2.2 = Z.2.2 → G w y_Mo_run c_Mo_run 7 r_Mo_run (5, 142) Q 32 [(1, .int (nI 6480)), (0, .ref (ad 600))] [] Z') → G w y_Mo_run c_Mo_run 7 r_Mo_run (5, 142) Q 7 [(1, .int (nI i)), (0, .ref (ad 600))] [] Z := by
  induction m with
  | zero =>
    intro i Z him hR hk9
    have hm : zhs Z (ad 600) (.inr (10, [.int (sI (thS S 0) 600 0), .ref (ad 701), .int (nI (sN (thS S 0) 20)), .int (nI (sN (thS S 0) 21)), .int (nI (sN (thS S 0) 22)), .ref (ad 705), .ref (ad 706), .ref (ad 707), .ref (ad 708), .ref (ad 709), .ref (ad 710), .ref (ad 711), .int (nI (sN (thS S 0) 23)), .ref (ad 713), .ref (ad 714), .ref (ad 715), .ref (ad 716), .int (nI (sN (thS S 0) 24)), .int (nI (sN (thS S 0) 25)), .ref (ad 719), .ref (ad 720), .ref (ad 721), .ref (ad 722), .ref (ad 723), .ref (ad 724), .int (sI (thS S 0) 600 25), .ref (ad 726), .ref (ad 727), .ref (ad 728), .int (sI (thS S 0) 600 29), .int (nI (sN (thS S 0) 26)), .ref (ad 731), .ref (ad 732), .int (nI (sN (thS S 0) 27)), .int (nI (sN (thS S 0) 28)), .int (nI (sN (thS S 0) 29)), .int (nI (sN (thS S 0) 30)), .ref (ad 737), .int (nI (sN (thS S 0) 31)), .int (nI (sN (thS S 0) 32)), .int (sI (thS S 0) 600 40), .ref (ad 741)])) := hR.m
    have m726 : zhs Z (ad 726) (xi w 6480 (sI S 726)) := hR.ma 726 (by decide)
    have m728 : zhs Z (ad 728) (xi w 6480 (mixF (sI S 728) (sI S 726) i)) := hR.ma 728 (by decide)
    refine g_iload_n d_Mo_run_7 rfl 0 rfl ?_
    refine g_sipush (v := 6480) d_Mo_run_8 rfl ?_
    refine g_icmp_ge (tgt := 32) d_Mo_run_11 (by decide) (fun h11 => ?_) (fun h11 => ?_)
    · have hi6 : i = 6480 := by omega
      subst hi6
      exact hk9 Z hR rfl
    · exact absurd (show (6480 : Int32) ≤ nI i from nI_le (a := 6480) (by omega) (by omega)) h11
  | succ m ih =>
    intro i Z him hR hk9
    have hm : zhs Z (ad 600) (.inr (10, [.int (sI (thS S 0) 600 0), .ref (ad 701), .int (nI (sN (thS S 0) 20)), .int (nI (sN (thS S 0) 21)), .int (nI (sN (thS S 0) 22)), .ref (ad 705), .ref (ad 706), .ref (ad 707), .ref (ad 708), .ref (ad 709), .ref (ad 710), .ref (ad 711), .int (nI (sN (thS S 0) 23)), .ref (ad 713), .ref (ad 714), .ref (ad 715), .ref (ad 716), .int (nI (sN (thS S 0) 24)), .int (nI (sN (thS S 0) 25)), .ref (ad 719), .ref (ad 720), .ref (ad 721), .ref (ad 722), .ref (ad 723), .ref (ad 724), .int (sI (thS S 0) 600 25), .ref (ad 726), .ref (ad 727), .ref (ad 728), .int (sI (thS S 0) 600 29), .int (nI (sN (thS S 0) 26)), .ref (ad 731), .ref (ad 732), .int (nI (sN (thS S 0) 27)), .int (nI (sN (thS S 0) 28)), .int (nI (sN (thS S 0) 29)), .int (nI (sN (thS S 0) 30)), .ref (ad 737), .int (nI (sN (thS S 0) 31)), .int (nI (sN (thS S 0) 32)), .int (sI (thS S 0) 600 40), .ref (ad 741)])) := hR.m
    have m726 : zhs Z (ad 726) (xi w 6480 (sI S 726)) := hR.ma 726 (by decide)
    have m728 : zhs Z (ad 728) (xi w 6480 (mixF (sI S 728) (sI S 726) i)) := hR.ma 728 (by decide)
    refine g_iload_n d_Mo_run_7 rfl 0 rfl ?_
    refine g_sipush (v := 6480) d_Mo_run_8 rfl ?_
    refine g_icmp_ge (tgt := 32) d_Mo_run_11 (by decide) (fun h11 => ?_) (fun h11 => ?_)
    · exact absurd h11 (nI_ge (b := 6480) (by omega) (by decide))
    · refine g_aload_nq d_Mo_run_14 rfl 1 rfl ?_
      refine g_get d_Mo_run_15 f_Mo_76_Mo (by assumption) (by first | rfl | assumption) ?_
      refine g_iload_n d_Mo_run_18 rfl 0 rfl ?_
      refine g_aload_nq d_Mo_run_19 rfl 1 rfl ?_
      refine g_get d_Mo_run_20 f_Mo_70_Mo (by assumption) (by first | rfl | assumption) ?_
      refine g_iload_n d_Mo_run_23 rfl 0 rfl ?_
      refine g_iald d_Mo_run_24 m726 (vp_in_nI (n := i) (by omega) (by decide)) ?_
      rw [nI_clamp (by omega)]
      refine g_iast d_Mo_run_25 m728 (vp_in_nI (n := i) (by omega) (by decide)) ?_
      rw [nI_clamp (by omega), mix_step]
      refine gen_putI (P := fun z => G w y_Mo_run c_Mo_run 7 r_Mo_run (5, 142) Q _ _ _ z) hR (i := 728) (lvM (by decide)) cM_728 (fun Z1 e1 hR => ?_)
      rw [wI_wI] at hR
      refine g_iinc (k := 0) d_Mo_run_26 rfl (nI_1 i) (by decide) rfl ?_
      refine g_goto (tgt := 7) d_Mo_run_29 (by decide) ?_
      exact ih (i + 1) Z1 (by omega) hR (fun Z9 r9 b9 => hk9 Z9 r9 (b9.trans (by rw [← e1]; rfl)))

theorem wI_self {S : ST} {i : Nat} {f : Nat → Int32} (h : S.1 i = f := by rfl) : wI S i f = S := by
  show (va_up S.1 i f, S.2.1, S.2.2.1, S.2.2.2) = S
  rw [← h, up_self]

set_option maxHeartbeats 4000000 in
set_option maxRecDepth 100000 in
theorem C_Mo_run {w : zC} {Z : zZ} {Q : zR → zZ → Prop} {ad : Nat → Nat} {S : ST} (hR : Rep w ad S Z) (hL : ciLive S) (hI : mInv S) (hw : ∀ j s k, s < 3 → k < mny S s → j < sN S 25 → sI S 719 j = nI s → rOK S j (nI s) k) (h25 : sN S 25 ≤ 20) (hQ : ∀ Z' g, Rep w ad (runZ S g) Z' → Z'.2.2 = Z.2.2 → Q (.inl (some (.int (nI (runT S).2.2)))) Z') : Cz w (5, 142) y_Mo_run (Cond.code y_Mo_run c_Mo_run 7 r_Mo_run :: wz) [.ref (ad 600)] Z Q := by
  refine Cz.of (by decide +kernel) (by simp [lg_sl, Value.category]) ?_
  show G _ _ _ _ _ _ _ _ [(0, _)] _ _
  have hm : zhs Z (ad 600) (.inr (10, [.int (sI S 600 0), .ref (ad 701), .int (nI (sN S 20)), .int (nI (sN S 21)), .int (nI (sN S 22)), .ref (ad 705), .ref (ad 706), .ref (ad 707), .ref (ad 708), .ref (ad 709), .ref (ad 710), .ref (ad 711), .int (nI (sN S 23)), .ref (ad 713), .ref (ad 714), .ref (ad 715), .ref (ad 716), .int (nI (sN S 24)), .int (nI (sN S 25)), .ref (ad 719), .ref (ad 720), .ref (ad 721), .ref (ad 722), .ref (ad 723), .ref (ad 724), .int (sI S 600 25), .ref (ad 726), .ref (ad 727), .ref (ad 728), .int (sI S 600 29), .int (nI (sN S 26)), .ref (ad 731), .ref (ad 732), .int (nI (sN S 27)), .int (nI (sN S 28)), .int (nI (sN S 29)), .int (nI (sN S 30)), .ref (ad 737), .int (nI (sN S 31)), .int (nI (sN S 32)), .int (sI S 600 40), .ref (ad 741)])) := hR.m
  have J : ∀ i j, mL i → mL j → i ≠ j → ad i ≠ ad j := fun i j hi hj hne => hR.inj (lvL hi) (lvL hj) hne
  obtain ⟨Z0, hZ0⟩ : ∃ Z0, Z0 = Z := ⟨_, rfl⟩
  have hB : Z.2.2 = Z0.2.2 := by rw [hZ0]
  refine g_aload_nq d_Mo_run_0 rfl 0 rfl ?_
  refine g_iconst (v := 0) d_Mo_run_1 rfl ?_
  refine g_put d_Mo_run_2 w_Mo_91_Mo (by assumption) (by first | rfl | exact zb_nar _) (by first | rfl | exact zb_fit _ | exact zrf_fit _) (by first | exact Nat.le_of_ble_eq_true rfl | omega) ?_
  refine gen_putI (P := fun z => G w y_Mo_run c_Mo_run 7 r_Mo_run (5, 142) Q _ _ _ z) hR (i := 600) lv6 c6_0 (fun Z1 e1 hR => ?_)
  have hm := zhs_put_same' e1 hm
  simp only [List.set] at hm
  have hB : Z1.2.2 = Z0.2.2 := by rw [← e1]; exact hB
  refine g_iconst (v := 0) d_Mo_run_5 rfl ?_
  refine g_istore_n d_Mo_run_6 rfl (by decide) rfl ?_
  show G _ _ _ _ _ _ _ _ [(1, _), (0, _)] _ _
  refine LC_Mo_run 6480 0 Z1 (by omega) (by rw [show mixF (sI S 728) (sI S 726) 0 = sI S 728 from funext fun j => if_neg (Nat.not_lt_zero _), show wI (thS S 0) 728 (sI S 728) = thS S 0 from wI_self]; exact hR) (fun Z2 hR2 b2 => ?_)
  rw [rS_start (n := 0)] at hR2
  clear hR
  refine g_iconst (v := 0) d_Mo_run_32 rfl ?_
  refine g_istore_n d_Mo_run_33 rfl (by decide) rfl ?_
  show G _ _ _ _ _ _ _ _ [(1, _), (0, _)] _ _
  refine g_iconst (v := 0) d_Mo_run_34 rfl ?_
  refine g_istore_n d_Mo_run_35 rfl (by decide) rfl ?_
  show G _ _ _ _ _ _ _ _ [(2, _), (1, _), (0, _)] _ _
  refine LR_Mo_run hI hw h25 27 0 (sI S 726, sI S 727, 0) (sJ S 741) Z2 (by omega) hR2 (fun Z3 g3 hR b3 => ?_)
  have hm : zhs Z3 (ad 600) (.inr (10, [.int (sI (thS S 0) 600 0), .ref (ad 701), .int (nI (sN (thS S 0) 20)), .int (nI (sN (thS S 0) 21)), .int (nI (sN (thS S 0) 22)), .ref (ad 705), .ref (ad 706), .ref (ad 707), .ref (ad 708), .ref (ad 709), .ref (ad 710), .ref (ad 711), .int (nI (sN (thS S 0) 23)), .ref (ad 713), .ref (ad 714), .ref (ad 715), .ref (ad 716), .int (nI (sN (thS S 0) 24)), .int (nI (sN (thS S 0) 25)), .ref (ad 719), .ref (ad 720), .ref (ad 721), .ref (ad 722), .ref (ad 723), .ref (ad 724), .int (sI (thS S 0) 600 25), .ref (ad 726), .ref (ad 727), .ref (ad 728), .int (sI (thS S 0) 600 29), .int (nI (sN (thS S 0) 26)), .ref (ad 731), .ref (ad 732), .int (nI (sN (thS S 0) 27)), .int (nI (sN (thS S 0) 28)), .int (nI (sN (thS S 0) 29)), .int (nI (sN (thS S 0) 30)), .ref (ad 737), .int (nI (sN (thS S 0) 31)), .int (nI (sN (thS S 0) 32)), .int (sI (thS S 0) 600 40), .ref (ad 741)])) := hR.m
  have hB : Z3.2.2 = Z0.2.2 := by rw [b3, b2]; exact hB
  refine g_aload_nq d_Mo_run_200 rfl 2 rfl ?_
  refine g_iconst (v := 1) d_Mo_run_201 rfl ?_
  refine g_put d_Mo_run_202 w_Mo_264_Mo (by assumption) (by first | rfl | exact zb_nar _) (by first | rfl | exact zb_fit _ | exact zrf_fit _) (by first | exact Nat.le_of_ble_eq_true rfl | omega) ?_
  refine gen_putI (P := fun z => G w y_Mo_run c_Mo_run 7 r_Mo_run (5, 142) Q _ _ _ z) hR (i := 600) lv6 c6_29 (fun Z1 e1 hR => ?_)
  have hm := zhs_put_same' e1 hm
  simp only [List.set] at hm
  have hB : Z1.2.2 = Z0.2.2 := by rw [← e1]; exact hB
  refine g_iload_n d_Mo_run_205 rfl 1 rfl ?_
  refine g_iret d_Mo_run_206 ?_
  exact hQ _ _ hR (by rw [hB, hZ0])
