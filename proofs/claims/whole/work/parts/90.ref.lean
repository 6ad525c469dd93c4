/-! The reference: reading words -/
theorem wN_wN {S : ST} {n u v : Nat} : wN (wN S n u) n v = wN S n v := by
  show (S.1, S.2.1, S.2.2.1, va_up (va_up S.2.2.2 n u) n v) = (S.1, S.2.1, S.2.2.1, va_up S.2.2.2 n v)
  congr 3
  funext j
  unfold va_up
  split <;> rfl
theorem wN_cm {S : ST} {n m u v : Nat} (h : n ≠ m) : wN (wN S n u) m v = wN (wN S m v) n u := by
  show (S.1, S.2.1, S.2.2.1, va_up (va_up S.2.2.2 n u) m v) = (S.1, S.2.1, S.2.2.1, va_up (va_up S.2.2.2 m v) n u)
  congr 3
  funext j
  unfold va_up
  by_cases h1 : j = m
  · rw [if_pos h1, if_neg (by omega), if_pos h1]
  · rw [if_neg h1, if_neg h1]
theorem wN_id {S : ST} {n : Nat} : wN S n (sN S n) = S := by
  show (S.1, S.2.1, S.2.2.1, va_up S.2.2.2 n (S.2.2.2 n)) = S
  rw [up_self]
def mP (S : ST) : Nat := skS (sI S 716) (sN S 24 - sN S 28) (sN S 28)
def mE (S : ST) : Nat := skW (sI S 716) (sN S 24 - mP S) (mP S)
def mnx (S : ST) : ST := if mP S < mE S then wN (wN (wN S 27 (mP S)) 28 (mE S)) 29 (sN S 29 + 1) else wN (wN S 27 (mP S)) 28 (mE S)
def sh8 (v : Int64) : Int64 := v <<< ((8 : Int32).toInt64 &&& 63)
def spF (f : Nat → Int32) : Nat → Nat → Int64 → Int64
  | 0, _, v => v
  | m + 1, i, v => spF f m (i + 1) (sh8 v ||| (f i).toInt64)
def spR (S : ST) : Int64 := if nI (sN S 28 - sN S 27) ≤ 8 then spF (sI S 716) (sN S 28 - sN S 27) (sN S 27) 0 else 0
def wd1 (v : Int64) (c : Int32) : Int64 := if c ≤ 0 then v else sh8 v ||| c.toInt64
def wdR (a b c e g : Int32) : Int64 := wd1 (wd1 (wd1 (sh8 a.toInt64 ||| b.toInt64) c) e) g
abbrev nuR (S : ST) (i : Nat) : Prop := ¬ 10 ≤ nI (sN S 28 - sN S 27) ∧ ∀ j, j < i → sN S 27 ≤ j → ¬ sI S 716 j < 48 ∧ ¬ 58 ≤ sI S 716 j
def vaF (f : Nat → Int32) : Nat → Nat → Int32 → Int32
  | 0, _, v => v
  | m + 1, i, v => vaF f m (i + 1) (10 * v + f i - 48)
def vaR (S : ST) : Int32 := vaF (sI S 716) (sN S 28 - sN S 27) (sN S 27) 0
def pcn (S : ST) : Nat := (sI S 721 (sN S 30)).toNatClampNeg
def mput (S : ST) (x y : Int32) : ST := wI (wI (wI S 722 (upd (sI S 722) (90 * sN S 30 + pcn S) x)) 723 (upd (sI S 723) (90 * sN S 30 + pcn S) y)) 721 (upd (sI S 721) (sN S 30) (nI (pcn S + 1)))
def mwai (S : ST) (x : Int32) : ST := wN (wI S 737 (upd (sI S 737) (sN S 31) x)) 31 (sN S 31 + 1)
def mrel (x : Int32) : Nat → ST → ST
  | 0, S => S
  | n + 1, S => if mrk (sI S 737 n) < x then S else mrel x n (mput (wN S 31 n) (sI S 737 n) 0)
set_option maxHeartbeats 4000000 in
set_option maxRecDepth 100000 in
theorem L1_Mo_nextWord {w : zC} {Q : zR → zZ → Prop} {ad : Nat → Nat} {T : ST} (hL : ciLive T) (h160 : sN T 24 ≤ 160) (n : Nat) : ∀ i Z, i + n = sN T 24 → Rep w ad (wN T 28 i) Z → (∀ Z', Rep w ad (wN T 28 (skS (sI T 716) n i)) Z' → Z'.2.2 = Z.2.2 → G w y_Mo_nextWord c_Mo_nextWord 1 r_Mo_nextWord (0, 0) Q 38 [(0, .ref (ad 600))] [] Z') → G w y_Mo_nextWord c_Mo_nextWord 1 r_Mo_nextWord (0, 0) Q 0 [(0, .ref (ad 600))] [] Z := by
  induction n with
  | zero =>
    intro i Z hi hR hk
    have hm : zhs Z (ad 600) (.inr (10, [.int (sI T 600 0), .ref (ad 701), .int (nI (sN T 20)), .int (nI (sN T 21)), .int (nI (sN T 22)), .ref (ad 705), .ref (ad 706), .ref (ad 707), .ref (ad 708), .ref (ad 709), .ref (ad 710), .ref (ad 711), .int (nI (sN T 23)), .ref (ad 713), .ref (ad 714), .ref (ad 715), .ref (ad 716), .int (nI (sN T 24)), .int (nI (sN T 25)), .ref (ad 719), .ref (ad 720), .ref (ad 721), .ref (ad 722), .ref (ad 723), .ref (ad 724), .int (sI T 600 25), .ref (ad 726), .ref (ad 727), .ref (ad 728), .int (sI T 600 29), .int (nI (sN T 26)), .ref (ad 731), .ref (ad 732), .int (nI (sN T 27)), .int (nI i), .int (nI (sN T 29)), .int (nI (sN T 30)), .ref (ad 737), .int (nI (sN T 31)), .int (nI (sN T 32)), .int (sI T 600 40), .ref (ad 741)])) := hR.m
    have m716 : zhs Z (ad 716) (xi w 160 (sI T 716)) := hR.ma 716 (by decide)
    refine g_aload_nq d_Mo_nextWord_0 rfl 0 rfl ?_
    refine g_get d_Mo_nextWord_1 f_Mo_122_Mo (by assumption) (by first | rfl | assumption) ?_
    refine g_aload_nq d_Mo_nextWord_4 rfl 0 rfl ?_
    refine g_get d_Mo_nextWord_5 f_Mo_119_Mo (by assumption) (by first | rfl | assumption) ?_
    refine g_icmp_ge (tgt := 38) d_Mo_nextWord_8 (by decide) (fun h8 => ?_) (fun h8 => ?_)
    · exact hk Z hR rfl
    · exact absurd (nI_le (by omega) (by omega)) h8
  | succ n ih =>
    intro i Z hi hR hk
    have hm : zhs Z (ad 600) (.inr (10, [.int (sI T 600 0), .ref (ad 701), .int (nI (sN T 20)), .int (nI (sN T 21)), .int (nI (sN T 22)), .ref (ad 705), .ref (ad 706), .ref (ad 707), .ref (ad 708), .ref (ad 709), .ref (ad 710), .ref (ad 711), .int (nI (sN T 23)), .ref (ad 713), .ref (ad 714), .ref (ad 715), .ref (ad 716), .int (nI (sN T 24)), .int (nI (sN T 25)), .ref (ad 719), .ref (ad 720), .ref (ad 721), .ref (ad 722), .ref (ad 723), .ref (ad 724), .int (sI T 600 25), .ref (ad 726), .ref (ad 727), .ref (ad 728), .int (sI T 600 29), .int (nI (sN T 26)), .ref (ad 731), .ref (ad 732), .int (nI (sN T 27)), .int (nI i), .int (nI (sN T 29)), .int (nI (sN T 30)), .ref (ad 737), .int (nI (sN T 31)), .int (nI (sN T 32)), .int (sI T 600 40), .ref (ad 741)])) := hR.m
    have m716 : zhs Z (ad 716) (xi w 160 (sI T 716)) := hR.ma 716 (by decide)
    refine g_aload_nq d_Mo_nextWord_0 rfl 0 rfl ?_
    refine g_get d_Mo_nextWord_1 f_Mo_122_Mo (by assumption) (by first | rfl | assumption) ?_
    refine g_aload_nq d_Mo_nextWord_4 rfl 0 rfl ?_
    refine g_get d_Mo_nextWord_5 f_Mo_119_Mo (by assumption) (by first | rfl | assumption) ?_
    refine g_icmp_ge (tgt := 38) d_Mo_nextWord_8 (by decide) (fun h8 => ?_) (fun h8 => ?_)
    · exact absurd h8 (nI_ge (by omega) (by omega))
    · refine g_aload_nq d_Mo_nextWord_11 rfl 0 rfl ?_
      refine g_get d_Mo_nextWord_12 f_Mo_44_Mo (by assumption) (by first | rfl | assumption) ?_
      refine g_aload_nq d_Mo_nextWord_15 rfl 0 rfl ?_
      refine g_get d_Mo_nextWord_16 f_Mo_122_Mo (by assumption) (by first | rfl | assumption) ?_
      refine g_iald d_Mo_nextWord_19 (by assumption) (vp_in_nI (n := i) (by omega) (by decide)) ?_
      rw [nI_clamp (by omega)]
      refine g_bipush (v := 32) d_Mo_nextWord_20 rfl ?_
      refine g_icmp_ne (tgt := 38) d_Mo_nextWord_22 (by decide) (fun h22 => ?_) (fun h22 => ?_)
      · rw [skS, if_neg h22] at hk
        exact hk Z hR rfl
      · rw [skS, if_pos h22] at hk
        refine g_aload_nq d_Mo_nextWord_25 rfl 0 rfl ?_
        refine g_dup d_Mo_nextWord_26 rfl ?_
        refine g_get d_Mo_nextWord_27 f_Mo_122_Mo (by assumption) (by first | rfl | assumption) ?_
        refine g_iconst (v := 1) d_Mo_nextWord_30 rfl ?_
        refine g_iadd d_Mo_nextWord_31 ?_
        rw [nI_1]
        refine g_put d_Mo_nextWord_32 w_Mo_122_Mo (by assumption) (by rfl) (by rfl) (by first | exact Nat.le_of_ble_eq_true rfl | omega) ?_
        refine gen_putN (P := fun z => G w y_Mo_nextWord c_Mo_nextWord 1 r_Mo_nextWord (0, 0) Q _ _ _ z) hR (hL.N (by decide)) (n := 28) (by decide) c6N_28 (fun Z1 e1 hR _ => ?_)
        rw [wN_wN] at hR
        have hB1 : Z1.2.2 = Z.2.2 := by rw [← e1]; rfl
        refine g_goto (tgt := 0) d_Mo_nextWord_35 (by decide) ?_
        exact ih (i + 1) Z1 (by omega) hR (fun Z9 r9 b9 => hk Z9 r9 (b9.trans hB1))

set_option maxHeartbeats 4000000 in
set_option maxRecDepth 100000 in
theorem L2_Mo_nextWord {w : zC} {Q : zR → zZ → Prop} {ad : Nat → Nat} {T : ST} (hL : ciLive T) (h160 : sN T 24 ≤ 160) (n : Nat) : ∀ i Z, i + n = sN T 24 → Rep w ad (wN T 28 i) Z → (∀ Z', Rep w ad (wN T 28 (skW (sI T 716) n i)) Z' → Z'.2.2 = Z.2.2 → G w y_Mo_nextWord c_Mo_nextWord 1 r_Mo_nextWord (0, 0) Q 84 [(0, .ref (ad 600))] [] Z') → G w y_Mo_nextWord c_Mo_nextWord 1 r_Mo_nextWord (0, 0) Q 46 [(0, .ref (ad 600))] [] Z := by
  induction n with
  | zero =>
    intro i Z hi hR hk
    have hm : zhs Z (ad 600) (.inr (10, [.int (sI T 600 0), .ref (ad 701), .int (nI (sN T 20)), .int (nI (sN T 21)), .int (nI (sN T 22)), .ref (ad 705), .ref (ad 706), .ref (ad 707), .ref (ad 708), .ref (ad 709), .ref (ad 710), .ref (ad 711), .int (nI (sN T 23)), .ref (ad 713), .ref (ad 714), .ref (ad 715), .ref (ad 716), .int (nI (sN T 24)), .int (nI (sN T 25)), .ref (ad 719), .ref (ad 720), .ref (ad 721), .ref (ad 722), .ref (ad 723), .ref (ad 724), .int (sI T 600 25), .ref (ad 726), .ref (ad 727), .ref (ad 728), .int (sI T 600 29), .int (nI (sN T 26)), .ref (ad 731), .ref (ad 732), .int (nI (sN T 27)), .int (nI i), .int (nI (sN T 29)), .int (nI (sN T 30)), .ref (ad 737), .int (nI (sN T 31)), .int (nI (sN T 32)), .int (sI T 600 40), .ref (ad 741)])) := hR.m
    have m716 : zhs Z (ad 716) (xi w 160 (sI T 716)) := hR.ma 716 (by decide)
    refine g_aload_nq d_Mo_nextWord_46 rfl 0 rfl ?_
    refine g_get d_Mo_nextWord_47 f_Mo_122_Mo (by assumption) (by first | rfl | assumption) ?_
    refine g_aload_nq d_Mo_nextWord_50 rfl 0 rfl ?_
    refine g_get d_Mo_nextWord_51 f_Mo_119_Mo (by assumption) (by first | rfl | assumption) ?_
    refine g_icmp_ge (tgt := 84) d_Mo_nextWord_54 (by decide) (fun h54 => ?_) (fun h54 => ?_)
    · exact hk Z hR rfl
    · exact absurd (nI_le (by omega) (by omega)) h54
  | succ n ih =>
    intro i Z hi hR hk
    have hm : zhs Z (ad 600) (.inr (10, [.int (sI T 600 0), .ref (ad 701), .int (nI (sN T 20)), .int (nI (sN T 21)), .int (nI (sN T 22)), .ref (ad 705), .ref (ad 706), .ref (ad 707), .ref (ad 708), .ref (ad 709), .ref (ad 710), .ref (ad 711), .int (nI (sN T 23)), .ref (ad 713), .ref (ad 714), .ref (ad 715), .ref (ad 716), .int (nI (sN T 24)), .int (nI (sN T 25)), .ref (ad 719), .ref (ad 720), .ref (ad 721), .ref (ad 722), .ref (ad 723), .ref (ad 724), .int (sI T 600 25), .ref (ad 726), .ref (ad 727), .ref (ad 728), .int (sI T 600 29), .int (nI (sN T 26)), .ref (ad 731), .ref (ad 732), .int (nI (sN T 27)), .int (nI i), .int (nI (sN T 29)), .int (nI (sN T 30)), .ref (ad 737), .int (nI (sN T 31)), .int (nI (sN T 32)), .int (sI T 600 40), .ref (ad 741)])) := hR.m
    have m716 : zhs Z (ad 716) (xi w 160 (sI T 716)) := hR.ma 716 (by decide)
    refine g_aload_nq d_Mo_nextWord_46 rfl 0 rfl ?_
    refine g_get d_Mo_nextWord_47 f_Mo_122_Mo (by assumption) (by first | rfl | assumption) ?_
    refine g_aload_nq d_Mo_nextWord_50 rfl 0 rfl ?_
    refine g_get d_Mo_nextWord_51 f_Mo_119_Mo (by assumption) (by first | rfl | assumption) ?_
    refine g_icmp_ge (tgt := 84) d_Mo_nextWord_54 (by decide) (fun h54 => ?_) (fun h54 => ?_)
    · exact absurd h54 (nI_ge (by omega) (by omega))
    · refine g_aload_nq d_Mo_nextWord_57 rfl 0 rfl ?_
      refine g_get d_Mo_nextWord_58 f_Mo_44_Mo (by assumption) (by first | rfl | assumption) ?_
      refine g_aload_nq d_Mo_nextWord_61 rfl 0 rfl ?_
      refine g_get d_Mo_nextWord_62 f_Mo_122_Mo (by assumption) (by first | rfl | assumption) ?_
      refine g_iald d_Mo_nextWord_65 (by assumption) (vp_in_nI (n := i) (by omega) (by decide)) ?_
      rw [nI_clamp (by omega)]
      refine g_bipush (v := 32) d_Mo_nextWord_66 rfl ?_
      refine g_icmp_eq (tgt := 84) d_Mo_nextWord_68 (by decide) (fun h68 => ?_) (fun h68 => ?_)
      · rw [skW, if_pos h68] at hk
        exact hk Z hR rfl
      · rw [skW, if_neg h68] at hk
        refine g_aload_nq d_Mo_nextWord_71 rfl 0 rfl ?_
        refine g_dup d_Mo_nextWord_72 rfl ?_
        refine g_get d_Mo_nextWord_73 f_Mo_122_Mo (by assumption) (by first | rfl | assumption) ?_
        refine g_iconst (v := 1) d_Mo_nextWord_76 rfl ?_
        refine g_iadd d_Mo_nextWord_77 ?_
        rw [nI_1]
        refine g_put d_Mo_nextWord_78 w_Mo_122_Mo (by assumption) (by rfl) (by rfl) (by first | exact Nat.le_of_ble_eq_true rfl | omega) ?_
        refine gen_putN (P := fun z => G w y_Mo_nextWord c_Mo_nextWord 1 r_Mo_nextWord (0, 0) Q _ _ _ z) hR (hL.N (by decide)) (n := 28) (by decide) c6N_28 (fun Z1 e1 hR _ => ?_)
        rw [wN_wN] at hR
        have hB1 : Z1.2.2 = Z.2.2 := by rw [← e1]; rfl
        refine g_goto (tgt := 46) d_Mo_nextWord_81 (by decide) ?_
        exact ih (i + 1) Z1 (by omega) hR (fun Z9 r9 b9 => hk Z9 r9 (b9.trans hB1))

set_option maxHeartbeats 4000000 in
set_option maxRecDepth 100000 in
theorem C_Mo_nextWord {w : zC} {Z : zZ} {Q : zR → zZ → Prop} {ad : Nat → Nat} {S : ST} (hR : Rep w ad S Z) (hL : ciLive S) (h160 : sN S 24 ≤ 160) (hat : sN S 28 ≤ sN S 24) (hQ : ∀ Z', Rep w ad (mnx S) Z' → Z'.2.2 = Z.2.2 → Q (.inl (some (.int (zb (mP S < mE S))))) Z') : Cz w (0, 0) y_Mo_nextWord (Cond.code y_Mo_nextWord c_Mo_nextWord 1 r_Mo_nextWord :: wz) [.ref (ad 600)] Z Q := by
  refine Cz.of (by decide +kernel) (by simp [lg_sl, Value.category]) ?_
  show G _ _ _ _ _ _ _ _ [(0, _)] _ _
  refine L1_Mo_nextWord hL h160 (sN S 24 - sN S 28) (sN S 28) Z (by omega) (by rw [wN_id]; exact hR) (fun Z2 hR2 b2 => ?_)
  have hp := skS_le (f := sI S 716) (n := sN S 24 - sN S 28) (i := sN S 28)
  unfold mnx mE mP at hQ
  generalize skS (sI S 716) (sN S 24 - sN S 28) (sN S 28) = p at *
  have hm : zhs Z2 (ad 600) (.inr (10, [.int (sI S 600 0), .ref (ad 701), .int (nI (sN S 20)), .int (nI (sN S 21)), .int (nI (sN S 22)), .ref (ad 705), .ref (ad 706), .ref (ad 707), .ref (ad 708), .ref (ad 709), .ref (ad 710), .ref (ad 711), .int (nI (sN S 23)), .ref (ad 713), .ref (ad 714), .ref (ad 715), .ref (ad 716), .int (nI (sN S 24)), .int (nI (sN S 25)), .ref (ad 719), .ref (ad 720), .ref (ad 721), .ref (ad 722), .ref (ad 723), .ref (ad 724), .int (sI S 600 25), .ref (ad 726), .ref (ad 727), .ref (ad 728), .int (sI S 600 29), .int (nI (sN S 26)), .ref (ad 731), .ref (ad 732), .int (nI (sN S 27)), .int (nI p), .int (nI (sN S 29)), .int (nI (sN S 30)), .ref (ad 737), .int (nI (sN S 31)), .int (nI (sN S 32)), .int (sI S 600 40), .ref (ad 741)])) := hR2.m
  refine g_aload_nq d_Mo_nextWord_38 rfl 0 rfl ?_
  refine g_aload_nq d_Mo_nextWord_39 rfl 0 rfl ?_
  refine g_get d_Mo_nextWord_40 f_Mo_122_Mo (by assumption) (by first | rfl | assumption) ?_
  refine g_put d_Mo_nextWord_43 w_Mo_125_Mo (by assumption) (by rfl) (by rfl) (by first | exact Nat.le_of_ble_eq_true rfl | omega) ?_
  refine gen_putN (P := fun z => G w y_Mo_nextWord c_Mo_nextWord 1 r_Mo_nextWord (0, 0) Q _ _ _ z) hR2 (hL.N (by decide)) (n := 27) (by decide) c6N_27 (fun Z3 e3 hR3 hL3 => ?_)
  rw [wN_cm (by decide)] at hR3
  have b3 : Z3.2.2 = Z.2.2 := by rw [← e3]; exact b2
  refine L2_Mo_nextWord (T := wN S 27 p) (hL.N (by decide)) h160 (sN S 24 - p) p Z3 (by show p + (sN S 24 - p) = sN S 24; omega) hR3 (fun Z4 hR4 b4 => ?_)
  have hq := skW_le (f := sI S 716) (n := sN S 24 - p) (i := p)
  rw [show sI (wN S 27 p) 716 = sI S 716 from rfl] at hR4
  generalize skW (sI S 716) (sN S 24 - p) p = q at *
  have hm : zhs Z4 (ad 600) (.inr (10, [.int (sI S 600 0), .ref (ad 701), .int (nI (sN S 20)), .int (nI (sN S 21)), .int (nI (sN S 22)), .ref (ad 705), .ref (ad 706), .ref (ad 707), .ref (ad 708), .ref (ad 709), .ref (ad 710), .ref (ad 711), .int (nI (sN S 23)), .ref (ad 713), .ref (ad 714), .ref (ad 715), .ref (ad 716), .int (nI (sN S 24)), .int (nI (sN S 25)), .ref (ad 719), .ref (ad 720), .ref (ad 721), .ref (ad 722), .ref (ad 723), .ref (ad 724), .int (sI S 600 25), .ref (ad 726), .ref (ad 727), .ref (ad 728), .int (sI S 600 29), .int (nI (sN S 26)), .ref (ad 731), .ref (ad 732), .int (nI p), .int (nI q), .int (nI (sN S 29)), .int (nI (sN S 30)), .ref (ad 737), .int (nI (sN S 31)), .int (nI (sN S 32)), .int (sI S 600 40), .ref (ad 741)])) := hR4.m
  have hB : Z4.2.2 = Z.2.2 := b4.trans b3
  refine g_aload_nq d_Mo_nextWord_84 rfl 0 rfl ?_
  refine g_get d_Mo_nextWord_85 f_Mo_122_Mo (by assumption) (by first | rfl | assumption) ?_
  refine g_aload_nq d_Mo_nextWord_88 rfl 0 rfl ?_
  refine g_get d_Mo_nextWord_89 f_Mo_125_Mo (by assumption) (by first | rfl | assumption) ?_
  refine g_icmp_le (tgt := 105) d_Mo_nextWord_92 (by decide) (fun h92 => ?_) (fun h92 => ?_)
  · have hle : ¬ p < q := fun z => nI_ge z (by omega) h92
    rw [if_neg hle, zb_f hle] at hQ
    have hF := hQ Z4 hR4 hB
    refine g_aload_nq d_Mo_nextWord_105 rfl 0 rfl ?_
    refine g_get d_Mo_nextWord_106 f_Mo_122_Mo (by assumption) (by first | rfl | assumption) ?_
    refine g_aload_nq d_Mo_nextWord_109 rfl 0 rfl ?_
    refine g_get d_Mo_nextWord_110 f_Mo_125_Mo (by assumption) (by first | rfl | assumption) ?_
    refine g_icmp_le (tgt := 120) d_Mo_nextWord_113 (by decide) (fun h113 => ?_) (fun h113 => ?_)
    · refine g_iconst (v := 0) d_Mo_nextWord_120 rfl ?_
      refine g_zret d_Mo_nextWord_121 ?_ ?_
      · first | rfl | exact zb_nar _ | exact zb_narc (by assumption)
      · exact hF
    · exact absurd (nI_le (by omega) (by omega)) h113
  · have hlt : p < q := Nat.not_le.mp (fun z => h92 (nI_le z (by omega)))
    rw [if_pos hlt, zb_t hlt] at hQ
    refine g_aload_nq d_Mo_nextWord_95 rfl 0 rfl ?_
    refine g_dup d_Mo_nextWord_96 rfl ?_
    refine g_get d_Mo_nextWord_97 f_Mo_128_Mo (by assumption) (by first | rfl | assumption) ?_
    refine g_iconst (v := 1) d_Mo_nextWord_100 rfl ?_
    refine g_iadd d_Mo_nextWord_101 ?_
    rw [nI_1]
    refine g_put d_Mo_nextWord_102 w_Mo_128_Mo (by assumption) (by rfl) (by rfl) (by first | exact Nat.le_of_ble_eq_true rfl | omega) ?_
    refine gen_putN (P := fun z => G w y_Mo_nextWord c_Mo_nextWord 1 r_Mo_nextWord (0, 0) Q _ _ _ z) hR4 ((hL.N (by decide)).N (by decide)) (n := 29) (by decide) c6N_29 (fun Z5 e5 hR5 _ => ?_)
    have hm := zhs_put_same' e5 hm
    simp only [List.set] at hm
    have hF := hQ Z5 hR5 (by rw [← e5]; exact hB)
    refine g_aload_nq d_Mo_nextWord_105 rfl 0 rfl ?_
    refine g_get d_Mo_nextWord_106 f_Mo_122_Mo (by assumption) (by first | rfl | assumption) ?_
    refine g_aload_nq d_Mo_nextWord_109 rfl 0 rfl ?_
    refine g_get d_Mo_nextWord_110 f_Mo_125_Mo (by assumption) (by first | rfl | assumption) ?_
    refine g_icmp_le (tgt := 120) d_Mo_nextWord_113 (by decide) (fun h113 => ?_) (fun h113 => ?_)
    · exact absurd h113 (nI_ge hlt (by omega))
    · refine g_iconst (v := 1) d_Mo_nextWord_116 rfl ?_
      refine g_goto (tgt := 121) d_Mo_nextWord_117 (by decide) ?_
      refine g_zret d_Mo_nextWord_121 ?_ ?_
      · first | rfl | exact zb_nar _ | exact zb_narc (by assumption)
      · exact hF

set_option maxHeartbeats 4000000 in
set_option maxRecDepth 100000 in
theorem L_Mo_spelt {w : zC} {Z : zZ} {Q : zR → zZ → Prop} {ad : Nat → Nat} {S : ST} (hR : Rep w ad S Z) (h1 : sN S 27 ≤ sN S 28) (h2 : sN S 28 ≤ 160) (m : Nat) : ∀ i v, i + m = sN S 28 → Q (.inl (some (.long (spF (sI S 716) m i v)))) Z → G w y_Mo_spelt c_Mo_spelt 4 r_Mo_spelt (0, 0) Q 23 [(3, .int (nI i)), (1, .long v), (0, .ref (ad 600))] [] Z := by
  have hm : zhs Z (ad 600) (.inr (10, [.int (sI S 600 0), .ref (ad 701), .int (nI (sN S 20)), .int (nI (sN S 21)), .int (nI (sN S 22)), .ref (ad 705), .ref (ad 706), .ref (ad 707), .ref (ad 708), .ref (ad 709), .ref (ad 710), .ref (ad 711), .int (nI (sN S 23)), .ref (ad 713), .ref (ad 714), .ref (ad 715), .ref (ad 716), .int (nI (sN S 24)), .int (nI (sN S 25)), .ref (ad 719), .ref (ad 720), .ref (ad 721), .ref (ad 722), .ref (ad 723), .ref (ad 724), .int (sI S 600 25), .ref (ad 726), .ref (ad 727), .ref (ad 728), .int (sI S 600 29), .int (nI (sN S 26)), .ref (ad 731), .ref (ad 732), .int (nI (sN S 27)), .int (nI (sN S 28)), .int (nI (sN S 29)), .int (nI (sN S 30)), .ref (ad 737), .int (nI (sN S 31)), .int (nI (sN S 32)), .int (sI S 600 40), .ref (ad 741)])) := hR.m
  have m716 : zhs Z (ad 716) (xi w 160 (sI S 716)) := hR.ma 716 (by decide)
  induction m with
  | zero =>
    intro i v hi hQ
    refine g_iload_n d_Mo_spelt_23 rfl 0 rfl ?_
    refine g_aload_nq d_Mo_spelt_24 rfl 2 rfl ?_
    refine g_get d_Mo_spelt_25 f_Mo_122_Mo (by assumption) (by first | rfl | assumption) ?_
    refine g_icmp_ge (tgt := 50) d_Mo_spelt_28 (by decide) (fun h28 => ?_) (fun h28 => ?_)
    · refine g_lload_n d_Mo_spelt_50 rfl 1 rfl ?_
      refine g_lret d_Mo_spelt_51 ?_
      exact hQ
    · exact absurd (nI_le (by omega) (by omega)) h28
  | succ m ih =>
    intro i v hi hQ
    refine g_iload_n d_Mo_spelt_23 rfl 0 rfl ?_
    refine g_aload_nq d_Mo_spelt_24 rfl 2 rfl ?_
    refine g_get d_Mo_spelt_25 f_Mo_122_Mo (by assumption) (by first | rfl | assumption) ?_
    refine g_icmp_ge (tgt := 50) d_Mo_spelt_28 (by decide) (fun h28 => ?_) (fun h28 => ?_)
    · exact absurd h28 (nI_ge (by omega) (by omega))
    · refine g_lload_n d_Mo_spelt_31 rfl 1 rfl ?_
      refine g_bipush (v := 8) d_Mo_spelt_32 rfl ?_
      refine g_lshl (v := sh8 _) d_Mo_spelt_34 rfl ?_
      refine g_aload_nq d_Mo_spelt_35 rfl 2 rfl ?_
      refine g_get d_Mo_spelt_36 f_Mo_44_Mo (by assumption) (by first | rfl | assumption) ?_
      refine g_iload_n d_Mo_spelt_39 rfl 0 rfl ?_
      refine g_iald d_Mo_spelt_40 (by assumption) (vp_in_nI (n := i) (by omega) (by decide)) ?_
      rw [nI_clamp (by omega)]
      refine g_i2l d_Mo_spelt_41 rfl ?_
      refine g_lor d_Mo_spelt_42 ?_
      refine g_lstore_n d_Mo_spelt_43 rfl (by decide) rfl ?_
      show G _ _ _ _ _ _ _ _ [(1, _), (3, _), (0, _)] _ _
      refine g_iinc (k := 1) d_Mo_spelt_44 rfl (nI_1 i) (by decide) rfl ?_
      refine g_goto (tgt := 23) d_Mo_spelt_47 (by decide) ?_
      exact ih (i + 1) _ (by omega) hQ

set_option maxHeartbeats 4000000 in
set_option maxRecDepth 100000 in
theorem C_Mo_spelt {w : zC} {Z : zZ} {Q : zR → zZ → Prop} {ad : Nat → Nat} {S : ST} (hR : Rep w ad S Z) (h1 : sN S 27 ≤ sN S 28) (h2 : sN S 28 ≤ 160) (hQ : Q (.inl (some (.long (spR S)))) Z) : Cz w (0, 0) y_Mo_spelt (Cond.code y_Mo_spelt c_Mo_spelt 4 r_Mo_spelt :: wz) [.ref (ad 600)] Z Q := by
  refine Cz.of (by decide +kernel) (by simp [lg_sl, Value.category]) ?_
  show G _ _ _ _ _ _ _ _ [(0, _)] _ _
  have hm : zhs Z (ad 600) (.inr (10, [.int (sI S 600 0), .ref (ad 701), .int (nI (sN S 20)), .int (nI (sN S 21)), .int (nI (sN S 22)), .ref (ad 705), .ref (ad 706), .ref (ad 707), .ref (ad 708), .ref (ad 709), .ref (ad 710), .ref (ad 711), .int (nI (sN S 23)), .ref (ad 713), .ref (ad 714), .ref (ad 715), .ref (ad 716), .int (nI (sN S 24)), .int (nI (sN S 25)), .ref (ad 719), .ref (ad 720), .ref (ad 721), .ref (ad 722), .ref (ad 723), .ref (ad 724), .int (sI S 600 25), .ref (ad 726), .ref (ad 727), .ref (ad 728), .int (sI S 600 29), .int (nI (sN S 26)), .ref (ad 731), .ref (ad 732), .int (nI (sN S 27)), .int (nI (sN S 28)), .int (nI (sN S 29)), .int (nI (sN S 30)), .ref (ad 737), .int (nI (sN S 31)), .int (nI (sN S 32)), .int (sI S 600 40), .ref (ad 741)])) := hR.m
  refine g_aload_nq d_Mo_spelt_0 rfl 0 rfl ?_
  refine g_get d_Mo_spelt_1 f_Mo_122_Mo (by assumption) (by first | rfl | assumption) ?_
  refine g_aload_nq d_Mo_spelt_4 rfl 0 rfl ?_
  refine g_get d_Mo_spelt_5 f_Mo_125_Mo (by assumption) (by first | rfl | assumption) ?_
  refine g_isub d_Mo_spelt_8 ?_
  rw [nI_sub h1]
  refine g_bipush (v := 8) d_Mo_spelt_9 rfl ?_
  refine g_icmp_le (tgt := 16) d_Mo_spelt_11 (by decide) (fun h11 => ?_) (fun h11 => ?_)
  · rw [spR, if_pos h11] at hQ
    refine g_lconst (v := 0) d_Mo_spelt_16 rfl ?_
    refine g_lstore_n d_Mo_spelt_17 rfl (by decide) rfl ?_
    show G _ _ _ _ _ _ _ _ [(1, _), (0, _)] _ _
    refine g_aload_nq d_Mo_spelt_18 rfl 1 rfl ?_
    refine g_get d_Mo_spelt_19 f_Mo_125_Mo (by assumption) (by first | rfl | assumption) ?_
    refine g_istore_n d_Mo_spelt_22 rfl (by decide) rfl ?_
    show G _ _ _ _ _ _ _ _ [(3, _), (1, _), (0, _)] _ _
    exact L_Mo_spelt hR h1 h2 (sN S 28 - sN S 27) (sN S 27) 0 (by omega) hQ
  · rw [spR, if_neg h11] at hQ
    refine g_lconst (v := 0) d_Mo_spelt_14 rfl ?_
    refine g_lret d_Mo_spelt_15 ?_
    exact hQ

set_option maxHeartbeats 4000000 in
set_option maxRecDepth 100000 in
theorem C_Mo_word {w : zC} {Z : zZ} {Q : zR → zZ → Prop} {a b c e g : Int32} (hQ : Q (.inl (some (.long (wdR a b c e g)))) Z) : Cz w (0, 0) y_Mo_word (Cond.code y_Mo_word c_Mo_word 7 r_Mo_word :: wz) [.int a, .int b, .int c, .int e, .int g] Z Q := by
  refine Cz.of (by decide +kernel) (by simp [lg_sl, Value.category]) ?_
  show G _ _ _ _ _ _ _ _ [(0, _), (1, _), (2, _), (3, _), (4, _)] _ _
  refine g_iload_n d_Mo_word_0 rfl 0 rfl ?_
  refine g_i2l d_Mo_word_1 rfl ?_
  refine g_bipush (v := 8) d_Mo_word_2 rfl ?_
  refine g_lshl (v := sh8 _) d_Mo_word_4 rfl ?_
  refine g_iload_n d_Mo_word_5 rfl 1 rfl ?_
  refine g_i2l d_Mo_word_6 rfl ?_
  refine g_lor d_Mo_word_7 ?_
  unfold wdR at hQ
  refine g_lstore d_Mo_word_8 (by decide) rfl ?_
  show G _ _ _ _ _ _ _ _ [(5, _), (0, _), (1, _), (2, _), (3, _), (4, _)] _ _
  refine g_iload_n d_Mo_word_10 rfl 3 rfl ?_
  refine g_if_le (tgt := 25) d_Mo_word_11 (by decide) (fun h11 => ?_) (fun h11 => ?_)
  · rw [show wd1 (sh8 a.toInt64 ||| b.toInt64) c = sh8 a.toInt64 ||| b.toInt64 from if_pos h11] at hQ
    refine g_lload d_Mo_word_25 0 rfl ?_
    refine g_lstore d_Mo_word_27 (by decide) rfl ?_
    show G _ _ _ _ _ _ _ _ [(5, _), (0, _), (1, _), (2, _), (3, _), (4, _)] _ _
    refine g_iload_n d_Mo_word_29 rfl 4 rfl ?_
    refine g_if_le (tgt := 44) d_Mo_word_30 (by decide) (fun h30 => ?_) (fun h30 => ?_)
    · rw [show ∀ v, wd1 v e = v from fun v => if_pos h30] at hQ
      refine g_lload d_Mo_word_44 0 rfl ?_
      refine g_lstore d_Mo_word_46 (by decide) rfl ?_
      show G _ _ _ _ _ _ _ _ [(5, _), (0, _), (1, _), (2, _), (3, _), (4, _)] _ _
      refine g_iload d_Mo_word_48 5 rfl ?_
      refine g_if_le (tgt := 65) d_Mo_word_50 (by decide) (fun h50 => ?_) (fun h50 => ?_)
      · rw [show ∀ v, wd1 v g = v from fun v => if_pos h50] at hQ
        refine g_lload d_Mo_word_65 0 rfl ?_
        refine g_lret d_Mo_word_67 ?_
        exact hQ
      · rw [show ∀ v, wd1 v g = sh8 v ||| g.toInt64 from fun v => if_neg h50] at hQ
        refine g_lload d_Mo_word_53 0 rfl ?_
        refine g_bipush (v := 8) d_Mo_word_55 rfl ?_
        refine g_lshl (v := sh8 _) d_Mo_word_57 rfl ?_
        refine g_iload d_Mo_word_58 5 rfl ?_
        refine g_i2l d_Mo_word_60 rfl ?_
        refine g_lor d_Mo_word_61 ?_
        refine g_goto (tgt := 67) d_Mo_word_62 (by decide) ?_
        refine g_lret d_Mo_word_67 ?_
        exact hQ
    · rw [show ∀ v, wd1 v e = sh8 v ||| e.toInt64 from fun v => if_neg h30] at hQ
      refine g_lload d_Mo_word_33 0 rfl ?_
      refine g_bipush (v := 8) d_Mo_word_35 rfl ?_
      refine g_lshl (v := sh8 _) d_Mo_word_37 rfl ?_
      refine g_iload_n d_Mo_word_38 rfl 4 rfl ?_
      refine g_i2l d_Mo_word_39 rfl ?_
      refine g_lor d_Mo_word_40 ?_
      refine g_goto (tgt := 46) d_Mo_word_41 (by decide) ?_
      refine g_lstore d_Mo_word_46 (by decide) rfl ?_
      show G _ _ _ _ _ _ _ _ [(5, _), (0, _), (1, _), (2, _), (3, _), (4, _)] _ _
      refine g_iload d_Mo_word_48 5 rfl ?_
      refine g_if_le (tgt := 65) d_Mo_word_50 (by decide) (fun h50 => ?_) (fun h50 => ?_)
      · rw [show ∀ v, wd1 v g = v from fun v => if_pos h50] at hQ
        refine g_lload d_Mo_word_65 0 rfl ?_
        refine g_lret d_Mo_word_67 ?_
        exact hQ
      · rw [show ∀ v, wd1 v g = sh8 v ||| g.toInt64 from fun v => if_neg h50] at hQ
        refine g_lload d_Mo_word_53 0 rfl ?_
        refine g_bipush (v := 8) d_Mo_word_55 rfl ?_
        refine g_lshl (v := sh8 _) d_Mo_word_57 rfl ?_
        refine g_iload d_Mo_word_58 5 rfl ?_
        refine g_i2l d_Mo_word_60 rfl ?_
        refine g_lor d_Mo_word_61 ?_
        refine g_goto (tgt := 67) d_Mo_word_62 (by decide) ?_
        refine g_lret d_Mo_word_67 ?_
        exact hQ
  · rw [show wd1 (sh8 a.toInt64 ||| b.toInt64) c = sh8 (sh8 a.toInt64 ||| b.toInt64) ||| c.toInt64 from if_neg h11] at hQ
    refine g_lload d_Mo_word_14 0 rfl ?_
    refine g_bipush (v := 8) d_Mo_word_16 rfl ?_
    refine g_lshl (v := sh8 _) d_Mo_word_18 rfl ?_
    refine g_iload_n d_Mo_word_19 rfl 3 rfl ?_
    refine g_i2l d_Mo_word_20 rfl ?_
    refine g_lor d_Mo_word_21 ?_
    refine g_goto (tgt := 27) d_Mo_word_22 (by decide) ?_
    refine g_lstore d_Mo_word_27 (by decide) rfl ?_
    show G _ _ _ _ _ _ _ _ [(5, _), (0, _), (1, _), (2, _), (3, _), (4, _)] _ _
    refine g_iload_n d_Mo_word_29 rfl 4 rfl ?_
    refine g_if_le (tgt := 44) d_Mo_word_30 (by decide) (fun h30 => ?_) (fun h30 => ?_)
    · rw [show ∀ v, wd1 v e = v from fun v => if_pos h30] at hQ
      refine g_lload d_Mo_word_44 0 rfl ?_
      refine g_lstore d_Mo_word_46 (by decide) rfl ?_
      show G _ _ _ _ _ _ _ _ [(5, _), (0, _), (1, _), (2, _), (3, _), (4, _)] _ _
      refine g_iload d_Mo_word_48 5 rfl ?_
      refine g_if_le (tgt := 65) d_Mo_word_50 (by decide) (fun h50 => ?_) (fun h50 => ?_)
      · rw [show ∀ v, wd1 v g = v from fun v => if_pos h50] at hQ
        refine g_lload d_Mo_word_65 0 rfl ?_
        refine g_lret d_Mo_word_67 ?_
        exact hQ
      · rw [show ∀ v, wd1 v g = sh8 v ||| g.toInt64 from fun v => if_neg h50] at hQ
        refine g_lload d_Mo_word_53 0 rfl ?_
        refine g_bipush (v := 8) d_Mo_word_55 rfl ?_
        refine g_lshl (v := sh8 _) d_Mo_word_57 rfl ?_
        refine g_iload d_Mo_word_58 5 rfl ?_
        refine g_i2l d_Mo_word_60 rfl ?_
        refine g_lor d_Mo_word_61 ?_
        refine g_goto (tgt := 67) d_Mo_word_62 (by decide) ?_
        refine g_lret d_Mo_word_67 ?_
        exact hQ
    · rw [show ∀ v, wd1 v e = sh8 v ||| e.toInt64 from fun v => if_neg h30] at hQ
      refine g_lload d_Mo_word_33 0 rfl ?_
      refine g_bipush (v := 8) d_Mo_word_35 rfl ?_
      refine g_lshl (v := sh8 _) d_Mo_word_37 rfl ?_
      refine g_iload_n d_Mo_word_38 rfl 4 rfl ?_
      refine g_i2l d_Mo_word_39 rfl ?_
      refine g_lor d_Mo_word_40 ?_
      refine g_goto (tgt := 46) d_Mo_word_41 (by decide) ?_
      refine g_lstore d_Mo_word_46 (by decide) rfl ?_
      show G _ _ _ _ _ _ _ _ [(5, _), (0, _), (1, _), (2, _), (3, _), (4, _)] _ _
      refine g_iload d_Mo_word_48 5 rfl ?_
      refine g_if_le (tgt := 65) d_Mo_word_50 (by decide) (fun h50 => ?_) (fun h50 => ?_)
      · rw [show ∀ v, wd1 v g = v from fun v => if_pos h50] at hQ
        refine g_lload d_Mo_word_65 0 rfl ?_
        refine g_lret d_Mo_word_67 ?_
        exact hQ
      · rw [show ∀ v, wd1 v g = sh8 v ||| g.toInt64 from fun v => if_neg h50] at hQ
        refine g_lload d_Mo_word_53 0 rfl ?_
        refine g_bipush (v := 8) d_Mo_word_55 rfl ?_
        refine g_lshl (v := sh8 _) d_Mo_word_57 rfl ?_
        refine g_iload d_Mo_word_58 5 rfl ?_
        refine g_i2l d_Mo_word_60 rfl ?_
        refine g_lor d_Mo_word_61 ?_
        refine g_goto (tgt := 67) d_Mo_word_62 (by decide) ?_
        refine g_lret d_Mo_word_67 ?_
        exact hQ

set_option maxHeartbeats 4000000 in
set_option maxRecDepth 100000 in
theorem L_Mo_isNumber {w : zC} {Z : zZ} {Q : zR → zZ → Prop} {ad : Nat → Nat} {S : ST} (hR : Rep w ad S Z) (h1 : sN S 27 ≤ sN S 28) (h2 : sN S 28 ≤ 160) (hQ : Q (.inl (some (.int (zb (nuR S (sN S 28)))))) Z) (m : Nat) : ∀ i, i + m = sN S 28 → sN S 27 ≤ i → G w y_Mo_isNumber c_Mo_isNumber 3 r_Mo_isNumber (0, 0) Q 25 [(2, .int (nI i)), (1, .int (zb (nuR S i))), (0, .ref (ad 600))] [] Z := by
  have hm : zhs Z (ad 600) (.inr (10, [.int (sI S 600 0), .ref (ad 701), .int (nI (sN S 20)), .int (nI (sN S 21)), .int (nI (sN S 22)), .ref (ad 705), .ref (ad 706), .ref (ad 707), .ref (ad 708), .ref (ad 709), .ref (ad 710), .ref (ad 711), .int (nI (sN S 23)), .ref (ad 713), .ref (ad 714), .ref (ad 715), .ref (ad 716), .int (nI (sN S 24)), .int (nI (sN S 25)), .ref (ad 719), .ref (ad 720), .ref (ad 721), .ref (ad 722), .ref (ad 723), .ref (ad 724), .int (sI S 600 25), .ref (ad 726), .ref (ad 727), .ref (ad 728), .int (sI S 600 29), .int (nI (sN S 26)), .ref (ad 731), .ref (ad 732), .int (nI (sN S 27)), .int (nI (sN S 28)), .int (nI (sN S 29)), .int (nI (sN S 30)), .ref (ad 737), .int (nI (sN S 31)), .int (nI (sN S 32)), .int (sI S 600 40), .ref (ad 741)])) := hR.m
  have m716 : zhs Z (ad 716) (xi w 160 (sI S 716)) := hR.ma 716 (by decide)
  induction m with
  | zero =>
    intro i hi hi2
    refine g_iload_n d_Mo_isNumber_25 rfl 0 rfl ?_
    refine g_aload_nq d_Mo_isNumber_26 rfl 2 rfl ?_
    refine g_get d_Mo_isNumber_27 f_Mo_122_Mo (by assumption) (by first | rfl | assumption) ?_
    refine g_icmp_ge (tgt := 71) d_Mo_isNumber_30 (by decide) (fun h30 => ?_) (fun h30 => ?_)
    · rw [show i = sN S 28 by omega]
      refine g_iload_n d_Mo_isNumber_71 rfl 1 rfl ?_
      refine g_zret d_Mo_isNumber_72 ?_ ?_
      · first | rfl | exact zb_nar _ | exact zb_narc (by assumption)
      · exact hQ
    · exact absurd (nI_le (by omega) (by omega)) h30
  | succ m ih =>
    intro i hi hi2
    refine g_iload_n d_Mo_isNumber_25 rfl 0 rfl ?_
    refine g_aload_nq d_Mo_isNumber_26 rfl 2 rfl ?_
    refine g_get d_Mo_isNumber_27 f_Mo_122_Mo (by assumption) (by first | rfl | assumption) ?_
    refine g_icmp_ge (tgt := 71) d_Mo_isNumber_30 (by decide) (fun h30 => ?_) (fun h30 => ?_)
    · exact absurd h30 (nI_ge (by omega) (by omega))
    · refine g_iload_n d_Mo_isNumber_33 rfl 1 rfl ?_
      first | refine g_if_eqB (tgt := 63) d_Mo_isNumber_34 (by decide) (fun h34 => ?_) (fun h34 => ?_) | refine g_if_eq (tgt := 63) d_Mo_isNumber_34 (by decide) (fun h34 => ?_) (fun h34 => ?_)
      · have hb : ¬ nuR S (i + 1) := fun z => h34 ⟨z.1, fun j hj => z.2 j (by omega)⟩
        refine g_iconst (v := 0) d_Mo_isNumber_63 rfl ?_
        refine g_istore_n d_Mo_isNumber_64 rfl (by decide) rfl ?_
        show G _ _ _ _ _ _ _ _ [(1, _), (2, _), (0, _)] _ _
        refine g_iinc (k := 1) d_Mo_isNumber_65 rfl (nI_1 i) (by decide) rfl ?_
        refine g_goto (tgt := 25) d_Mo_isNumber_68 (by decide) ?_
        have hi1 := ih (i + 1) (by omega) (by omega)
        rw [zb_f hb] at hi1
        exact hi1
      · refine g_aload_nq d_Mo_isNumber_37 rfl 2 rfl ?_
        refine g_get d_Mo_isNumber_38 f_Mo_44_Mo (by assumption) (by first | rfl | assumption) ?_
        refine g_iload_n d_Mo_isNumber_41 rfl 0 rfl ?_
        refine g_iald d_Mo_isNumber_42 (by assumption) (vp_in_nI (n := i) (by omega) (by decide)) ?_
        rw [nI_clamp (by omega)]
        refine g_bipush (v := 48) d_Mo_isNumber_43 rfl ?_
        refine g_icmp_lt (tgt := 63) d_Mo_isNumber_45 (by decide) (fun h45 => ?_) (fun h45 => ?_)
        · have hb : ¬ nuR S (i + 1) := fun z => (z.2 i (by omega) (by omega)).1 h45
          refine g_iconst (v := 0) d_Mo_isNumber_63 rfl ?_
          refine g_istore_n d_Mo_isNumber_64 rfl (by decide) rfl ?_
          show G _ _ _ _ _ _ _ _ [(1, _), (2, _), (0, _)] _ _
          refine g_iinc (k := 1) d_Mo_isNumber_65 rfl (nI_1 i) (by decide) rfl ?_
          refine g_goto (tgt := 25) d_Mo_isNumber_68 (by decide) ?_
          have hi1 := ih (i + 1) (by omega) (by omega)
          rw [zb_f hb] at hi1
          exact hi1
        · refine g_aload_nq d_Mo_isNumber_48 rfl 2 rfl ?_
          refine g_get d_Mo_isNumber_49 f_Mo_44_Mo (by assumption) (by first | rfl | assumption) ?_
          refine g_iload_n d_Mo_isNumber_52 rfl 0 rfl ?_
          refine g_iald d_Mo_isNumber_53 (by assumption) (vp_in_nI (n := i) (by omega) (by decide)) ?_
          rw [nI_clamp (by omega)]
          refine g_bipush (v := 58) d_Mo_isNumber_54 rfl ?_
          refine g_icmp_ge (tgt := 63) d_Mo_isNumber_56 (by decide) (fun h56 => ?_) (fun h56 => ?_)
          · have hb : ¬ nuR S (i + 1) := fun z => (z.2 i (by omega) (by omega)).2 h56
            refine g_iconst (v := 0) d_Mo_isNumber_63 rfl ?_
            refine g_istore_n d_Mo_isNumber_64 rfl (by decide) rfl ?_
            show G _ _ _ _ _ _ _ _ [(1, _), (2, _), (0, _)] _ _
            refine g_iinc (k := 1) d_Mo_isNumber_65 rfl (nI_1 i) (by decide) rfl ?_
            refine g_goto (tgt := 25) d_Mo_isNumber_68 (by decide) ?_
            have hi1 := ih (i + 1) (by omega) (by omega)
            rw [zb_f hb] at hi1
            exact hi1
          · have hb : nuR S (i + 1) := ⟨h34.1, fun j hj hj2 => by rcases Nat.lt_succ_iff_lt_or_eq.mp hj with h9 | rfl; exact h34.2 j h9 hj2; exact ⟨h45, h56⟩⟩
            refine g_iconst (v := 1) d_Mo_isNumber_59 rfl ?_
            refine g_goto (tgt := 64) d_Mo_isNumber_60 (by decide) ?_
            refine g_istore_n d_Mo_isNumber_64 rfl (by decide) rfl ?_
            show G _ _ _ _ _ _ _ _ [(1, _), (2, _), (0, _)] _ _
            refine g_iinc (k := 1) d_Mo_isNumber_65 rfl (nI_1 i) (by decide) rfl ?_
            refine g_goto (tgt := 25) d_Mo_isNumber_68 (by decide) ?_
            have hi1 := ih (i + 1) (by omega) (by omega)
            rw [zb_t hb] at hi1
            exact hi1

set_option maxHeartbeats 4000000 in
set_option maxRecDepth 100000 in
theorem C_Mo_isNumber {w : zC} {Z : zZ} {Q : zR → zZ → Prop} {ad : Nat → Nat} {S : ST} (hR : Rep w ad S Z) (h1 : sN S 27 ≤ sN S 28) (h2 : sN S 28 ≤ 160) (hQ : Q (.inl (some (.int (zb (nuR S (sN S 28)))))) Z) : Cz w (0, 0) y_Mo_isNumber (Cond.code y_Mo_isNumber c_Mo_isNumber 3 r_Mo_isNumber :: wz) [.ref (ad 600)] Z Q := by
  refine Cz.of (by decide +kernel) (by simp [lg_sl, Value.category]) ?_
  show G _ _ _ _ _ _ _ _ [(0, _)] _ _
  have hm : zhs Z (ad 600) (.inr (10, [.int (sI S 600 0), .ref (ad 701), .int (nI (sN S 20)), .int (nI (sN S 21)), .int (nI (sN S 22)), .ref (ad 705), .ref (ad 706), .ref (ad 707), .ref (ad 708), .ref (ad 709), .ref (ad 710), .ref (ad 711), .int (nI (sN S 23)), .ref (ad 713), .ref (ad 714), .ref (ad 715), .ref (ad 716), .int (nI (sN S 24)), .int (nI (sN S 25)), .ref (ad 719), .ref (ad 720), .ref (ad 721), .ref (ad 722), .ref (ad 723), .ref (ad 724), .int (sI S 600 25), .ref (ad 726), .ref (ad 727), .ref (ad 728), .int (sI S 600 29), .int (nI (sN S 26)), .ref (ad 731), .ref (ad 732), .int (nI (sN S 27)), .int (nI (sN S 28)), .int (nI (sN S 29)), .int (nI (sN S 30)), .ref (ad 737), .int (nI (sN S 31)), .int (nI (sN S 32)), .int (sI S 600 40), .ref (ad 741)])) := hR.m
  refine g_aload_nq d_Mo_isNumber_0 rfl 0 rfl ?_
  refine g_get d_Mo_isNumber_1 f_Mo_122_Mo (by assumption) (by first | rfl | assumption) ?_
  refine g_aload_nq d_Mo_isNumber_4 rfl 0 rfl ?_
  refine g_get d_Mo_isNumber_5 f_Mo_125_Mo (by assumption) (by first | rfl | assumption) ?_
  refine g_isub d_Mo_isNumber_8 ?_
  rw [nI_sub h1]
  refine g_bipush (v := 10) d_Mo_isNumber_9 rfl ?_
  refine g_icmp_ge (tgt := 18) d_Mo_isNumber_11 (by decide) (fun h11 => ?_) (fun h11 => ?_)
  · have h9 := L_Mo_isNumber hR h1 h2 hQ (sN S 28 - sN S 27) (sN S 27) (by omega) (Nat.le_refl _)
    rw [zb_f (show ¬ nuR S (sN S 27) from fun z => z.1 h11)] at h9
    refine g_iconst (v := 0) d_Mo_isNumber_18 rfl ?_
    refine g_istore_n d_Mo_isNumber_19 rfl (by decide) rfl ?_
    show G _ _ _ _ _ _ _ _ [(1, _), (0, _)] _ _
    refine g_aload_nq d_Mo_isNumber_20 rfl 1 rfl ?_
    refine g_get d_Mo_isNumber_21 f_Mo_125_Mo (by assumption) (by first | rfl | assumption) ?_
    refine g_istore_n d_Mo_isNumber_24 rfl (by decide) rfl ?_
    show G _ _ _ _ _ _ _ _ [(2, _), (1, _), (0, _)] _ _
    exact h9
  · have h9 := L_Mo_isNumber hR h1 h2 hQ (sN S 28 - sN S 27) (sN S 27) (by omega) (Nat.le_refl _)
    rw [zb_t (show nuR S (sN S 27) from ⟨h11, fun j h3 h4 => by omega⟩)] at h9
    refine g_iconst (v := 1) d_Mo_isNumber_14 rfl ?_
    refine g_goto (tgt := 19) d_Mo_isNumber_15 (by decide) ?_
    refine g_istore_n d_Mo_isNumber_19 rfl (by decide) rfl ?_
    show G _ _ _ _ _ _ _ _ [(1, _), (0, _)] _ _
    refine g_aload_nq d_Mo_isNumber_20 rfl 1 rfl ?_
    refine g_get d_Mo_isNumber_21 f_Mo_125_Mo (by assumption) (by first | rfl | assumption) ?_
    refine g_istore_n d_Mo_isNumber_24 rfl (by decide) rfl ?_
    show G _ _ _ _ _ _ _ _ [(2, _), (1, _), (0, _)] _ _
    exact h9

set_option maxHeartbeats 4000000 in
set_option maxRecDepth 100000 in
theorem L_Mo_value {w : zC} {Z : zZ} {Q : zR → zZ → Prop} {ad : Nat → Nat} {S : ST} (hR : Rep w ad S Z) (h1 : sN S 27 ≤ sN S 28) (h2 : sN S 28 ≤ 160) (m : Nat) : ∀ i v, i + m = sN S 28 → Q (.inl (some (.int (vaF (sI S 716) m i v)))) Z → G w y_Mo_value c_Mo_value 3 r_Mo_value (0, 0) Q 7 [(2, .int (nI i)), (1, .int v), (0, .ref (ad 600))] [] Z := by
  have hm : zhs Z (ad 600) (.inr (10, [.int (sI S 600 0), .ref (ad 701), .int (nI (sN S 20)), .int (nI (sN S 21)), .int (nI (sN S 22)), .ref (ad 705), .ref (ad 706), .ref (ad 707), .ref (ad 708), .ref (ad 709), .ref (ad 710), .ref (ad 711), .int (nI (sN S 23)), .ref (ad 713), .ref (ad 714), .ref (ad 715), .ref (ad 716), .int (nI (sN S 24)), .int (nI (sN S 25)), .ref (ad 719), .ref (ad 720), .ref (ad 721), .ref (ad 722), .ref (ad 723), .ref (ad 724), .int (sI S 600 25), .ref (ad 726), .ref (ad 727), .ref (ad 728), .int (sI S 600 29), .int (nI (sN S 26)), .ref (ad 731), .ref (ad 732), .int (nI (sN S 27)), .int (nI (sN S 28)), .int (nI (sN S 29)), .int (nI (sN S 30)), .ref (ad 737), .int (nI (sN S 31)), .int (nI (sN S 32)), .int (sI S 600 40), .ref (ad 741)])) := hR.m
  have m716 : zhs Z (ad 716) (xi w 160 (sI S 716)) := hR.ma 716 (by decide)
  induction m with
  | zero =>
    intro i v hi hQ
    refine g_iload_n d_Mo_value_7 rfl 0 rfl ?_
    refine g_aload_nq d_Mo_value_8 rfl 2 rfl ?_
    refine g_get d_Mo_value_9 f_Mo_122_Mo (by assumption) (by first | rfl | assumption) ?_
    refine g_icmp_ge (tgt := 36) d_Mo_value_12 (by decide) (fun h12 => ?_) (fun h12 => ?_)
    · refine g_iload_n d_Mo_value_36 rfl 1 rfl ?_
      refine g_iret d_Mo_value_37 ?_
      exact hQ
    · exact absurd (nI_le (by omega) (by omega)) h12
  | succ m ih =>
    intro i v hi hQ
    refine g_iload_n d_Mo_value_7 rfl 0 rfl ?_
    refine g_aload_nq d_Mo_value_8 rfl 2 rfl ?_
    refine g_get d_Mo_value_9 f_Mo_122_Mo (by assumption) (by first | rfl | assumption) ?_
    refine g_icmp_ge (tgt := 36) d_Mo_value_12 (by decide) (fun h12 => ?_) (fun h12 => ?_)
    · exact absurd h12 (nI_ge (by omega) (by omega))
    · refine g_bipush (v := 10) d_Mo_value_15 rfl ?_
      refine g_iload_n d_Mo_value_17 rfl 1 rfl ?_
      refine g_imul d_Mo_value_18 ?_
      refine g_aload_nq d_Mo_value_19 rfl 2 rfl ?_
      refine g_get d_Mo_value_20 f_Mo_44_Mo (by assumption) (by first | rfl | assumption) ?_
      refine g_iload_n d_Mo_value_23 rfl 0 rfl ?_
      refine g_iald d_Mo_value_24 (by assumption) (vp_in_nI (n := i) (by omega) (by decide)) ?_
      rw [nI_clamp (by omega)]
      refine g_iadd d_Mo_value_25 ?_
      refine g_bipush (v := 48) d_Mo_value_26 rfl ?_
      refine g_isub d_Mo_value_28 ?_
      refine g_istore_n d_Mo_value_29 rfl (by decide) rfl ?_
      show G _ _ _ _ _ _ _ _ [(1, _), (2, _), (0, _)] _ _
      refine g_iinc (k := 1) d_Mo_value_30 rfl (nI_1 i) (by decide) rfl ?_
      refine g_goto (tgt := 7) d_Mo_value_33 (by decide) ?_
      exact ih (i + 1) _ (by omega) hQ

set_option maxHeartbeats 4000000 in
set_option maxRecDepth 100000 in
theorem C_Mo_value {w : zC} {Z : zZ} {Q : zR → zZ → Prop} {ad : Nat → Nat} {S : ST} (hR : Rep w ad S Z) (h1 : sN S 27 ≤ sN S 28) (h2 : sN S 28 ≤ 160) (hQ : Q (.inl (some (.int (vaR S)))) Z) : Cz w (0, 0) y_Mo_value (Cond.code y_Mo_value c_Mo_value 3 r_Mo_value :: wz) [.ref (ad 600)] Z Q := by
  refine Cz.of (by decide +kernel) (by simp [lg_sl, Value.category]) ?_
  show G _ _ _ _ _ _ _ _ [(0, _)] _ _
  have hm : zhs Z (ad 600) (.inr (10, [.int (sI S 600 0), .ref (ad 701), .int (nI (sN S 20)), .int (nI (sN S 21)), .int (nI (sN S 22)), .ref (ad 705), .ref (ad 706), .ref (ad 707), .ref (ad 708), .ref (ad 709), .ref (ad 710), .ref (ad 711), .int (nI (sN S 23)), .ref (ad 713), .ref (ad 714), .ref (ad 715), .ref (ad 716), .int (nI (sN S 24)), .int (nI (sN S 25)), .ref (ad 719), .ref (ad 720), .ref (ad 721), .ref (ad 722), .ref (ad 723), .ref (ad 724), .int (sI S 600 25), .ref (ad 726), .ref (ad 727), .ref (ad 728), .int (sI S 600 29), .int (nI (sN S 26)), .ref (ad 731), .ref (ad 732), .int (nI (sN S 27)), .int (nI (sN S 28)), .int (nI (sN S 29)), .int (nI (sN S 30)), .ref (ad 737), .int (nI (sN S 31)), .int (nI (sN S 32)), .int (sI S 600 40), .ref (ad 741)])) := hR.m
  refine g_iconst (v := 0) d_Mo_value_0 rfl ?_
  refine g_istore_n d_Mo_value_1 rfl (by decide) rfl ?_
  show G _ _ _ _ _ _ _ _ [(1, _), (0, _)] _ _
  refine g_aload_nq d_Mo_value_2 rfl 1 rfl ?_
  refine g_get d_Mo_value_3 f_Mo_125_Mo (by assumption) (by first | rfl | assumption) ?_
  refine g_istore_n d_Mo_value_6 rfl (by decide) rfl ?_
  show G _ _ _ _ _ _ _ _ [(2, _), (1, _), (0, _)] _ _
  exact L_Mo_value hR h1 h2 (sN S 28 - sN S 27) (sN S 27) 0 (by omega) hQ
