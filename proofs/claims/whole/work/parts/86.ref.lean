/-! The reference: remarkAt -/
abbrev isC (S : ST) (cl : Int32) (i : Nat) : Prop := (¬ cl = 0 ∧ ¬ sI S 728 i ≤ 0 ∧ sI S 726 i = 0) ∨ (cl = 0 ∧ ¬ sI S 726 i ≤ 0)
def lR (S : ST) (cl : Int32) (s : Int32) (j : Nat) : Nat → Nat → List Nat
  | 0, _ => []
  | m + 1, r => (if isC S cl (tI r s j) then [tI r s j] else []) ++ lR S cl s j m (r + 1)
def lJ (S : ST) (cl h : Int32) (s : Int32) : Nat → Nat → List Nat
  | 0, _ => []
  | m + 1, j => (if shR S s j = h then lR S cl s j 27 0 else []) ++ lJ S cl h s m (j + 1)
def lS (S : ST) (cl h : Int32) : Nat → Nat → List Nat
  | 0, _ => []
  | m + 1, s => lJ S cl h (nI s) (mny S s) 0 ++ lS S cl h m (s + 1)
def lH (S : ST) (cl : Int32) : Nat → Nat → List Nat
  | 0, _ => []
  | m + 1, h => lS S cl (nI h) 3 0 ++ lH S cl m (h + 1)
def fndL : List Nat → Int32 → Option Nat × Int32
  | [], l => (none, l)
  | i :: t, l => if l = 0 then (some i, l) else fndL t (l - 1)
def fK (x : Option Nat × Int32) (E : Nat → Prop) (K : Int32 → Prop) : Prop := match x with
  | (some i, _) => E i
  | (none, l) => K l
theorem fK_app {E : Nat → Prop} {K : Int32 → Prop} : ∀ {a b : List Nat} {l : Int32}, fK (fndL (a ++ b) l) E K → fK (fndL a l) E (fun l' => fK (fndL b l') E K)
  | [], b, l, h => h
  | i :: a, b, l, h => by
    rw [List.cons_append, show fndL (i :: (a ++ b)) l = (if l = 0 then (some i, l) else fndL (a ++ b) (l - 1)) from rfl] at h
    show fK (if l = 0 then (some i, l) else fndL a (l - 1)) E (fun l' => fK (fndL b l') E K)
    split
    · rename_i h1
      rw [if_pos h1] at h
      exact h
    · rename_i h1
      rw [if_neg h1] at h
      exact fK_app h
theorem fK_mono {x : Option Nat × Int32} {E E' : Nat → Prop} {K K' : Int32 → Prop} (h : fK x E K) (h1 : ∀ i, E i → E' i) (h2 : ∀ l, K l → K' l) : fK x E' K' := by
  rcases x with ⟨_ | i, l⟩
  · exact h2 l h
  · exact h1 i h
def raV (S : ST) (x cl : Int32) : Int32 := if x < 0 ∨ sI S 600 29 = 0 then -1 else match fndL (lH S cl 16 0) x with
  | (some i, _) => nI i
  | (none, _) => -1
set_option maxHeartbeats 4000000 in
set_option maxRecDepth 100000 in
theorem J_Mo_remarkAt {w : zC} {Z : zZ} {Q : zR → zZ → Prop} {ad : Nat → Nat} {S : ST} (hR : Rep w ad S Z) {i r j s h : Nat} {l x cl : Int32} (hi : i < 6480) (k9 : G w y_Mo_remarkAt c_Mo_remarkAt 10 r_Mo_remarkAt (2, 56) Q 135 [(8, .int (nI i)), (7, .int (nI r)), (6, .int (nI j)), (5, .int (nI s)), (4, .int (nI h)), (3, .int l), (0, .ref (ad 600)), (1, .int x), (2, .int cl)] [.int (zb (isC S cl i))] Z) : G w y_Mo_remarkAt c_Mo_remarkAt 10 r_Mo_remarkAt (2, 56) Q 88 [(8, .int (nI i)), (7, .int (nI r)), (6, .int (nI j)), (5, .int (nI s)), (4, .int (nI h)), (3, .int l), (0, .ref (ad 600)), (1, .int x), (2, .int cl)] [] Z := by
  have hm : zhs Z (ad 600) (.inr (10, [.int (sI S 600 0), .ref (ad 701), .int (nI (sN S 20)), .int (nI (sN S 21)), .int (nI (sN S 22)), .ref (ad 705), .ref (ad 706), .ref (ad 707), .ref (ad 708), .ref (ad 709), .ref (ad 710), .ref (ad 711), .int (nI (sN S 23)), .ref (ad 713), .ref (ad 714), .ref (ad 715), .ref (ad 716), .int (nI (sN S 24)), .int (nI (sN S 25)), .ref (ad 719), .ref (ad 720), .ref (ad 721), .ref (ad 722), .ref (ad 723), .ref (ad 724), .int (sI S 600 25), .ref (ad 726), .ref (ad 727), .ref (ad 728), .int (sI S 600 29), .int (nI (sN S 26)), .ref (ad 731), .ref (ad 732), .int (nI (sN S 27)), .int (nI (sN S 28)), .int (nI (sN S 29)), .int (nI (sN S 30)), .ref (ad 737), .int (nI (sN S 31)), .int (nI (sN S 32)), .int (sI S 600 40), .ref (ad 741)])) := hR.m
  have m726 : zhs Z (ad 726) (xi w 6480 (sI S 726)) := hR.ma 726 (by decide)
  have m728 : zhs Z (ad 728) (xi w 6480 (sI S 728)) := hR.ma 728 (by decide)
  refine g_iload_n d_Mo_remarkAt_88 rfl 8 rfl ?_
  first | refine g_if_eqB (tgt := 120) d_Mo_remarkAt_89 (by decide) (fun h89 => ?_) (fun h89 => ?_) | refine g_if_eq (tgt := 120) d_Mo_remarkAt_89 (by decide) (fun h89 => ?_) (fun h89 => ?_)
  · refine g_aload_nq d_Mo_remarkAt_120 rfl 6 rfl ?_
    refine g_get d_Mo_remarkAt_121 f_Mo_70_Mo (by assumption) (by first | rfl | assumption) ?_
    refine g_iload d_Mo_remarkAt_124 0 rfl ?_
    refine g_iald d_Mo_remarkAt_126 (by assumption) (vp_in_nI (n := i) (by omega) (by decide)) ?_
    rw [nI_clamp (by omega)]
    refine g_if_le (tgt := 134) d_Mo_remarkAt_127 (by decide) (fun h127 => ?_) (fun h127 => ?_)
    · rw [zb_f (show ¬ isC S cl i from fun z => by rcases z with z | z; exact z.1 h89; exact z.2 h127)] at k9
      refine g_iconst (v := 0) d_Mo_remarkAt_134 rfl ?_
      exact k9
    · rw [zb_t (show isC S cl i from Or.inr ⟨h89, h127⟩)] at k9
      refine g_iconst (v := 1) d_Mo_remarkAt_130 rfl ?_
      refine g_goto (tgt := 135) d_Mo_remarkAt_131 (by decide) ?_
      exact k9
  · refine g_aload_nq d_Mo_remarkAt_92 rfl 6 rfl ?_
    refine g_get d_Mo_remarkAt_93 f_Mo_76_Mo (by assumption) (by first | rfl | assumption) ?_
    refine g_iload d_Mo_remarkAt_96 0 rfl ?_
    refine g_iald d_Mo_remarkAt_98 (by assumption) (vp_in_nI (n := i) (by omega) (by decide)) ?_
    rw [nI_clamp (by omega)]
    refine g_if_le (tgt := 116) d_Mo_remarkAt_99 (by decide) (fun h99 => ?_) (fun h99 => ?_)
    · rw [zb_f (show ¬ isC S cl i from fun z => by rcases z with z | z; exact z.2.1 h99; exact h89 z.1)] at k9
      refine g_iconst (v := 0) d_Mo_remarkAt_116 rfl ?_
      refine g_goto (tgt := 135) d_Mo_remarkAt_117 (by decide) ?_
      exact k9
    · refine g_aload_nq d_Mo_remarkAt_102 rfl 6 rfl ?_
      refine g_get d_Mo_remarkAt_103 f_Mo_70_Mo (by assumption) (by first | rfl | assumption) ?_
      refine g_iload d_Mo_remarkAt_106 0 rfl ?_
      refine g_iald d_Mo_remarkAt_108 (by assumption) (vp_in_nI (n := i) (by omega) (by decide)) ?_
      rw [nI_clamp (by omega)]
      first | refine g_if_neB (tgt := 116) d_Mo_remarkAt_109 (by decide) (fun h109 => ?_) (fun h109 => ?_) | refine g_if_ne (tgt := 116) d_Mo_remarkAt_109 (by decide) (fun h109 => ?_) (fun h109 => ?_)
      · rw [zb_f (show ¬ isC S cl i from fun z => by rcases z with z | z; exact h109 z.2.2; exact h89 z.1)] at k9
        refine g_iconst (v := 0) d_Mo_remarkAt_116 rfl ?_
        refine g_goto (tgt := 135) d_Mo_remarkAt_117 (by decide) ?_
        exact k9
      · rw [zb_t (show isC S cl i from Or.inl ⟨h89, h99, h109⟩)] at k9
        refine g_iconst (v := 1) d_Mo_remarkAt_112 rfl ?_
        refine g_goto (tgt := 135) d_Mo_remarkAt_113 (by decide) ?_
        exact k9

set_option maxHeartbeats 4000000 in
set_option maxRecDepth 100000 in
theorem LR_Mo_remarkAt {w : zC} {Z : zZ} {Q : zR → zZ → Prop} {ad : Nat → Nat} {S : ST} (hR : Rep w ad S Z) {j s h : Nat} {x cl : Int32} (hs : s < 3) (hj1 : j < 160) (hj2 : if s = 2 then True else j < 40) (m : Nat) : ∀ r l, r + m = 27 → fK (fndL (lR S cl (nI s) j m r) l) (fun i => Q (.inl (some (.int (nI i)))) Z) (fun l => G w y_Mo_remarkAt c_Mo_remarkAt 10 r_Mo_remarkAt (2, 56) Q 168 [(7, .int (nI 27)), (6, .int (nI j)), (5, .int (nI s)), (4, .int (nI h)), (3, .int l), (0, .ref (ad 600)), (1, .int x), (2, .int cl)] [] Z) → G w y_Mo_remarkAt c_Mo_remarkAt 10 r_Mo_remarkAt (2, 56) Q 65 [(7, .int (nI r)), (6, .int (nI j)), (5, .int (nI s)), (4, .int (nI h)), (3, .int l), (0, .ref (ad 600)), (1, .int x), (2, .int cl)] [] Z := by
  induction m with
  | zero =>
    intro r l hrm hk9
    refine g_iload d_Mo_remarkAt_65 0 rfl ?_
    refine g_bipush (v := 27) d_Mo_remarkAt_67 rfl ?_
    refine g_icmp_ge (tgt := 168) d_Mo_remarkAt_69 (by decide) (fun h69 => ?_) (fun h69 => ?_)
    · rw [show r = 27 by omega]
      exact hk9
    · exact absurd (show (27 : Int32) ≤ nI r from nI_le (a := 27) (by omega) (by omega)) h69
  | succ m ih =>
    intro r l hrm hk9
    have hti := tI_lt (r := r) (by omega) hs hj1 hj2
    refine g_iload d_Mo_remarkAt_65 0 rfl ?_
    refine g_bipush (v := 27) d_Mo_remarkAt_67 rfl ?_
    refine g_icmp_ge (tgt := 168) d_Mo_remarkAt_69 (by decide) (fun h69 => ?_) (fun h69 => ?_)
    · exact absurd h69 (nI_ge (b := 27) (by omega) (by decide))
    · refine g_sipush (v := 240) d_Mo_remarkAt_72 rfl ?_
      refine g_iload d_Mo_remarkAt_75 0 rfl ?_
      refine g_imul d_Mo_remarkAt_77 ?_
      rw [show (240 : Int32) = nI 240 from rfl, pk_mul]
      refine g_iload d_Mo_remarkAt_78 2 rfl ?_
      refine g_iload d_Mo_remarkAt_80 1 rfl ?_
      refine g_callS d_Mo_remarkAt_82 k_Mo_thing l_Mo_255 s_Mo_thing (by rfl) (by rfl) (Nat.le_of_ble_eq_true rfl) (by decide) (C_Mo_thing ⟨_, rfl, ?_⟩)
      rw [th_nI hs]
      refine g_iadd d_Mo_remarkAt_85 ?_
      rw [nI_add, hti.2]
      refine g_istore d_Mo_remarkAt_86 (by decide) rfl ?_
      show G _ _ _ _ _ _ _ _ [(8, _), (7, _), (6, _), (5, _), (4, _), (3, _), (0, _), (1, _), (2, _)] _ _
      refine J_Mo_remarkAt hR hti.1 ?_
      refine g_istore d_Mo_remarkAt_135 (by decide) rfl ?_
      show G _ _ _ _ _ _ _ _ [(9, _), (8, _), (7, _), (6, _), (5, _), (4, _), (3, _), (0, _), (1, _), (2, _)] _ _
      refine g_iload d_Mo_remarkAt_137 0 rfl ?_
      first | refine g_if_eqB (tgt := 149) d_Mo_remarkAt_139 (by decide) (fun h139 => ?_) (fun h139 => ?_) | refine g_if_eq (tgt := 149) d_Mo_remarkAt_139 (by decide) (fun h139 => ?_) (fun h139 => ?_)
      · rw [lR, if_neg h139] at hk9
        have hk9 : fK (fndL (lR S cl (nI s) j m (r + 1)) l) _ _ := hk9
        refine g_iload_n d_Mo_remarkAt_149 rfl 6 rfl ?_
        refine g_iload d_Mo_remarkAt_150 0 rfl ?_
        first | refine g_if_eqB (tgt := 159) d_Mo_remarkAt_152 (by decide) (fun h152 => ?_) (fun h152 => ?_) | refine g_if_eq (tgt := 159) d_Mo_remarkAt_152 (by decide) (fun h152 => ?_) (fun h152 => ?_)
        · refine g_iconst (v := 0) d_Mo_remarkAt_159 rfl ?_
          skip
          refine g_isub d_Mo_remarkAt_160 ?_
          rw [Int32.sub_zero]
          refine g_istore_n d_Mo_remarkAt_161 rfl (by decide) rfl ?_
          show G _ _ _ _ _ _ _ _ [(3, _), (9, _), (8, _), (7, _), (6, _), (5, _), (4, _), (0, _), (1, _), (2, _)] _ _
          refine g_iinc (k := 3) d_Mo_remarkAt_162 rfl (nI_1 r) (by decide) rfl ?_
          refine g_goto (tgt := 65) d_Mo_remarkAt_165 (by decide) ?_
          refine g_sub [0, 4, 5, 6, 1, 7, 8, 9] rfl (ih (r + 1) l (by omega) hk9)
        · exact absurd h152 h139
      · rw [lR, if_pos h139] at hk9
        have hk9 : fK (if l = 0 then (some (tI r (nI s) j), l) else fndL (lR S cl (nI s) j m (r + 1)) (l - 1)) _ _ := hk9
        refine g_iload_n d_Mo_remarkAt_142 rfl 6 rfl ?_
        first | refine g_if_neB (tgt := 149) d_Mo_remarkAt_143 (by decide) (fun h143 => ?_) (fun h143 => ?_) | refine g_if_ne (tgt := 149) d_Mo_remarkAt_143 (by decide) (fun h143 => ?_) (fun h143 => ?_)
        · rw [if_neg h143] at hk9
          refine g_iload_n d_Mo_remarkAt_149 rfl 6 rfl ?_
          refine g_iload d_Mo_remarkAt_150 0 rfl ?_
          first | refine g_if_eqB (tgt := 159) d_Mo_remarkAt_152 (by decide) (fun h152 => ?_) (fun h152 => ?_) | refine g_if_eq (tgt := 159) d_Mo_remarkAt_152 (by decide) (fun h152 => ?_) (fun h152 => ?_)
          · exact absurd h139 h152
          · refine g_iconst (v := 1) d_Mo_remarkAt_155 rfl ?_
            refine g_goto (tgt := 160) d_Mo_remarkAt_156 (by decide) ?_
            refine g_isub d_Mo_remarkAt_160 ?_
            refine g_istore_n d_Mo_remarkAt_161 rfl (by decide) rfl ?_
            show G _ _ _ _ _ _ _ _ [(3, _), (9, _), (8, _), (7, _), (6, _), (5, _), (4, _), (0, _), (1, _), (2, _)] _ _
            refine g_iinc (k := 3) d_Mo_remarkAt_162 rfl (nI_1 r) (by decide) rfl ?_
            refine g_goto (tgt := 65) d_Mo_remarkAt_165 (by decide) ?_
            refine g_sub [0, 4, 5, 6, 1, 7, 8, 9] rfl (ih (r + 1) (l - 1) (by omega) hk9)
        · rw [if_pos h143] at hk9
          refine g_iload d_Mo_remarkAt_146 1 rfl ?_
          refine g_iret d_Mo_remarkAt_148 ?_
          exact hk9

set_option maxHeartbeats 4000000 in
set_option maxRecDepth 100000 in
theorem LJ_Mo_remarkAt {w : zC} {Z : zZ} {Q : zR → zZ → Prop} {ad : Nat → Nat} {S : ST} (hR : Rep w ad S Z) (hI : mInv S) {s h : Nat} {x cl : Int32} (hs : s < 3) (m : Nat) : ∀ j l, j + m = mny S s → fK (fndL (lJ S cl (nI h) (nI s) m j) l) (fun i => Q (.inl (some (.int (nI i)))) Z) (fun l => G w y_Mo_remarkAt c_Mo_remarkAt 10 r_Mo_remarkAt (2, 56) Q 174 [(6, .int (nI (mny S s))), (5, .int (nI s)), (4, .int (nI h)), (3, .int l), (0, .ref (ad 600)), (1, .int x), (2, .int cl)] [] Z) → G w y_Mo_remarkAt c_Mo_remarkAt 10 r_Mo_remarkAt (2, 56) Q 35 [(6, .int (nI j)), (5, .int (nI s)), (4, .int (nI h)), (3, .int l), (0, .ref (ad 600)), (1, .int x), (2, .int cl)] [] Z := by
  have hml := mny_le hI hs
  have hm : zhs Z (ad 600) (.inr (10, [.int (sI S 600 0), .ref (ad 701), .int (nI (sN S 20)), .int (nI (sN S 21)), .int (nI (sN S 22)), .ref (ad 705), .ref (ad 706), .ref (ad 707), .ref (ad 708), .ref (ad 709), .ref (ad 710), .ref (ad 711), .int (nI (sN S 23)), .ref (ad 713), .ref (ad 714), .ref (ad 715), .ref (ad 716), .int (nI (sN S 24)), .int (nI (sN S 25)), .ref (ad 719), .ref (ad 720), .ref (ad 721), .ref (ad 722), .ref (ad 723), .ref (ad 724), .int (sI S 600 25), .ref (ad 726), .ref (ad 727), .ref (ad 728), .int (sI S 600 29), .int (nI (sN S 26)), .ref (ad 731), .ref (ad 732), .int (nI (sN S 27)), .int (nI (sN S 28)), .int (nI (sN S 29)), .int (nI (sN S 30)), .ref (ad 737), .int (nI (sN S 31)), .int (nI (sN S 32)), .int (sI S 600 40), .ref (ad 741)])) := hR.m
  induction m with
  | zero =>
    intro j l hjm hk9
    refine g_iload d_Mo_remarkAt_35 0 rfl ?_
    refine g_aload_nq d_Mo_remarkAt_37 rfl 4 rfl ?_
    refine g_iload d_Mo_remarkAt_38 1 rfl ?_
    refine g_callV d_Mo_remarkAt_40 k_Mo_many l_Mo_252 i_Mo_many rfl p_Mo_many hm (by rfl) (by rfl) (Nat.le_of_ble_eq_true rfl) (by decide) (C_Mo_many hR ⟨_, rfl, ?_⟩)
    rw [mny_nI hs]
    refine g_icmp_ge (tgt := 174) d_Mo_remarkAt_43 (by decide) (fun h43 => ?_) (fun h43 => ?_)
    · rw [show j = mny S s by omega]
      exact hk9
    · exact absurd (nI_le (by omega) (by omega)) h43
  | succ m ih =>
    intro j l hjm hk9
    have hj2 : if s = 2 then True else j < 40 := by
      have h9 := hml.2
      by_cases e9 : s = 2
      · rw [if_pos e9]; trivial
      · rw [if_neg e9] at h9 ⊢; omega
    refine g_iload d_Mo_remarkAt_35 0 rfl ?_
    refine g_aload_nq d_Mo_remarkAt_37 rfl 4 rfl ?_
    refine g_iload d_Mo_remarkAt_38 1 rfl ?_
    refine g_callV d_Mo_remarkAt_40 k_Mo_many l_Mo_252 i_Mo_many rfl p_Mo_many hm (by rfl) (by rfl) (Nat.le_of_ble_eq_true rfl) (by decide) (C_Mo_many hR ⟨_, rfl, ?_⟩)
    rw [mny_nI hs]
    refine g_icmp_ge (tgt := 174) d_Mo_remarkAt_43 (by decide) (fun h43 => ?_) (fun h43 => ?_)
    · exact absurd h43 (nI_ge (by omega) (by omega))
    · refine g_aload_nq d_Mo_remarkAt_46 rfl 4 rfl ?_
      refine g_iload d_Mo_remarkAt_47 1 rfl ?_
      refine g_iload d_Mo_remarkAt_49 0 rfl ?_
      refine g_callV d_Mo_remarkAt_51 k_Mo_sheetOf l_Mo_226 i_Mo_sheetOf rfl p_Mo_sheetOf hm (by rfl) (by rfl) (Nat.le_of_ble_eq_true rfl) (by decide) (C_Mo_sheetOf hR hI (by omega) (by rcases (show s = 0 ∨ s = 1 ∨ s = 2 by omega) with rfl | rfl | rfl; exact Or.inr hj2; exact Or.inr hj2; exact Or.inl rfl) ⟨_, rfl, ?_⟩)
      refine g_iload d_Mo_remarkAt_54 2 rfl ?_
      refine g_icmp_eq (tgt := 62) d_Mo_remarkAt_56 (by decide) (fun h56 => ?_) (fun h56 => ?_)
      · rw [lJ, if_pos h56] at hk9
        have hk9 := fK_app hk9
        refine g_iconst (v := 0) d_Mo_remarkAt_62 rfl ?_
        refine g_istore d_Mo_remarkAt_63 (by decide) rfl ?_
        show G _ _ _ _ _ _ _ _ [(7, _), (6, _), (5, _), (4, _), (3, _), (0, _), (1, _), (2, _)] _ _
        refine LR_Mo_remarkAt hR hs (by omega) hj2 27 0 l (by omega) (fK_mono hk9 (fun _ h9 => h9) (fun l9 h9 => ?_))
        refine g_iinc (k := 1) d_Mo_remarkAt_168 rfl (nI_1 j) (by decide) rfl ?_
        refine g_goto (tgt := 35) d_Mo_remarkAt_171 (by decide) ?_
        refine g_sub [0, 2, 3, 4, 5, 6, 7] rfl (ih (j + 1) l9 (by omega) h9)
      · rw [lJ, if_neg h56] at hk9
        have hk9 : fK (fndL (lJ S cl (nI h) (nI s) m (j + 1)) l) _ _ := hk9
        refine g_goto (tgt := 168) d_Mo_remarkAt_59 (by decide) ?_
        refine g_iinc (k := 0) d_Mo_remarkAt_168 rfl (nI_1 j) (by decide) rfl ?_
        refine g_goto (tgt := 35) d_Mo_remarkAt_171 (by decide) ?_
        exact ih (j + 1) l (by omega) hk9

set_option maxHeartbeats 4000000 in
set_option maxRecDepth 100000 in
theorem LS_Mo_remarkAt {w : zC} {Z : zZ} {Q : zR → zZ → Prop} {ad : Nat → Nat} {S : ST} (hR : Rep w ad S Z) (hI : mInv S) {h : Nat} {x cl : Int32} (m : Nat) : ∀ s l, s + m = 3 → fK (fndL (lS S cl (nI h) m s) l) (fun i => Q (.inl (some (.int (nI i)))) Z) (fun l => G w y_Mo_remarkAt c_Mo_remarkAt 10 r_Mo_remarkAt (2, 56) Q 180 [(5, .int (nI 3)), (4, .int (nI h)), (3, .int l), (0, .ref (ad 600)), (1, .int x), (2, .int cl)] [] Z) → G w y_Mo_remarkAt c_Mo_remarkAt 10 r_Mo_remarkAt (2, 56) Q 26 [(5, .int (nI s)), (4, .int (nI h)), (3, .int l), (0, .ref (ad 600)), (1, .int x), (2, .int cl)] [] Z := by
  induction m with
  | zero =>
    intro s l hsm hk9
    refine g_iload d_Mo_remarkAt_26 0 rfl ?_
    refine g_iconst (v := 3) d_Mo_remarkAt_28 rfl ?_
    refine g_icmp_ge (tgt := 180) d_Mo_remarkAt_29 (by decide) (fun h29 => ?_) (fun h29 => ?_)
    · rw [show s = 3 by omega]
      exact hk9
    · exact absurd (show (3 : Int32) ≤ nI s from nI_le (a := 3) (by omega) (by omega)) h29
  | succ m ih =>
    intro s l hsm hk9
    refine g_iload d_Mo_remarkAt_26 0 rfl ?_
    refine g_iconst (v := 3) d_Mo_remarkAt_28 rfl ?_
    refine g_icmp_ge (tgt := 180) d_Mo_remarkAt_29 (by decide) (fun h29 => ?_) (fun h29 => ?_)
    · exact absurd h29 (nI_ge (b := 3) (by omega) (by decide))
    · refine g_iconst (v := 0) d_Mo_remarkAt_32 rfl ?_
      refine g_istore d_Mo_remarkAt_33 (by decide) rfl ?_
      show G _ _ _ _ _ _ _ _ [(6, _), (5, _), (4, _), (3, _), (0, _), (1, _), (2, _)] _ _
      rw [lS] at hk9
      refine LJ_Mo_remarkAt hR hI (by omega) (mny S s) 0 l (by omega) (fK_mono (fK_app hk9) (fun _ h9 => h9) (fun l9 h9 => ?_))
      refine g_iinc (k := 1) d_Mo_remarkAt_174 rfl (nI_1 s) (by decide) rfl ?_
      refine g_goto (tgt := 26) d_Mo_remarkAt_177 (by decide) ?_
      refine g_sub [0, 2, 3, 4, 5, 6] rfl (ih (s + 1) l9 (by omega) h9)

set_option maxHeartbeats 4000000 in
set_option maxRecDepth 100000 in
theorem LH_Mo_remarkAt {w : zC} {Z : zZ} {Q : zR → zZ → Prop} {ad : Nat → Nat} {S : ST} (hR : Rep w ad S Z) (hI : mInv S) {x cl : Int32} (hx : ¬ x < 0) (hran : ¬ sI S 600 29 = 0) (m : Nat) : ∀ h l, h + m = 16 → fK (fndL (lH S cl m h) l) (fun i => Q (.inl (some (.int (nI i)))) Z) (fun _ => Q (.inl (some (.int (-1)))) Z) → G w y_Mo_remarkAt c_Mo_remarkAt 10 r_Mo_remarkAt (2, 56) Q 5 [(4, .int (nI h)), (3, .int l), (0, .ref (ad 600)), (1, .int x), (2, .int cl)] [] Z := by
  have hm : zhs Z (ad 600) (.inr (10, [.int (sI S 600 0), .ref (ad 701), .int (nI (sN S 20)), .int (nI (sN S 21)), .int (nI (sN S 22)), .ref (ad 705), .ref (ad 706), .ref (ad 707), .ref (ad 708), .ref (ad 709), .ref (ad 710), .ref (ad 711), .int (nI (sN S 23)), .ref (ad 713), .ref (ad 714), .ref (ad 715), .ref (ad 716), .int (nI (sN S 24)), .int (nI (sN S 25)), .ref (ad 719), .ref (ad 720), .ref (ad 721), .ref (ad 722), .ref (ad 723), .ref (ad 724), .int (sI S 600 25), .ref (ad 726), .ref (ad 727), .ref (ad 728), .int (sI S 600 29), .int (nI (sN S 26)), .ref (ad 731), .ref (ad 732), .int (nI (sN S 27)), .int (nI (sN S 28)), .int (nI (sN S 29)), .int (nI (sN S 30)), .ref (ad 737), .int (nI (sN S 31)), .int (nI (sN S 32)), .int (sI S 600 40), .ref (ad 741)])) := hR.m
  induction m with
  | zero =>
    intro h l hhm hk9
    refine g_iload d_Mo_remarkAt_5 0 rfl ?_
    refine g_bipush (v := 16) d_Mo_remarkAt_7 rfl ?_
    refine g_icmp_ge (tgt := 186) d_Mo_remarkAt_9 (by decide) (fun h9 => ?_) (fun h9 => ?_)
    · refine g_iconst (v := (-1)) d_Mo_remarkAt_186 rfl ?_
      refine g_iret d_Mo_remarkAt_187 ?_
      exact hk9
    · exact absurd (show (16 : Int32) ≤ nI h from nI_le (a := 16) (by omega) (by omega)) h9
  | succ m ih =>
    intro h l hhm hk9
    refine g_iload d_Mo_remarkAt_5 0 rfl ?_
    refine g_bipush (v := 16) d_Mo_remarkAt_7 rfl ?_
    refine g_icmp_ge (tgt := 186) d_Mo_remarkAt_9 (by decide) (fun h9 => ?_) (fun h9 => ?_)
    · exact absurd h9 (nI_ge (b := 16) (by omega) (by decide))
    · refine g_iload_n d_Mo_remarkAt_12 rfl 3 rfl ?_
      refine g_if_lt (tgt := 186) d_Mo_remarkAt_13 (by decide) (fun h13 => ?_) (fun h13 => ?_)
      · exact absurd h13 hx
      · refine g_aload_nq d_Mo_remarkAt_16 rfl 2 rfl ?_
        refine g_get d_Mo_remarkAt_17 f_Mo_264_Mo (by assumption) (by first | rfl | assumption) ?_
        first | refine g_if_eqB (tgt := 186) d_Mo_remarkAt_20 (by decide) (fun h20 => ?_) (fun h20 => ?_) | refine g_if_eq (tgt := 186) d_Mo_remarkAt_20 (by decide) (fun h20 => ?_) (fun h20 => ?_)
        · exact absurd h20 hran
        · refine g_iconst (v := 0) d_Mo_remarkAt_23 rfl ?_
          refine g_istore d_Mo_remarkAt_24 (by decide) rfl ?_
          show G _ _ _ _ _ _ _ _ [(5, _), (4, _), (3, _), (0, _), (1, _), (2, _)] _ _
          rw [lH] at hk9
          refine LS_Mo_remarkAt hR hI 3 0 l (by omega) (fK_mono (fK_app hk9) (fun _ h9 => h9) (fun l9 h9 => ?_))
          refine g_iinc (k := 1) d_Mo_remarkAt_180 rfl (nI_1 h) (by decide) rfl ?_
          refine g_goto (tgt := 5) d_Mo_remarkAt_183 (by decide) ?_
          refine g_sub [0, 2, 3, 4, 5] rfl (ih (h + 1) l9 (by omega) h9)

set_option maxHeartbeats 4000000 in
set_option maxRecDepth 100000 in
theorem C_Mo_remarkAt {w : zC} {Z : zZ} {Q : zR → zZ → Prop} {ad : Nat → Nat} {S : ST} (hR : Rep w ad S Z) (hI : mInv S) {x cl : Int32} (hQ : Q (.inl (some (.int (raV S x cl)))) Z) : Cz w (2, 56) y_Mo_remarkAt (Cond.code y_Mo_remarkAt c_Mo_remarkAt 10 r_Mo_remarkAt :: wz) [.ref (ad 600), .int x, .int cl] Z Q := by
  refine Cz.of (by decide +kernel) (by simp [lg_sl, Value.category]) ?_
  show G _ _ _ _ _ _ _ _ [(0, _), (1, _), (2, _)] _ _
  have hm : zhs Z (ad 600) (.inr (10, [.int (sI S 600 0), .ref (ad 701), .int (nI (sN S 20)), .int (nI (sN S 21)), .int (nI (sN S 22)), .ref (ad 705), .ref (ad 706), .ref (ad 707), .ref (ad 708), .ref (ad 709), .ref (ad 710), .ref (ad 711), .int (nI (sN S 23)), .ref (ad 713), .ref (ad 714), .ref (ad 715), .ref (ad 716), .int (nI (sN S 24)), .int (nI (sN S 25)), .ref (ad 719), .ref (ad 720), .ref (ad 721), .ref (ad 722), .ref (ad 723), .ref (ad 724), .int (sI S 600 25), .ref (ad 726), .ref (ad 727), .ref (ad 728), .int (sI S 600 29), .int (nI (sN S 26)), .ref (ad 731), .ref (ad 732), .int (nI (sN S 27)), .int (nI (sN S 28)), .int (nI (sN S 29)), .int (nI (sN S 30)), .ref (ad 737), .int (nI (sN S 31)), .int (nI (sN S 32)), .int (sI S 600 40), .ref (ad 741)])) := hR.m
  refine g_iload_n d_Mo_remarkAt_0 rfl 1 rfl ?_
  refine g_istore_n d_Mo_remarkAt_1 rfl (by decide) rfl ?_
  show G _ _ _ _ _ _ _ _ [(3, _), (0, _), (1, _), (2, _)] _ _
  refine g_iconst (v := 0) d_Mo_remarkAt_2 rfl ?_
  refine g_istore d_Mo_remarkAt_3 (by decide) rfl ?_
  show G _ _ _ _ _ _ _ _ [(4, _), (3, _), (0, _), (1, _), (2, _)] _ _
  by_cases hx : x < 0
  · rw [raV, if_pos (Or.inl hx)] at hQ
    refine g_iload d_Mo_remarkAt_5 0 rfl ?_
    refine g_bipush (v := 16) d_Mo_remarkAt_7 rfl ?_
    refine g_icmp_ge (tgt := 186) d_Mo_remarkAt_9 (by decide) (fun h9 => ?_) (fun h9 => ?_)
    · exact absurd h9 (by decide)
    · refine g_iload_n d_Mo_remarkAt_12 rfl 3 rfl ?_
      refine g_if_lt (tgt := 186) d_Mo_remarkAt_13 (by decide) (fun h13 => ?_) (fun h13 => ?_)
      · refine g_iconst (v := (-1)) d_Mo_remarkAt_186 rfl ?_
        refine g_iret d_Mo_remarkAt_187 ?_
        exact hQ
      · exact absurd hx h13
  by_cases hran : sI S 600 29 = 0
  · rw [raV, if_pos (Or.inr hran)] at hQ
    refine g_iload d_Mo_remarkAt_5 0 rfl ?_
    refine g_bipush (v := 16) d_Mo_remarkAt_7 rfl ?_
    refine g_icmp_ge (tgt := 186) d_Mo_remarkAt_9 (by decide) (fun h9 => ?_) (fun h9 => ?_)
    · exact absurd h9 (by decide)
    · refine g_iload_n d_Mo_remarkAt_12 rfl 3 rfl ?_
      refine g_if_lt (tgt := 186) d_Mo_remarkAt_13 (by decide) (fun h13 => ?_) (fun h13 => ?_)
      · exact absurd h13 hx
      · refine g_aload_nq d_Mo_remarkAt_16 rfl 2 rfl ?_
        refine g_get d_Mo_remarkAt_17 f_Mo_264_Mo (by assumption) (by first | rfl | assumption) ?_
        first | refine g_if_eqB (tgt := 186) d_Mo_remarkAt_20 (by decide) (fun h20 => ?_) (fun h20 => ?_) | refine g_if_eq (tgt := 186) d_Mo_remarkAt_20 (by decide) (fun h20 => ?_) (fun h20 => ?_)
        · refine g_iconst (v := (-1)) d_Mo_remarkAt_186 rfl ?_
          refine g_iret d_Mo_remarkAt_187 ?_
          exact hQ
        · exact absurd hran h20
  rw [raV, if_neg (fun z => by rcases z with z | z; exact hx z; exact hran z)] at hQ
  refine LH_Mo_remarkAt hR hI hx hran 16 0 x (by omega) ?_
  unfold fK
  split at hQ
  · exact hQ
  · exact hQ
