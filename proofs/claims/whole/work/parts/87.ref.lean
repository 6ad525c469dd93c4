/-! The reference: remark, closed, offRule, waive -/
theorem fndL_mem : ∀ {L : List Nat} {l l' : Int32} {i : Nat}, fndL L l = (some i, l') → i ∈ L
  | [], l, l', i, h => by cases h
  | a :: L, l, l', i, h => by
    rw [show fndL (a :: L) l = (if l = 0 then (some a, l) else fndL L (l - 1)) from rfl] at h
    split at h
    · cases h; exact List.mem_cons_self
    · exact List.mem_cons_of_mem _ (fndL_mem h)
theorem lR_lt {S : ST} {cl : Int32} {s j : Nat} (hs : s < 3) (h1 : j < 160) (h2 : if s = 2 then True else j < 40) : ∀ m r i, r + m ≤ 27 → i ∈ lR S cl (nI s) j m r → i < 6480 := by
  intro m
  induction m with
  | zero => intro r i _ h; cases h
  | succ m ih =>
    intro r i hr h
    rcases List.mem_append.mp h with h | h
    · split at h
      · rw [List.mem_singleton.mp h]; exact (tI_lt (by omega) hs h1 h2).1
      · cases h
    · exact ih (r + 1) i (by omega) h
theorem lJ_lt {S : ST} {cl h0 : Int32} {s : Nat} (hI : mInv S) (hs : s < 3) : ∀ m j i, j + m ≤ mny S s → i ∈ lJ S cl h0 (nI s) m j → i < 6480 := by
  have hml := mny_le hI hs
  intro m
  induction m with
  | zero => intro j i _ h; cases h
  | succ m ih =>
    intro j i hj h
    rcases List.mem_append.mp h with h | h
    · split at h
      · refine lR_lt hs (by omega) ?_ 27 0 i (by omega) h
        have h9 := hml.2
        by_cases e9 : s = 2
        · rw [if_pos e9]; trivial
        · rw [if_neg e9] at h9 ⊢; omega
      · cases h
    · exact ih (j + 1) i (by omega) h
theorem lS_lt {S : ST} {cl h0 : Int32} (hI : mInv S) : ∀ m s i, s + m ≤ 3 → i ∈ lS S cl h0 m s → i < 6480 := by
  intro m
  induction m with
  | zero => intro s i _ h; cases h
  | succ m ih =>
    intro s i hs h
    rcases List.mem_append.mp h with h | h
    · exact lJ_lt hI (by omega) _ 0 i (by omega) h
    · exact ih (s + 1) i (by omega) h
theorem lH_lt {S : ST} {cl : Int32} (hI : mInv S) : ∀ m h0 i, i ∈ lH S cl m h0 → i < 6480 := by
  intro m
  induction m with
  | zero => intro h0 i h; cases h
  | succ m ih =>
    intro h0 i h
    rcases List.mem_append.mp h with h | h
    · exact lS_lt hI 3 0 i (by omega) h
    · exact ih (h0 + 1) i h
theorem raV_lt {S : ST} {x cl : Int32} (hI : mInv S) (h : ¬ raV S x cl = -1) : ∃ i, i < 6480 ∧ raV S x cl = nI i := by
  unfold raV at h ⊢
  split at h
  · exact absurd rfl h
  · rename_i h1
    rw [if_neg h1]
    split at h
    · rename_i i l e
      exact ⟨i, lH_lt hI 16 0 i (fndL_mem e), rfl⟩
    · exact absurd rfl h
theorem thS_eq {S : ST} {x : Int32} : eqF S (thS S x) := ⟨fun i h0 _ _ _ => va_up_ne _ _ h0, fun _ _ => rfl, rfl⟩
def kdR (x : Int32) : Int32 := if 40 ≤ x - x / 240 * 240 then (if 80 ≤ x - x / 240 * 240 then 2 else 1) else 0
def nmR (x : Int32) : Int32 := if 40 ≤ x - x / 240 * 240 then (if 80 ≤ x - x / 240 * 240 then (x - x / 240 * 240 - 80) else (x - x / 240 * 240 - 40)) else (x - x / 240 * 240)
def rmM (S : ST) (i : Nat) (t : Int32) : Int32 := if t = 0 then nI i / 240 else if t = 1 then kdR (nI i) else if t = 2 then nmR (nI i) else if t = 3 then sI S 727 i else if t = 4 then sI S 726 i else rsR S (nI i) (sN S 26)
def clM (S : ST) (i : Nat) (t : Int32) : Int32 := if t = 0 then nI i / 240 else if t = 1 then kdR (nI i) else if t = 2 then nmR (nI i) else sI S 728 i
def ofR (S : ST) : Nat → Nat → Int32 → Int32
  | 0, _, _ => -1
  | m + 1, r, l => if sI S 724 r = 0 then ofR S m (r + 1) l else if l = 0 then nI r else ofR S m (r + 1) (l + (-1))
def atR (S : ST) (x : Int32) : Nat → Nat → Nat
  | 0, i => i
  | m + 1, i => if sI S 731 i = x then i else atR S x m (i + 1)
theorem atR_le {S : ST} {x : Int32} : ∀ m i, i ≤ atR S x m i ∧ atR S x m i ≤ i + m
  | 0, i => ⟨Nat.le_refl _, Nat.le_refl _⟩
  | m + 1, i => by
    unfold atR
    split
    · omega
    · have := atR_le (S := S) (x := x) m (i + 1); omega
theorem atR_no {S : ST} {x : Int32} : ∀ m i, atR S x m i = i + m → ∀ j, i ≤ j → j < i + m → ¬ sI S 731 j = x
  | 0, i, _ => fun j h1 h2 => by omega
  | m + 1, i, h => fun j h1 h2 => by
    unfold atR at h
    split at h
    · omega
    · rename_i h3
      by_cases e : j = i
      · rw [e]; exact h3
      · exact atR_no m (i + 1) (by omega) j (by omega) (by omega)
theorem rsR_no {S : ST} {x : Int32} : ∀ n, (∀ j, j < n → ¬ sI S 731 j = x) → rsR S x n = -1
  | 0, _ => rfl
  | n + 1, h => by
    unfold rsR
    rw [if_neg (h n (by omega))]
    exact rsR_no n (fun j hj => h j (by omega))
def wvM (S : ST) (x y : Int32) : Option ST := if rsR S x (sN S 26) = y then none else if y = -1 then some (wI (wI (wN (thS S 0) 26 (sN S 26 - 1)) 731 (upd (sI S 731) (atR S x (sN S 26) 0) (sI S 731 (sN S 26 - 1)))) 732 (upd (sI S 732) (atR S x (sN S 26) 0) (sI S 732 (sN S 26 - 1))))
  else if atR S x (sN S 26) 0 = 50 then none else some (wN (wI (wI (thS S 0) 731 (upd (sI S 731) (atR S x (sN S 26) 0) x)) 732 (upd (sI S 732) (atR S x (sN S 26) 0) y)) 26 (if atR S x (sN S 26) 0 = sN S 26 then sN S 26 + 1 else sN S 26))
theorem rea_ok {y : Int32} (h1 : ¬ y < -1) (h2 : y ≤ 999) : y = -1 ∨ inr y 1000 := by
  by_cases h : y < 0
  · left
    rw [Int32.lt_iff_toInt_lt, show Int32.toInt (-1) = -1 from rfl] at h1
    rw [Int32.lt_iff_toInt_lt, Int32.toInt_zero] at h
    exact Int32.toInt_inj.mp (by rw [show Int32.toInt (-1) = -1 from rfl]; omega)
  · exact Or.inr ⟨h, (le_pred (n := 999) (by decide)).mp h2⟩
theorem rea_no {y : Int32} (h : y = -1 ∨ inr y 1000) : ¬ y < -1 ∧ y ≤ 999 := by
  rcases h with rfl | h
  · exact ⟨by decide, by decide⟩
  · refine ⟨fun z => h.1 (Int32.lt_trans z (by decide)), (le_pred (n := 999) (by decide)).mpr h.2⟩
set_option maxHeartbeats 4000000 in
set_option maxRecDepth 100000 in
theorem C_Mo_remark {w : zC} {Z : zZ} {Q : zR → zZ → Prop} {ad : Nat → Nat} {S : ST} (hR : Rep w ad S Z) (hL : ciLive S) (hIv : mInv S) {x t : Int32} (hI : ¬ (¬ raV S x 0 = -1 ∧ inr t 6) → ∀ Z', Rep w ad (thS S 1) Z' → Z'.2.2 = Z.2.2 → Q (.inl (some (.int (0)))) Z') (hN : ∀ i, i < 6480 → raV S x 0 = nI i → inr t 6 → ∀ Z', Rep w ad (thS S 0) Z' → Z'.2.2 = Z.2.2 → Q (.inl (some (.int (rmM S i t)))) Z') : Cz w (3, 90) y_Mo_remark (Cond.code y_Mo_remark c_Mo_remark 4 r_Mo_remark :: wz) [.ref (ad 600), .int x, .int t] Z Q := by
  refine Cz.of (by decide +kernel) (by simp [lg_sl, Value.category]) ?_
  show G _ _ _ _ _ _ _ _ [(0, _), (1, _), (2, _)] _ _
  have hm : zhs Z (ad 600) (.inr (10, [.int (sI S 600 0), .ref (ad 701), .int (nI (sN S 20)), .int (nI (sN S 21)), .int (nI (sN S 22)), .ref (ad 705), .ref (ad 706), .ref (ad 707), .ref (ad 708), .ref (ad 709), .ref (ad 710), .ref (ad 711), .int (nI (sN S 23)), .ref (ad 713), .ref (ad 714), .ref (ad 715), .ref (ad 716), .int (nI (sN S 24)), .int (nI (sN S 25)), .ref (ad 719), .ref (ad 720), .ref (ad 721), .ref (ad 722), .ref (ad 723), .ref (ad 724), .int (sI S 600 25), .ref (ad 726), .ref (ad 727), .ref (ad 728), .int (sI S 600 29), .int (nI (sN S 26)), .ref (ad 731), .ref (ad 732), .int (nI (sN S 27)), .int (nI (sN S 28)), .int (nI (sN S 29)), .int (nI (sN S 30)), .ref (ad 737), .int (nI (sN S 31)), .int (nI (sN S 32)), .int (sI S 600 40), .ref (ad 741)])) := hR.m
  have m727 : zhs Z (ad 727) (xi w 6480 (sI S 727)) := hR.ma 727 (by decide)
  have m726 : zhs Z (ad 726) (xi w 6480 (sI S 726)) := hR.ma 726 (by decide)
  have J : ∀ i j, mL i → mL j → i ≠ j → ad i ≠ ad j := fun i j hi hj hne => hR.inj (lvL hi) (lvL hj) hne
  obtain ⟨Z0, hZ0⟩ : ∃ Z0, Z0 = Z := ⟨_, rfl⟩
  have hB : Z.2.2 = Z0.2.2 := by rw [hZ0]
  refine g_aload_nq d_Mo_remark_0 rfl 0 rfl ?_
  refine g_iload_n d_Mo_remark_1 rfl 1 rfl ?_
  refine g_iconst (v := 0) d_Mo_remark_2 rfl ?_
  refine g_callV d_Mo_remark_3 k_Mo_remarkAt l_Mo_271 i_Mo_remarkAt rfl p_Mo_remarkAt hm (by rfl) (by rfl) (Nat.le_of_ble_eq_true rfl) (by decide) (C_Mo_remarkAt hR hIv ⟨_, rfl, ?_⟩)
  refine g_istore_n d_Mo_remark_6 rfl (by decide) rfl ?_
  show G _ _ _ _ _ _ _ _ [(3, _), (0, _), (1, _), (2, _)] _ _
  refine g_aload_nq d_Mo_remark_7 rfl 1 rfl ?_
  refine g_iload_n d_Mo_remark_8 rfl 0 rfl ?_
  refine g_iconst (v := (-1)) d_Mo_remark_9 rfl ?_
  refine g_icmp_eq (tgt := 22) d_Mo_remark_10 (by decide) (fun h10 => ?_) (fun h10 => ?_)
  · have hF := hI (fun z => z.1 h10)
    refine g_iconst (v := 1) d_Mo_remark_22 rfl ?_
    refine g_goto (tgt := 27) d_Mo_remark_23 (by decide) ?_
    refine g_put d_Mo_remark_27 w_Mo_91_Mo (by assumption) (by first | rfl | exact zb_nar _) (by first | rfl | exact zb_fit _ | exact zrf_fit _) (by first | exact Nat.le_of_ble_eq_true rfl | omega) ?_
    refine gen_putI (P := fun z => G w y_Mo_remark c_Mo_remark 4 r_Mo_remark (3, 90) Q _ _ _ z) hR (i := 600) lv6 c6_0 (fun Z1 e1 hR => ?_)
    have m727 := zhs_put_ne' e1 m727 (J 727 600 (by decide) (by decide) (by decide))
    have m726 := zhs_put_ne' e1 m726 (J 726 600 (by decide) (by decide) (by decide))
    have hm := zhs_put_same' e1 hm
    simp only [List.set] at hm
    have hB : Z1.2.2 = Z0.2.2 := by rw [← e1]; exact hB
    refine g_aload_nq d_Mo_remark_30 rfl 1 rfl ?_
    refine g_get d_Mo_remark_31 f_Mo_91_Mo (by assumption) (by first | rfl | assumption) ?_
    first | refine g_if_eqB (tgt := 39) d_Mo_remark_34 (by decide) (fun h34 => ?_) (fun h34 => ?_) | refine g_if_eq (tgt := 39) d_Mo_remark_34 (by decide) (fun h34 => ?_) (fun h34 => ?_)
    · exact absurd h34 (by decide)
    · refine g_iconst (v := 0) d_Mo_remark_37 rfl ?_
      refine g_iret d_Mo_remark_38 ?_
      exact hF _ hR (by rw [hB, hZ0])
  · refine g_iload_n d_Mo_remark_13 rfl 3 rfl ?_
    refine g_if_lt (tgt := 22) d_Mo_remark_14 (by decide) (fun h14 => ?_) (fun h14 => ?_)
    · have hF := hI (fun z => z.2.1 h14)
      refine g_iconst (v := 1) d_Mo_remark_22 rfl ?_
      refine g_goto (tgt := 27) d_Mo_remark_23 (by decide) ?_
      refine g_put d_Mo_remark_27 w_Mo_91_Mo (by assumption) (by first | rfl | exact zb_nar _) (by first | rfl | exact zb_fit _ | exact zrf_fit _) (by first | exact Nat.le_of_ble_eq_true rfl | omega) ?_
      refine gen_putI (P := fun z => G w y_Mo_remark c_Mo_remark 4 r_Mo_remark (3, 90) Q _ _ _ z) hR (i := 600) lv6 c6_0 (fun Z1 e1 hR => ?_)
      have m727 := zhs_put_ne' e1 m727 (J 727 600 (by decide) (by decide) (by decide))
      have m726 := zhs_put_ne' e1 m726 (J 726 600 (by decide) (by decide) (by decide))
      have hm := zhs_put_same' e1 hm
      simp only [List.set] at hm
      have hB : Z1.2.2 = Z0.2.2 := by rw [← e1]; exact hB
      refine g_aload_nq d_Mo_remark_30 rfl 1 rfl ?_
      refine g_get d_Mo_remark_31 f_Mo_91_Mo (by assumption) (by first | rfl | assumption) ?_
      first | refine g_if_eqB (tgt := 39) d_Mo_remark_34 (by decide) (fun h34 => ?_) (fun h34 => ?_) | refine g_if_eq (tgt := 39) d_Mo_remark_34 (by decide) (fun h34 => ?_) (fun h34 => ?_)
      · exact absurd h34 (by decide)
      · refine g_iconst (v := 0) d_Mo_remark_37 rfl ?_
        refine g_iret d_Mo_remark_38 ?_
        exact hF _ hR (by rw [hB, hZ0])
    · refine g_iload_n d_Mo_remark_17 rfl 3 rfl ?_
      refine g_iconst (v := 5) d_Mo_remark_18 rfl ?_
      refine g_icmp_le (tgt := 26) d_Mo_remark_19 (by decide) (fun h19 => ?_) (fun h19 => ?_)
      · obtain ⟨i, hi6, ei⟩ := raV_lt hIv h10
        have hN := hN i hi6 ei ⟨h14, (le_pred (n := 5) (by decide)).mp h19⟩
        rw [ei]
        refine g_iconst (v := 0) d_Mo_remark_26 rfl ?_
        refine g_put d_Mo_remark_27 w_Mo_91_Mo (by assumption) (by first | rfl | exact zb_nar _) (by first | rfl | exact zb_fit _ | exact zrf_fit _) (by first | exact Nat.le_of_ble_eq_true rfl | omega) ?_
        refine gen_putI (P := fun z => G w y_Mo_remark c_Mo_remark 4 r_Mo_remark (3, 90) Q _ _ _ z) hR (i := 600) lv6 c6_0 (fun Z1 e1 hR => ?_)
        have m727 := zhs_put_ne' e1 m727 (J 727 600 (by decide) (by decide) (by decide))
        have m726 := zhs_put_ne' e1 m726 (J 726 600 (by decide) (by decide) (by decide))
        have hm := zhs_put_same' e1 hm
        simp only [List.set] at hm
        have hB : Z1.2.2 = Z0.2.2 := by rw [← e1]; exact hB
        refine g_aload_nq d_Mo_remark_30 rfl 1 rfl ?_
        refine g_get d_Mo_remark_31 f_Mo_91_Mo (by assumption) (by first | rfl | assumption) ?_
        first | refine g_if_eqB (tgt := 39) d_Mo_remark_34 (by decide) (fun h34 => ?_) (fun h34 => ?_) | refine g_if_eq (tgt := 39) d_Mo_remark_34 (by decide) (fun h34 => ?_) (fun h34 => ?_)
        · refine g_iload_n d_Mo_remark_39 rfl 3 rfl ?_
          rcases sw_0_4 t with h40 | rfl | rfl | rfl | rfl | rfl
          · refine g_tableOut (tgt := 106) d_Mo_remark_40 h40 (by decide) ?_
            unfold rmM at hN
            rw [if_neg (show ¬ t = 0 from fun z => by subst z; exact absurd h40 (by decide)), if_neg (show ¬ t = 1 from fun z => by subst z; exact absurd h40 (by decide)), if_neg (show ¬ t = 2 from fun z => by subst z; exact absurd h40 (by decide)), if_neg (show ¬ t = 3 from fun z => by subst z; exact absurd h40 (by decide)), if_neg (show ¬ t = 4 from fun z => by subst z; exact absurd h40 (by decide))] at hN
            refine g_aload_nq d_Mo_remark_106 rfl 1 rfl ?_
            refine g_iload_n d_Mo_remark_107 rfl 0 rfl ?_
            refine g_callV d_Mo_remark_108 k_Mo_reason l_Mo_261 i_Mo_reason rfl p_Mo_reason hm (by rfl) (by rfl) (Nat.le_of_ble_eq_true rfl) (by decide) (C_Mo_reason hR (hIv.eq thS_eq) ⟨_, rfl, ?_⟩)
            rw [show rsR (wI S 600 (va_up (sI S 600) 0 0)) (nI i) (sN (wI S 600 (va_up (sI S 600) 0 0)) 26) = rsR S (nI i) (sN S 26) from rsR_eq (thS_eq (x := 0)) _]
            refine g_iret d_Mo_remark_111 ?_
            exact hN _ hR (by rw [hB, hZ0])
          · refine g_tableIn (tgt := 76) d_Mo_remark_40 (by decide) (by decide) rfl (by decide) ?_
            unfold rmM at hN
            rw [if_pos rfl] at hN
            refine g_iload_n d_Mo_remark_76 rfl 0 rfl ?_
            refine g_sipush (v := 240) d_Mo_remark_77 rfl ?_
            refine g_idiv d_Mo_remark_80 (by decide) ?_
            refine g_iret d_Mo_remark_81 ?_
            exact hN _ hR (by rw [hB, hZ0])
          · refine g_tableIn (tgt := 82) d_Mo_remark_40 (by decide) (by decide) rfl (by decide) ?_
            unfold rmM at hN
            rw [if_neg (by decide), if_pos rfl] at hN
            refine g_iload_n d_Mo_remark_82 rfl 0 rfl ?_
            refine g_callS d_Mo_remark_83 k_Mo_kindOf l_Mo_275 s_Mo_kindOf (by rfl) (by rfl) (Nat.le_of_ble_eq_true rfl) (by decide) (C_Mo_kindOf ⟨_, rfl, ?_⟩)
            refine g_iret d_Mo_remark_86 ?_
            exact hN _ hR (by rw [hB, hZ0])
          · refine g_tableIn (tgt := 87) d_Mo_remark_40 (by decide) (by decide) rfl (by decide) ?_
            unfold rmM at hN
            rw [if_neg (by decide), if_neg (by decide), if_pos rfl] at hN
            refine g_iload_n d_Mo_remark_87 rfl 0 rfl ?_
            refine g_callS d_Mo_remark_88 k_Mo_numberOf l_Mo_278 s_Mo_numberOf (by rfl) (by rfl) (Nat.le_of_ble_eq_true rfl) (by decide) (C_Mo_numberOf ⟨_, rfl, ?_⟩)
            refine g_iret d_Mo_remark_91 ?_
            exact hN _ hR (by rw [hB, hZ0])
          · refine g_tableIn (tgt := 92) d_Mo_remark_40 (by decide) (by decide) rfl (by decide) ?_
            unfold rmM at hN
            rw [if_neg (by decide), if_neg (by decide), if_neg (by decide), if_pos rfl] at hN
            refine g_aload_nq d_Mo_remark_92 rfl 1 rfl ?_
            refine g_get d_Mo_remark_93 f_Mo_73_Mo (by assumption) (by first | rfl | assumption) ?_
            refine g_iload_n d_Mo_remark_96 rfl 0 rfl ?_
            refine g_iald d_Mo_remark_97 (by assumption) (vp_in_nI (n := i) hi6 (by decide)) ?_
            rw [nI_clamp (by omega)]
            refine g_iret d_Mo_remark_98 ?_
            exact hN _ hR (by rw [hB, hZ0])
          · refine g_tableIn (tgt := 99) d_Mo_remark_40 (by decide) (by decide) rfl (by decide) ?_
            unfold rmM at hN
            rw [if_neg (by decide), if_neg (by decide), if_neg (by decide), if_neg (by decide), if_pos rfl] at hN
            refine g_aload_nq d_Mo_remark_99 rfl 1 rfl ?_
            refine g_get d_Mo_remark_100 f_Mo_70_Mo (by assumption) (by first | rfl | assumption) ?_
            refine g_iload_n d_Mo_remark_103 rfl 0 rfl ?_
            refine g_iald d_Mo_remark_104 (by assumption) (vp_in_nI (n := i) hi6 (by decide)) ?_
            rw [nI_clamp (by omega)]
            refine g_iret d_Mo_remark_105 ?_
            exact hN _ hR (by rw [hB, hZ0])
        · exact absurd rfl h34
      · have hF := hI (fun z => h19 ((le_pred (n := 5) (by decide)).mpr z.2.2))
        refine g_iconst (v := 1) d_Mo_remark_22 rfl ?_
        refine g_goto (tgt := 27) d_Mo_remark_23 (by decide) ?_
        refine g_put d_Mo_remark_27 w_Mo_91_Mo (by assumption) (by first | rfl | exact zb_nar _) (by first | rfl | exact zb_fit _ | exact zrf_fit _) (by first | exact Nat.le_of_ble_eq_true rfl | omega) ?_
        refine gen_putI (P := fun z => G w y_Mo_remark c_Mo_remark 4 r_Mo_remark (3, 90) Q _ _ _ z) hR (i := 600) lv6 c6_0 (fun Z1 e1 hR => ?_)
        have m727 := zhs_put_ne' e1 m727 (J 727 600 (by decide) (by decide) (by decide))
        have m726 := zhs_put_ne' e1 m726 (J 726 600 (by decide) (by decide) (by decide))
        have hm := zhs_put_same' e1 hm
        simp only [List.set] at hm
        have hB : Z1.2.2 = Z0.2.2 := by rw [← e1]; exact hB
        refine g_aload_nq d_Mo_remark_30 rfl 1 rfl ?_
        refine g_get d_Mo_remark_31 f_Mo_91_Mo (by assumption) (by first | rfl | assumption) ?_
        first | refine g_if_eqB (tgt := 39) d_Mo_remark_34 (by decide) (fun h34 => ?_) (fun h34 => ?_) | refine g_if_eq (tgt := 39) d_Mo_remark_34 (by decide) (fun h34 => ?_) (fun h34 => ?_)
        · exact absurd h34 (by decide)
        · refine g_iconst (v := 0) d_Mo_remark_37 rfl ?_
          refine g_iret d_Mo_remark_38 ?_
          exact hF _ hR (by rw [hB, hZ0])

set_option maxHeartbeats 4000000 in
set_option maxRecDepth 100000 in
theorem C_Mo_closed {w : zC} {Z : zZ} {Q : zR → zZ → Prop} {ad : Nat → Nat} {S : ST} (hR : Rep w ad S Z) (hL : ciLive S) (hIv : mInv S) {x t : Int32} (hI : ¬ (¬ raV S x 1 = -1 ∧ inr t 4) → ∀ Z', Rep w ad (thS S 1) Z' → Z'.2.2 = Z.2.2 → Q (.inl (some (.int (0)))) Z') (hN : ∀ i, i < 6480 → raV S x 1 = nI i → inr t 4 → ∀ Z', Rep w ad (thS S 0) Z' → Z'.2.2 = Z.2.2 → Q (.inl (some (.int (clM S i t)))) Z') : Cz w (3, 90) y_Mo_closed (Cond.code y_Mo_closed c_Mo_closed 4 r_Mo_closed :: wz) [.ref (ad 600), .int x, .int t] Z Q := by
  refine Cz.of (by decide +kernel) (by simp [lg_sl, Value.category]) ?_
  show G _ _ _ _ _ _ _ _ [(0, _), (1, _), (2, _)] _ _
  have hm : zhs Z (ad 600) (.inr (10, [.int (sI S 600 0), .ref (ad 701), .int (nI (sN S 20)), .int (nI (sN S 21)), .int (nI (sN S 22)), .ref (ad 705), .ref (ad 706), .ref (ad 707), .ref (ad 708), .ref (ad 709), .ref (ad 710), .ref (ad 711), .int (nI (sN S 23)), .ref (ad 713), .ref (ad 714), .ref (ad 715), .ref (ad 716), .int (nI (sN S 24)), .int (nI (sN S 25)), .ref (ad 719), .ref (ad 720), .ref (ad 721), .ref (ad 722), .ref (ad 723), .ref (ad 724), .int (sI S 600 25), .ref (ad 726), .ref (ad 727), .ref (ad 728), .int (sI S 600 29), .int (nI (sN S 26)), .ref (ad 731), .ref (ad 732), .int (nI (sN S 27)), .int (nI (sN S 28)), .int (nI (sN S 29)), .int (nI (sN S 30)), .ref (ad 737), .int (nI (sN S 31)), .int (nI (sN S 32)), .int (sI S 600 40), .ref (ad 741)])) := hR.m
  have m728 : zhs Z (ad 728) (xi w 6480 (sI S 728)) := hR.ma 728 (by decide)
  have J : ∀ i j, mL i → mL j → i ≠ j → ad i ≠ ad j := fun i j hi hj hne => hR.inj (lvL hi) (lvL hj) hne
  obtain ⟨Z0, hZ0⟩ : ∃ Z0, Z0 = Z := ⟨_, rfl⟩
  have hB : Z.2.2 = Z0.2.2 := by rw [hZ0]
  refine g_aload_nq d_Mo_closed_0 rfl 0 rfl ?_
  refine g_iload_n d_Mo_closed_1 rfl 1 rfl ?_
  refine g_iconst (v := 1) d_Mo_closed_2 rfl ?_
  refine g_callV d_Mo_closed_3 k_Mo_remarkAt l_Mo_271 i_Mo_remarkAt rfl p_Mo_remarkAt hm (by rfl) (by rfl) (Nat.le_of_ble_eq_true rfl) (by decide) (C_Mo_remarkAt hR hIv ⟨_, rfl, ?_⟩)
  refine g_istore_n d_Mo_closed_6 rfl (by decide) rfl ?_
  show G _ _ _ _ _ _ _ _ [(3, _), (0, _), (1, _), (2, _)] _ _
  refine g_aload_nq d_Mo_closed_7 rfl 1 rfl ?_
  refine g_iload_n d_Mo_closed_8 rfl 0 rfl ?_
  refine g_iconst (v := (-1)) d_Mo_closed_9 rfl ?_
  refine g_icmp_eq (tgt := 22) d_Mo_closed_10 (by decide) (fun h10 => ?_) (fun h10 => ?_)
  · have hF := hI (fun z => z.1 h10)
    refine g_iconst (v := 1) d_Mo_closed_22 rfl ?_
    refine g_goto (tgt := 27) d_Mo_closed_23 (by decide) ?_
    refine g_put d_Mo_closed_27 w_Mo_91_Mo (by assumption) (by first | rfl | exact zb_nar _) (by first | rfl | exact zb_fit _ | exact zrf_fit _) (by first | exact Nat.le_of_ble_eq_true rfl | omega) ?_
    refine gen_putI (P := fun z => G w y_Mo_closed c_Mo_closed 4 r_Mo_closed (3, 90) Q _ _ _ z) hR (i := 600) lv6 c6_0 (fun Z1 e1 hR => ?_)
    have m728 := zhs_put_ne' e1 m728 (J 728 600 (by decide) (by decide) (by decide))
    have hm := zhs_put_same' e1 hm
    simp only [List.set] at hm
    have hB : Z1.2.2 = Z0.2.2 := by rw [← e1]; exact hB
    refine g_aload_nq d_Mo_closed_30 rfl 1 rfl ?_
    refine g_get d_Mo_closed_31 f_Mo_91_Mo (by assumption) (by first | rfl | assumption) ?_
    first | refine g_if_eqB (tgt := 39) d_Mo_closed_34 (by decide) (fun h34 => ?_) (fun h34 => ?_) | refine g_if_eq (tgt := 39) d_Mo_closed_34 (by decide) (fun h34 => ?_) (fun h34 => ?_)
    · exact absurd h34 (by decide)
    · refine g_iconst (v := 0) d_Mo_closed_37 rfl ?_
      refine g_iret d_Mo_closed_38 ?_
      exact hF _ hR (by rw [hB, hZ0])
  · refine g_iload_n d_Mo_closed_13 rfl 3 rfl ?_
    refine g_if_lt (tgt := 22) d_Mo_closed_14 (by decide) (fun h14 => ?_) (fun h14 => ?_)
    · have hF := hI (fun z => z.2.1 h14)
      refine g_iconst (v := 1) d_Mo_closed_22 rfl ?_
      refine g_goto (tgt := 27) d_Mo_closed_23 (by decide) ?_
      refine g_put d_Mo_closed_27 w_Mo_91_Mo (by assumption) (by first | rfl | exact zb_nar _) (by first | rfl | exact zb_fit _ | exact zrf_fit _) (by first | exact Nat.le_of_ble_eq_true rfl | omega) ?_
      refine gen_putI (P := fun z => G w y_Mo_closed c_Mo_closed 4 r_Mo_closed (3, 90) Q _ _ _ z) hR (i := 600) lv6 c6_0 (fun Z1 e1 hR => ?_)
      have m728 := zhs_put_ne' e1 m728 (J 728 600 (by decide) (by decide) (by decide))
      have hm := zhs_put_same' e1 hm
      simp only [List.set] at hm
      have hB : Z1.2.2 = Z0.2.2 := by rw [← e1]; exact hB
      refine g_aload_nq d_Mo_closed_30 rfl 1 rfl ?_
      refine g_get d_Mo_closed_31 f_Mo_91_Mo (by assumption) (by first | rfl | assumption) ?_
      first | refine g_if_eqB (tgt := 39) d_Mo_closed_34 (by decide) (fun h34 => ?_) (fun h34 => ?_) | refine g_if_eq (tgt := 39) d_Mo_closed_34 (by decide) (fun h34 => ?_) (fun h34 => ?_)
      · exact absurd h34 (by decide)
      · refine g_iconst (v := 0) d_Mo_closed_37 rfl ?_
        refine g_iret d_Mo_closed_38 ?_
        exact hF _ hR (by rw [hB, hZ0])
    · refine g_iload_n d_Mo_closed_17 rfl 3 rfl ?_
      refine g_iconst (v := 3) d_Mo_closed_18 rfl ?_
      refine g_icmp_le (tgt := 26) d_Mo_closed_19 (by decide) (fun h19 => ?_) (fun h19 => ?_)
      · obtain ⟨i, hi6, ei⟩ := raV_lt hIv h10
        have hN := hN i hi6 ei ⟨h14, (le_pred (n := 3) (by decide)).mp h19⟩
        rw [ei]
        refine g_iconst (v := 0) d_Mo_closed_26 rfl ?_
        refine g_put d_Mo_closed_27 w_Mo_91_Mo (by assumption) (by first | rfl | exact zb_nar _) (by first | rfl | exact zb_fit _ | exact zrf_fit _) (by first | exact Nat.le_of_ble_eq_true rfl | omega) ?_
        refine gen_putI (P := fun z => G w y_Mo_closed c_Mo_closed 4 r_Mo_closed (3, 90) Q _ _ _ z) hR (i := 600) lv6 c6_0 (fun Z1 e1 hR => ?_)
        have m728 := zhs_put_ne' e1 m728 (J 728 600 (by decide) (by decide) (by decide))
        have hm := zhs_put_same' e1 hm
        simp only [List.set] at hm
        have hB : Z1.2.2 = Z0.2.2 := by rw [← e1]; exact hB
        refine g_aload_nq d_Mo_closed_30 rfl 1 rfl ?_
        refine g_get d_Mo_closed_31 f_Mo_91_Mo (by assumption) (by first | rfl | assumption) ?_
        first | refine g_if_eqB (tgt := 39) d_Mo_closed_34 (by decide) (fun h34 => ?_) (fun h34 => ?_) | refine g_if_eq (tgt := 39) d_Mo_closed_34 (by decide) (fun h34 => ?_) (fun h34 => ?_)
        · refine g_iload_n d_Mo_closed_39 rfl 3 rfl ?_
          first | refine g_if_neB (tgt := 51) d_Mo_closed_40 (by decide) (fun h40 => ?_) (fun h40 => ?_) | refine g_if_ne (tgt := 51) d_Mo_closed_40 (by decide) (fun h40 => ?_) (fun h40 => ?_)
          · rw [clM, if_neg h40] at hN
            refine g_iload_n d_Mo_closed_51 rfl 3 rfl ?_
            refine g_iconst (v := 1) d_Mo_closed_52 rfl ?_
            refine g_icmp_ne (tgt := 63) d_Mo_closed_53 (by decide) (fun h53 => ?_) (fun h53 => ?_)
            · rw [if_neg h53] at hN
              refine g_iload_n d_Mo_closed_63 rfl 3 rfl ?_
              refine g_iconst (v := 2) d_Mo_closed_64 rfl ?_
              refine g_icmp_ne (tgt := 75) d_Mo_closed_65 (by decide) (fun h65 => ?_) (fun h65 => ?_)
              · rw [if_neg h65] at hN
                refine g_aload_nq d_Mo_closed_75 rfl 1 rfl ?_
                refine g_get d_Mo_closed_76 f_Mo_76_Mo (by assumption) (by first | rfl | assumption) ?_
                refine g_iload_n d_Mo_closed_79 rfl 0 rfl ?_
                refine g_iald d_Mo_closed_80 (by assumption) (vp_in_nI (n := i) hi6 (by decide)) ?_
                rw [nI_clamp (by omega)]
                refine g_iret d_Mo_closed_81 ?_
                exact hN _ hR (by rw [hB, hZ0])
              · rw [if_pos h65] at hN
                refine g_iload_n d_Mo_closed_68 rfl 0 rfl ?_
                refine g_callS d_Mo_closed_69 k_Mo_numberOf l_Mo_278 s_Mo_numberOf (by rfl) (by rfl) (Nat.le_of_ble_eq_true rfl) (by decide) (C_Mo_numberOf ⟨_, rfl, ?_⟩)
                refine g_goto (tgt := 81) d_Mo_closed_72 (by decide) ?_
                refine g_iret d_Mo_closed_81 ?_
                exact hN _ hR (by rw [hB, hZ0])
            · rw [if_pos h53] at hN
              refine g_iload_n d_Mo_closed_56 rfl 0 rfl ?_
              refine g_callS d_Mo_closed_57 k_Mo_kindOf l_Mo_275 s_Mo_kindOf (by rfl) (by rfl) (Nat.le_of_ble_eq_true rfl) (by decide) (C_Mo_kindOf ⟨_, rfl, ?_⟩)
              refine g_goto (tgt := 81) d_Mo_closed_60 (by decide) ?_
              refine g_iret d_Mo_closed_81 ?_
              exact hN _ hR (by rw [hB, hZ0])
          · rw [clM, if_pos h40] at hN
            refine g_iload_n d_Mo_closed_43 rfl 0 rfl ?_
            refine g_sipush (v := 240) d_Mo_closed_44 rfl ?_
            refine g_idiv d_Mo_closed_47 (by decide) ?_
            refine g_goto (tgt := 81) d_Mo_closed_48 (by decide) ?_
            refine g_iret d_Mo_closed_81 ?_
            exact hN _ hR (by rw [hB, hZ0])
        · exact absurd rfl h34
      · have hF := hI (fun z => h19 ((le_pred (n := 3) (by decide)).mpr z.2.2))
        refine g_iconst (v := 1) d_Mo_closed_22 rfl ?_
        refine g_goto (tgt := 27) d_Mo_closed_23 (by decide) ?_
        refine g_put d_Mo_closed_27 w_Mo_91_Mo (by assumption) (by first | rfl | exact zb_nar _) (by first | rfl | exact zb_fit _ | exact zrf_fit _) (by first | exact Nat.le_of_ble_eq_true rfl | omega) ?_
        refine gen_putI (P := fun z => G w y_Mo_closed c_Mo_closed 4 r_Mo_closed (3, 90) Q _ _ _ z) hR (i := 600) lv6 c6_0 (fun Z1 e1 hR => ?_)
        have m728 := zhs_put_ne' e1 m728 (J 728 600 (by decide) (by decide) (by decide))
        have hm := zhs_put_same' e1 hm
        simp only [List.set] at hm
        have hB : Z1.2.2 = Z0.2.2 := by rw [← e1]; exact hB
        refine g_aload_nq d_Mo_closed_30 rfl 1 rfl ?_
        refine g_get d_Mo_closed_31 f_Mo_91_Mo (by assumption) (by first | rfl | assumption) ?_
        first | refine g_if_eqB (tgt := 39) d_Mo_closed_34 (by decide) (fun h34 => ?_) (fun h34 => ?_) | refine g_if_eq (tgt := 39) d_Mo_closed_34 (by decide) (fun h34 => ?_) (fun h34 => ?_)
        · exact absurd h34 (by decide)
        · refine g_iconst (v := 0) d_Mo_closed_37 rfl ?_
          refine g_iret d_Mo_closed_38 ?_
          exact hF _ hR (by rw [hB, hZ0])

set_option maxHeartbeats 4000000 in
set_option maxRecDepth 100000 in
theorem L_Mo_offRule {w : zC} {Z : zZ} {Q : zR → zZ → Prop} {ad : Nat → Nat} {S : ST} (hR : Rep w ad (thS S 0) Z) {x : Int32} (h25 : sN S 25 ≤ 20) (hx : ¬ x < 0) (m : Nat) : ∀ r l, r + m = 7 + sN S 25 → Q (.inl (some (.int (ofR S m r l)))) Z → G w y_Mo_offRule c_Mo_offRule 4 r_Mo_offRule (0, 0) Q 9 [(3, .int (nI r)), (2, .int l), (0, .ref (ad 600)), (1, .int x)] [] Z := by
  have hm : zhs Z (ad 600) (.inr (10, [.int (sI (thS S 0) 600 0), .ref (ad 701), .int (nI (sN S 20)), .int (nI (sN S 21)), .int (nI (sN S 22)), .ref (ad 705), .ref (ad 706), .ref (ad 707), .ref (ad 708), .ref (ad 709), .ref (ad 710), .ref (ad 711), .int (nI (sN S 23)), .ref (ad 713), .ref (ad 714), .ref (ad 715), .ref (ad 716), .int (nI (sN S 24)), .int (nI (sN S 25)), .ref (ad 719), .ref (ad 720), .ref (ad 721), .ref (ad 722), .ref (ad 723), .ref (ad 724), .int (sI (thS S 0) 600 25), .ref (ad 726), .ref (ad 727), .ref (ad 728), .int (sI (thS S 0) 600 29), .int (nI (sN S 26)), .ref (ad 731), .ref (ad 732), .int (nI (sN S 27)), .int (nI (sN S 28)), .int (nI (sN S 29)), .int (nI (sN S 30)), .ref (ad 737), .int (nI (sN S 31)), .int (nI (sN S 32)), .int (sI (thS S 0) 600 40), .ref (ad 741)])) := hR.m
  have m724 : zhs Z (ad 724) (xz w 27 (sI S 724)) := hR.ma 724 (by decide)
  induction m with
  | zero =>
    intro r l hr hQ
    refine g_iload_n d_Mo_offRule_9 rfl 0 rfl ?_
    refine g_bipush (v := 7) d_Mo_offRule_10 rfl ?_
    refine g_aload_nq d_Mo_offRule_12 rfl 2 rfl ?_
    refine g_get d_Mo_offRule_13 f_Mo_210_Mo (by assumption) (by first | rfl | assumption) ?_
    refine g_iadd d_Mo_offRule_16 ?_
    rw [show (7 : Int32) = nI 7 from rfl, nI_add]
    refine g_icmp_ge (tgt := 51) d_Mo_offRule_17 (by decide) (fun h17 => ?_) (fun h17 => ?_)
    · refine g_iconst (v := (-1)) d_Mo_offRule_51 rfl ?_
      refine g_iret d_Mo_offRule_52 ?_
      exact hQ
    · exact absurd (nI_le (by omega) (by omega)) h17
  | succ m ih =>
    intro r l hr hQ
    refine g_iload_n d_Mo_offRule_9 rfl 0 rfl ?_
    refine g_bipush (v := 7) d_Mo_offRule_10 rfl ?_
    refine g_aload_nq d_Mo_offRule_12 rfl 2 rfl ?_
    refine g_get d_Mo_offRule_13 f_Mo_210_Mo (by assumption) (by first | rfl | assumption) ?_
    refine g_iadd d_Mo_offRule_16 ?_
    rw [show (7 : Int32) = nI 7 from rfl, nI_add]
    refine g_icmp_ge (tgt := 51) d_Mo_offRule_17 (by decide) (fun h17 => ?_) (fun h17 => ?_)
    · exact absurd h17 (nI_ge (by omega) (by omega))
    · refine g_iload_n d_Mo_offRule_20 rfl 3 rfl ?_
      refine g_if_lt (tgt := 51) d_Mo_offRule_21 (by decide) (fun h21 => ?_) (fun h21 => ?_)
      · exact absurd h21 hx
      · refine g_aload_nq d_Mo_offRule_24 rfl 2 rfl ?_
        refine g_get d_Mo_offRule_25 f_Mo_62_Mo (by assumption) (by first | rfl | assumption) ?_
        refine g_iload_n d_Mo_offRule_28 rfl 0 rfl ?_
        refine g_zald d_Mo_offRule_29 (by assumption) (vp_in_nI (n := r) (by omega) (by decide)) ?_
        rw [nI_clamp (by omega)]
        first | refine g_if_neB (tgt := 36) d_Mo_offRule_30 (by decide) (fun h30 => ?_) (fun h30 => ?_) | refine g_if_ne (tgt := 36) d_Mo_offRule_30 (by decide) (fun h30 => ?_) (fun h30 => ?_)
        · rw [ofR, if_neg h30] at hQ
          refine g_iload_n d_Mo_offRule_36 rfl 1 rfl ?_
          first | refine g_if_neB (tgt := 42) d_Mo_offRule_37 (by decide) (fun h37 => ?_) (fun h37 => ?_) | refine g_if_ne (tgt := 42) d_Mo_offRule_37 (by decide) (fun h37 => ?_) (fun h37 => ?_)
          · rw [if_neg h37] at hQ
            refine g_iinc (k := 1) d_Mo_offRule_42 rfl rfl (by decide) rfl ?_
            show G _ _ _ _ _ _ _ _ [(2, _), (3, _), (0, _), (1, _)] _ _
            refine g_iinc (k := 1) d_Mo_offRule_45 rfl (nI_1 r) (by decide) rfl ?_
            refine g_goto (tgt := 9) d_Mo_offRule_48 (by decide) ?_
            exact ih (r + 1) _ (by omega) hQ
          · rw [if_pos h37] at hQ
            refine g_iload_n d_Mo_offRule_40 rfl 0 rfl ?_
            refine g_iret d_Mo_offRule_41 ?_
            exact hQ
        · rw [ofR, if_pos h30] at hQ
          refine g_goto (tgt := 45) d_Mo_offRule_33 (by decide) ?_
          refine g_iinc (k := 0) d_Mo_offRule_45 rfl (nI_1 r) (by decide) rfl ?_
          refine g_goto (tgt := 9) d_Mo_offRule_48 (by decide) ?_
          exact ih (r + 1) l (by omega) hQ

set_option maxHeartbeats 4000000 in
set_option maxRecDepth 100000 in
theorem C_Mo_offRule {w : zC} {Z : zZ} {Q : zR → zZ → Prop} {ad : Nat → Nat} {S : ST} (hR : Rep w ad S Z) (hL : ciLive S) {x : Int32} (h25 : sN S 25 ≤ 20) (hQ : ∀ Z', Rep w ad (thS S 0) Z' → Z'.2.2 = Z.2.2 → Q (.inl (some (.int (if x < 0 then -1 else ofR S (7 + sN S 25) 0 x)))) Z') : Cz w (0, 0) y_Mo_offRule (Cond.code y_Mo_offRule c_Mo_offRule 4 r_Mo_offRule :: wz) [.ref (ad 600), .int x] Z Q := by
  refine Cz.of (by decide +kernel) (by simp [lg_sl, Value.category]) ?_
  show G _ _ _ _ _ _ _ _ [(0, _), (1, _)] _ _
  have hm : zhs Z (ad 600) (.inr (10, [.int (sI S 600 0), .ref (ad 701), .int (nI (sN S 20)), .int (nI (sN S 21)), .int (nI (sN S 22)), .ref (ad 705), .ref (ad 706), .ref (ad 707), .ref (ad 708), .ref (ad 709), .ref (ad 710), .ref (ad 711), .int (nI (sN S 23)), .ref (ad 713), .ref (ad 714), .ref (ad 715), .ref (ad 716), .int (nI (sN S 24)), .int (nI (sN S 25)), .ref (ad 719), .ref (ad 720), .ref (ad 721), .ref (ad 722), .ref (ad 723), .ref (ad 724), .int (sI S 600 25), .ref (ad 726), .ref (ad 727), .ref (ad 728), .int (sI S 600 29), .int (nI (sN S 26)), .ref (ad 731), .ref (ad 732), .int (nI (sN S 27)), .int (nI (sN S 28)), .int (nI (sN S 29)), .int (nI (sN S 30)), .ref (ad 737), .int (nI (sN S 31)), .int (nI (sN S 32)), .int (sI S 600 40), .ref (ad 741)])) := hR.m
  have J : ∀ i j, mL i → mL j → i ≠ j → ad i ≠ ad j := fun i j hi hj hne => hR.inj (lvL hi) (lvL hj) hne
  obtain ⟨Z0, hZ0⟩ : ∃ Z0, Z0 = Z := ⟨_, rfl⟩
  have hB : Z.2.2 = Z0.2.2 := by rw [hZ0]
  refine g_aload_nq d_Mo_offRule_0 rfl 0 rfl ?_
  refine g_iconst (v := 0) d_Mo_offRule_1 rfl ?_
  refine g_put d_Mo_offRule_2 w_Mo_91_Mo (by assumption) (by first | rfl | exact zb_nar _) (by first | rfl | exact zb_fit _ | exact zrf_fit _) (by first | exact Nat.le_of_ble_eq_true rfl | omega) ?_
  refine gen_putI (P := fun z => G w y_Mo_offRule c_Mo_offRule 4 r_Mo_offRule (0, 0) Q _ _ _ z) hR (i := 600) lv6 c6_0 (fun Z1 e1 hR => ?_)
  have hm := zhs_put_same' e1 hm
  simp only [List.set] at hm
  have hB : Z1.2.2 = Z0.2.2 := by rw [← e1]; exact hB
  refine g_iload_n d_Mo_offRule_5 rfl 1 rfl ?_
  refine g_istore_n d_Mo_offRule_6 rfl (by decide) rfl ?_
  show G _ _ _ _ _ _ _ _ [(2, _), (0, _), (1, _)] _ _
  refine g_iconst (v := 0) d_Mo_offRule_7 rfl ?_
  refine g_istore_n d_Mo_offRule_8 rfl (by decide) rfl ?_
  show G _ _ _ _ _ _ _ _ [(3, _), (2, _), (0, _), (1, _)] _ _
  by_cases hx : x < 0
  · rw [if_pos hx] at hQ
    refine g_iload_n d_Mo_offRule_9 rfl 0 rfl ?_
    refine g_bipush (v := 7) d_Mo_offRule_10 rfl ?_
    refine g_aload_nq d_Mo_offRule_12 rfl 2 rfl ?_
    refine g_get d_Mo_offRule_13 f_Mo_210_Mo (by assumption) (by first | rfl | assumption) ?_
    refine g_iadd d_Mo_offRule_16 ?_
    rw [show (7 : Int32) = nI 7 from rfl, nI_add]
    refine g_icmp_ge (tgt := 51) d_Mo_offRule_17 (by decide) (fun h17 => ?_) (fun h17 => ?_)
    · exact absurd h17 (nI_ge (a := 0) (by omega) (by omega))
    · refine g_iload_n d_Mo_offRule_20 rfl 3 rfl ?_
      refine g_if_lt (tgt := 51) d_Mo_offRule_21 (by decide) (fun h21 => ?_) (fun h21 => ?_)
      · refine g_iconst (v := (-1)) d_Mo_offRule_51 rfl ?_
        refine g_iret d_Mo_offRule_52 ?_
        exact hQ _ hR (by rw [hB, hZ0])
      · exact absurd hx h21
  rw [if_neg hx] at hQ
  exact L_Mo_offRule hR h25 hx (7 + sN S 25) 0 x (by omega) (hQ _ hR (by rw [hB, hZ0]))
