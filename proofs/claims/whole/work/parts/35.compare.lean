/-! PinKindChecks.compareWithBefore -/
def advN (kl : Nat → Int32) (x : Int32) : Nat → Nat → Nat
  | 0, i => i
  | n + 1, i => if kl i < x then advN kl x n (i + 1) else i
theorem advN_le {kl : Nat → Int32} {x : Int32} : ∀ {n i : Nat}, i ≤ advN kl x n i ∧ advN kl x n i ≤ i + n
  | 0, i => ⟨Nat.le_refl _, Nat.le_refl _⟩
  | n + 1, i => by
    unfold advN
    split
    · have := advN_le (kl := kl) (x := x) (n := n) (i := i + 1)
      omega
    · omega
def cmpF (kl : Nat → Int32) (nL : Nat) (bk bw bf : Nat → Int32) : Nat → Nat → Nat → (Nat → Int32) × List RM → (Nat → Int32) × List RM
  | 0, _, _, s => s
  | n + 1, i, a, s => if advN kl (bk i) (nL - a) a < nL ∧ kl (advN kl (bk i) (nL - a) a) = bk i then cmpF kl nL bk bw bf n (i + 1) (advN kl (bk i) (nL - a) a) (upd s.1 (advN kl (bk i) (nL - a) a) (bf i), s.2) else cmpF kl nL bk bw bf n (i + 1) (advN kl (bk i) (nL - a) a) (s.1, s.2 ++ [(bk i, bw i, bf i)])
/-- row 0, the firsts of row j, and the stack may have moved -/
def mvC (S S' : ST) (j : Nat) : Prop := (∀ m, (m ≠ 22 ∧ m ≠ 23 ∧ m ≠ 24 ∧ m ≠ 24 + 3 * j) → sI S' m = sI S m) ∧ (∀ m, m ≠ 10 → sJ S' m = sJ S m) ∧ sR S' = sR S ∧ ∀ m, (m ≠ 17 ∧ m ≠ 4) → sN S' m = sN S m
theorem mvC.rf {S : ST} {j : Nat} : mvC S S j := ⟨fun _ _ => rfl, fun _ _ => rfl, rfl, fun _ _ => rfl⟩
theorem mvC.tr {a b c : ST} {j : Nat} (h1 : mvC a b j) (h2 : mvC b c j) : mvC a c j := ⟨fun m hm => (h2.1 m hm).trans (h1.1 m hm), fun m hm => (h2.2.1 m hm).trans (h1.2.1 m hm), h2.2.2.1.trans h1.2.2.1, fun m hm => (h2.2.2.2 m hm).trans (h1.2.2.2 m hm)⟩
theorem mv.C {S S' : ST} {j : Nat} (h : mv S S' 0) : mvC S S' j := ⟨fun m hm => h.1 m (by omega), h.2.1, h.2.2.1, fun m hm => h.2.2.2 m (by omega)⟩
theorem mvC.wI {S : ST} {j : Nat} {f : Nat → Int32} : mvC S (wI S (24 + 3 * j) f) j := ⟨fun m hm => va_up_ne _ _ (by omega), fun _ _ => rfl, rfl, fun _ _ => rfl⟩
theorem remL_wI {S : ST} {j m : Nat} {f : Nat → Int32} (h : m ≠ 22 + 3 * j ∧ m ≠ 23 + 3 * j ∧ m ≠ 24 + 3 * j) : remL (wI S m f) j = remL S j := by
  unfold remL
  show List.map (fun i => (va_up S.1 m f (22 + 3 * j) i, va_up S.1 m f (23 + 3 * j) i, va_up S.1 m f (24 + 3 * j) i)) _ = _
  rw [va_up_ne _ _ (Ne.symm h.1), va_up_ne _ _ (Ne.symm h.2.1), va_up_ne _ _ (Ne.symm h.2.2)]
  rfl
theorem mvC.ord {S S' : ST} {j : Nat} (h : mvC S S' j) (ho : ciOrd S) : ciOrd S' := fun k hk => by
  rw [h.2.2.2 0 (by omega), h.2.2.2 1 (by omega), h.2.2.2 2 (by omega)] at hk
  rw [h.2.2.2 _ (by omega)]
  exact ho k hk
set_option maxHeartbeats 4000000 in
set_option maxRecDepth 100000 in
theorem L_cmp_adv {w : zC} {Z : zZ} {Q : zR → zZ → Prop} {ad : Nat → Nat} {S : ST} (hR : Rep w ad S Z) {j b : Nat} (hjb : j + b = 3) (hj1 : 1 ≤ j) (hb1 : 1 ≤ b) (h8 : sN S 8 = j) (hcj : capOK S j) (hcb : capOK S b) {x y : Int32} (n : Nat) : ∀ a, a + n = sN S (17 + j) → G w y_K_compareWithBefore c_K_compareWithBefore 4 r_K_compareWithBefore (4, 120) Q 60 [(1, .int (nI (advN (sI S (22 + 3 * j)) x n a))), (3, .int x), (2, .int y), (0, .ref (ad 0))] [] Z → G w y_K_compareWithBefore c_K_compareWithBefore 4 r_K_compareWithBefore (4, 120) Q 31 [(1, .int (nI a)), (3, .int x), (2, .int y), (0, .ref (ad 0))] [] Z := by
  have n8 : 8 - sN S 8 = 5 + b := by omega
  have h0 : zhs Z (ad 0) (.inr (0, [.ref (ad 1), .ref (ad 3), .ref (ad 8), .ref (ad 9), .ref (ad 4), .ref (ad 5), .ref (ad 10), .ref (ad (5 + sN S 8)), .ref (ad (8 - sN S 8)), .int (nI (sN S 3)), .int (sI S 0 11)])) := hR.k 0 (by decide)
  rw [n8, h8] at h0
  obtain ⟨g0, g1, g2, g3⟩ := hR.rem (j := j) (by omega)
  obtain ⟨e0, e1, e2, e3⟩ := hR.rem (j := b) (by omega)
  have cj := hcj
  have cb := hcb
  unfold capOK at cj cb
  induction n with
  | zero =>
    intro a ha hk
    refine g_iload_n d_K_compareWithBefore_31 rfl 0 rfl ?_
    refine g_aload_nq d_K_compareWithBefore_32 rfl 3 rfl ?_
    refine g_get d_K_compareWithBefore_33 f_K_51_K (by assumption) (by first | rfl | assumption) ?_
    refine g_callV d_K_compareWithBefore_36 k_Rm_count l_K_187 i_Rm_count rfl q_Rm_Rm_count_Rm g0 (by rfl) (by rfl) (Nat.le_of_ble_eq_true rfl) (by decide) (C_Rm_count g0 ⟨_, rfl, ?_⟩)
    refine g_icmp_ge (tgt := 60) d_K_compareWithBefore_39 (by decide) (fun h39 => ?_) (fun h39 => ?_)
    · exact hk
    · exact absurd (nI_le (by omega) (by omega)) h39
  | succ n ih =>
    intro a ha hk
    refine g_iload_n d_K_compareWithBefore_31 rfl 0 rfl ?_
    refine g_aload_nq d_K_compareWithBefore_32 rfl 3 rfl ?_
    refine g_get d_K_compareWithBefore_33 f_K_51_K (by assumption) (by first | rfl | assumption) ?_
    refine g_callV d_K_compareWithBefore_36 k_Rm_count l_K_187 i_Rm_count rfl q_Rm_Rm_count_Rm g0 (by rfl) (by rfl) (Nat.le_of_ble_eq_true rfl) (by decide) (C_Rm_count g0 ⟨_, rfl, ?_⟩)
    refine g_icmp_ge (tgt := 60) d_K_compareWithBefore_39 (by decide) (fun h39 => ?_) (fun h39 => ?_)
    · exact absurd h39 (nI_ge (by omega) (by omega))
    · refine g_aload_nq d_K_compareWithBefore_42 rfl 3 rfl ?_
      refine g_get d_K_compareWithBefore_43 f_K_51_K (by assumption) (by first | rfl | assumption) ?_
      refine g_iload_n d_K_compareWithBefore_46 rfl 0 rfl ?_
      refine g_callV d_K_compareWithBefore_47 k_Rm_keyOf l_K_198 i_Rm_keyOf rfl q_Rm_Rm_keyOf_Rm g0 (by rfl) (by rfl) (Nat.le_of_ble_eq_true rfl) (by decide) (C_Rm_keyOf g0 g1 cj.1 (by omega) ⟨_, rfl, ?_⟩)
      rw [if_pos ⟨nI_pos (by omega), nI_ge (by omega) (by omega)⟩, nI_clamp (by omega)]
      refine g_iload_n d_K_compareWithBefore_50 rfl 1 rfl ?_
      refine g_icmp_ge (tgt := 60) d_K_compareWithBefore_51 (by decide) (fun h51 => ?_) (fun h51 => ?_)
      · rw [advN, if_neg (Int32.not_lt.mpr h51)] at hk
        exact hk
      · rw [advN, if_pos (Int32.not_le.mp h51)] at hk
        refine g_iinc (k := 0) d_K_compareWithBefore_54 rfl (nI_1 a) (by decide) rfl ?_
        refine g_goto (tgt := 31) d_K_compareWithBefore_57 (by decide) ?_
        exact ih (a + 1) (by omega) hk

set_option maxHeartbeats 4000000 in
set_option maxRecDepth 100000 in
theorem L_K_compare {w : zC} {Q : zR → zZ → Prop} {j b : Nat} (hjb : j + b = 3) (hj1 : 1 ≤ j) (hb1 : 1 ≤ b) (n : Nat) : ∀ i a ad S Z, i + n = sN S (17 + b) → a ≤ sN S (17 + j) → Rep w ad S Z → sN S 8 = j → capOK S j → capOK S b → capOK S 0 → ciOrd S → bOK S Z 0 → (remL S 0).length + n ≤ 3720 → (∀ Z' ad' S', Rep w ad' S' Z' → mvA ad ad' 0 → mvC S S' j → (sI S' (24 + 3 * j), remL S' 0) = cmpF (sI S (22 + 3 * j)) (sN S (17 + j)) (sI S (22 + 3 * b)) (sI S (23 + 3 * b)) (sI S (24 + 3 * b)) n i a (sI S (24 + 3 * j), remL S 0) → capOK S' 0 → bud S S' Z Z' 0 → Q (.inl none) Z') → G w y_K_compareWithBefore c_K_compareWithBefore 4 r_K_compareWithBefore (4, 120) Q 11 [(2, .int (nI i)), (1, .int (nI a)), (0, .ref (ad 0))] [] Z := by
  induction n with
  | zero =>
    intro i a ad S Z hi ha hR h8 hcj hcb hc0 ho hb hl hQ
    have n8 : 8 - sN S 8 = 5 + b := by omega
    have h0 : zhs Z (ad 0) (.inr (0, [.ref (ad 1), .ref (ad 3), .ref (ad 8), .ref (ad 9), .ref (ad 4), .ref (ad 5), .ref (ad 10), .ref (ad (5 + sN S 8)), .ref (ad (8 - sN S 8)), .int (nI (sN S 3)), .int (sI S 0 11)])) := hR.k 0 (by decide)
    rw [n8, h8] at h0
    obtain ⟨g0, g1, g2, g3⟩ := hR.rem (j := j) (by omega)
    obtain ⟨e0, e1, e2, e3⟩ := hR.rem (j := b) (by omega)
    have cj := hcj
    have cb := hcb
    unfold capOK at cj cb
    refine g_iload_n d_K_compareWithBefore_11 rfl 0 rfl ?_
    refine g_aload_nq d_K_compareWithBefore_12 rfl 2 rfl ?_
    refine g_get d_K_compareWithBefore_13 f_K_54_K (by assumption) (by first | rfl | assumption) ?_
    refine g_callV d_K_compareWithBefore_16 k_Rm_count l_K_187 i_Rm_count rfl q_Rm_Rm_count_Rm e0 (by rfl) (by rfl) (Nat.le_of_ble_eq_true rfl) (by decide) (C_Rm_count e0 ⟨_, rfl, ?_⟩)
    refine g_icmp_ge (tgt := 132) d_K_compareWithBefore_19 (by decide) (fun h19 => ?_) (fun h19 => ?_)
    · refine g_vret d_K_compareWithBefore_132 ?_
      exact hQ Z ad S hR mvA.rf mvC.rf rfl hc0 bud.rf
    · exact absurd (nI_le (by omega) (by omega)) h19
  | succ n ih =>
    intro i a ad S Z hi ha hR h8 hcj hcb hc0 ho hb hl hQ
    have n8 : 8 - sN S 8 = 5 + b := by omega
    have h0 : zhs Z (ad 0) (.inr (0, [.ref (ad 1), .ref (ad 3), .ref (ad 8), .ref (ad 9), .ref (ad 4), .ref (ad 5), .ref (ad 10), .ref (ad (5 + sN S 8)), .ref (ad (8 - sN S 8)), .int (nI (sN S 3)), .int (sI S 0 11)])) := hR.k 0 (by decide)
    rw [n8, h8] at h0
    obtain ⟨g0, g1, g2, g3⟩ := hR.rem (j := j) (by omega)
    obtain ⟨e0, e1, e2, e3⟩ := hR.rem (j := b) (by omega)
    have cj := hcj
    have cb := hcb
    unfold capOK at cj cb
    have hA := advN_le (kl := sI S (22 + 3 * j)) (x := sI S (22 + 3 * b) i) (n := sN S (17 + j) - a) (i := a)
    have hQ : ∀ Z' ad' S', Rep w ad' S' Z' → mvA ad ad' 0 → mvC S S' j → (sI S' (24 + 3 * j), remL S' 0) = (if (advN (sI S (22 + 3 * j)) (sI S (22 + 3 * b) i) (sN S (17 + j) - a) a) < sN S (17 + j) ∧ sI S (22 + 3 * j) (advN (sI S (22 + 3 * j)) (sI S (22 + 3 * b) i) (sN S (17 + j) - a) a) = sI S (22 + 3 * b) i then cmpF (sI S (22 + 3 * j)) (sN S (17 + j)) (sI S (22 + 3 * b)) (sI S (23 + 3 * b)) (sI S (24 + 3 * b)) n (i + 1) (advN (sI S (22 + 3 * j)) (sI S (22 + 3 * b) i) (sN S (17 + j) - a) a) (upd (sI S (24 + 3 * j)) (advN (sI S (22 + 3 * j)) (sI S (22 + 3 * b) i) (sN S (17 + j) - a) a) (sI S (24 + 3 * b) i), remL S 0) else cmpF (sI S (22 + 3 * j)) (sN S (17 + j)) (sI S (22 + 3 * b)) (sI S (23 + 3 * b)) (sI S (24 + 3 * b)) n (i + 1) (advN (sI S (22 + 3 * j)) (sI S (22 + 3 * b) i) (sN S (17 + j) - a) a) (sI S (24 + 3 * j), remL S 0 ++ [(sI S (22 + 3 * b) i, sI S (23 + 3 * b) i, sI S (24 + 3 * b) i)])) → capOK S' 0 → bud S S' Z Z' 0 → Q (.inl none) Z' := hQ
    have A1 : ∀ q, q = (advN (sI S (22 + 3 * j)) (sI S (22 + 3 * b) i) (sN S (17 + j) - a) a) → q ≤ sN S (17 + j) := fun q hq => by omega
    have next : ∀ a9, a9 ≤ sN S (17 + j) → ∀ Z' ad' S' x, Rep w ad' S' Z' → mvA ad ad' 0 → mvC S S' j → capOK S' 0 → bud S S' Z Z' 0 → (remL S' 0).length + n ≤ 3720 → (∀ Z2 ad2 S2, Rep w ad2 S2 Z2 → mvA ad ad2 0 → mvC S S2 j → (sI S2 (24 + 3 * j), remL S2 0) = cmpF (sI S (22 + 3 * j)) (sN S (17 + j)) (sI S (22 + 3 * b)) (sI S (23 + 3 * b)) (sI S (24 + 3 * b)) n (i + 1) a9 (sI S' (24 + 3 * j), remL S' 0) → capOK S2 0 → bud S S2 Z Z2 0 → Q (.inl none) Z2) → G w y_K_compareWithBefore c_K_compareWithBefore 4 r_K_compareWithBefore (4, 120) Q 126 [(1, .int (nI a9)), (3, .int x), (2, .int (nI i)), (0, .ref (ad 0))] [] Z' := by
      intro a9 ha9 Z' ad' S' x hR' ma m cap bb hl' hq
      refine g_iinc (k := 2) d_K_compareWithBefore_126 rfl (nI_1 i) (by decide) rfl ?_
      refine g_goto (tgt := 11) d_K_compareWithBefore_129 (by decide) ?_
      refine g_sub (lv := [(2, .int (nI (i + 1))), (1, .int (nI a9)), (0, .ref (ad 0))]) [0, 1, 3] rfl ?_
      rw [← ma 0 (by omega)]
      have s17 := m.2.2.2 (17 + j) (by omega)
      have s18 := m.2.2.2 (17 + b) (by omega)
      refine ih (i + 1) a9 ad' S' Z' (by rw [s18]; omega) (by rw [s17]; exact ha9) hR' (by rw [m.2.2.2 8 (by omega)]; exact h8) ?_ ?_ cap (m.ord ho) (hb.st bb) hl' ?_
      · unfold capOK; rw [s17, m.2.2.2 (4 + j) (by omega)]; exact hcj
      · unfold capOK; rw [s18, m.2.2.2 (4 + b) (by omega)]; exact hcb
      · intro Z2 ad2 S2 q1 q2 q3 q4 q5 q6
        refine hq Z2 ad2 S2 q1 (ma.tr q2) (m.tr q3) ?_ q5 (bb.tr q6)
        rw [q4, m.1 (22 + 3 * j) (by omega), s17, m.1 (22 + 3 * b) (by omega), m.1 (23 + 3 * b) (by omega), m.1 (24 + 3 * b) (by omega)]
    have cl : ∀ a9, a9 = (advN (sI S (22 + 3 * j)) (sI S (22 + 3 * b) i) (sN S (17 + j) - a) a) → ¬ (a9 < sN S (17 + j) ∧ sI S (22 + 3 * j) a9 = sI S (22 + 3 * b) i) → G w y_K_compareWithBefore c_K_compareWithBefore 4 r_K_compareWithBefore (4, 120) Q 102 [(1, .int (nI a9)), (3, .int (sI S (22 + 3 * b) i)), (2, .int (nI i)), (0, .ref (ad 0))] [] Z := by
      intro a9 ha9 hno
      refine g_aload_nq d_K_compareWithBefore_102 rfl 3 rfl ?_
      refine g_get d_K_compareWithBefore_103 f_K_43_K (by assumption) (by first | rfl | assumption) ?_
      refine g_iload_n d_K_compareWithBefore_106 rfl 1 rfl ?_
      refine g_aload_nq d_K_compareWithBefore_107 rfl 3 rfl ?_
      refine g_get d_K_compareWithBefore_108 f_K_54_K (by assumption) (by first | rfl | assumption) ?_
      refine g_iload_n d_K_compareWithBefore_111 rfl 2 rfl ?_
      refine g_callV d_K_compareWithBefore_112 k_Rm_weightOf l_K_192 i_Rm_weightOf rfl q_Rm_Rm_weightOf_Rm e0 (by rfl) (by rfl) (Nat.le_of_ble_eq_true rfl) (by decide) (C_Rm_weightOf e0 e2 cb.1 (by omega) ⟨_, rfl, ?_⟩)
      rw [if_pos ⟨nI_pos (by omega), nI_ge (by omega) (by omega)⟩, nI_clamp (by omega)]
      refine g_aload_nq d_K_compareWithBefore_115 rfl 3 rfl ?_
      refine g_get d_K_compareWithBefore_116 f_K_54_K (by assumption) (by first | rfl | assumption) ?_
      refine g_iload_n d_K_compareWithBefore_119 rfl 2 rfl ?_
      refine g_callV d_K_compareWithBefore_120 k_Rm_firstOf l_K_195 i_Rm_firstOf rfl q_Rm_Rm_firstOf_Rm e0 (by rfl) (by rfl) (Nat.le_of_ble_eq_true rfl) (by decide) (C_Rm_firstOf e0 e3 cb.1 (by omega) ⟨_, rfl, ?_⟩)
      rw [if_pos ⟨nI_pos (by omega), nI_ge (by omega) (by omega)⟩, nI_clamp (by omega)]
      refine g_callV d_K_compareWithBefore_123 k_Rm_add l_K_230 i_Rm_add rfl q_Rm_Rm_add_Rm (hR.rem (j := 0) (by decide)).1 (by rfl) (by rfl) (Nat.le_of_ble_eq_true rfl) (by decide) (A_add (j := 0) hR (by decide) ho hc0 ?_ hb (fun Z2 ad2 S2 hR2 ma2 m2 r2 c2 b2 => ⟨_, rfl, ?_⟩))
      · rw [remL_len] at hl; omega
      · refine next a9 (A1 a9 ha9) Z2 ad2 S2 _ hR2 ma2 m2.C c2 b2 (by rw [r2, List.length_append]; simp only [List.length_cons, List.length_nil]; omega) (fun Z3 ad3 S3 q1 q2 q3 q4 q5 q6 => hQ Z3 ad3 S3 q1 q2 q3 ?_ q5 q6)
        rw [ha9] at hno q4
        rw [if_neg hno, q4, r2, m2.1 (24 + 3 * j) (by omega)]
    refine g_iload_n d_K_compareWithBefore_11 rfl 0 rfl ?_
    refine g_aload_nq d_K_compareWithBefore_12 rfl 2 rfl ?_
    refine g_get d_K_compareWithBefore_13 f_K_54_K (by assumption) (by first | rfl | assumption) ?_
    refine g_callV d_K_compareWithBefore_16 k_Rm_count l_K_187 i_Rm_count rfl q_Rm_Rm_count_Rm e0 (by rfl) (by rfl) (Nat.le_of_ble_eq_true rfl) (by decide) (C_Rm_count e0 ⟨_, rfl, ?_⟩)
    refine g_icmp_ge (tgt := 132) d_K_compareWithBefore_19 (by decide) (fun h19 => ?_) (fun h19 => ?_)
    · exact absurd h19 (nI_ge (by omega) (by omega))
    · refine g_aload_nq d_K_compareWithBefore_22 rfl 2 rfl ?_
      refine g_get d_K_compareWithBefore_23 f_K_54_K (by assumption) (by first | rfl | assumption) ?_
      refine g_iload_n d_K_compareWithBefore_26 rfl 0 rfl ?_
      refine g_callV d_K_compareWithBefore_27 k_Rm_keyOf l_K_198 i_Rm_keyOf rfl q_Rm_Rm_keyOf_Rm e0 (by rfl) (by rfl) (Nat.le_of_ble_eq_true rfl) (by decide) (C_Rm_keyOf e0 e1 cb.1 (by omega) ⟨_, rfl, ?_⟩)
      rw [if_pos ⟨nI_pos (by omega), nI_ge (by omega) (by omega)⟩, nI_clamp (by omega)]
      refine g_istore_n d_K_compareWithBefore_30 rfl (by decide) rfl ?_
      show G _ _ _ _ _ _ _ _ [(3, _), (2, _), (1, _), (0, _)] _ _
      refine g_sub (lv := [(1, .int (nI a)), (3, .int (sI S (22 + 3 * b) i)), (2, .int (nI i)), (0, .ref (ad 0))]) [2, 0, 1, 3] rfl ?_
      refine L_cmp_adv hR hjb hj1 hb1 h8 hcj hcb (sN S (17 + j) - a) a (by omega) ?_
      generalize hq : (advN (sI S (22 + 3 * j)) (sI S (22 + 3 * b) i) (sN S (17 + j) - a) a) = q
      have hq2 := A1 q hq.symm
      refine g_iload_n d_K_compareWithBefore_60 rfl 0 rfl ?_
      refine g_aload_nq d_K_compareWithBefore_61 rfl 3 rfl ?_
      refine g_get d_K_compareWithBefore_62 f_K_51_K (by assumption) (by first | rfl | assumption) ?_
      refine g_callV d_K_compareWithBefore_65 k_Rm_count l_K_187 i_Rm_count rfl q_Rm_Rm_count_Rm g0 (by rfl) (by rfl) (Nat.le_of_ble_eq_true rfl) (by decide) (C_Rm_count g0 ⟨_, rfl, ?_⟩)
      refine g_icmp_ge (tgt := 102) d_K_compareWithBefore_68 (by decide) (fun h68 => ?_) (fun h68 => ?_)
      · have hqn : ¬ q < sN S (17 + j) := fun z => nI_ge z (by omega) h68
        exact cl q hq.symm (fun z => hqn z.1)
      · have hqn : q < sN S (17 + j) := Nat.not_le.mp (fun z => h68 (nI_le z (by omega)))
        refine g_aload_nq d_K_compareWithBefore_71 rfl 3 rfl ?_
        refine g_get d_K_compareWithBefore_72 f_K_51_K (by assumption) (by first | rfl | assumption) ?_
        refine g_iload_n d_K_compareWithBefore_75 rfl 0 rfl ?_
        refine g_callV d_K_compareWithBefore_76 k_Rm_keyOf l_K_198 i_Rm_keyOf rfl q_Rm_Rm_keyOf_Rm g0 (by rfl) (by rfl) (Nat.le_of_ble_eq_true rfl) (by decide) (C_Rm_keyOf g0 g1 cj.1 (by omega) ⟨_, rfl, ?_⟩)
        rw [if_pos ⟨nI_pos (by omega), nI_ge (by omega) (by omega)⟩, nI_clamp (by omega)]
        refine g_iload_n d_K_compareWithBefore_79 rfl 1 rfl ?_
        refine g_icmp_ne (tgt := 102) d_K_compareWithBefore_80 (by decide) (fun h80 => ?_) (fun h80 => ?_)
        · exact cl q hq.symm (fun z => h80 z.2)
        · refine g_aload_nq d_K_compareWithBefore_83 rfl 3 rfl ?_
          refine g_get d_K_compareWithBefore_84 f_K_51_K (by assumption) (by first | rfl | assumption) ?_
          refine g_iload_n d_K_compareWithBefore_87 rfl 0 rfl ?_
          refine g_aload_nq d_K_compareWithBefore_88 rfl 3 rfl ?_
          refine g_get d_K_compareWithBefore_89 f_K_54_K (by assumption) (by first | rfl | assumption) ?_
          refine g_iload_n d_K_compareWithBefore_92 rfl 2 rfl ?_
          refine g_callV d_K_compareWithBefore_93 k_Rm_firstOf l_K_195 i_Rm_firstOf rfl q_Rm_Rm_firstOf_Rm e0 (by rfl) (by rfl) (Nat.le_of_ble_eq_true rfl) (by decide) (C_Rm_firstOf e0 e3 cb.1 (by omega) ⟨_, rfl, ?_⟩)
          rw [if_pos ⟨nI_pos (by omega), nI_ge (by omega) (by omega)⟩, nI_clamp (by omega)]
          refine g_callV d_K_compareWithBefore_96 k_Rm_setFirst l_K_249 i_Rm_setFirst rfl q_Rm_Rm_setFirst_Rm g0 (by rfl) (by rfl) (Nat.le_of_ble_eq_true rfl) (by decide) (C_Rm_setFirst g0 g3 cj.1 (by omega) ⟨nI_pos (by omega), nI_ge (by omega) (by omega)⟩ ⟨_, rfl, ?_⟩)
          rw [nI_clamp (by omega)]
          have hR9 : Rep w ad (wI S (24 + 3 * j) (upd (sI S (24 + 3 * j)) q (sI S (24 + 3 * b) i))) (zput Z (ad (24 + 3 * j)) (xi w (sN S (4 + j)) (upd (sI S (24 + 3 * j)) q (sI S (24 + 3 * b) i)))) := hR.putI (Or.inl (by omega)) (by rw [show cellOf w ad (wI S (24 + 3 * j) (upd (sI S (24 + 3 * j)) q (sI S (24 + 3 * b) i))) (24 + 3 * j) = _ from cell_ra (t := 2) (by omega) (by decide)]; exact congrArg (xi w (sN S (4 + j))) (va_up_self S.1 (24 + 3 * j) _))
          refine g_goto (tgt := 126) d_K_compareWithBefore_99 (by decide) ?_
          refine next q hq2 _ ad _ _ hR9 mvA.rf mvC.wI hc0 ⟨Nat.le_refl _, Nat.le_refl _⟩ ?_ (fun Z3 ad3 S3 q1 q2 q3 q4 q5 q6 => hQ Z3 ad3 S3 q1 q2 q3 ?_ q5 q6)
          · rw [remL_wI (by omega)]; omega
          · rw [remL_wI (by omega), show sI (wI S (24 + 3 * j) (upd (sI S (24 + 3 * j)) q (sI S (24 + 3 * b) i))) (24 + 3 * j) = _ from va_up_self S.1 (24 + 3 * j) _] at q4
            rw [hq, if_pos ⟨hqn, h80⟩, q4]

set_option maxHeartbeats 4000000 in
set_option maxRecDepth 100000 in
theorem C_K_compareWithBefore {w : zC} {Z : zZ} {Q : zR → zZ → Prop} {ad : Nat → Nat} {S : ST} (hR : Rep w ad S Z) {j b : Nat} (hjb : j + b = 3) (hj1 : 1 ≤ j) (hb1 : 1 ≤ b) (h8 : sN S 8 = j) (hcj : capOK S j) (hcb : capOK S b) (hc0 : capOK S 0) (hL : ciLive S) (hb : bOK S Z 0) (hQ : (∀ Z' ad' S', Rep w ad' S' Z' → mvA ad ad' 0 → mvC S S' j → (sI S' (24 + 3 * j), remL S' 0) = cmpF (sI S (22 + 3 * j)) (sN S (17 + j)) (sI S (22 + 3 * b)) (sI S (23 + 3 * b)) (sI S (24 + 3 * b)) (sN S (17 + b)) 0 0 (sI S (24 + 3 * j), []) → capOK S' 0 → bud S S' Z Z' 0 → Q (.inl none) Z')) : Cz w (4, 120) y_K_compareWithBefore (Cond.code y_K_compareWithBefore c_K_compareWithBefore 4 r_K_compareWithBefore :: wz) [.ref (ad 0)] Z Q := by
  refine Cz.of (by decide +kernel) (by simp [lg_sl, Value.category]) ?_
  show G _ _ _ _ _ _ _ _ [(0, _)] _ _
  have h0 : zhs Z (ad 0) (.inr (0, [.ref (ad 1), .ref (ad 3), .ref (ad 8), .ref (ad 9), .ref (ad 4), .ref (ad 5), .ref (ad 10), .ref (ad (5 + sN S 8)), .ref (ad (8 - sN S 8)), .int (nI (sN S 3)), .int (sI S 0 11)])) := hR.k 0 (by decide)
  refine g_aload_nq d_K_compareWithBefore_0 rfl 0 rfl ?_
  refine g_get d_K_compareWithBefore_1 f_K_43_K (by assumption) (by first | rfl | assumption) ?_
  refine g_callV d_K_compareWithBefore_4 k_Rm_wipe l_K_169 i_Rm_wipe rfl q_Rm_Rm_wipe_Rm (hR.rem (j := 0) (by decide)).1 (by rfl) (by rfl) (Nat.le_of_ble_eq_true rfl) (by decide) (C_Rm_wipe (hR.rem (j := 0) (by decide)).1 ⟨_, rfl, ?_⟩)
  have hR9 := hR.wipe hL (j := 0) (by decide)
  have m9 : mvC S (wN S (17 + 0) 0) j := ⟨fun _ _ => rfl, fun _ _ => rfl, rfl, fun m hm => va_up_ne _ _ (by omega)⟩
  have c9 : capOK (wN S (17 + 0) 0) 0 := ⟨by rw [wN_self]; omega, hc0.2⟩
  have r9 : remL (wN S (17 + 0) 0) 0 = [] := by unfold remL; rw [wN_self]; rfl
  refine g_iconst (v := 0) d_K_compareWithBefore_7 rfl ?_
  refine g_istore_n d_K_compareWithBefore_8 rfl (by decide) rfl ?_
  show G _ _ _ _ _ _ _ _ [(1, _), (0, _)] _ _
  refine g_iconst (v := 0) d_K_compareWithBefore_9 rfl ?_
  refine g_istore_n d_K_compareWithBefore_10 rfl (by decide) rfl ?_
  show G _ _ _ _ _ _ _ _ [(2, _), (1, _), (0, _)] _ _
  have s17 := m9.2.2.2 (17 + j) (by omega)
  have s18 := m9.2.2.2 (17 + b) (by omega)
  refine L_K_compare hjb hj1 hb1 (sN S (17 + b)) 0 0 ad _ _ (by rw [s18]; omega) (by omega) hR9 (by rw [m9.2.2.2 8 (by omega)]; exact h8) (by unfold capOK; rw [s17, m9.2.2.2 (4 + j) (by omega)]; exact hcj) (by unfold capOK; rw [s18, m9.2.2.2 (4 + b) (by omega)]; exact hcb) c9 (m9.ord hL.ord) hb (by rw [r9]; unfold capOK at hcb; simp only [List.length_nil]; omega) ?_
  intro Z2 ad2 S2 q1 q2 q3 q4 q5 q6
  rw [r9, s17] at q4
  exact hQ Z2 ad2 S2 q1 q2 (m9.tr q3) q4 q5 q6
