/-! The reference: worst, isNamedBefore, isOffGrid -/
set_option maxHeartbeats 4000000 in
set_option maxRecDepth 100000 in
theorem J1_Mo_worst {w : zC} {Z : zZ} {Q : zR → zZ → Prop} {ad : Nat → Nat} {S : ST} (hR : Rep w ad S Z) (hI : mInv S) {p q : Nat} {n : Int32} (hp : p < 160) (hq : q < 160) (k9 : G w y_Mo_worst c_Mo_worst 5 r_Mo_worst (0, 0) Q 59 [(3, .int (nI q)), (2, .int n), (0, .ref (ad 600)), (1, .int (nI p))] [.int (wvV S p q)] Z) : G w y_Mo_worst c_Mo_worst 5 r_Mo_worst (0, 0) Q 9 [(3, .int (nI q)), (2, .int n), (0, .ref (ad 600)), (1, .int (nI p))] [] Z := by
  have hm : zhs Z (ad 600) (.inr (10, [.int (sI S 600 0), .ref (ad 701), .int (nI (sN S 20)), .int (nI (sN S 21)), .int (nI (sN S 22)), .ref (ad 705), .ref (ad 706), .ref (ad 707), .ref (ad 708), .ref (ad 709), .ref (ad 710), .ref (ad 711), .int (nI (sN S 23)), .ref (ad 713), .ref (ad 714), .ref (ad 715), .ref (ad 716), .int (nI (sN S 24)), .int (nI (sN S 25)), .ref (ad 719), .ref (ad 720), .ref (ad 721), .ref (ad 722), .ref (ad 723), .ref (ad 724), .int (sI S 600 25), .ref (ad 726), .ref (ad 727), .ref (ad 728), .int (sI S 600 29), .int (nI (sN S 26)), .ref (ad 731), .ref (ad 732), .int (nI (sN S 27)), .int (nI (sN S 28)), .int (nI (sN S 29)), .int (nI (sN S 30)), .ref (ad 737), .int (nI (sN S 31)), .int (nI (sN S 32)), .int (sI S 600 40), .ref (ad 741)])) := hR.m
  have m701 : zhs Z (ad 701) (xi w 100 (sI S 701)) := hR.ma 701 (by decide)
  have m710 : zhs Z (ad 710) (xi w 160 (sI S 710)) := hR.ma 710 (by decide)
  have m711 : zhs Z (ad 711) (xi w 160 (sI S 711)) := hR.ma 711 (by decide)
  have J : ∀ i j, mL i → mL j → i ≠ j → ad i ≠ ad j := fun i j hi hj hne => hR.inj (lvL hi) (lvL hj) hne
  obtain ⟨Z0, hZ0⟩ : ∃ Z0, Z0 = Z := ⟨_, rfl⟩
  have hB : Z.2.2 = Z0.2.2 := by rw [hZ0]
  refine g_aload_nq d_Mo_worst_9 rfl 2 rfl ?_
  refine g_get d_Mo_worst_10 f_Mo_29_Mo (by assumption) (by first | rfl | assumption) ?_
  refine g_iload_n d_Mo_worst_13 rfl 3 rfl ?_
  refine g_iald d_Mo_worst_14 (by assumption) (vp_in_nI (n := p) (by omega) (by decide)) ?_
  rw [nI_clamp (by omega)]
  refine g_iconst (v := (-1)) d_Mo_worst_15 rfl ?_
  refine g_icmp_eq (tgt := 58) d_Mo_worst_16 (by decide) (fun h16 => ?_) (fun h16 => ?_)
  · rw [wvV, if_neg (fun z => z.1 h16)] at k9
    refine g_iconst (v := 0) d_Mo_worst_58 rfl ?_
    exact k9
  · refine g_aload_nq d_Mo_worst_19 rfl 2 rfl ?_
    refine g_get d_Mo_worst_20 f_Mo_29_Mo (by assumption) (by first | rfl | assumption) ?_
    refine g_iload_n d_Mo_worst_23 rfl 0 rfl ?_
    refine g_iald d_Mo_worst_24 (by assumption) (vp_in_nI (n := q) (by omega) (by decide)) ?_
    rw [nI_clamp (by omega)]
    refine g_aload_nq d_Mo_worst_25 rfl 2 rfl ?_
    refine g_get d_Mo_worst_26 f_Mo_29_Mo (by assumption) (by first | rfl | assumption) ?_
    refine g_iload_n d_Mo_worst_29 rfl 3 rfl ?_
    refine g_iald d_Mo_worst_30 (by assumption) (vp_in_nI (n := p) (by omega) (by decide)) ?_
    rw [nI_clamp (by omega)]
    refine g_icmp_ne (tgt := 58) d_Mo_worst_31 (by decide) (fun h31 => ?_) (fun h31 => ?_)
    · rw [wvV, if_neg (fun z => h31 z.2)] at k9
      refine g_iconst (v := 0) d_Mo_worst_58 rfl ?_
      exact k9
    · obtain ⟨d1, hd1, e1x⟩ := hI.2.2.2 p (by omega)
      obtain ⟨d2, hd2, e2x⟩ := hI.2.2.2 q (by omega)
      rw [wvV, if_pos ⟨h16, h31⟩, e1x, e2x, nI_clamp (by omega), nI_clamp (by omega)] at k9
      refine g_aload_nq d_Mo_worst_34 rfl 2 rfl ?_
      refine g_get d_Mo_worst_35 f_Mo_7_Mo (by assumption) (by first | rfl | assumption) ?_
      refine g_bipush (v := 10) d_Mo_worst_38 rfl ?_
      refine g_aload_nq d_Mo_worst_40 rfl 2 rfl ?_
      refine g_get d_Mo_worst_41 f_Mo_32_Mo (by assumption) (by first | rfl | assumption) ?_
      refine g_iload_n d_Mo_worst_44 rfl 3 rfl ?_
      refine g_iald d_Mo_worst_45 (by assumption) (vp_in_nI (n := p) (by omega) (by decide)) ?_
      rw [nI_clamp (by omega)]
      rw [e1x]
      refine g_imul d_Mo_worst_46 ?_
      rw [show (10 : Int32) = nI 10 from rfl, pk_mul]
      refine g_aload_nq d_Mo_worst_47 rfl 2 rfl ?_
      refine g_get d_Mo_worst_48 f_Mo_32_Mo (by assumption) (by first | rfl | assumption) ?_
      refine g_iload_n d_Mo_worst_51 rfl 0 rfl ?_
      refine g_iald d_Mo_worst_52 (by assumption) (vp_in_nI (n := q) (by omega) (by decide)) ?_
      rw [nI_clamp (by omega)]
      rw [e2x]
      refine g_iadd d_Mo_worst_53 ?_
      rw [nI_add]
      refine g_iald d_Mo_worst_54 (by assumption) (vp_in_nI (by omega) (by decide)) ?_
      rw [nI_clamp (by omega)]
      refine g_goto (tgt := 59) d_Mo_worst_55 (by decide) ?_
      exact k9

set_option maxHeartbeats 4000000 in
set_option maxRecDepth 100000 in
theorem L_Mo_worst {w : zC} {Z : zZ} {Q : zR → zZ → Prop} {ad : Nat → Nat} {S : ST} (hR : Rep w ad S Z) (hI : mInv S) {p : Nat} (hp : p < 160) (hQ : Q (.inl (some (.int (wvR S p p)))) Z) (m : Nat) : ∀ q, q + m = p → G w y_Mo_worst c_Mo_worst 5 r_Mo_worst (0, 0) Q 4 [(3, .int (nI q)), (2, .int (wvR S p q)), (0, .ref (ad 600)), (1, .int (nI p))] [] Z := by
  induction m with
  | zero =>
    intro q hq
    refine g_iload_n d_Mo_worst_4 rfl 0 rfl ?_
    refine g_iload_n d_Mo_worst_5 rfl 3 rfl ?_
    refine g_icmp_ge (tgt := 80) d_Mo_worst_6 (by decide) (fun h6 => ?_) (fun h6 => ?_)
    · rw [show q = p by omega]
      refine g_iload_n d_Mo_worst_80 rfl 1 rfl ?_
      refine g_iret d_Mo_worst_81 ?_
      exact hQ
    · exact absurd (nI_le (by omega) (by omega)) h6
  | succ m ih =>
    intro q hq
    refine g_iload_n d_Mo_worst_4 rfl 0 rfl ?_
    refine g_iload_n d_Mo_worst_5 rfl 3 rfl ?_
    refine g_icmp_ge (tgt := 80) d_Mo_worst_6 (by decide) (fun h6 => ?_) (fun h6 => ?_)
    · exact absurd h6 (nI_ge (by omega) (by omega))
    · refine J1_Mo_worst hR hI hp (by omega) ?_
      refine g_istore d_Mo_worst_59 (by decide) rfl ?_
      show G _ _ _ _ _ _ _ _ [(4, _), (3, _), (2, _), (0, _), (1, _)] _ _
      refine g_iload d_Mo_worst_61 0 rfl ?_
      refine g_iload_n d_Mo_worst_63 rfl 2 rfl ?_
      refine g_icmp_le (tgt := 72) d_Mo_worst_64 (by decide) (fun h64 => ?_) (fun h64 => ?_)
      · refine g_iload_n d_Mo_worst_72 rfl 2 rfl ?_
        refine g_istore_n d_Mo_worst_73 rfl (by decide) rfl ?_
        show G _ _ _ _ _ _ _ _ [(2, _), (4, _), (3, _), (0, _), (1, _)] _ _
        refine g_iinc (k := 2) d_Mo_worst_74 rfl (nI_1 q) (by decide) rfl ?_
        refine g_goto (tgt := 4) d_Mo_worst_77 (by decide) ?_
        have hi1 := ih (q + 1) (by omega)
        rw [wvR, if_pos h64] at hi1
        refine g_sub [0, 1, 3, 4] rfl hi1
      · refine g_iload d_Mo_worst_67 0 rfl ?_
        refine g_goto (tgt := 73) d_Mo_worst_69 (by decide) ?_
        refine g_istore_n d_Mo_worst_73 rfl (by decide) rfl ?_
        show G _ _ _ _ _ _ _ _ [(2, _), (4, _), (3, _), (0, _), (1, _)] _ _
        refine g_iinc (k := 2) d_Mo_worst_74 rfl (nI_1 q) (by decide) rfl ?_
        refine g_goto (tgt := 4) d_Mo_worst_77 (by decide) ?_
        have hi1 := ih (q + 1) (by omega)
        rw [wvR, if_neg h64] at hi1
        refine g_sub [0, 1, 3, 4] rfl hi1

set_option maxHeartbeats 4000000 in
set_option maxRecDepth 100000 in
theorem C_Mo_worst {w : zC} {Z : zZ} {Q : zR → zZ → Prop} {ad : Nat → Nat} {S : ST} (hR : Rep w ad S Z) (hI : mInv S) {p : Nat} (hp : p < 160) (hQ : Q (.inl (some (.int (wvR S p p)))) Z) : Cz w (0, 0) y_Mo_worst (Cond.code y_Mo_worst c_Mo_worst 5 r_Mo_worst :: wz) [.ref (ad 600), .int (nI p)] Z Q := by
  refine Cz.of (by decide +kernel) (by simp [lg_sl, Value.category]) ?_
  show G _ _ _ _ _ _ _ _ [(0, _), (1, _)] _ _
  refine g_iconst (v := 0) d_Mo_worst_0 rfl ?_
  refine g_istore_n d_Mo_worst_1 rfl (by decide) rfl ?_
  show G _ _ _ _ _ _ _ _ [(2, _), (0, _), (1, _)] _ _
  refine g_iconst (v := 0) d_Mo_worst_2 rfl ?_
  refine g_istore_n d_Mo_worst_3 rfl (by decide) rfl ?_
  show G _ _ _ _ _ _ _ _ [(3, _), (2, _), (0, _), (1, _)] _ _
  exact L_Mo_worst hR hI hp hQ p 0 (by omega)

set_option maxHeartbeats 4000000 in
set_option maxRecDepth 100000 in
theorem L_Mo_isNamedBefore {w : zC} {Z : zZ} {Q : zR → zZ → Prop} {ad : Nat → Nat} {S : ST} (hR : Rep w ad S Z) {n : Nat} (hn : n < 40) (hQ : Q (.inl (some (.int (zb (nbR S n n))))) Z) (m : Nat) : ∀ i, i + m = n → G w y_Mo_isNamedBefore c_Mo_isNamedBefore 4 r_Mo_isNamedBefore (0, 0) Q 4 [(3, .int (nI i)), (2, .int (zb (nbR S n i))), (0, .ref (ad 600)), (1, .int (nI n))] [] Z := by
  have hm : zhs Z (ad 600) (.inr (10, [.int (sI S 600 0), .ref (ad 701), .int (nI (sN S 20)), .int (nI (sN S 21)), .int (nI (sN S 22)), .ref (ad 705), .ref (ad 706), .ref (ad 707), .ref (ad 708), .ref (ad 709), .ref (ad 710), .ref (ad 711), .int (nI (sN S 23)), .ref (ad 713), .ref (ad 714), .ref (ad 715), .ref (ad 716), .int (nI (sN S 24)), .int (nI (sN S 25)), .ref (ad 719), .ref (ad 720), .ref (ad 721), .ref (ad 722), .ref (ad 723), .ref (ad 724), .int (sI S 600 25), .ref (ad 726), .ref (ad 727), .ref (ad 728), .int (sI S 600 29), .int (nI (sN S 26)), .ref (ad 731), .ref (ad 732), .int (nI (sN S 27)), .int (nI (sN S 28)), .int (nI (sN S 29)), .int (nI (sN S 30)), .ref (ad 737), .int (nI (sN S 31)), .int (nI (sN S 32)), .int (sI S 600 40), .ref (ad 741)])) := hR.m
  have m708 : zhs Z (ad 708) (xi w 40 (sI S 708)) := hR.ma 708 (by decide)
  have J : ∀ i j, mL i → mL j → i ≠ j → ad i ≠ ad j := fun i j hi hj hne => hR.inj (lvL hi) (lvL hj) hne
  obtain ⟨Z0, hZ0⟩ : ∃ Z0, Z0 = Z := ⟨_, rfl⟩
  have hB : Z.2.2 = Z0.2.2 := by rw [hZ0]
  induction m with
  | zero =>
    intro i hi
    refine g_iload_n d_Mo_isNamedBefore_4 rfl 0 rfl ?_
    refine g_iload_n d_Mo_isNamedBefore_5 rfl 3 rfl ?_
    refine g_icmp_ge (tgt := 40) d_Mo_isNamedBefore_6 (by decide) (fun h6 => ?_) (fun h6 => ?_)
    · rw [show i = n by omega]
      refine g_iload_n d_Mo_isNamedBefore_40 rfl 1 rfl ?_
      refine g_zret d_Mo_isNamedBefore_41 ?_ ?_
      · first | rfl | exact zb_nar _ | exact zb_narc (by assumption)
      · exact hQ
    · exact absurd (nI_le (by omega) (by omega)) h6
  | succ m ih =>
    intro i hi
    refine g_iload_n d_Mo_isNamedBefore_4 rfl 0 rfl ?_
    refine g_iload_n d_Mo_isNamedBefore_5 rfl 3 rfl ?_
    refine g_icmp_ge (tgt := 40) d_Mo_isNamedBefore_6 (by decide) (fun h6 => ?_) (fun h6 => ?_)
    · exact absurd h6 (nI_ge (by omega) (by omega))
    · refine g_iload_n d_Mo_isNamedBefore_9 rfl 1 rfl ?_
      first | refine g_if_neB (tgt := 28) d_Mo_isNamedBefore_10 (by decide) (fun h10 => ?_) (fun h10 => ?_) | refine g_if_ne (tgt := 28) d_Mo_isNamedBefore_10 (by decide) (fun h10 => ?_) (fun h10 => ?_)
      · have hb : nbR S n (i + 1) := ex_step.mpr (Or.inl h10)
        refine g_iconst (v := 1) d_Mo_isNamedBefore_28 rfl ?_
        refine g_goto (tgt := 33) d_Mo_isNamedBefore_29 (by decide) ?_
        refine g_istore_n d_Mo_isNamedBefore_33 rfl (by decide) rfl ?_
        show G _ _ _ _ _ _ _ _ [(2, _), (3, _), (0, _), (1, _)] _ _
        refine g_iinc (k := 1) d_Mo_isNamedBefore_34 rfl (nI_1 i) (by decide) rfl ?_
        refine g_goto (tgt := 4) d_Mo_isNamedBefore_37 (by decide) ?_
        have hi1 := ih (i + 1) (by omega)
        rw [zb_t hb] at hi1
        exact hi1
      · refine g_aload_nq d_Mo_isNamedBefore_13 rfl 2 rfl ?_
        refine g_get d_Mo_isNamedBefore_14 f_Mo_23_Mo (by assumption) (by first | rfl | assumption) ?_
        refine g_iload_n d_Mo_isNamedBefore_17 rfl 0 rfl ?_
        refine g_iald d_Mo_isNamedBefore_18 (by assumption) (vp_in_nI (n := i) (by omega) (by decide)) ?_
        rw [nI_clamp (by omega)]
        refine g_aload_nq d_Mo_isNamedBefore_19 rfl 2 rfl ?_
        refine g_get d_Mo_isNamedBefore_20 f_Mo_23_Mo (by assumption) (by first | rfl | assumption) ?_
        refine g_iload_n d_Mo_isNamedBefore_23 rfl 3 rfl ?_
        refine g_iald d_Mo_isNamedBefore_24 (by assumption) (vp_in_nI (n := n) (by omega) (by decide)) ?_
        rw [nI_clamp (by omega)]
        refine g_icmp_ne (tgt := 32) d_Mo_isNamedBefore_25 (by decide) (fun h25 => ?_) (fun h25 => ?_)
        · refine g_iconst (v := 0) d_Mo_isNamedBefore_32 rfl ?_
          refine g_istore_n d_Mo_isNamedBefore_33 rfl (by decide) rfl ?_
          show G _ _ _ _ _ _ _ _ [(2, _), (3, _), (0, _), (1, _)] _ _
          refine g_iinc (k := 1) d_Mo_isNamedBefore_34 rfl (nI_1 i) (by decide) rfl ?_
          refine g_goto (tgt := 4) d_Mo_isNamedBefore_37 (by decide) ?_
          have hi1 := ih (i + 1) (by omega)
          rw [zb_f (fun z => by rcases ex_step.mp z with z | z; exact h10 z; exact h25 z)] at hi1
          exact hi1
        · have hb : nbR S n (i + 1) := ex_step.mpr (Or.inr h25)
          refine g_iconst (v := 1) d_Mo_isNamedBefore_28 rfl ?_
          refine g_goto (tgt := 33) d_Mo_isNamedBefore_29 (by decide) ?_
          refine g_istore_n d_Mo_isNamedBefore_33 rfl (by decide) rfl ?_
          show G _ _ _ _ _ _ _ _ [(2, _), (3, _), (0, _), (1, _)] _ _
          refine g_iinc (k := 1) d_Mo_isNamedBefore_34 rfl (nI_1 i) (by decide) rfl ?_
          refine g_goto (tgt := 4) d_Mo_isNamedBefore_37 (by decide) ?_
          have hi1 := ih (i + 1) (by omega)
          rw [zb_t hb] at hi1
          exact hi1

set_option maxHeartbeats 4000000 in
set_option maxRecDepth 100000 in
theorem C_Mo_isNamedBefore {w : zC} {Z : zZ} {Q : zR → zZ → Prop} {ad : Nat → Nat} {S : ST} (hR : Rep w ad S Z) {n : Nat} (hn : n < 40) (hQ : Q (.inl (some (.int (zb (nbR S n n))))) Z) : Cz w (0, 0) y_Mo_isNamedBefore (Cond.code y_Mo_isNamedBefore c_Mo_isNamedBefore 4 r_Mo_isNamedBefore :: wz) [.ref (ad 600), .int (nI n)] Z Q := by
  refine Cz.of (by decide +kernel) (by simp [lg_sl, Value.category]) ?_
  show G _ _ _ _ _ _ _ _ [(0, _), (1, _)] _ _
  refine g_iconst (v := 0) d_Mo_isNamedBefore_0 rfl ?_
  refine g_istore_n d_Mo_isNamedBefore_1 rfl (by decide) rfl ?_
  show G _ _ _ _ _ _ _ _ [(2, _), (0, _), (1, _)] _ _
  refine g_iconst (v := 0) d_Mo_isNamedBefore_2 rfl ?_
  refine g_istore_n d_Mo_isNamedBefore_3 rfl (by decide) rfl ?_
  show G _ _ _ _ _ _ _ _ [(3, _), (2, _), (0, _), (1, _)] _ _
  have h9 := L_Mo_isNamedBefore hR hn hQ n 0 (by omega)
  rw [zb_f (show ¬ nbR S n 0 from fun ⟨j, hj, _⟩ => by omega)] at h9
  exact h9

set_option maxHeartbeats 4000000 in
set_option maxRecDepth 100000 in
theorem L_Mo_isOffGrid {w : zC} {Z : zZ} {Q : zR → zZ → Prop} {ad : Nat → Nat} {S : ST} (hR : Rep w ad S Z) (hI : mInv S) {x : Int32} (hQ : Q (.inl (some (.int (zb (ogR S x (sN S 23)))))) Z) (m : Nat) : ∀ i, i + m = sN S 23 → G w y_Mo_isOffGrid c_Mo_isOffGrid 4 r_Mo_isOffGrid (0, 0) Q 4 [(3, .int (nI i)), (2, .int (zb (ogR S x i))), (0, .ref (ad 600)), (1, .int x)] [] Z := by
  have hm : zhs Z (ad 600) (.inr (10, [.int (sI S 600 0), .ref (ad 701), .int (nI (sN S 20)), .int (nI (sN S 21)), .int (nI (sN S 22)), .ref (ad 705), .ref (ad 706), .ref (ad 707), .ref (ad 708), .ref (ad 709), .ref (ad 710), .ref (ad 711), .int (nI (sN S 23)), .ref (ad 713), .ref (ad 714), .ref (ad 715), .ref (ad 716), .int (nI (sN S 24)), .int (nI (sN S 25)), .ref (ad 719), .ref (ad 720), .ref (ad 721), .ref (ad 722), .ref (ad 723), .ref (ad 724), .int (sI S 600 25), .ref (ad 726), .ref (ad 727), .ref (ad 728), .int (sI S 600 29), .int (nI (sN S 26)), .ref (ad 731), .ref (ad 732), .int (nI (sN S 27)), .int (nI (sN S 28)), .int (nI (sN S 29)), .int (nI (sN S 30)), .ref (ad 737), .int (nI (sN S 31)), .int (nI (sN S 32)), .int (sI S 600 40), .ref (ad 741)])) := hR.m
  have m713 : zhs Z (ad 713) (xi w 100 (sI S 713)) := hR.ma 713 (by decide)
  have m714 : zhs Z (ad 714) (xl w 100 (sJ S 714)) := hR.ma 714 (by decide)
  have m715 : zhs Z (ad 715) (xl w 100 (sJ S 715)) := hR.ma 715 (by decide)
  have J : ∀ i j, mL i → mL j → i ≠ j → ad i ≠ ad j := fun i j hi hj hne => hR.inj (lvL hi) (lvL hj) hne
  obtain ⟨Z0, hZ0⟩ : ∃ Z0, Z0 = Z := ⟨_, rfl⟩
  have hB : Z.2.2 = Z0.2.2 := by rw [hZ0]
  have h100 := hI.1.2.2.2.1
  induction m with
  | zero =>
    intro i hi
    refine g_iload_n d_Mo_isOffGrid_4 rfl 0 rfl ?_
    refine g_aload_nq d_Mo_isOffGrid_5 rfl 2 rfl ?_
    refine g_get d_Mo_isOffGrid_6 f_Mo_116_Mo (by assumption) (by first | rfl | assumption) ?_
    refine g_icmp_ge (tgt := 68) d_Mo_isOffGrid_9 (by decide) (fun h9 => ?_) (fun h9 => ?_)
    · rw [show i = sN S 23 by omega]
      refine g_iload_n d_Mo_isOffGrid_68 rfl 1 rfl ?_
      refine g_zret d_Mo_isOffGrid_69 ?_ ?_
      · first | rfl | exact zb_nar _ | exact zb_narc (by assumption)
      · exact hQ
    · exact absurd (nI_le (by omega) (by omega)) h9
  | succ m ih =>
    intro i hi
    refine g_iload_n d_Mo_isOffGrid_4 rfl 0 rfl ?_
    refine g_aload_nq d_Mo_isOffGrid_5 rfl 2 rfl ?_
    refine g_get d_Mo_isOffGrid_6 f_Mo_116_Mo (by assumption) (by first | rfl | assumption) ?_
    refine g_icmp_ge (tgt := 68) d_Mo_isOffGrid_9 (by decide) (fun h9 => ?_) (fun h9 => ?_)
    · exact absurd h9 (nI_ge (by omega) (by omega))
    · refine g_iload_n d_Mo_isOffGrid_12 rfl 1 rfl ?_
      first | refine g_if_neB (tgt := 56) d_Mo_isOffGrid_13 (by decide) (fun h13 => ?_) (fun h13 => ?_) | refine g_if_ne (tgt := 56) d_Mo_isOffGrid_13 (by decide) (fun h13 => ?_) (fun h13 => ?_)
      · have hb : ogR S x (i + 1) := ex_step.mpr (Or.inl h13)
        refine g_iconst (v := 1) d_Mo_isOffGrid_56 rfl ?_
        refine g_goto (tgt := 61) d_Mo_isOffGrid_57 (by decide) ?_
        refine g_istore_n d_Mo_isOffGrid_61 rfl (by decide) rfl ?_
        show G _ _ _ _ _ _ _ _ [(2, _), (3, _), (0, _), (1, _)] _ _
        refine g_iinc (k := 1) d_Mo_isOffGrid_62 rfl (nI_1 i) (by decide) rfl ?_
        refine g_goto (tgt := 4) d_Mo_isOffGrid_65 (by decide) ?_
        have hi1 := ih (i + 1) (by omega)
        rw [zb_t hb] at hi1
        exact hi1
      · refine g_aload_nq d_Mo_isOffGrid_16 rfl 2 rfl ?_
        refine g_get d_Mo_isOffGrid_17 f_Mo_35_Mo (by assumption) (by first | rfl | assumption) ?_
        refine g_iload_n d_Mo_isOffGrid_20 rfl 0 rfl ?_
        refine g_iald d_Mo_isOffGrid_21 (by assumption) (vp_in_nI (n := i) (by omega) (by decide)) ?_
        rw [nI_clamp (by omega)]
        refine g_iload_n d_Mo_isOffGrid_22 rfl 3 rfl ?_
        refine g_icmp_ne (tgt := 60) d_Mo_isOffGrid_23 (by decide) (fun h23 => ?_) (fun h23 => ?_)
        · have hb : ¬ ogR S x (i + 1) := fun z => by rcases ex_step.mp z with z | z; exact h13 z; exact h23 z.1
          refine g_iconst (v := 0) d_Mo_isOffGrid_60 rfl ?_
          refine g_istore_n d_Mo_isOffGrid_61 rfl (by decide) rfl ?_
          show G _ _ _ _ _ _ _ _ [(2, _), (3, _), (0, _), (1, _)] _ _
          refine g_iinc (k := 1) d_Mo_isOffGrid_62 rfl (nI_1 i) (by decide) rfl ?_
          refine g_goto (tgt := 4) d_Mo_isOffGrid_65 (by decide) ?_
          have hi1 := ih (i + 1) (by omega)
          rw [zb_f hb] at hi1
          exact hi1
        · refine g_aload_nq d_Mo_isOffGrid_26 rfl 2 rfl ?_
          refine g_get d_Mo_isOffGrid_27 f_Mo_38_Mo (by assumption) (by first | rfl | assumption) ?_
          refine g_iload_n d_Mo_isOffGrid_30 rfl 0 rfl ?_
          refine g_lald d_Mo_isOffGrid_31 (by assumption) (vp_in_nI (n := i) (by omega) (by decide)) ?_
          rw [nI_clamp (by omega)]
          refine g_ldc2 v_Mo_237 d_Mo_isOffGrid_32 ?_
          refine g_lrem d_Mo_isOffGrid_35 (by decide) ?_
          refine g_lconst (v := 0) d_Mo_isOffGrid_36 rfl ?_
          refine g_lcmp d_Mo_isOffGrid_37 ?_
          refine g_if_ne (tgt := 56) d_Mo_isOffGrid_38 (by decide) (fun h38 => ?_) (fun h38 => ?_)
          · rw [lg_cmp_eq] at h38
            have hb : ogR S x (i + 1) := ex_step.mpr (Or.inr ⟨h23, Or.inl h38⟩)
            refine g_iconst (v := 1) d_Mo_isOffGrid_56 rfl ?_
            refine g_goto (tgt := 61) d_Mo_isOffGrid_57 (by decide) ?_
            refine g_istore_n d_Mo_isOffGrid_61 rfl (by decide) rfl ?_
            show G _ _ _ _ _ _ _ _ [(2, _), (3, _), (0, _), (1, _)] _ _
            refine g_iinc (k := 1) d_Mo_isOffGrid_62 rfl (nI_1 i) (by decide) rfl ?_
            refine g_goto (tgt := 4) d_Mo_isOffGrid_65 (by decide) ?_
            have hi1 := ih (i + 1) (by omega)
            rw [zb_t hb] at hi1
            exact hi1
          · rw [lg_cmp_eq] at h38
            refine g_aload_nq d_Mo_isOffGrid_41 rfl 2 rfl ?_
            refine g_get d_Mo_isOffGrid_42 f_Mo_41_Mo (by assumption) (by first | rfl | assumption) ?_
            refine g_iload_n d_Mo_isOffGrid_45 rfl 0 rfl ?_
            refine g_lald d_Mo_isOffGrid_46 (by assumption) (vp_in_nI (n := i) (by omega) (by decide)) ?_
            rw [nI_clamp (by omega)]
            refine g_ldc2 v_Mo_237 d_Mo_isOffGrid_47 ?_
            refine g_lrem d_Mo_isOffGrid_50 (by decide) ?_
            refine g_lconst (v := 0) d_Mo_isOffGrid_51 rfl ?_
            refine g_lcmp d_Mo_isOffGrid_52 ?_
            refine g_if_eq (tgt := 60) d_Mo_isOffGrid_53 (by decide) (fun h53 => ?_) (fun h53 => ?_)
            · rw [lg_cmp_eq] at h53
              have hb : ¬ ogR S x (i + 1) := fun z => by rcases ex_step.mp z with z | z; exact h13 z; rcases z.2 with z | z; exact z h38; exact z h53
              refine g_iconst (v := 0) d_Mo_isOffGrid_60 rfl ?_
              refine g_istore_n d_Mo_isOffGrid_61 rfl (by decide) rfl ?_
              show G _ _ _ _ _ _ _ _ [(2, _), (3, _), (0, _), (1, _)] _ _
              refine g_iinc (k := 1) d_Mo_isOffGrid_62 rfl (nI_1 i) (by decide) rfl ?_
              refine g_goto (tgt := 4) d_Mo_isOffGrid_65 (by decide) ?_
              have hi1 := ih (i + 1) (by omega)
              rw [zb_f hb] at hi1
              exact hi1
            · rw [lg_cmp_eq] at h53
              have hb : ogR S x (i + 1) := ex_step.mpr (Or.inr ⟨h23, Or.inr h53⟩)
              refine g_iconst (v := 1) d_Mo_isOffGrid_56 rfl ?_
              refine g_goto (tgt := 61) d_Mo_isOffGrid_57 (by decide) ?_
              refine g_istore_n d_Mo_isOffGrid_61 rfl (by decide) rfl ?_
              show G _ _ _ _ _ _ _ _ [(2, _), (3, _), (0, _), (1, _)] _ _
              refine g_iinc (k := 1) d_Mo_isOffGrid_62 rfl (nI_1 i) (by decide) rfl ?_
              refine g_goto (tgt := 4) d_Mo_isOffGrid_65 (by decide) ?_
              have hi1 := ih (i + 1) (by omega)
              rw [zb_t hb] at hi1
              exact hi1

set_option maxHeartbeats 4000000 in
set_option maxRecDepth 100000 in
theorem C_Mo_isOffGrid {w : zC} {Z : zZ} {Q : zR → zZ → Prop} {ad : Nat → Nat} {S : ST} (hR : Rep w ad S Z) (hI : mInv S) {x : Int32} (hQ : Q (.inl (some (.int (zb (ogR S x (sN S 23)))))) Z) : Cz w (0, 0) y_Mo_isOffGrid (Cond.code y_Mo_isOffGrid c_Mo_isOffGrid 4 r_Mo_isOffGrid :: wz) [.ref (ad 600), .int x] Z Q := by
  refine Cz.of (by decide +kernel) (by simp [lg_sl, Value.category]) ?_
  show G _ _ _ _ _ _ _ _ [(0, _), (1, _)] _ _
  refine g_iconst (v := 0) d_Mo_isOffGrid_0 rfl ?_
  refine g_istore_n d_Mo_isOffGrid_1 rfl (by decide) rfl ?_
  show G _ _ _ _ _ _ _ _ [(2, _), (0, _), (1, _)] _ _
  refine g_iconst (v := 0) d_Mo_isOffGrid_2 rfl ?_
  refine g_istore_n d_Mo_isOffGrid_3 rfl (by decide) rfl ?_
  show G _ _ _ _ _ _ _ _ [(3, _), (2, _), (0, _), (1, _)] _ _
  have h9 := L_Mo_isOffGrid hR hI hQ (sN S 23) 0 (by omega)
  rw [zb_f (show ¬ ogR S x 0 from fun ⟨j, hj, _⟩ => by omega)] at h9
  exact h9
