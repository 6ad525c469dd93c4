/-! The face of the class: calls that may throw -/
theorem bel {x : Int32} {n : Nat} (h : inr x n) (hn : n < 2 ^ 31) : ∃ j, j < n ∧ x = nI j := by
  obtain ⟨j, h1, rfl⟩ := nI_of h.1
  exact ⟨j, Nat.not_le.mp (fun z => h.2 (nI_le z h1)), rfl⟩
theorem Rep.pay {w : zC} {ad : Nat → Nat} {S : ST} {Z : zZ} {k n : Nat} (h : Rep w ad S Z) : Rep w ad S (zpay Z k n) := h
theorem atP_some {ad : Nat → Nat} {S : ST} {x : Int32} {q : Nat} (h : atP ad S x = some q) (hn : sN S 0 ≤ 40) : ∃ k, k < sN S 0 ∧ x = nI k ∧ q = ad (100 + 3 * k) := by
  unfold atP at h
  split at h
  · rename_i h1
    obtain ⟨k, hk, rfl⟩ := bel h1 (by omega)
    rw [nI_clamp (by omega)] at h
    cases h
    exact ⟨k, hk, rfl, rfl⟩
  · cases h
theorem atQ_some {ad : Nat → Nat} {S : ST} {x : Int32} {q : Nat} (h : atQ ad S x = some q) (hn : sN S 2 ≤ 160) : ∃ k, k < sN S 2 ∧ x = nI k ∧ q = ad (300 + k) := by
  unfold atQ at h
  split at h
  · rename_i h1
    obtain ⟨k, hk, rfl⟩ := bel h1 (by omega)
    rw [nI_clamp (by omega)] at h
    cases h
    exact ⟨k, hk, rfl, rfl⟩
  · cases h
theorem atN_some {ad : Nat → Nat} {S : ST} {x : Int32} {q : Nat} (h : atN ad S x = some q) (hn : sN S 1 ≤ 40) : ∃ k, k < sN S 1 ∧ x = nI k ∧ q = ad (220 + 2 * k) := by
  unfold atN at h
  split at h
  · rename_i h1
    obtain ⟨k, hk, rfl⟩ := bel h1 (by omega)
    rw [nI_clamp (by omega)] at h
    cases h
    exact ⟨k, hk, rfl, rfl⟩
  · cases h
theorem atP_none {ad : Nat → Nat} {S : ST} {x : Int32} (h : atP ad S x = none) : ¬ inr x (sN S 0) := fun z => by
  unfold atP at h
  rw [if_pos ⟨z.1, z.2⟩] at h
  cases h
theorem atQ_none {ad : Nat → Nat} {S : ST} {x : Int32} (h : atQ ad S x = none) : ¬ inr x (sN S 2) := fun z => by
  unfold atQ at h
  rw [if_pos ⟨z.1, z.2⟩] at h
  cases h
theorem atN_none {ad : Nat → Nat} {S : ST} {x : Int32} (h : atN ad S x = none) : ¬ inr x (sN S 1) := fun z => by
  unfold atN at h
  rw [if_pos ⟨z.1, z.2⟩] at h
  cases h
/-- the net that a call names, or none -/
def netO (S : ST) (x : Int32) : Option Nat := if ¬ x < 0 ∧ ¬ nI (sN S 1) ≤ x then some x.toNatClampNeg else none
theorem atN_O {ad : Nat → Nat} {S : ST} {x : Int32} : atN ad S x = (netO S x).map (fun n => ad (220 + 2 * n)) := by
  unfold atN netO
  by_cases h : ¬ x < 0 ∧ ¬ nI (sN S 1) ≤ x
  · rw [if_pos h, if_pos h]; rfl
  · rw [if_neg h, if_neg h]; rfl
theorem netO_lt {S : ST} {x : Int32} {n : Nat} (hn : sN S 1 ≤ 40) (h : netO S x = some n) : n < sN S 1 := by
  unfold netO at h
  split at h
  · rename_i h1
    cases h
    exact tn_lt h1.1 h1.2 (by omega)
  · cases h
set_option maxHeartbeats 4000000 in
set_option maxRecDepth 100000 in
theorem C_K_table {w : zC} {Z : zZ} {Q : zR → zZ → Prop} {ad : Nat → Nat} {S : ST} (hR : Rep w ad S Z) {adK adV : Nat → Nat} (hK : zLit w adK adV) (hT : zThr w) {x y v : Int32} (hb : 1 ≤ Z.2.2.1 ∧ 6 ≤ Z.2.2.2) (hI : ¬ (inr x 10 ∧ inr y 10) → Q (.inr "java/lang/IndexOutOfBoundsException") (zpay Z 1 6)) (hA : inr x 10 → inr y 10 → ¬ inr v 3 → Q (.inr "java/lang/IllegalArgumentException") (zpay Z 1 6)) (hN : ∀ a b, a < 10 → b < 10 → x = nI a → y = nI b → inr v 3 → ∀ Z', Rep w ad (wI S 11 (upd (upd (sI S 11) (a * 10 + b) v) (b * 10 + a) v)) Z' → Z'.2.2 = Z.2.2 → Q (.inl (some (.int (zb (¬ sI S 11 (a * 10 + b) = v))))) Z') : Cz w (6, 140) y_K_table (Cond.code y_K_table c_K_table 4 r_K_table :: wz) [.ref (ad 0), .int x, .int y, .int v] Z Q := by
  refine Cz.of (by decide +kernel) (by simp [lg_sl, Value.category]) ?_
  show G _ _ _ _ _ _ _ _ [(0, _), (1, _), (2, _), (3, _)] _ _
  have h0 : zhs Z (ad 0) (.inr (0, [.ref (ad 1), .ref (ad 3), .ref (ad 8), .ref (ad 9), .ref (ad 4), .ref (ad 5), .ref (ad 10), .ref (ad (5 + sN S 8)), .ref (ad (8 - sN S 8)), .int (nI (sN S 3)), .int (sI S 0 11)])) := hR.k 0 (by decide)
  have h1 : zhs Z (ad 1) (.inr (1, [.ref (ad 11), .ref (ad 12), .ref (ad 13), .ref (ad 14), .ref (ad 15), .int (nI (sN S 0)), .int (nI (sN S 1)), .int (nI (sN S 2)), .int (nI (sN S 7))])) := hR.k 1 (by decide)
  refine g_iload_n d_K_table_0 rfl 1 rfl ?_
  refine g_bipush (v := 10) d_K_table_1 rfl ?_
  refine g_callS d_K_table_3 k_K_isBelow l_K_64 s_K_isBelow (by rfl) (by rfl) (Nat.le_of_ble_eq_true rfl) (by decide) (C_K_isBelow ⟨_, rfl, ?_⟩)
  first | refine g_if_eqB (tgt := 18) d_K_table_6 (by decide) (fun h6 => ?_) (fun h6 => ?_) | refine g_if_eq (tgt := 18) d_K_table_6 (by decide) (fun h6 => ?_) (fun h6 => ?_)
  · have hF := hI (fun z => h6 z.1)
    exact g_thr hK hT zl_0 (by decide +kernel) oa_I oc_I oi_I d_K_table_18 d_K_table_21 d_K_table_22 d_K_table_24 d_K_table_27 (by decide +kernel) (by omega) (by omega) (by decide) hF
  · refine g_iload_n d_K_table_9 rfl 2 rfl ?_
    refine g_bipush (v := 10) d_K_table_10 rfl ?_
    refine g_callS d_K_table_12 k_K_isBelow l_K_64 s_K_isBelow (by rfl) (by rfl) (Nat.le_of_ble_eq_true rfl) (by decide) (C_K_isBelow ⟨_, rfl, ?_⟩)
    first | refine g_if_neB (tgt := 28) d_K_table_15 (by decide) (fun h15 => ?_) (fun h15 => ?_) | refine g_if_ne (tgt := 28) d_K_table_15 (by decide) (fun h15 => ?_) (fun h15 => ?_)
    · refine g_iload_n d_K_table_28 rfl 3 rfl ?_
      refine g_iconst (v := 3) d_K_table_29 rfl ?_
      refine g_callS d_K_table_30 k_K_isBelow l_K_64 s_K_isBelow (by rfl) (by rfl) (Nat.le_of_ble_eq_true rfl) (by decide) (C_K_isBelow ⟨_, rfl, ?_⟩)
      first | refine g_if_neB (tgt := 46) d_K_table_33 (by decide) (fun h33 => ?_) (fun h33 => ?_) | refine g_if_ne (tgt := 46) d_K_table_33 (by decide) (fun h33 => ?_) (fun h33 => ?_)
      · obtain ⟨a, ha, rfl⟩ := bel (n := 10) h6 (by decide)
        obtain ⟨b, hb9, rfl⟩ := bel (n := 10) h15 (by decide)
        refine g_aload_nq d_K_table_46 rfl 0 rfl ?_
        refine g_get d_K_table_47 f_K_12_K (by assumption) (by first | rfl | assumption) ?_
        refine g_iload_n d_K_table_50 rfl 1 rfl ?_
        refine g_iload_n d_K_table_51 rfl 2 rfl ?_
        refine g_iload_n d_K_table_52 rfl 3 rfl ?_
        refine g_callV d_K_table_53 k_Sc_setVerdict l_K_80 i_Sc_setVerdict rfl q_Sc_Sc_setVerdict_Sc h1 (by rfl) (by rfl) (Nat.le_of_ble_eq_true rfl) (by decide) (C_Sc_setVerdict hR ha hb9 (fun Z1 hR1 B1 => ⟨_, rfl, ?_⟩))
        refine g_zret d_K_table_56 ?_ ?_
        · first | rfl | exact zb_nar _ | exact zb_narc (by assumption)
        · exact hN a b ha hb9 rfl rfl h33 Z1 hR1 B1
      · have hF := hA h6 h15 h33
        exact g_thr hK hT zl_1 (by decide +kernel) oa_A oc_A oi_A d_K_table_36 d_K_table_39 d_K_table_40 d_K_table_42 d_K_table_45 (by decide +kernel) (by omega) (by omega) (by decide) hF
    · have hF := hI (fun z => h15 z.2)
      exact g_thr hK hT zl_0 (by decide +kernel) oa_I oc_I oi_I d_K_table_18 d_K_table_21 d_K_table_22 d_K_table_24 d_K_table_27 (by decide +kernel) (by omega) (by omega) (by decide) hF

set_option maxHeartbeats 4000000 in
set_option maxRecDepth 100000 in
theorem C_K_part {w : zC} {Z : zZ} {Q : zR → zZ → Prop} {ad : Nat → Nat} {S : ST} (hR : Rep w ad S Z) {adK adV : Nat → Nat} (hK : zLit w adK adV) (hT : zThr w) {x : Int32} (hL : ciLive S) (hb : 1 ≤ Z.2.2.1 ∧ 6 ≤ Z.2.2.2) (hb2 : 3 ≤ Z.2.2.1 ∧ 23 ≤ Z.2.2.2) (hI : ¬ inr x 16 → Q (.inr "java/lang/IndexOutOfBoundsException") (zpay Z 1 6)) (hN : ∀ s, s < 16 → x = nI s → if sN S 0 < 40 then (∀ Z' a q r, Rep w (partA ad (sN S 0) a q r) (partS S (insP (ordP S) ((nI s * 3 + 0) * 160 + nI (sN S 0)) (sN S 0 + sN S 1 + sN S 2)) (nI s)) Z' → Z'.2.2.1 = Z.2.2.1 - 3 → Z'.2.2.2 = Z.2.2.2 - 23 → Q (.inl (some (.int (nI (sN S 0))))) Z') else Q (.inl (some (.int (-1)))) Z) : Cz w (6, 140) y_K_part (Cond.code y_K_part c_K_part 2 r_K_part :: wz) [.ref (ad 0), .int x] Z Q := by
  refine Cz.of (by decide +kernel) (by simp [lg_sl, Value.category]) ?_
  show G _ _ _ _ _ _ _ _ [(0, _), (1, _)] _ _
  have h0 : zhs Z (ad 0) (.inr (0, [.ref (ad 1), .ref (ad 3), .ref (ad 8), .ref (ad 9), .ref (ad 4), .ref (ad 5), .ref (ad 10), .ref (ad (5 + sN S 8)), .ref (ad (8 - sN S 8)), .int (nI (sN S 3)), .int (sI S 0 11)])) := hR.k 0 (by decide)
  have h1 : zhs Z (ad 1) (.inr (1, [.ref (ad 11), .ref (ad 12), .ref (ad 13), .ref (ad 14), .ref (ad 15), .int (nI (sN S 0)), .int (nI (sN S 1)), .int (nI (sN S 2)), .int (nI (sN S 7))])) := hR.k 1 (by decide)
  refine g_iload_n d_K_part_0 rfl 1 rfl ?_
  refine g_bipush (v := 16) d_K_part_1 rfl ?_
  refine g_callS d_K_part_3 k_K_isBelow l_K_64 s_K_isBelow (by rfl) (by rfl) (Nat.le_of_ble_eq_true rfl) (by decide) (C_K_isBelow ⟨_, rfl, ?_⟩)
  first | refine g_if_neB (tgt := 19) d_K_part_6 (by decide) (fun h6 => ?_) (fun h6 => ?_) | refine g_if_ne (tgt := 19) d_K_part_6 (by decide) (fun h6 => ?_) (fun h6 => ?_)
  · obtain ⟨s, hs, rfl⟩ := bel (n := 16) h6 (by decide)
    refine g_aload_nq d_K_part_19 rfl 0 rfl ?_
    refine g_get d_K_part_20 f_K_12_K (by assumption) (by first | rfl | assumption) ?_
    refine g_iload_n d_K_part_23 rfl 1 rfl ?_
    refine g_callV d_K_part_24 k_Sc_addPart l_K_86 i_Sc_addPart rfl q_Sc_Sc_addPart_Sc h1 (by rfl) (by rfl) (Nat.le_of_ble_eq_true rfl) (by decide) (C_Sc_addPart hR hs hL hb2 ?_)
    have hN := hN _ hs rfl
    split
    · rename_i h9
      rw [if_pos h9] at hN
      exact fun Z1 a q r r1 b1 b2 => ⟨_, rfl, g_iret d_K_part_27 (hN Z1 a q r r1 b1 b2)⟩
    · rename_i h9
      rw [if_neg h9] at hN
      exact ⟨_, rfl, g_iret d_K_part_27 hN⟩
  · have hF := hI h6
    exact g_thr hK hT zl_2 (by decide +kernel) oa_I oc_I oi_I d_K_part_9 d_K_part_12 d_K_part_13 d_K_part_15 d_K_part_18 (by decide +kernel) (by omega) (by omega) (by decide) hF

set_option maxHeartbeats 4000000 in
set_option maxRecDepth 100000 in
theorem C_K_net {w : zC} {Z : zZ} {Q : zR → zZ → Prop} {ad : Nat → Nat} {S : ST} (hR : Rep w ad S Z) {adK adV : Nat → Nat} (hK : zLit w adK adV) (hT : zThr w) {x m : Int32} (hL : ciLive S) (hb : 1 ≤ Z.2.2.1 ∧ 6 ≤ Z.2.2.2) (hb2 : 2 ≤ Z.2.2.1 ∧ 16 ≤ Z.2.2.2) (hI : ¬ inr x 16 → Q (.inr "java/lang/IndexOutOfBoundsException") (zpay Z 1 6)) (hA : inr x 16 → ¬ inr m 1000 → Q (.inr "java/lang/IllegalArgumentException") (zpay Z 1 6)) (hN : ∀ s, s < 16 → x = nI s → inr m 1000 → if sN S 1 < 40 then (∀ Z' a q, Rep w (netA ad (sN S 1) a q) (netS S (insP (ordP S) ((nI s * 3 + 1) * 160 + nI (sN S 1)) (sN S 0 + sN S 1 + sN S 2)) (nI s) m) Z' → Z'.2.2.1 = Z.2.2.1 - 2 → Z'.2.2.2 = Z.2.2.2 - 16 → Q (.inl (some (.int (nI (sN S 1))))) Z') else Q (.inl (some (.int (-1)))) Z) : Cz w (6, 140) y_K_net (Cond.code y_K_net c_K_net 3 r_K_net :: wz) [.ref (ad 0), .int x, .int m] Z Q := by
  refine Cz.of (by decide +kernel) (by simp [lg_sl, Value.category]) ?_
  show G _ _ _ _ _ _ _ _ [(0, _), (1, _), (2, _)] _ _
  have h0 : zhs Z (ad 0) (.inr (0, [.ref (ad 1), .ref (ad 3), .ref (ad 8), .ref (ad 9), .ref (ad 4), .ref (ad 5), .ref (ad 10), .ref (ad (5 + sN S 8)), .ref (ad (8 - sN S 8)), .int (nI (sN S 3)), .int (sI S 0 11)])) := hR.k 0 (by decide)
  have h1 : zhs Z (ad 1) (.inr (1, [.ref (ad 11), .ref (ad 12), .ref (ad 13), .ref (ad 14), .ref (ad 15), .int (nI (sN S 0)), .int (nI (sN S 1)), .int (nI (sN S 2)), .int (nI (sN S 7))])) := hR.k 1 (by decide)
  refine g_iload_n d_K_net_0 rfl 1 rfl ?_
  refine g_bipush (v := 16) d_K_net_1 rfl ?_
  refine g_callS d_K_net_3 k_K_isBelow l_K_64 s_K_isBelow (by rfl) (by rfl) (Nat.le_of_ble_eq_true rfl) (by decide) (C_K_isBelow ⟨_, rfl, ?_⟩)
  first | refine g_if_neB (tgt := 19) d_K_net_6 (by decide) (fun h6 => ?_) (fun h6 => ?_) | refine g_if_ne (tgt := 19) d_K_net_6 (by decide) (fun h6 => ?_) (fun h6 => ?_)
  · refine g_iload_n d_K_net_19 rfl 2 rfl ?_
    refine g_sipush (v := 1000) d_K_net_20 rfl ?_
    refine g_callS d_K_net_23 k_K_isBelow l_K_64 s_K_isBelow (by rfl) (by rfl) (Nat.le_of_ble_eq_true rfl) (by decide) (C_K_isBelow ⟨_, rfl, ?_⟩)
    first | refine g_if_neB (tgt := 39) d_K_net_26 (by decide) (fun h26 => ?_) (fun h26 => ?_) | refine g_if_ne (tgt := 39) d_K_net_26 (by decide) (fun h26 => ?_) (fun h26 => ?_)
    · obtain ⟨s, hs, rfl⟩ := bel (n := 16) h6 (by decide)
      refine g_aload_nq d_K_net_39 rfl 0 rfl ?_
      refine g_get d_K_net_40 f_K_12_K (by assumption) (by first | rfl | assumption) ?_
      refine g_iload_n d_K_net_43 rfl 1 rfl ?_
      refine g_iload_n d_K_net_44 rfl 2 rfl ?_
      refine g_callV d_K_net_45 k_Sc_addNet l_K_92 i_Sc_addNet rfl q_Sc_Sc_addNet_Sc h1 (by rfl) (by rfl) (Nat.le_of_ble_eq_true rfl) (by decide) (C_Sc_addNet hR hs hL hb2 ?_)
      have hN := hN _ hs rfl h26
      split
      · rename_i h9
        rw [if_pos h9] at hN
        exact fun Z1 a q r1 b1 b2 => ⟨_, rfl, g_iret d_K_net_48 (hN Z1 a q r1 b1 b2)⟩
      · rename_i h9
        rw [if_neg h9] at hN
        exact ⟨_, rfl, g_iret d_K_net_48 hN⟩
    · have hF := hA h6 h26
      exact g_thr hK hT zl_3 (by decide +kernel) oa_A oc_A oi_A d_K_net_29 d_K_net_32 d_K_net_33 d_K_net_35 d_K_net_38 (by decide +kernel) (by omega) (by omega) (by decide) hF
  · have hF := hI h6
    exact g_thr hK hT zl_2 (by decide +kernel) oa_I oc_I oi_I d_K_net_9 d_K_net_12 d_K_net_13 d_K_net_15 d_K_net_18 (by decide +kernel) (by omega) (by omega) (by decide) hF
