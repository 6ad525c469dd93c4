/-! The law's methods that catch -/
def outS (S : ST) (v : Int64) : ST := wJ S 57 (vp_updL (sJ S 57) 0 v)
def zl (c : Prop) [Decidable c] : Int64 := if c then 1 else 0
theorem Rep.out {w : zC} {ad : Nat → Nat} {S : ST} {Z : zZ} (h : Rep w ad S Z) : zhs Z (ad 57) (xl w 1 (sJ S 57)) := by
  have h1 := h.2.2 57 (Or.inr (Or.inl rfl))
  rw [cell_K (by decide)] at h1
  exact h1
set_option maxHeartbeats 4000000 in
set_option maxRecDepth 100000 in
theorem A_ruleY {w : zC} {Z : zZ} {Q : zR → zZ → Prop} {ad : Nat → Nat} {S : ST} (hR : Rep w ad S Z) {adK adV : Nat → Nat} (hK : zLit w adK adV) (hT : zThr w) (hb : 1 ≤ Z.2.2.1 ∧ 6 ≤ Z.2.2.2) (c1 : ¬ sN S 3 < 20) (hQ : Q (.inr "java/lang/IllegalStateException") (zpay Z 1 6)) : Cz w (9, 190) y_K_rule (Cond.code y_K_rule c_K_rule 2 r_K_rule :: wz) [.ref (ad 0)] Z Q := by
  refine Cz.of (by decide +kernel) (by simp [lg_sl, Value.category]) ?_
  show G _ _ _ _ _ _ _ _ [(0, _)] _ _
  have h0 : zhs Z (ad 0) (.inr (0, [.ref (ad 1), .ref (ad 3), .ref (ad 8), .ref (ad 9), .ref (ad 4), .ref (ad 5), .ref (ad 10), .ref (ad (5 + sN S 8)), .ref (ad (8 - sN S 8)), .int (nI (sN S 3)), .int (sI S 0 11)])) := hR.k 0 (by decide)
  have h8 : zhs Z (ad 8) (xr w 8 20 (fun k => if k < sN S 3 then some (ad (460 + 3 * k)) else sR S 8 k)) := hR.k 8 (by decide)
  refine g_aload_nq d_K_rule_0 rfl 0 rfl ?_
  refine g_get d_K_rule_1 f_K_57_K (by assumption) (by first | rfl | assumption) ?_
  refine g_aload_nq d_K_rule_4 rfl 0 rfl ?_
  refine g_get d_K_rule_5 f_K_25_K (by assumption) (by first | rfl | assumption) ?_
  refine g_alen d_K_rule_8 8 (by assumption) rfl ?_
  refine g_icmp_lt (tgt := 22) d_K_rule_9 (by decide) (fun h9 => ?_) (fun h9 => ?_)
  · exact absurd ((nI_ltI (by have := hR.1.2.2.2.1; omega) (by decide)).mp h9) c1
  · have hF := hQ
    exact g_thr hK hT zl_9 (by decide +kernel) oa_S oc_S oi_S d_K_rule_12 d_K_rule_15 d_K_rule_16 d_K_rule_18 d_K_rule_21 (by decide +kernel) (by omega) (by omega) (by decide) hF
set_option maxHeartbeats 4000000 in
set_option maxRecDepth 100000 in
theorem E0_La_table {w : zC} {Z : zZ} {Q : zR → zZ → Prop} {u0 : Nat} {u1 : Int32} {u2 : Int32} {u3 : Int32} {u4 : Nat} (hQ : Q (.inl (some (.int 0))) Z) : G w y_La_table c_La_table 6 r_La_table (7, 170) Q 19 [(0, .ref u0), (1, .int u1), (2, .int u2), (3, .int u3), (4, .ref u4)] [] Z := by
  refine g_goto (tgt := 30) d_La_table_19 (by decide) ?_
  refine g_iconst (v := 0) d_La_table_30 rfl ?_
  refine g_iret d_La_table_31 ?_
  exact hQ

set_option maxHeartbeats 4000000 in
set_option maxRecDepth 100000 in
theorem T_La_table {w : zC} {Z : zZ} {Q : zR → zZ → Prop} {ad ad' : Nat → Nat} {S1 : ST} {c : Prop} [Decidable c] {u0 : Nat} {u1 : Int32} {u2 : Int32} {u3 : Int32} {u4 : Nat} (hR1 : Rep w ad' S1 Z) (had : ad' 57 = ad 57) (hF : ∀ Z9, Rep w ad' (outS S1 (zl c)) Z9 → Z9.2.2 = Z.2.2 → Q (.inl (some (.int 0))) Z9) : G w y_La_table c_La_table 6 r_La_table (7, 170) Q 10 [(0, .ref u0), (1, .int u1), (2, .int u2), (3, .int u3), (4, .ref u4)] [.int (zb c), .int 0, .ref (ad 57)] Z := by
  rw [← had]
  have h57 := hR1.out
  first | refine g_if_eqB (tgt := 17) d_La_table_10 (by decide) (fun h10 => ?_) (fun h10 => ?_) | refine g_if_eq (tgt := 17) d_La_table_10 (by decide) (fun h10 => ?_) (fun h10 => ?_)
  · rw [show zl c = 0 from if_neg h10] at hF
    refine g_lconst (v := 0) d_La_table_17 rfl ?_
    refine g_last d_La_table_18 (by assumption) (vp_in_nI (n := 0) (N := 1) (by decide) (by decide)) ?_
    generalize e1 : zput _ _ _ = Z1
    exact E0_La_table (hF Z1 (by rw [← e1]; exact hR1.putJ (i := 57) (Or.inr (Or.inl rfl)) (by rw [cell_K (by decide)]; exact congrArg (xl w 1) (va_up_self S1.2.1 57 _))) (by rw [← e1]; rfl))
  · rw [show zl c = 1 from if_pos h10] at hF
    refine g_lconst (v := 1) d_La_table_13 rfl ?_
    refine g_goto (tgt := 18) d_La_table_14 (by decide) ?_
    refine g_last d_La_table_18 (by assumption) (vp_in_nI (n := 0) (N := 1) (by decide) (by decide)) ?_
    generalize e1 : zput _ _ _ = Z1
    exact E0_La_table (hF Z1 (by rw [← e1]; exact hR1.putJ (i := 57) (Or.inr (Or.inl rfl)) (by rw [cell_K (by decide)]; exact congrArg (xl w 1) (va_up_self S1.2.1 57 _))) (by rw [← e1]; rfl))

set_option maxHeartbeats 4000000 in
set_option maxRecDepth 100000 in
theorem E1_La_table {w : zC} {Z : zZ} {Q : zR → zZ → Prop} {x9 : Nat} {u0 : Nat} {u1 : Int32} {u2 : Int32} {u3 : Int32} {u4 : Nat} (hQ : Q (.inl (some (.int 1))) Z) : G w y_La_table c_La_table 6 r_La_table (7, 170) Q 22 [(0, .ref u0), (1, .int u1), (2, .int u2), (3, .int u3), (4, .ref u4)] [.ref x9] Z := by
  refine g_astoreq d_La_table_22 (by decide) rfl ?_
  show G _ _ _ _ _ _ _ _ [(5, _), (0, _), (1, _), (2, _), (3, _), (4, _)] _ _
  refine g_iconst (v := 1) d_La_table_24 rfl ?_
  refine g_iret d_La_table_25 ?_
  exact hQ

set_option maxHeartbeats 4000000 in
set_option maxRecDepth 100000 in
theorem E2_La_table {w : zC} {Z : zZ} {Q : zR → zZ → Prop} {x9 : Nat} {u0 : Nat} {u1 : Int32} {u2 : Int32} {u3 : Int32} {u4 : Nat} (hQ : Q (.inl (some (.int 2))) Z) : G w y_La_table c_La_table 6 r_La_table (7, 170) Q 26 [(0, .ref u0), (1, .int u1), (2, .int u2), (3, .int u3), (4, .ref u4)] [.ref x9] Z := by
  refine g_astoreq d_La_table_26 (by decide) rfl ?_
  show G _ _ _ _ _ _ _ _ [(5, _), (0, _), (1, _), (2, _), (3, _), (4, _)] _ _
  refine g_iconst (v := 2) d_La_table_28 rfl ?_
  refine g_iret d_La_table_29 ?_
  exact hQ

theorem kw_La_table : zCallW y_La_table c_La_table 6 r_La_table [(0, 19, 22, 13), (0, 19, 26, 15)] 5 := ⟨wz_at 490 (by decide +kernel) rfl, wz_at 0 (by decide +kernel) rfl, by decide +kernel, by decide +kernel, by decide +kernel⟩

set_option maxHeartbeats 4000000 in
set_option maxRecDepth 100000 in
theorem C_La_table {w : zC} {Z : zZ} {Q : zR → zZ → Prop} {ad : Nat → Nat} {S : ST} (hR : Rep w ad S Z) {adK adV : Nat → Nat} (hK : zLit w adK adV) (hT : zThr w) {x y v : Int32} (hb : 1 ≤ Z.2.2.1 ∧ 6 ≤ Z.2.2.2) (hI : ¬ (inr x 10 ∧ inr y 10) → Q (.inl (some (.int 1))) (zpay Z 1 6)) (hA : (inr x 10 ∧ inr y 10) → ¬ (inr v 3) → Q (.inl (some (.int 2))) (zpay Z 1 6)) (hN : ∀ a b, a < 10 → b < 10 → x = nI a → y = nI b → inr v 3 → ∀ Z', Rep w ad (outS (wI S 11 (upd (upd (sI S 11) (a * 10 + b) v) (b * 10 + a) v)) (zl (¬ sI S 11 (a * 10 + b) = v))) Z' → Z'.2.2 = Z.2.2 → Q (.inl (some (.int 0))) Z') : Cz w (7, 170) y_La_table (Cond.codeWith y_La_table c_La_table 6 r_La_table [(0, 19, 22, 13), (0, 19, 26, 15)] :: wz) [.ref (ad 0), .int x, .int y, .int v, .ref (ad 57)] Z Q := by
  refine Cz.ofW (by decide +kernel) (by simp [lg_sl, Value.category]) ?_
  show G _ _ _ _ _ _ _ _ [(0, _), (1, _), (2, _), (3, _), (4, _)] _ _
  have h0 : zhs Z (ad 0) (.inr (0, [.ref (ad 1), .ref (ad 3), .ref (ad 8), .ref (ad 9), .ref (ad 4), .ref (ad 5), .ref (ad 10), .ref (ad (5 + sN S 8)), .ref (ad (8 - sN S 8)), .int (nI (sN S 3)), .int (sI S 0 11)])) := hR.k 0 (by decide)
  refine g_aloadq d_La_table_0 4 rfl ?_
  refine g_iconst (v := 0) d_La_table_2 rfl ?_
  refine g_aload_nq d_La_table_3 rfl 0 rfl ?_
  refine g_iload_n d_La_table_4 rfl 1 rfl ?_
  refine g_iload_n d_La_table_5 rfl 2 rfl ?_
  refine g_iload_n d_La_table_6 rfl 3 rfl ?_
  by_cases c1 : inr x 10 ∧ inr y 10
  · by_cases c2 : inr v 3
    · refine g_callV d_La_table_7 k_K_table l_La_7 i_K_table rfl q_K_K_table_K h0 (by rfl) (by rfl) (Nat.le_of_ble_eq_true rfl) (by decide) (C_K_table hR hK hT (x := x) (y := y) (v := v) hb (fun h9 => absurd c1 h9) (fun _ _ h9 => absurd c2 h9) (fun a b ha hb9 e1 e2 e3 Z1 r1 b1 => ⟨_, rfl, T_La_table r1 rfl (fun Z9 r9 b9 => hN a b ha hb9 e1 e2 e3 Z9 r9 (b9.trans b1))⟩))
    · exact g_callVX (E := "java/lang/IllegalArgumentException") (hpc := 26) (a0 := 0) (b0 := 19) (ct := 15) (pre := [(0, 19, 22, 13)]) (post := []) (by decide +kernel) (fun q hq => by rw [List.mem_singleton.mp hq]; exact ⟨by decide, _, t_La_13, by simp [wnc]⟩) (by decide +kernel) (by decide) t_La_15 d_La_table_7 k_K_table l_La_7 i_K_table rfl q_K_K_table_K h0 (by rfl) (by rfl) (Nat.le_of_ble_eq_true rfl) (by decide) (C_K_table hR hK hT (x := x) (y := y) (v := v) hb (fun h9 => absurd c1 h9) (fun _ _ _ => ⟨rfl, fun x9 => E2_La_table (hA c1 c2)⟩) (fun a b ha hb9 e1 e2 e3 => absurd e3 c2))
  · exact g_callVX (E := "java/lang/IndexOutOfBoundsException") (hpc := 22) (a0 := 0) (b0 := 19) (ct := 13) (pre := []) (post := [(0, 19, 26, 15)]) (by decide +kernel) (fun q hq => by cases hq) (by decide +kernel) (by decide) t_La_13 d_La_table_7 k_K_table l_La_7 i_K_table rfl q_K_K_table_K h0 (by rfl) (by rfl) (Nat.le_of_ble_eq_true rfl) (by decide) (C_K_table hR hK hT (x := x) (y := y) (v := v) hb (fun _ => ⟨rfl, fun x9 => E1_La_table (hI c1)⟩) (fun p q _ => absurd ⟨p, q⟩ c1) (fun a b ha hb9 e1 e2 _ => absurd ⟨e1 ▸ inr_nI ha (by decide), e2 ▸ inr_nI hb9 (by decide)⟩ c1))

set_option maxHeartbeats 4000000 in
set_option maxRecDepth 100000 in
theorem E0_La_part {w : zC} {Z : zZ} {Q : zR → zZ → Prop} {u0 : Nat} {u1 : Int32} {u2 : Nat} (hQ : Q (.inl (some (.int 0))) Z) : G w y_La_part c_La_part 4 r_La_part (7, 170) Q 9 [(0, .ref u0), (1, .int u1), (2, .ref u2)] [] Z := by
  refine g_goto (tgt := 15) d_La_part_9 (by decide) ?_
  refine g_iconst (v := 0) d_La_part_15 rfl ?_
  refine g_iret d_La_part_16 ?_
  exact hQ

set_option maxHeartbeats 4000000 in
set_option maxRecDepth 100000 in
theorem T_La_part {w : zC} {Z : zZ} {Q : zR → zZ → Prop} {ad ad' : Nat → Nat} {S1 : ST} {x9 : Int32} {u0 : Nat} {u1 : Int32} {u2 : Nat} (hR1 : Rep w ad' S1 Z) (had : ad' 57 = ad 57) (hF : ∀ Z9, Rep w ad' (outS S1 x9.toInt64) Z9 → Z9.2.2 = Z.2.2 → Q (.inl (some (.int 0))) Z9) : G w y_La_part c_La_part 4 r_La_part (7, 170) Q 7 [(0, .ref u0), (1, .int u1), (2, .ref u2)] [.int x9, .int 0, .ref (ad 57)] Z := by
  rw [← had]
  have h57 := hR1.out
  refine g_i2l d_La_part_7 rfl ?_
  refine g_last d_La_part_8 (by assumption) (vp_in_nI (n := 0) (N := 1) (by decide) (by decide)) ?_
  generalize e1 : zput _ _ _ = Z1
  exact E0_La_part (hF Z1 (by rw [← e1]; exact hR1.putJ (i := 57) (Or.inr (Or.inl rfl)) (by rw [cell_K (by decide)]; exact congrArg (xl w 1) (va_up_self S1.2.1 57 _))) (by rw [← e1]; rfl))

set_option maxHeartbeats 4000000 in
set_option maxRecDepth 100000 in
theorem E1_La_part {w : zC} {Z : zZ} {Q : zR → zZ → Prop} {x9 : Nat} {u0 : Nat} {u1 : Int32} {u2 : Nat} (hQ : Q (.inl (some (.int 1))) Z) : G w y_La_part c_La_part 4 r_La_part (7, 170) Q 12 [(0, .ref u0), (1, .int u1), (2, .ref u2)] [.ref x9] Z := by
  refine g_astore_nq d_La_part_12 rfl (by decide) rfl ?_
  show G _ _ _ _ _ _ _ _ [(3, _), (0, _), (1, _), (2, _)] _ _
  refine g_iconst (v := 1) d_La_part_13 rfl ?_
  refine g_iret d_La_part_14 ?_
  exact hQ

theorem kw_La_part : zCallW y_La_part c_La_part 4 r_La_part [(0, 9, 12, 13)] 3 := ⟨wz_at 587 (by decide +kernel) rfl, wz_at 0 (by decide +kernel) rfl, by decide +kernel, by decide +kernel, by decide +kernel⟩

set_option maxHeartbeats 4000000 in
set_option maxRecDepth 100000 in
theorem C_La_part {w : zC} {Z : zZ} {Q : zR → zZ → Prop} {ad : Nat → Nat} {S : ST} (hR : Rep w ad S Z) {adK adV : Nat → Nat} (hK : zLit w adK adV) (hT : zThr w) {x : Int32} (hL : ciLive S) (hb2 : 3 ≤ Z.2.2.1 ∧ 23 ≤ Z.2.2.2) (hb : 1 ≤ Z.2.2.1 ∧ 6 ≤ Z.2.2.2) (hI : ¬ (inr x 16) → Q (.inl (some (.int 1))) (zpay Z 1 6)) (hN : ∀ s, s < 16 → x = nI s → if sN S 0 < 40 then (∀ Z' a q r, Rep w (partA ad (sN S 0) a q r) (outS (partS S (insP (ordP S) ((nI s * 3 + 0) * 160 + nI (sN S 0)) (sN S 0 + sN S 1 + sN S 2)) (nI s)) (nI (sN S 0)).toInt64) Z' → Z'.2.2.1 = Z.2.2.1 - 3 → Z'.2.2.2 = Z.2.2.2 - 23 → Q (.inl (some (.int 0))) Z') else ∀ Z', Rep w ad (outS S (-1)) Z' → Z'.2.2 = Z.2.2 → Q (.inl (some (.int 0))) Z') : Cz w (7, 170) y_La_part (Cond.codeWith y_La_part c_La_part 4 r_La_part [(0, 9, 12, 13)] :: wz) [.ref (ad 0), .int x, .ref (ad 57)] Z Q := by
  refine Cz.ofW (by decide +kernel) (by simp [lg_sl, Value.category]) ?_
  show G _ _ _ _ _ _ _ _ [(0, _), (1, _), (2, _)] _ _
  have h0 : zhs Z (ad 0) (.inr (0, [.ref (ad 1), .ref (ad 3), .ref (ad 8), .ref (ad 9), .ref (ad 4), .ref (ad 5), .ref (ad 10), .ref (ad (5 + sN S 8)), .ref (ad (8 - sN S 8)), .int (nI (sN S 3)), .int (sI S 0 11)])) := hR.k 0 (by decide)
  refine g_aload_nq d_La_part_0 rfl 2 rfl ?_
  refine g_iconst (v := 0) d_La_part_1 rfl ?_
  refine g_aload_nq d_La_part_2 rfl 0 rfl ?_
  refine g_iload_n d_La_part_3 rfl 1 rfl ?_
  by_cases c1 : inr x 16
  · refine g_callV d_La_part_4 k_K_part l_La_17 i_K_part rfl q_K_K_part_K h0 (by rfl) (by rfl) (Nat.le_of_ble_eq_true rfl) (by decide) (C_K_part hR hK hT (x := x) hL hb hb2 (fun h9 => absurd c1 h9) ?_)
    intro s hs e1
    have hN := hN s hs e1
    split
    · rename_i h9
      rw [if_pos h9] at hN
      intro Z1 a q r r1 b1 b2
      have h57 : partA ad (sN S 0) a q r 57 = ad 57 := by unfold partA; rw [va_up_ne _ _ (by omega), va_up_ne _ _ (by omega), va_up_ne _ _ (by omega)]
      exact ⟨_, rfl, T_La_part r1 h57 (fun Z9 r9 b9 => hN Z9 a q r r9 (by rw [b9]; exact b1) (by rw [b9]; exact b2))⟩
    · rename_i h9
      rw [if_neg h9] at hN
      exact ⟨_, rfl, T_La_part hR rfl (fun Z9 r9 b9 => hN Z9 r9 b9)⟩
  · exact g_callVX (E := "java/lang/IndexOutOfBoundsException") (hpc := 12) (a0 := 0) (b0 := 9) (ct := 13) (pre := []) (post := []) (by decide +kernel) (fun q hq => by cases hq) (by decide +kernel) (by decide) t_La_13 d_La_part_4 k_K_part l_La_17 i_K_part rfl q_K_K_part_K h0 (by rfl) (by rfl) (Nat.le_of_ble_eq_true rfl) (by decide) (C_K_part hR hK hT (x := x) hL hb hb2 (fun _ => ⟨rfl, fun x9 => E1_La_part (hI c1)⟩) (fun s hs e1 => absurd (e1 ▸ inr_nI hs (by decide)) c1))

set_option maxHeartbeats 4000000 in
set_option maxRecDepth 100000 in
theorem E0_La_net {w : zC} {Z : zZ} {Q : zR → zZ → Prop} {u0 : Nat} {u1 : Int32} {u2 : Int32} {u3 : Nat} (hQ : Q (.inl (some (.int 0))) Z) : G w y_La_net c_La_net 5 r_La_net (7, 170) Q 10 [(0, .ref u0), (1, .int u1), (2, .int u2), (3, .ref u3)] [] Z := by
  refine g_goto (tgt := 21) d_La_net_10 (by decide) ?_
  refine g_iconst (v := 0) d_La_net_21 rfl ?_
  refine g_iret d_La_net_22 ?_
  exact hQ

set_option maxHeartbeats 4000000 in
set_option maxRecDepth 100000 in
theorem T_La_net {w : zC} {Z : zZ} {Q : zR → zZ → Prop} {ad ad' : Nat → Nat} {S1 : ST} {x9 : Int32} {u0 : Nat} {u1 : Int32} {u2 : Int32} {u3 : Nat} (hR1 : Rep w ad' S1 Z) (had : ad' 57 = ad 57) (hF : ∀ Z9, Rep w ad' (outS S1 x9.toInt64) Z9 → Z9.2.2 = Z.2.2 → Q (.inl (some (.int 0))) Z9) : G w y_La_net c_La_net 5 r_La_net (7, 170) Q 8 [(0, .ref u0), (1, .int u1), (2, .int u2), (3, .ref u3)] [.int x9, .int 0, .ref (ad 57)] Z := by
  rw [← had]
  have h57 := hR1.out
  refine g_i2l d_La_net_8 rfl ?_
  refine g_last d_La_net_9 (by assumption) (vp_in_nI (n := 0) (N := 1) (by decide) (by decide)) ?_
  generalize e1 : zput _ _ _ = Z1
  exact E0_La_net (hF Z1 (by rw [← e1]; exact hR1.putJ (i := 57) (Or.inr (Or.inl rfl)) (by rw [cell_K (by decide)]; exact congrArg (xl w 1) (va_up_self S1.2.1 57 _))) (by rw [← e1]; rfl))

set_option maxHeartbeats 4000000 in
set_option maxRecDepth 100000 in
theorem E1_La_net {w : zC} {Z : zZ} {Q : zR → zZ → Prop} {x9 : Nat} {u0 : Nat} {u1 : Int32} {u2 : Int32} {u3 : Nat} (hQ : Q (.inl (some (.int 1))) Z) : G w y_La_net c_La_net 5 r_La_net (7, 170) Q 13 [(0, .ref u0), (1, .int u1), (2, .int u2), (3, .ref u3)] [.ref x9] Z := by
  refine g_astoreq d_La_net_13 (by decide) rfl ?_
  show G _ _ _ _ _ _ _ _ [(4, _), (0, _), (1, _), (2, _), (3, _)] _ _
  refine g_iconst (v := 1) d_La_net_15 rfl ?_
  refine g_iret d_La_net_16 ?_
  exact hQ

set_option maxHeartbeats 4000000 in
set_option maxRecDepth 100000 in
theorem E2_La_net {w : zC} {Z : zZ} {Q : zR → zZ → Prop} {x9 : Nat} {u0 : Nat} {u1 : Int32} {u2 : Int32} {u3 : Nat} (hQ : Q (.inl (some (.int 2))) Z) : G w y_La_net c_La_net 5 r_La_net (7, 170) Q 17 [(0, .ref u0), (1, .int u1), (2, .int u2), (3, .ref u3)] [.ref x9] Z := by
  refine g_astoreq d_La_net_17 (by decide) rfl ?_
  show G _ _ _ _ _ _ _ _ [(4, _), (0, _), (1, _), (2, _), (3, _)] _ _
  refine g_iconst (v := 2) d_La_net_19 rfl ?_
  refine g_iret d_La_net_20 ?_
  exact hQ

theorem kw_La_net : zCallW y_La_net c_La_net 5 r_La_net [(0, 10, 13, 13), (0, 10, 17, 15)] 4 := ⟨wz_at 640 (by decide +kernel) rfl, wz_at 0 (by decide +kernel) rfl, by decide +kernel, by decide +kernel, by decide +kernel⟩

set_option maxHeartbeats 4000000 in
set_option maxRecDepth 100000 in
theorem C_La_net {w : zC} {Z : zZ} {Q : zR → zZ → Prop} {ad : Nat → Nat} {S : ST} (hR : Rep w ad S Z) {adK adV : Nat → Nat} (hK : zLit w adK adV) (hT : zThr w) {x m : Int32} (hL : ciLive S) (hb2 : 2 ≤ Z.2.2.1 ∧ 16 ≤ Z.2.2.2) (hb : 1 ≤ Z.2.2.1 ∧ 6 ≤ Z.2.2.2) (hI : ¬ (inr x 16) → Q (.inl (some (.int 1))) (zpay Z 1 6)) (hA : (inr x 16) → ¬ (inr m 1000) → Q (.inl (some (.int 2))) (zpay Z 1 6)) (hN : ∀ s, s < 16 → x = nI s → inr m 1000 → if sN S 1 < 40 then (∀ Z' a q, Rep w (netA ad (sN S 1) a q) (outS (netS S (insP (ordP S) ((nI s * 3 + 1) * 160 + nI (sN S 1)) (sN S 0 + sN S 1 + sN S 2)) (nI s) m) (nI (sN S 1)).toInt64) Z' → Z'.2.2.1 = Z.2.2.1 - 2 → Z'.2.2.2 = Z.2.2.2 - 16 → Q (.inl (some (.int 0))) Z') else ∀ Z', Rep w ad (outS S (-1)) Z' → Z'.2.2 = Z.2.2 → Q (.inl (some (.int 0))) Z') : Cz w (7, 170) y_La_net (Cond.codeWith y_La_net c_La_net 5 r_La_net [(0, 10, 13, 13), (0, 10, 17, 15)] :: wz) [.ref (ad 0), .int x, .int m, .ref (ad 57)] Z Q := by
  refine Cz.ofW (by decide +kernel) (by simp [lg_sl, Value.category]) ?_
  show G _ _ _ _ _ _ _ _ [(0, _), (1, _), (2, _), (3, _)] _ _
  have h0 : zhs Z (ad 0) (.inr (0, [.ref (ad 1), .ref (ad 3), .ref (ad 8), .ref (ad 9), .ref (ad 4), .ref (ad 5), .ref (ad 10), .ref (ad (5 + sN S 8)), .ref (ad (8 - sN S 8)), .int (nI (sN S 3)), .int (sI S 0 11)])) := hR.k 0 (by decide)
  refine g_aload_nq d_La_net_0 rfl 3 rfl ?_
  refine g_iconst (v := 0) d_La_net_1 rfl ?_
  refine g_aload_nq d_La_net_2 rfl 0 rfl ?_
  refine g_iload_n d_La_net_3 rfl 1 rfl ?_
  refine g_iload_n d_La_net_4 rfl 2 rfl ?_
  by_cases c1 : inr x 16
  · by_cases c2 : inr m 1000
    · refine g_callV d_La_net_5 k_K_net l_La_21 i_K_net rfl q_K_K_net_K h0 (by rfl) (by rfl) (Nat.le_of_ble_eq_true rfl) (by decide) (C_K_net hR hK hT (x := x) (m := m) hL hb hb2 (fun h9 => absurd c1 h9) (fun _ h9 => absurd c2 h9) ?_)
      intro s hs e1 e2
      have hN := hN s hs e1 e2
      split
      · rename_i h9
        rw [if_pos h9] at hN
        intro Z1 a q r1 b1 b2
        have h57 : netA ad (sN S 1) a q 57 = ad 57 := by unfold netA; rw [va_up_ne _ _ (by omega), va_up_ne _ _ (by omega)]
        exact ⟨_, rfl, T_La_net r1 h57 (fun Z9 r9 b9 => hN Z9 a q r9 (by rw [b9]; exact b1) (by rw [b9]; exact b2))⟩
      · rename_i h9
        rw [if_neg h9] at hN
        exact ⟨_, rfl, T_La_net hR rfl (fun Z9 r9 b9 => hN Z9 r9 b9)⟩
    · exact g_callVX (E := "java/lang/IllegalArgumentException") (hpc := 17) (a0 := 0) (b0 := 10) (ct := 15) (pre := [(0, 10, 13, 13)]) (post := []) (by decide +kernel) (fun q hq => by rw [List.mem_singleton.mp hq]; exact ⟨by decide, _, t_La_13, by simp [wnc]⟩) (by decide +kernel) (by decide) t_La_15 d_La_net_5 k_K_net l_La_21 i_K_net rfl q_K_K_net_K h0 (by rfl) (by rfl) (Nat.le_of_ble_eq_true rfl) (by decide) (C_K_net hR hK hT (x := x) (m := m) hL hb hb2 (fun h9 => absurd c1 h9) (fun _ _ => ⟨rfl, fun x9 => E2_La_net (hA c1 c2)⟩) (fun s hs e1 e2 => absurd e2 c2))
  · exact g_callVX (E := "java/lang/IndexOutOfBoundsException") (hpc := 13) (a0 := 0) (b0 := 10) (ct := 13) (pre := []) (post := [(0, 10, 17, 15)]) (by decide +kernel) (fun q hq => by cases hq) (by decide +kernel) (by decide) t_La_13 d_La_net_5 k_K_net l_La_21 i_K_net rfl q_K_K_net_K h0 (by rfl) (by rfl) (Nat.le_of_ble_eq_true rfl) (by decide) (C_K_net hR hK hT (x := x) (m := m) hL hb hb2 (fun _ => ⟨rfl, fun x9 => E1_La_net (hI c1)⟩) (fun p _ => absurd p c1) (fun s hs e1 _ => absurd (e1 ▸ inr_nI hs (by decide)) c1))

set_option maxHeartbeats 4000000 in
set_option maxRecDepth 100000 in
theorem E0_La_pin {w : zC} {Z : zZ} {Q : zR → zZ → Prop} {u0 : Nat} {u1 : Int32} {u2 : Int32} {u3 : Int32} {u4 : Nat} (hQ : Q (.inl (some (.int 0))) Z) : G w y_La_pin c_La_pin 6 r_La_pin (7, 170) Q 12 [(0, .ref u0), (1, .int u1), (2, .int u2), (3, .int u3), (4, .ref u4)] [] Z := by
  refine g_goto (tgt := 23) d_La_pin_12 (by decide) ?_
  refine g_iconst (v := 0) d_La_pin_23 rfl ?_
  refine g_iret d_La_pin_24 ?_
  exact hQ

set_option maxHeartbeats 4000000 in
set_option maxRecDepth 100000 in
theorem T_La_pin {w : zC} {Z : zZ} {Q : zR → zZ → Prop} {ad ad' : Nat → Nat} {S1 : ST} {x9 : Int32} {u0 : Nat} {u1 : Int32} {u2 : Int32} {u3 : Int32} {u4 : Nat} (hR1 : Rep w ad' S1 Z) (had : ad' 57 = ad 57) (hF : ∀ Z9, Rep w ad' (outS S1 x9.toInt64) Z9 → Z9.2.2 = Z.2.2 → Q (.inl (some (.int 0))) Z9) : G w y_La_pin c_La_pin 6 r_La_pin (7, 170) Q 10 [(0, .ref u0), (1, .int u1), (2, .int u2), (3, .int u3), (4, .ref u4)] [.int x9, .int 0, .ref (ad 57)] Z := by
  rw [← had]
  have h57 := hR1.out
  refine g_i2l d_La_pin_10 rfl ?_
  refine g_last d_La_pin_11 (by assumption) (vp_in_nI (n := 0) (N := 1) (by decide) (by decide)) ?_
  generalize e1 : zput _ _ _ = Z1
  exact E0_La_pin (hF Z1 (by rw [← e1]; exact hR1.putJ (i := 57) (Or.inr (Or.inl rfl)) (by rw [cell_K (by decide)]; exact congrArg (xl w 1) (va_up_self S1.2.1 57 _))) (by rw [← e1]; rfl))

set_option maxHeartbeats 4000000 in
set_option maxRecDepth 100000 in
theorem E1_La_pin {w : zC} {Z : zZ} {Q : zR → zZ → Prop} {x9 : Nat} {u0 : Nat} {u1 : Int32} {u2 : Int32} {u3 : Int32} {u4 : Nat} (hQ : Q (.inl (some (.int 1))) Z) : G w y_La_pin c_La_pin 6 r_La_pin (7, 170) Q 15 [(0, .ref u0), (1, .int u1), (2, .int u2), (3, .int u3), (4, .ref u4)] [.ref x9] Z := by
  refine g_astoreq d_La_pin_15 (by decide) rfl ?_
  show G _ _ _ _ _ _ _ _ [(5, _), (0, _), (1, _), (2, _), (3, _), (4, _)] _ _
  refine g_iconst (v := 1) d_La_pin_17 rfl ?_
  refine g_iret d_La_pin_18 ?_
  exact hQ

set_option maxHeartbeats 4000000 in
set_option maxRecDepth 100000 in
theorem E2_La_pin {w : zC} {Z : zZ} {Q : zR → zZ → Prop} {x9 : Nat} {u0 : Nat} {u1 : Int32} {u2 : Int32} {u3 : Int32} {u4 : Nat} (hQ : Q (.inl (some (.int 2))) Z) : G w y_La_pin c_La_pin 6 r_La_pin (7, 170) Q 19 [(0, .ref u0), (1, .int u1), (2, .int u2), (3, .int u3), (4, .ref u4)] [.ref x9] Z := by
  refine g_astoreq d_La_pin_19 (by decide) rfl ?_
  show G _ _ _ _ _ _ _ _ [(5, _), (0, _), (1, _), (2, _), (3, _), (4, _)] _ _
  refine g_iconst (v := 2) d_La_pin_21 rfl ?_
  refine g_iret d_La_pin_22 ?_
  exact hQ

theorem kw_La_pin : zCallW y_La_pin c_La_pin 6 r_La_pin [(0, 12, 15, 13), (0, 12, 19, 15)] 5 := ⟨wz_at 668 (by decide +kernel) rfl, wz_at 0 (by decide +kernel) rfl, by decide +kernel, by decide +kernel, by decide +kernel⟩

set_option maxHeartbeats 4000000 in
set_option maxRecDepth 100000 in
theorem C_La_pin {w : zC} {Z : zZ} {Q : zR → zZ → Prop} {ad : Nat → Nat} {S : ST} (hR : Rep w ad S Z) {adK adV : Nat → Nat} (hK : zLit w adK adV) (hT : zThr w) {x y z : Int32} (hs : ciSh S) (hL : ciLive S) (hb2 : 1 ≤ Z.2.2.1 ∧ 5 ≤ Z.2.2.2) (hb : 1 ≤ Z.2.2.1 ∧ 6 ≤ Z.2.2.2) (hI : ¬ (inr x (sN S 0) ∧ (y = -1 ∨ inr y (sN S 1))) → Q (.inl (some (.int 1))) (zpay Z 1 6)) (hA : (inr x (sN S 0) ∧ (y = -1 ∨ inr y (sN S 1))) → ¬ (inr z 10) → Q (.inl (some (.int 2))) (zpay Z 1 6)) (hN : ∀ k d, k < sN S 0 → d < 10 → x = nI k → z = nI d → (y = -1 ∨ inr y (sN S 1)) → if sN S 2 < 160 then (∀ Z' a, Rep w (pinA ad (sN S 2) a) (outS (pinS (pinB (cntO (cntP S k d 1) (netO S y) d 1) k d (sI S (100 + 3 * k) 0) (netO S y)) (insP (ordP (pinB (cntO (cntP S k d 1) (netO S y) d 1) k d (sI S (100 + 3 * k) 0) (netO S y))) ((sI S (100 + 3 * k) 0 * 3 + 2) * 160 + nI (sN S 2)) (sN (pinB (cntO (cntP S k d 1) (netO S y) d 1) k d (sI S (100 + 3 * k) 0) (netO S y)) 0 + sN (pinB (cntO (cntP S k d 1) (netO S y) d 1) k d (sI S (100 + 3 * k) 0) (netO S y)) 1 + sN (pinB (cntO (cntP S k d 1) (netO S y) d 1) k d (sI S (100 + 3 * k) 0) (netO S y)) 2))) (nI (sN S 2)).toInt64) Z' → Z'.2.2.1 = Z.2.2.1 - 1 → Z'.2.2.2 = Z.2.2.2 - 5 → Q (.inl (some (.int 0))) Z') else ∀ Z', Rep w ad (outS S (-1)) Z' → Z'.2.2 = Z.2.2 → Q (.inl (some (.int 0))) Z') : Cz w (7, 170) y_La_pin (Cond.codeWith y_La_pin c_La_pin 6 r_La_pin [(0, 12, 15, 13), (0, 12, 19, 15)] :: wz) [.ref (ad 0), .int x, .int y, .int z, .ref (ad 57)] Z Q := by
  refine Cz.ofW (by decide +kernel) (by simp [lg_sl, Value.category]) ?_
  show G _ _ _ _ _ _ _ _ [(0, _), (1, _), (2, _), (3, _), (4, _)] _ _
  have h0 : zhs Z (ad 0) (.inr (0, [.ref (ad 1), .ref (ad 3), .ref (ad 8), .ref (ad 9), .ref (ad 4), .ref (ad 5), .ref (ad 10), .ref (ad (5 + sN S 8)), .ref (ad (8 - sN S 8)), .int (nI (sN S 3)), .int (sI S 0 11)])) := hR.k 0 (by decide)
  refine g_aloadq d_La_pin_0 4 rfl ?_
  refine g_iconst (v := 0) d_La_pin_2 rfl ?_
  refine g_aload_nq d_La_pin_3 rfl 0 rfl ?_
  refine g_iload_n d_La_pin_4 rfl 1 rfl ?_
  refine g_iload_n d_La_pin_5 rfl 2 rfl ?_
  refine g_iload_n d_La_pin_6 rfl 3 rfl ?_
  by_cases c1 : inr x (sN S 0) ∧ (y = -1 ∨ inr y (sN S 1))
  · by_cases c2 : inr z 10
    · refine g_callV d_La_pin_7 k_K_pin l_La_25 i_K_pin rfl q_K_K_pin_K h0 (by rfl) (by rfl) (Nat.le_of_ble_eq_true rfl) (by decide) (C_K_pin hR hK hT (x := x) (y := y) (z := z) hs hL hb hb2 (fun h9 => absurd c1 h9) (fun _ _ h9 => absurd c2 h9) ?_)
      intro k d hk hd9 e1 e2 e3
      have hN := hN k d hk hd9 e1 e2 e3
      split
      · rename_i h9
        rw [if_pos h9] at hN
        intro Z1 a r1 b1 b2
        have h57 : pinA ad (sN S 2) a 57 = ad 57 := by unfold pinA; rw [va_up_ne _ _ (by omega)]
        exact ⟨_, rfl, T_La_pin r1 h57 (fun Z9 r9 b9 => hN Z9 a r9 (by rw [b9]; exact b1) (by rw [b9]; exact b2))⟩
      · rename_i h9
        rw [if_neg h9] at hN
        exact ⟨_, rfl, T_La_pin hR rfl (fun Z9 r9 b9 => hN Z9 r9 b9)⟩
    · exact g_callVX (E := "java/lang/IllegalArgumentException") (hpc := 19) (a0 := 0) (b0 := 12) (ct := 15) (pre := [(0, 12, 15, 13)]) (post := []) (by decide +kernel) (fun q hq => by rw [List.mem_singleton.mp hq]; exact ⟨by decide, _, t_La_13, by simp [wnc]⟩) (by decide +kernel) (by decide) t_La_15 d_La_pin_7 k_K_pin l_La_25 i_K_pin rfl q_K_K_pin_K h0 (by rfl) (by rfl) (Nat.le_of_ble_eq_true rfl) (by decide) (C_K_pin hR hK hT (x := x) (y := y) (z := z) hs hL hb hb2 (fun h9 => absurd c1 h9) (fun _ _ _ => ⟨rfl, fun x9 => E2_La_pin (hA c1 c2)⟩) (fun k d hk hd9 e1 e2 e3 => absurd (e2 ▸ inr_nI hd9 (by decide)) c2))
  · exact g_callVX (E := "java/lang/IndexOutOfBoundsException") (hpc := 15) (a0 := 0) (b0 := 12) (ct := 13) (pre := []) (post := [(0, 12, 19, 15)]) (by decide +kernel) (fun q hq => by cases hq) (by decide +kernel) (by decide) t_La_13 d_La_pin_7 k_K_pin l_La_25 i_K_pin rfl q_K_K_pin_K h0 (by rfl) (by rfl) (Nat.le_of_ble_eq_true rfl) (by decide) (C_K_pin hR hK hT (x := x) (y := y) (z := z) hs hL hb hb2 (fun _ => ⟨rfl, fun x9 => E1_La_pin (hI c1)⟩) (fun p q _ => absurd ⟨p, q⟩ c1) (fun k d hk hd9 e1 e2 e3 => absurd ⟨e1 ▸ inr_nI hk (by have := hR.1.1; omega), e3⟩ c1))

set_option maxHeartbeats 4000000 in
set_option maxRecDepth 100000 in
theorem E0_La_join {w : zC} {Z : zZ} {Q : zR → zZ → Prop} {u0 : Nat} {u1 : Int32} {u2 : Int32} {u3 : Nat} (hQ : Q (.inl (some (.int 0))) Z) : G w y_La_join c_La_join 5 r_La_join (7, 170) Q 17 [(0, .ref u0), (1, .int u1), (2, .int u2), (3, .ref u3)] [] Z := by
  refine g_goto (tgt := 24) d_La_join_17 (by decide) ?_
  refine g_iconst (v := 0) d_La_join_24 rfl ?_
  refine g_iret d_La_join_25 ?_
  exact hQ

set_option maxHeartbeats 4000000 in
set_option maxRecDepth 100000 in
theorem T_La_join {w : zC} {Z : zZ} {Q : zR → zZ → Prop} {ad ad' : Nat → Nat} {S1 : ST} {c : Prop} [Decidable c] {u0 : Nat} {u1 : Int32} {u2 : Int32} {u3 : Nat} (hR1 : Rep w ad' S1 Z) (had : ad' 57 = ad 57) (hF : ∀ Z9, Rep w ad' (outS S1 (zl c)) Z9 → Z9.2.2 = Z.2.2 → Q (.inl (some (.int 0))) Z9) : G w y_La_join c_La_join 5 r_La_join (7, 170) Q 8 [(0, .ref u0), (1, .int u1), (2, .int u2), (3, .ref u3)] [.int (zb c), .int 0, .ref (ad 57)] Z := by
  rw [← had]
  have h57 := hR1.out
  first | refine g_if_eqB (tgt := 15) d_La_join_8 (by decide) (fun h8 => ?_) (fun h8 => ?_) | refine g_if_eq (tgt := 15) d_La_join_8 (by decide) (fun h8 => ?_) (fun h8 => ?_)
  · rw [show zl c = 0 from if_neg h8] at hF
    refine g_lconst (v := 0) d_La_join_15 rfl ?_
    refine g_last d_La_join_16 (by assumption) (vp_in_nI (n := 0) (N := 1) (by decide) (by decide)) ?_
    generalize e1 : zput _ _ _ = Z1
    exact E0_La_join (hF Z1 (by rw [← e1]; exact hR1.putJ (i := 57) (Or.inr (Or.inl rfl)) (by rw [cell_K (by decide)]; exact congrArg (xl w 1) (va_up_self S1.2.1 57 _))) (by rw [← e1]; rfl))
  · rw [show zl c = 1 from if_pos h8] at hF
    refine g_lconst (v := 1) d_La_join_11 rfl ?_
    refine g_goto (tgt := 16) d_La_join_12 (by decide) ?_
    refine g_last d_La_join_16 (by assumption) (vp_in_nI (n := 0) (N := 1) (by decide) (by decide)) ?_
    generalize e1 : zput _ _ _ = Z1
    exact E0_La_join (hF Z1 (by rw [← e1]; exact hR1.putJ (i := 57) (Or.inr (Or.inl rfl)) (by rw [cell_K (by decide)]; exact congrArg (xl w 1) (va_up_self S1.2.1 57 _))) (by rw [← e1]; rfl))

set_option maxHeartbeats 4000000 in
set_option maxRecDepth 100000 in
theorem E1_La_join {w : zC} {Z : zZ} {Q : zR → zZ → Prop} {x9 : Nat} {u0 : Nat} {u1 : Int32} {u2 : Int32} {u3 : Nat} (hQ : Q (.inl (some (.int 1))) Z) : G w y_La_join c_La_join 5 r_La_join (7, 170) Q 20 [(0, .ref u0), (1, .int u1), (2, .int u2), (3, .ref u3)] [.ref x9] Z := by
  refine g_astoreq d_La_join_20 (by decide) rfl ?_
  show G _ _ _ _ _ _ _ _ [(4, _), (0, _), (1, _), (2, _), (3, _)] _ _
  refine g_iconst (v := 1) d_La_join_22 rfl ?_
  refine g_iret d_La_join_23 ?_
  exact hQ

theorem kw_La_join : zCallW y_La_join c_La_join 5 r_La_join [(0, 17, 20, 13)] 4 := ⟨wz_at 723 (by decide +kernel) rfl, wz_at 0 (by decide +kernel) rfl, by decide +kernel, by decide +kernel, by decide +kernel⟩

set_option maxHeartbeats 4000000 in
set_option maxRecDepth 100000 in
theorem C_La_join {w : zC} {Z : zZ} {Q : zR → zZ → Prop} {ad : Nat → Nat} {S : ST} (hR : Rep w ad S Z) {adK adV : Nat → Nat} (hK : zLit w adK adV) (hT : zThr w) {x y : Int32} (hP : ciPin S) (hb : 1 ≤ Z.2.2.1 ∧ 6 ≤ Z.2.2.2) (hI : ¬ (inr x (sN S 2) ∧ (y = -1 ∨ inr y (sN S 1))) → Q (.inl (some (.int 1))) (zpay Z 1 6)) (hN : ∀ k d, k < sN S 2 → d < 10 → x = nI k → sI S (300 + k) 3 = nI d → (y = -1 ∨ inr y (sN S 1)) → if sR S (300 + k) 4 = netO S y then ∀ Z', Rep w ad (outS S 0) Z' → Z'.2.2 = Z.2.2 → Q (.inl (some (.int 0))) Z' else ∀ Z', Rep w ad (outS (joinS S k d (netO S y)) 1) Z' → Z'.2.2 = Z.2.2 → Q (.inl (some (.int 0))) Z') : Cz w (7, 170) y_La_join (Cond.codeWith y_La_join c_La_join 5 r_La_join [(0, 17, 20, 13)] :: wz) [.ref (ad 0), .int x, .int y, .ref (ad 57)] Z Q := by
  refine Cz.ofW (by decide +kernel) (by simp [lg_sl, Value.category]) ?_
  show G _ _ _ _ _ _ _ _ [(0, _), (1, _), (2, _), (3, _)] _ _
  have h0 : zhs Z (ad 0) (.inr (0, [.ref (ad 1), .ref (ad 3), .ref (ad 8), .ref (ad 9), .ref (ad 4), .ref (ad 5), .ref (ad 10), .ref (ad (5 + sN S 8)), .ref (ad (8 - sN S 8)), .int (nI (sN S 3)), .int (sI S 0 11)])) := hR.k 0 (by decide)
  refine g_aload_nq d_La_join_0 rfl 3 rfl ?_
  refine g_iconst (v := 0) d_La_join_1 rfl ?_
  refine g_aload_nq d_La_join_2 rfl 0 rfl ?_
  refine g_iload_n d_La_join_3 rfl 1 rfl ?_
  refine g_iload_n d_La_join_4 rfl 2 rfl ?_
  by_cases c1 : inr x (sN S 2) ∧ (y = -1 ∨ inr y (sN S 1))
  · refine g_callV d_La_join_5 k_K_join l_La_29 i_K_join rfl q_K_K_join_K h0 (by rfl) (by rfl) (Nat.le_of_ble_eq_true rfl) (by decide) (C_K_join hR hK hT (x := x) (y := y) hP hb (fun h9 => absurd c1 h9) ?_)
    intro k d hk hd9 e1 e2 e3
    have hN := hN k d hk hd9 e1 e2 e3
    split
    · rename_i h9
      rw [if_pos h9] at hN
      exact ⟨_, rfl, T_La_join (c := False) hR rfl (fun Z9 r9 b9 => hN Z9 r9 b9)⟩
    · rename_i h9
      rw [if_neg h9] at hN
      exact fun Z1 r1 b1 => ⟨_, rfl, T_La_join (c := True) r1 rfl (fun Z9 r9 b9 => hN Z9 r9 (b9.trans b1))⟩
  · exact g_callVX (E := "java/lang/IndexOutOfBoundsException") (hpc := 20) (a0 := 0) (b0 := 17) (ct := 13) (pre := []) (post := []) (by decide +kernel) (fun q hq => by cases hq) (by decide +kernel) (by decide) t_La_13 d_La_join_5 k_K_join l_La_29 i_K_join rfl q_K_K_join_K h0 (by rfl) (by rfl) (Nat.le_of_ble_eq_true rfl) (by decide) (C_K_join hR hK hT (x := x) (y := y) hP hb (fun _ => ⟨rfl, fun x9 => E1_La_join (hI c1)⟩) (fun k d hk hd9 e1 e2 e3 => absurd ⟨e1 ▸ inr_nI hk (by have := hR.1.2.2.1; omega), e3⟩ c1))

set_option maxHeartbeats 4000000 in
set_option maxRecDepth 100000 in
theorem E0_La_field {w : zC} {Z : zZ} {Q : zR → zZ → Prop} {u0 : Nat} {u1 : Int32} {u2 : Int32} {u3 : Int64} {u4 : Nat} (hQ : Q (.inl (some (.int 0))) Z) : G w y_La_field c_La_field 7 r_La_field (7, 170) Q 19 [(0, .ref u0), (1, .int u1), (2, .int u2), (3, .long u3), (5, .ref u4)] [] Z := by
  refine g_goto (tgt := 26) d_La_field_19 (by decide) ?_
  refine g_iconst (v := 0) d_La_field_26 rfl ?_
  refine g_iret d_La_field_27 ?_
  exact hQ

set_option maxHeartbeats 4000000 in
set_option maxRecDepth 100000 in
theorem T_La_field {w : zC} {Z : zZ} {Q : zR → zZ → Prop} {ad ad' : Nat → Nat} {S1 : ST} {c : Prop} [Decidable c] {u0 : Nat} {u1 : Int32} {u2 : Int32} {u3 : Int64} {u4 : Nat} (hR1 : Rep w ad' S1 Z) (had : ad' 57 = ad 57) (hF : ∀ Z9, Rep w ad' (outS S1 (zl c)) Z9 → Z9.2.2 = Z.2.2 → Q (.inl (some (.int 0))) Z9) : G w y_La_field c_La_field 7 r_La_field (7, 170) Q 10 [(0, .ref u0), (1, .int u1), (2, .int u2), (3, .long u3), (5, .ref u4)] [.int (zb c), .int 0, .ref (ad 57)] Z := by
  rw [← had]
  have h57 := hR1.out
  first | refine g_if_eqB (tgt := 17) d_La_field_10 (by decide) (fun h10 => ?_) (fun h10 => ?_) | refine g_if_eq (tgt := 17) d_La_field_10 (by decide) (fun h10 => ?_) (fun h10 => ?_)
  · rw [show zl c = 0 from if_neg h10] at hF
    refine g_lconst (v := 0) d_La_field_17 rfl ?_
    refine g_last d_La_field_18 (by assumption) (vp_in_nI (n := 0) (N := 1) (by decide) (by decide)) ?_
    generalize e1 : zput _ _ _ = Z1
    exact E0_La_field (hF Z1 (by rw [← e1]; exact hR1.putJ (i := 57) (Or.inr (Or.inl rfl)) (by rw [cell_K (by decide)]; exact congrArg (xl w 1) (va_up_self S1.2.1 57 _))) (by rw [← e1]; rfl))
  · rw [show zl c = 1 from if_pos h10] at hF
    refine g_lconst (v := 1) d_La_field_13 rfl ?_
    refine g_goto (tgt := 18) d_La_field_14 (by decide) ?_
    refine g_last d_La_field_18 (by assumption) (vp_in_nI (n := 0) (N := 1) (by decide) (by decide)) ?_
    generalize e1 : zput _ _ _ = Z1
    exact E0_La_field (hF Z1 (by rw [← e1]; exact hR1.putJ (i := 57) (Or.inr (Or.inl rfl)) (by rw [cell_K (by decide)]; exact congrArg (xl w 1) (va_up_self S1.2.1 57 _))) (by rw [← e1]; rfl))

set_option maxHeartbeats 4000000 in
set_option maxRecDepth 100000 in
theorem E1_La_field {w : zC} {Z : zZ} {Q : zR → zZ → Prop} {x9 : Nat} {u0 : Nat} {u1 : Int32} {u2 : Int32} {u3 : Int64} {u4 : Nat} (hQ : Q (.inl (some (.int 1))) Z) : G w y_La_field c_La_field 7 r_La_field (7, 170) Q 22 [(0, .ref u0), (1, .int u1), (2, .int u2), (3, .long u3), (5, .ref u4)] [.ref x9] Z := by
  refine g_astoreq d_La_field_22 (by decide) rfl ?_
  show G _ _ _ _ _ _ _ _ [(6, _), (0, _), (1, _), (2, _), (3, _), (5, _)] _ _
  refine g_iconst (v := 1) d_La_field_24 rfl ?_
  refine g_iret d_La_field_25 ?_
  exact hQ

theorem kw_La_field : zCallW y_La_field c_La_field 7 r_La_field [(0, 19, 22, 13)] 5 := ⟨wz_at 733 (by decide +kernel) rfl, wz_at 0 (by decide +kernel) rfl, by decide +kernel, by decide +kernel, by decide +kernel⟩

set_option maxHeartbeats 4000000 in
set_option maxRecDepth 100000 in
theorem C_La_field {w : zC} {Z : zZ} {Q : zR → zZ → Prop} {ad : Nat → Nat} {S : ST} (hR : Rep w ad S Z) {adK adV : Nat → Nat} (hK : zLit w adK adV) (hT : zThr w) {x y : Int32} {v : Int64} (hb : 1 ≤ Z.2.2.1 ∧ 6 ≤ Z.2.2.2) (hI : ¬ (inr x (sN S 0) ∧ inr y 8) → Q (.inl (some (.int 1))) (zpay Z 1 6)) (hN : ∀ k j, k < sN S 0 → j < 8 → x = nI k → y = nI j → ∀ Z', Rep w ad (outS (wJ S (102 + 3 * k) (vp_updL (sJ S (102 + 3 * k)) j v)) (zl (¬ sJ S (102 + 3 * k) j = v))) Z' → Z'.2.2 = Z.2.2 → Q (.inl (some (.int 0))) Z') : Cz w (7, 170) y_La_field (Cond.codeWith y_La_field c_La_field 7 r_La_field [(0, 19, 22, 13)] :: wz) [.ref (ad 0), .int x, .int y, .long v, .ref (ad 57)] Z Q := by
  refine Cz.ofW (by decide +kernel) (by simp [lg_sl, Value.category]) ?_
  show G _ _ _ _ _ _ _ _ [(0, _), (1, _), (2, _), (3, _), (5, _)] _ _
  have h0 : zhs Z (ad 0) (.inr (0, [.ref (ad 1), .ref (ad 3), .ref (ad 8), .ref (ad 9), .ref (ad 4), .ref (ad 5), .ref (ad 10), .ref (ad (5 + sN S 8)), .ref (ad (8 - sN S 8)), .int (nI (sN S 3)), .int (sI S 0 11)])) := hR.k 0 (by decide)
  refine g_aloadq d_La_field_0 4 rfl ?_
  refine g_iconst (v := 0) d_La_field_2 rfl ?_
  refine g_aload_nq d_La_field_3 rfl 0 rfl ?_
  refine g_iload_n d_La_field_4 rfl 1 rfl ?_
  refine g_iload_n d_La_field_5 rfl 2 rfl ?_
  refine g_lload_n d_La_field_6 rfl 3 rfl ?_
  by_cases c1 : inr x (sN S 0) ∧ inr y 8
  · refine g_callV d_La_field_7 k_K_field l_La_33 i_K_field rfl q_K_K_field_K h0 (by rfl) (by rfl) (Nat.le_of_ble_eq_true rfl) (by decide) (C_K_field hR hK hT (x := x) (y := y) (v := v) hb (fun h9 => absurd c1 h9) (fun k j hk hj e1 e2 Z1 r1 b1 => ⟨_, rfl, T_La_field r1 rfl (fun Z9 r9 b9 => hN k j hk hj e1 e2 Z9 r9 (b9.trans b1))⟩))
  · exact g_callVX (E := "java/lang/IndexOutOfBoundsException") (hpc := 22) (a0 := 0) (b0 := 19) (ct := 13) (pre := []) (post := []) (by decide +kernel) (fun q hq => by cases hq) (by decide +kernel) (by decide) t_La_13 d_La_field_7 k_K_field l_La_33 i_K_field rfl q_K_K_field_K h0 (by rfl) (by rfl) (Nat.le_of_ble_eq_true rfl) (by decide) (C_K_field hR hK hT (x := x) (y := y) (v := v) hb (fun _ => ⟨rfl, fun x9 => E1_La_field (hI c1)⟩) (fun k j hk hj e1 e2 => absurd ⟨e1 ▸ inr_nI hk (by have := hR.1.1; omega), e2 ▸ inr_nI hj (by decide)⟩ c1))

set_option maxHeartbeats 4000000 in
set_option maxRecDepth 100000 in
theorem E0_La_end {w : zC} {Z : zZ} {Q : zR → zZ → Prop} {u0 : Nat} {u1 : Int32} {u2 : Int64} {u3 : Int64} {u4 : Nat} (hQ : Q (.inl (some (.int 0))) Z) : G w y_La_end c_La_end 8 r_La_end (7, 170) Q 20 [(0, .ref u0), (1, .int u1), (2, .long u2), (4, .long u3), (6, .ref u4)] [] Z := by
  refine g_goto (tgt := 27) d_La_end_20 (by decide) ?_
  refine g_iconst (v := 0) d_La_end_27 rfl ?_
  refine g_iret d_La_end_28 ?_
  exact hQ

set_option maxHeartbeats 4000000 in
set_option maxRecDepth 100000 in
theorem T_La_end {w : zC} {Z : zZ} {Q : zR → zZ → Prop} {ad ad' : Nat → Nat} {S1 : ST} {c : Prop} [Decidable c] {u0 : Nat} {u1 : Int32} {u2 : Int64} {u3 : Int64} {u4 : Nat} (hR1 : Rep w ad' S1 Z) (had : ad' 57 = ad 57) (hF : ∀ Z9, Rep w ad' (outS S1 (zl c)) Z9 → Z9.2.2 = Z.2.2 → Q (.inl (some (.int 0))) Z9) : G w y_La_end c_La_end 8 r_La_end (7, 170) Q 11 [(0, .ref u0), (1, .int u1), (2, .long u2), (4, .long u3), (6, .ref u4)] [.int (zb c), .int 0, .ref (ad 57)] Z := by
  rw [← had]
  have h57 := hR1.out
  first | refine g_if_eqB (tgt := 18) d_La_end_11 (by decide) (fun h11 => ?_) (fun h11 => ?_) | refine g_if_eq (tgt := 18) d_La_end_11 (by decide) (fun h11 => ?_) (fun h11 => ?_)
  · rw [show zl c = 0 from if_neg h11] at hF
    refine g_lconst (v := 0) d_La_end_18 rfl ?_
    refine g_last d_La_end_19 (by assumption) (vp_in_nI (n := 0) (N := 1) (by decide) (by decide)) ?_
    generalize e1 : zput _ _ _ = Z1
    exact E0_La_end (hF Z1 (by rw [← e1]; exact hR1.putJ (i := 57) (Or.inr (Or.inl rfl)) (by rw [cell_K (by decide)]; exact congrArg (xl w 1) (va_up_self S1.2.1 57 _))) (by rw [← e1]; rfl))
  · rw [show zl c = 1 from if_pos h11] at hF
    refine g_lconst (v := 1) d_La_end_14 rfl ?_
    refine g_goto (tgt := 19) d_La_end_15 (by decide) ?_
    refine g_last d_La_end_19 (by assumption) (vp_in_nI (n := 0) (N := 1) (by decide) (by decide)) ?_
    generalize e1 : zput _ _ _ = Z1
    exact E0_La_end (hF Z1 (by rw [← e1]; exact hR1.putJ (i := 57) (Or.inr (Or.inl rfl)) (by rw [cell_K (by decide)]; exact congrArg (xl w 1) (va_up_self S1.2.1 57 _))) (by rw [← e1]; rfl))

set_option maxHeartbeats 4000000 in
set_option maxRecDepth 100000 in
theorem E1_La_end {w : zC} {Z : zZ} {Q : zR → zZ → Prop} {x9 : Nat} {u0 : Nat} {u1 : Int32} {u2 : Int64} {u3 : Int64} {u4 : Nat} (hQ : Q (.inl (some (.int 1))) Z) : G w y_La_end c_La_end 8 r_La_end (7, 170) Q 23 [(0, .ref u0), (1, .int u1), (2, .long u2), (4, .long u3), (6, .ref u4)] [.ref x9] Z := by
  refine g_astoreq d_La_end_23 (by decide) rfl ?_
  show G _ _ _ _ _ _ _ _ [(7, _), (0, _), (1, _), (2, _), (4, _), (6, _)] _ _
  refine g_iconst (v := 1) d_La_end_25 rfl ?_
  refine g_iret d_La_end_26 ?_
  exact hQ

theorem kw_La_end : zCallW y_La_end c_La_end 8 r_La_end [(0, 20, 23, 13)] 5 := ⟨wz_at 745 (by decide +kernel) rfl, wz_at 0 (by decide +kernel) rfl, by decide +kernel, by decide +kernel, by decide +kernel⟩

set_option maxHeartbeats 4000000 in
set_option maxRecDepth 100000 in
theorem C_La_end {w : zC} {Z : zZ} {Q : zR → zZ → Prop} {ad : Nat → Nat} {S : ST} (hR : Rep w ad S Z) {adK adV : Nat → Nat} (hK : zLit w adK adV) (hT : zThr w) {x : Int32} {y z : Int64} (hL : ciLive S) (h100 : sN S 7 ≤ 100) (hb : 1 ≤ Z.2.2.1 ∧ 6 ≤ Z.2.2.2) (hI : ¬ (inr x (sN S 1)) → Q (.inl (some (.int 1))) (zpay Z 1 6)) (hN : ∀ k, k < sN S 1 → x = nI k → if sN S 7 < 100 then (∀ Z', Rep w ad (outS (wN (wI S (220 + 2 * k) (va_up (sI S (220 + 2 * k)) 5 (endF S k y z))) 7 (sN S 7 + 1)) 1) Z' → Z'.2.2 = Z.2.2 → Q (.inl (some (.int 0))) Z') else ∀ Z', Rep w ad (outS S 0) Z' → Z'.2.2 = Z.2.2 → Q (.inl (some (.int 0))) Z') : Cz w (7, 170) y_La_end (Cond.codeWith y_La_end c_La_end 8 r_La_end [(0, 20, 23, 13)] :: wz) [.ref (ad 0), .int x, .long y, .long z, .ref (ad 57)] Z Q := by
  refine Cz.ofW (by decide +kernel) (by simp [lg_sl, Value.category]) ?_
  show G _ _ _ _ _ _ _ _ [(0, _), (1, _), (2, _), (4, _), (6, _)] _ _
  have h0 : zhs Z (ad 0) (.inr (0, [.ref (ad 1), .ref (ad 3), .ref (ad 8), .ref (ad 9), .ref (ad 4), .ref (ad 5), .ref (ad 10), .ref (ad (5 + sN S 8)), .ref (ad (8 - sN S 8)), .int (nI (sN S 3)), .int (sI S 0 11)])) := hR.k 0 (by decide)
  refine g_aloadq d_La_end_0 4 rfl ?_
  refine g_iconst (v := 0) d_La_end_2 rfl ?_
  refine g_aload_nq d_La_end_3 rfl 0 rfl ?_
  refine g_iload_n d_La_end_4 rfl 1 rfl ?_
  refine g_lload_n d_La_end_5 rfl 2 rfl ?_
  refine g_lload d_La_end_6 3 rfl ?_
  by_cases c1 : inr x (sN S 1)
  · refine g_callV d_La_end_8 k_K_end l_La_37 i_K_end rfl q_K_K_end_K h0 (by rfl) (by rfl) (Nat.le_of_ble_eq_true rfl) (by decide) (C_K_end hR hK hT (x := x) (y := y) (z := z) hL h100 hb (fun h9 => absurd c1 h9) ?_)
    intro k hk e1
    have hN := hN k hk e1
    split
    · rename_i h9
      rw [if_pos h9] at hN
      exact fun Z1 r1 b1 => ⟨_, rfl, T_La_end (c := True) r1 rfl (fun Z9 r9 b9 => hN Z9 r9 (b9.trans b1))⟩
    · rename_i h9
      rw [if_neg h9] at hN
      exact ⟨_, rfl, T_La_end (c := False) hR rfl (fun Z9 r9 b9 => hN Z9 r9 b9)⟩
  · exact g_callVX (E := "java/lang/IndexOutOfBoundsException") (hpc := 23) (a0 := 0) (b0 := 20) (ct := 13) (pre := []) (post := []) (by decide +kernel) (fun q hq => by cases hq) (by decide +kernel) (by decide) t_La_13 d_La_end_8 k_K_end l_La_37 i_K_end rfl q_K_K_end_K h0 (by rfl) (by rfl) (Nat.le_of_ble_eq_true rfl) (by decide) (C_K_end hR hK hT (x := x) (y := y) (z := z) hL h100 hb (fun _ => ⟨rfl, fun x9 => E1_La_end (hI c1)⟩) (fun k hk e1 => absurd (e1 ▸ inr_nI hk (by have := hR.1.2.1; omega)) c1))

set_option maxHeartbeats 4000000 in
set_option maxRecDepth 100000 in
theorem E0_La_off {w : zC} {Z : zZ} {Q : zR → zZ → Prop} {u0 : Nat} {u1 : Int32} {u2 : Int32} {u3 : Nat} (hQ : Q (.inl (some (.int 0))) Z) : G w y_La_off c_La_off 5 r_La_off (7, 170) Q 17 [(0, .ref u0), (1, .int u1), (2, .int u2), (3, .ref u3)] [] Z := by
  refine g_goto (tgt := 24) d_La_off_17 (by decide) ?_
  refine g_iconst (v := 0) d_La_off_24 rfl ?_
  refine g_iret d_La_off_25 ?_
  exact hQ

set_option maxHeartbeats 4000000 in
set_option maxRecDepth 100000 in
theorem T_La_off {w : zC} {Z : zZ} {Q : zR → zZ → Prop} {ad ad' : Nat → Nat} {S1 : ST} {c : Prop} [Decidable c] {u0 : Nat} {u1 : Int32} {u2 : Int32} {u3 : Nat} (hR1 : Rep w ad' S1 Z) (had : ad' 57 = ad 57) (hF : ∀ Z9, Rep w ad' (outS S1 (zl c)) Z9 → Z9.2.2 = Z.2.2 → Q (.inl (some (.int 0))) Z9) : G w y_La_off c_La_off 5 r_La_off (7, 170) Q 8 [(0, .ref u0), (1, .int u1), (2, .int u2), (3, .ref u3)] [.int (zb c), .int 0, .ref (ad 57)] Z := by
  rw [← had]
  have h57 := hR1.out
  first | refine g_if_eqB (tgt := 15) d_La_off_8 (by decide) (fun h8 => ?_) (fun h8 => ?_) | refine g_if_eq (tgt := 15) d_La_off_8 (by decide) (fun h8 => ?_) (fun h8 => ?_)
  · rw [show zl c = 0 from if_neg h8] at hF
    refine g_lconst (v := 0) d_La_off_15 rfl ?_
    refine g_last d_La_off_16 (by assumption) (vp_in_nI (n := 0) (N := 1) (by decide) (by decide)) ?_
    generalize e1 : zput _ _ _ = Z1
    exact E0_La_off (hF Z1 (by rw [← e1]; exact hR1.putJ (i := 57) (Or.inr (Or.inl rfl)) (by rw [cell_K (by decide)]; exact congrArg (xl w 1) (va_up_self S1.2.1 57 _))) (by rw [← e1]; rfl))
  · rw [show zl c = 1 from if_pos h8] at hF
    refine g_lconst (v := 1) d_La_off_11 rfl ?_
    refine g_goto (tgt := 16) d_La_off_12 (by decide) ?_
    refine g_last d_La_off_16 (by assumption) (vp_in_nI (n := 0) (N := 1) (by decide) (by decide)) ?_
    generalize e1 : zput _ _ _ = Z1
    exact E0_La_off (hF Z1 (by rw [← e1]; exact hR1.putJ (i := 57) (Or.inr (Or.inl rfl)) (by rw [cell_K (by decide)]; exact congrArg (xl w 1) (va_up_self S1.2.1 57 _))) (by rw [← e1]; rfl))

set_option maxHeartbeats 4000000 in
set_option maxRecDepth 100000 in
theorem E1_La_off {w : zC} {Z : zZ} {Q : zR → zZ → Prop} {x9 : Nat} {u0 : Nat} {u1 : Int32} {u2 : Int32} {u3 : Nat} (hQ : Q (.inl (some (.int 1))) Z) : G w y_La_off c_La_off 5 r_La_off (7, 170) Q 20 [(0, .ref u0), (1, .int u1), (2, .int u2), (3, .ref u3)] [.ref x9] Z := by
  refine g_astoreq d_La_off_20 (by decide) rfl ?_
  show G _ _ _ _ _ _ _ _ [(4, _), (0, _), (1, _), (2, _), (3, _)] _ _
  refine g_iconst (v := 1) d_La_off_22 rfl ?_
  refine g_iret d_La_off_23 ?_
  exact hQ

theorem kw_La_off : zCallW y_La_off c_La_off 5 r_La_off [(0, 17, 20, 13)] 4 := ⟨wz_at 1004 (by decide +kernel) rfl, wz_at 0 (by decide +kernel) rfl, by decide +kernel, by decide +kernel, by decide +kernel⟩

set_option maxHeartbeats 4000000 in
set_option maxRecDepth 100000 in
theorem C_La_off {w : zC} {Z : zZ} {Q : zR → zZ → Prop} {ad : Nat → Nat} {S : ST} (hR : Rep w ad S Z) {adK adV : Nat → Nat} (hK : zLit w adK adV) (hT : zThr w) {x : Int32} {c0 : Prop} [Decidable c0] (hb : 1 ≤ Z.2.2.1 ∧ 6 ≤ Z.2.2.2) (hI : ¬ (inr x (7 + sN S 3)) → Q (.inl (some (.int 1))) (zpay Z 1 6)) (hN : ∀ k, k < 7 + sN S 3 → x = nI k → ∀ Z', Rep w ad (outS (wI S 9 (upd (sI S 9) k (zb c0))) (zl (¬ sI S 9 k = zb c0))) Z' → Z'.2.2 = Z.2.2 → Q (.inl (some (.int 0))) Z') : Cz w (7, 170) y_La_off (Cond.codeWith y_La_off c_La_off 5 r_La_off [(0, 17, 20, 13)] :: wz) [.ref (ad 0), .int x, .int (zb c0), .ref (ad 57)] Z Q := by
  refine Cz.ofW (by decide +kernel) (by simp [lg_sl, Value.category]) ?_
  show G _ _ _ _ _ _ _ _ [(0, _), (1, _), (2, _), (3, _)] _ _
  have h0 : zhs Z (ad 0) (.inr (0, [.ref (ad 1), .ref (ad 3), .ref (ad 8), .ref (ad 9), .ref (ad 4), .ref (ad 5), .ref (ad 10), .ref (ad (5 + sN S 8)), .ref (ad (8 - sN S 8)), .int (nI (sN S 3)), .int (sI S 0 11)])) := hR.k 0 (by decide)
  refine g_aload_nq d_La_off_0 rfl 3 rfl ?_
  refine g_iconst (v := 0) d_La_off_1 rfl ?_
  refine g_aload_nq d_La_off_2 rfl 0 rfl ?_
  refine g_iload_n d_La_off_3 rfl 1 rfl ?_
  refine g_iload_n d_La_off_4 rfl 2 rfl ?_
  by_cases c1 : inr x (7 + sN S 3)
  · refine g_callV d_La_off_5 k_K_off l_La_47 i_K_off rfl q_K_K_off_K h0 (by rfl) (by rfl) (Nat.le_of_ble_eq_true rfl) (by decide) (C_K_off hR hK hT (x := x) (c := c0) hb (fun h9 => absurd c1 h9) (fun k hk e1 Z1 r1 b1 => ⟨_, rfl, T_La_off r1 rfl (fun Z9 r9 b9 => hN k hk e1 Z9 r9 (b9.trans b1))⟩))
  · exact g_callVX (E := "java/lang/IndexOutOfBoundsException") (hpc := 20) (a0 := 0) (b0 := 17) (ct := 13) (pre := []) (post := []) (by decide +kernel) (fun q hq => by cases hq) (by decide +kernel) (by decide) t_La_13 d_La_off_5 k_K_off l_La_47 i_K_off rfl q_K_K_off_K h0 (by rfl) (by rfl) (Nat.le_of_ble_eq_true rfl) (by decide) (C_K_off hR hK hT (x := x) (c := c0) hb (fun _ => ⟨rfl, fun x9 => E1_La_off (hI c1)⟩) (fun k hk e1 => absurd (e1 ▸ inr_nI hk (by have := hR.1.2.2.2.1; omega)) c1))

set_option maxHeartbeats 4000000 in
set_option maxRecDepth 100000 in
theorem E0_La_remark {w : zC} {Z : zZ} {Q : zR → zZ → Prop} {u0 : Nat} {u1 : Int32} {u2 : Int32} {u3 : Nat} (hQ : Q (.inl (some (.int 0))) Z) : G w y_La_remark c_La_remark 5 r_La_remark (7, 170) Q 10 [(0, .ref u0), (1, .int u1), (2, .int u2), (3, .ref u3)] [] Z := by
  refine g_goto (tgt := 17) d_La_remark_10 (by decide) ?_
  refine g_iconst (v := 0) d_La_remark_17 rfl ?_
  refine g_iret d_La_remark_18 ?_
  exact hQ

set_option maxHeartbeats 4000000 in
set_option maxRecDepth 100000 in
theorem T_La_remark {w : zC} {Z : zZ} {Q : zR → zZ → Prop} {ad ad' : Nat → Nat} {S1 : ST} {x9 : Int32} {u0 : Nat} {u1 : Int32} {u2 : Int32} {u3 : Nat} (hR1 : Rep w ad' S1 Z) (had : ad' 57 = ad 57) (hF : ∀ Z9, Rep w ad' (outS S1 x9.toInt64) Z9 → Z9.2.2 = Z.2.2 → Q (.inl (some (.int 0))) Z9) : G w y_La_remark c_La_remark 5 r_La_remark (7, 170) Q 8 [(0, .ref u0), (1, .int u1), (2, .int u2), (3, .ref u3)] [.int x9, .int 0, .ref (ad 57)] Z := by
  rw [← had]
  have h57 := hR1.out
  refine g_i2l d_La_remark_8 rfl ?_
  refine g_last d_La_remark_9 (by assumption) (vp_in_nI (n := 0) (N := 1) (by decide) (by decide)) ?_
  generalize e1 : zput _ _ _ = Z1
  exact E0_La_remark (hF Z1 (by rw [← e1]; exact hR1.putJ (i := 57) (Or.inr (Or.inl rfl)) (by rw [cell_K (by decide)]; exact congrArg (xl w 1) (va_up_self S1.2.1 57 _))) (by rw [← e1]; rfl))

set_option maxHeartbeats 4000000 in
set_option maxRecDepth 100000 in
theorem E1_La_remark {w : zC} {Z : zZ} {Q : zR → zZ → Prop} {x9 : Nat} {u0 : Nat} {u1 : Int32} {u2 : Int32} {u3 : Nat} (hQ : Q (.inl (some (.int 1))) Z) : G w y_La_remark c_La_remark 5 r_La_remark (7, 170) Q 13 [(0, .ref u0), (1, .int u1), (2, .int u2), (3, .ref u3)] [.ref x9] Z := by
  refine g_astoreq d_La_remark_13 (by decide) rfl ?_
  show G _ _ _ _ _ _ _ _ [(4, _), (0, _), (1, _), (2, _), (3, _)] _ _
  refine g_iconst (v := 1) d_La_remark_15 rfl ?_
  refine g_iret d_La_remark_16 ?_
  exact hQ

theorem kw_La_remark : zCallW y_La_remark c_La_remark 5 r_La_remark [(0, 10, 13, 13)] 4 := ⟨wz_at 1016 (by decide +kernel) rfl, wz_at 0 (by decide +kernel) rfl, by decide +kernel, by decide +kernel, by decide +kernel⟩

set_option maxHeartbeats 4000000 in
set_option maxRecDepth 100000 in
theorem C_La_remark {w : zC} {Z : zZ} {Q : zR → zZ → Prop} {ad : Nat → Nat} {S : ST} (hR : Rep w ad S Z) {adK adV : Nat → Nat} (hK : zLit w adK adV) (hT : zThr w) {x t : Int32} (hc : capOK S (sN S 8)) (h50 : sN S 16 ≤ 50) (hb : 1 ≤ Z.2.2.1 ∧ 6 ≤ Z.2.2.2) (hI : ¬ (inr x (sN S (17 + sN S 8)) ∧ inr t 6) → Q (.inl (some (.int 1))) (zpay Z 1 6)) (hN : ∀ k, k < sN S (17 + sN S 8) → x = nI k → inr t 6 → ∀ Z', Rep w ad (outS S (rmkV S k t).toInt64) Z' → Z'.2.2 = Z.2.2 → Q (.inl (some (.int 0))) Z') : Cz w (7, 170) y_La_remark (Cond.codeWith y_La_remark c_La_remark 5 r_La_remark [(0, 10, 13, 13)] :: wz) [.ref (ad 0), .int x, .int t, .ref (ad 57)] Z Q := by
  refine Cz.ofW (by decide +kernel) (by simp [lg_sl, Value.category]) ?_
  show G _ _ _ _ _ _ _ _ [(0, _), (1, _), (2, _), (3, _)] _ _
  have h0 : zhs Z (ad 0) (.inr (0, [.ref (ad 1), .ref (ad 3), .ref (ad 8), .ref (ad 9), .ref (ad 4), .ref (ad 5), .ref (ad 10), .ref (ad (5 + sN S 8)), .ref (ad (8 - sN S 8)), .int (nI (sN S 3)), .int (sI S 0 11)])) := hR.k 0 (by decide)
  refine g_aload_nq d_La_remark_0 rfl 3 rfl ?_
  refine g_iconst (v := 0) d_La_remark_1 rfl ?_
  refine g_aload_nq d_La_remark_2 rfl 0 rfl ?_
  refine g_iload_n d_La_remark_3 rfl 1 rfl ?_
  refine g_iload_n d_La_remark_4 rfl 2 rfl ?_
  by_cases c1 : inr x (sN S (17 + sN S 8)) ∧ inr t 6
  · refine g_callV d_La_remark_5 k_K_remark l_La_51 i_K_remark rfl q_K_K_remark_K h0 (by rfl) (by rfl) (Nat.le_of_ble_eq_true rfl) (by decide) (C_K_remark hR hK hT (x := x) (t := t) hc h50 hb (fun h9 => absurd c1 h9) (fun k hk e1 e2 => ⟨_, rfl, T_La_remark hR rfl (fun Z9 r9 b9 => hN k hk e1 e2 Z9 r9 b9)⟩))
  · exact g_callVX (E := "java/lang/IndexOutOfBoundsException") (hpc := 13) (a0 := 0) (b0 := 10) (ct := 13) (pre := []) (post := []) (by decide +kernel) (fun q hq => by cases hq) (by decide +kernel) (by decide) t_La_13 d_La_remark_5 k_K_remark l_La_51 i_K_remark rfl q_K_K_remark_K h0 (by rfl) (by rfl) (Nat.le_of_ble_eq_true rfl) (by decide) (C_K_remark hR hK hT (x := x) (t := t) hc h50 hb (fun _ => ⟨rfl, fun x9 => E1_La_remark (hI c1)⟩) (fun k hk e1 e2 => absurd ⟨e1 ▸ inr_nI hk (by have := hc.1; have := hc.2.2; omega), e2⟩ c1))

set_option maxHeartbeats 4000000 in
set_option maxRecDepth 100000 in
theorem E0_La_closed {w : zC} {Z : zZ} {Q : zR → zZ → Prop} {u0 : Nat} {u1 : Int32} {u2 : Int32} {u3 : Nat} (hQ : Q (.inl (some (.int 0))) Z) : G w y_La_closed c_La_closed 5 r_La_closed (7, 170) Q 10 [(0, .ref u0), (1, .int u1), (2, .int u2), (3, .ref u3)] [] Z := by
  refine g_goto (tgt := 17) d_La_closed_10 (by decide) ?_
  refine g_iconst (v := 0) d_La_closed_17 rfl ?_
  refine g_iret d_La_closed_18 ?_
  exact hQ

set_option maxHeartbeats 4000000 in
set_option maxRecDepth 100000 in
theorem T_La_closed {w : zC} {Z : zZ} {Q : zR → zZ → Prop} {ad ad' : Nat → Nat} {S1 : ST} {x9 : Int32} {u0 : Nat} {u1 : Int32} {u2 : Int32} {u3 : Nat} (hR1 : Rep w ad' S1 Z) (had : ad' 57 = ad 57) (hF : ∀ Z9, Rep w ad' (outS S1 x9.toInt64) Z9 → Z9.2.2 = Z.2.2 → Q (.inl (some (.int 0))) Z9) : G w y_La_closed c_La_closed 5 r_La_closed (7, 170) Q 8 [(0, .ref u0), (1, .int u1), (2, .int u2), (3, .ref u3)] [.int x9, .int 0, .ref (ad 57)] Z := by
  rw [← had]
  have h57 := hR1.out
  refine g_i2l d_La_closed_8 rfl ?_
  refine g_last d_La_closed_9 (by assumption) (vp_in_nI (n := 0) (N := 1) (by decide) (by decide)) ?_
  generalize e1 : zput _ _ _ = Z1
  exact E0_La_closed (hF Z1 (by rw [← e1]; exact hR1.putJ (i := 57) (Or.inr (Or.inl rfl)) (by rw [cell_K (by decide)]; exact congrArg (xl w 1) (va_up_self S1.2.1 57 _))) (by rw [← e1]; rfl))

set_option maxHeartbeats 4000000 in
set_option maxRecDepth 100000 in
theorem E1_La_closed {w : zC} {Z : zZ} {Q : zR → zZ → Prop} {x9 : Nat} {u0 : Nat} {u1 : Int32} {u2 : Int32} {u3 : Nat} (hQ : Q (.inl (some (.int 1))) Z) : G w y_La_closed c_La_closed 5 r_La_closed (7, 170) Q 13 [(0, .ref u0), (1, .int u1), (2, .int u2), (3, .ref u3)] [.ref x9] Z := by
  refine g_astoreq d_La_closed_13 (by decide) rfl ?_
  show G _ _ _ _ _ _ _ _ [(4, _), (0, _), (1, _), (2, _), (3, _)] _ _
  refine g_iconst (v := 1) d_La_closed_15 rfl ?_
  refine g_iret d_La_closed_16 ?_
  exact hQ

theorem kw_La_closed : zCallW y_La_closed c_La_closed 5 r_La_closed [(0, 10, 13, 13)] 4 := ⟨wz_at 1027 (by decide +kernel) rfl, wz_at 0 (by decide +kernel) rfl, by decide +kernel, by decide +kernel, by decide +kernel⟩

set_option maxHeartbeats 4000000 in
set_option maxRecDepth 100000 in
theorem C_La_closed {w : zC} {Z : zZ} {Q : zR → zZ → Prop} {ad : Nat → Nat} {S : ST} (hR : Rep w ad S Z) {adK adV : Nat → Nat} (hK : zLit w adK adV) (hT : zThr w) {x t : Int32} (hc : capOK S 0) (hb : 1 ≤ Z.2.2.1 ∧ 6 ≤ Z.2.2.2) (hI : ¬ (inr x (sN S 17) ∧ inr t 4) → Q (.inl (some (.int 1))) (zpay Z 1 6)) (hN : ∀ k, k < sN S 17 → x = nI k → inr t 4 → ∀ Z', Rep w ad (outS S (cldV S k t).toInt64) Z' → Z'.2.2 = Z.2.2 → Q (.inl (some (.int 0))) Z') : Cz w (7, 170) y_La_closed (Cond.codeWith y_La_closed c_La_closed 5 r_La_closed [(0, 10, 13, 13)] :: wz) [.ref (ad 0), .int x, .int t, .ref (ad 57)] Z Q := by
  refine Cz.ofW (by decide +kernel) (by simp [lg_sl, Value.category]) ?_
  show G _ _ _ _ _ _ _ _ [(0, _), (1, _), (2, _), (3, _)] _ _
  have h0 : zhs Z (ad 0) (.inr (0, [.ref (ad 1), .ref (ad 3), .ref (ad 8), .ref (ad 9), .ref (ad 4), .ref (ad 5), .ref (ad 10), .ref (ad (5 + sN S 8)), .ref (ad (8 - sN S 8)), .int (nI (sN S 3)), .int (sI S 0 11)])) := hR.k 0 (by decide)
  refine g_aload_nq d_La_closed_0 rfl 3 rfl ?_
  refine g_iconst (v := 0) d_La_closed_1 rfl ?_
  refine g_aload_nq d_La_closed_2 rfl 0 rfl ?_
  refine g_iload_n d_La_closed_3 rfl 1 rfl ?_
  refine g_iload_n d_La_closed_4 rfl 2 rfl ?_
  by_cases c1 : inr x (sN S 17) ∧ inr t 4
  · refine g_callV d_La_closed_5 k_K_closed l_La_54 i_K_closed rfl q_K_K_closed_K h0 (by rfl) (by rfl) (Nat.le_of_ble_eq_true rfl) (by decide) (C_K_closed hR hK hT (x := x) (t := t) hc hb (fun h9 => absurd c1 h9) (fun k hk e1 e2 => ⟨_, rfl, T_La_closed hR rfl (fun Z9 r9 b9 => hN k hk e1 e2 Z9 r9 b9)⟩))
  · exact g_callVX (E := "java/lang/IndexOutOfBoundsException") (hpc := 13) (a0 := 0) (b0 := 10) (ct := 13) (pre := []) (post := []) (by decide +kernel) (fun q hq => by cases hq) (by decide +kernel) (by decide) t_La_13 d_La_closed_5 k_K_closed l_La_54 i_K_closed rfl q_K_K_closed_K h0 (by rfl) (by rfl) (Nat.le_of_ble_eq_true rfl) (by decide) (C_K_closed hR hK hT (x := x) (t := t) hc hb (fun _ => ⟨rfl, fun x9 => E1_La_closed (hI c1)⟩) (fun k hk e1 e2 => absurd ⟨e1 ▸ inr_nI hk (by have c1 : sN S 17 ≤ sN S 4 := hc.1; have : sN S 4 ≤ 3720 := hc.2.2; omega), e2⟩ c1))

set_option maxHeartbeats 4000000 in
set_option maxRecDepth 100000 in
theorem E0_La_waive {w : zC} {Z : zZ} {Q : zR → zZ → Prop} {u0 : Nat} {u1 : Int32} {u2 : Int32} {u3 : Int32} {u4 : Int32} {u5 : Nat} (hQ : Q (.inl (some (.int 0))) Z) : G w y_La_waive c_La_waive 7 r_La_waive (7, 170) Q 21 [(0, .ref u0), (1, .int u1), (2, .int u2), (3, .int u3), (4, .int u4), (5, .ref u5)] [] Z := by
  refine g_goto (tgt := 32) d_La_waive_21 (by decide) ?_
  refine g_iconst (v := 0) d_La_waive_32 rfl ?_
  refine g_iret d_La_waive_33 ?_
  exact hQ

set_option maxHeartbeats 4000000 in
set_option maxRecDepth 100000 in
theorem T_La_waive {w : zC} {Z : zZ} {Q : zR → zZ → Prop} {ad ad' : Nat → Nat} {S1 : ST} {c : Prop} [Decidable c] {u0 : Nat} {u1 : Int32} {u2 : Int32} {u3 : Int32} {u4 : Int32} {u5 : Nat} (hR1 : Rep w ad' S1 Z) (had : ad' 57 = ad 57) (hF : ∀ Z9, Rep w ad' (outS S1 (zl c)) Z9 → Z9.2.2 = Z.2.2 → Q (.inl (some (.int 0))) Z9) : G w y_La_waive c_La_waive 7 r_La_waive (7, 170) Q 12 [(0, .ref u0), (1, .int u1), (2, .int u2), (3, .int u3), (4, .int u4), (5, .ref u5)] [.int (zb c), .int 0, .ref (ad 57)] Z := by
  rw [← had]
  have h57 := hR1.out
  first | refine g_if_eqB (tgt := 19) d_La_waive_12 (by decide) (fun h12 => ?_) (fun h12 => ?_) | refine g_if_eq (tgt := 19) d_La_waive_12 (by decide) (fun h12 => ?_) (fun h12 => ?_)
  · rw [show zl c = 0 from if_neg h12] at hF
    refine g_lconst (v := 0) d_La_waive_19 rfl ?_
    refine g_last d_La_waive_20 (by assumption) (vp_in_nI (n := 0) (N := 1) (by decide) (by decide)) ?_
    generalize e1 : zput _ _ _ = Z1
    exact E0_La_waive (hF Z1 (by rw [← e1]; exact hR1.putJ (i := 57) (Or.inr (Or.inl rfl)) (by rw [cell_K (by decide)]; exact congrArg (xl w 1) (va_up_self S1.2.1 57 _))) (by rw [← e1]; rfl))
  · rw [show zl c = 1 from if_pos h12] at hF
    refine g_lconst (v := 1) d_La_waive_15 rfl ?_
    refine g_goto (tgt := 20) d_La_waive_16 (by decide) ?_
    refine g_last d_La_waive_20 (by assumption) (vp_in_nI (n := 0) (N := 1) (by decide) (by decide)) ?_
    generalize e1 : zput _ _ _ = Z1
    exact E0_La_waive (hF Z1 (by rw [← e1]; exact hR1.putJ (i := 57) (Or.inr (Or.inl rfl)) (by rw [cell_K (by decide)]; exact congrArg (xl w 1) (va_up_self S1.2.1 57 _))) (by rw [← e1]; rfl))

set_option maxHeartbeats 4000000 in
set_option maxRecDepth 100000 in
theorem E1_La_waive {w : zC} {Z : zZ} {Q : zR → zZ → Prop} {x9 : Nat} {u0 : Nat} {u1 : Int32} {u2 : Int32} {u3 : Int32} {u4 : Int32} {u5 : Nat} (hQ : Q (.inl (some (.int 1))) Z) : G w y_La_waive c_La_waive 7 r_La_waive (7, 170) Q 24 [(0, .ref u0), (1, .int u1), (2, .int u2), (3, .int u3), (4, .int u4), (5, .ref u5)] [.ref x9] Z := by
  refine g_astoreq d_La_waive_24 (by decide) rfl ?_
  show G _ _ _ _ _ _ _ _ [(6, _), (0, _), (1, _), (2, _), (3, _), (4, _), (5, _)] _ _
  refine g_iconst (v := 1) d_La_waive_26 rfl ?_
  refine g_iret d_La_waive_27 ?_
  exact hQ

set_option maxHeartbeats 4000000 in
set_option maxRecDepth 100000 in
theorem E2_La_waive {w : zC} {Z : zZ} {Q : zR → zZ → Prop} {x9 : Nat} {u0 : Nat} {u1 : Int32} {u2 : Int32} {u3 : Int32} {u4 : Int32} {u5 : Nat} (hQ : Q (.inl (some (.int 2))) Z) : G w y_La_waive c_La_waive 7 r_La_waive (7, 170) Q 28 [(0, .ref u0), (1, .int u1), (2, .int u2), (3, .int u3), (4, .int u4), (5, .ref u5)] [.ref x9] Z := by
  refine g_astoreq d_La_waive_28 (by decide) rfl ?_
  show G _ _ _ _ _ _ _ _ [(6, _), (0, _), (1, _), (2, _), (3, _), (4, _), (5, _)] _ _
  refine g_iconst (v := 2) d_La_waive_30 rfl ?_
  refine g_iret d_La_waive_31 ?_
  exact hQ

theorem kw_La_waive : zCallW y_La_waive c_La_waive 7 r_La_waive [(0, 21, 24, 13), (0, 21, 28, 15)] 6 := ⟨wz_at 1035 (by decide +kernel) rfl, wz_at 0 (by decide +kernel) rfl, by decide +kernel, by decide +kernel, by decide +kernel⟩

set_option maxHeartbeats 4000000 in
set_option maxRecDepth 100000 in
theorem C_La_waive {w : zC} {Z : zZ} {Q : zR → zZ → Prop} {ad : Nat → Nat} {S : ST} (hR : Rep w ad S Z) {adK adV : Nat → Nat} (hK : zLit w adK adV) (hT : zThr w) {r t x y : Int32} (hL : ciLive S) (h50 : sN S 16 ≤ 50) (hb : 1 ≤ Z.2.2.1 ∧ 6 ≤ Z.2.2.2) (hI : ¬ (inr r (7 + sN S 3) ∧ wOK S t x) → Q (.inl (some (.int 1))) (zpay Z 1 6)) (hA : (inr r (7 + sN S 3) ∧ wOK S t x) → ¬ (y = -1 ∨ inr y 1000) → Q (.inl (some (.int 2))) (zpay Z 1 6)) (hN : ∀ p c k, p < 7 + sN S 3 → tok S c k → r = nI p → t = nI c → x = nI k → (y = -1 ∨ inr y 1000) → ∀ Z', Rep w ad (outS ((wvS S (plc S c k * 27 + nI p) y).getD S) (zl ((wvS S (plc S c k * 27 + nI p) y).isSome = true))) Z' → Z'.2.2 = Z.2.2 → Q (.inl (some (.int 0))) Z') : Cz w (7, 170) y_La_waive (Cond.codeWith y_La_waive c_La_waive 7 r_La_waive [(0, 21, 24, 13), (0, 21, 28, 15)] :: wz) [.ref (ad 0), .int r, .int t, .int x, .int y, .ref (ad 57)] Z Q := by
  refine Cz.ofW (by decide +kernel) (by simp [lg_sl, Value.category]) ?_
  show G _ _ _ _ _ _ _ _ [(0, _), (1, _), (2, _), (3, _), (4, _), (5, _)] _ _
  have h0 : zhs Z (ad 0) (.inr (0, [.ref (ad 1), .ref (ad 3), .ref (ad 8), .ref (ad 9), .ref (ad 4), .ref (ad 5), .ref (ad 10), .ref (ad (5 + sN S 8)), .ref (ad (8 - sN S 8)), .int (nI (sN S 3)), .int (sI S 0 11)])) := hR.k 0 (by decide)
  refine g_aloadq d_La_waive_0 5 rfl ?_
  refine g_iconst (v := 0) d_La_waive_2 rfl ?_
  refine g_aload_nq d_La_waive_3 rfl 0 rfl ?_
  refine g_iload_n d_La_waive_4 rfl 1 rfl ?_
  refine g_iload_n d_La_waive_5 rfl 2 rfl ?_
  refine g_iload_n d_La_waive_6 rfl 3 rfl ?_
  refine g_iload d_La_waive_7 4 rfl ?_
  by_cases c1 : inr r (7 + sN S 3) ∧ wOK S t x
  · by_cases c2 : y = -1 ∨ inr y 1000
    · refine g_callV d_La_waive_9 k_K_waive l_La_57 i_K_waive rfl q_K_K_waive_K h0 (by rfl) (by rfl) (Nat.le_of_ble_eq_true rfl) (by decide) (C_K_waive hR hK hT (r := r) (t := t) (x := x) (y := y) hL h50 hb (fun h9 => absurd c1 h9) (fun _ _ h9 => absurd c2 h9) (fun p c k hp hk e1 e2 e3 e4 Z1 r1 b1 => ⟨_, rfl, T_La_waive r1 rfl (fun Z9 r9 b9 => hN p c k hp hk e1 e2 e3 e4 Z9 r9 (b9.trans b1))⟩))
    · exact g_callVX (E := "java/lang/IllegalArgumentException") (hpc := 28) (a0 := 0) (b0 := 21) (ct := 15) (pre := [(0, 21, 24, 13)]) (post := []) (by decide +kernel) (fun q hq => by rw [List.mem_singleton.mp hq]; exact ⟨by decide, _, t_La_13, by simp [wnc]⟩) (by decide +kernel) (by decide) t_La_15 d_La_waive_9 k_K_waive l_La_57 i_K_waive rfl q_K_K_waive_K h0 (by rfl) (by rfl) (Nat.le_of_ble_eq_true rfl) (by decide) (C_K_waive hR hK hT (r := r) (t := t) (x := x) (y := y) hL h50 hb (fun h9 => absurd c1 h9) (fun _ _ _ => ⟨rfl, fun x9 => E2_La_waive (hA c1 c2)⟩) (fun p c k hp hk e1 e2 e3 e4 => absurd e4 c2))
  · exact g_callVX (E := "java/lang/IndexOutOfBoundsException") (hpc := 24) (a0 := 0) (b0 := 21) (ct := 13) (pre := []) (post := [(0, 21, 28, 15)]) (by decide +kernel) (fun q hq => by cases hq) (by decide +kernel) (by decide) t_La_13 d_La_waive_9 k_K_waive l_La_57 i_K_waive rfl q_K_K_waive_K h0 (by rfl) (by rfl) (Nat.le_of_ble_eq_true rfl) (by decide) (C_K_waive hR hK hT (r := r) (t := t) (x := x) (y := y) hL h50 hb (fun _ => ⟨rfl, fun x9 => E1_La_waive (hI c1)⟩) (fun p q _ => absurd ⟨p, q⟩ c1) (fun p c k hp hk e1 e2 e3 e4 => absurd ⟨e1 ▸ inr_nI hp (by have := hR.1.2.2.2.1; omega), c, k, hk, e2, e3⟩ c1))

set_option maxHeartbeats 4000000 in
set_option maxRecDepth 100000 in
theorem E0_La_rule {w : zC} {Z : zZ} {Q : zR → zZ → Prop} {u0 : Nat} {u1 : Nat} (hQ : Q (.inl (some (.int 0))) Z) : G w y_La_rule c_La_rule 3 r_La_rule (10, 215) Q 8 [(0, .ref u0), (1, .ref u1)] [] Z := by
  refine g_goto (tgt := 14) d_La_rule_8 (by decide) ?_
  refine g_iconst (v := 0) d_La_rule_14 rfl ?_
  refine g_iret d_La_rule_15 ?_
  exact hQ

set_option maxHeartbeats 4000000 in
set_option maxRecDepth 100000 in
theorem T_La_rule {w : zC} {Z : zZ} {Q : zR → zZ → Prop} {ad ad' : Nat → Nat} {S1 : ST} {x9 : Int32} {u0 : Nat} {u1 : Nat} (hR1 : Rep w ad' S1 Z) (had : ad' 57 = ad 57) (hF : ∀ Z9, Rep w ad' (outS S1 x9.toInt64) Z9 → Z9.2.2 = Z.2.2 → Q (.inl (some (.int 0))) Z9) : G w y_La_rule c_La_rule 3 r_La_rule (10, 215) Q 6 [(0, .ref u0), (1, .ref u1)] [.int x9, .int 0, .ref (ad 57)] Z := by
  rw [← had]
  have h57 := hR1.out
  refine g_i2l d_La_rule_6 rfl ?_
  refine g_last d_La_rule_7 (by assumption) (vp_in_nI (n := 0) (N := 1) (by decide) (by decide)) ?_
  generalize e1 : zput _ _ _ = Z1
  exact E0_La_rule (hF Z1 (by rw [← e1]; exact hR1.putJ (i := 57) (Or.inr (Or.inl rfl)) (by rw [cell_K (by decide)]; exact congrArg (xl w 1) (va_up_self S1.2.1 57 _))) (by rw [← e1]; rfl))

set_option maxHeartbeats 4000000 in
set_option maxRecDepth 100000 in
theorem E1_La_rule {w : zC} {Z : zZ} {Q : zR → zZ → Prop} {x9 : Nat} {u0 : Nat} {u1 : Nat} (hQ : Q (.inl (some (.int 1))) Z) : G w y_La_rule c_La_rule 3 r_La_rule (10, 215) Q 11 [(0, .ref u0), (1, .ref u1)] [.ref x9] Z := by
  refine g_astore_nq d_La_rule_11 rfl (by decide) rfl ?_
  show G _ _ _ _ _ _ _ _ [(2, _), (0, _), (1, _)] _ _
  refine g_iconst (v := 1) d_La_rule_12 rfl ?_
  refine g_iret d_La_rule_13 ?_
  exact hQ

theorem kw_La_rule : zCallW y_La_rule c_La_rule 3 r_La_rule [(0, 8, 11, 45)] 2 := ⟨wz_at 762 (by decide +kernel) rfl, wz_at 0 (by decide +kernel) rfl, by decide +kernel, by decide +kernel, by decide +kernel⟩

theorem A_ruleX {w : zC} {Z : zZ} {ad : Nat → Nat} {S : ST} {PT : zZ → Prop} (hR : Rep w ad S Z) {adK adV : Nat → Nat} (hK : zLit w adK adV) (hb : 1 ≤ Z.2.2.1 ∧ 6 ≤ Z.2.2.2) (c1 : ¬ sN S 3 < 20) (hPT : PT (zpay Z 1 6)) (hT : zThr w) : Cz w (9, 190) y_K_rule (Cond.code y_K_rule c_K_rule 2 r_K_rule :: wz) [.ref (ad 0)] Z (fun r Z' => r = .inr "java/lang/IllegalStateException" ∧ PT Z') := A_ruleY hR hK hT hb c1 ⟨rfl, hPT⟩

set_option maxHeartbeats 4000000 in
set_option maxRecDepth 100000 in
theorem C_La_rule {w : zC} {Z : zZ} {Q : zR → zZ → Prop} {ad : Nat → Nat} {S : ST} (hR : Rep w ad S Z) {adK adV : Nat → Nat} (hK : zLit w adK adV) (hT : zThr w) (hH : rdH S) (hb2 : 3 ≤ Z.2.2.1 ∧ 164 ≤ Z.2.2.2) (hb : 1 ≤ Z.2.2.1 ∧ 6 ≤ Z.2.2.2) (hI : ¬ (sN S 3 < 20) → Q (.inl (some (.int 1))) (zpay Z 1 6)) (hN : sN S 3 < 20 → (¬ rdG S → ∀ Z', Rep w ad (outS (wN (rdL 80 (stO S)).1 9 0) (-1 - nI (sN (rdL 80 (stO S)).1 14)).toInt64) Z' → Z'.2.2 = Z.2.2 → Q (.inl (some (.int 0))) Z') ∧ (rdG S → ∀ Z' a q r, Rep w (ruleA ad (sN (rdE S) 3) a q r) (outS (ruleS (wN (rdE S) 9 0) (sI (rdE S) 3 10) (sI (rdE S) 3 11) (sN (rdE S) 12) (cpy80 (sI (rdE S) 17) (sN (rdE S) 12)) (cpy80 (sI (rdE S) 18) (sN (rdE S) 12))) (nI (7 + sN S 3)).toInt64) Z' → Z'.2.2.1 = Z.2.2.1 - 3 → Z'.2.2.2 = Z.2.2.2 - (4 + 2 * sN (rdE S) 12) → Q (.inl (some (.int 0))) Z')) : Cz w (10, 215) y_La_rule (Cond.codeWith y_La_rule c_La_rule 3 r_La_rule [(0, 8, 11, 45)] :: wz) [.ref (ad 0), .ref (ad 57)] Z Q := by
  refine Cz.ofW (by decide +kernel) (by simp [lg_sl, Value.category]) ?_
  show G _ _ _ _ _ _ _ _ [(0, _), (1, _)] _ _
  have h0 : zhs Z (ad 0) (.inr (0, [.ref (ad 1), .ref (ad 3), .ref (ad 8), .ref (ad 9), .ref (ad 4), .ref (ad 5), .ref (ad 10), .ref (ad (5 + sN S 8)), .ref (ad (8 - sN S 8)), .int (nI (sN S 3)), .int (sI S 0 11)])) := hR.k 0 (by decide)
  refine g_aload_nq d_La_rule_0 rfl 1 rfl ?_
  refine g_iconst (v := 0) d_La_rule_1 rfl ?_
  refine g_aload_nq d_La_rule_2 rfl 0 rfl ?_
  by_cases c1 : sN S 3 < 20
  · refine g_callV d_La_rule_3 k_K_rule l_La_41 i_K_rule rfl q_K_K_rule_K h0 (by rfl) (by rfl) (Nat.le_of_ble_eq_true rfl) (by decide) (C_K_rule hR hK hT  hH hb hb2 (fun h9 => absurd c1 h9) (fun hg Z1 r1 b1 => ⟨_, rfl, T_La_rule r1 rfl (fun Z9 r9 b9 => (hN c1).1 hg Z9 r9 (b9.trans b1))⟩) (fun hg Z1 a q r r1 b1 b2 => ⟨_, rfl, T_La_rule r1 ?_ (fun Z9 r9 b9 => (hN c1).2 hg Z9 a q r r9 (by rw [b9]; exact b1) (by rw [b9]; exact b2))⟩))
    unfold ruleA; rw [va_up_ne _ _ (by omega), va_up_ne _ _ (by omega), va_up_ne _ _ (by omega)]
  · exact g_callVX (E := "java/lang/IllegalStateException") (hpc := 11) (a0 := 0) (b0 := 8) (ct := 45) (pre := []) (post := []) (by decide +kernel) (fun q hq => by cases hq) (by decide +kernel) (by decide) t_La_45 d_La_rule_3 k_K_rule l_La_41 i_K_rule rfl q_K_K_rule_K h0 (by rfl) (by rfl) (Nat.le_of_ble_eq_true rfl) (by decide) (A_ruleX hR hK hb c1 (fun x9 => E1_La_rule (hI c1)) hT)
