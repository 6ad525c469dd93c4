/-! ToldRule.weightFor, PinKindChecks.weightOf -/

set_option maxHeartbeats 4000000 in
set_option maxRecDepth 100000 in
theorem C_Tr_weightFor0 {w : zC} {Z : zZ} {Q : zR → zZ → Prop} {ad : Nat → Nat} {S : ST} (hR : Rep w ad S Z) {r k : Nat} (hr : r < sN S 3) (hk : k < sN S 0) (hc : ciPin S) (hN : sN S (3000 + r) ≤ 80) (hn : ¬ sI S (460 + 3 * r) 0 = nI 0 → Q (.inl (some (.int 0))) Z) (hy : sI S (460 + 3 * r) 0 = nI 0 → ∀ Z', Rep w ad (wJ S 10 (evl (tv S 0 k) (sI S (461 + 3 * r)) (sI S (462 + 3 * r)) (sN S (3000 + r)) 0 (0, sJ S 10)).2) Z' → Z'.2.2 = Z.2.2 → Q (.inl (some (.int (if (evl (tv S 0 k) (sI S (461 + 3 * r)) (sI S (462 + 3 * r)) (sN S (3000 + r)) 0 (0, sJ S 10)).1 = 1 ∧ ¬ (evl (tv S 0 k) (sI S (461 + 3 * r)) (sI S (462 + 3 * r)) (sN S (3000 + r)) 0 (0, sJ S 10)).2 0 = 0 then sI S (460 + 3 * r) 1 else 0)))) Z') : Cz w (5, 111) y_Tr_weightFor (Cond.code y_Tr_weightFor c_Tr_weightFor 4 r_Tr_weightFor :: wz) [.ref (ad (460 + 3 * r)), .ref (ad (100 + 3 * k)), .ref (ad 10)] Z Q := by
  refine Cz.of (by decide +kernel) (by simp [lg_sl, Value.category]) ?_
  show G _ _ _ _ _ _ _ _ [(0, _), (1, _), (2, _)] _ _
  have h0 : zhs Z (ad (460 + 3 * r)) (.inr (9, [.int (sI S (460 + 3 * r) 0), .int (sI S (460 + 3 * r) 1), .ref (ad (461 + 3 * r)), .ref (ad (462 + 3 * r))])) := (hR.rule hr).1
  have h9 : zhs Z (ad (100 + 3 * k)) (.inr (6, [.int (sI S (100 + 3 * k) 0), .int ((sI S (100 + 3 * k) 0 * 3 + 0) * 160 + nI k), .ref (ad (101 + 3 * k)), .int (sI S (100 + 3 * k) 3), .ref (ad (102 + 3 * k))])) := (hR.part hk).1
  have ht : tok S 0 k := by simp [tok, hk]
  refine g_aload_nq d_Tr_weightFor_0 rfl 0 rfl ?_
  refine g_get d_Tr_weightFor_1 f_Tr_9_Tr (by assumption) (by first | rfl | assumption) ?_
  first | refine g_if_neB (tgt := 14) d_Tr_weightFor_4 (by decide) (fun h4 => ?_) (fun h4 => ?_) | refine g_if_ne (tgt := 14) d_Tr_weightFor_4 (by decide) (fun h4 => ?_) (fun h4 => ?_)
  · refine g_aload_nq d_Tr_weightFor_14 rfl 0 rfl ?_
    refine g_get d_Tr_weightFor_15 f_Tr_9_Tr (by assumption) (by first | rfl | assumption) ?_
    refine g_iconst (v := 1) d_Tr_weightFor_18 rfl ?_
    refine g_icmp_ne (tgt := 29) d_Tr_weightFor_19 (by decide) (fun h19 => ?_) (fun h19 => ?_)
    · refine g_aload_nq d_Tr_weightFor_29 rfl 0 rfl ?_
      refine g_get d_Tr_weightFor_30 f_Tr_9_Tr (by assumption) (by first | rfl | assumption) ?_
      refine g_iconst (v := 2) d_Tr_weightFor_33 rfl ?_
      refine g_icmp_ne (tgt := 48) d_Tr_weightFor_34 (by decide) (fun h34 => ?_) (fun h34 => ?_)
      · have hQ := hn (fun z => h4 z)
        refine g_iconst (v := 0) d_Tr_weightFor_48 rfl ?_
        refine g_istore_n d_Tr_weightFor_49 rfl (by decide) rfl ?_
        refine g_iload_n d_Tr_weightFor_50 rfl 0 rfl ?_
        refine g_if_eq (tgt := 70) d_Tr_weightFor_51 (by decide) (fun _ => ?_) (fun h51 => absurd rfl h51)
        refine g_iconst (v := 0) d_Tr_weightFor_70 rfl ?_
        refine g_iret d_Tr_weightFor_71 ?_
        exact hQ
      · refine g_aload_nq d_Tr_weightFor_37 rfl 1 rfl ?_
        refine g_instNo d_Tr_weightFor_38 t_Tr_33 h9 rfl (by simp [wnc]) ?_
        first | refine g_if_eqB (tgt := 48) d_Tr_weightFor_41 (by decide) (fun h41 => ?_) (fun h41 => ?_) | refine g_if_eq (tgt := 48) d_Tr_weightFor_41 (by decide) (fun h41 => ?_) (fun h41 => ?_)
        · have hQ := hn (fun z => h4 z)
          refine g_iconst (v := 0) d_Tr_weightFor_48 rfl ?_
          refine g_istore_n d_Tr_weightFor_49 rfl (by decide) rfl ?_
          refine g_iload_n d_Tr_weightFor_50 rfl 0 rfl ?_
          refine g_if_eq (tgt := 70) d_Tr_weightFor_51 (by decide) (fun _ => ?_) (fun h51 => absurd rfl h51)
          refine g_iconst (v := 0) d_Tr_weightFor_70 rfl ?_
          refine g_iret d_Tr_weightFor_71 ?_
          exact hQ
        · exact absurd rfl h41
    · refine g_aload_nq d_Tr_weightFor_22 rfl 1 rfl ?_
      refine g_instNo d_Tr_weightFor_23 t_Tr_31 h9 rfl (by simp [wnc]) ?_
      first | refine g_if_neB (tgt := 44) d_Tr_weightFor_26 (by decide) (fun h26 => ?_) (fun h26 => ?_) | refine g_if_ne (tgt := 44) d_Tr_weightFor_26 (by decide) (fun h26 => ?_) (fun h26 => ?_)
      · exact absurd rfl h26
      · refine g_aload_nq d_Tr_weightFor_29 rfl 0 rfl ?_
        refine g_get d_Tr_weightFor_30 f_Tr_9_Tr (by assumption) (by first | rfl | assumption) ?_
        refine g_iconst (v := 2) d_Tr_weightFor_33 rfl ?_
        refine g_icmp_ne (tgt := 48) d_Tr_weightFor_34 (by decide) (fun h34 => ?_) (fun h34 => ?_)
        · have hQ := hn (fun z => h4 z)
          refine g_iconst (v := 0) d_Tr_weightFor_48 rfl ?_
          refine g_istore_n d_Tr_weightFor_49 rfl (by decide) rfl ?_
          refine g_iload_n d_Tr_weightFor_50 rfl 0 rfl ?_
          refine g_if_eq (tgt := 70) d_Tr_weightFor_51 (by decide) (fun _ => ?_) (fun h51 => absurd rfl h51)
          refine g_iconst (v := 0) d_Tr_weightFor_70 rfl ?_
          refine g_iret d_Tr_weightFor_71 ?_
          exact hQ
        · refine g_aload_nq d_Tr_weightFor_37 rfl 1 rfl ?_
          refine g_instNo d_Tr_weightFor_38 t_Tr_33 h9 rfl (by simp [wnc]) ?_
          first | refine g_if_eqB (tgt := 48) d_Tr_weightFor_41 (by decide) (fun h41 => ?_) (fun h41 => ?_) | refine g_if_eq (tgt := 48) d_Tr_weightFor_41 (by decide) (fun h41 => ?_) (fun h41 => ?_)
          · have hQ := hn (fun z => h4 z)
            refine g_iconst (v := 0) d_Tr_weightFor_48 rfl ?_
            refine g_istore_n d_Tr_weightFor_49 rfl (by decide) rfl ?_
            refine g_iload_n d_Tr_weightFor_50 rfl 0 rfl ?_
            refine g_if_eq (tgt := 70) d_Tr_weightFor_51 (by decide) (fun _ => ?_) (fun h51 => absurd rfl h51)
            refine g_iconst (v := 0) d_Tr_weightFor_70 rfl ?_
            refine g_iret d_Tr_weightFor_71 ?_
            exact hQ
          · exact absurd rfl h41
  · refine g_aload_nq d_Tr_weightFor_7 rfl 1 rfl ?_
    refine g_instY d_Tr_weightFor_8 t_Tr_29 h9 rfl h_Pa_Pa ?_
    first | refine g_if_neB (tgt := 44) d_Tr_weightFor_11 (by decide) (fun h11 => ?_) (fun h11 => ?_) | refine g_if_ne (tgt := 44) d_Tr_weightFor_11 (by decide) (fun h11 => ?_) (fun h11 => ?_)
    · have hsub : sI S (460 + 3 * r) 0 = nI 0 := h4
      have hQ := hy hsub
      refine g_iconst (v := 1) d_Tr_weightFor_44 rfl ?_
      refine g_goto (tgt := 49) d_Tr_weightFor_45 (by decide) ?_
      refine g_istore_n d_Tr_weightFor_49 rfl (by decide) rfl ?_
      show G _ _ _ _ _ _ _ _ [(3, _), (0, _), (1, _), (2, _)] _ _
      refine g_iload_n d_Tr_weightFor_50 rfl 0 rfl ?_
      refine g_if_eq (tgt := 70) d_Tr_weightFor_51 (by decide) (fun h51 => absurd h51 (by decide)) (fun _ => ?_)
      refine g_aload_nq d_Tr_weightFor_54 rfl 1 rfl ?_
      refine g_aload_nq d_Tr_weightFor_55 rfl 2 rfl ?_
      refine g_aload_nq d_Tr_weightFor_56 rfl 3 rfl ?_
      refine g_callV d_Tr_weightFor_57 k_Tr_holdsFor l_Tr_35 i_Tr_holdsFor rfl p_Tr_holdsFor h0 (by rfl) (by rfl) (Nat.le_of_ble_eq_true rfl) (by decide) (C_Tr_holdsFor (c := 0) hR hr ht hc hN (fun Z9 hR9 hB9 => ⟨_, rfl, ?_⟩))
      have hQ := hQ Z9 hR9 hB9
      have h0 : zhs Z9 (ad (460 + 3 * r)) (.inr (9, [.int (sI S (460 + 3 * r) 0), .int (sI S (460 + 3 * r) 1), .ref (ad (461 + 3 * r)), .ref (ad (462 + 3 * r))])) := (hR9.rule hr).1
      first | refine g_if_eqB (tgt := 70) d_Tr_weightFor_60 (by decide) (fun h60 => ?_) (fun h60 => ?_) | refine g_if_eq (tgt := 70) d_Tr_weightFor_60 (by decide) (fun h60 => ?_) (fun h60 => ?_)
      · rw [if_neg h60] at hQ
        refine g_iconst (v := 0) d_Tr_weightFor_70 rfl ?_
        refine g_iret d_Tr_weightFor_71 ?_
        exact hQ
      · rw [if_pos h60] at hQ
        refine g_aload_nq d_Tr_weightFor_63 rfl 1 rfl ?_
        refine g_get d_Tr_weightFor_64 f_Tr_15_Tr (by assumption) (by first | rfl | assumption) ?_
        refine g_goto (tgt := 71) d_Tr_weightFor_67 (by decide) ?_
        refine g_iret d_Tr_weightFor_71 ?_
        exact hQ
    · exact absurd h11 (by decide)

set_option maxHeartbeats 4000000 in
set_option maxRecDepth 100000 in
theorem C_Tr_weightFor1 {w : zC} {Z : zZ} {Q : zR → zZ → Prop} {ad : Nat → Nat} {S : ST} (hR : Rep w ad S Z) {r k : Nat} (hr : r < sN S 3) (hk : k < sN S 1) (hc : ciPin S) (hN : sN S (3000 + r) ≤ 80) (hn : ¬ sI S (460 + 3 * r) 0 = nI 1 → Q (.inl (some (.int 0))) Z) (hy : sI S (460 + 3 * r) 0 = nI 1 → ∀ Z', Rep w ad (wJ S 10 (evl (tv S 1 k) (sI S (461 + 3 * r)) (sI S (462 + 3 * r)) (sN S (3000 + r)) 0 (0, sJ S 10)).2) Z' → Z'.2.2 = Z.2.2 → Q (.inl (some (.int (if (evl (tv S 1 k) (sI S (461 + 3 * r)) (sI S (462 + 3 * r)) (sN S (3000 + r)) 0 (0, sJ S 10)).1 = 1 ∧ ¬ (evl (tv S 1 k) (sI S (461 + 3 * r)) (sI S (462 + 3 * r)) (sN S (3000 + r)) 0 (0, sJ S 10)).2 0 = 0 then sI S (460 + 3 * r) 1 else 0)))) Z') : Cz w (5, 111) y_Tr_weightFor (Cond.code y_Tr_weightFor c_Tr_weightFor 4 r_Tr_weightFor :: wz) [.ref (ad (460 + 3 * r)), .ref (ad (220 + 2 * k)), .ref (ad 10)] Z Q := by
  refine Cz.of (by decide +kernel) (by simp [lg_sl, Value.category]) ?_
  show G _ _ _ _ _ _ _ _ [(0, _), (1, _), (2, _)] _ _
  have h0 : zhs Z (ad (460 + 3 * r)) (.inr (9, [.int (sI S (460 + 3 * r) 0), .int (sI S (460 + 3 * r) 1), .ref (ad (461 + 3 * r)), .ref (ad (462 + 3 * r))])) := (hR.rule hr).1
  have h9 : zhs Z (ad (220 + 2 * k)) (.inr (7, [.int (sI S (220 + 2 * k) 0), .int ((sI S (220 + 2 * k) 0 * 3 + 1) * 160 + nI k), .ref (ad (221 + 2 * k)), .int (sI S (220 + 2 * k) 3), .int (sI S (220 + 2 * k) 4), .int (sI S (220 + 2 * k) 5)])) := (hR.net hk).1
  have ht : tok S 1 k := by simp [tok, hk]
  refine g_aload_nq d_Tr_weightFor_0 rfl 0 rfl ?_
  refine g_get d_Tr_weightFor_1 f_Tr_9_Tr (by assumption) (by first | rfl | assumption) ?_
  first | refine g_if_neB (tgt := 14) d_Tr_weightFor_4 (by decide) (fun h4 => ?_) (fun h4 => ?_) | refine g_if_ne (tgt := 14) d_Tr_weightFor_4 (by decide) (fun h4 => ?_) (fun h4 => ?_)
  · refine g_aload_nq d_Tr_weightFor_14 rfl 0 rfl ?_
    refine g_get d_Tr_weightFor_15 f_Tr_9_Tr (by assumption) (by first | rfl | assumption) ?_
    refine g_iconst (v := 1) d_Tr_weightFor_18 rfl ?_
    refine g_icmp_ne (tgt := 29) d_Tr_weightFor_19 (by decide) (fun h19 => ?_) (fun h19 => ?_)
    · refine g_aload_nq d_Tr_weightFor_29 rfl 0 rfl ?_
      refine g_get d_Tr_weightFor_30 f_Tr_9_Tr (by assumption) (by first | rfl | assumption) ?_
      refine g_iconst (v := 2) d_Tr_weightFor_33 rfl ?_
      refine g_icmp_ne (tgt := 48) d_Tr_weightFor_34 (by decide) (fun h34 => ?_) (fun h34 => ?_)
      · have hQ := hn (fun z => h19 z)
        refine g_iconst (v := 0) d_Tr_weightFor_48 rfl ?_
        refine g_istore_n d_Tr_weightFor_49 rfl (by decide) rfl ?_
        refine g_iload_n d_Tr_weightFor_50 rfl 0 rfl ?_
        refine g_if_eq (tgt := 70) d_Tr_weightFor_51 (by decide) (fun _ => ?_) (fun h51 => absurd rfl h51)
        refine g_iconst (v := 0) d_Tr_weightFor_70 rfl ?_
        refine g_iret d_Tr_weightFor_71 ?_
        exact hQ
      · refine g_aload_nq d_Tr_weightFor_37 rfl 1 rfl ?_
        refine g_instNo d_Tr_weightFor_38 t_Tr_33 h9 rfl (by simp [wnc]) ?_
        first | refine g_if_eqB (tgt := 48) d_Tr_weightFor_41 (by decide) (fun h41 => ?_) (fun h41 => ?_) | refine g_if_eq (tgt := 48) d_Tr_weightFor_41 (by decide) (fun h41 => ?_) (fun h41 => ?_)
        · have hQ := hn (fun z => h19 z)
          refine g_iconst (v := 0) d_Tr_weightFor_48 rfl ?_
          refine g_istore_n d_Tr_weightFor_49 rfl (by decide) rfl ?_
          refine g_iload_n d_Tr_weightFor_50 rfl 0 rfl ?_
          refine g_if_eq (tgt := 70) d_Tr_weightFor_51 (by decide) (fun _ => ?_) (fun h51 => absurd rfl h51)
          refine g_iconst (v := 0) d_Tr_weightFor_70 rfl ?_
          refine g_iret d_Tr_weightFor_71 ?_
          exact hQ
        · exact absurd rfl h41
    · refine g_aload_nq d_Tr_weightFor_22 rfl 1 rfl ?_
      refine g_instY d_Tr_weightFor_23 t_Tr_31 h9 rfl h_Ne_Ne ?_
      first | refine g_if_neB (tgt := 44) d_Tr_weightFor_26 (by decide) (fun h26 => ?_) (fun h26 => ?_) | refine g_if_ne (tgt := 44) d_Tr_weightFor_26 (by decide) (fun h26 => ?_) (fun h26 => ?_)
      · have hsub : sI S (460 + 3 * r) 0 = nI 1 := h19
        have hQ := hy hsub
        refine g_iconst (v := 1) d_Tr_weightFor_44 rfl ?_
        refine g_goto (tgt := 49) d_Tr_weightFor_45 (by decide) ?_
        refine g_istore_n d_Tr_weightFor_49 rfl (by decide) rfl ?_
        show G _ _ _ _ _ _ _ _ [(3, _), (0, _), (1, _), (2, _)] _ _
        refine g_iload_n d_Tr_weightFor_50 rfl 0 rfl ?_
        refine g_if_eq (tgt := 70) d_Tr_weightFor_51 (by decide) (fun h51 => absurd h51 (by decide)) (fun _ => ?_)
        refine g_aload_nq d_Tr_weightFor_54 rfl 1 rfl ?_
        refine g_aload_nq d_Tr_weightFor_55 rfl 2 rfl ?_
        refine g_aload_nq d_Tr_weightFor_56 rfl 3 rfl ?_
        refine g_callV d_Tr_weightFor_57 k_Tr_holdsFor l_Tr_35 i_Tr_holdsFor rfl p_Tr_holdsFor h0 (by rfl) (by rfl) (Nat.le_of_ble_eq_true rfl) (by decide) (C_Tr_holdsFor (c := 1) hR hr ht hc hN (fun Z9 hR9 hB9 => ⟨_, rfl, ?_⟩))
        have hQ := hQ Z9 hR9 hB9
        have h0 : zhs Z9 (ad (460 + 3 * r)) (.inr (9, [.int (sI S (460 + 3 * r) 0), .int (sI S (460 + 3 * r) 1), .ref (ad (461 + 3 * r)), .ref (ad (462 + 3 * r))])) := (hR9.rule hr).1
        first | refine g_if_eqB (tgt := 70) d_Tr_weightFor_60 (by decide) (fun h60 => ?_) (fun h60 => ?_) | refine g_if_eq (tgt := 70) d_Tr_weightFor_60 (by decide) (fun h60 => ?_) (fun h60 => ?_)
        · rw [if_neg h60] at hQ
          refine g_iconst (v := 0) d_Tr_weightFor_70 rfl ?_
          refine g_iret d_Tr_weightFor_71 ?_
          exact hQ
        · rw [if_pos h60] at hQ
          refine g_aload_nq d_Tr_weightFor_63 rfl 1 rfl ?_
          refine g_get d_Tr_weightFor_64 f_Tr_15_Tr (by assumption) (by first | rfl | assumption) ?_
          refine g_goto (tgt := 71) d_Tr_weightFor_67 (by decide) ?_
          refine g_iret d_Tr_weightFor_71 ?_
          exact hQ
      · exact absurd h26 (by decide)
  · refine g_aload_nq d_Tr_weightFor_7 rfl 1 rfl ?_
    refine g_instNo d_Tr_weightFor_8 t_Tr_29 h9 rfl (by simp [wnc]) ?_
    first | refine g_if_neB (tgt := 44) d_Tr_weightFor_11 (by decide) (fun h11 => ?_) (fun h11 => ?_) | refine g_if_ne (tgt := 44) d_Tr_weightFor_11 (by decide) (fun h11 => ?_) (fun h11 => ?_)
    · exact absurd rfl h11
    · refine g_aload_nq d_Tr_weightFor_14 rfl 0 rfl ?_
      refine g_get d_Tr_weightFor_15 f_Tr_9_Tr (by assumption) (by first | rfl | assumption) ?_
      refine g_iconst (v := 1) d_Tr_weightFor_18 rfl ?_
      refine g_icmp_ne (tgt := 29) d_Tr_weightFor_19 (by decide) (fun h19 => ?_) (fun h19 => ?_)
      · refine g_aload_nq d_Tr_weightFor_29 rfl 0 rfl ?_
        refine g_get d_Tr_weightFor_30 f_Tr_9_Tr (by assumption) (by first | rfl | assumption) ?_
        refine g_iconst (v := 2) d_Tr_weightFor_33 rfl ?_
        refine g_icmp_ne (tgt := 48) d_Tr_weightFor_34 (by decide) (fun h34 => ?_) (fun h34 => ?_)
        · have hQ := hn (fun z => h19 z)
          refine g_iconst (v := 0) d_Tr_weightFor_48 rfl ?_
          refine g_istore_n d_Tr_weightFor_49 rfl (by decide) rfl ?_
          refine g_iload_n d_Tr_weightFor_50 rfl 0 rfl ?_
          refine g_if_eq (tgt := 70) d_Tr_weightFor_51 (by decide) (fun _ => ?_) (fun h51 => absurd rfl h51)
          refine g_iconst (v := 0) d_Tr_weightFor_70 rfl ?_
          refine g_iret d_Tr_weightFor_71 ?_
          exact hQ
        · refine g_aload_nq d_Tr_weightFor_37 rfl 1 rfl ?_
          refine g_instNo d_Tr_weightFor_38 t_Tr_33 h9 rfl (by simp [wnc]) ?_
          first | refine g_if_eqB (tgt := 48) d_Tr_weightFor_41 (by decide) (fun h41 => ?_) (fun h41 => ?_) | refine g_if_eq (tgt := 48) d_Tr_weightFor_41 (by decide) (fun h41 => ?_) (fun h41 => ?_)
          · have hQ := hn (fun z => h19 z)
            refine g_iconst (v := 0) d_Tr_weightFor_48 rfl ?_
            refine g_istore_n d_Tr_weightFor_49 rfl (by decide) rfl ?_
            refine g_iload_n d_Tr_weightFor_50 rfl 0 rfl ?_
            refine g_if_eq (tgt := 70) d_Tr_weightFor_51 (by decide) (fun _ => ?_) (fun h51 => absurd rfl h51)
            refine g_iconst (v := 0) d_Tr_weightFor_70 rfl ?_
            refine g_iret d_Tr_weightFor_71 ?_
            exact hQ
          · exact absurd rfl h41
      · refine g_aload_nq d_Tr_weightFor_22 rfl 1 rfl ?_
        refine g_instY d_Tr_weightFor_23 t_Tr_31 h9 rfl h_Ne_Ne ?_
        first | refine g_if_neB (tgt := 44) d_Tr_weightFor_26 (by decide) (fun h26 => ?_) (fun h26 => ?_) | refine g_if_ne (tgt := 44) d_Tr_weightFor_26 (by decide) (fun h26 => ?_) (fun h26 => ?_)
        · have hsub : sI S (460 + 3 * r) 0 = nI 1 := h19
          have hQ := hy hsub
          refine g_iconst (v := 1) d_Tr_weightFor_44 rfl ?_
          refine g_goto (tgt := 49) d_Tr_weightFor_45 (by decide) ?_
          refine g_istore_n d_Tr_weightFor_49 rfl (by decide) rfl ?_
          show G _ _ _ _ _ _ _ _ [(3, _), (0, _), (1, _), (2, _)] _ _
          refine g_iload_n d_Tr_weightFor_50 rfl 0 rfl ?_
          refine g_if_eq (tgt := 70) d_Tr_weightFor_51 (by decide) (fun h51 => absurd h51 (by decide)) (fun _ => ?_)
          refine g_aload_nq d_Tr_weightFor_54 rfl 1 rfl ?_
          refine g_aload_nq d_Tr_weightFor_55 rfl 2 rfl ?_
          refine g_aload_nq d_Tr_weightFor_56 rfl 3 rfl ?_
          refine g_callV d_Tr_weightFor_57 k_Tr_holdsFor l_Tr_35 i_Tr_holdsFor rfl p_Tr_holdsFor h0 (by rfl) (by rfl) (Nat.le_of_ble_eq_true rfl) (by decide) (C_Tr_holdsFor (c := 1) hR hr ht hc hN (fun Z9 hR9 hB9 => ⟨_, rfl, ?_⟩))
          have hQ := hQ Z9 hR9 hB9
          have h0 : zhs Z9 (ad (460 + 3 * r)) (.inr (9, [.int (sI S (460 + 3 * r) 0), .int (sI S (460 + 3 * r) 1), .ref (ad (461 + 3 * r)), .ref (ad (462 + 3 * r))])) := (hR9.rule hr).1
          first | refine g_if_eqB (tgt := 70) d_Tr_weightFor_60 (by decide) (fun h60 => ?_) (fun h60 => ?_) | refine g_if_eq (tgt := 70) d_Tr_weightFor_60 (by decide) (fun h60 => ?_) (fun h60 => ?_)
          · rw [if_neg h60] at hQ
            refine g_iconst (v := 0) d_Tr_weightFor_70 rfl ?_
            refine g_iret d_Tr_weightFor_71 ?_
            exact hQ
          · rw [if_pos h60] at hQ
            refine g_aload_nq d_Tr_weightFor_63 rfl 1 rfl ?_
            refine g_get d_Tr_weightFor_64 f_Tr_15_Tr (by assumption) (by first | rfl | assumption) ?_
            refine g_goto (tgt := 71) d_Tr_weightFor_67 (by decide) ?_
            refine g_iret d_Tr_weightFor_71 ?_
            exact hQ
        · exact absurd h26 (by decide)

set_option maxHeartbeats 4000000 in
set_option maxRecDepth 100000 in
theorem C_Tr_weightFor2 {w : zC} {Z : zZ} {Q : zR → zZ → Prop} {ad : Nat → Nat} {S : ST} (hR : Rep w ad S Z) {r k : Nat} (hr : r < sN S 3) (hk : k < sN S 2) (hc : ciPin S) (hN : sN S (3000 + r) ≤ 80) (hn : ¬ sI S (460 + 3 * r) 0 = nI 2 → Q (.inl (some (.int 0))) Z) (hy : sI S (460 + 3 * r) 0 = nI 2 → ∀ Z', Rep w ad (wJ S 10 (evl (tv S 2 k) (sI S (461 + 3 * r)) (sI S (462 + 3 * r)) (sN S (3000 + r)) 0 (0, sJ S 10)).2) Z' → Z'.2.2 = Z.2.2 → Q (.inl (some (.int (if (evl (tv S 2 k) (sI S (461 + 3 * r)) (sI S (462 + 3 * r)) (sN S (3000 + r)) 0 (0, sJ S 10)).1 = 1 ∧ ¬ (evl (tv S 2 k) (sI S (461 + 3 * r)) (sI S (462 + 3 * r)) (sN S (3000 + r)) 0 (0, sJ S 10)).2 0 = 0 then sI S (460 + 3 * r) 1 else 0)))) Z') : Cz w (5, 111) y_Tr_weightFor (Cond.code y_Tr_weightFor c_Tr_weightFor 4 r_Tr_weightFor :: wz) [.ref (ad (460 + 3 * r)), .ref (ad (300 + k)), .ref (ad 10)] Z Q := by
  refine Cz.of (by decide +kernel) (by simp [lg_sl, Value.category]) ?_
  show G _ _ _ _ _ _ _ _ [(0, _), (1, _), (2, _)] _ _
  have h0 : zhs Z (ad (460 + 3 * r)) (.inr (9, [.int (sI S (460 + 3 * r) 0), .int (sI S (460 + 3 * r) 1), .ref (ad (461 + 3 * r)), .ref (ad (462 + 3 * r))])) := (hR.rule hr).1
  have h9 : zhs Z (ad (300 + k)) (.inr (8, [.int (sI S (300 + k) 0), .int ((sI S (300 + k) 0 * 3 + 2) * 160 + nI k), .ref (ad (100 + 3 * sN S (2000 + k))), .int (sI S (300 + k) 3), va_rf ((sR S (300 + k) 4).map (fun n => ad (220 + 2 * n)))])) := hR.pin hk
  have ht : tok S 2 k := by simp [tok, hk]
  refine g_aload_nq d_Tr_weightFor_0 rfl 0 rfl ?_
  refine g_get d_Tr_weightFor_1 f_Tr_9_Tr (by assumption) (by first | rfl | assumption) ?_
  first | refine g_if_neB (tgt := 14) d_Tr_weightFor_4 (by decide) (fun h4 => ?_) (fun h4 => ?_) | refine g_if_ne (tgt := 14) d_Tr_weightFor_4 (by decide) (fun h4 => ?_) (fun h4 => ?_)
  · refine g_aload_nq d_Tr_weightFor_14 rfl 0 rfl ?_
    refine g_get d_Tr_weightFor_15 f_Tr_9_Tr (by assumption) (by first | rfl | assumption) ?_
    refine g_iconst (v := 1) d_Tr_weightFor_18 rfl ?_
    refine g_icmp_ne (tgt := 29) d_Tr_weightFor_19 (by decide) (fun h19 => ?_) (fun h19 => ?_)
    · refine g_aload_nq d_Tr_weightFor_29 rfl 0 rfl ?_
      refine g_get d_Tr_weightFor_30 f_Tr_9_Tr (by assumption) (by first | rfl | assumption) ?_
      refine g_iconst (v := 2) d_Tr_weightFor_33 rfl ?_
      refine g_icmp_ne (tgt := 48) d_Tr_weightFor_34 (by decide) (fun h34 => ?_) (fun h34 => ?_)
      · have hQ := hn (fun z => h34 z)
        refine g_iconst (v := 0) d_Tr_weightFor_48 rfl ?_
        refine g_istore_n d_Tr_weightFor_49 rfl (by decide) rfl ?_
        refine g_iload_n d_Tr_weightFor_50 rfl 0 rfl ?_
        refine g_if_eq (tgt := 70) d_Tr_weightFor_51 (by decide) (fun _ => ?_) (fun h51 => absurd rfl h51)
        refine g_iconst (v := 0) d_Tr_weightFor_70 rfl ?_
        refine g_iret d_Tr_weightFor_71 ?_
        exact hQ
      · refine g_aload_nq d_Tr_weightFor_37 rfl 1 rfl ?_
        refine g_instY d_Tr_weightFor_38 t_Tr_33 h9 rfl h_Pi_Pi ?_
        first | refine g_if_eqB (tgt := 48) d_Tr_weightFor_41 (by decide) (fun h41 => ?_) (fun h41 => ?_) | refine g_if_eq (tgt := 48) d_Tr_weightFor_41 (by decide) (fun h41 => ?_) (fun h41 => ?_)
        · exact absurd h41 (by decide)
        · have hsub : sI S (460 + 3 * r) 0 = nI 2 := h34
          have hQ := hy hsub
          refine g_iconst (v := 1) d_Tr_weightFor_44 rfl ?_
          refine g_goto (tgt := 49) d_Tr_weightFor_45 (by decide) ?_
          refine g_istore_n d_Tr_weightFor_49 rfl (by decide) rfl ?_
          show G _ _ _ _ _ _ _ _ [(3, _), (0, _), (1, _), (2, _)] _ _
          refine g_iload_n d_Tr_weightFor_50 rfl 0 rfl ?_
          refine g_if_eq (tgt := 70) d_Tr_weightFor_51 (by decide) (fun h51 => absurd h51 (by decide)) (fun _ => ?_)
          refine g_aload_nq d_Tr_weightFor_54 rfl 1 rfl ?_
          refine g_aload_nq d_Tr_weightFor_55 rfl 2 rfl ?_
          refine g_aload_nq d_Tr_weightFor_56 rfl 3 rfl ?_
          refine g_callV d_Tr_weightFor_57 k_Tr_holdsFor l_Tr_35 i_Tr_holdsFor rfl p_Tr_holdsFor h0 (by rfl) (by rfl) (Nat.le_of_ble_eq_true rfl) (by decide) (C_Tr_holdsFor (c := 2) hR hr ht hc hN (fun Z9 hR9 hB9 => ⟨_, rfl, ?_⟩))
          have hQ := hQ Z9 hR9 hB9
          have h0 : zhs Z9 (ad (460 + 3 * r)) (.inr (9, [.int (sI S (460 + 3 * r) 0), .int (sI S (460 + 3 * r) 1), .ref (ad (461 + 3 * r)), .ref (ad (462 + 3 * r))])) := (hR9.rule hr).1
          first | refine g_if_eqB (tgt := 70) d_Tr_weightFor_60 (by decide) (fun h60 => ?_) (fun h60 => ?_) | refine g_if_eq (tgt := 70) d_Tr_weightFor_60 (by decide) (fun h60 => ?_) (fun h60 => ?_)
          · rw [if_neg h60] at hQ
            refine g_iconst (v := 0) d_Tr_weightFor_70 rfl ?_
            refine g_iret d_Tr_weightFor_71 ?_
            exact hQ
          · rw [if_pos h60] at hQ
            refine g_aload_nq d_Tr_weightFor_63 rfl 1 rfl ?_
            refine g_get d_Tr_weightFor_64 f_Tr_15_Tr (by assumption) (by first | rfl | assumption) ?_
            refine g_goto (tgt := 71) d_Tr_weightFor_67 (by decide) ?_
            refine g_iret d_Tr_weightFor_71 ?_
            exact hQ
    · refine g_aload_nq d_Tr_weightFor_22 rfl 1 rfl ?_
      refine g_instNo d_Tr_weightFor_23 t_Tr_31 h9 rfl (by simp [wnc]) ?_
      first | refine g_if_neB (tgt := 44) d_Tr_weightFor_26 (by decide) (fun h26 => ?_) (fun h26 => ?_) | refine g_if_ne (tgt := 44) d_Tr_weightFor_26 (by decide) (fun h26 => ?_) (fun h26 => ?_)
      · exact absurd rfl h26
      · refine g_aload_nq d_Tr_weightFor_29 rfl 0 rfl ?_
        refine g_get d_Tr_weightFor_30 f_Tr_9_Tr (by assumption) (by first | rfl | assumption) ?_
        refine g_iconst (v := 2) d_Tr_weightFor_33 rfl ?_
        refine g_icmp_ne (tgt := 48) d_Tr_weightFor_34 (by decide) (fun h34 => ?_) (fun h34 => ?_)
        · have hQ := hn (fun z => h34 z)
          refine g_iconst (v := 0) d_Tr_weightFor_48 rfl ?_
          refine g_istore_n d_Tr_weightFor_49 rfl (by decide) rfl ?_
          refine g_iload_n d_Tr_weightFor_50 rfl 0 rfl ?_
          refine g_if_eq (tgt := 70) d_Tr_weightFor_51 (by decide) (fun _ => ?_) (fun h51 => absurd rfl h51)
          refine g_iconst (v := 0) d_Tr_weightFor_70 rfl ?_
          refine g_iret d_Tr_weightFor_71 ?_
          exact hQ
        · refine g_aload_nq d_Tr_weightFor_37 rfl 1 rfl ?_
          refine g_instY d_Tr_weightFor_38 t_Tr_33 h9 rfl h_Pi_Pi ?_
          first | refine g_if_eqB (tgt := 48) d_Tr_weightFor_41 (by decide) (fun h41 => ?_) (fun h41 => ?_) | refine g_if_eq (tgt := 48) d_Tr_weightFor_41 (by decide) (fun h41 => ?_) (fun h41 => ?_)
          · exact absurd h41 (by decide)
          · have hsub : sI S (460 + 3 * r) 0 = nI 2 := h34
            have hQ := hy hsub
            refine g_iconst (v := 1) d_Tr_weightFor_44 rfl ?_
            refine g_goto (tgt := 49) d_Tr_weightFor_45 (by decide) ?_
            refine g_istore_n d_Tr_weightFor_49 rfl (by decide) rfl ?_
            show G _ _ _ _ _ _ _ _ [(3, _), (0, _), (1, _), (2, _)] _ _
            refine g_iload_n d_Tr_weightFor_50 rfl 0 rfl ?_
            refine g_if_eq (tgt := 70) d_Tr_weightFor_51 (by decide) (fun h51 => absurd h51 (by decide)) (fun _ => ?_)
            refine g_aload_nq d_Tr_weightFor_54 rfl 1 rfl ?_
            refine g_aload_nq d_Tr_weightFor_55 rfl 2 rfl ?_
            refine g_aload_nq d_Tr_weightFor_56 rfl 3 rfl ?_
            refine g_callV d_Tr_weightFor_57 k_Tr_holdsFor l_Tr_35 i_Tr_holdsFor rfl p_Tr_holdsFor h0 (by rfl) (by rfl) (Nat.le_of_ble_eq_true rfl) (by decide) (C_Tr_holdsFor (c := 2) hR hr ht hc hN (fun Z9 hR9 hB9 => ⟨_, rfl, ?_⟩))
            have hQ := hQ Z9 hR9 hB9
            have h0 : zhs Z9 (ad (460 + 3 * r)) (.inr (9, [.int (sI S (460 + 3 * r) 0), .int (sI S (460 + 3 * r) 1), .ref (ad (461 + 3 * r)), .ref (ad (462 + 3 * r))])) := (hR9.rule hr).1
            first | refine g_if_eqB (tgt := 70) d_Tr_weightFor_60 (by decide) (fun h60 => ?_) (fun h60 => ?_) | refine g_if_eq (tgt := 70) d_Tr_weightFor_60 (by decide) (fun h60 => ?_) (fun h60 => ?_)
            · rw [if_neg h60] at hQ
              refine g_iconst (v := 0) d_Tr_weightFor_70 rfl ?_
              refine g_iret d_Tr_weightFor_71 ?_
              exact hQ
            · rw [if_pos h60] at hQ
              refine g_aload_nq d_Tr_weightFor_63 rfl 1 rfl ?_
              refine g_get d_Tr_weightFor_64 f_Tr_15_Tr (by assumption) (by first | rfl | assumption) ?_
              refine g_goto (tgt := 71) d_Tr_weightFor_67 (by decide) ?_
              refine g_iret d_Tr_weightFor_71 ?_
              exact hQ
  · refine g_aload_nq d_Tr_weightFor_7 rfl 1 rfl ?_
    refine g_instNo d_Tr_weightFor_8 t_Tr_29 h9 rfl (by simp [wnc]) ?_
    first | refine g_if_neB (tgt := 44) d_Tr_weightFor_11 (by decide) (fun h11 => ?_) (fun h11 => ?_) | refine g_if_ne (tgt := 44) d_Tr_weightFor_11 (by decide) (fun h11 => ?_) (fun h11 => ?_)
    · exact absurd rfl h11
    · refine g_aload_nq d_Tr_weightFor_14 rfl 0 rfl ?_
      refine g_get d_Tr_weightFor_15 f_Tr_9_Tr (by assumption) (by first | rfl | assumption) ?_
      refine g_iconst (v := 1) d_Tr_weightFor_18 rfl ?_
      refine g_icmp_ne (tgt := 29) d_Tr_weightFor_19 (by decide) (fun h19 => ?_) (fun h19 => ?_)
      · refine g_aload_nq d_Tr_weightFor_29 rfl 0 rfl ?_
        refine g_get d_Tr_weightFor_30 f_Tr_9_Tr (by assumption) (by first | rfl | assumption) ?_
        refine g_iconst (v := 2) d_Tr_weightFor_33 rfl ?_
        refine g_icmp_ne (tgt := 48) d_Tr_weightFor_34 (by decide) (fun h34 => ?_) (fun h34 => ?_)
        · have hQ := hn (fun z => h34 z)
          refine g_iconst (v := 0) d_Tr_weightFor_48 rfl ?_
          refine g_istore_n d_Tr_weightFor_49 rfl (by decide) rfl ?_
          refine g_iload_n d_Tr_weightFor_50 rfl 0 rfl ?_
          refine g_if_eq (tgt := 70) d_Tr_weightFor_51 (by decide) (fun _ => ?_) (fun h51 => absurd rfl h51)
          refine g_iconst (v := 0) d_Tr_weightFor_70 rfl ?_
          refine g_iret d_Tr_weightFor_71 ?_
          exact hQ
        · refine g_aload_nq d_Tr_weightFor_37 rfl 1 rfl ?_
          refine g_instY d_Tr_weightFor_38 t_Tr_33 h9 rfl h_Pi_Pi ?_
          first | refine g_if_eqB (tgt := 48) d_Tr_weightFor_41 (by decide) (fun h41 => ?_) (fun h41 => ?_) | refine g_if_eq (tgt := 48) d_Tr_weightFor_41 (by decide) (fun h41 => ?_) (fun h41 => ?_)
          · exact absurd h41 (by decide)
          · have hsub : sI S (460 + 3 * r) 0 = nI 2 := h34
            have hQ := hy hsub
            refine g_iconst (v := 1) d_Tr_weightFor_44 rfl ?_
            refine g_goto (tgt := 49) d_Tr_weightFor_45 (by decide) ?_
            refine g_istore_n d_Tr_weightFor_49 rfl (by decide) rfl ?_
            show G _ _ _ _ _ _ _ _ [(3, _), (0, _), (1, _), (2, _)] _ _
            refine g_iload_n d_Tr_weightFor_50 rfl 0 rfl ?_
            refine g_if_eq (tgt := 70) d_Tr_weightFor_51 (by decide) (fun h51 => absurd h51 (by decide)) (fun _ => ?_)
            refine g_aload_nq d_Tr_weightFor_54 rfl 1 rfl ?_
            refine g_aload_nq d_Tr_weightFor_55 rfl 2 rfl ?_
            refine g_aload_nq d_Tr_weightFor_56 rfl 3 rfl ?_
            refine g_callV d_Tr_weightFor_57 k_Tr_holdsFor l_Tr_35 i_Tr_holdsFor rfl p_Tr_holdsFor h0 (by rfl) (by rfl) (Nat.le_of_ble_eq_true rfl) (by decide) (C_Tr_holdsFor (c := 2) hR hr ht hc hN (fun Z9 hR9 hB9 => ⟨_, rfl, ?_⟩))
            have hQ := hQ Z9 hR9 hB9
            have h0 : zhs Z9 (ad (460 + 3 * r)) (.inr (9, [.int (sI S (460 + 3 * r) 0), .int (sI S (460 + 3 * r) 1), .ref (ad (461 + 3 * r)), .ref (ad (462 + 3 * r))])) := (hR9.rule hr).1
            first | refine g_if_eqB (tgt := 70) d_Tr_weightFor_60 (by decide) (fun h60 => ?_) (fun h60 => ?_) | refine g_if_eq (tgt := 70) d_Tr_weightFor_60 (by decide) (fun h60 => ?_) (fun h60 => ?_)
            · rw [if_neg h60] at hQ
              refine g_iconst (v := 0) d_Tr_weightFor_70 rfl ?_
              refine g_iret d_Tr_weightFor_71 ?_
              exact hQ
            · rw [if_pos h60] at hQ
              refine g_aload_nq d_Tr_weightFor_63 rfl 1 rfl ?_
              refine g_get d_Tr_weightFor_64 f_Tr_15_Tr (by assumption) (by first | rfl | assumption) ?_
              refine g_goto (tgt := 71) d_Tr_weightFor_67 (by decide) ?_
              refine g_iret d_Tr_weightFor_71 ?_
              exact hQ
      · refine g_aload_nq d_Tr_weightFor_22 rfl 1 rfl ?_
        refine g_instNo d_Tr_weightFor_23 t_Tr_31 h9 rfl (by simp [wnc]) ?_
        first | refine g_if_neB (tgt := 44) d_Tr_weightFor_26 (by decide) (fun h26 => ?_) (fun h26 => ?_) | refine g_if_ne (tgt := 44) d_Tr_weightFor_26 (by decide) (fun h26 => ?_) (fun h26 => ?_)
        · exact absurd rfl h26
        · refine g_aload_nq d_Tr_weightFor_29 rfl 0 rfl ?_
          refine g_get d_Tr_weightFor_30 f_Tr_9_Tr (by assumption) (by first | rfl | assumption) ?_
          refine g_iconst (v := 2) d_Tr_weightFor_33 rfl ?_
          refine g_icmp_ne (tgt := 48) d_Tr_weightFor_34 (by decide) (fun h34 => ?_) (fun h34 => ?_)
          · have hQ := hn (fun z => h34 z)
            refine g_iconst (v := 0) d_Tr_weightFor_48 rfl ?_
            refine g_istore_n d_Tr_weightFor_49 rfl (by decide) rfl ?_
            refine g_iload_n d_Tr_weightFor_50 rfl 0 rfl ?_
            refine g_if_eq (tgt := 70) d_Tr_weightFor_51 (by decide) (fun _ => ?_) (fun h51 => absurd rfl h51)
            refine g_iconst (v := 0) d_Tr_weightFor_70 rfl ?_
            refine g_iret d_Tr_weightFor_71 ?_
            exact hQ
          · refine g_aload_nq d_Tr_weightFor_37 rfl 1 rfl ?_
            refine g_instY d_Tr_weightFor_38 t_Tr_33 h9 rfl h_Pi_Pi ?_
            first | refine g_if_eqB (tgt := 48) d_Tr_weightFor_41 (by decide) (fun h41 => ?_) (fun h41 => ?_) | refine g_if_eq (tgt := 48) d_Tr_weightFor_41 (by decide) (fun h41 => ?_) (fun h41 => ?_)
            · exact absurd h41 (by decide)
            · have hsub : sI S (460 + 3 * r) 0 = nI 2 := h34
              have hQ := hy hsub
              refine g_iconst (v := 1) d_Tr_weightFor_44 rfl ?_
              refine g_goto (tgt := 49) d_Tr_weightFor_45 (by decide) ?_
              refine g_istore_n d_Tr_weightFor_49 rfl (by decide) rfl ?_
              show G _ _ _ _ _ _ _ _ [(3, _), (0, _), (1, _), (2, _)] _ _
              refine g_iload_n d_Tr_weightFor_50 rfl 0 rfl ?_
              refine g_if_eq (tgt := 70) d_Tr_weightFor_51 (by decide) (fun h51 => absurd h51 (by decide)) (fun _ => ?_)
              refine g_aload_nq d_Tr_weightFor_54 rfl 1 rfl ?_
              refine g_aload_nq d_Tr_weightFor_55 rfl 2 rfl ?_
              refine g_aload_nq d_Tr_weightFor_56 rfl 3 rfl ?_
              refine g_callV d_Tr_weightFor_57 k_Tr_holdsFor l_Tr_35 i_Tr_holdsFor rfl p_Tr_holdsFor h0 (by rfl) (by rfl) (Nat.le_of_ble_eq_true rfl) (by decide) (C_Tr_holdsFor (c := 2) hR hr ht hc hN (fun Z9 hR9 hB9 => ⟨_, rfl, ?_⟩))
              have hQ := hQ Z9 hR9 hB9
              have h0 : zhs Z9 (ad (460 + 3 * r)) (.inr (9, [.int (sI S (460 + 3 * r) 0), .int (sI S (460 + 3 * r) 1), .ref (ad (461 + 3 * r)), .ref (ad (462 + 3 * r))])) := (hR9.rule hr).1
              first | refine g_if_eqB (tgt := 70) d_Tr_weightFor_60 (by decide) (fun h60 => ?_) (fun h60 => ?_) | refine g_if_eq (tgt := 70) d_Tr_weightFor_60 (by decide) (fun h60 => ?_) (fun h60 => ?_)
              · rw [if_neg h60] at hQ
                refine g_iconst (v := 0) d_Tr_weightFor_70 rfl ?_
                refine g_iret d_Tr_weightFor_71 ?_
                exact hQ
              · rw [if_pos h60] at hQ
                refine g_aload_nq d_Tr_weightFor_63 rfl 1 rfl ?_
                refine g_get d_Tr_weightFor_64 f_Tr_15_Tr (by assumption) (by first | rfl | assumption) ?_
                refine g_goto (tgt := 71) d_Tr_weightFor_67 (by decide) ?_
                refine g_iret d_Tr_weightFor_71 ?_
                exact hQ
