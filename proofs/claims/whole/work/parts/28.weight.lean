/-! ToldRule.weight, ToldRule.isAbout -/

set_option maxHeartbeats 4000000 in
set_option maxRecDepth 100000 in
theorem C_Tr_weight {w : zC} {Z : zZ} {Q : zR → zZ → Prop} {a p q : Nat} {x y : Int32} (h0 : zhs Z a (.inr (9, [.int x, .int y, .ref p, .ref q]))) (hQ : Q (.inl (some (.int y))) Z) : Cz w (0, 0) y_Tr_weight (Cond.code y_Tr_weight c_Tr_weight 1 r_Tr_weight :: wz) [.ref a] Z Q := by
  refine Cz.of (by decide +kernel) (by simp [lg_sl, Value.category]) ?_
  show G _ _ _ _ _ _ _ _ [(0, _)] _ _
  refine g_aload_nq d_Tr_weight_0 rfl 0 rfl ?_
  refine g_get d_Tr_weight_1 f_Tr_15_Tr (by assumption) (by first | rfl | assumption) ?_
  refine g_iret d_Tr_weight_4 ?_
  exact hQ

set_option maxHeartbeats 4000000 in
set_option maxRecDepth 100000 in
theorem C_Tr_isAbout0 {w : zC} {Z : zZ} {Q : zR → zZ → Prop} {ad : Nat → Nat} {S : ST} (hR : Rep w ad S Z) {r k : Nat} (hr : r < sN S 3) (hk : k < sN S 0) (hQ : Q (.inl (some (.int (zb (sI S (460 + 3 * r) 0 = nI 0))))) Z) : Cz w (0, 0) y_Tr_isAbout (Cond.code y_Tr_isAbout c_Tr_isAbout 2 r_Tr_isAbout :: wz) [.ref (ad (460 + 3 * r)), .ref (ad (100 + 3 * k))] Z Q := by
  refine Cz.of (by decide +kernel) (by simp [lg_sl, Value.category]) ?_
  show G _ _ _ _ _ _ _ _ [(0, _), (1, _)] _ _
  have h0 : zhs Z (ad (460 + 3 * r)) (.inr (9, [.int (sI S (460 + 3 * r) 0), .int (sI S (460 + 3 * r) 1), .ref (ad (461 + 3 * r)), .ref (ad (462 + 3 * r))])) := (hR.rule hr).1
  have h9 : zhs Z (ad (100 + 3 * k)) (.inr (6, [.int (sI S (100 + 3 * k) 0), .int ((sI S (100 + 3 * k) 0 * 3 + 0) * 160 + nI k), .ref (ad (101 + 3 * k)), .int (sI S (100 + 3 * k) 3), .ref (ad (102 + 3 * k))])) := (hR.part hk).1
  refine g_aload_nq d_Tr_isAbout_0 rfl 0 rfl ?_
  refine g_get d_Tr_isAbout_1 f_Tr_9_Tr (by assumption) (by first | rfl | assumption) ?_
  first | refine g_if_neB (tgt := 14) d_Tr_isAbout_4 (by decide) (fun h4 => ?_) (fun h4 => ?_) | refine g_if_ne (tgt := 14) d_Tr_isAbout_4 (by decide) (fun h4 => ?_) (fun h4 => ?_)
  · refine g_aload_nq d_Tr_isAbout_14 rfl 0 rfl ?_
    refine g_get d_Tr_isAbout_15 f_Tr_9_Tr (by assumption) (by first | rfl | assumption) ?_
    refine g_iconst (v := 1) d_Tr_isAbout_18 rfl ?_
    refine g_icmp_ne (tgt := 29) d_Tr_isAbout_19 (by decide) (fun h19 => ?_) (fun h19 => ?_)
    · refine g_aload_nq d_Tr_isAbout_29 rfl 0 rfl ?_
      refine g_get d_Tr_isAbout_30 f_Tr_9_Tr (by assumption) (by first | rfl | assumption) ?_
      refine g_iconst (v := 2) d_Tr_isAbout_33 rfl ?_
      refine g_icmp_ne (tgt := 48) d_Tr_isAbout_34 (by decide) (fun h34 => ?_) (fun h34 => ?_)
      · have hsub : ¬ sI S (460 + 3 * r) 0 = nI 0 := fun z => h4 z
        rw [zb_f hsub] at hQ
        refine g_iconst (v := 0) d_Tr_isAbout_48 rfl ?_
        refine g_zret d_Tr_isAbout_49 ?_ ?_
        · first | rfl | exact zb_nar _ | exact zb_narc (by assumption)
        · exact hQ
      · refine g_aload_nq d_Tr_isAbout_37 rfl 1 rfl ?_
        refine g_instNo d_Tr_isAbout_38 t_Tr_33 h9 rfl (by simp [wnc]) ?_
        first | refine g_if_eqB (tgt := 48) d_Tr_isAbout_41 (by decide) (fun h41 => ?_) (fun h41 => ?_) | refine g_if_eq (tgt := 48) d_Tr_isAbout_41 (by decide) (fun h41 => ?_) (fun h41 => ?_)
        · have hsub : ¬ sI S (460 + 3 * r) 0 = nI 0 := fun z => h4 z
          rw [zb_f hsub] at hQ
          refine g_iconst (v := 0) d_Tr_isAbout_48 rfl ?_
          refine g_zret d_Tr_isAbout_49 ?_ ?_
          · first | rfl | exact zb_nar _ | exact zb_narc (by assumption)
          · exact hQ
        · exact absurd rfl h41
    · refine g_aload_nq d_Tr_isAbout_22 rfl 1 rfl ?_
      refine g_instNo d_Tr_isAbout_23 t_Tr_31 h9 rfl (by simp [wnc]) ?_
      first | refine g_if_neB (tgt := 44) d_Tr_isAbout_26 (by decide) (fun h26 => ?_) (fun h26 => ?_) | refine g_if_ne (tgt := 44) d_Tr_isAbout_26 (by decide) (fun h26 => ?_) (fun h26 => ?_)
      · exact absurd rfl h26
      · refine g_aload_nq d_Tr_isAbout_29 rfl 0 rfl ?_
        refine g_get d_Tr_isAbout_30 f_Tr_9_Tr (by assumption) (by first | rfl | assumption) ?_
        refine g_iconst (v := 2) d_Tr_isAbout_33 rfl ?_
        refine g_icmp_ne (tgt := 48) d_Tr_isAbout_34 (by decide) (fun h34 => ?_) (fun h34 => ?_)
        · have hsub : ¬ sI S (460 + 3 * r) 0 = nI 0 := fun z => h4 z
          rw [zb_f hsub] at hQ
          refine g_iconst (v := 0) d_Tr_isAbout_48 rfl ?_
          refine g_zret d_Tr_isAbout_49 ?_ ?_
          · first | rfl | exact zb_nar _ | exact zb_narc (by assumption)
          · exact hQ
        · refine g_aload_nq d_Tr_isAbout_37 rfl 1 rfl ?_
          refine g_instNo d_Tr_isAbout_38 t_Tr_33 h9 rfl (by simp [wnc]) ?_
          first | refine g_if_eqB (tgt := 48) d_Tr_isAbout_41 (by decide) (fun h41 => ?_) (fun h41 => ?_) | refine g_if_eq (tgt := 48) d_Tr_isAbout_41 (by decide) (fun h41 => ?_) (fun h41 => ?_)
          · have hsub : ¬ sI S (460 + 3 * r) 0 = nI 0 := fun z => h4 z
            rw [zb_f hsub] at hQ
            refine g_iconst (v := 0) d_Tr_isAbout_48 rfl ?_
            refine g_zret d_Tr_isAbout_49 ?_ ?_
            · first | rfl | exact zb_nar _ | exact zb_narc (by assumption)
            · exact hQ
          · exact absurd rfl h41
  · refine g_aload_nq d_Tr_isAbout_7 rfl 1 rfl ?_
    refine g_instY d_Tr_isAbout_8 t_Tr_29 h9 rfl h_Pa_Pa ?_
    first | refine g_if_neB (tgt := 44) d_Tr_isAbout_11 (by decide) (fun h11 => ?_) (fun h11 => ?_) | refine g_if_ne (tgt := 44) d_Tr_isAbout_11 (by decide) (fun h11 => ?_) (fun h11 => ?_)
    · have hsub : sI S (460 + 3 * r) 0 = nI 0 := h4
      rw [zb_t hsub] at hQ
      refine g_iconst (v := 1) d_Tr_isAbout_44 rfl ?_
      refine g_goto (tgt := 49) d_Tr_isAbout_45 (by decide) ?_
      refine g_zret d_Tr_isAbout_49 ?_ ?_
      · first | rfl | exact zb_nar _ | exact zb_narc (by assumption)
      · exact hQ
    · exact absurd h11 (by decide)

set_option maxHeartbeats 4000000 in
set_option maxRecDepth 100000 in
theorem C_Tr_isAbout1 {w : zC} {Z : zZ} {Q : zR → zZ → Prop} {ad : Nat → Nat} {S : ST} (hR : Rep w ad S Z) {r k : Nat} (hr : r < sN S 3) (hk : k < sN S 1) (hQ : Q (.inl (some (.int (zb (sI S (460 + 3 * r) 0 = nI 1))))) Z) : Cz w (0, 0) y_Tr_isAbout (Cond.code y_Tr_isAbout c_Tr_isAbout 2 r_Tr_isAbout :: wz) [.ref (ad (460 + 3 * r)), .ref (ad (220 + 2 * k))] Z Q := by
  refine Cz.of (by decide +kernel) (by simp [lg_sl, Value.category]) ?_
  show G _ _ _ _ _ _ _ _ [(0, _), (1, _)] _ _
  have h0 : zhs Z (ad (460 + 3 * r)) (.inr (9, [.int (sI S (460 + 3 * r) 0), .int (sI S (460 + 3 * r) 1), .ref (ad (461 + 3 * r)), .ref (ad (462 + 3 * r))])) := (hR.rule hr).1
  have h9 : zhs Z (ad (220 + 2 * k)) (.inr (7, [.int (sI S (220 + 2 * k) 0), .int ((sI S (220 + 2 * k) 0 * 3 + 1) * 160 + nI k), .ref (ad (221 + 2 * k)), .int (sI S (220 + 2 * k) 3), .int (sI S (220 + 2 * k) 4), .int (sI S (220 + 2 * k) 5)])) := (hR.net hk).1
  refine g_aload_nq d_Tr_isAbout_0 rfl 0 rfl ?_
  refine g_get d_Tr_isAbout_1 f_Tr_9_Tr (by assumption) (by first | rfl | assumption) ?_
  first | refine g_if_neB (tgt := 14) d_Tr_isAbout_4 (by decide) (fun h4 => ?_) (fun h4 => ?_) | refine g_if_ne (tgt := 14) d_Tr_isAbout_4 (by decide) (fun h4 => ?_) (fun h4 => ?_)
  · refine g_aload_nq d_Tr_isAbout_14 rfl 0 rfl ?_
    refine g_get d_Tr_isAbout_15 f_Tr_9_Tr (by assumption) (by first | rfl | assumption) ?_
    refine g_iconst (v := 1) d_Tr_isAbout_18 rfl ?_
    refine g_icmp_ne (tgt := 29) d_Tr_isAbout_19 (by decide) (fun h19 => ?_) (fun h19 => ?_)
    · refine g_aload_nq d_Tr_isAbout_29 rfl 0 rfl ?_
      refine g_get d_Tr_isAbout_30 f_Tr_9_Tr (by assumption) (by first | rfl | assumption) ?_
      refine g_iconst (v := 2) d_Tr_isAbout_33 rfl ?_
      refine g_icmp_ne (tgt := 48) d_Tr_isAbout_34 (by decide) (fun h34 => ?_) (fun h34 => ?_)
      · have hsub : ¬ sI S (460 + 3 * r) 0 = nI 1 := fun z => h19 z
        rw [zb_f hsub] at hQ
        refine g_iconst (v := 0) d_Tr_isAbout_48 rfl ?_
        refine g_zret d_Tr_isAbout_49 ?_ ?_
        · first | rfl | exact zb_nar _ | exact zb_narc (by assumption)
        · exact hQ
      · refine g_aload_nq d_Tr_isAbout_37 rfl 1 rfl ?_
        refine g_instNo d_Tr_isAbout_38 t_Tr_33 h9 rfl (by simp [wnc]) ?_
        first | refine g_if_eqB (tgt := 48) d_Tr_isAbout_41 (by decide) (fun h41 => ?_) (fun h41 => ?_) | refine g_if_eq (tgt := 48) d_Tr_isAbout_41 (by decide) (fun h41 => ?_) (fun h41 => ?_)
        · have hsub : ¬ sI S (460 + 3 * r) 0 = nI 1 := fun z => h19 z
          rw [zb_f hsub] at hQ
          refine g_iconst (v := 0) d_Tr_isAbout_48 rfl ?_
          refine g_zret d_Tr_isAbout_49 ?_ ?_
          · first | rfl | exact zb_nar _ | exact zb_narc (by assumption)
          · exact hQ
        · exact absurd rfl h41
    · refine g_aload_nq d_Tr_isAbout_22 rfl 1 rfl ?_
      refine g_instY d_Tr_isAbout_23 t_Tr_31 h9 rfl h_Ne_Ne ?_
      first | refine g_if_neB (tgt := 44) d_Tr_isAbout_26 (by decide) (fun h26 => ?_) (fun h26 => ?_) | refine g_if_ne (tgt := 44) d_Tr_isAbout_26 (by decide) (fun h26 => ?_) (fun h26 => ?_)
      · have hsub : sI S (460 + 3 * r) 0 = nI 1 := h19
        rw [zb_t hsub] at hQ
        refine g_iconst (v := 1) d_Tr_isAbout_44 rfl ?_
        refine g_goto (tgt := 49) d_Tr_isAbout_45 (by decide) ?_
        refine g_zret d_Tr_isAbout_49 ?_ ?_
        · first | rfl | exact zb_nar _ | exact zb_narc (by assumption)
        · exact hQ
      · exact absurd h26 (by decide)
  · refine g_aload_nq d_Tr_isAbout_7 rfl 1 rfl ?_
    refine g_instNo d_Tr_isAbout_8 t_Tr_29 h9 rfl (by simp [wnc]) ?_
    first | refine g_if_neB (tgt := 44) d_Tr_isAbout_11 (by decide) (fun h11 => ?_) (fun h11 => ?_) | refine g_if_ne (tgt := 44) d_Tr_isAbout_11 (by decide) (fun h11 => ?_) (fun h11 => ?_)
    · exact absurd rfl h11
    · refine g_aload_nq d_Tr_isAbout_14 rfl 0 rfl ?_
      refine g_get d_Tr_isAbout_15 f_Tr_9_Tr (by assumption) (by first | rfl | assumption) ?_
      refine g_iconst (v := 1) d_Tr_isAbout_18 rfl ?_
      refine g_icmp_ne (tgt := 29) d_Tr_isAbout_19 (by decide) (fun h19 => ?_) (fun h19 => ?_)
      · refine g_aload_nq d_Tr_isAbout_29 rfl 0 rfl ?_
        refine g_get d_Tr_isAbout_30 f_Tr_9_Tr (by assumption) (by first | rfl | assumption) ?_
        refine g_iconst (v := 2) d_Tr_isAbout_33 rfl ?_
        refine g_icmp_ne (tgt := 48) d_Tr_isAbout_34 (by decide) (fun h34 => ?_) (fun h34 => ?_)
        · have hsub : ¬ sI S (460 + 3 * r) 0 = nI 1 := fun z => h19 z
          rw [zb_f hsub] at hQ
          refine g_iconst (v := 0) d_Tr_isAbout_48 rfl ?_
          refine g_zret d_Tr_isAbout_49 ?_ ?_
          · first | rfl | exact zb_nar _ | exact zb_narc (by assumption)
          · exact hQ
        · refine g_aload_nq d_Tr_isAbout_37 rfl 1 rfl ?_
          refine g_instNo d_Tr_isAbout_38 t_Tr_33 h9 rfl (by simp [wnc]) ?_
          first | refine g_if_eqB (tgt := 48) d_Tr_isAbout_41 (by decide) (fun h41 => ?_) (fun h41 => ?_) | refine g_if_eq (tgt := 48) d_Tr_isAbout_41 (by decide) (fun h41 => ?_) (fun h41 => ?_)
          · have hsub : ¬ sI S (460 + 3 * r) 0 = nI 1 := fun z => h19 z
            rw [zb_f hsub] at hQ
            refine g_iconst (v := 0) d_Tr_isAbout_48 rfl ?_
            refine g_zret d_Tr_isAbout_49 ?_ ?_
            · first | rfl | exact zb_nar _ | exact zb_narc (by assumption)
            · exact hQ
          · exact absurd rfl h41
      · refine g_aload_nq d_Tr_isAbout_22 rfl 1 rfl ?_
        refine g_instY d_Tr_isAbout_23 t_Tr_31 h9 rfl h_Ne_Ne ?_
        first | refine g_if_neB (tgt := 44) d_Tr_isAbout_26 (by decide) (fun h26 => ?_) (fun h26 => ?_) | refine g_if_ne (tgt := 44) d_Tr_isAbout_26 (by decide) (fun h26 => ?_) (fun h26 => ?_)
        · have hsub : sI S (460 + 3 * r) 0 = nI 1 := h19
          rw [zb_t hsub] at hQ
          refine g_iconst (v := 1) d_Tr_isAbout_44 rfl ?_
          refine g_goto (tgt := 49) d_Tr_isAbout_45 (by decide) ?_
          refine g_zret d_Tr_isAbout_49 ?_ ?_
          · first | rfl | exact zb_nar _ | exact zb_narc (by assumption)
          · exact hQ
        · exact absurd h26 (by decide)

set_option maxHeartbeats 4000000 in
set_option maxRecDepth 100000 in
theorem C_Tr_isAbout2 {w : zC} {Z : zZ} {Q : zR → zZ → Prop} {ad : Nat → Nat} {S : ST} (hR : Rep w ad S Z) {r k : Nat} (hr : r < sN S 3) (hk : k < sN S 2) (hQ : Q (.inl (some (.int (zb (sI S (460 + 3 * r) 0 = nI 2))))) Z) : Cz w (0, 0) y_Tr_isAbout (Cond.code y_Tr_isAbout c_Tr_isAbout 2 r_Tr_isAbout :: wz) [.ref (ad (460 + 3 * r)), .ref (ad (300 + k))] Z Q := by
  refine Cz.of (by decide +kernel) (by simp [lg_sl, Value.category]) ?_
  show G _ _ _ _ _ _ _ _ [(0, _), (1, _)] _ _
  have h0 : zhs Z (ad (460 + 3 * r)) (.inr (9, [.int (sI S (460 + 3 * r) 0), .int (sI S (460 + 3 * r) 1), .ref (ad (461 + 3 * r)), .ref (ad (462 + 3 * r))])) := (hR.rule hr).1
  have h9 : zhs Z (ad (300 + k)) (.inr (8, [.int (sI S (300 + k) 0), .int ((sI S (300 + k) 0 * 3 + 2) * 160 + nI k), .ref (ad (100 + 3 * sN S (2000 + k))), .int (sI S (300 + k) 3), va_rf ((sR S (300 + k) 4).map (fun n => ad (220 + 2 * n)))])) := hR.pin hk
  refine g_aload_nq d_Tr_isAbout_0 rfl 0 rfl ?_
  refine g_get d_Tr_isAbout_1 f_Tr_9_Tr (by assumption) (by first | rfl | assumption) ?_
  first | refine g_if_neB (tgt := 14) d_Tr_isAbout_4 (by decide) (fun h4 => ?_) (fun h4 => ?_) | refine g_if_ne (tgt := 14) d_Tr_isAbout_4 (by decide) (fun h4 => ?_) (fun h4 => ?_)
  · refine g_aload_nq d_Tr_isAbout_14 rfl 0 rfl ?_
    refine g_get d_Tr_isAbout_15 f_Tr_9_Tr (by assumption) (by first | rfl | assumption) ?_
    refine g_iconst (v := 1) d_Tr_isAbout_18 rfl ?_
    refine g_icmp_ne (tgt := 29) d_Tr_isAbout_19 (by decide) (fun h19 => ?_) (fun h19 => ?_)
    · refine g_aload_nq d_Tr_isAbout_29 rfl 0 rfl ?_
      refine g_get d_Tr_isAbout_30 f_Tr_9_Tr (by assumption) (by first | rfl | assumption) ?_
      refine g_iconst (v := 2) d_Tr_isAbout_33 rfl ?_
      refine g_icmp_ne (tgt := 48) d_Tr_isAbout_34 (by decide) (fun h34 => ?_) (fun h34 => ?_)
      · have hsub : ¬ sI S (460 + 3 * r) 0 = nI 2 := fun z => h34 z
        rw [zb_f hsub] at hQ
        refine g_iconst (v := 0) d_Tr_isAbout_48 rfl ?_
        refine g_zret d_Tr_isAbout_49 ?_ ?_
        · first | rfl | exact zb_nar _ | exact zb_narc (by assumption)
        · exact hQ
      · refine g_aload_nq d_Tr_isAbout_37 rfl 1 rfl ?_
        refine g_instY d_Tr_isAbout_38 t_Tr_33 h9 rfl h_Pi_Pi ?_
        first | refine g_if_eqB (tgt := 48) d_Tr_isAbout_41 (by decide) (fun h41 => ?_) (fun h41 => ?_) | refine g_if_eq (tgt := 48) d_Tr_isAbout_41 (by decide) (fun h41 => ?_) (fun h41 => ?_)
        · exact absurd h41 (by decide)
        · have hsub : sI S (460 + 3 * r) 0 = nI 2 := h34
          rw [zb_t hsub] at hQ
          refine g_iconst (v := 1) d_Tr_isAbout_44 rfl ?_
          refine g_goto (tgt := 49) d_Tr_isAbout_45 (by decide) ?_
          refine g_zret d_Tr_isAbout_49 ?_ ?_
          · first | rfl | exact zb_nar _ | exact zb_narc (by assumption)
          · exact hQ
    · refine g_aload_nq d_Tr_isAbout_22 rfl 1 rfl ?_
      refine g_instNo d_Tr_isAbout_23 t_Tr_31 h9 rfl (by simp [wnc]) ?_
      first | refine g_if_neB (tgt := 44) d_Tr_isAbout_26 (by decide) (fun h26 => ?_) (fun h26 => ?_) | refine g_if_ne (tgt := 44) d_Tr_isAbout_26 (by decide) (fun h26 => ?_) (fun h26 => ?_)
      · exact absurd rfl h26
      · refine g_aload_nq d_Tr_isAbout_29 rfl 0 rfl ?_
        refine g_get d_Tr_isAbout_30 f_Tr_9_Tr (by assumption) (by first | rfl | assumption) ?_
        refine g_iconst (v := 2) d_Tr_isAbout_33 rfl ?_
        refine g_icmp_ne (tgt := 48) d_Tr_isAbout_34 (by decide) (fun h34 => ?_) (fun h34 => ?_)
        · have hsub : ¬ sI S (460 + 3 * r) 0 = nI 2 := fun z => h34 z
          rw [zb_f hsub] at hQ
          refine g_iconst (v := 0) d_Tr_isAbout_48 rfl ?_
          refine g_zret d_Tr_isAbout_49 ?_ ?_
          · first | rfl | exact zb_nar _ | exact zb_narc (by assumption)
          · exact hQ
        · refine g_aload_nq d_Tr_isAbout_37 rfl 1 rfl ?_
          refine g_instY d_Tr_isAbout_38 t_Tr_33 h9 rfl h_Pi_Pi ?_
          first | refine g_if_eqB (tgt := 48) d_Tr_isAbout_41 (by decide) (fun h41 => ?_) (fun h41 => ?_) | refine g_if_eq (tgt := 48) d_Tr_isAbout_41 (by decide) (fun h41 => ?_) (fun h41 => ?_)
          · exact absurd h41 (by decide)
          · have hsub : sI S (460 + 3 * r) 0 = nI 2 := h34
            rw [zb_t hsub] at hQ
            refine g_iconst (v := 1) d_Tr_isAbout_44 rfl ?_
            refine g_goto (tgt := 49) d_Tr_isAbout_45 (by decide) ?_
            refine g_zret d_Tr_isAbout_49 ?_ ?_
            · first | rfl | exact zb_nar _ | exact zb_narc (by assumption)
            · exact hQ
  · refine g_aload_nq d_Tr_isAbout_7 rfl 1 rfl ?_
    refine g_instNo d_Tr_isAbout_8 t_Tr_29 h9 rfl (by simp [wnc]) ?_
    first | refine g_if_neB (tgt := 44) d_Tr_isAbout_11 (by decide) (fun h11 => ?_) (fun h11 => ?_) | refine g_if_ne (tgt := 44) d_Tr_isAbout_11 (by decide) (fun h11 => ?_) (fun h11 => ?_)
    · exact absurd rfl h11
    · refine g_aload_nq d_Tr_isAbout_14 rfl 0 rfl ?_
      refine g_get d_Tr_isAbout_15 f_Tr_9_Tr (by assumption) (by first | rfl | assumption) ?_
      refine g_iconst (v := 1) d_Tr_isAbout_18 rfl ?_
      refine g_icmp_ne (tgt := 29) d_Tr_isAbout_19 (by decide) (fun h19 => ?_) (fun h19 => ?_)
      · refine g_aload_nq d_Tr_isAbout_29 rfl 0 rfl ?_
        refine g_get d_Tr_isAbout_30 f_Tr_9_Tr (by assumption) (by first | rfl | assumption) ?_
        refine g_iconst (v := 2) d_Tr_isAbout_33 rfl ?_
        refine g_icmp_ne (tgt := 48) d_Tr_isAbout_34 (by decide) (fun h34 => ?_) (fun h34 => ?_)
        · have hsub : ¬ sI S (460 + 3 * r) 0 = nI 2 := fun z => h34 z
          rw [zb_f hsub] at hQ
          refine g_iconst (v := 0) d_Tr_isAbout_48 rfl ?_
          refine g_zret d_Tr_isAbout_49 ?_ ?_
          · first | rfl | exact zb_nar _ | exact zb_narc (by assumption)
          · exact hQ
        · refine g_aload_nq d_Tr_isAbout_37 rfl 1 rfl ?_
          refine g_instY d_Tr_isAbout_38 t_Tr_33 h9 rfl h_Pi_Pi ?_
          first | refine g_if_eqB (tgt := 48) d_Tr_isAbout_41 (by decide) (fun h41 => ?_) (fun h41 => ?_) | refine g_if_eq (tgt := 48) d_Tr_isAbout_41 (by decide) (fun h41 => ?_) (fun h41 => ?_)
          · exact absurd h41 (by decide)
          · have hsub : sI S (460 + 3 * r) 0 = nI 2 := h34
            rw [zb_t hsub] at hQ
            refine g_iconst (v := 1) d_Tr_isAbout_44 rfl ?_
            refine g_goto (tgt := 49) d_Tr_isAbout_45 (by decide) ?_
            refine g_zret d_Tr_isAbout_49 ?_ ?_
            · first | rfl | exact zb_nar _ | exact zb_narc (by assumption)
            · exact hQ
      · refine g_aload_nq d_Tr_isAbout_22 rfl 1 rfl ?_
        refine g_instNo d_Tr_isAbout_23 t_Tr_31 h9 rfl (by simp [wnc]) ?_
        first | refine g_if_neB (tgt := 44) d_Tr_isAbout_26 (by decide) (fun h26 => ?_) (fun h26 => ?_) | refine g_if_ne (tgt := 44) d_Tr_isAbout_26 (by decide) (fun h26 => ?_) (fun h26 => ?_)
        · exact absurd rfl h26
        · refine g_aload_nq d_Tr_isAbout_29 rfl 0 rfl ?_
          refine g_get d_Tr_isAbout_30 f_Tr_9_Tr (by assumption) (by first | rfl | assumption) ?_
          refine g_iconst (v := 2) d_Tr_isAbout_33 rfl ?_
          refine g_icmp_ne (tgt := 48) d_Tr_isAbout_34 (by decide) (fun h34 => ?_) (fun h34 => ?_)
          · have hsub : ¬ sI S (460 + 3 * r) 0 = nI 2 := fun z => h34 z
            rw [zb_f hsub] at hQ
            refine g_iconst (v := 0) d_Tr_isAbout_48 rfl ?_
            refine g_zret d_Tr_isAbout_49 ?_ ?_
            · first | rfl | exact zb_nar _ | exact zb_narc (by assumption)
            · exact hQ
          · refine g_aload_nq d_Tr_isAbout_37 rfl 1 rfl ?_
            refine g_instY d_Tr_isAbout_38 t_Tr_33 h9 rfl h_Pi_Pi ?_
            first | refine g_if_eqB (tgt := 48) d_Tr_isAbout_41 (by decide) (fun h41 => ?_) (fun h41 => ?_) | refine g_if_eq (tgt := 48) d_Tr_isAbout_41 (by decide) (fun h41 => ?_) (fun h41 => ?_)
            · exact absurd h41 (by decide)
            · have hsub : sI S (460 + 3 * r) 0 = nI 2 := h34
              rw [zb_t hsub] at hQ
              refine g_iconst (v := 1) d_Tr_isAbout_44 rfl ?_
              refine g_goto (tgt := 49) d_Tr_isAbout_45 (by decide) ?_
              refine g_zret d_Tr_isAbout_49 ?_ ?_
              · first | rfl | exact zb_nar _ | exact zb_narc (by assumption)
              · exact hQ
