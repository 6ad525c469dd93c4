/-! Pin.moveTo -/
set_option maxHeartbeats 4000000 in
set_option maxRecDepth 100000 in
theorem C_Pi_moveTo_nn {w : zC} {Z : zZ} {Q : zR → zZ → Prop} {ad : Nat → Nat} {S : ST} (hR : Rep w ad S Z) {a d : Nat} {v0 v1 v2 : Value} (hd : d < 10) (ha : ∀ n, n < sN S 1 → a ≠ ad (220 + 2 * n) ∧ a ≠ ad (221 + 2 * n)) (hz : zhs Z a (.inr (8, [v0, v1, v2, .int (nI d), .null]))) (hQ : Q (.inl (some (.int 0))) Z) : Cz w (2, 43) y_Pi_moveTo (Cond.code y_Pi_moveTo c_Pi_moveTo 2 r_Pi_moveTo :: wz) [.ref a, .null] Z Q := by
  refine Cz.of (by decide +kernel) (by simp [lg_sl, Value.category]) ?_
  show G _ _ _ _ _ _ _ _ [(0, _), (1, _)] _ _
  refine g_aload_nq d_Pi_moveTo_0 rfl 0 rfl ?_
  refine g_get d_Pi_moveTo_1 f_Pi_15_Pi (by assumption) (by first | rfl | assumption) ?_
  refine g_aload_nq d_Pi_moveTo_4 rfl 1 rfl ?_
  refine g_acmp_ne (rx := none) (ry := none) (tgt := 10) d_Pi_moveTo_5 (by decide) (fun h5 => absurd rfl h5) (fun _ => ?_)
  refine g_iconst (v := 0) d_Pi_moveTo_8 rfl ?_
  refine g_zret d_Pi_moveTo_9 ?_ ?_
  · first | rfl | exact zb_nar _ | exact zb_narc (by assumption)
  · exact hQ

set_option maxHeartbeats 4000000 in
set_option maxRecDepth 100000 in
theorem C_Pi_moveTo_ss0 {w : zC} {Z : zZ} {Q : zR → zZ → Prop} {ad : Nat → Nat} {S : ST} (hR : Rep w ad S Z) {a d : Nat} {v0 v1 v2 : Value} (hd : d < 10) (ha : ∀ n, n < sN S 1 → a ≠ ad (220 + 2 * n) ∧ a ≠ ad (221 + 2 * n)) {n : Nat} (hz : zhs Z a (.inr (8, [v0, v1, v2, .int (nI d), .ref (ad (220 + 2 * n))]))) (hQ : Q (.inl (some (.int 0))) Z) : Cz w (2, 43) y_Pi_moveTo (Cond.code y_Pi_moveTo c_Pi_moveTo 2 r_Pi_moveTo :: wz) [.ref a, .ref (ad (220 + 2 * n))] Z Q := by
  refine Cz.of (by decide +kernel) (by simp [lg_sl, Value.category]) ?_
  show G _ _ _ _ _ _ _ _ [(0, _), (1, _)] _ _
  refine g_aload_nq d_Pi_moveTo_0 rfl 0 rfl ?_
  refine g_get d_Pi_moveTo_1 f_Pi_15_Pi (by assumption) (by first | rfl | assumption) ?_
  refine g_aload_nq d_Pi_moveTo_4 rfl 1 rfl ?_
  refine g_acmp_ne (rx := some (ad (220 + 2 * n))) (ry := some (ad (220 + 2 * n))) (tgt := 10) d_Pi_moveTo_5 (by decide) (fun h5 => absurd rfl h5) (fun _ => ?_)
  refine g_iconst (v := 0) d_Pi_moveTo_8 rfl ?_
  refine g_zret d_Pi_moveTo_9 ?_ ?_
  · first | rfl | exact zb_nar _ | exact zb_narc (by assumption)
  · exact hQ

set_option maxHeartbeats 4000000 in
set_option maxRecDepth 100000 in
theorem C_Pi_moveTo_sn {w : zC} {Z : zZ} {Q : zR → zZ → Prop} {ad : Nat → Nat} {S : ST} (hR : Rep w ad S Z) {a d : Nat} {v0 v1 v2 : Value} (hd : d < 10) (ha : ∀ n, n < sN S 1 → a ≠ ad (220 + 2 * n) ∧ a ≠ ad (221 + 2 * n)) {n : Nat} (ho : n < sN S 1) (hz : zhs Z a (.inr (8, [v0, v1, v2, .int (nI d), .ref (ad (220 + 2 * n))]))) (hQ : ∀ Z', Rep w ad (cntN S n d (-1)) Z' → zhs Z' a (.inr (8, [v0, v1, v2, .int (nI d), .ref (ad (220 + 2 * n))])) → Z'.2.2 = Z.2.2 → Q (.inl (some (.int 1))) (zput Z' a (.inr (8, [v0, v1, v2, .int (nI d), .null])))) : Cz w (2, 43) y_Pi_moveTo (Cond.code y_Pi_moveTo c_Pi_moveTo 2 r_Pi_moveTo :: wz) [.ref a, .null] Z Q := by
  refine Cz.of (by decide +kernel) (by simp [lg_sl, Value.category]) ?_
  show G _ _ _ _ _ _ _ _ [(0, _), (1, _)] _ _
  refine g_aload_nq d_Pi_moveTo_0 rfl 0 rfl ?_
  refine g_get d_Pi_moveTo_1 f_Pi_15_Pi (by assumption) (by first | rfl | assumption) ?_
  refine g_aload_nq d_Pi_moveTo_4 rfl 1 rfl ?_
  refine g_acmp_ne (rx := some (ad (220 + 2 * n))) (ry := none) (tgt := 10) d_Pi_moveTo_5 (by decide) (fun _ => ?_) (fun h5 => absurd h5 (by simp))
  refine g_aload_nq d_Pi_moveTo_10 rfl 0 rfl ?_
  refine g_get d_Pi_moveTo_11 f_Pi_15_Pi (by assumption) (by first | rfl | assumption) ?_
  refine g_ifnull d_Pi_moveTo_14 ?_
  refine g_aload_nq d_Pi_moveTo_17 rfl 0 rfl ?_
  refine g_get d_Pi_moveTo_18 f_Pi_15_Pi (by assumption) (by first | rfl | assumption) ?_
  refine g_aload_nq d_Pi_moveTo_21 rfl 0 rfl ?_
  refine g_get d_Pi_moveTo_22 f_Pi_25_Pi (by assumption) (by first | rfl | assumption) ?_
  refine g_iconst (v := (-1)) d_Pi_moveTo_25 rfl ?_
  refine g_callU d_Pi_moveTo_26 k_Ph_countPins l_Pi_29 e_Ne_Ph_countPins z_Ph_countPins (by decide +kernel) rfl i_Ph_countPins rfl q_Ne_Ne_countPins_Ph (hR.net (ho)).1 (by rfl) (by rfl) (Nat.le_of_ble_eq_true rfl) (by decide) (A_cntN hR (ho) hd (fun Z1 hR1 F1 B1 => ⟨_, rfl, ?_⟩))
  have hz := F1 a _ (ha _ (ho)).1 (ha _ (ho)).2 hz
  refine g_aload_nq d_Pi_moveTo_29 rfl 1 rfl ?_
  refine g_ifnullN (tgt := 42) d_Pi_moveTo_30 (by decide) ?_
  refine g_aload_nq d_Pi_moveTo_42 rfl 0 rfl ?_
  refine g_aload_nq d_Pi_moveTo_43 rfl 1 rfl ?_
  refine g_put d_Pi_moveTo_44 w_Pi_15_Pi (by assumption) (by first | rfl | exact zb_nar _) (by first | rfl | exact zb_fit _ | exact zrf_fit _) (by first | exact Nat.le_of_ble_eq_true rfl | omega) ?_
  refine g_iconst (v := 1) d_Pi_moveTo_47 rfl ?_
  refine g_zret d_Pi_moveTo_48 ?_ ?_
  · first | rfl | exact zb_nar _ | exact zb_narc (by assumption)
  · exact hQ _ hR1 hz (B1)

set_option maxHeartbeats 4000000 in
set_option maxRecDepth 100000 in
theorem C_Pi_moveTo_ns {w : zC} {Z : zZ} {Q : zR → zZ → Prop} {ad : Nat → Nat} {S : ST} (hR : Rep w ad S Z) {a d : Nat} {v0 v1 v2 : Value} (hd : d < 10) (ha : ∀ n, n < sN S 1 → a ≠ ad (220 + 2 * n) ∧ a ≠ ad (221 + 2 * n)) {n2 : Nat} (hw : n2 < sN S 1) (hz : zhs Z a (.inr (8, [v0, v1, v2, .int (nI d), .null]))) (hQ : ∀ Z', Rep w ad (cntN S n2 d 1) Z' → zhs Z' a (.inr (8, [v0, v1, v2, .int (nI d), .null])) → Z'.2.2 = Z.2.2 → Q (.inl (some (.int 1))) (zput Z' a (.inr (8, [v0, v1, v2, .int (nI d), .ref (ad (220 + 2 * n2))])))) : Cz w (2, 43) y_Pi_moveTo (Cond.code y_Pi_moveTo c_Pi_moveTo 2 r_Pi_moveTo :: wz) [.ref a, .ref (ad (220 + 2 * n2))] Z Q := by
  refine Cz.of (by decide +kernel) (by simp [lg_sl, Value.category]) ?_
  show G _ _ _ _ _ _ _ _ [(0, _), (1, _)] _ _
  refine g_aload_nq d_Pi_moveTo_0 rfl 0 rfl ?_
  refine g_get d_Pi_moveTo_1 f_Pi_15_Pi (by assumption) (by first | rfl | assumption) ?_
  refine g_aload_nq d_Pi_moveTo_4 rfl 1 rfl ?_
  refine g_acmp_ne (rx := none) (ry := some (ad (220 + 2 * n2))) (tgt := 10) d_Pi_moveTo_5 (by decide) (fun _ => ?_) (fun h5 => absurd h5 (by simp))
  refine g_aload_nq d_Pi_moveTo_10 rfl 0 rfl ?_
  refine g_get d_Pi_moveTo_11 f_Pi_15_Pi (by assumption) (by first | rfl | assumption) ?_
  refine g_ifnullN (tgt := 29) d_Pi_moveTo_14 (by decide) ?_
  refine g_aload_nq d_Pi_moveTo_29 rfl 1 rfl ?_
  refine g_ifnull d_Pi_moveTo_30 ?_
  refine g_aload_nq d_Pi_moveTo_33 rfl 1 rfl ?_
  refine g_aload_nq d_Pi_moveTo_34 rfl 0 rfl ?_
  refine g_get d_Pi_moveTo_35 f_Pi_25_Pi (by assumption) (by first | rfl | assumption) ?_
  refine g_iconst (v := 1) d_Pi_moveTo_38 rfl ?_
  refine g_callU d_Pi_moveTo_39 k_Ph_countPins l_Pi_29 e_Ne_Ph_countPins z_Ph_countPins (by decide +kernel) rfl i_Ph_countPins rfl q_Ne_Ne_countPins_Ph (hR.net (hw)).1 (by rfl) (by rfl) (Nat.le_of_ble_eq_true rfl) (by decide) (A_cntN hR (hw) hd (fun Z2 hR2 F2 B2 => ⟨_, rfl, ?_⟩))
  have hz := F2 a _ (ha _ (hw)).1 (ha _ (hw)).2 hz
  refine g_aload_nq d_Pi_moveTo_42 rfl 0 rfl ?_
  refine g_aload_nq d_Pi_moveTo_43 rfl 1 rfl ?_
  refine g_put d_Pi_moveTo_44 w_Pi_15_Pi (by assumption) (by first | rfl | exact zb_nar _) (by first | rfl | exact zb_fit _ | exact zrf_fit _) (by first | exact Nat.le_of_ble_eq_true rfl | omega) ?_
  refine g_iconst (v := 1) d_Pi_moveTo_47 rfl ?_
  refine g_zret d_Pi_moveTo_48 ?_ ?_
  · first | rfl | exact zb_nar _ | exact zb_narc (by assumption)
  · exact hQ _ hR2 hz (B2)

set_option maxHeartbeats 4000000 in
set_option maxRecDepth 100000 in
theorem C_Pi_moveTo_ss {w : zC} {Z : zZ} {Q : zR → zZ → Prop} {ad : Nat → Nat} {S : ST} (hR : Rep w ad S Z) {a d : Nat} {v0 v1 v2 : Value} (hd : d < 10) (ha : ∀ n, n < sN S 1 → a ≠ ad (220 + 2 * n) ∧ a ≠ ad (221 + 2 * n)) {n : Nat} (ho : n < sN S 1) {n2 : Nat} (hw : n2 < sN S 1) (hne : ¬ n = n2) (hz : zhs Z a (.inr (8, [v0, v1, v2, .int (nI d), .ref (ad (220 + 2 * n))]))) (hQ : ∀ Z', Rep w ad (cntN (cntN S n d (-1)) n2 d 1) Z' → zhs Z' a (.inr (8, [v0, v1, v2, .int (nI d), .ref (ad (220 + 2 * n))])) → Z'.2.2 = Z.2.2 → Q (.inl (some (.int 1))) (zput Z' a (.inr (8, [v0, v1, v2, .int (nI d), .ref (ad (220 + 2 * n2))])))) : Cz w (2, 43) y_Pi_moveTo (Cond.code y_Pi_moveTo c_Pi_moveTo 2 r_Pi_moveTo :: wz) [.ref a, .ref (ad (220 + 2 * n2))] Z Q := by
  refine Cz.of (by decide +kernel) (by simp [lg_sl, Value.category]) ?_
  show G _ _ _ _ _ _ _ _ [(0, _), (1, _)] _ _
  refine g_aload_nq d_Pi_moveTo_0 rfl 0 rfl ?_
  refine g_get d_Pi_moveTo_1 f_Pi_15_Pi (by assumption) (by first | rfl | assumption) ?_
  refine g_aload_nq d_Pi_moveTo_4 rfl 1 rfl ?_
  refine g_acmp_ne (rx := some (ad (220 + 2 * n))) (ry := some (ad (220 + 2 * n2))) (tgt := 10) d_Pi_moveTo_5 (by decide) (fun _ => ?_) (fun h5 => absurd h5 (fun z => hne (by have := hR.2.1 _ _ (show liveS S (220 + 2 * n) by simp only [liveS]; omega) (show liveS S (220 + 2 * n2) by simp only [liveS]; omega) (Option.some.inj z); omega)))
  refine g_aload_nq d_Pi_moveTo_10 rfl 0 rfl ?_
  refine g_get d_Pi_moveTo_11 f_Pi_15_Pi (by assumption) (by first | rfl | assumption) ?_
  refine g_ifnull d_Pi_moveTo_14 ?_
  refine g_aload_nq d_Pi_moveTo_17 rfl 0 rfl ?_
  refine g_get d_Pi_moveTo_18 f_Pi_15_Pi (by assumption) (by first | rfl | assumption) ?_
  refine g_aload_nq d_Pi_moveTo_21 rfl 0 rfl ?_
  refine g_get d_Pi_moveTo_22 f_Pi_25_Pi (by assumption) (by first | rfl | assumption) ?_
  refine g_iconst (v := (-1)) d_Pi_moveTo_25 rfl ?_
  refine g_callU d_Pi_moveTo_26 k_Ph_countPins l_Pi_29 e_Ne_Ph_countPins z_Ph_countPins (by decide +kernel) rfl i_Ph_countPins rfl q_Ne_Ne_countPins_Ph (hR.net (ho)).1 (by rfl) (by rfl) (Nat.le_of_ble_eq_true rfl) (by decide) (A_cntN hR (ho) hd (fun Z1 hR1 F1 B1 => ⟨_, rfl, ?_⟩))
  have hz := F1 a _ (ha _ (ho)).1 (ha _ (ho)).2 hz
  refine g_aload_nq d_Pi_moveTo_29 rfl 1 rfl ?_
  refine g_ifnull d_Pi_moveTo_30 ?_
  refine g_aload_nq d_Pi_moveTo_33 rfl 1 rfl ?_
  refine g_aload_nq d_Pi_moveTo_34 rfl 0 rfl ?_
  refine g_get d_Pi_moveTo_35 f_Pi_25_Pi (by assumption) (by first | rfl | assumption) ?_
  refine g_iconst (v := 1) d_Pi_moveTo_38 rfl ?_
  refine g_callU d_Pi_moveTo_39 k_Ph_countPins l_Pi_29 e_Ne_Ph_countPins z_Ph_countPins (by decide +kernel) rfl i_Ph_countPins rfl q_Ne_Ne_countPins_Ph (hR1.net (hw)).1 (by rfl) (by rfl) (Nat.le_of_ble_eq_true rfl) (by decide) (A_cntN hR1 (hw) hd (fun Z2 hR2 F2 B2 => ⟨_, rfl, ?_⟩))
  have hz := F2 a _ (ha _ (hw)).1 (ha _ (hw)).2 hz
  refine g_aload_nq d_Pi_moveTo_42 rfl 0 rfl ?_
  refine g_aload_nq d_Pi_moveTo_43 rfl 1 rfl ?_
  refine g_put d_Pi_moveTo_44 w_Pi_15_Pi (by assumption) (by first | rfl | exact zb_nar _) (by first | rfl | exact zb_fit _ | exact zrf_fit _) (by first | exact Nat.le_of_ble_eq_true rfl | omega) ?_
  refine g_iconst (v := 1) d_Pi_moveTo_47 rfl ?_
  refine g_zret d_Pi_moveTo_48 ?_ ?_
  · first | rfl | exact zb_nar _ | exact zb_narc (by assumption)
  · exact hQ _ hR2 hz (B2.trans B1)

set_option maxHeartbeats 4000000 in
set_option maxRecDepth 100000 in
theorem C_Pi_moveTo {w : zC} {Z : zZ} {Q : zR → zZ → Prop} {ad : Nat → Nat} {S : ST} (hR : Rep w ad S Z) {a d : Nat} {v0 v1 v2 : Value} (hd : d < 10) (ha : ∀ n, n < sN S 1 → a ≠ ad (220 + 2 * n) ∧ a ≠ ad (221 + 2 * n)) {old new : Option Nat} (ho : ∀ n, old = some n → n < sN S 1) (hw : ∀ n, new = some n → n < sN S 1) (hz : zhs Z a (.inr (8, [v0, v1, v2, .int (nI d), va_rf (old.map (fun n => ad (220 + 2 * n)))]))) (hQ : if old = new then Q (.inl (some (.int 0))) Z else ∀ Z', Rep w ad (cntO (cntO S old d (-1)) new d 1) Z' → zhs Z' a (.inr (8, [v0, v1, v2, .int (nI d), va_rf (old.map (fun n => ad (220 + 2 * n)))])) → Z'.2.2 = Z.2.2 → Q (.inl (some (.int 1))) (zput Z' a (.inr (8, [v0, v1, v2, .int (nI d), va_rf (new.map (fun n => ad (220 + 2 * n)))])))) : Cz w (2, 43) y_Pi_moveTo (Cond.code y_Pi_moveTo c_Pi_moveTo 2 r_Pi_moveTo :: wz) [.ref a, va_rf (new.map (fun n => ad (220 + 2 * n)))] Z Q := by
  cases old with
  | none =>
    cases new with
    | none => exact C_Pi_moveTo_nn hR hd ha hz hQ
    | some n2 => rw [if_neg (by simp)] at hQ; exact C_Pi_moveTo_ns hR hd ha (hw _ rfl) hz hQ
  | some n =>
    cases new with
    | none => rw [if_neg (by simp)] at hQ; exact C_Pi_moveTo_sn hR hd ha (ho _ rfl) hz hQ
    | some n2 =>
      by_cases hne : n = n2
      · subst hne; rw [if_pos rfl] at hQ; exact C_Pi_moveTo_ss0 hR hd ha hz hQ
      · rw [if_neg (by simp [hne])] at hQ; exact C_Pi_moveTo_ss hR hd ha (ho _ rfl) (hw _ rfl) hne hz hQ
