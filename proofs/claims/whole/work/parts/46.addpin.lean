/-! Schematic.addPin -/
theorem cntO_N {S : ST} {o : Option Nat} {d : Nat} {m : Int32} : sN (cntO S o d m) = sN S := by cases o <;> rfl
theorem cntO_R {S : ST} {o : Option Nat} {d : Nat} {m : Int32} : sR (cntO S o d m) = sR S := by cases o <;> rfl
theorem ciLive.same {S S' : ST} (h : ciLive S) (hN : sN S' = sN S) (hR : sR S' = sR S) : ciLive S' := by
  unfold ciLive tok at *
  rw [hN, hR]
  exact h
theorem pin_cell {ad : Nat → Nat} {S : ST} {k d : Nat} {s : Int32} {o : Option Nat} : pPin ad (pinB S k d s o) (sN S 2) = .inr (8, [.int s, .int ((s * 3 + 2) * 160 + nI (sN S 2)), .ref (ad (100 + 3 * k)), .int (nI d), va_rf (o.map (fun n => ad (220 + 2 * n)))]) := by
  have e1 : sI (pinB S k d s o) (300 + sN S 2) = fun j => if j = 0 then s else if j = 3 then nI d else 0 := va_up_self _ _ _
  have e2 : sR (pinB S k d s o) (300 + sN S 2) = fun _ => o := va_up_self _ _ _
  have e3 : sN (pinB S k d s o) (2000 + sN S 2) = k := va_up_self _ _ _
  unfold pPin
  rw [e1, e2, e3]
  rfl
set_option maxHeartbeats 4000000 in
set_option maxRecDepth 100000 in
theorem A_moveNew {w : zC} {Z : zZ} {Q : zR → zZ → Prop} {ad : Nat → Nat} {S : ST} (hR : Rep w ad S Z) {a d : Nat} {v0 v1 v2 : Value} {o : Option Nat} (hd : d < 10) (ha : ∀ i, liveS S i → ad i ≠ a) (hw : ∀ n, o = some n → n < sN S 1) (hz : zhs Z a (.inr (8, [v0, v1, v2, .int (nI d), .null]))) (hQ : ∀ x Z', Rep w ad (cntO S o d 1) Z' → zhs Z' a (.inr (8, [v0, v1, v2, .int (nI d), va_rf (o.map (fun n => ad (220 + 2 * n)))])) → Z'.2.2 = Z.2.2 → Q (.inl (some (.int x))) Z') : Cz w (2, 43) y_Pi_moveTo (Cond.code y_Pi_moveTo c_Pi_moveTo 2 r_Pi_moveTo :: wz) [.ref a, va_rf (o.map (fun n => ad (220 + 2 * n)))] Z Q := by
  refine C_Pi_moveTo (old := none) hR hd (fun n hn => ⟨(ha _ (by simp only [liveS]; omega)).symm, (ha _ (by simp only [liveS]; omega)).symm⟩) (by simp) hw hz ?_
  by_cases ho : none = o
  · subst ho
    rw [if_pos rfl]
    exact hQ 0 Z hR hz rfl
  · rw [if_neg ho]
    intro Z' hR' hz' hB
    exact hQ 1 _ (hR'.away (fun i hi e he => zhs_put_ne he (ha i (by have h9 : liveS (cntO S o d 1) i := hi; simp only [liveS, cntO_N] at h9 ⊢; exact h9)))) (zhs_put_same hz') hB

set_option maxHeartbeats 4000000 in
set_option maxRecDepth 100000 in
theorem C_Sc_addPin_n {w : zC} {Z : zZ} {Q : zR → zZ → Prop} {ad : Nat → Nat} {S : ST} (hR : Rep w ad S Z) {k d : Nat} (hk : k < sN S 0) (hd : d < 10) (hw : ∀ n, none = some n → n < sN S 1) (hs : ciSh S) (hL : ciLive S) (hb : 1 ≤ Z.2.2.1 ∧ 5 ≤ Z.2.2.2) (hQ : if sN S 2 < 160 then (∀ Z' a, Rep w (pinA ad (sN S 2) a) (pinS (pinB (cntO (cntP S k d 1) none d 1) k d (sI S (100 + 3 * k) 0) none) (insP (ordP (pinB (cntO (cntP S k d 1) none d 1) k d (sI S (100 + 3 * k) 0) none)) ((sI S (100 + 3 * k) 0 * 3 + 2) * 160 + nI (sN S 2)) (sN (pinB (cntO (cntP S k d 1) none d 1) k d (sI S (100 + 3 * k) 0) none) 0 + sN (pinB (cntO (cntP S k d 1) none d 1) k d (sI S (100 + 3 * k) 0) none) 1 + sN (pinB (cntO (cntP S k d 1) none d 1) k d (sI S (100 + 3 * k) 0) none) 2))) Z' → Z'.2.2.1 = Z.2.2.1 - 1 → Z'.2.2.2 = Z.2.2.2 - 5 → Q (.inl (some (.int (nI (sN S 2))))) Z') else Q (.inl (some (.int (-1)))) Z) : Cz w (4, 110) y_Sc_addPin (Cond.code y_Sc_addPin c_Sc_addPin 5 r_Sc_addPin :: wz) [.ref (ad 1), .ref (ad (100 + 3 * k)), .null, .int (nI d)] Z Q := by
  refine Cz.of (by decide +kernel) (by simp [lg_sl, Value.category]) ?_
  show G _ _ _ _ _ _ _ _ [(0, _), (1, _), (2, _), (3, _)] _ _
  have n0 := hR.1.1
  have n1 := hR.1.2.1
  have n2 := hR.1.2.2.1
  have h1 : zhs Z (ad 1) (.inr (1, [.ref (ad 11), .ref (ad 12), .ref (ad 13), .ref (ad 14), .ref (ad 15), .int (nI (sN S 0)), .int (nI (sN S 1)), .int (nI (sN S 2)), .int (nI (sN S 7))])) := hR.k 1 (by decide)
  have h14 : zhs Z (ad 14) (xr w 6 160 (fun k => if k < sN S 2 then some (ad (300 + k)) else sR S 14 k)) := hR.k 14 (by decide)
  have hp := (hR.part hk).1
  refine g_aload_nq d_Sc_addPin_0 rfl 1 rfl ?_
  refine g_ifnull d_Sc_addPin_1 ?_
  refine g_aload_nq d_Sc_addPin_4 rfl 0 rfl ?_
  refine g_get d_Sc_addPin_5 f_Sc_46_Sc (by assumption) (by first | rfl | assumption) ?_
  refine g_aload_nq d_Sc_addPin_8 rfl 0 rfl ?_
  refine g_get d_Sc_addPin_9 f_Sc_29_Sc (by assumption) (by first | rfl | assumption) ?_
  refine g_alen d_Sc_addPin_12 6 (by assumption) rfl ?_
  refine g_icmp_lt (tgt := 18) d_Sc_addPin_13 (by decide) (fun h13 => ?_) (fun h13 => ?_)
  · have hlt : sN S 2 < 160 := (nI_ltI (by omega) (by decide)).mp h13
    rw [if_pos hlt] at hQ
    refine g_new d_Sc_addPin_18 n_Sc_27 (by omega) (by omega) (fun a ha => ?_)
    generalize e1 : znew _ _ _ _ = Z1
    have z0 := zhs_new_same' e1
    have h1 := zhs_new_old' e1 h1 ha
    have hp1 := zhs_new_old' e1 hp ha
    have B1 := zbud_new e1
    refine g_dup d_Sc_addPin_21 rfl ?_
    refine g_aload_nq d_Sc_addPin_22 rfl 1 rfl ?_
    refine g_aload_nq d_Sc_addPin_23 rfl 0 rfl ?_
    refine g_get d_Sc_addPin_24 f_Sc_46_Sc (by assumption) (by first | rfl | assumption) ?_
    refine g_iload_n d_Sc_addPin_27 rfl 3 rfl ?_
    refine g_callI d_Sc_addPin_28 k_Pi_init rfl l_Sc_81 i_Pi_init (by rfl) (by rfl) (Nat.le_of_ble_eq_true rfl) (by decide) (C_Pi_init z0 hp1 rfl ⟨_, rfl, ?_⟩)
    generalize e2 : zput _ _ _ = Z2
    have p0 := zhs_put_same' e2 z0
    have B2 := zbud_put e2
    have F9 : zfr Z Z2 [a] := zfr_tr (zfr_new e1 ha) (zfr_put e2 (by simp))
    have hR2 : Rep w ad S Z2 := hR.fresh F9 (fun x hx => by rw [List.mem_singleton.mp hx]; exact ha)
    have nA : ∀ i, liveS S i → ad i ≠ a := fun i hi z => ha (z ▸ (hR.2.2 i hi).1)
    refine g_astoreq d_Sc_addPin_31 (by decide) rfl ?_
    show G _ _ _ _ _ _ _ _ [(4, _), (0, _), (1, _), (2, _), (3, _)] _ _
    refine g_aload_nq d_Sc_addPin_33 rfl 2 rfl ?_
    refine g_iload_n d_Sc_addPin_34 rfl 4 rfl ?_
    refine g_iconst (v := 1) d_Sc_addPin_35 rfl ?_
    refine g_callU d_Sc_addPin_36 k_Ph_countPins l_Sc_84 e_Pa_Ph_countPins z_Ph_countPins (by decide +kernel) rfl i_Ph_countPins rfl q_Pa_Pa_countPins_Ph (hR2.part hk).1 (by rfl) (by rfl) (Nat.le_of_ble_eq_true rfl) (by decide) (A_cntP hR2 hk hd (fun Z3 hR3 F3 B3 => ⟨_, rfl, ?_⟩))
    have p0 := F3 a _ (nA _ (by simp only [liveS]; omega)).symm (nA _ (by simp only [liveS]; omega)).symm p0
    refine g_aloadq d_Sc_addPin_39 0 rfl ?_
    refine g_aload_nq d_Sc_addPin_41 rfl 3 rfl ?_
    refine g_callV d_Sc_addPin_42 k_Pi_moveTo l_Sc_87 i_Pi_moveTo rfl q_Pi_Pi_moveTo_Pi p0 (by rfl) (by rfl) (Nat.le_of_ble_eq_true rfl) (by decide) (A_moveNew (o := none) hR3 hd nA hw p0 (fun x Z4 hR4 p4 B4 => ⟨_, rfl, ?_⟩))
    have hL4 : ciLive (cntO (cntP S k d 1) none d 1) := hL.same cntO_N cntO_R
    have N4 : sN (cntO (cntP S k d 1) none d 1) = sN S := cntO_N
    have hR5 : Rep w ad (pinB (cntO (cntP S k d 1) none d 1) k d (sI S (100 + 3 * k) 0) none) Z4 := hR4.toPinB hL4 (by rw [N4]; exact hlt)
    have hL5 : ciLive (pinB (cntO (cntP S k d 1) none d 1) k d (sI S (100 + 3 * k) 0) none) := pinB_ciLive hL4 (by rw [N4]; exact n0) (by rw [N4]; exact n1)
    have N5 : ∀ n, n < 2000 → sN (pinB (cntO (cntP S k d 1) none d 1) k d (sI S (100 + 3 * k) 0) none) n = sN S n := fun n hn => by rw [pinB_N (by omega), N4]
    have pc := pin_cell (ad := ad) (S := cntO (cntP S k d 1) none d 1) (k := k) (d := d) (s := sI S (100 + 3 * k) 0) (o := none)
    rw [N4] at pc
    have hk5 : sN (pinB (cntO (cntP S k d 1) none d 1) k d (sI S (100 + 3 * k) 0) none) (2000 + sN S 2) = k := by show va_up _ _ _ _ = _; rw [N4, va_up_self]
    have ho5 : sR (pinB (cntO (cntP S k d 1) none d 1) k d (sI S (100 + 3 * k) 0) none) (300 + sN S 2) = fun _ => none := by show va_up _ _ _ _ = _; rw [N4, va_up_self]
    have nA5 : ∀ i, liveS (pinB (cntO (cntP S k d 1) none d 1) k d (sI S (100 + 3 * k) 0) none) i → ad i ≠ a := fun i hi => nA i (by have h9 := pinB_live.mp hi; simp only [liveS, N4] at h9 ⊢; exact h9)
    generalize hS5 : (pinB (cntO (cntP S k d 1) none d 1) k d (sI S (100 + 3 * k) 0) none) = S5 at *
    have na : ∀ i, i < 31 → a ≠ ad i := fun i hi => (nA i (Or.inl hi)).symm
    have J : ∀ i j, i < 31 → j < 31 → i ≠ j → ad i ≠ ad j := fun i j hi hj hne => hR.inj (Or.inl hi) (Or.inl hj) hne
    have h1 : zhs Z4 (ad 1) (.inr (1, [.ref (ad 11), .ref (ad 12), .ref (ad 13), .ref (ad 14), .ref (ad 15), .int (nI (sN S5 0)), .int (nI (sN S5 1)), .int (nI (sN S5 2)), .int (nI (sN S5 7))])) := hR5.k 1 (by decide)
    have h14 : zhs Z4 (ad 14) (xr w 6 160 (fun k => if k < sN S5 2 then some (ad (300 + k)) else sR S5 14 k)) := hR5.k 14 (by decide)
    rw [N5 2 (by omega)] at h14
    refine g_pop d_Sc_addPin_45 rfl ?_
    refine g_aload_nq d_Sc_addPin_46 rfl 1 rfl ?_
    refine g_aloadq d_Sc_addPin_47 0 rfl ?_
    refine g_callV d_Sc_addPin_49 k_Sc_putInOrder l_Sc_69 i_Sc_putInOrder rfl p_Sc_putInOrder h1 (by rfl) (by rfl) (Nat.le_of_ble_eq_true rfl) (by decide) (C_Sc_putInOrder hR5 (by simp [thk]) p4 rfl (by rw [N5 0 (by omega), N5 1 (by omega), N5 2 (by omega)]; omega) hL5 ⟨_, rfl, ?_⟩)
    generalize e6 : zput _ _ _ = Z6
    have h15 := zhs_put_same' e6 (hR5.k 15 (by decide))
    have h1 := zhs_put_ne' e6 h1 (J 1 15 (by decide) (by decide) (by decide))
    have h14 := zhs_put_ne' e6 h14 (J 14 15 (by decide) (by decide) (by decide))
    have p6 := zhs_put_ne' e6 p4 (na 15 (by decide))
    refine g_aload_nq d_Sc_addPin_52 rfl 1 rfl ?_
    refine g_get d_Sc_addPin_53 f_Sc_29_Sc (by assumption) (by first | rfl | assumption) ?_
    refine g_aload_nq d_Sc_addPin_56 rfl 1 rfl ?_
    refine g_get d_Sc_addPin_57 f_Sc_46_Sc h1 rfl ?_
    rw [N5 2 (by omega)]
    refine g_aloadq d_Sc_addPin_60 0 rfl ?_
    refine g_aast d_Sc_addPin_62 6 h14 rfl p6 ⟨_, rfl, Or.inl rfl⟩ (vp_in_nI (by omega) (by decide)) ?_
    rw [nI_clamp (by omega)]
    generalize e7 : zput _ _ _ = Z7
    have h15 := zhs_put_ne' e7 h15 (J 15 14 (by decide) (by decide) (by decide))
    have h1 := zhs_put_ne' e7 h1 (J 1 14 (by decide) (by decide) (by decide))
    have h14 := zhs_put_same' e7 h14
    have p7 := zhs_put_ne' e7 p6 (na 14 (by decide))
    refine g_aload_nq d_Sc_addPin_63 rfl 1 rfl ?_
    refine g_dup d_Sc_addPin_64 rfl ?_
    refine g_get d_Sc_addPin_65 f_Sc_46_Sc (by assumption) (by first | rfl | assumption) ?_
    refine g_iconst (v := 1) d_Sc_addPin_68 rfl ?_
    refine g_iadd d_Sc_addPin_69 ?_
    refine g_put d_Sc_addPin_70 w_Sc_46_Sc (by assumption) (by first | rfl | exact zb_nar _) (by first | rfl | exact zb_fit _ | exact zrf_fit _) (by first | exact Nat.le_of_ble_eq_true rfl | omega) ?_
    rw [show (1 : Int32) = nI 1 from rfl, nI_add]
    generalize e8 : zput _ _ _ = Z8
    have h15 := zhs_put_ne' e8 h15 (J 15 1 (by decide) (by decide) (by decide))
    have h14 := zhs_put_ne' e8 h14 (J 14 1 (by decide) (by decide) (by decide))
    have h1 := zhs_put_same' e8 h1
    have p8 := zhs_put_ne' e8 p7 (na 1 (by decide))
    refine g_aloadq d_Sc_addPin_73 0 rfl ?_
    refine g_callU d_Sc_addPin_75 k_Th_number l_Sc_91 e_Pi_Th_number z_Th_number (by decide +kernel) rfl i_Th_number rfl q_Pi_Pi_number_Th p8 (by rfl) (by rfl) (Nat.le_of_ble_eq_true rfl) (by decide) (C_Th_number (by simp [thk]) p8 rfl ⟨_, rfl, ?_⟩)
    obtain ⟨s9, hs9, es9⟩ := hs.1 k hk
    rw [show (sI S (100 + 3 * k) 0 * 3 + 2) * 160 + nI (sN S 2) - ((sI S (100 + 3 * k) 0 * 3 + 2) * 160 + nI (sN S 2)) / 160 * 160 = nI (sN S 2) by rw [es9]; exact num_rem hs9 (t := 2) (by decide) (by omega)]
    refine g_iret d_Sc_addPin_78 ?_
    have B6 := zbud_put e6
    have B7 := zbud_put e7
    have B8 := zbud_put e8
    have E2 := N5 2 (by omega)
    have hR9 := hR5.addPin (p := insP (ordP S5) ((sI S (100 + 3 * k) 0 * 3 + 2) * 160 + nI (sN S 2)) (sN S5 0 + sN S5 1 + sN S5 2)) (a := a) (Z' := Z8) hL5 (by rw [E2]; exact hlt) insP_le nA5 (by rw [E2, hk5, N5 0 (by omega)]; exact hk) (by rw [E2, ho5, N5 1 (by omega)]; exact hw) (by rw [E2, pc]; exact p8) h1 (by rw [E2]; exact h14) h15 (fun b e b1 b14 b15 ba hz => zhs_put_ne' e8 (zhs_put_ne' e7 (zhs_put_ne' e6 hz b15) b14) b1)
    rw [show pinA ad (sN S5 2) a = pinA ad (sN S 2) a by rw [E2]] at hR9
    refine hQ Z8 a hR9 ?_ ?_
    · rw [B8.1, B7.1, B6.1, B4, B3, B2.1, B1.1]
    · rw [B8.2, B7.2, B6.2, B4, B3, B2.2, B1.2]
  · have hge : ¬ sN S 2 < 160 := fun z => h13 (nI_lt z (by decide))
    rw [if_neg hge] at hQ
    refine g_iconst (v := (-1)) d_Sc_addPin_16 rfl ?_
    refine g_iret d_Sc_addPin_17 ?_
    exact hQ

set_option maxHeartbeats 4000000 in
set_option maxRecDepth 100000 in
theorem C_Sc_addPin_s {w : zC} {Z : zZ} {Q : zR → zZ → Prop} {ad : Nat → Nat} {S : ST} (hR : Rep w ad S Z) {k d : Nat} {n9 : Nat} (hk : k < sN S 0) (hd : d < 10) (hw : ∀ n, (some n9) = some n → n < sN S 1) (hs : ciSh S) (hL : ciLive S) (hb : 1 ≤ Z.2.2.1 ∧ 5 ≤ Z.2.2.2) (hQ : if sN S 2 < 160 then (∀ Z' a, Rep w (pinA ad (sN S 2) a) (pinS (pinB (cntO (cntP S k d 1) (some n9) d 1) k d (sI S (100 + 3 * k) 0) (some n9)) (insP (ordP (pinB (cntO (cntP S k d 1) (some n9) d 1) k d (sI S (100 + 3 * k) 0) (some n9))) ((sI S (100 + 3 * k) 0 * 3 + 2) * 160 + nI (sN S 2)) (sN (pinB (cntO (cntP S k d 1) (some n9) d 1) k d (sI S (100 + 3 * k) 0) (some n9)) 0 + sN (pinB (cntO (cntP S k d 1) (some n9) d 1) k d (sI S (100 + 3 * k) 0) (some n9)) 1 + sN (pinB (cntO (cntP S k d 1) (some n9) d 1) k d (sI S (100 + 3 * k) 0) (some n9)) 2))) Z' → Z'.2.2.1 = Z.2.2.1 - 1 → Z'.2.2.2 = Z.2.2.2 - 5 → Q (.inl (some (.int (nI (sN S 2))))) Z') else Q (.inl (some (.int (-1)))) Z) : Cz w (4, 110) y_Sc_addPin (Cond.code y_Sc_addPin c_Sc_addPin 5 r_Sc_addPin :: wz) [.ref (ad 1), .ref (ad (100 + 3 * k)), .ref (ad (220 + 2 * n9)), .int (nI d)] Z Q := by
  refine Cz.of (by decide +kernel) (by simp [lg_sl, Value.category]) ?_
  show G _ _ _ _ _ _ _ _ [(0, _), (1, _), (2, _), (3, _)] _ _
  have n0 := hR.1.1
  have n1 := hR.1.2.1
  have n2 := hR.1.2.2.1
  have h1 : zhs Z (ad 1) (.inr (1, [.ref (ad 11), .ref (ad 12), .ref (ad 13), .ref (ad 14), .ref (ad 15), .int (nI (sN S 0)), .int (nI (sN S 1)), .int (nI (sN S 2)), .int (nI (sN S 7))])) := hR.k 1 (by decide)
  have h14 : zhs Z (ad 14) (xr w 6 160 (fun k => if k < sN S 2 then some (ad (300 + k)) else sR S 14 k)) := hR.k 14 (by decide)
  have hp := (hR.part hk).1
  refine g_aload_nq d_Sc_addPin_0 rfl 1 rfl ?_
  refine g_ifnull d_Sc_addPin_1 ?_
  refine g_aload_nq d_Sc_addPin_4 rfl 0 rfl ?_
  refine g_get d_Sc_addPin_5 f_Sc_46_Sc (by assumption) (by first | rfl | assumption) ?_
  refine g_aload_nq d_Sc_addPin_8 rfl 0 rfl ?_
  refine g_get d_Sc_addPin_9 f_Sc_29_Sc (by assumption) (by first | rfl | assumption) ?_
  refine g_alen d_Sc_addPin_12 6 (by assumption) rfl ?_
  refine g_icmp_lt (tgt := 18) d_Sc_addPin_13 (by decide) (fun h13 => ?_) (fun h13 => ?_)
  · have hlt : sN S 2 < 160 := (nI_ltI (by omega) (by decide)).mp h13
    rw [if_pos hlt] at hQ
    refine g_new d_Sc_addPin_18 n_Sc_27 (by omega) (by omega) (fun a ha => ?_)
    generalize e1 : znew _ _ _ _ = Z1
    have z0 := zhs_new_same' e1
    have h1 := zhs_new_old' e1 h1 ha
    have hp1 := zhs_new_old' e1 hp ha
    have B1 := zbud_new e1
    refine g_dup d_Sc_addPin_21 rfl ?_
    refine g_aload_nq d_Sc_addPin_22 rfl 1 rfl ?_
    refine g_aload_nq d_Sc_addPin_23 rfl 0 rfl ?_
    refine g_get d_Sc_addPin_24 f_Sc_46_Sc (by assumption) (by first | rfl | assumption) ?_
    refine g_iload_n d_Sc_addPin_27 rfl 3 rfl ?_
    refine g_callI d_Sc_addPin_28 k_Pi_init rfl l_Sc_81 i_Pi_init (by rfl) (by rfl) (Nat.le_of_ble_eq_true rfl) (by decide) (C_Pi_init z0 hp1 rfl ⟨_, rfl, ?_⟩)
    generalize e2 : zput _ _ _ = Z2
    have p0 := zhs_put_same' e2 z0
    have B2 := zbud_put e2
    have F9 : zfr Z Z2 [a] := zfr_tr (zfr_new e1 ha) (zfr_put e2 (by simp))
    have hR2 : Rep w ad S Z2 := hR.fresh F9 (fun x hx => by rw [List.mem_singleton.mp hx]; exact ha)
    have nA : ∀ i, liveS S i → ad i ≠ a := fun i hi z => ha (z ▸ (hR.2.2 i hi).1)
    refine g_astoreq d_Sc_addPin_31 (by decide) rfl ?_
    show G _ _ _ _ _ _ _ _ [(4, _), (0, _), (1, _), (2, _), (3, _)] _ _
    refine g_aload_nq d_Sc_addPin_33 rfl 2 rfl ?_
    refine g_iload_n d_Sc_addPin_34 rfl 4 rfl ?_
    refine g_iconst (v := 1) d_Sc_addPin_35 rfl ?_
    refine g_callU d_Sc_addPin_36 k_Ph_countPins l_Sc_84 e_Pa_Ph_countPins z_Ph_countPins (by decide +kernel) rfl i_Ph_countPins rfl q_Pa_Pa_countPins_Ph (hR2.part hk).1 (by rfl) (by rfl) (Nat.le_of_ble_eq_true rfl) (by decide) (A_cntP hR2 hk hd (fun Z3 hR3 F3 B3 => ⟨_, rfl, ?_⟩))
    have p0 := F3 a _ (nA _ (by simp only [liveS]; omega)).symm (nA _ (by simp only [liveS]; omega)).symm p0
    refine g_aloadq d_Sc_addPin_39 0 rfl ?_
    refine g_aload_nq d_Sc_addPin_41 rfl 3 rfl ?_
    refine g_callV d_Sc_addPin_42 k_Pi_moveTo l_Sc_87 i_Pi_moveTo rfl q_Pi_Pi_moveTo_Pi p0 (by rfl) (by rfl) (Nat.le_of_ble_eq_true rfl) (by decide) (A_moveNew (o := (some n9)) hR3 hd nA hw p0 (fun x Z4 hR4 p4 B4 => ⟨_, rfl, ?_⟩))
    have hL4 : ciLive (cntO (cntP S k d 1) (some n9) d 1) := hL.same cntO_N cntO_R
    have N4 : sN (cntO (cntP S k d 1) (some n9) d 1) = sN S := cntO_N
    have hR5 : Rep w ad (pinB (cntO (cntP S k d 1) (some n9) d 1) k d (sI S (100 + 3 * k) 0) (some n9)) Z4 := hR4.toPinB hL4 (by rw [N4]; exact hlt)
    have hL5 : ciLive (pinB (cntO (cntP S k d 1) (some n9) d 1) k d (sI S (100 + 3 * k) 0) (some n9)) := pinB_ciLive hL4 (by rw [N4]; exact n0) (by rw [N4]; exact n1)
    have N5 : ∀ n, n < 2000 → sN (pinB (cntO (cntP S k d 1) (some n9) d 1) k d (sI S (100 + 3 * k) 0) (some n9)) n = sN S n := fun n hn => by rw [pinB_N (by omega), N4]
    have pc := pin_cell (ad := ad) (S := cntO (cntP S k d 1) (some n9) d 1) (k := k) (d := d) (s := sI S (100 + 3 * k) 0) (o := (some n9))
    rw [N4] at pc
    have hk5 : sN (pinB (cntO (cntP S k d 1) (some n9) d 1) k d (sI S (100 + 3 * k) 0) (some n9)) (2000 + sN S 2) = k := by show va_up _ _ _ _ = _; rw [N4, va_up_self]
    have ho5 : sR (pinB (cntO (cntP S k d 1) (some n9) d 1) k d (sI S (100 + 3 * k) 0) (some n9)) (300 + sN S 2) = fun _ => (some n9) := by show va_up _ _ _ _ = _; rw [N4, va_up_self]
    have nA5 : ∀ i, liveS (pinB (cntO (cntP S k d 1) (some n9) d 1) k d (sI S (100 + 3 * k) 0) (some n9)) i → ad i ≠ a := fun i hi => nA i (by have h9 := pinB_live.mp hi; simp only [liveS, N4] at h9 ⊢; exact h9)
    generalize hS5 : (pinB (cntO (cntP S k d 1) (some n9) d 1) k d (sI S (100 + 3 * k) 0) (some n9)) = S5 at *
    have na : ∀ i, i < 31 → a ≠ ad i := fun i hi => (nA i (Or.inl hi)).symm
    have J : ∀ i j, i < 31 → j < 31 → i ≠ j → ad i ≠ ad j := fun i j hi hj hne => hR.inj (Or.inl hi) (Or.inl hj) hne
    have h1 : zhs Z4 (ad 1) (.inr (1, [.ref (ad 11), .ref (ad 12), .ref (ad 13), .ref (ad 14), .ref (ad 15), .int (nI (sN S5 0)), .int (nI (sN S5 1)), .int (nI (sN S5 2)), .int (nI (sN S5 7))])) := hR5.k 1 (by decide)
    have h14 : zhs Z4 (ad 14) (xr w 6 160 (fun k => if k < sN S5 2 then some (ad (300 + k)) else sR S5 14 k)) := hR5.k 14 (by decide)
    rw [N5 2 (by omega)] at h14
    refine g_pop d_Sc_addPin_45 rfl ?_
    refine g_aload_nq d_Sc_addPin_46 rfl 1 rfl ?_
    refine g_aloadq d_Sc_addPin_47 0 rfl ?_
    refine g_callV d_Sc_addPin_49 k_Sc_putInOrder l_Sc_69 i_Sc_putInOrder rfl p_Sc_putInOrder h1 (by rfl) (by rfl) (Nat.le_of_ble_eq_true rfl) (by decide) (C_Sc_putInOrder hR5 (by simp [thk]) p4 rfl (by rw [N5 0 (by omega), N5 1 (by omega), N5 2 (by omega)]; omega) hL5 ⟨_, rfl, ?_⟩)
    generalize e6 : zput _ _ _ = Z6
    have h15 := zhs_put_same' e6 (hR5.k 15 (by decide))
    have h1 := zhs_put_ne' e6 h1 (J 1 15 (by decide) (by decide) (by decide))
    have h14 := zhs_put_ne' e6 h14 (J 14 15 (by decide) (by decide) (by decide))
    have p6 := zhs_put_ne' e6 p4 (na 15 (by decide))
    refine g_aload_nq d_Sc_addPin_52 rfl 1 rfl ?_
    refine g_get d_Sc_addPin_53 f_Sc_29_Sc (by assumption) (by first | rfl | assumption) ?_
    refine g_aload_nq d_Sc_addPin_56 rfl 1 rfl ?_
    refine g_get d_Sc_addPin_57 f_Sc_46_Sc h1 rfl ?_
    rw [N5 2 (by omega)]
    refine g_aloadq d_Sc_addPin_60 0 rfl ?_
    refine g_aast d_Sc_addPin_62 6 h14 rfl p6 ⟨_, rfl, Or.inl rfl⟩ (vp_in_nI (by omega) (by decide)) ?_
    rw [nI_clamp (by omega)]
    generalize e7 : zput _ _ _ = Z7
    have h15 := zhs_put_ne' e7 h15 (J 15 14 (by decide) (by decide) (by decide))
    have h1 := zhs_put_ne' e7 h1 (J 1 14 (by decide) (by decide) (by decide))
    have h14 := zhs_put_same' e7 h14
    have p7 := zhs_put_ne' e7 p6 (na 14 (by decide))
    refine g_aload_nq d_Sc_addPin_63 rfl 1 rfl ?_
    refine g_dup d_Sc_addPin_64 rfl ?_
    refine g_get d_Sc_addPin_65 f_Sc_46_Sc (by assumption) (by first | rfl | assumption) ?_
    refine g_iconst (v := 1) d_Sc_addPin_68 rfl ?_
    refine g_iadd d_Sc_addPin_69 ?_
    refine g_put d_Sc_addPin_70 w_Sc_46_Sc (by assumption) (by first | rfl | exact zb_nar _) (by first | rfl | exact zb_fit _ | exact zrf_fit _) (by first | exact Nat.le_of_ble_eq_true rfl | omega) ?_
    rw [show (1 : Int32) = nI 1 from rfl, nI_add]
    generalize e8 : zput _ _ _ = Z8
    have h15 := zhs_put_ne' e8 h15 (J 15 1 (by decide) (by decide) (by decide))
    have h14 := zhs_put_ne' e8 h14 (J 14 1 (by decide) (by decide) (by decide))
    have h1 := zhs_put_same' e8 h1
    have p8 := zhs_put_ne' e8 p7 (na 1 (by decide))
    refine g_aloadq d_Sc_addPin_73 0 rfl ?_
    refine g_callU d_Sc_addPin_75 k_Th_number l_Sc_91 e_Pi_Th_number z_Th_number (by decide +kernel) rfl i_Th_number rfl q_Pi_Pi_number_Th p8 (by rfl) (by rfl) (Nat.le_of_ble_eq_true rfl) (by decide) (C_Th_number (by simp [thk]) p8 rfl ⟨_, rfl, ?_⟩)
    obtain ⟨s9, hs9, es9⟩ := hs.1 k hk
    rw [show (sI S (100 + 3 * k) 0 * 3 + 2) * 160 + nI (sN S 2) - ((sI S (100 + 3 * k) 0 * 3 + 2) * 160 + nI (sN S 2)) / 160 * 160 = nI (sN S 2) by rw [es9]; exact num_rem hs9 (t := 2) (by decide) (by omega)]
    refine g_iret d_Sc_addPin_78 ?_
    have B6 := zbud_put e6
    have B7 := zbud_put e7
    have B8 := zbud_put e8
    have E2 := N5 2 (by omega)
    have hR9 := hR5.addPin (p := insP (ordP S5) ((sI S (100 + 3 * k) 0 * 3 + 2) * 160 + nI (sN S 2)) (sN S5 0 + sN S5 1 + sN S5 2)) (a := a) (Z' := Z8) hL5 (by rw [E2]; exact hlt) insP_le nA5 (by rw [E2, hk5, N5 0 (by omega)]; exact hk) (by rw [E2, ho5, N5 1 (by omega)]; exact hw) (by rw [E2, pc]; exact p8) h1 (by rw [E2]; exact h14) h15 (fun b e b1 b14 b15 ba hz => zhs_put_ne' e8 (zhs_put_ne' e7 (zhs_put_ne' e6 hz b15) b14) b1)
    rw [show pinA ad (sN S5 2) a = pinA ad (sN S 2) a by rw [E2]] at hR9
    refine hQ Z8 a hR9 ?_ ?_
    · rw [B8.1, B7.1, B6.1, B4, B3, B2.1, B1.1]
    · rw [B8.2, B7.2, B6.2, B4, B3, B2.2, B1.2]
  · have hge : ¬ sN S 2 < 160 := fun z => h13 (nI_lt z (by decide))
    rw [if_neg hge] at hQ
    refine g_iconst (v := (-1)) d_Sc_addPin_16 rfl ?_
    refine g_iret d_Sc_addPin_17 ?_
    exact hQ

set_option maxHeartbeats 4000000 in
set_option maxRecDepth 100000 in
theorem C_Sc_addPin {w : zC} {Z : zZ} {Q : zR → zZ → Prop} {ad : Nat → Nat} {S : ST} (hR : Rep w ad S Z) {k d : Nat} {o : Option Nat} (hk : k < sN S 0) (hd : d < 10) (hw : ∀ n, o = some n → n < sN S 1) (hs : ciSh S) (hL : ciLive S) (hb : 1 ≤ Z.2.2.1 ∧ 5 ≤ Z.2.2.2) (hQ : if sN S 2 < 160 then (∀ Z' a, Rep w (pinA ad (sN S 2) a) (pinS (pinB (cntO (cntP S k d 1) o d 1) k d (sI S (100 + 3 * k) 0) o) (insP (ordP (pinB (cntO (cntP S k d 1) o d 1) k d (sI S (100 + 3 * k) 0) o)) ((sI S (100 + 3 * k) 0 * 3 + 2) * 160 + nI (sN S 2)) (sN (pinB (cntO (cntP S k d 1) o d 1) k d (sI S (100 + 3 * k) 0) o) 0 + sN (pinB (cntO (cntP S k d 1) o d 1) k d (sI S (100 + 3 * k) 0) o) 1 + sN (pinB (cntO (cntP S k d 1) o d 1) k d (sI S (100 + 3 * k) 0) o) 2))) Z' → Z'.2.2.1 = Z.2.2.1 - 1 → Z'.2.2.2 = Z.2.2.2 - 5 → Q (.inl (some (.int (nI (sN S 2))))) Z') else Q (.inl (some (.int (-1)))) Z) : Cz w (4, 110) y_Sc_addPin (Cond.code y_Sc_addPin c_Sc_addPin 5 r_Sc_addPin :: wz) [.ref (ad 1), .ref (ad (100 + 3 * k)), va_rf (o.map (fun n => ad (220 + 2 * n))), .int (nI d)] Z Q := by
  cases o with
  | none => exact C_Sc_addPin_n hR hk hd hw hs hL hb hQ
  | some n9 => exact C_Sc_addPin_s hR hk hd hw hs hL hb hQ
