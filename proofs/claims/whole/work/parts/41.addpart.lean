/-! Schematic.addPart -/
set_option maxHeartbeats 4000000 in
set_option maxRecDepth 100000 in
theorem C_Sc_addPart {w : zC} {Z : zZ} {Q : zR → zZ → Prop} {ad : Nat → Nat} {S : ST} (hR : Rep w ad S Z) {s : Nat} (hs : s < 16) (hL : ciLive S) (hb : 3 ≤ Z.2.2.1 ∧ 23 ≤ Z.2.2.2) (hQ : if sN S 0 < 40 then (∀ Z' a q r, Rep w (partA ad (sN S 0) a q r) (partS S (insP (ordP S) ((nI s * 3 + 0) * 160 + nI (sN S 0)) (sN S 0 + sN S 1 + sN S 2)) (nI s)) Z' → Z'.2.2.1 = Z.2.2.1 - 3 → Z'.2.2.2 = Z.2.2.2 - 23 → Q (.inl (some (.int (nI (sN S 0))))) Z') else Q (.inl (some (.int (-1)))) Z) : Cz w (4, 110) y_Sc_addPart (Cond.code y_Sc_addPart c_Sc_addPart 3 r_Sc_addPart :: wz) [.ref (ad 1), .int (nI s)] Z Q := by
  refine Cz.of (by decide +kernel) (by simp [lg_sl, Value.category]) ?_
  show G _ _ _ _ _ _ _ _ [(0, _), (1, _)] _ _
  have n0 := hR.1.1
  have n1 := hR.1.2.1
  have n2 := hR.1.2.2.1
  have h1 : zhs Z (ad 1) (.inr (1, [.ref (ad 11), .ref (ad 12), .ref (ad 13), .ref (ad 14), .ref (ad 15), .int (nI (sN S 0)), .int (nI (sN S 1)), .int (nI (sN S 2)), .int (nI (sN S 7))])) := hR.k 1 (by decide)
  have h12 : zhs Z (ad 12) (xr w 4 40 (fun k => if k < sN S 0 then some (ad (100 + 3 * k)) else sR S 12 k)) := hR.k 12 (by decide)
  refine g_aload_nq d_Sc_addPart_0 rfl 0 rfl ?_
  refine g_get d_Sc_addPart_1 f_Sc_39_Sc (by assumption) (by first | rfl | assumption) ?_
  refine g_aload_nq d_Sc_addPart_4 rfl 0 rfl ?_
  refine g_get d_Sc_addPart_5 f_Sc_17_Sc (by assumption) (by first | rfl | assumption) ?_
  refine g_alen d_Sc_addPart_8 4 (by assumption) rfl ?_
  refine g_icmp_lt (tgt := 14) d_Sc_addPart_9 (by decide) (fun h9 => ?_) (fun h9 => ?_)
  · have hlt : sN S 0 < 40 := (nI_ltI (by omega) (by decide)).mp h9
    rw [if_pos hlt] at hQ
    refine g_new d_Sc_addPart_14 n_Sc_15 (by omega) (by omega) (fun a ha => ?_)
    generalize e1 : znew _ _ _ _ = Z1
    have z0 := zhs_new_same' e1
    have h1 := zhs_new_old' e1 h1 ha
    have B1 := zbud_new e1
    refine g_dup d_Sc_addPart_17 rfl ?_
    refine g_iload_n d_Sc_addPart_18 rfl 1 rfl ?_
    refine g_aload_nq d_Sc_addPart_19 rfl 0 rfl ?_
    refine g_get d_Sc_addPart_20 f_Sc_39_Sc (by assumption) (by first | rfl | assumption) ?_
    refine g_callI d_Sc_addPart_23 k_Pa_init rfl l_Sc_66 i_Pa_init (by rfl) (by rfl) (Nat.le_of_ble_eq_true rfl) (by decide) (C_Pa_init z0 (by omega) (fun Z2 q r hq hr qr g0 g1 g2 F2 B2 B3 => ⟨_, rfl, ?_⟩))
    have F9 : zfr Z Z2 [a] := zfr_tr (zfr_new e1 ha) F2
    have hR2 : Rep w ad S Z2 := hR.fresh F9 (fun x hx => by rw [List.mem_singleton.mp hx]; exact ha)
    have mq : q ∉ Z.1 := fun z => hq ((zmem_new e1).mpr (Or.inl z))
    have mr : r ∉ Z.1 := fun z => hr ((zmem_new e1).mpr (Or.inl z))
    have aq : a ≠ q := fun z => hq ((zmem_new e1).mpr (Or.inr z.symm))
    have ar : a ≠ r := fun z => hr ((zmem_new e1).mpr (Or.inr z.symm))
    have L : ∀ i, i < 31 → ad i ∈ Z.1 := fun i hi => (hR.2.2 i (Or.inl hi)).1
    have na : ∀ i, i < 31 → a ≠ ad i := fun i hi z => ha (z ▸ L i hi)
    have nq : ∀ i, i < 31 → q ≠ ad i := fun i hi z => mq (z ▸ L i hi)
    have nr : ∀ i, i < 31 → r ≠ ad i := fun i hi z => mr (z ▸ L i hi)
    have J : ∀ i j, i < 31 → j < 31 → i ≠ j → ad i ≠ ad j := fun i j hi hj hne => hR.inj (Or.inl hi) (Or.inl hj) hne
    have h1 : zhs Z2 (ad 1) (.inr (1, [.ref (ad 11), .ref (ad 12), .ref (ad 13), .ref (ad 14), .ref (ad 15), .int (nI (sN S 0)), .int (nI (sN S 1)), .int (nI (sN S 2)), .int (nI (sN S 7))])) := hR2.k 1 (by decide)
    have h12 : zhs Z2 (ad 12) (xr w 4 40 (fun k => if k < sN S 0 then some (ad (100 + 3 * k)) else sR S 12 k)) := hR2.k 12 (by decide)
    refine g_astore_nq d_Sc_addPart_26 rfl (by decide) rfl ?_
    show G _ _ _ _ _ _ _ _ [(2, _), (0, _), (1, _)] _ _
    refine g_aload_nq d_Sc_addPart_27 rfl 1 rfl ?_
    refine g_aload_nq d_Sc_addPart_28 rfl 0 rfl ?_
    refine g_callV d_Sc_addPart_29 k_Sc_putInOrder l_Sc_69 i_Sc_putInOrder rfl p_Sc_putInOrder h1 (by rfl) (by rfl) (Nat.le_of_ble_eq_true rfl) (by decide) (C_Sc_putInOrder hR2 (by simp [thk]) g0 rfl (by omega) hL ⟨_, rfl, ?_⟩)
    generalize e3 : zput _ _ _ = Z3
    have h15 := zhs_put_same' e3 (hR2.k 15 (by decide))
    have h1 := zhs_put_ne' e3 h1 (J 1 15 (by decide) (by decide) (by decide))
    have h12 := zhs_put_ne' e3 h12 (J 12 15 (by decide) (by decide) (by decide))
    have g0 := zhs_put_ne' e3 g0 (na 15 (by decide))
    have g1 := zhs_put_ne' e3 g1 (nq 15 (by decide))
    have g2 := zhs_put_ne' e3 g2 (nr 15 (by decide))
    refine g_aload_nq d_Sc_addPart_32 rfl 1 rfl ?_
    refine g_get d_Sc_addPart_33 f_Sc_17_Sc (by assumption) (by first | rfl | assumption) ?_
    refine g_aload_nq d_Sc_addPart_36 rfl 1 rfl ?_
    refine g_get d_Sc_addPart_37 f_Sc_39_Sc (by assumption) (by first | rfl | assumption) ?_
    refine g_aload_nq d_Sc_addPart_40 rfl 0 rfl ?_
    refine g_aast d_Sc_addPart_41 4 h12 rfl g0 ⟨_, rfl, Or.inl rfl⟩ (vp_in_nI (by omega) (by decide)) ?_
    rw [nI_clamp (by omega)]
    generalize e4 : zput _ _ _ = Z4
    have h15 := zhs_put_ne' e4 h15 (J 15 12 (by decide) (by decide) (by decide))
    have h1 := zhs_put_ne' e4 h1 (J 1 12 (by decide) (by decide) (by decide))
    have h12 := zhs_put_same' e4 h12
    have g0 := zhs_put_ne' e4 g0 (na 12 (by decide))
    have g1 := zhs_put_ne' e4 g1 (nq 12 (by decide))
    have g2 := zhs_put_ne' e4 g2 (nr 12 (by decide))
    refine g_aload_nq d_Sc_addPart_42 rfl 1 rfl ?_
    refine g_dup d_Sc_addPart_43 rfl ?_
    refine g_get d_Sc_addPart_44 f_Sc_39_Sc (by assumption) (by first | rfl | assumption) ?_
    refine g_iconst (v := 1) d_Sc_addPart_47 rfl ?_
    refine g_iadd d_Sc_addPart_48 ?_
    refine g_put d_Sc_addPart_49 w_Sc_39_Sc (by assumption) (by first | rfl | exact zb_nar _) (by first | rfl | exact zb_fit _ | exact zrf_fit _) (by first | exact Nat.le_of_ble_eq_true rfl | omega) ?_
    rw [show (1 : Int32) = nI 1 from rfl, nI_add]
    generalize e5 : zput _ _ _ = Z5
    have h15 := zhs_put_ne' e5 h15 (J 15 1 (by decide) (by decide) (by decide))
    have h12 := zhs_put_ne' e5 h12 (J 12 1 (by decide) (by decide) (by decide))
    have h1 := zhs_put_same' e5 h1
    have g0 := zhs_put_ne' e5 g0 (na 1 (by decide))
    have g1 := zhs_put_ne' e5 g1 (nq 1 (by decide))
    have g2 := zhs_put_ne' e5 g2 (nr 1 (by decide))
    refine g_aload_nq d_Sc_addPart_52 rfl 0 rfl ?_
    refine g_callU d_Sc_addPart_53 k_Th_number l_Sc_73 e_Pa_Th_number z_Th_number (by decide +kernel) rfl i_Th_number rfl q_Pa_Pa_number_Th g0 (by rfl) (by rfl) (Nat.le_of_ble_eq_true rfl) (by decide) (C_Th_number (by simp [thk]) g0 rfl ⟨_, rfl, ?_⟩)
    rw [show (nI s * 3 + 0) * 160 + nI (sN S 0) - ((nI s * 3 + 0) * 160 + nI (sN S 0)) / 160 * 160 = nI (sN S 0) from num_rem hs (t := 0) (by decide) (by omega)]
    refine g_iret d_Sc_addPart_56 ?_
    have B3x := zbud_put e3
    have B4 := zbud_put e4
    have B5 := zbud_put e5
    refine hQ Z5 a q r (hR.addPart hL hlt insP_le ha mq mr aq ar qr g0 g1 g2 h1 h12 h15 ?_) (by omega) (by omega)
    intro b e b1 b12 b15 ba bq br hz
    exact zhs_put_ne' e5 (zhs_put_ne' e4 (zhs_put_ne' e3 (F9 b e (by simp [ba]) hz) b15) b12) b1
  · have hge : ¬ sN S 0 < 40 := fun z => h9 (nI_lt z (by decide))
    rw [if_neg hge] at hQ
    refine g_iconst (v := (-1)) d_Sc_addPart_12 rfl ?_
    refine g_iret d_Sc_addPart_13 ?_
    exact hQ
