/-! A new net; Schematic.addNet -/
/-- a new net: its number, its sheet, its name -/
def netS (S : ST) (p : Nat) (s m : Int32) : ST := (va_up (va_up S.1 (220 + 2 * sN S 1) (fun j => if j = 0 then s else if j = 4 then m else 0)) (221 + 2 * sN S 1) (fun _ => 0), S.2.1, S.2.2.1, insN S 1 p (220 + 2 * sN S 1))
def netA (ad : Nat → Nat) (k a q : Nat) : Nat → Nat := va_up (va_up ad (220 + 2 * k) a) (221 + 2 * k) q
theorem Rep.addNet {w : zC} {ad : Nat → Nat} {S : ST} {Z Z' : zZ} {p a q : Nat} {s m : Int32} (h : Rep w ad S Z) (hL : ciLive S) (hk : sN S 1 < 40) (hp : p ≤ sN S 0 + sN S 1 + sN S 2) (ha : a ∉ Z.1) (hq : q ∉ Z.1) (aq : a ≠ q)
    (g0 : zhs Z' a (.inr (7, [.int s, .int ((s * 3 + 1) * 160 + nI (sN S 1)), .ref q, .int 0, .int m, .int 0]))) (g1 : zhs Z' q (xi w 10 (fun _ => 0)))
    (g3 : zhs Z' (ad 1) (.inr (1, [.ref (ad 11), .ref (ad 12), .ref (ad 13), .ref (ad 14), .ref (ad 15), .int (nI (sN S 0)), .int (nI (sN S 1 + 1)), .int (nI (sN S 2)), .int (nI (sN S 7))])))
    (g4 : zhs Z' (ad 13) (xr w 5 40 (va_up (fun k => if k < sN S 1 then some (ad (220 + 2 * k)) else sR S 13 k) (sN S 1) (some a)))) (g5 : zhs Z' (ad 15) (xr w 7 240 (va_up (shf (ordA ad S) (sN S 0 + sN S 1 + sN S 2) p) p (some a))))
    (hf : ∀ b e, b ≠ ad 1 → b ≠ ad 13 → b ≠ ad 15 → b ≠ a → b ≠ q → zhs Z b e → zhs Z' b e) : Rep w (netA ad (sN S 1) a q) (netS S p s m) Z' := by
  have b0 := h.1.1
  have b1 := h.1.2.1
  have b2 := h.1.2.2.1
  have A0 : netA ad (sN S 1) a q (220 + 2 * sN S 1) = a := by unfold netA; rw [va_up_ne _ _ (by omega), va_up_self]
  have A1 : netA ad (sN S 1) a q (221 + 2 * sN S 1) = q := va_up_self _ _ _
  have AO : ∀ i, i < 220 + 2 * sN S 1 ∨ 221 + 2 * sN S 1 < i → netA ad (sN S 1) a q i = ad i := fun i hi => by unfold netA; rw [va_up_ne _ _ (by omega), va_up_ne _ _ (by omega)]
  have hlo : ∀ i, liveS S i → i < 220 + 2 * sN S 1 ∨ 221 + 2 * sN S 1 < i := fun i hi => by simp only [liveS] at hi; omega
  have had : ∀ i, liveS S i → netA ad (sN S 1) a q i = ad i := fun i hi => AO i (hlo i hi)
  have hN : sN (netS S p s m) = insN S 1 p (220 + 2 * sN S 1) := rfl
  have hN0 : sN (netS S p s m) 1 = sN S 1 + 1 := by rw [hN, insN_c]
  have hNo : ∀ n, n ≠ 1 → n < 1000 → sN (netS S p s m) n = sN S n := fun n h1 h2 => by rw [hN]; exact insN_o h1 (Or.inl h2)
  refine h.grow (N := fun i => i = 220 + 2 * sN S 1 ∨ i = 221 + 2 * sN S 1) ⟨by rw [hNo 0 (by omega) (by omega)]; exact b0, by rw [hN0]; omega, by rw [hNo 2 (by omega) (by omega)]; exact b2, by rw [hNo 3 (by omega) (by omega)]; exact h.1.2.2.2.1, by rw [hNo 8 (by omega) (by omega)]; exact h.1.2.2.2.2⟩ ?_ had ?_ ?_ ?_ ?_
  · intro i hi
    simp only [liveS] at hi ⊢
    rw [hN0, hNo 0 (by omega) (by omega), hNo 2 (by omega) (by omega), hNo 3 (by omega) (by omega)] at hi
    rcases hi with hi | hi | hi | hi | hi | hi | hi | hi
    · exact Or.inl (Or.inl hi)
    · exact Or.inl (Or.inr (Or.inl hi))
    · exact Or.inl (Or.inr (Or.inr (Or.inl hi)))
    · by_cases hlt : i < 220 + 2 * sN S 1
      · exact Or.inl (Or.inr (Or.inr (Or.inr (Or.inl ⟨hi.1, hlt⟩))))
      · exact Or.inr (by omega)
    · exact Or.inl (Or.inr (Or.inr (Or.inr (Or.inr (Or.inl hi)))))
    · exact Or.inl (Or.inr (Or.inr (Or.inr (Or.inr (Or.inr (Or.inl hi))))))
    · exact Or.inl (Or.inr (Or.inr (Or.inr (Or.inr (Or.inr (Or.inr (Or.inl hi)))))))
    · exact Or.inl (Or.inr (Or.inr (Or.inr (Or.inr (Or.inr (Or.inr (Or.inr (hi))))))))
  · rintro i j (rfl | rfl) (rfl | rfl) he <;> simp only [A0, A1] at he <;> first | rfl | exact absurd he aq | exact absurd he.symm aq
  · rintro i (rfl | rfl)
    · rw [A0]; exact ha
    · rw [A1]; exact hq
  · have I0 : sI (netS S p s m) (220 + 2 * sN S 1) = fun j => if j = 0 then s else if j = 4 then m else 0 := by show va_up (va_up _ _ _) _ _ _ = _; rw [va_up_ne _ _ (by omega), va_up_self]
    have I1 : sI (netS S p s m) (221 + 2 * sN S 1) = fun _ => 0 := va_up_self _ _ _
    rintro i (rfl | rfl)
    · rw [A0, cell_net (by omega)]
      unfold pNet
      rw [A1, I0]
      exact g0
    · rw [A1, cell_netC (by omega), I1]; exact g1
  · intro i hi
    by_cases i1 : i = 1
    · subst i1
      rw [cell_K (by decide)]
      unfold cellK
      simp only [AO 11 (by omega), AO 12 (by omega), AO 13 (by omega), AO 14 (by omega), AO 15 (by omega), hN0, hNo 0 (by omega) (by omega), hNo 2 (by omega) (by omega), hNo 7 (by omega) (by omega)]
      exact g3
    by_cases i12 : i = 13
    · subst i12
      have e : cellOf w (netA ad (sN S 1) a q) (netS S p s m) 13 = xr w 5 40 (va_up (fun k => if k < sN S 1 then some (ad (220 + 2 * k)) else sR S 13 k) (sN S 1) (some a)) := by
        rw [cell_K (by decide)]
        show xr w 5 40 _ = xr w 5 40 _
        congr 1
        funext k
        rw [hN0]
        by_cases hk0 : k = sN S 1
        · subst hk0; rw [va_up_self, if_pos (by omega), A0]
        · rw [va_up_ne _ _ hk0]
          by_cases hk1 : k < sN S 1
          · rw [if_pos hk1, if_pos (by omega), AO _ (by omega)]
          · rw [if_neg hk1, if_neg (by omega)]; rfl
      rw [e]; exact g4
    by_cases i15 : i = 15
    · subst i15
      rw [cell_15, ord_ins (c := 1) (by decide) (by omega) hp hN rfl hL had, A0]
      exact g5
    have o := hlo i hi
    rw [ins_old h (c := 1) (by decide) hL had hN hi i1 i12 i15 (by show va_up (va_up _ _ _) _ _ _ = _; rw [va_up_ne _ _ (by omega), va_up_ne _ _ (by omega)]) rfl rfl]
    have z := h.2.2 i hi
    exact hf _ _ (h.inj hi (Or.inl (by decide)) i1) (h.inj hi (Or.inl (by decide)) i12) (h.inj hi (Or.inl (by decide)) i15) (fun x => ha (x ▸ z.1)) (fun x => hq (x ▸ z.1)) z
set_option maxHeartbeats 4000000 in
set_option maxRecDepth 100000 in
theorem C_Sc_addNet {w : zC} {Z : zZ} {Q : zR → zZ → Prop} {ad : Nat → Nat} {S : ST} (hR : Rep w ad S Z) {s : Nat} {m : Int32} (hs : s < 16) (hL : ciLive S) (hb : 2 ≤ Z.2.2.1 ∧ 16 ≤ Z.2.2.2) (hQ : if sN S 1 < 40 then (∀ Z' a q, Rep w (netA ad (sN S 1) a q) (netS S (insP (ordP S) ((nI s * 3 + 1) * 160 + nI (sN S 1)) (sN S 0 + sN S 1 + sN S 2)) (nI s) m) Z' → Z'.2.2.1 = Z.2.2.1 - 2 → Z'.2.2.2 = Z.2.2.2 - 16 → Q (.inl (some (.int (nI (sN S 1))))) Z') else Q (.inl (some (.int (-1)))) Z) : Cz w (4, 110) y_Sc_addNet (Cond.code y_Sc_addNet c_Sc_addNet 4 r_Sc_addNet :: wz) [.ref (ad 1), .int (nI s), .int m] Z Q := by
  refine Cz.of (by decide +kernel) (by simp [lg_sl, Value.category]) ?_
  show G _ _ _ _ _ _ _ _ [(0, _), (1, _), (2, _)] _ _
  have n0 := hR.1.1
  have n1 := hR.1.2.1
  have n2 := hR.1.2.2.1
  have h1 : zhs Z (ad 1) (.inr (1, [.ref (ad 11), .ref (ad 12), .ref (ad 13), .ref (ad 14), .ref (ad 15), .int (nI (sN S 0)), .int (nI (sN S 1)), .int (nI (sN S 2)), .int (nI (sN S 7))])) := hR.k 1 (by decide)
  have h12 : zhs Z (ad 13) (xr w 5 40 (fun k => if k < sN S 1 then some (ad (220 + 2 * k)) else sR S 13 k)) := hR.k 13 (by decide)
  refine g_aload_nq d_Sc_addNet_0 rfl 0 rfl ?_
  refine g_get d_Sc_addNet_1 f_Sc_43_Sc (by assumption) (by first | rfl | assumption) ?_
  refine g_aload_nq d_Sc_addNet_4 rfl 0 rfl ?_
  refine g_get d_Sc_addNet_5 f_Sc_23_Sc (by assumption) (by first | rfl | assumption) ?_
  refine g_alen d_Sc_addNet_8 5 (by assumption) rfl ?_
  refine g_icmp_lt (tgt := 14) d_Sc_addNet_9 (by decide) (fun h9 => ?_) (fun h9 => ?_)
  · have hlt : sN S 1 < 40 := (nI_ltI (by omega) (by decide)).mp h9
    rw [if_pos hlt] at hQ
    refine g_new d_Sc_addNet_14 n_Sc_21 (by omega) (by omega) (fun a ha => ?_)
    generalize e1 : znew _ _ _ _ = Z1
    have z0 := zhs_new_same' e1
    have h1 := zhs_new_old' e1 h1 ha
    have B1 := zbud_new e1
    refine g_dup d_Sc_addNet_17 rfl ?_
    refine g_iload_n d_Sc_addNet_18 rfl 1 rfl ?_
    refine g_aload_nq d_Sc_addNet_19 rfl 0 rfl ?_
    refine g_get d_Sc_addNet_20 f_Sc_43_Sc (by assumption) (by first | rfl | assumption) ?_
    refine g_iload_n d_Sc_addNet_23 rfl 2 rfl ?_
    refine g_callI d_Sc_addNet_24 k_Ne_init rfl l_Sc_77 i_Ne_init (by rfl) (by rfl) (Nat.le_of_ble_eq_true rfl) (by decide) (C_Ne_init z0 (by omega) (fun Z2 q hq g0 g1 F2 B2 B3 => ⟨_, rfl, ?_⟩))
    have F9 : zfr Z Z2 [a] := zfr_tr (zfr_new e1 ha) F2
    have hR2 : Rep w ad S Z2 := hR.fresh F9 (fun x hx => by rw [List.mem_singleton.mp hx]; exact ha)
    have mq : q ∉ Z.1 := fun z => hq ((zmem_new e1).mpr (Or.inl z))
    have aq : a ≠ q := fun z => hq ((zmem_new e1).mpr (Or.inr z.symm))
    have L : ∀ i, i < 31 → ad i ∈ Z.1 := fun i hi => (hR.2.2 i (Or.inl hi)).1
    have na : ∀ i, i < 31 → a ≠ ad i := fun i hi z => ha (z ▸ L i hi)
    have nq : ∀ i, i < 31 → q ≠ ad i := fun i hi z => mq (z ▸ L i hi)
    have J : ∀ i j, i < 31 → j < 31 → i ≠ j → ad i ≠ ad j := fun i j hi hj hne => hR.inj (Or.inl hi) (Or.inl hj) hne
    have h1 : zhs Z2 (ad 1) (.inr (1, [.ref (ad 11), .ref (ad 12), .ref (ad 13), .ref (ad 14), .ref (ad 15), .int (nI (sN S 0)), .int (nI (sN S 1)), .int (nI (sN S 2)), .int (nI (sN S 7))])) := hR2.k 1 (by decide)
    have h12 : zhs Z2 (ad 13) (xr w 5 40 (fun k => if k < sN S 1 then some (ad (220 + 2 * k)) else sR S 13 k)) := hR2.k 13 (by decide)
    refine g_astore_nq d_Sc_addNet_27 rfl (by decide) rfl ?_
    show G _ _ _ _ _ _ _ _ [(3, _), (0, _), (1, _), (2, _)] _ _
    refine g_aload_nq d_Sc_addNet_28 rfl 1 rfl ?_
    refine g_aload_nq d_Sc_addNet_29 rfl 0 rfl ?_
    refine g_callV d_Sc_addNet_30 k_Sc_putInOrder l_Sc_69 i_Sc_putInOrder rfl p_Sc_putInOrder h1 (by rfl) (by rfl) (Nat.le_of_ble_eq_true rfl) (by decide) (C_Sc_putInOrder hR2 (by simp [thk]) g0 rfl (by omega) hL ⟨_, rfl, ?_⟩)
    generalize e3 : zput _ _ _ = Z3
    have h15 := zhs_put_same' e3 (hR2.k 15 (by decide))
    have h1 := zhs_put_ne' e3 h1 (J 1 15 (by decide) (by decide) (by decide))
    have h12 := zhs_put_ne' e3 h12 (J 13 15 (by decide) (by decide) (by decide))
    have g0 := zhs_put_ne' e3 g0 (na 15 (by decide))
    have g1 := zhs_put_ne' e3 g1 (nq 15 (by decide))
    refine g_aload_nq d_Sc_addNet_33 rfl 1 rfl ?_
    refine g_get d_Sc_addNet_34 f_Sc_23_Sc (by assumption) (by first | rfl | assumption) ?_
    refine g_aload_nq d_Sc_addNet_37 rfl 1 rfl ?_
    refine g_get d_Sc_addNet_38 f_Sc_43_Sc (by assumption) (by first | rfl | assumption) ?_
    refine g_aload_nq d_Sc_addNet_41 rfl 0 rfl ?_
    refine g_aast d_Sc_addNet_42 5 h12 rfl g0 ⟨_, rfl, Or.inl rfl⟩ (vp_in_nI (by omega) (by decide)) ?_
    rw [nI_clamp (by omega)]
    generalize e4 : zput _ _ _ = Z4
    have h15 := zhs_put_ne' e4 h15 (J 15 13 (by decide) (by decide) (by decide))
    have h1 := zhs_put_ne' e4 h1 (J 1 13 (by decide) (by decide) (by decide))
    have h12 := zhs_put_same' e4 h12
    have g0 := zhs_put_ne' e4 g0 (na 13 (by decide))
    have g1 := zhs_put_ne' e4 g1 (nq 13 (by decide))
    refine g_aload_nq d_Sc_addNet_43 rfl 1 rfl ?_
    refine g_dup d_Sc_addNet_44 rfl ?_
    refine g_get d_Sc_addNet_45 f_Sc_43_Sc (by assumption) (by first | rfl | assumption) ?_
    refine g_iconst (v := 1) d_Sc_addNet_48 rfl ?_
    refine g_iadd d_Sc_addNet_49 ?_
    refine g_put d_Sc_addNet_50 w_Sc_43_Sc (by assumption) (by first | rfl | exact zb_nar _) (by first | rfl | exact zb_fit _ | exact zrf_fit _) (by first | exact Nat.le_of_ble_eq_true rfl | omega) ?_
    rw [show (1 : Int32) = nI 1 from rfl, nI_add]
    generalize e5 : zput _ _ _ = Z5
    have h15 := zhs_put_ne' e5 h15 (J 15 1 (by decide) (by decide) (by decide))
    have h12 := zhs_put_ne' e5 h12 (J 13 1 (by decide) (by decide) (by decide))
    have h1 := zhs_put_same' e5 h1
    have g0 := zhs_put_ne' e5 g0 (na 1 (by decide))
    have g1 := zhs_put_ne' e5 g1 (nq 1 (by decide))
    refine g_aload_nq d_Sc_addNet_53 rfl 0 rfl ?_
    refine g_callU d_Sc_addNet_54 k_Th_number l_Sc_80 e_Ne_Th_number z_Th_number (by decide +kernel) rfl i_Th_number rfl q_Ne_Ne_number_Th g0 (by rfl) (by rfl) (Nat.le_of_ble_eq_true rfl) (by decide) (C_Th_number (by simp [thk]) g0 rfl ⟨_, rfl, ?_⟩)
    rw [show (nI s * 3 + 1) * 160 + nI (sN S 1) - ((nI s * 3 + 1) * 160 + nI (sN S 1)) / 160 * 160 = nI (sN S 1) from num_rem hs (t := 1) (by decide) (by omega)]
    refine g_iret d_Sc_addNet_57 ?_
    have B3x := zbud_put e3
    have B4 := zbud_put e4
    have B5 := zbud_put e5
    refine hQ Z5 a q (hR.addNet hL hlt insP_le ha mq aq g0 g1 h1 h12 h15 ?_) (by omega) (by omega)
    intro b e b1 b12 b15 ba bq hz
    exact zhs_put_ne' e5 (zhs_put_ne' e4 (zhs_put_ne' e3 (F9 b e (by simp [ba]) hz) b15) b12) b1
  · have hge : ¬ sN S 1 < 40 := fun z => h9 (nI_lt z (by decide))
    rw [if_neg hge] at hQ
    refine g_iconst (v := (-1)) d_Sc_addNet_12 rfl ?_
    refine g_iret d_Sc_addNet_13 ?_
    exact hQ
