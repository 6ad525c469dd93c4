/-! RuleReader.readRule -/
def rdH (S : ST) : Prop := sN S 9 ≤ 160 ∧ (∀ k, narrow .char (.int (sI S 16 k)) = .int (sI S 16 k)) ∧ ciLive S
def rdG (S : ST) : Prop := (rdL 80 (stO S)).2 = true ∧ sN (rdL 80 (stO S)).1 15 = 0 ∧ bhc (rdL 80 (stO S)).1
def rdE (S : ST) : ST := podF 1 (sN (rdL 80 (stO S)).1 13) (rdL 80 (stO S)).1
def cpy80 (f : Nat → Int32) (n : Nat) : Nat → Int32 := va_cpy f (fun _ => 0) 0 0 (min 80 n)
theorem stO_J {S : ST} (h : rdH S) : rdJ (stO S) ∧ wsI (stO S) ∧ sN (stO S) 14 + 80 = 80 := by
  refine ⟨⟨h.1, Nat.zero_le _, h.2.1, ?_, by show (0 : Nat) ≤ 80; decide, by show (0 : Nat) ≤ 80; decide, by show (0 : Nat) ≤ 80; decide, by show (0 : Nat) ≤ 8; decide⟩, Or.inl ⟨rfl, rfl, rfl, rfl⟩, rfl⟩
  exact ((((((h.2.2.N (by decide)).N (by decide)).N (by decide)).N (by decide)).w3.N (by decide)).w3)
theorem rdE_12 {S : ST} (h : rdH S) (hg : rdG S) : sN (rdE S) 12 ≤ 78 ∧ rdC (rdL 80 (stO S)).1 (rdE S) := by
  obtain ⟨a, b, c⟩ := stO_J h
  obtain ⟨d, e⟩ := rdL_end 80 (stO S) a b c
  have t := tOK.pod (x := 1) (S := (rdL 80 (stO S)).1) rfl
  refine ⟨?_, t.1⟩
  show sN (podF 1 (sN (rdL 80 (stO S)).1 13) (rdL 80 (stO S)).1) 12 ≤ 78
  have t5 := t.2.2.2.2
  have t8 := d.2.2.2.2.2.2.1
  have hb := hg.2.2
  generalize (rdL 80 (stO S)).1 = S1 at *
  rcases e with e | e | e
  · rcases hb with hb | hb
    · rw [e.1] at hb; exact absurd hb (by decide)
    · rw [e.1] at hb; exact absurd hb.1 (by decide)
  · rcases hb with hb | hb
    · rw [e.1] at hb; exact absurd hb (by decide)
    · rw [e.1] at hb; exact absurd hb.1 (by decide)
  · omega
set_option maxHeartbeats 4000000 in
set_option maxRecDepth 100000 in
theorem C_Rd_readRule {w : zC} {Z : zZ} {Q : zR → zZ → Prop} {ad : Nat → Nat} {S : ST} (hR : Rep w ad S Z) {adK adV : Nat → Nat} (hK : zLit w adK adV) (hH : rdH S) (hb : 3 ≤ Z.2.2.1 ∧ 164 ≤ Z.2.2.2) (hQn : ¬ rdG S → ∀ Z', Rep w ad (rdL 80 (stO S)).1 Z' → Z'.2.2 = Z.2.2 → Q (.inl (some .null)) Z') (hQs : rdG S → ∀ Z2 Z' a q r, Rep w ad (rdE S) Z2 → a ∉ Z2.1 → q ∉ Z2.1 → r ∉ Z2.1 → a ≠ q → a ≠ r → q ≠ r → zhs Z' a (.inr (9, [.int (sI (rdE S) 3 10), .int (sI (rdE S) 3 11), .ref q, .ref r])) → zhs Z' q (xi w (sN (rdE S) 12) (cpy80 (sI (rdE S) 17) (sN (rdE S) 12))) → zhs Z' r (xi w (sN (rdE S) 12) (cpy80 (sI (rdE S) 18) (sN (rdE S) 12))) → (∀ b e, zhs Z2 b e → zhs Z' b e) → Z'.2.2.1 = Z.2.2.1 - 3 → Z'.2.2.2 = Z.2.2.2 - (4 + 2 * sN (rdE S) 12) → Q (.inl (some (.ref a))) Z') : Cz w (8, 168) y_Rd_readRule (Cond.code y_Rd_readRule c_Rd_readRule 2 r_Rd_readRule :: wz) [.ref (ad 3)] Z Q := by
  refine Cz.of (by decide +kernel) (by simp [lg_sl, Value.category]) ?_
  show G _ _ _ _ _ _ _ _ [(0, _)] _ _
  have h3 : zhs Z (ad 3) (.inr (3, [.ref (ad 17), .ref (ad 18), .ref (ad 19), .ref (ad 2), .int (nI (sN S 12)), .int (nI (sN S 13)), .int (nI (sN S 14)), .int (sI S 3 7), .int (nI (sN S 15)), .int (sI S 3 9), .int (sI S 3 10), .int (sI S 3 11)])) := hR.k 3 (by decide)
  refine g_aload_nq d_Rd_readRule_0 rfl 0 rfl ?_
  refine g_callV d_Rd_readRule_1 k_Rd_start l_Rd_61 i_Rd_start rfl p_Rd_start h3 (by rfl) (by rfl) (Nat.le_of_ble_eq_true rfl) (by decide) (C_Rd_start hR hH.2.2 (fun Z1 hR1 B1 => ⟨_, rfl, ?_⟩))
  refine g_iconst (v := 1) d_Rd_readRule_4 rfl ?_
  refine g_istore_n d_Rd_readRule_5 rfl (by decide) rfl ?_
  show G _ _ _ _ _ _ _ _ [(1, _), (0, _)] _ _
  obtain ⟨a1, a2, a3⟩ := stO_J hH
  refine L_Rd_readRule hK 80 (stO S) Z1 hR1 a1 a2 a3 (fun Z2 hR2 B2 => ?_)
  obtain ⟨d1, d2⟩ := rdL_end 80 (stO S) a1 a2 a3
  have hE := rdE_12 hH
  have hB := B2.trans B1
  unfold rdG rdE at *
  generalize f1 : (rdL 80 (stO S)).1 = S1 at *
  generalize f2 : (rdL 80 (stO S)).2 = b at *
  have h3 : zhs Z2 (ad 3) (.inr (3, [.ref (ad 17), .ref (ad 18), .ref (ad 19), .ref (ad 2), .int (nI (sN S1 12)), .int (nI (sN S1 13)), .int (nI (sN S1 14)), .int (sI S1 3 7), .int (nI (sN S1 15)), .int (sI S1 3 9), .int (sI S1 3 10), .int (sI S1 3 11)])) := hR2.k 3 (by decide)
  refine g_iload_n d_Rd_readRule_51 rfl 0 rfl ?_
  first | refine g_if_eqB (tgt := 69) d_Rd_readRule_52 (by decide) (fun h52 => ?_) (fun h52 => ?_) | refine g_if_eq (tgt := 69) d_Rd_readRule_52 (by decide) (fun h52 => ?_) (fun h52 => ?_)
  · have hF := hQn (fun z => h52 z.1) Z2 hR2 hB
    refine g_null d_Rd_readRule_69 ?_
    refine g_aret d_Rd_readRule_70 ?_
    exact hF
  · refine g_aload_nq d_Rd_readRule_55 rfl 1 rfl ?_
    refine g_get d_Rd_readRule_56 f_Rd_41_Rd (by assumption) (by first | rfl | assumption) ?_
    refine g_if_gt (tgt := 69) d_Rd_readRule_59 (by decide) (fun h59 => ?_) (fun h59 => ?_)
    · have hF := hQn (fun z => absurd h59 (by rw [z.2.1]; decide)) Z2 hR2 hB
      refine g_null d_Rd_readRule_69 ?_
      refine g_aret d_Rd_readRule_70 ?_
      exact hF
    · have h15 : sN S1 15 = 0 := Nat.eq_zero_of_not_pos (fun z => h59 (nI_lt (a := 0) z (by have := d1.2.2.2.2.2.2.2; omega)))
      refine g_aload_nq d_Rd_readRule_62 rfl 1 rfl ?_
      refine g_callV d_Rd_readRule_63 k_Rd_isBehindCondition l_Rd_71 i_Rd_isBehindCondition rfl p_Rd_isBehindCondition h3 (by rfl) (by rfl) (Nat.le_of_ble_eq_true rfl) (by decide) (C_Rd_isBehindCondition hR2 ⟨_, rfl, ?_⟩)
      first | refine g_if_neB (tgt := 71) d_Rd_readRule_66 (by decide) (fun h66 => ?_) (fun h66 => ?_) | refine g_if_ne (tgt := 71) d_Rd_readRule_66 (by decide) (fun h66 => ?_) (fun h66 => ?_)
      · refine g_aload_nq d_Rd_readRule_71 rfl 1 rfl ?_
        refine g_iconst (v := 1) d_Rd_readRule_72 rfl ?_
        refine g_callV d_Rd_readRule_73 k_Rd_putOutDownTo l_Rd_76 i_Rd_putOutDownTo rfl p_Rd_putOutDownTo h3 (by rfl) (by rfl) (Nat.le_of_ble_eq_true rfl) (by decide) (C_Rd_putOutDownTo hR2 d1.2.2.2.1 d1.2.2.2.2.1 d1.2.2.2.2.2.1 (fun Z3 hR3 B3 => ⟨_, rfl, ?_⟩))
        have hg : b = true ∧ sN S1 15 = 0 ∧ bhc S1 := ⟨h52, h15, h66⟩
        have hE := hE hg
        have hQs := hQs hg
        generalize f3 : podF 1 (sN S1 13) S1 = S2 at *
        have b1 : Z3.2.2.1 = Z.2.2.1 := by rw [B3, hB]
        have b2 : Z3.2.2.2 = Z.2.2.2 := by rw [B3, hB]
        have h3 : zhs Z3 (ad 3) (.inr (3, [.ref (ad 17), .ref (ad 18), .ref (ad 19), .ref (ad 2), .int (nI (sN S2 12)), .int (nI (sN S2 13)), .int (nI (sN S2 14)), .int (sI S2 3 7), .int (nI (sN S2 15)), .int (sI S2 3 9), .int (sI S2 3 10), .int (sI S2 3 11)])) := hR3.k 3 (by decide)
        have h17 : zhs Z3 (ad 17) (xi w 80 (sI S2 17)) := hR3.k 17 (by decide)
        have h18 : zhs Z3 (ad 18) (xi w 80 (sI S2 18)) := hR3.k 18 (by decide)
        refine g_new d_Rd_readRule_76 n_Rd_74 (by omega) (by omega) (fun a ha => ?_)
        generalize e4 : znew _ _ _ _ = Z4
        have z0 := zhs_new_same' e4
        have h3 := zhs_new_old' e4 h3 ha
        have h17 := zhs_new_old' e4 h17 ha
        have h18 := zhs_new_old' e4 h18 ha
        have C4 := zbud_new e4
        refine g_dup d_Rd_readRule_79 rfl ?_
        refine g_aload_nq d_Rd_readRule_80 rfl 1 rfl ?_
        refine g_get d_Rd_readRule_81 f_Rd_48_Rd (by assumption) (by first | rfl | assumption) ?_
        refine g_aload_nq d_Rd_readRule_84 rfl 1 rfl ?_
        refine g_get d_Rd_readRule_85 f_Rd_51_Rd (by assumption) (by first | rfl | assumption) ?_
        refine g_aload_nq d_Rd_readRule_88 rfl 1 rfl ?_
        refine g_get d_Rd_readRule_89 f_Rd_9_Rd (by assumption) (by first | rfl | assumption) ?_
        refine g_aload_nq d_Rd_readRule_92 rfl 1 rfl ?_
        refine g_get d_Rd_readRule_93 f_Rd_28_Rd (by assumption) (by first | rfl | assumption) ?_
        refine g_callS d_Rd_readRule_96 k_jA_copyOf l_Rd_80 s_jA_copyOf (by rfl) (by rfl) (Nat.le_of_ble_eq_true rfl) (by decide) (C_jA_copyOf h17 (by omega) (by omega) (by omega) (by omega) (by omega) (fun q hq => ⟨_, rfl, ?_⟩))
        generalize e5 : znew _ _ _ _ = Z5
        have z1 := zhs_new_same' e5
        have z0 := zhs_new_old' e5 z0 hq
        have h3 := zhs_new_old' e5 h3 hq
        have h18 := zhs_new_old' e5 h18 hq
        have C5 := zbud_new e5
        refine g_aload_nq d_Rd_readRule_99 rfl 1 rfl ?_
        refine g_get d_Rd_readRule_100 f_Rd_15_Rd (by assumption) (by first | rfl | assumption) ?_
        refine g_aload_nq d_Rd_readRule_103 rfl 1 rfl ?_
        refine g_get d_Rd_readRule_104 f_Rd_28_Rd (by assumption) (by first | rfl | assumption) ?_
        refine g_callS d_Rd_readRule_107 k_jA_copyOf l_Rd_80 s_jA_copyOf (by rfl) (by rfl) (Nat.le_of_ble_eq_true rfl) (by decide) (C_jA_copyOf h18 (by omega) (by omega) (by omega) (by omega) (by omega) (fun r hr => ⟨_, rfl, ?_⟩))
        generalize e6 : znew _ _ _ _ = Z6
        have z2 := zhs_new_same' e6
        have z0 := zhs_new_old' e6 z0 hr
        have z1 := zhs_new_old' e6 z1 hr
        have C6 := zbud_new e6
        refine g_callI d_Rd_readRule_110 k_Tr_init rfl l_Rd_86 i_Tr_init (by rfl) (by rfl) (Nat.le_of_ble_eq_true rfl) (by decide) (C_Tr_init z0 ⟨_, rfl, ?_⟩)
        generalize e7 : zput _ _ _ = Z7
        have aq : a ≠ q := fun z => hq (z ▸ z0.1 |> fun _ => (zmem_new e4).mpr (Or.inr z.symm))
        have ar : a ≠ r := fun z => hr ((zmem_new e5).mpr (Or.inl ((zmem_new e4).mpr (Or.inr z.symm))))
        have qr : q ≠ r := fun z => hr ((zmem_new e5).mpr (Or.inr z.symm))
        have z1 := zhs_put_ne' e7 z1 (Ne.symm aq)
        have z2 := zhs_put_ne' e7 z2 (Ne.symm ar)
        have z0 := zhs_put_same' e7 z0
        have C7 := zbud_put e7
        refine g_aret d_Rd_readRule_113 ?_
        refine hQs Z3 Z7 a q r hR3 ha (fun z => hq ((zmem_new e4).mpr (Or.inl z))) (fun z => hr ((zmem_new e5).mpr (Or.inl ((zmem_new e4).mpr (Or.inl z))))) aq ar qr z0 z1 z2 ?_ (by omega) (by omega)
        intro c e hc
        exact zhs_put_ne' e7 (zhs_new_old' e6 (zhs_new_old' e5 (zhs_new_old' e4 hc ha) hq) hr) (fun z => ha (z ▸ hc.1))
      · have hF := hQn (fun z => h66 z.2.2) Z2 hR2 hB
        refine g_null d_Rd_readRule_69 ?_
        refine g_aret d_Rd_readRule_70 ?_
        exact hF
