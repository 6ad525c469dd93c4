/-! A told rule joins the state; PinKindChecks.rule -/
def ruleS (S : ST) (x y : Int32) (n : Nat) (f g : Nat → Int32) : ST := (va_up (va_up (va_up S.1 (460 + 3 * sN S 3) (fun j => if j = 0 then x else if j = 1 then y else 0)) (461 + 3 * sN S 3) f) (462 + 3 * sN S 3) g, S.2.1, S.2.2.1, va_up (va_up S.2.2.2 3 (sN S 3 + 1)) (3000 + sN S 3) n)
def ruleA (ad : Nat → Nat) (k a q r : Nat) : Nat → Nat := va_up (va_up (va_up ad (460 + 3 * k) a) (461 + 3 * k) q) (462 + 3 * k) r
set_option maxHeartbeats 4000000 in
theorem Rep.addRule {w : zC} {ad : Nat → Nat} {S : ST} {Z Z' : zZ} {a q r n : Nat} {x y : Int32} {f g : Nat → Int32} (h : Rep w ad S Z) (hL : ciLive S) (hk : sN S 3 < 20) (ha : a ∉ Z.1) (hq : q ∉ Z.1) (hr : r ∉ Z.1) (aq : a ≠ q) (ar : a ≠ r) (qr : q ≠ r)
    (g0 : zhs Z' a (.inr (9, [.int x, .int y, .ref q, .ref r]))) (g1 : zhs Z' q (xi w n f)) (g2 : zhs Z' r (xi w n g))
    (g3 : zhs Z' (ad 0) (.inr (0, [.ref (ad 1), .ref (ad 3), .ref (ad 8), .ref (ad 9), .ref (ad 4), .ref (ad 5), .ref (ad 10), .ref (ad (5 + sN S 8)), .ref (ad (8 - sN S 8)), .int (nI (sN S 3 + 1)), .int (sI S 0 11)])))
    (g4 : zhs Z' (ad 8) (xr w 8 20 (va_up (fun k => if k < sN S 3 then some (ad (460 + 3 * k)) else sR S 8 k) (sN S 3) (some a))))
    (hf : ∀ b e, b ≠ ad 0 → b ≠ ad 8 → zhs Z b e → zhs Z' b e) : Rep w (ruleA ad (sN S 3) a q r) (ruleS S x y n f g) Z' := by
  have A0 : ruleA ad (sN S 3) a q r (460 + 3 * sN S 3) = a := by unfold ruleA; rw [va_up_ne _ _ (by omega), va_up_ne _ _ (by omega), va_up_self]
  have A1 : ruleA ad (sN S 3) a q r (461 + 3 * sN S 3) = q := by unfold ruleA; rw [va_up_ne _ _ (by omega), va_up_self]
  have A2 : ruleA ad (sN S 3) a q r (462 + 3 * sN S 3) = r := va_up_self _ _ _
  have AO : ∀ i, i < 460 + 3 * sN S 3 ∨ 462 + 3 * sN S 3 < i → ruleA ad (sN S 3) a q r i = ad i := fun i hi => by unfold ruleA; rw [va_up_ne _ _ (by omega), va_up_ne _ _ (by omega), va_up_ne _ _ (by omega)]
  have b0 := h.1.1
  have b1 := h.1.2.1
  have b2 := h.1.2.2.1
  have b8 := h.1.2.2.2.2
  have hlo : ∀ i, liveS S i → i < 460 + 3 * sN S 3 ∨ 462 + 3 * sN S 3 < i := fun i hi => by simp only [liveS] at hi; omega
  have had : ∀ i, liveS S i → ruleA ad (sN S 3) a q r i = ad i := fun i hi => AO i (hlo i hi)
  have hN3 : sN (ruleS S x y n f g) 3 = sN S 3 + 1 := by show va_up (va_up _ _ _) _ _ 3 = _; rw [va_up_ne _ _ (by omega), va_up_self]
  have hNk : sN (ruleS S x y n f g) (3000 + sN S 3) = n := va_up_self _ _ _
  have hNo : ∀ m, m ≠ 3 → m ≠ 3000 + sN S 3 → sN (ruleS S x y n f g) m = sN S m := fun m h1 h2 => by show va_up (va_up _ _ _) _ _ m = _; rw [va_up_ne _ _ h2, va_up_ne _ _ h1]
  have hIo : ∀ i, i < 460 + 3 * sN S 3 ∨ 462 + 3 * sN S 3 < i → (ruleS S x y n f g).1 i = S.1 i := fun i hi => by show va_up (va_up (va_up _ _ _) _ _) _ _ i = _; rw [va_up_ne _ _ (by omega), va_up_ne _ _ (by omega), va_up_ne _ _ (by omega)]
  refine h.grow (N := fun i => i = 460 + 3 * sN S 3 ∨ i = 461 + 3 * sN S 3 ∨ i = 462 + 3 * sN S 3) ⟨by rw [hNo 0 (by omega) (by omega)]; exact b0, by rw [hNo 1 (by omega) (by omega)]; exact b1, by rw [hNo 2 (by omega) (by omega)]; exact b2, by rw [hN3]; omega, by rw [hNo 8 (by omega) (by omega)]; exact b8⟩ ?_ had ?_ ?_ ?_ ?_
  · intro i hi
    simp only [liveS] at hi ⊢
    rw [hN3, hNo 0 (by omega) (by omega), hNo 1 (by omega) (by omega), hNo 2 (by omega) (by omega)] at hi
    rcases hi with hi | hi | hi | hi | hi | hi | hi | hi
    · exact Or.inl (Or.inl hi)
    · exact Or.inl (Or.inr (Or.inl hi))
    · exact Or.inl (Or.inr (Or.inr (Or.inl hi)))
    · exact Or.inl (Or.inr (Or.inr (Or.inr (Or.inl hi))))
    · exact Or.inl (Or.inr (Or.inr (Or.inr (Or.inr (Or.inl hi)))))
    · by_cases hlt : i < 460 + 3 * sN S 3
      · exact Or.inl (Or.inr (Or.inr (Or.inr (Or.inr (Or.inr (Or.inl ⟨hi.1, hlt⟩))))))
      · exact Or.inr (by omega)
    · exact Or.inl (Or.inr (Or.inr (Or.inr (Or.inr (Or.inr (Or.inr (Or.inl hi)))))))
    · exact Or.inl (Or.inr (Or.inr (Or.inr (Or.inr (Or.inr (Or.inr (Or.inr (hi))))))))
  · rintro i j (rfl | rfl | rfl) (rfl | rfl | rfl) he <;> simp only [A0, A1, A2] at he <;> first | rfl | exact absurd he aq | exact absurd he ar | exact absurd he qr | exact absurd he.symm aq | exact absurd he.symm ar | exact absurd he.symm qr
  · rintro i (rfl | rfl | rfl)
    · rw [A0]; exact ha
    · rw [A1]; exact hq
    · rw [A2]; exact hr
  · have I0 : sI (ruleS S x y n f g) (460 + 3 * sN S 3) = fun j => if j = 0 then x else if j = 1 then y else 0 := by show va_up (va_up (va_up _ _ _) _ _) _ _ _ = _; rw [va_up_ne _ _ (by omega), va_up_ne _ _ (by omega), va_up_self]
    have I1 : sI (ruleS S x y n f g) (461 + 3 * sN S 3) = f := by show va_up (va_up (va_up _ _ _) _ _) _ _ _ = _; rw [va_up_ne _ _ (by omega), va_up_self]
    have I2 : sI (ruleS S x y n f g) (462 + 3 * sN S 3) = g := va_up_self _ _ _
    rintro i (rfl | rfl | rfl)
    · rw [A0, cell_rule (by omega)]
      unfold pRule
      rw [A1, A2, I0]
      exact g0
    · rw [A1, cell_ruleC (by omega), I1, hNk]; exact g1
    · rw [A2, cell_ruleX (by omega), I2, hNk]; exact g2
  · intro i hi
    by_cases i0 : i = 0
    · subst i0
      have e : cellOf w (ruleA ad (sN S 3) a q r) (ruleS S x y n f g) 0 = .inr (0, [.ref (ad 1), .ref (ad 3), .ref (ad 8), .ref (ad 9), .ref (ad 4), .ref (ad 5), .ref (ad 10), .ref (ad (5 + sN S 8)), .ref (ad (8 - sN S 8)), .int (nI (sN S 3 + 1)), .int (sI S 0 11)]) := by
        rw [cell_K (by decide)]
        unfold cellK
        simp only [hN3, hNo 8 (by omega) (by omega), AO 1 (by omega), AO 2 (by omega), AO 3 (by omega), AO 8 (by omega), AO 9 (by omega), AO 4 (by omega), AO 5 (by omega), AO 10 (by omega)]
        rw [AO (5 + sN S 8) (by omega), AO (8 - sN S 8) (by omega), show sI (ruleS S x y n f g) 0 = sI S 0 from hIo 0 (by omega)]
      rw [e]
      exact g3
    by_cases i8 : i = 8
    · subst i8
      have e : cellOf w (ruleA ad (sN S 3) a q r) (ruleS S x y n f g) 8 = xr w 8 20 (va_up (fun k => if k < sN S 3 then some (ad (460 + 3 * k)) else sR S 8 k) (sN S 3) (some a)) := by
        rw [cell_K (by decide)]
        show xr w 8 20 _ = xr w 8 20 _
        congr 1
        funext k
        rw [hN3]
        by_cases hk1 : k = sN S 3
        · subst hk1
          rw [va_up_self, if_pos (by omega), A0]
        · rw [va_up_ne _ _ hk1]
          by_cases hk2 : k < sN S 3
          · rw [if_pos (by omega), if_pos hk2, AO _ (by omega)]
          · rw [if_neg (by omega), if_neg hk2]
            rfl
      rw [e]
      exact g4
    rw [cell_cg (S := S) (ad := ad) hi h.1 hL had (fun m hm => hNo m (fun z => ?_) (fun z => ?_)) (hIo i (hlo i hi)) rfl rfl]
    · exact hf _ _ (h.inj hi (Or.inl (by decide)) i0) (h.inj hi (Or.inl (by decide)) i8) (h.2.2 i hi)
    · subst z
      rcases hm with hm | hm | hm
      · unfold rdK at hm
        split at hm <;> first | omega | exact hm.elim
      · omega
      · omega
    · subst z
      rcases hm with hm | hm | hm
      · unfold rdK at hm
        split at hm <;> first | omega | exact hm.elim
      · omega
      · have := hlo i hi; omega
/-- the world of the second, with the cells of the first -/
def zpl2 (Z3 Z2 : zZ) : zZ := (Z2.1, Z3.2.1, Z2.2.2)
theorem zpl2_hs {Z3 Z2 : zZ} {b : Nat} {e : va_E} (h : zhs (zpl2 Z3 Z2) b e) (hs : ∀ b, b ∈ Z2.1 → b ∈ Z3.1) : zhs Z3 b e := ⟨hs _ h.1, h.2⟩
theorem zpl2_rep {w : zC} {ad : Nat → Nat} {S : ST} {Z3 Z2 : zZ} (h : Rep w ad S Z3) (hs : ∀ i, liveS S i → ad i ∈ Z2.1) : Rep w ad S (zpl2 Z3 Z2) := ⟨h.1, h.2.1, fun i hi => ⟨hs i hi, (h.2.2 i hi).2⟩⟩
theorem rdL_N {m : Nat} (hm : m ≠ 10 ∧ m ≠ 11 ∧ m ≠ 12 ∧ m ≠ 13 ∧ m ≠ 14 ∧ m ≠ 15) (n : Nat) : ∀ S, rdJ S → wsI S → sN S 14 + n = 80 → sN (rdL n S).1 m = sN S m := by
  induction n with
  | zero => intro S _ _ _; rfl
  | succ n ih =>
    intro S h hw h14
    unfold rdL
    have e0 : sN (nxW S) m = sN S m := (wN_ne (by omega)).trans (wN_ne (by omega))
    split
    · rcases h2 : tWd (nxW S) with _ | S2
      · exact e0
      · obtain ⟨a, b, c, -⟩ := rdL_step h hw (by omega) h2
        show sN (rdL n (wN S2 14 (sN S2 14 + 1))).1 m = _
        rw [ih _ a b (by rw [wN_self]; omega), wN_ne (by omega)]
        have hk := tWd_ok h2
        have e7 : sI (nxW S) 3 7 = sI S 3 7 := rfl
        have key : ∃ c, tOK c (nxW S) S2 := by
          rcases hw with hw | hw | hw
          · exact ⟨_, (hk.1 hw.1).1⟩
          · exact ⟨_, (hk.2.1 hw.1).1⟩
          · exact ⟨_, (hk.2.2 hw.1).1⟩
        obtain ⟨c9, k1, -⟩ := key
        rw [k1.2.2.2 m (by omega) (by omega) (by omega), e0]
    · exact e0
theorem rdL_3 {S : ST} (h : rdH S) : sN (rdL 80 (stO S)).1 3 = sN S 3 := by
  obtain ⟨a, b, c⟩ := stO_J h
  exact (rdL_N (by decide) 80 _ a b c).trans rfl
set_option maxHeartbeats 4000000 in
set_option maxRecDepth 100000 in
theorem C_Rd_wipe {w : zC} {Z : zZ} {Q : zR → zZ → Prop} {b : Nat} {v0 v1 v2 v4 v5 v6 v7 v8 v9 v10 v11 : Value} {a q : Nat} {x0 x1 x2 : Int32} (h0 : zhs Z a (.inr (2, [.ref q, .int x0, .int x1, .int x2]))) (h3 : zhs Z b (.inr (3, [v0, v1, v2, .ref a, v4, v5, v6, v7, v8, v9, v10, v11]))) (hQ : Q (.inl none) (zput Z a (.inr (2, [.ref q, .int 0, .int x1, .int x2])))) : Cz w (1, 20) y_Rd_wipe (Cond.code y_Rd_wipe c_Rd_wipe 1 r_Rd_wipe :: wz) [.ref b] Z Q := by
  refine Cz.of (by decide +kernel) (by simp [lg_sl, Value.category]) ?_
  show G _ _ _ _ _ _ _ _ [(0, _)] _ _
  refine g_aload_nq d_Rd_wipe_0 rfl 0 rfl ?_
  refine g_get d_Rd_wipe_1 f_Rd_24_Rd (by assumption) (by first | rfl | assumption) ?_
  refine g_callV d_Rd_wipe_4 k_Tx_wipe l_Rd_58 i_Tx_wipe rfl q_Tx_Tx_wipe_Tx h0 (by rfl) (by rfl) (Nat.le_of_ble_eq_true rfl) (by decide) (C_Tx_wipe h0 ⟨_, rfl, ?_⟩)
  refine g_vret d_Rd_wipe_7 ?_
  exact hQ

set_option maxHeartbeats 4000000 in
set_option maxRecDepth 100000 in
theorem C_Rd_wipeR {w : zC} {Z : zZ} {Q : zR → zZ → Prop} {ad : Nat → Nat} {S : ST} (hR : Rep w ad S Z) (hL : ciLive S) (hQ : ∀ Z', Rep w ad (wN S 9 0) Z' → Z'.2.2 = Z.2.2 → Q (.inl none) Z') : Cz w (1, 20) y_Rd_wipe (Cond.code y_Rd_wipe c_Rd_wipe 1 r_Rd_wipe :: wz) [.ref (ad 3)] Z Q := by
  refine Cz.of (by decide +kernel) (by simp [lg_sl, Value.category]) ?_
  show G _ _ _ _ _ _ _ _ [(0, _)] _ _
  have h3 : zhs Z (ad 3) (.inr (3, [.ref (ad 17), .ref (ad 18), .ref (ad 19), .ref (ad 2), .int (nI (sN S 12)), .int (nI (sN S 13)), .int (nI (sN S 14)), .int (sI S 3 7), .int (nI (sN S 15)), .int (sI S 3 9), .int (sI S 3 10), .int (sI S 3 11)])) := hR.k 3 (by decide)
  have h2 : zhs Z (ad 2) (.inr (2, [.ref (ad 16), .int (nI (sN S 9)), .int (nI (sN S 10)), .int (nI (sN S 11))])) := hR.k 2 (by decide)
  refine g_aload_nq d_Rd_wipe_0 rfl 0 rfl ?_
  refine g_get d_Rd_wipe_1 f_Rd_24_Rd (by assumption) (by first | rfl | assumption) ?_
  refine g_callV d_Rd_wipe_4 k_Tx_wipe l_Rd_58 i_Tx_wipe rfl q_Tx_Tx_wipe_Tx h2 (by rfl) (by rfl) (Nat.le_of_ble_eq_true rfl) (by decide) (C_Tx_wipeR hR hL (fun Z3 hR3 B3 => ⟨_, rfl, ?_⟩))
  refine g_vret d_Rd_wipe_7 ?_
  exact hQ Z3 hR3 B3

set_option maxHeartbeats 4000000 in
set_option maxRecDepth 100000 in
theorem C_K_rule {w : zC} {Z : zZ} {Q : zR → zZ → Prop} {ad : Nat → Nat} {S : ST} (hR : Rep w ad S Z) {adK adV : Nat → Nat} (hK : zLit w adK adV) (hT : zThr w) (hH : rdH S) (hb : 1 ≤ Z.2.2.1 ∧ 6 ≤ Z.2.2.2) (hb2 : 3 ≤ Z.2.2.1 ∧ 164 ≤ Z.2.2.2) (hI : ¬ sN S 3 < 20 → Q (.inr "java/lang/IllegalStateException") (zpay Z 1 6)) (hQn : ¬ rdG S → ∀ Z', Rep w ad (wN (rdL 80 (stO S)).1 9 0) Z' → Z'.2.2 = Z.2.2 → Q (.inl (some (.int (-1 - nI (sN (rdL 80 (stO S)).1 14))))) Z') (hQs : rdG S → ∀ Z' a q r, Rep w (ruleA ad (sN (rdE S) 3) a q r) (ruleS (wN (rdE S) 9 0) (sI (rdE S) 3 10) (sI (rdE S) 3 11) (sN (rdE S) 12) (cpy80 (sI (rdE S) 17) (sN (rdE S) 12)) (cpy80 (sI (rdE S) 18) (sN (rdE S) 12))) Z' → Z'.2.2.1 = Z.2.2.1 - 3 → Z'.2.2.2 = Z.2.2.2 - (4 + 2 * sN (rdE S) 12) → Q (.inl (some (.int (nI (7 + sN S 3))))) Z') : Cz w (9, 190) y_K_rule (Cond.code y_K_rule c_K_rule 2 r_K_rule :: wz) [.ref (ad 0)] Z Q := by
  refine Cz.of (by decide +kernel) (by simp [lg_sl, Value.category]) ?_
  show G _ _ _ _ _ _ _ _ [(0, _)] _ _
  have h0 : zhs Z (ad 0) (.inr (0, [.ref (ad 1), .ref (ad 3), .ref (ad 8), .ref (ad 9), .ref (ad 4), .ref (ad 5), .ref (ad 10), .ref (ad (5 + sN S 8)), .ref (ad (8 - sN S 8)), .int (nI (sN S 3)), .int (sI S 0 11)])) := hR.k 0 (by decide)
  have h3 : zhs Z (ad 3) (.inr (3, [.ref (ad 17), .ref (ad 18), .ref (ad 19), .ref (ad 2), .int (nI (sN S 12)), .int (nI (sN S 13)), .int (nI (sN S 14)), .int (sI S 3 7), .int (nI (sN S 15)), .int (sI S 3 9), .int (sI S 3 10), .int (sI S 3 11)])) := hR.k 3 (by decide)
  have h8 : zhs Z (ad 8) (xr w 8 20 (fun k => if k < sN S 3 then some (ad (460 + 3 * k)) else sR S 8 k)) := hR.k 8 (by decide)
  refine g_aload_nq d_K_rule_0 rfl 0 rfl ?_
  refine g_get d_K_rule_1 f_K_57_K (by assumption) (by first | rfl | assumption) ?_
  refine g_aload_nq d_K_rule_4 rfl 0 rfl ?_
  refine g_get d_K_rule_5 f_K_25_K (by assumption) (by first | rfl | assumption) ?_
  refine g_alen d_K_rule_8 8 (by assumption) rfl ?_
  refine g_icmp_lt (tgt := 22) d_K_rule_9 (by decide) (fun h9 => ?_) (fun h9 => ?_)
  · have hlt : sN S 3 < 20 := (nI_ltI (by have := hR.1.2.2.2.1; omega) (by decide)).mp h9
    refine g_aload_nq d_K_rule_22 rfl 0 rfl ?_
    refine g_get d_K_rule_23 f_K_19_K (by assumption) (by first | rfl | assumption) ?_
    by_cases hg : rdG S
    · refine g_callV d_K_rule_26 k_Rd_readRule l_K_150 i_Rd_readRule rfl q_Rd_Rd_readRule_Rd h3 (by rfl) (by rfl) (Nat.le_of_ble_eq_true rfl) (by decide) (C_Rd_readRule hR hK hH hb2 (fun h => absurd hg h) (fun _ Z2 Z1 a q r r2 na nq nr aq ar qr z0 z1 z2 hold c1 c2 => ⟨_, rfl, ?_⟩))
      refine g_astore_nq d_K_rule_29 rfl (by decide) rfl ?_
      show G _ _ _ _ _ _ _ _ [(1, .ref a), (0, _)] _ _
      obtain ⟨a1, a2, a3⟩ := stO_J hH
      obtain ⟨d1, d2⟩ := rdL_end 80 (stO S) a1 a2 a3
      obtain ⟨e12, eC⟩ := rdE_12 hH hg
      have L2 : ciLive (rdE S) := d1.2.2.2.1.eqT eC.eqT
      have e3 : sN (rdE S) 3 = sN S 3 := (eC.2.2.2 3 (by decide) (by decide) (by decide)).trans (rdL_3 hH)
      have hQs := hQs hg
      rw [← e3] at hlt
      generalize rdE S = S2 at *
      have hR1 : Rep w ad S2 Z1 := ⟨r2.1, r2.2.1, fun i hi => hold _ _ (r2.2.2 i hi)⟩
      have h0 : zhs Z1 (ad 0) (.inr (0, [.ref (ad 1), .ref (ad 3), .ref (ad 8), .ref (ad 9), .ref (ad 4), .ref (ad 5), .ref (ad 10), .ref (ad (5 + sN S2 8)), .ref (ad (8 - sN S2 8)), .int (nI (sN S2 3)), .int (sI S2 0 11)])) := hR1.k 0 (by decide)
      have h2 : zhs Z1 (ad 2) (.inr (2, [.ref (ad 16), .int (nI (sN S2 9)), .int (nI (sN S2 10)), .int (nI (sN S2 11))])) := hR1.k 2 (by decide)
      have h3 : zhs Z1 (ad 3) (.inr (3, [.ref (ad 17), .ref (ad 18), .ref (ad 19), .ref (ad 2), .int (nI (sN S2 12)), .int (nI (sN S2 13)), .int (nI (sN S2 14)), .int (sI S2 3 7), .int (nI (sN S2 15)), .int (sI S2 3 9), .int (sI S2 3 10), .int (sI S2 3 11)])) := hR1.k 3 (by decide)
      have h8 : zhs Z1 (ad 8) (xr w 8 20 (fun k => if k < sN S2 3 then some (ad (460 + 3 * k)) else sR S2 8 k)) := hR1.k 8 (by decide)
      have ma : ∀ i, i < 31 → a ≠ ad i := fun i hi z => na (z ▸ (r2.2.2 i (Or.inl hi)).1)
      have mq : ∀ i, i < 31 → q ≠ ad i := fun i hi z => nq (z ▸ (r2.2.2 i (Or.inl hi)).1)
      have mr : ∀ i, i < 31 → r ≠ ad i := fun i hi z => nr (z ▸ (r2.2.2 i (Or.inl hi)).1)
      have J : ∀ i j, i < 31 → j < 31 → i ≠ j → ad i ≠ ad j := fun i j hi hj hne => r2.inj (Or.inl hi) (Or.inl hj) hne
      refine g_aload_nq d_K_rule_30 rfl 1 rfl ?_
      refine g_get d_K_rule_31 f_K_19_K (by assumption) (by first | rfl | assumption) ?_
      refine g_callV d_K_rule_34 k_Rd_wipe l_K_154 i_Rd_wipe rfl q_Rd_Rd_wipe_Rd h3 (by rfl) (by rfl) (Nat.le_of_ble_eq_true rfl) (by decide) (C_Rd_wipe h2 h3 ⟨_, rfl, ?_⟩)
      have hR3 := hR1.putN L2 (i := 2) (n := 9) (v := 0) (e := .inr (2, [.ref (ad 16), .int 0, .int (nI (sN S2 10)), .int (nI (sN S2 11))])) (Or.inl (by decide)) (by omega) (fun z => by omega) (fun i hi => by rcases hi with hi | hi | hi <;> first | omega | (unfold rdK at hi; split at hi <;> first | omega | exact hi.elim)) (by rw [cell_K (by decide)]; rfl)
      have B3 := zbud_put (Z := Z1) (a := ad 2) (e := .inr (2, [.ref (ad 16), .int 0, .int (nI (sN S2 10)), .int (nI (sN S2 11))])) rfl
      generalize e3x : zput Z1 (ad 2) _ = Z3 at *
      have h0 := zhs_put_ne' e3x h0 (J 0 2 (by decide) (by decide) (by decide))
      have h8 := zhs_put_ne' e3x h8 (J 8 2 (by decide) (by decide) (by decide))
      have z0 := zhs_put_ne' e3x z0 (ma 2 (by decide))
      have z1 := zhs_put_ne' e3x z1 (mq 2 (by decide))
      have z2 := zhs_put_ne' e3x z2 (mr 2 (by decide))
      refine g_aload_nq d_K_rule_37 rfl 0 rfl ?_
      refine g_ifnonnull (tgt := 51) d_K_rule_38 (by decide) ?_
      refine g_aload_nq d_K_rule_51 rfl 1 rfl ?_
      refine g_get d_K_rule_52 f_K_25_K (by assumption) (by first | rfl | assumption) ?_
      refine g_aload_nq d_K_rule_55 rfl 1 rfl ?_
      refine g_get d_K_rule_56 f_K_57_K (by assumption) (by first | rfl | assumption) ?_
      refine g_aload_nq d_K_rule_59 rfl 0 rfl ?_
      refine g_aast d_K_rule_60 8 h8 rfl z0 ⟨_, rfl, Or.inl rfl⟩ (vp_in_nI (by omega) (by decide)) ?_
      rw [nI_clamp (by omega)]
      generalize e4x : zput _ _ _ = Z4
      have h0 := zhs_put_ne' e4x h0 (J 0 8 (by decide) (by decide) (by decide))
      have h8 := zhs_put_same' e4x h8
      have z0 := zhs_put_ne' e4x z0 (ma 8 (by decide))
      have z1 := zhs_put_ne' e4x z1 (mq 8 (by decide))
      have z2 := zhs_put_ne' e4x z2 (mr 8 (by decide))
      have B4 := zbud_put e4x
      refine g_aload_nq d_K_rule_61 rfl 1 rfl ?_
      refine g_dup d_K_rule_62 rfl ?_
      refine g_get d_K_rule_63 f_K_57_K (by assumption) (by first | rfl | assumption) ?_
      refine g_iconst (v := 1) d_K_rule_66 rfl ?_
      refine g_iadd d_K_rule_67 ?_
      refine g_put d_K_rule_68 w_K_57_K (by assumption) (by first | rfl | exact zb_nar _) (by first | rfl | exact zb_fit _ | exact zrf_fit _) (by first | exact Nat.le_of_ble_eq_true rfl | omega) ?_
      rw [show (1 : Int32) = nI 1 from rfl, nI_add]
      generalize e5x : zput _ _ _ = Z5
      have h8 := zhs_put_ne' e5x h8 (J 8 0 (by decide) (by decide) (by decide))
      have h0 := zhs_put_same' e5x h0
      have z0 := zhs_put_ne' e5x z0 (ma 0 (by decide))
      have z1 := zhs_put_ne' e5x z1 (mq 0 (by decide))
      have z2 := zhs_put_ne' e5x z2 (mr 0 (by decide))
      have B5 := zbud_put e5x
      have hR5 : Rep w (ruleA ad (sN S2 3) a q r) (ruleS (wN S2 9 0) (sI S2 3 10) (sI S2 3 11) (sN S2 12) (cpy80 (sI S2 17) (sN S2 12)) (cpy80 (sI S2 18) (sN S2 12))) Z5 := by
        have hm : ∀ b, b ∈ Z3.1 ↔ b ∈ Z1.1 := fun b => zmem_put e3x
        refine Rep.addRule (Z := zpl2 Z3 Z2) (S := wN S2 9 0) ?_ (L2.N (by decide)) hlt na nq nr aq ar qr z0 z1 z2 h0 h8 ?_
        · exact zpl2_rep hR3 (fun i hi => (r2.2.2 i ((live_N (S := S2) (n := 9) (v := 0) (by decide)).mp hi)).1)
        · intro b e n0 n8 hz
          exact zhs_put_ne' e5x (zhs_put_ne' e4x (zpl2_hs hz (fun b hb => (hm b).mpr (hold b _ ⟨hb, rfl⟩).1)) n8) n0
      rw [show ad 0 = ruleA ad (sN S2 3) a q r 0 by unfold ruleA; rw [va_up_ne _ _ (by omega), va_up_ne _ _ (by omega), va_up_ne _ _ (by omega)]] at h0 ⊢
      refine g_aload_nq d_K_rule_71 rfl 1 rfl ?_
      refine g_callV d_K_rule_72 k_K_ruleCount l_K_161 i_K_ruleCount rfl p_K_ruleCount h0 (by rfl) (by rfl) (Nat.le_of_ble_eq_true rfl) (by decide) (C_K_ruleCount hR5 ⟨_, rfl, ?_⟩)
      refine g_iconst (v := 1) d_K_rule_75 rfl ?_
      refine g_isub d_K_rule_76 ?_
      refine g_iret d_K_rule_77 ?_
      rw [show sN (ruleS (wN S2 9 0) (sI S2 3 10) (sI S2 3 11) (sN S2 12) (cpy80 (sI S2 17) (sN S2 12)) (cpy80 (sI S2 18) (sN S2 12))) 3 = sN S2 3 + 1 by show va_up (va_up _ _ _) _ _ 3 = _; rw [va_up_ne _ _ (by omega), va_up_self]; rfl, show 7 + (sN S2 3 + 1) = (7 + sN S2 3) + 1 from rfl, nI_pred, e3]
      exact hQs Z5 a q r hR5 (by omega) (by omega)
    · refine g_callV d_K_rule_26 k_Rd_readRule l_K_150 i_Rd_readRule rfl q_Rd_Rd_readRule_Rd h3 (by rfl) (by rfl) (Nat.le_of_ble_eq_true rfl) (by decide) (C_Rd_readRule hR hK hH hb2 (fun _ Z1 hR1 B1 => ⟨_, rfl, ?_⟩) (fun h => absurd h hg))
      refine g_astore_nq d_K_rule_29 rfl (by decide) rfl ?_
      show G _ _ _ _ _ _ _ _ [(1, .null), (0, _)] _ _
      have h0 : zhs Z1 (ad 0) (.inr (0, [.ref (ad 1), .ref (ad 3), .ref (ad 8), .ref (ad 9), .ref (ad 4), .ref (ad 5), .ref (ad 10), .ref (ad (5 + sN (rdL 80 (stO S)).1 8)), .ref (ad (8 - sN (rdL 80 (stO S)).1 8)), .int (nI (sN (rdL 80 (stO S)).1 3)), .int (sI (rdL 80 (stO S)).1 0 11)])) := hR1.k 0 (by decide)
      refine g_aload_nq d_K_rule_30 rfl 1 rfl ?_
      refine g_get d_K_rule_31 f_K_19_K (by assumption) (by first | rfl | assumption) ?_
      obtain ⟨a1, a2, a3⟩ := stO_J hH
      obtain ⟨d1, d2⟩ := rdL_end 80 (stO S) a1 a2 a3
      have hQn := hQn hg
      generalize (rdL 80 (stO S)).1 = S1 at *
      have h3 : zhs Z1 (ad 3) (.inr (3, [.ref (ad 17), .ref (ad 18), .ref (ad 19), .ref (ad 2), .int (nI (sN S1 12)), .int (nI (sN S1 13)), .int (nI (sN S1 14)), .int (sI S1 3 7), .int (nI (sN S1 15)), .int (sI S1 3 9), .int (sI S1 3 10), .int (sI S1 3 11)])) := hR1.k 3 (by decide)
      refine g_callV d_K_rule_34 k_Rd_wipe l_K_154 i_Rd_wipe rfl q_Rd_Rd_wipe_Rd h3 (by rfl) (by rfl) (Nat.le_of_ble_eq_true rfl) (by decide) (C_Rd_wipeR hR1 d1.2.2.2.1 (fun Z3 hR3 B3 => ⟨_, rfl, ?_⟩))
      have h0 : zhs Z3 (ad 0) (.inr (0, [.ref (ad 1), .ref (ad 3), .ref (ad 8), .ref (ad 9), .ref (ad 4), .ref (ad 5), .ref (ad 10), .ref (ad (5 + sN (wN S1 9 0) 8)), .ref (ad (8 - sN (wN S1 9 0) 8)), .int (nI (sN (wN S1 9 0) 3)), .int (sI (wN S1 9 0) 0 11)])) := hR3.k 0 (by decide)
      have h3 : zhs Z3 (ad 3) (.inr (3, [.ref (ad 17), .ref (ad 18), .ref (ad 19), .ref (ad 2), .int (nI (sN (wN S1 9 0) 12)), .int (nI (sN (wN S1 9 0) 13)), .int (nI (sN (wN S1 9 0) 14)), .int (sI (wN S1 9 0) 3 7), .int (nI (sN (wN S1 9 0) 15)), .int (sI (wN S1 9 0) 3 9), .int (sI (wN S1 9 0) 3 10), .int (sI (wN S1 9 0) 3 11)])) := hR3.k 3 (by decide)
      refine g_aload_nq d_K_rule_37 rfl 0 rfl ?_
      refine g_ifnonnullN d_K_rule_38 ?_
      refine g_iconst (v := (-1)) d_K_rule_41 rfl ?_
      refine g_aload_nq d_K_rule_42 rfl 1 rfl ?_
      refine g_get d_K_rule_43 f_K_19_K (by assumption) (by first | rfl | assumption) ?_
      refine g_callV d_K_rule_46 k_Rd_wrongWord l_K_157 i_Rd_wrongWord rfl q_Rd_Rd_wrongWord_Rd h3 (by rfl) (by rfl) (Nat.le_of_ble_eq_true rfl) (by decide) (C_Rd_wrongWord hR3 ⟨_, rfl, ?_⟩)
      refine g_isub d_K_rule_49 ?_
      refine g_iret d_K_rule_50 ?_
      exact hQn Z3 hR3 (B3.trans B1)
  · have hge : ¬ sN S 3 < 20 := fun z => h9 (nI_lt z (by decide))
    have hF := hI hge
    exact g_thr hK hT zl_9 (by decide +kernel) oa_S oc_S oi_S d_K_rule_12 d_K_rule_15 d_K_rule_16 d_K_rule_18 d_K_rule_21 (by decide +kernel) (by omega) (by omega) (by decide) hF
