/-! What a taken word leaves as it was; not, brackets -/
def rdC (S S' : ST) : Prop := (∀ m, m ≠ 3 → m ≠ 17 → m ≠ 18 → m ≠ 19 → sI S' m = sI S m) ∧ S'.2.1 = S.2.1 ∧ S'.2.2.1 = S.2.2.1 ∧ ∀ m, m ≠ 12 → m ≠ 13 → m ≠ 15 → sN S' m = sN S m
theorem rdC.rf {S : ST} : rdC S S := ⟨fun _ _ _ _ _ => rfl, rfl, rfl, fun _ _ _ _ => rfl⟩
theorem rdC.tr {S S1 S2 : ST} (h : rdC S S1) (g : rdC S1 S2) : rdC S S2 := ⟨fun m a b c d => (g.1 m a b c d).trans (h.1 m a b c d), g.2.1.trans h.2.1, g.2.2.1.trans h.2.2.1, fun m a b c => (g.2.2.2 m a b c).trans (h.2.2.2 m a b c)⟩
theorem rdC.w3 {S : ST} {k : Nat} {x : Int32} : rdC S (w3 S k x) := ⟨fun m a _ _ _ => va_up_ne _ _ a, rfl, rfl, fun _ _ _ _ => rfl⟩
theorem rdC.N {S : ST} {n v : Nat} (h : n = 12 ∨ n = 13 ∨ n = 15) : rdC S (wN S n v) := ⟨fun _ _ _ _ _ => rfl, rfl, rfl, fun m a b c => va_up_ne _ _ (by omega)⟩
theorem rdC.off {S : ST} {x : Int32} : rdC S (offO S x) := by
  unfold offO
  split
  · exact rdC.tr (S1 := wI S 19 (upd (sI S 19) (sN S 13) x)) ⟨fun m _ _ _ d => va_up_ne _ _ d, rfl, rfl, fun _ _ _ _ => rfl⟩ (rdC.N (n := 13) (by decide))
  · exact rdC.rf
theorem rdC.out {S : ST} {x y : Int32} : rdC S (putO S x y) := by
  unfold putO
  split
  · exact rdC.tr (S1 := wI (wI S 17 (upd (sI S 17) (sN S 12) x)) 18 (upd (sI S 18) (sN S 12) y)) (rdC.tr (S1 := wI S 17 (upd (sI S 17) (sN S 12) x)) ⟨fun m _ b _ _ => va_up_ne _ _ b, rfl, rfl, fun _ _ _ _ => rfl⟩ ⟨fun m _ _ c _ => va_up_ne _ _ c, rfl, rfl, fun _ _ _ _ => rfl⟩) (rdC.N (n := 12) (by decide))
  · exact rdC.rf
theorem rdC.pod {x : Int32} : ∀ {n : Nat} {S : ST}, rdC S (podF x n S)
  | 0, S => rdC.rf
  | n + 1, S => by
    unfold podF
    split
    · exact rdC.rf
    · exact (rdC.N (by decide)).tr (rdC.out.tr rdC.pod)
theorem rdC.trm {S : ST} {x y : Int32} : rdC S (trm S x y) := rdC.out.tr rdC.w3
theorem rdC.eqT {S S' : ST} (h : rdC S S') : eqT S S' := ⟨fun m hm => h.1 m (by omega) (by omega) (by omega) (by omega), fun m _ => by show S'.2.1 m = _; rw [h.2.1], fun m _ => by show S'.2.2.1 m = _; rw [h.2.2.1], fun m hm => h.2.2.2 m (by omega) (by omega) (by omega)⟩
theorem rdI.of {S S' : ST} (h : rdI S) (e : rdC S S') (h12 : sN S' 12 ≤ 80) (h13 : sN S' 13 ≤ 80) (h15 : sN S' 15 ≤ 8) : rdI S' := by
  obtain ⟨a1, a2, a3, a4, a5, a6, a7, a8, a9⟩ := h
  have e9 := e.2.2.2 9 (by decide) (by decide) (by decide)
  have e10 := e.2.2.2 10 (by decide) (by decide) (by decide)
  have e11 := e.2.2.2 11 (by decide) (by decide) (by decide)
  have e14 := e.2.2.2 14 (by decide) (by decide) (by decide)
  refine ⟨by rw [e9]; exact a1, by rw [e10, e11]; exact a2, by rw [e9, e11]; exact a3, ?_, a5.eqT e.eqT, h12, h13, by rw [e14]; exact a8, h15⟩
  rw [e.1 16 (by decide) (by decide) (by decide) (by decide)]
  exact a4
theorem Rep.put3N {w : zC} {ad : Nat → Nat} {S : ST} {Z : zZ} (h : Rep w ad S Z) (hL : ciLive S) {n : Nat} (hn : 12 ≤ n ∧ n ≤ 15) (v : Nat) : Rep w ad (wN S n v) (zput Z (ad 3) (.inr (3, [.ref (ad 17), .ref (ad 18), .ref (ad 19), .ref (ad 2), .int (nI (va_up (sN S) n v 12)), .int (nI (va_up (sN S) n v 13)), .int (nI (va_up (sN S) n v 14)), .int (sI S 3 7), .int (nI (va_up (sN S) n v 15)), .int (sI S 3 9), .int (sI S 3 10), .int (sI S 3 11)]))) :=
  h.putN hL (i := 3) (Or.inl (by decide)) (by omega) (fun z => by omega) (fun i hi => by rcases hi with hi | hi | hi <;> first | omega | (unfold rdK at hi; split at hi <;> first | omega | exact hi.elim)) (by rw [cell_K (by decide)]; rfl)
theorem podF_12 {x : Int32} : ∀ {n : Nat} {S : ST}, sN S 12 ≤ 80 → sN (podF x n S) 12 ≤ 80
  | 0, S, h => h
  | n + 1, S, h => by
    unfold podF
    split
    · exact h
    · exact podF_12 (putO_12 (by rw [wN_ne (by decide)]; exact h))
theorem podF_13 {x : Int32} : ∀ {n : Nat} {S : ST}, sN S 13 = n → sN (podF x n S) 13 ≤ n
  | 0, S, h => Nat.le_of_eq h
  | n + 1, S, h => by
    unfold podF
    split
    · omega
    · have := podF_13 (x := x) (n := n) (S := putO (wN S 13 n) (sI S 19 n) 0) (by rw [putO_13, wN_self]); omega
theorem offO_12 {S : ST} {x : Int32} : sN (offO S x) 12 = sN S 12 := by
  unfold offO
  split
  · exact wN_ne (by decide)
  · rfl
theorem C_Rd_putOff' {w : zC} {Z : zZ} {Q : zR → zZ → Prop} {ad : Nat → Nat} {S : ST} (hR : Rep w ad S Z) {x : Int32} (hL : ciLive S) (h13 : sN S 13 ≤ 80) (hQ : ∀ Z', Rep w ad (offO S x) Z' → Z'.2.2 = Z.2.2 → Q (.inl none) Z') : Cz w (0, 0) y_Rd_putOff (Cond.code y_Rd_putOff c_Rd_putOff 2 r_Rd_putOff :: wz) [.ref (ad 3), .int x] Z Q := by
  refine C_Rd_putOff hR hL h13 ?_
  unfold offO at hQ
  split
  · rename_i h; rw [if_pos h] at hQ; exact hQ
  · rename_i h; rw [if_neg h] at hQ; exact hQ Z hR rfl
set_option maxHeartbeats 4000000 in
set_option maxRecDepth 100000 in
theorem C_Rd_takeNot {w : zC} {Z : zZ} {Q : zR → zZ → Prop} {ad : Nat → Nat} {S : ST} (hR : Rep w ad S Z) {adK adV : Nat → Nat} (hK : zLit w adK adV) (hI : rdI S) (hQ : tkQ w ad S Z Q (tNot S)) : Cz w (5, 107) y_Rd_takeNot (Cond.code y_Rd_takeNot c_Rd_takeNot 1 r_Rd_takeNot :: wz) [.ref (ad 3)] Z Q := by
  refine Cz.of (by decide +kernel) (by simp [lg_sl, Value.category]) ?_
  show G _ _ _ _ _ _ _ _ [(0, _)] _ _
  have h3 : zhs Z (ad 3) (.inr (3, [.ref (ad 17), .ref (ad 18), .ref (ad 19), .ref (ad 2), .int (nI (sN S 12)), .int (nI (sN S 13)), .int (nI (sN S 14)), .int (sI S 3 7), .int (nI (sN S 15)), .int (sI S 3 9), .int (sI S 3 10), .int (sI S 3 11)])) := hR.k 3 (by decide)
  have h2 : zhs Z (ad 2) (.inr (2, [.ref (ad 16), .int (nI (sN S 9)), .int (nI (sN S 10)), .int (nI (sN S 11))])) := hR.k 2 (by decide)
  have h16 : zhs Z (ad 16) (xc w 160 (sI S 16)) := hR.k 16 (by decide)
  refine g_aload_nq d_Rd_takeNot_0 rfl 0 rfl ?_
  refine g_get d_Rd_takeNot_1 f_Rd_24_Rd (by assumption) (by first | rfl | assumption) ?_
  refine g_ldcS hK zl_15 d_Rd_takeNot_4 ?_
  refine g_callV d_Rd_takeNot_6 k_Tx_wordIs l_Rd_118 i_Tx_wordIs rfl q_Tx_Tx_wordIs_Tx h2 (by rfl) (by rfl) (Nat.le_of_ble_eq_true rfl) (by decide) (C_Tx_wordIs h2 h16 hI.1 hI.2.1 hI.2.2.1 hI.2.2.2.1 hK zl_15 ⟨_, rfl, ?_⟩)
  first | refine g_if_neB (tgt := 14) d_Rd_takeNot_9 (by decide) (fun h9 => ?_) (fun h9 => ?_) | refine g_if_ne (tgt := 14) d_Rd_takeNot_9 (by decide) (fun h9 => ?_) (fun h9 => ?_)
  · rw [tNot, if_pos h9] at hQ
    refine g_aload_nq d_Rd_takeNot_14 rfl 0 rfl ?_
    refine g_iconst (v := 3) d_Rd_takeNot_15 rfl ?_
    refine g_callV d_Rd_takeNot_16 k_Rd_putOff l_Rd_132 i_Rd_putOff rfl p_Rd_putOff h3 (by rfl) (by rfl) (Nat.le_of_ble_eq_true rfl) (by decide) (C_Rd_putOff' hR hI.2.2.2.2.1 hI.2.2.2.2.2.2.1 (fun Z1 hR1 B1 => ⟨_, rfl, ?_⟩))
    refine g_iconst (v := 1) d_Rd_takeNot_19 rfl ?_
    refine g_zret d_Rd_takeNot_20 ?_ ?_
    · first | rfl | exact zb_nar _ | exact zb_narc (by assumption)
    · exact hQ Z1 hR1 B1
  · rw [tNot, if_neg h9] at hQ
    refine g_iconst (v := 0) d_Rd_takeNot_12 rfl ?_
    refine g_zret d_Rd_takeNot_13 ?_ ?_
    · first | rfl | exact zb_nar _ | exact zb_narc (by assumption)
    · exact hQ Z hR rfl

set_option maxHeartbeats 4000000 in
set_option maxRecDepth 100000 in
theorem C_Rd_takeOpening {w : zC} {Z : zZ} {Q : zR → zZ → Prop} {ad : Nat → Nat} {S : ST} (hR : Rep w ad S Z) {adK adV : Nat → Nat} (hK : zLit w adK adV) (hI : rdI S) (hQ : tkQ w ad S Z Q (tOpn S)) : Cz w (5, 107) y_Rd_takeOpening (Cond.code y_Rd_takeOpening c_Rd_takeOpening 1 r_Rd_takeOpening :: wz) [.ref (ad 3)] Z Q := by
  refine Cz.of (by decide +kernel) (by simp [lg_sl, Value.category]) ?_
  show G _ _ _ _ _ _ _ _ [(0, _)] _ _
  have h3 : zhs Z (ad 3) (.inr (3, [.ref (ad 17), .ref (ad 18), .ref (ad 19), .ref (ad 2), .int (nI (sN S 12)), .int (nI (sN S 13)), .int (nI (sN S 14)), .int (sI S 3 7), .int (nI (sN S 15)), .int (sI S 3 9), .int (sI S 3 10), .int (sI S 3 11)])) := hR.k 3 (by decide)
  have h2 : zhs Z (ad 2) (.inr (2, [.ref (ad 16), .int (nI (sN S 9)), .int (nI (sN S 10)), .int (nI (sN S 11))])) := hR.k 2 (by decide)
  have h16 : zhs Z (ad 16) (xc w 160 (sI S 16)) := hR.k 16 (by decide)
  refine g_aload_nq d_Rd_takeOpening_0 rfl 0 rfl ?_
  refine g_get d_Rd_takeOpening_1 f_Rd_24_Rd (by assumption) (by first | rfl | assumption) ?_
  refine g_ldcS hK zl_16 d_Rd_takeOpening_4 ?_
  refine g_callV d_Rd_takeOpening_6 k_Tx_wordIs l_Rd_118 i_Tx_wordIs rfl q_Tx_Tx_wordIs_Tx h2 (by rfl) (by rfl) (Nat.le_of_ble_eq_true rfl) (by decide) (C_Tx_wordIs h2 h16 hI.1 hI.2.1 hI.2.2.1 hI.2.2.2.1 hK zl_16 ⟨_, rfl, ?_⟩)
  first | refine g_if_eqB (tgt := 21) d_Rd_takeOpening_9 (by decide) (fun h9 => ?_) (fun h9 => ?_) | refine g_if_eq (tgt := 21) d_Rd_takeOpening_9 (by decide) (fun h9 => ?_) (fun h9 => ?_)
  · rw [tOpn, if_neg (fun z => h9 z.1)] at hQ
    refine g_iconst (v := 0) d_Rd_takeOpening_21 rfl ?_
    refine g_zret d_Rd_takeOpening_22 ?_ ?_
    · first | rfl | exact zb_nar _ | exact zb_narc (by assumption)
    · exact hQ Z hR rfl
  · refine g_aload_nq d_Rd_takeOpening_12 rfl 0 rfl ?_
    refine g_get d_Rd_takeOpening_13 f_Rd_41_Rd (by assumption) (by first | rfl | assumption) ?_
    refine g_bipush (v := 8) d_Rd_takeOpening_16 rfl ?_
    refine g_icmp_lt (tgt := 23) d_Rd_takeOpening_18 (by decide) (fun h18 => ?_) (fun h18 => ?_)
    · rw [tOpn, if_pos ⟨h9, (nI_ltI (by have := hI.2.2.2.2.2.2.2.2; omega) (by decide)).mp h18⟩] at hQ
      refine g_aload_nq d_Rd_takeOpening_23 rfl 0 rfl ?_
      refine g_dup d_Rd_takeOpening_24 rfl ?_
      refine g_get d_Rd_takeOpening_25 f_Rd_41_Rd (by assumption) (by first | rfl | assumption) ?_
      refine g_iconst (v := 1) d_Rd_takeOpening_28 rfl ?_
      refine g_iadd d_Rd_takeOpening_29 ?_
      refine g_put d_Rd_takeOpening_30 w_Rd_41_Rd (by assumption) (by first | rfl | exact zb_nar _) (by first | rfl | exact zb_fit _ | exact zrf_fit _) (by first | exact Nat.le_of_ble_eq_true rfl | omega) ?_
      rw [show (1 : Int32) = nI 1 from rfl, nI_add]
      have hR1 := hR.put3N hI.2.2.2.2.1 (n := 15) (by decide) (sN S 15 + 1)
      generalize e1 : zput _ _ _ = Z1
      have hR1 : Rep w ad (wN S 15 (sN S 15 + 1)) Z1 := by rw [← e1]; exact hR1
      have B1 : Z1.2.2 = Z.2.2 := by rw [← e1]; rfl
      have T1 : rdC S (wN S 15 (sN S 15 + 1)) := rdC.N (by decide)
      refine g_aload_nq d_Rd_takeOpening_33 rfl 0 rfl ?_
      refine g_iconst (v := 0) d_Rd_takeOpening_34 rfl ?_
      have h3 : zhs Z1 (ad 3) (.inr (3, [.ref (ad 17), .ref (ad 18), .ref (ad 19), .ref (ad 2), .int (nI (sN (wN S 15 (sN S 15 + 1)) 12)), .int (nI (sN (wN S 15 (sN S 15 + 1)) 13)), .int (nI (sN (wN S 15 (sN S 15 + 1)) 14)), .int (sI (wN S 15 (sN S 15 + 1)) 3 7), .int (nI (sN (wN S 15 (sN S 15 + 1)) 15)), .int (sI (wN S 15 (sN S 15 + 1)) 3 9), .int (sI (wN S 15 (sN S 15 + 1)) 3 10), .int (sI (wN S 15 (sN S 15 + 1)) 3 11)])) := hR1.k 3 (by decide)
      refine g_callV d_Rd_takeOpening_35 k_Rd_putOff l_Rd_132 i_Rd_putOff rfl p_Rd_putOff h3 (by rfl) (by rfl) (Nat.le_of_ble_eq_true rfl) (by decide) (C_Rd_putOff' hR1 (hI.2.2.2.2.1.eqT T1.eqT) (by rw [wN_ne (by decide)]; exact hI.2.2.2.2.2.2.1) (fun Z2 hR2 B2 => ⟨_, rfl, ?_⟩))
      refine g_iconst (v := 1) d_Rd_takeOpening_38 rfl ?_
      refine g_zret d_Rd_takeOpening_39 ?_ ?_
      · first | rfl | exact zb_nar _ | exact zb_narc (by assumption)
      · exact hQ Z2 hR2 (B2.trans B1)
    · rw [tOpn, if_neg (fun z => h18 (nI_lt z.2 (by decide)))] at hQ
      refine g_iconst (v := 0) d_Rd_takeOpening_21 rfl ?_
      refine g_zret d_Rd_takeOpening_22 ?_ ?_
      · first | rfl | exact zb_nar _ | exact zb_narc (by assumption)
      · exact hQ Z hR rfl

set_option maxHeartbeats 4000000 in
set_option maxRecDepth 100000 in
theorem C_Rd_takeClosing {w : zC} {Z : zZ} {Q : zR → zZ → Prop} {ad : Nat → Nat} {S : ST} (hR : Rep w ad S Z) {adK adV : Nat → Nat} (hK : zLit w adK adV) (hI : rdI S) (hQ : tkQ w ad S Z Q (tCls S)) : Cz w (5, 107) y_Rd_takeClosing (Cond.code y_Rd_takeClosing c_Rd_takeClosing 1 r_Rd_takeClosing :: wz) [.ref (ad 3)] Z Q := by
  refine Cz.of (by decide +kernel) (by simp [lg_sl, Value.category]) ?_
  show G _ _ _ _ _ _ _ _ [(0, _)] _ _
  have h3 : zhs Z (ad 3) (.inr (3, [.ref (ad 17), .ref (ad 18), .ref (ad 19), .ref (ad 2), .int (nI (sN S 12)), .int (nI (sN S 13)), .int (nI (sN S 14)), .int (sI S 3 7), .int (nI (sN S 15)), .int (sI S 3 9), .int (sI S 3 10), .int (sI S 3 11)])) := hR.k 3 (by decide)
  have h2 : zhs Z (ad 2) (.inr (2, [.ref (ad 16), .int (nI (sN S 9)), .int (nI (sN S 10)), .int (nI (sN S 11))])) := hR.k 2 (by decide)
  have h16 : zhs Z (ad 16) (xc w 160 (sI S 16)) := hR.k 16 (by decide)
  refine g_aload_nq d_Rd_takeClosing_0 rfl 0 rfl ?_
  refine g_get d_Rd_takeClosing_1 f_Rd_24_Rd (by assumption) (by first | rfl | assumption) ?_
  refine g_ldcS hK zl_26 d_Rd_takeClosing_4 ?_
  refine g_callV d_Rd_takeClosing_6 k_Tx_wordIs l_Rd_118 i_Tx_wordIs rfl q_Tx_Tx_wordIs_Tx h2 (by rfl) (by rfl) (Nat.le_of_ble_eq_true rfl) (by decide) (C_Tx_wordIs h2 h16 hI.1 hI.2.1 hI.2.2.1 hI.2.2.2.1 hK zl_26 ⟨_, rfl, ?_⟩)
  first | refine g_if_eqB (tgt := 26) d_Rd_takeClosing_9 (by decide) (fun h9 => ?_) (fun h9 => ?_) | refine g_if_eq (tgt := 26) d_Rd_takeClosing_9 (by decide) (fun h9 => ?_) (fun h9 => ?_)
  · rw [tCls, if_neg (fun z => h9 z.1)] at hQ
    refine g_iconst (v := 0) d_Rd_takeClosing_26 rfl ?_
    refine g_zret d_Rd_takeClosing_27 ?_ ?_
    · first | rfl | exact zb_nar _ | exact zb_narc (by assumption)
    · exact hQ Z hR rfl
  · refine g_aload_nq d_Rd_takeClosing_12 rfl 0 rfl ?_
    refine g_get d_Rd_takeClosing_13 f_Rd_41_Rd (by assumption) (by first | rfl | assumption) ?_
    refine g_if_le (tgt := 26) d_Rd_takeClosing_16 (by decide) (fun h16a => ?_) (fun h16a => ?_)
    · rw [tCls, if_neg (fun z => absurd h16a (Int32.not_le.mpr (nI_lt (a := 0) z.2.1 (by have := hI.2.2.2.2.2.2.2.2; omega))))] at hQ
      refine g_iconst (v := 0) d_Rd_takeClosing_26 rfl ?_
      refine g_zret d_Rd_takeClosing_27 ?_ ?_
      · first | rfl | exact zb_nar _ | exact zb_narc (by assumption)
      · exact hQ Z hR rfl
    · have hp : 0 < sN S 15 := Nat.pos_of_ne_zero (fun z => h16a (by rw [z]; decide))
      refine g_aload_nq d_Rd_takeClosing_19 rfl 0 rfl ?_
      refine g_callV d_Rd_takeClosing_20 k_Rd_isBehindCondition l_Rd_71 i_Rd_isBehindCondition rfl p_Rd_isBehindCondition h3 (by rfl) (by rfl) (Nat.le_of_ble_eq_true rfl) (by decide) (C_Rd_isBehindCondition hR ⟨_, rfl, ?_⟩)
      first | refine g_if_neB (tgt := 28) d_Rd_takeClosing_23 (by decide) (fun h23 => ?_) (fun h23 => ?_) | refine g_if_ne (tgt := 28) d_Rd_takeClosing_23 (by decide) (fun h23 => ?_) (fun h23 => ?_)
      · rw [tCls, if_pos ⟨h9, hp, h23⟩] at hQ
        refine g_aload_nq d_Rd_takeClosing_28 rfl 0 rfl ?_
        refine g_dup d_Rd_takeClosing_29 rfl ?_
        refine g_get d_Rd_takeClosing_30 f_Rd_41_Rd (by assumption) (by first | rfl | assumption) ?_
        refine g_iconst (v := 1) d_Rd_takeClosing_33 rfl ?_
        refine g_isub d_Rd_takeClosing_34 ?_
        refine g_put d_Rd_takeClosing_35 w_Rd_41_Rd (by assumption) (by first | rfl | exact zb_nar _) (by first | rfl | exact zb_fit _ | exact zrf_fit _) (by first | exact Nat.le_of_ble_eq_true rfl | omega) ?_
        obtain ⟨m, hm⟩ : ∃ m, sN S 15 = m + 1 := ⟨sN S 15 - 1, by omega⟩
        rw [show nI (sN S 15) - 1 = nI (sN S 15 - 1) by rw [hm, nI_pred, Nat.add_sub_cancel]]
        have hR1 := hR.put3N hI.2.2.2.2.1 (n := 15) (by decide) (sN S 15 - 1)
        generalize e1 : zput _ _ _ = Z1
        have hR1 : Rep w ad (wN S 15 (sN S 15 - 1)) Z1 := by rw [← e1]; exact hR1
        have B1 : Z1.2.2 = Z.2.2 := by rw [← e1]; rfl
        have T1 : rdC S (wN S 15 (sN S 15 - 1)) := rdC.N (by decide)
        refine g_aload_nq d_Rd_takeClosing_38 rfl 0 rfl ?_
        refine g_iconst (v := 1) d_Rd_takeClosing_39 rfl ?_
        have h3 : zhs Z1 (ad 3) (.inr (3, [.ref (ad 17), .ref (ad 18), .ref (ad 19), .ref (ad 2), .int (nI (sN (wN S 15 (sN S 15 - 1)) 12)), .int (nI (sN (wN S 15 (sN S 15 - 1)) 13)), .int (nI (sN (wN S 15 (sN S 15 - 1)) 14)), .int (sI (wN S 15 (sN S 15 - 1)) 3 7), .int (nI (sN (wN S 15 (sN S 15 - 1)) 15)), .int (sI (wN S 15 (sN S 15 - 1)) 3 9), .int (sI (wN S 15 (sN S 15 - 1)) 3 10), .int (sI (wN S 15 (sN S 15 - 1)) 3 11)])) := hR1.k 3 (by decide)
        refine g_callV d_Rd_takeClosing_40 k_Rd_putOutDownTo l_Rd_76 i_Rd_putOutDownTo rfl p_Rd_putOutDownTo h3 (by rfl) (by rfl) (Nat.le_of_ble_eq_true rfl) (by decide) (C_Rd_putOutDownTo hR1 (hI.2.2.2.2.1.eqT T1.eqT) (by rw [wN_ne (by decide)]; exact hI.2.2.2.2.2.1) (by rw [wN_ne (by decide)]; exact hI.2.2.2.2.2.2.1) (fun Z2 hR2 B2 => ⟨_, rfl, ?_⟩))
        have hR2 : Rep w ad (podF 1 (sN S 13) (wN S 15 (sN S 15 - 1))) Z2 := hR2
        refine g_aload_nq d_Rd_takeClosing_43 rfl 0 rfl ?_
        have h3 : zhs Z2 (ad 3) (.inr (3, [.ref (ad 17), .ref (ad 18), .ref (ad 19), .ref (ad 2), .int (nI (sN (podF 1 (sN S 13) (wN S 15 (sN S 15 - 1))) 12)), .int (nI (sN (podF 1 (sN S 13) (wN S 15 (sN S 15 - 1))) 13)), .int (nI (sN (podF 1 (sN S 13) (wN S 15 (sN S 15 - 1))) 14)), .int (sI (podF 1 (sN S 13) (wN S 15 (sN S 15 - 1))) 3 7), .int (nI (sN (podF 1 (sN S 13) (wN S 15 (sN S 15 - 1))) 15)), .int (sI (podF 1 (sN S 13) (wN S 15 (sN S 15 - 1))) 3 9), .int (sI (podF 1 (sN S 13) (wN S 15 (sN S 15 - 1))) 3 10), .int (sI (podF 1 (sN S 13) (wN S 15 (sN S 15 - 1))) 3 11)])) := hR2.k 3 (by decide)
        refine g_callV d_Rd_takeClosing_44 k_Rd_dropOpening l_Rd_139 i_Rd_dropOpening rfl p_Rd_dropOpening h3 (by rfl) (by rfl) (Nat.le_of_ble_eq_true rfl) (by decide) (C_Rd_dropOpening hR2 (hI.2.2.2.2.1.eqT (T1.tr rdC.pod).eqT) (Nat.le_trans (podF_13 (by rw [wN_ne (by decide)])) hI.2.2.2.2.2.2.1) (fun Z3 hR3 B3 => ⟨_, rfl, ?_⟩))
        generalize f3 : wN (podF 1 (sN S 13) (wN S 15 (sN S 15 - 1))) 13 (sN (podF 1 (sN S 13) (wN S 15 (sN S 15 - 1))) 13 - 1) = S3 at hR3 hQ
        have h3 : zhs Z3 (ad 3) (.inr (3, [.ref (ad 17), .ref (ad 18), .ref (ad 19), .ref (ad 2), .int (nI (sN S3 12)), .int (nI (sN S3 13)), .int (nI (sN S3 14)), .int (sI S3 3 7), .int (nI (sN S3 15)), .int (sI S3 3 9), .int (sI S3 3 10), .int (sI S3 3 11)])) := hR3.k 3 (by decide)
        refine g_aload_nq d_Rd_takeClosing_47 rfl 0 rfl ?_
        refine g_bipush (v := 6) d_Rd_takeClosing_48 rfl ?_
        refine g_put d_Rd_takeClosing_50 w_Rd_38_Rd (by assumption) (by first | rfl | exact zb_nar _) (by first | rfl | exact zb_fit _ | exact zrf_fit _) (by first | exact Nat.le_of_ble_eq_true rfl | omega) ?_
        have hR4 := hR3.put3 7 (6)
        generalize e4 : zput _ _ _ = Z4
        have hR4 : Rep w ad (w3 S3 7 (6)) Z4 := by rw [← e4]; exact hR4
        have B4 : Z4.2.2 = Z3.2.2 := by rw [← e4]; rfl
        generalize f4 : w3 S3 7 (6) = S4 at hR4 hQ
        have h3 : zhs Z4 (ad 3) (.inr (3, [.ref (ad 17), .ref (ad 18), .ref (ad 19), .ref (ad 2), .int (nI (sN S4 12)), .int (nI (sN S4 13)), .int (nI (sN S4 14)), .int (sI S4 3 7), .int (nI (sN S4 15)), .int (sI S4 3 9), .int (sI S4 3 10), .int (sI S4 3 11)])) := hR4.k 3 (by decide)
        refine g_iconst (v := 1) d_Rd_takeClosing_53 rfl ?_
        refine g_zret d_Rd_takeClosing_54 ?_ ?_
        · first | rfl | exact zb_nar _ | exact zb_narc (by assumption)
        · exact hQ Z4 hR4 (B4.trans (B3.trans (B2.trans B1)))
      · rw [tCls, if_neg (fun z => h23 z.2.2)] at hQ
        refine g_iconst (v := 0) d_Rd_takeClosing_26 rfl ?_
        refine g_zret d_Rd_takeClosing_27 ?_ ?_
        · first | rfl | exact zb_nar _ | exact zb_narc (by assumption)
        · exact hQ Z hR rfl
