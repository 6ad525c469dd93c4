/-! RuleReader.start, RuleText over the state, RuleReader.readRule -/
theorem C_Tx_toStartR {w : zC} {Z : zZ} {Q : zR → zZ → Prop} {ad : Nat → Nat} {S : ST} (hR : Rep w ad S Z) (hL : ciLive S) (hQ : ∀ Z', Rep w ad (wN S 11 0) Z' → Z'.2.2 = Z.2.2 → Q (.inl none) Z') : Cz w (0, 0) y_Tx_toStart (Cond.code y_Tx_toStart c_Tx_toStart 1 r_Tx_toStart :: wz) [.ref (ad 2)] Z Q :=
  C_Tx_toStart (hR.k 2 (by decide)) (hQ _ (hR.putN hL (i := 2) (n := 11) (v := 0) (Or.inl (by decide)) (by omega) (fun z => by omega) (fun i hi => by rcases hi with hi | hi | hi <;> first | omega | (unfold rdK at hi; split at hi <;> first | omega | exact hi.elim)) (by rw [cell_K (by decide)]; rfl)) rfl)
theorem C_Tx_wipeR {w : zC} {Z : zZ} {Q : zR → zZ → Prop} {ad : Nat → Nat} {S : ST} (hR : Rep w ad S Z) (hL : ciLive S) (hQ : ∀ Z', Rep w ad (wN S 9 0) Z' → Z'.2.2 = Z.2.2 → Q (.inl none) Z') : Cz w (0, 0) y_Tx_wipe (Cond.code y_Tx_wipe c_Tx_wipe 1 r_Tx_wipe :: wz) [.ref (ad 2)] Z Q :=
  C_Tx_wipe (hR.k 2 (by decide)) (hQ _ (hR.putN hL (i := 2) (n := 9) (v := 0) (Or.inl (by decide)) (by omega) (fun z => by omega) (fun i hi => by rcases hi with hi | hi | hi <;> first | omega | (unfold rdK at hi; split at hi <;> first | omega | exact hi.elim)) (by rw [cell_K (by decide)]; rfl)) rfl)
theorem C_nxW {w : zC} {Z : zZ} {Q : zR → zZ → Prop} {ad : Nat → Nat} {S : ST} (hR : Rep w ad S Z) (hL : ciLive S) (h9 : sN S 9 ≤ 160) (h11 : sN S 11 ≤ sN S 9) (hQ : ∀ Z', Rep w ad (nxW S) Z' → Z'.2.2 = Z.2.2 → Q (.inl (some (.int (zb (sN (nxW S) 10 < sN (nxW S) 11))))) Z') : Cz w (1, 21) y_Tx_toNextWord (Cond.code y_Tx_toNextWord c_Tx_toNextWord 4 r_Tx_toNextWord :: wz) [.ref (ad 2)] Z Q := by
  refine C_Tx_toNextWord (hR.k 2 (by decide)) (hR.k 16 (by decide)) h9 h11 (hQ _ ?_ rfl)
  have h1 := hR.putN hL (i := 2) (n := 10) (v := skS (sI S 16) (sN S 9 - sN S 11) (sN S 11)) (Or.inl (by decide)) (by omega) (fun z => by omega) (fun i hi => by rcases hi with hi | hi | hi <;> first | omega | (unfold rdK at hi; split at hi <;> first | omega | exact hi.elim)) rfl
  have h2 := h1.putN (hL.N (by decide)) (i := 2) (n := 11) (v := skW (sI S 16) (sN S 9 - (skS (sI S 16) (sN S 9 - sN S 11) (sN S 11))) (skS (sI S 16) (sN S 9 - sN S 11) (sN S 11))) (Or.inl (by decide)) (by omega) (fun z => by omega) (fun i hi => by rcases hi with hi | hi | hi <;> first | omega | (unfold rdK at hi; split at hi <;> first | omega | exact hi.elim)) rfl
  rw [zput_put, cell_K (by decide)] at h2
  exact h2
set_option maxHeartbeats 4000000 in
set_option maxRecDepth 100000 in
theorem C_Rd_start {w : zC} {Z : zZ} {Q : zR → zZ → Prop} {ad : Nat → Nat} {S : ST} (hR : Rep w ad S Z) (hL : ciLive S) (hQ : ∀ Z', Rep w ad (stO S) Z' → Z'.2.2 = Z.2.2 → Q (.inl none) Z') : Cz w (1, 20) y_Rd_start (Cond.code y_Rd_start c_Rd_start 1 r_Rd_start :: wz) [.ref (ad 3)] Z Q := by
  refine Cz.of (by decide +kernel) (by simp [lg_sl, Value.category]) ?_
  show G _ _ _ _ _ _ _ _ [(0, _)] _ _
  have h3 : zhs Z (ad 3) (.inr (3, [.ref (ad 17), .ref (ad 18), .ref (ad 19), .ref (ad 2), .int (nI (sN S 12)), .int (nI (sN S 13)), .int (nI (sN S 14)), .int (sI S 3 7), .int (nI (sN S 15)), .int (sI S 3 9), .int (sI S 3 10), .int (sI S 3 11)])) := hR.k 3 (by decide)
  have h2 : zhs Z (ad 2) (.inr (2, [.ref (ad 16), .int (nI (sN S 9)), .int (nI (sN S 10)), .int (nI (sN S 11))])) := hR.k 2 (by decide)
  unfold stO at hQ
  refine g_aload_nq d_Rd_start_0 rfl 0 rfl ?_
  refine g_get d_Rd_start_1 f_Rd_24_Rd (by assumption) (by first | rfl | assumption) ?_
  refine g_callV d_Rd_start_4 k_Tx_toStart l_Rd_89 i_Tx_toStart rfl q_Tx_Tx_toStart_Tx h2 (by rfl) (by rfl) (Nat.le_of_ble_eq_true rfl) (by decide) (C_Tx_toStartR hR hL (fun Z1 hR1 B1 => ⟨_, rfl, ?_⟩))
  have L1 : ciLive (wN S 11 0) := hL.N (by decide)
  generalize f1 : wN S 11 0 = S1 at hR1 L1 hQ
  have h3 : zhs Z1 (ad 3) (.inr (3, [.ref (ad 17), .ref (ad 18), .ref (ad 19), .ref (ad 2), .int (nI (sN S1 12)), .int (nI (sN S1 13)), .int (nI (sN S1 14)), .int (sI S1 3 7), .int (nI (sN S1 15)), .int (sI S1 3 9), .int (sI S1 3 10), .int (sI S1 3 11)])) := hR1.k 3 (by decide)
  refine g_aload_nq d_Rd_start_7 rfl 0 rfl ?_
  refine g_iconst (v := 0) d_Rd_start_8 rfl ?_
  refine g_put d_Rd_start_9 w_Rd_28_Rd (by assumption) (by first | rfl | exact zb_nar _) (by first | rfl | exact zb_fit _ | exact zrf_fit _) (by first | exact Nat.le_of_ble_eq_true rfl | omega) ?_
  have hR2 := hR1.put3N L1 (n := 12) (by decide) 0
  generalize e2 : zput _ _ _ = Z2
  have hR2 : Rep w ad (wN S1 12 0) Z2 := by rw [← e2]; exact hR2
  have B2 : Z2.2.2 = Z1.2.2 := by rw [← e2]; rfl
  have L2 : ciLive (wN S1 12 0) := L1.N (by decide)
  generalize f2 : wN S1 12 0 = S2 at hR2 L2 hQ
  have h3 : zhs Z2 (ad 3) (.inr (3, [.ref (ad 17), .ref (ad 18), .ref (ad 19), .ref (ad 2), .int (nI (sN S2 12)), .int (nI (sN S2 13)), .int (nI (sN S2 14)), .int (sI S2 3 7), .int (nI (sN S2 15)), .int (sI S2 3 9), .int (sI S2 3 10), .int (sI S2 3 11)])) := hR2.k 3 (by decide)
  refine g_aload_nq d_Rd_start_12 rfl 0 rfl ?_
  refine g_iconst (v := 0) d_Rd_start_13 rfl ?_
  refine g_put d_Rd_start_14 w_Rd_32_Rd (by assumption) (by first | rfl | exact zb_nar _) (by first | rfl | exact zb_fit _ | exact zrf_fit _) (by first | exact Nat.le_of_ble_eq_true rfl | omega) ?_
  have hR3 := hR2.put3N L2 (n := 13) (by decide) 0
  generalize e3 : zput _ _ _ = Z3
  have hR3 : Rep w ad (wN S2 13 0) Z3 := by rw [← e3]; exact hR3
  have B3 : Z3.2.2 = Z2.2.2 := by rw [← e3]; rfl
  have L3 : ciLive (wN S2 13 0) := L2.N (by decide)
  generalize f3 : wN S2 13 0 = S3 at hR3 L3 hQ
  have h3 : zhs Z3 (ad 3) (.inr (3, [.ref (ad 17), .ref (ad 18), .ref (ad 19), .ref (ad 2), .int (nI (sN S3 12)), .int (nI (sN S3 13)), .int (nI (sN S3 14)), .int (sI S3 3 7), .int (nI (sN S3 15)), .int (sI S3 3 9), .int (sI S3 3 10), .int (sI S3 3 11)])) := hR3.k 3 (by decide)
  refine g_aload_nq d_Rd_start_17 rfl 0 rfl ?_
  refine g_iconst (v := 0) d_Rd_start_18 rfl ?_
  refine g_put d_Rd_start_19 w_Rd_35_Rd (by assumption) (by first | rfl | exact zb_nar _) (by first | rfl | exact zb_fit _ | exact zrf_fit _) (by first | exact Nat.le_of_ble_eq_true rfl | omega) ?_
  have hR4 := hR3.put3N L3 (n := 14) (by decide) 0
  generalize e4 : zput _ _ _ = Z4
  have hR4 : Rep w ad (wN S3 14 0) Z4 := by rw [← e4]; exact hR4
  have B4 : Z4.2.2 = Z3.2.2 := by rw [← e4]; rfl
  have L4 : ciLive (wN S3 14 0) := L3.N (by decide)
  generalize f4 : wN S3 14 0 = S4 at hR4 L4 hQ
  have h3 : zhs Z4 (ad 3) (.inr (3, [.ref (ad 17), .ref (ad 18), .ref (ad 19), .ref (ad 2), .int (nI (sN S4 12)), .int (nI (sN S4 13)), .int (nI (sN S4 14)), .int (sI S4 3 7), .int (nI (sN S4 15)), .int (sI S4 3 9), .int (sI S4 3 10), .int (sI S4 3 11)])) := hR4.k 3 (by decide)
  refine g_aload_nq d_Rd_start_22 rfl 0 rfl ?_
  refine g_iconst (v := 0) d_Rd_start_23 rfl ?_
  refine g_put d_Rd_start_24 w_Rd_38_Rd (by assumption) (by first | rfl | exact zb_nar _) (by first | rfl | exact zb_fit _ | exact zrf_fit _) (by first | exact Nat.le_of_ble_eq_true rfl | omega) ?_
  have hR5 := hR4.put3 7 0
  generalize e5 : zput _ _ _ = Z5
  have hR5 : Rep w ad (w3 S4 7 0) Z5 := by rw [← e5]; exact hR5
  have B5 : Z5.2.2 = Z4.2.2 := by rw [← e5]; rfl
  have L5 : ciLive (w3 S4 7 0) := L4.w3
  generalize f5 : w3 S4 7 0 = S5 at hR5 L5 hQ
  have h3 : zhs Z5 (ad 3) (.inr (3, [.ref (ad 17), .ref (ad 18), .ref (ad 19), .ref (ad 2), .int (nI (sN S5 12)), .int (nI (sN S5 13)), .int (nI (sN S5 14)), .int (sI S5 3 7), .int (nI (sN S5 15)), .int (sI S5 3 9), .int (sI S5 3 10), .int (sI S5 3 11)])) := hR5.k 3 (by decide)
  refine g_aload_nq d_Rd_start_27 rfl 0 rfl ?_
  refine g_iconst (v := 0) d_Rd_start_28 rfl ?_
  refine g_put d_Rd_start_29 w_Rd_41_Rd (by assumption) (by first | rfl | exact zb_nar _) (by first | rfl | exact zb_fit _ | exact zrf_fit _) (by first | exact Nat.le_of_ble_eq_true rfl | omega) ?_
  have hR6 := hR5.put3N L5 (n := 15) (by decide) 0
  generalize e6 : zput _ _ _ = Z6
  have hR6 : Rep w ad (wN S5 15 0) Z6 := by rw [← e6]; exact hR6
  have B6 : Z6.2.2 = Z5.2.2 := by rw [← e6]; rfl
  have L6 : ciLive (wN S5 15 0) := L5.N (by decide)
  generalize f6 : wN S5 15 0 = S6 at hR6 L6 hQ
  have h3 : zhs Z6 (ad 3) (.inr (3, [.ref (ad 17), .ref (ad 18), .ref (ad 19), .ref (ad 2), .int (nI (sN S6 12)), .int (nI (sN S6 13)), .int (nI (sN S6 14)), .int (sI S6 3 7), .int (nI (sN S6 15)), .int (sI S6 3 9), .int (sI S6 3 10), .int (sI S6 3 11)])) := hR6.k 3 (by decide)
  refine g_aload_nq d_Rd_start_32 rfl 0 rfl ?_
  refine g_iconst (v := 0) d_Rd_start_33 rfl ?_
  refine g_put d_Rd_start_34 w_Rd_44_Rd (by assumption) (by first | rfl | exact zb_nar _) (by first | rfl | exact zb_fit _ | exact zrf_fit _) (by first | exact Nat.le_of_ble_eq_true rfl | omega) ?_
  have hR7 := hR6.put3 9 0
  generalize e7 : zput _ _ _ = Z7
  have hR7 : Rep w ad (w3 S6 9 0) Z7 := by rw [← e7]; exact hR7
  have B7 : Z7.2.2 = Z6.2.2 := by rw [← e7]; rfl
  have L7 : ciLive (w3 S6 9 0) := L6.w3
  generalize f7 : w3 S6 9 0 = S7 at hR7 L7 hQ
  have h3 : zhs Z7 (ad 3) (.inr (3, [.ref (ad 17), .ref (ad 18), .ref (ad 19), .ref (ad 2), .int (nI (sN S7 12)), .int (nI (sN S7 13)), .int (nI (sN S7 14)), .int (sI S7 3 7), .int (nI (sN S7 15)), .int (sI S7 3 9), .int (sI S7 3 10), .int (sI S7 3 11)])) := hR7.k 3 (by decide)
  refine g_vret d_Rd_start_37 ?_
  exact hQ Z7 hR7 (B7.trans (B6.trans (B5.trans (B4.trans (B3.trans (B2.trans B1))))))

set_option maxHeartbeats 4000000 in
set_option maxRecDepth 100000 in
theorem L_Rd_readRule {w : zC} {Q : zR → zZ → Prop} {ad : Nat → Nat} {adK adV : Nat → Nat} (hK : zLit w adK adV) (m : Nat) : ∀ S Z, Rep w ad S Z → rdJ S → wsI S → sN S 14 + m = 80 → (∀ Z', Rep w ad (rdL m S).1 Z' → Z'.2.2 = Z.2.2 → G w y_Rd_readRule c_Rd_readRule 2 r_Rd_readRule (8, 168) Q 51 [(1, .int (zb ((rdL m S).2 = true))), (0, .ref (ad 3))] [] Z') → G w y_Rd_readRule c_Rd_readRule 2 r_Rd_readRule (8, 168) Q 6 [(1, .int 1), (0, .ref (ad 3))] [] Z := by
  induction m with
  | zero =>
    intro S Z hR hJ hw h14 hk
    have h3 : zhs Z (ad 3) (.inr (3, [.ref (ad 17), .ref (ad 18), .ref (ad 19), .ref (ad 2), .int (nI (sN S 12)), .int (nI (sN S 13)), .int (nI (sN S 14)), .int (sI S 3 7), .int (nI (sN S 15)), .int (sI S 3 9), .int (sI S 3 10), .int (sI S 3 11)])) := hR.k 3 (by decide)
    refine g_iload_n d_Rd_readRule_6 rfl 0 rfl ?_
    first | refine g_if_eqB (tgt := 51) d_Rd_readRule_7 (by decide) (fun h7 => ?_) (fun h7 => ?_) | refine g_if_eq (tgt := 51) d_Rd_readRule_7 (by decide) (fun h7 => ?_) (fun h7 => ?_)
    · exact absurd h7 (by decide)
    · refine g_aload_nq d_Rd_readRule_10 rfl 1 rfl ?_
      refine g_get d_Rd_readRule_11 f_Rd_35_Rd (by assumption) (by first | rfl | assumption) ?_
      refine g_bipush (v := 80) d_Rd_readRule_14 rfl ?_
      refine g_icmp_ge (tgt := 51) d_Rd_readRule_16 (by decide) (fun h16 => ?_) (fun h16 => ?_)
      · exact hk Z hR rfl
      · exact absurd (show (80 : Int32) ≤ nI (sN S 14) from nI_le (a := 80) (by omega) (by omega)) h16
  | succ m ih =>
    intro S Z hR hJ hw h14 hk
    have h3 : zhs Z (ad 3) (.inr (3, [.ref (ad 17), .ref (ad 18), .ref (ad 19), .ref (ad 2), .int (nI (sN S 12)), .int (nI (sN S 13)), .int (nI (sN S 14)), .int (sI S 3 7), .int (nI (sN S 15)), .int (sI S 3 9), .int (sI S 3 10), .int (sI S 3 11)])) := hR.k 3 (by decide)
    have h2 : zhs Z (ad 2) (.inr (2, [.ref (ad 16), .int (nI (sN S 9)), .int (nI (sN S 10)), .int (nI (sN S 11))])) := hR.k 2 (by decide)
    refine g_iload_n d_Rd_readRule_6 rfl 0 rfl ?_
    first | refine g_if_eqB (tgt := 51) d_Rd_readRule_7 (by decide) (fun h7 => ?_) (fun h7 => ?_) | refine g_if_eq (tgt := 51) d_Rd_readRule_7 (by decide) (fun h7 => ?_) (fun h7 => ?_)
    · exact absurd h7 (by decide)
    · refine g_aload_nq d_Rd_readRule_10 rfl 1 rfl ?_
      refine g_get d_Rd_readRule_11 f_Rd_35_Rd (by assumption) (by first | rfl | assumption) ?_
      refine g_bipush (v := 80) d_Rd_readRule_14 rfl ?_
      refine g_icmp_ge (tgt := 51) d_Rd_readRule_16 (by decide) (fun h16 => ?_) (fun h16 => ?_)
      · exact absurd h16 (nI_ge (a := sN S 14) (b := 80) (by omega) (by decide))
      · refine g_aload_nq d_Rd_readRule_19 rfl 1 rfl ?_
        refine g_get d_Rd_readRule_20 f_Rd_24_Rd (by assumption) (by first | rfl | assumption) ?_
        refine g_callV d_Rd_readRule_23 k_Tx_toNextWord l_Rd_64 i_Tx_toNextWord rfl q_Tx_Tx_toNextWord_Tx h2 (by rfl) (by rfl) (Nat.le_of_ble_eq_true rfl) (by decide) (C_nxW hR hJ.2.2.2.1 hJ.1 hJ.2.1 (fun Z1 hR1 B1 => ⟨_, rfl, ?_⟩))
        first | refine g_if_eqB (tgt := 51) d_Rd_readRule_26 (by decide) (fun h26 => ?_) (fun h26 => ?_) | refine g_if_eq (tgt := 51) d_Rd_readRule_26 (by decide) (fun h26 => ?_) (fun h26 => ?_)
        · rw [rdL, if_neg h26] at hk
          exact hk Z1 hR1 B1
        · rw [rdL, if_pos h26] at hk
          have h3 : zhs Z1 (ad 3) (.inr (3, [.ref (ad 17), .ref (ad 18), .ref (ad 19), .ref (ad 2), .int (nI (sN (nxW S) 12)), .int (nI (sN (nxW S) 13)), .int (nI (sN (nxW S) 14)), .int (sI (nxW S) 3 7), .int (nI (sN (nxW S) 15)), .int (sI (nxW S) 3 9), .int (sI (nxW S) 3 10), .int (sI (nxW S) 3 11)])) := hR1.k 3 (by decide)
          refine g_aload_nq d_Rd_readRule_29 rfl 1 rfl ?_
          refine g_callV d_Rd_readRule_30 k_Rd_takeWord l_Rd_68 i_Rd_takeWord rfl p_Rd_takeWord h3 (by rfl) (by rfl) (Nat.le_of_ble_eq_true rfl) (by decide) (C_Rd_takeWord hR1 hK (nxW_I hJ) (fun Z2 hR2 B2 => ⟨_, rfl, ?_⟩))
          refine g_istore_n d_Rd_readRule_33 rfl (by decide) rfl ?_
          show G _ _ _ _ _ _ _ _ [(1, _), (0, _)] _ _
          refine g_iload_n d_Rd_readRule_34 rfl 0 rfl ?_
          first | refine g_if_eqB (tgt := 6) d_Rd_readRule_35 (by decide) (fun h35 => ?_) (fun h35 => ?_) | refine g_if_eq (tgt := 6) d_Rd_readRule_35 (by decide) (fun h35 => ?_) (fun h35 => ?_)
          · have hn := is_none h35
            rw [zb_f h35]
            rw [hn] at hR2 hk
            refine g_iload_n d_Rd_readRule_6 rfl 0 rfl ?_
            refine g_if_eq (tgt := 51) d_Rd_readRule_7 (by decide) (fun _ => ?_) (fun h => absurd rfl h)
            exact hk Z2 hR2 (B2.trans B1)
          · obtain ⟨S2, hs2⟩ := Option.isSome_iff_exists.mp h35
            rw [zb_t h35]
            rw [hs2] at hR2 hk
            have hR2 : Rep w ad S2 Z2 := hR2
            obtain ⟨a1, a2, a3, a4⟩ := rdL_step hJ hw (by omega) hs2
            have h3 : zhs Z2 (ad 3) (.inr (3, [.ref (ad 17), .ref (ad 18), .ref (ad 19), .ref (ad 2), .int (nI (sN S2 12)), .int (nI (sN S2 13)), .int (nI (sN S2 14)), .int (sI S2 3 7), .int (nI (sN S2 15)), .int (sI S2 3 9), .int (sI S2 3 10), .int (sI S2 3 11)])) := hR2.k 3 (by decide)
            refine g_aload_nq d_Rd_readRule_38 rfl 1 rfl ?_
            refine g_dup d_Rd_readRule_39 rfl ?_
            refine g_get d_Rd_readRule_40 f_Rd_35_Rd (by assumption) (by first | rfl | assumption) ?_
            refine g_iconst (v := 1) d_Rd_readRule_43 rfl ?_
            refine g_iadd d_Rd_readRule_44 ?_
            refine g_put d_Rd_readRule_45 w_Rd_35_Rd (by assumption) (by first | rfl | exact zb_nar _) (by first | rfl | exact zb_fit _ | exact zrf_fit _) (by first | exact Nat.le_of_ble_eq_true rfl | omega) ?_
            rw [show (1 : Int32) = nI 1 from rfl, nI_add]
            have hR3 := hR2.put3N a4.2.2.2.2.1 (n := 14) (by decide) (sN S2 14 + 1)
            generalize e3 : zput _ _ _ = Z3
            have hR3 : Rep w ad (wN S2 14 (sN S2 14 + 1)) Z3 := by rw [← e3]; exact hR3
            have B3 : Z3.2.2 = Z2.2.2 := by rw [← e3]; rfl
            refine g_goto (tgt := 6) d_Rd_readRule_48 (by decide) ?_
            exact ih _ Z3 hR3 a1 a2 (by rw [wN_self]; omega) (fun Z9 r9 b9 => hk Z9 r9 (b9.trans (B3.trans (B2.trans B1))))
