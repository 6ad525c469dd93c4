/-! RuleText.wordIs, addLetter -/
abbrev wdIs (f : Nat → Int32) (s e : Nat) (byt : List Int32) : Prop := byt.length = e - s ∧ ∀ j, j < byt.length → byt.getD j 0 = f (s + j)
theorem nI_sub {a b : Nat} (h : b ≤ a) : nI a - nI b = nI (a - b) := by
  have h1 := nI_add (a - b) b
  rw [show a - b + b = a by omega] at h1
  rw [← h1]
  exact Int32.add_sub_cancel _ _
abbrev ltr (x : Int32) : Prop := ¬ x < 32 ∧ ¬ 126 < x
theorem ltr_all : ∀ j, j < 127 → ((nI j).toUInt32 % 65536).toInt32 = nI j ∧ vp_nar .char (nI j) = nI j ∧ narrow .char (.int (nI j)) = .int (nI j) := by decide +kernel
theorem ltr_nI {x : Int32} (h : ltr x) : ∃ j, 32 ≤ j ∧ j < 127 ∧ x = nI j := by
  obtain ⟨j, h1, rfl⟩ := nI_of2 (M := 126) (n := 126) (by decide) (fun z => h.1 (Int32.lt_trans z (by decide))) (Int32.not_lt.mp h.2)
  exact ⟨j, Nat.not_lt.mp (fun z => h.1 (nI_lt (a := j) (b := 32) z (by decide))), by omega, rfl⟩
theorem ltr_c {x : Int32} (h : ltr x) : (x.toUInt32 % 65536).toInt32 = x ∧ vp_nar .char x = x ∧ narrow .char (.int x) = .int x := by
  obtain ⟨j, -, h1, rfl⟩ := ltr_nI h
  exact ltr_all j h1
set_option maxHeartbeats 4000000 in
set_option maxRecDepth 100000 in
theorem L_Tx_wordIs {w : zC} {Z : zZ} {Q : zR → zZ → Prop} {a q L s e : Nat} {f : Nat → Int32} (h0 : zhs Z a (.inr (2, [.ref q, .int (nI L), .int (nI s), .int (nI e)]))) (g1 : zhs Z q (xc w 160 f)) (hL : L ≤ 160) (hs : s ≤ e) (he : e ≤ L) (hc : ∀ k, narrow .char (.int (f k)) = .int (f k)) {adK adV : Nat → Nat} (hK : zLit w adK adV) {i k : Nat} {own tx : String} {byt : List Int32} (hi : zLi[i]? = some (own, k, tx, byt)) (hlen : byt.length = e - s) (hQ : Q (.inl (some (.int (zb (wdIs f s e byt))))) Z) (n : Nat) : ∀ j, j + n = byt.length → (∀ m, m < j → byt.getD m 0 = f (s + m)) → G w y_Tx_wordIs c_Tx_wordIs 3 r_Tx_wordIs (4, 85) Q 15 [(2, .int (nI j)), (0, .ref a), (1, .ref (adK i))] [] Z := by
  have hl := zLi_len hi
  induction n with
  | zero =>
    intro j hj hp
    refine g_iload_n d_Tx_wordIs_15 rfl 0 rfl ?_
    refine g_aload_nq d_Tx_wordIs_16 rfl 2 rfl ?_
    refine g_callVS hK hi d_Tx_wordIs_17 k_jS_length l_Tx_34 i_jS_length q_jS_jS_length_jS (by rfl) (by rfl) (Nat.le_of_ble_eq_true rfl) (by decide) (C_jS_length hK hi ⟨_, rfl, ?_⟩)
    refine g_icmp_ge (tgt := 44) d_Tx_wordIs_20 (by decide) (fun h20 => ?_) (fun h20 => ?_)
    · rw [zb_t ⟨hlen, fun m hm => hp m (by omega)⟩] at hQ
      refine g_iconst (v := 1) d_Tx_wordIs_44 rfl ?_
      refine g_zret d_Tx_wordIs_45 ?_ ?_
      · first | rfl | exact zb_nar _ | exact zb_narc (by assumption)
      · exact hQ
    · exact absurd (nI_le (by omega) (by omega)) h20
  | succ n ih =>
    intro j hj hp
    refine g_iload_n d_Tx_wordIs_15 rfl 0 rfl ?_
    refine g_aload_nq d_Tx_wordIs_16 rfl 2 rfl ?_
    refine g_callVS hK hi d_Tx_wordIs_17 k_jS_length l_Tx_34 i_jS_length q_jS_jS_length_jS (by rfl) (by rfl) (Nat.le_of_ble_eq_true rfl) (by decide) (C_jS_length hK hi ⟨_, rfl, ?_⟩)
    refine g_icmp_ge (tgt := 44) d_Tx_wordIs_20 (by decide) (fun h20 => ?_) (fun h20 => ?_)
    · exact absurd h20 (nI_ge (by omega) (by omega))
    · refine g_aload_nq d_Tx_wordIs_23 rfl 2 rfl ?_
      refine g_iload_n d_Tx_wordIs_24 rfl 0 rfl ?_
      refine g_callVS hK hi d_Tx_wordIs_25 k_jS_charAt l_Tx_42 i_jS_charAt q_jS_jS_charAt_jS (by rfl) (by rfl) (Nat.le_of_ble_eq_true rfl) (by decide) (C_jS_charAt hK hi (x := j) (by omega) ⟨_, rfl, ?_⟩)
      refine g_aload_nq d_Tx_wordIs_28 rfl 1 rfl ?_
      refine g_iload_n d_Tx_wordIs_29 rfl 0 rfl ?_
      refine g_callV d_Tx_wordIs_30 k_Tx_letterOfWord l_Tx_46 i_Tx_letterOfWord rfl q_Tx_Tx_letterOfWord_Tx h0 (by rfl) (by rfl) (Nat.le_of_ble_eq_true rfl) (by decide) (C_Tx_letterOfWord h0 g1 hL he (by omega) hc ⟨_, rfl, ?_⟩)
      rw [if_pos (show s + j < e by omega)]
      refine g_icmp_eq (tgt := 38) d_Tx_wordIs_33 (by decide) (fun h33 => ?_) (fun h33 => ?_)
      · refine g_iinc (k := 0) d_Tx_wordIs_38 rfl (nI_1 j) (by decide) rfl ?_
        refine g_goto (tgt := 15) d_Tx_wordIs_41 (by decide) ?_
        exact ih (j + 1) (by omega) (fun m hm => by rcases Nat.lt_succ_iff_lt_or_eq.mp hm with hm | rfl; exact hp m hm; exact h33)
      · rw [zb_f (fun z => h33 (z.2 j (by omega)))] at hQ
        refine g_iconst (v := 0) d_Tx_wordIs_36 rfl ?_
        refine g_zret d_Tx_wordIs_37 ?_ ?_
        · first | rfl | exact zb_nar _ | exact zb_narc (by assumption)
        · exact hQ

set_option maxHeartbeats 4000000 in
set_option maxRecDepth 100000 in
theorem C_Tx_wordIs {w : zC} {Z : zZ} {Q : zR → zZ → Prop} {a q L s e : Nat} {f : Nat → Int32} (h0 : zhs Z a (.inr (2, [.ref q, .int (nI L), .int (nI s), .int (nI e)]))) (g1 : zhs Z q (xc w 160 f)) (hL : L ≤ 160) (hs : s ≤ e) (he : e ≤ L) (hc : ∀ k, narrow .char (.int (f k)) = .int (f k)) {adK adV : Nat → Nat} (hK : zLit w adK adV) {i k : Nat} {own tx : String} {byt : List Int32} (hi : zLi[i]? = some (own, k, tx, byt)) (hQ : Q (.inl (some (.int (zb (wdIs f s e byt))))) Z) : Cz w (4, 85) y_Tx_wordIs (Cond.code y_Tx_wordIs c_Tx_wordIs 3 r_Tx_wordIs :: wz) [.ref a, .ref (adK i)] Z Q := by
  refine Cz.of (by decide +kernel) (by simp [lg_sl, Value.category]) ?_
  show G _ _ _ _ _ _ _ _ [(0, _), (1, _)] _ _
  have hl := zLi_len hi
  refine g_aload_nq d_Tx_wordIs_0 rfl 1 rfl ?_
  refine g_callVS hK hi d_Tx_wordIs_1 k_jS_length l_Tx_34 i_jS_length q_jS_jS_length_jS (by rfl) (by rfl) (Nat.le_of_ble_eq_true rfl) (by decide) (C_jS_length hK hi ⟨_, rfl, ?_⟩)
  refine g_aload_nq d_Tx_wordIs_4 rfl 0 rfl ?_
  refine g_callV d_Tx_wordIs_5 k_Tx_wordLength l_Tx_39 i_Tx_wordLength rfl q_Tx_Tx_wordLength_Tx h0 (by rfl) (by rfl) (Nat.le_of_ble_eq_true rfl) (by decide) (C_Tx_wordLength h0 ⟨_, rfl, ?_⟩)
  rw [nI_sub hs]
  refine g_icmp_eq (tgt := 13) d_Tx_wordIs_8 (by decide) (fun h8 => ?_) (fun h8 => ?_)
  · have hlen := (nI_eq (by omega) (by omega)).mp h8
    refine g_iconst (v := 0) d_Tx_wordIs_13 rfl ?_
    refine g_istore_n d_Tx_wordIs_14 rfl (by decide) rfl ?_
    show G _ _ _ _ _ _ _ _ [(2, _), (0, _), (1, _)] _ _
    exact L_Tx_wordIs h0 g1 hL hs he hc hK hi hlen hQ byt.length 0 (by omega) (fun m hm => by omega)
  · rw [zb_f (fun z => h8 (by rw [z.1]))] at hQ
    refine g_iconst (v := 0) d_Tx_wordIs_11 rfl ?_
    refine g_zret d_Tx_wordIs_12 ?_ ?_
    · first | rfl | exact zb_nar _ | exact zb_narc (by assumption)
    · exact hQ

set_option maxHeartbeats 4000000 in
set_option maxRecDepth 100000 in
theorem C_Tx_addLetter {w : zC} {Z : zZ} {Q : zR → zZ → Prop} {ad : Nat → Nat} {S : ST} (hR : Rep w ad S Z) {x : Int32} (hL : ciLive S) (h160 : sN S 9 ≤ 160) (hQ : if ltr x ∧ sN S 9 < 160 then (∀ Z', Rep w ad (wN (wI S 16 (upd (sI S 16) (sN S 9) x)) 9 (sN S 9 + 1)) Z' → Z'.2.2 = Z.2.2 → Q (.inl (some (.int 1))) Z') else Q (.inl (some (.int 0))) Z) : Cz w (0, 0) y_Tx_addLetter (Cond.code y_Tx_addLetter c_Tx_addLetter 2 r_Tx_addLetter :: wz) [.ref (ad 2), .int x] Z Q := by
  refine Cz.of (by decide +kernel) (by simp [lg_sl, Value.category]) ?_
  show G _ _ _ _ _ _ _ _ [(0, _), (1, _)] _ _
  have h2 : zhs Z (ad 2) (.inr (2, [.ref (ad 16), .int (nI (sN S 9)), .int (nI (sN S 10)), .int (nI (sN S 11))])) := hR.k 2 (by decide)
  have h16 : zhs Z (ad 16) (xc w 160 (sI S 16)) := hR.k 16 (by decide)
  refine g_iload_n d_Tx_addLetter_0 rfl 1 rfl ?_
  refine g_bipush (v := 32) d_Tx_addLetter_1 rfl ?_
  refine g_icmp_lt (tgt := 24) d_Tx_addLetter_3 (by decide) (fun h3 => ?_) (fun h3 => ?_)
  · rw [if_neg (fun z : ltr x ∧ sN S 9 < 160 => z.1.1 h3)] at hQ
    refine g_iconst (v := 0) d_Tx_addLetter_24 rfl ?_
    refine g_zret d_Tx_addLetter_25 ?_ ?_
    · first | rfl | exact zb_nar _ | exact zb_narc (by assumption)
    · exact hQ
  · refine g_iload_n d_Tx_addLetter_6 rfl 1 rfl ?_
    refine g_bipush (v := 126) d_Tx_addLetter_7 rfl ?_
    refine g_icmp_gt (tgt := 24) d_Tx_addLetter_9 (by decide) (fun h9 => ?_) (fun h9 => ?_)
    · rw [if_neg (fun z : ltr x ∧ sN S 9 < 160 => z.1.2 h9)] at hQ
      refine g_iconst (v := 0) d_Tx_addLetter_24 rfl ?_
      refine g_zret d_Tx_addLetter_25 ?_ ?_
      · first | rfl | exact zb_nar _ | exact zb_narc (by assumption)
      · exact hQ
    · refine g_aload_nq d_Tx_addLetter_12 rfl 0 rfl ?_
      refine g_get d_Tx_addLetter_13 f_Tx_15_Tx (by assumption) (by first | rfl | assumption) ?_
      refine g_aload_nq d_Tx_addLetter_16 rfl 0 rfl ?_
      refine g_get d_Tx_addLetter_17 f_Tx_9_Tx (by assumption) (by first | rfl | assumption) ?_
      refine g_alen d_Tx_addLetter_20 3 (by assumption) rfl ?_
      refine g_icmp_lt (tgt := 26) d_Tx_addLetter_21 (by decide) (fun h21 => ?_) (fun h21 => ?_)
      · have hlt : sN S 9 < 160 := (nI_ltI (by omega) (by decide)).mp h21
        have hx : ltr x := ⟨h3, h9⟩
        rw [if_pos ⟨hx, hlt⟩] at hQ
        refine g_aload_nq d_Tx_addLetter_26 rfl 0 rfl ?_
        refine g_get d_Tx_addLetter_27 f_Tx_9_Tx (by assumption) (by first | rfl | assumption) ?_
        refine g_aload_nq d_Tx_addLetter_30 rfl 0 rfl ?_
        refine g_get d_Tx_addLetter_31 f_Tx_15_Tx (by assumption) (by first | rfl | assumption) ?_
        refine g_iload_n d_Tx_addLetter_34 rfl 1 rfl ?_
        refine g_i2c d_Tx_addLetter_35 (ltr_c hx).1 ?_
        refine g_cast d_Tx_addLetter_36 (by assumption) (vp_in_nI hlt (by decide)) ?_
        rw [nI_clamp (by omega), (ltr_c hx).2.1]
        have hR1 := hR.putI (i := 16) (f := upd (sI S 16) (sN S 9) x) (e := xc w 160 (upd (sI S 16) (sN S 9) x)) (Or.inl (by decide)) (by rw [cell_K (by decide)]; exact congrArg (xc w 160) (va_up_self S.1 16 _))
        generalize e1 : zput _ _ _ = Z1
        have hR1 : Rep w ad (wI S 16 (upd (sI S 16) (sN S 9) x)) Z1 := by rw [← e1]; exact hR1
        have h2 := zhs_put_ne' e1 h2 (hR.inj (Or.inl (by decide)) (Or.inl (by decide)) (by decide))
        refine g_aload_nq d_Tx_addLetter_37 rfl 0 rfl ?_
        refine g_dup d_Tx_addLetter_38 rfl ?_
        refine g_get d_Tx_addLetter_39 f_Tx_15_Tx (by assumption) (by first | rfl | assumption) ?_
        refine g_iconst (v := 1) d_Tx_addLetter_42 rfl ?_
        refine g_iadd d_Tx_addLetter_43 ?_
        refine g_put d_Tx_addLetter_44 w_Tx_15_Tx (by assumption) (by first | rfl | exact zb_nar _) (by first | rfl | exact zb_fit _ | exact zrf_fit _) (by first | exact Nat.le_of_ble_eq_true rfl | omega) ?_
        rw [show (1 : Int32) = nI 1 from rfl, nI_add]
        have hL1 : ciLive (wI S 16 (upd (sI S 16) (sN S 9) x)) := hL.eqT ⟨fun m hm => va_up_ne _ _ (by omega), fun _ _ => rfl, fun _ _ => rfl, fun _ _ => rfl⟩
        have hR2 := hR1.putN hL1 (i := 2) (n := 9) (v := sN S 9 + 1) (Or.inl (by decide)) (by omega) (fun z => by omega) (fun i hi => by rcases hi with hi | hi | hi <;> first | omega | (unfold rdK at hi; split at hi <;> first | omega | exact hi.elim)) rfl
        generalize e2 : zput _ _ _ = Z2
        have hR2 : Rep w ad (wN (wI S 16 (upd (sI S 16) (sN S 9) x)) 9 (sN S 9 + 1)) Z2 := by rw [← e2]; exact hR2
        refine g_iconst (v := 1) d_Tx_addLetter_47 rfl ?_
        refine g_zret d_Tx_addLetter_48 ?_ ?_
        · first | rfl | exact zb_nar _ | exact zb_narc (by assumption)
        · exact hQ Z2 hR2 (by rw [← e2, ← e1]; rfl)
      · rw [if_neg (fun z : ltr x ∧ sN S 9 < 160 => h21 (nI_lt z.2 (by decide)))] at hQ
        refine g_iconst (v := 0) d_Tx_addLetter_24 rfl ?_
        refine g_zret d_Tx_addLetter_25 ?_ ?_
        · first | rfl | exact zb_nar _ | exact zb_narc (by assumption)
        · exact hQ
