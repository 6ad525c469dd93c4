/-! The face of the class: pin, join, field, end, off -/
theorem cntO_I {S : ST} {o : Option Nat} {d i : Nat} {m : Int32} (h : ∀ n, o = some n → i ≠ 220 + 2 * n ∧ i ≠ 221 + 2 * n) : sI (cntO S o d m) i = sI S i := by
  cases o with
  | none => rfl
  | some n =>
    obtain ⟨a, b⟩ := h n rfl
    exact (va_up_ne _ _ a).trans (va_up_ne _ _ b)
def joinS (S : ST) (k d : Nat) (o : Option Nat) : ST := wR (cntO (cntO S (sR S (300 + k) 4) d (-1)) o d 1) (300 + k) (va_up (sR S (300 + k)) 4 o)
set_option maxHeartbeats 4000000 in
set_option maxRecDepth 100000 in
theorem C_K_pin {w : zC} {Z : zZ} {Q : zR → zZ → Prop} {ad : Nat → Nat} {S : ST} (hR : Rep w ad S Z) {adK adV : Nat → Nat} (hK : zLit w adK adV) (hT : zThr w) {x y z : Int32} (hs : ciSh S) (hL : ciLive S) (hb : 1 ≤ Z.2.2.1 ∧ 6 ≤ Z.2.2.2) (hb2 : 1 ≤ Z.2.2.1 ∧ 5 ≤ Z.2.2.2) (hI : ¬ (inr x (sN S 0) ∧ (y = -1 ∨ inr y (sN S 1))) → Q (.inr "java/lang/IndexOutOfBoundsException") (zpay Z 1 6)) (hA : inr x (sN S 0) → (y = -1 ∨ inr y (sN S 1)) → ¬ inr z 10 → Q (.inr "java/lang/IllegalArgumentException") (zpay Z 1 6)) (hN : ∀ k d, k < sN S 0 → d < 10 → x = nI k → z = nI d → (y = -1 ∨ inr y (sN S 1)) → if sN S 2 < 160 then (∀ Z' a, Rep w (pinA ad (sN S 2) a) (pinS (pinB (cntO (cntP S k d 1) (netO S y) d 1) k d (sI S (100 + 3 * k) 0) (netO S y)) (insP (ordP (pinB (cntO (cntP S k d 1) (netO S y) d 1) k d (sI S (100 + 3 * k) 0) (netO S y))) ((sI S (100 + 3 * k) 0 * 3 + 2) * 160 + nI (sN S 2)) (sN (pinB (cntO (cntP S k d 1) (netO S y) d 1) k d (sI S (100 + 3 * k) 0) (netO S y)) 0 + sN (pinB (cntO (cntP S k d 1) (netO S y) d 1) k d (sI S (100 + 3 * k) 0) (netO S y)) 1 + sN (pinB (cntO (cntP S k d 1) (netO S y) d 1) k d (sI S (100 + 3 * k) 0) (netO S y)) 2))) Z' → Z'.2.2.1 = Z.2.2.1 - 1 → Z'.2.2.2 = Z.2.2.2 - 5 → Q (.inl (some (.int (nI (sN S 2))))) Z') else Q (.inl (some (.int (-1)))) Z) : Cz w (6, 140) y_K_pin (Cond.code y_K_pin c_K_pin 5 r_K_pin :: wz) [.ref (ad 0), .int x, .int y, .int z] Z Q := by
  refine Cz.of (by decide +kernel) (by simp [lg_sl, Value.category]) ?_
  show G _ _ _ _ _ _ _ _ [(0, _), (1, _), (2, _), (3, _)] _ _
  have n0 := hR.1.1
  have n1 := hR.1.2.1
  have n2 := hR.1.2.2.1
  have h0 : zhs Z (ad 0) (.inr (0, [.ref (ad 1), .ref (ad 3), .ref (ad 8), .ref (ad 9), .ref (ad 4), .ref (ad 5), .ref (ad 10), .ref (ad (5 + sN S 8)), .ref (ad (8 - sN S 8)), .int (nI (sN S 3)), .int (sI S 0 11)])) := hR.k 0 (by decide)
  have h1 : zhs Z (ad 1) (.inr (1, [.ref (ad 11), .ref (ad 12), .ref (ad 13), .ref (ad 14), .ref (ad 15), .int (nI (sN S 0)), .int (nI (sN S 1)), .int (nI (sN S 2)), .int (nI (sN S 7))])) := hR.k 1 (by decide)
  refine g_aload_nq d_K_pin_0 rfl 0 rfl ?_
  refine g_get d_K_pin_1 f_K_12_K (by assumption) (by first | rfl | assumption) ?_
  refine g_iload_n d_K_pin_4 rfl 1 rfl ?_
  refine g_callV d_K_pin_5 k_Sc_partAt l_K_96 i_Sc_partAt rfl q_Sc_Sc_partAt_Sc h1 (by rfl) (by rfl) (Nat.le_of_ble_eq_true rfl) (by decide) (C_Sc_partAt hR ⟨_, rfl, ?_⟩)
  refine g_astoreq d_K_pin_8 (by decide) rfl ?_
  show G _ _ _ _ _ _ _ _ [(4, _), (0, _), (1, _), (2, _), (3, _)] _ _
  refine g_aloadq d_K_pin_10 0 rfl ?_
  refine g_ifnullq (tgt := 23) d_K_pin_12 (by decide) (fun h12 => ?_) (fun q12 h12 => ?_)
  · have hF := hI (fun z => atP_none h12 z.1)
    exact g_thr hK hT zl_4 (by decide +kernel) oa_I oc_I oi_I d_K_pin_23 d_K_pin_26 d_K_pin_27 d_K_pin_29 d_K_pin_32 (by decide +kernel) (by omega) (by omega) (by decide) hF
  · rw [h12]
    obtain ⟨k, hk, rfl, rfl⟩ := atP_some h12 n0
    refine g_aload_nq d_K_pin_15 rfl 1 rfl ?_
    refine g_iload_n d_K_pin_16 rfl 3 rfl ?_
    refine g_callV d_K_pin_17 k_K_isNetOrNone l_K_100 i_K_isNetOrNone rfl p_K_isNetOrNone h0 (by rfl) (by rfl) (Nat.le_of_ble_eq_true rfl) (by decide) (C_K_isNetOrNone hR ⟨_, rfl, ?_⟩)
    first | refine g_if_neB (tgt := 33) d_K_pin_20 (by decide) (fun h20 => ?_) (fun h20 => ?_) | refine g_if_ne (tgt := 33) d_K_pin_20 (by decide) (fun h20 => ?_) (fun h20 => ?_)
    · refine g_iload_n d_K_pin_33 rfl 4 rfl ?_
      refine g_bipush (v := 10) d_K_pin_34 rfl ?_
      refine g_callS d_K_pin_36 k_K_isBelow l_K_64 s_K_isBelow (by rfl) (by rfl) (Nat.le_of_ble_eq_true rfl) (by decide) (C_K_isBelow ⟨_, rfl, ?_⟩)
      first | refine g_if_neB (tgt := 52) d_K_pin_39 (by decide) (fun h39 => ?_) (fun h39 => ?_) | refine g_if_ne (tgt := 52) d_K_pin_39 (by decide) (fun h39 => ?_) (fun h39 => ?_)
      · obtain ⟨d, hd9, rfl⟩ := bel (n := 10) h39 (by decide)
        refine g_aload_nq d_K_pin_52 rfl 1 rfl ?_
        refine g_get d_K_pin_53 f_K_12_K (by assumption) (by first | rfl | assumption) ?_
        refine g_aloadq d_K_pin_56 0 rfl ?_
        refine g_aload_nq d_K_pin_58 rfl 1 rfl ?_
        refine g_get d_K_pin_59 f_K_12_K (by assumption) (by first | rfl | assumption) ?_
        refine g_iload_n d_K_pin_62 rfl 3 rfl ?_
        refine g_callV d_K_pin_63 k_Sc_netAt l_K_108 i_Sc_netAt rfl q_Sc_Sc_netAt_Sc h1 (by rfl) (by rfl) (Nat.le_of_ble_eq_true rfl) (by decide) (C_Sc_netAt hR ⟨_, rfl, ?_⟩)
        rw [atN_O]
        refine g_iload_n d_K_pin_66 rfl 4 rfl ?_
        refine g_callV d_K_pin_67 k_Sc_addPin l_K_112 i_Sc_addPin rfl q_Sc_Sc_addPin_Sc h1 (by rfl) (by rfl) (Nat.le_of_ble_eq_true rfl) (by decide) (C_Sc_addPin hR hk hd9 (fun n hn => netO_lt n1 hn) hs hL hb2 ?_)
        have hN := hN k d hk hd9 rfl rfl h20
        split
        · rename_i h9
          rw [if_pos h9] at hN
          exact fun Z1 a r1 b1 b2 => ⟨_, rfl, g_iret d_K_pin_70 (hN Z1 a r1 b1 b2)⟩
        · rename_i h9
          rw [if_neg h9] at hN
          exact ⟨_, rfl, g_iret d_K_pin_70 hN⟩
      · have hF := hA (inr_nI hk (by omega)) h20 h39
        exact g_thr hK hT zl_5 (by decide +kernel) oa_A oc_A oi_A d_K_pin_42 d_K_pin_45 d_K_pin_46 d_K_pin_48 d_K_pin_51 (by decide +kernel) (by omega) (by omega) (by decide) hF
    · have hF := hI (fun z => h20 z.2)
      exact g_thr hK hT zl_4 (by decide +kernel) oa_I oc_I oi_I d_K_pin_23 d_K_pin_26 d_K_pin_27 d_K_pin_29 d_K_pin_32 (by decide +kernel) (by omega) (by omega) (by decide) hF

set_option maxHeartbeats 4000000 in
set_option maxRecDepth 100000 in
theorem C_K_join {w : zC} {Z : zZ} {Q : zR → zZ → Prop} {ad : Nat → Nat} {S : ST} (hR : Rep w ad S Z) {adK adV : Nat → Nat} (hK : zLit w adK adV) (hT : zThr w) {x y : Int32} (hP : ciPin S) (hb : 1 ≤ Z.2.2.1 ∧ 6 ≤ Z.2.2.2) (hI : ¬ (inr x (sN S 2) ∧ (y = -1 ∨ inr y (sN S 1))) → Q (.inr "java/lang/IndexOutOfBoundsException") (zpay Z 1 6)) (hN : ∀ k d, k < sN S 2 → d < 10 → x = nI k → sI S (300 + k) 3 = nI d → (y = -1 ∨ inr y (sN S 1)) → if sR S (300 + k) 4 = netO S y then Q (.inl (some (.int 0))) Z else ∀ Z', Rep w ad (joinS S k d (netO S y)) Z' → Z'.2.2 = Z.2.2 → Q (.inl (some (.int 1))) Z') : Cz w (6, 140) y_K_join (Cond.code y_K_join c_K_join 4 r_K_join :: wz) [.ref (ad 0), .int x, .int y] Z Q := by
  refine Cz.of (by decide +kernel) (by simp [lg_sl, Value.category]) ?_
  show G _ _ _ _ _ _ _ _ [(0, _), (1, _), (2, _)] _ _
  have n0 := hR.1.1
  have n1 := hR.1.2.1
  have n2 := hR.1.2.2.1
  have h0 : zhs Z (ad 0) (.inr (0, [.ref (ad 1), .ref (ad 3), .ref (ad 8), .ref (ad 9), .ref (ad 4), .ref (ad 5), .ref (ad 10), .ref (ad (5 + sN S 8)), .ref (ad (8 - sN S 8)), .int (nI (sN S 3)), .int (sI S 0 11)])) := hR.k 0 (by decide)
  have h1 : zhs Z (ad 1) (.inr (1, [.ref (ad 11), .ref (ad 12), .ref (ad 13), .ref (ad 14), .ref (ad 15), .int (nI (sN S 0)), .int (nI (sN S 1)), .int (nI (sN S 2)), .int (nI (sN S 7))])) := hR.k 1 (by decide)
  refine g_aload_nq d_K_join_0 rfl 0 rfl ?_
  refine g_get d_K_join_1 f_K_12_K (by assumption) (by first | rfl | assumption) ?_
  refine g_iload_n d_K_join_4 rfl 1 rfl ?_
  refine g_callV d_K_join_5 k_Sc_pinAt l_K_116 i_Sc_pinAt rfl q_Sc_Sc_pinAt_Sc h1 (by rfl) (by rfl) (Nat.le_of_ble_eq_true rfl) (by decide) (C_Sc_pinAt hR ⟨_, rfl, ?_⟩)
  refine g_astore_nq d_K_join_8 rfl (by decide) rfl ?_
  show G _ _ _ _ _ _ _ _ [(3, _), (0, _), (1, _), (2, _)] _ _
  refine g_aload_nq d_K_join_9 rfl 0 rfl ?_
  refine g_ifnullq (tgt := 21) d_K_join_10 (by decide) (fun h10 => ?_) (fun q10 h10 => ?_)
  · have hF := hI (fun z => atQ_none h10 z.1)
    exact g_thr hK hT zl_6 (by decide +kernel) oa_I oc_I oi_I d_K_join_21 d_K_join_24 d_K_join_25 d_K_join_27 d_K_join_30 (by decide +kernel) (by omega) (by omega) (by decide) hF
  · rw [h10]
    obtain ⟨k, hk, rfl, rfl⟩ := atQ_some h10 n2
    refine g_aload_nq d_K_join_13 rfl 1 rfl ?_
    refine g_iload_n d_K_join_14 rfl 3 rfl ?_
    refine g_callV d_K_join_15 k_K_isNetOrNone l_K_100 i_K_isNetOrNone rfl p_K_isNetOrNone h0 (by rfl) (by rfl) (Nat.le_of_ble_eq_true rfl) (by decide) (C_K_isNetOrNone hR ⟨_, rfl, ?_⟩)
    first | refine g_if_neB (tgt := 31) d_K_join_18 (by decide) (fun h18 => ?_) (fun h18 => ?_) | refine g_if_ne (tgt := 31) d_K_join_18 (by decide) (fun h18 => ?_) (fun h18 => ?_)
    · refine g_aload_nq d_K_join_31 rfl 0 rfl ?_
      refine g_aload_nq d_K_join_32 rfl 1 rfl ?_
      refine g_get d_K_join_33 f_K_12_K (by assumption) (by first | rfl | assumption) ?_
      refine g_iload_n d_K_join_36 rfl 3 rfl ?_
      refine g_callV d_K_join_37 k_Sc_netAt l_K_108 i_Sc_netAt rfl q_Sc_Sc_netAt_Sc h1 (by rfl) (by rfl) (Nat.le_of_ble_eq_true rfl) (by decide) (C_Sc_netAt hR ⟨_, rfl, ?_⟩)
      rw [atN_O]
      obtain ⟨⟨d, hd9, hd8⟩, hp1, hp2⟩ := hP k hk
      have hz := hR.pin hk
      unfold pPin at hz
      have hz9 := hz
      rw [hd8] at hz
      have hN := hN k d hk hd9 rfl hd8 h18
      refine g_callV d_K_join_40 k_Pi_moveTo l_K_122 i_Pi_moveTo rfl q_Pi_Pi_moveTo_Pi hz (by rfl) (by rfl) (Nat.le_of_ble_eq_true rfl) (by decide) (C_Pi_moveTo hR (a := ad (300 + k)) (d := d) hd9 (fun n hn => ⟨hR.inj (by simp only [liveS]; omega) (by simp only [liveS]; omega) (by omega), hR.inj (by simp only [liveS]; omega) (by simp only [liveS]; omega) (by omega)⟩) (old := sR S (300 + k) 4) (new := netO S y) hp2 (fun n hn => netO_lt n1 hn) hz ?_)
      split
      · rename_i h9
        rw [if_pos h9] at hN
        exact ⟨_, rfl, g_zret d_K_join_43 rfl hN⟩
      · rename_i h9
        rw [if_neg h9] at hN
        intro Z1 r1 z1 b1
        refine ⟨_, rfl, g_zret d_K_join_43 rfl (hN _ ?_ b1)⟩
        have c1 : ∀ n, netO S y = some n → 300 + k ≠ 220 + 2 * n ∧ 300 + k ≠ 221 + 2 * n := fun n hn => by have := netO_lt n1 hn; omega
        have c2 : ∀ n, sR S (300 + k) 4 = some n → 300 + k ≠ 220 + 2 * n ∧ 300 + k ≠ 221 + 2 * n := fun n hn => by have := hp2 n hn; omega
        refine r1.putR (i := 300 + k) (by simp only [liveS, cntO_N]; omega) ?_
        rw [cell_pin (by omega)]
        have e1 : sI (wR (cntO (cntO S (sR S (300 + k) 4) d (-1)) (netO S y) d 1) (300 + k) (va_up (sR S (300 + k)) 4 (netO S y))) (300 + k) = sI S (300 + k) := (cntO_I c1).trans (cntO_I c2)
        have e2 : sR (wR (cntO (cntO S (sR S (300 + k) 4) d (-1)) (netO S y) d 1) (300 + k) (va_up (sR S (300 + k)) 4 (netO S y))) (300 + k) 4 = netO S y := (congrFun (va_up_self _ (300 + k) _) 4).trans (va_up_self _ _ _)
        have e3 : sN (wR (cntO (cntO S (sR S (300 + k) 4) d (-1)) (netO S y) d 1) (300 + k) (va_up (sR S (300 + k)) 4 (netO S y))) = sN S := by show sN (cntO (cntO S (sR S (300 + k) 4) d (-1)) (netO S y) d 1) = _; rw [cntO_N, cntO_N]
        unfold pPin
        rw [e1, e2, e3, hd8]
    · have hF := hI (fun z => h18 z.2)
      exact g_thr hK hT zl_6 (by decide +kernel) oa_I oc_I oi_I d_K_join_21 d_K_join_24 d_K_join_25 d_K_join_27 d_K_join_30 (by decide +kernel) (by omega) (by omega) (by decide) hF

set_option maxHeartbeats 4000000 in
set_option maxRecDepth 100000 in
theorem C_K_field {w : zC} {Z : zZ} {Q : zR → zZ → Prop} {ad : Nat → Nat} {S : ST} (hR : Rep w ad S Z) {adK adV : Nat → Nat} (hK : zLit w adK adV) (hT : zThr w) {x y : Int32} {v : Int64} (hb : 1 ≤ Z.2.2.1 ∧ 6 ≤ Z.2.2.2) (hI : ¬ (inr x (sN S 0) ∧ inr y 8) → Q (.inr "java/lang/IndexOutOfBoundsException") (zpay Z 1 6)) (hN : ∀ k j, k < sN S 0 → j < 8 → x = nI k → y = nI j → ∀ Z', Rep w ad (wJ S (102 + 3 * k) (vp_updL (sJ S (102 + 3 * k)) j v)) Z' → Z'.2.2 = Z.2.2 → Q (.inl (some (.int (zb (¬ sJ S (102 + 3 * k) j = v))))) Z') : Cz w (6, 140) y_K_field (Cond.code y_K_field c_K_field 6 r_K_field :: wz) [.ref (ad 0), .int x, .int y, .long v] Z Q := by
  refine Cz.of (by decide +kernel) (by simp [lg_sl, Value.category]) ?_
  show G _ _ _ _ _ _ _ _ [(0, _), (1, _), (2, _), (3, _)] _ _
  have n0 := hR.1.1
  have n1 := hR.1.2.1
  have n2 := hR.1.2.2.1
  have h0 : zhs Z (ad 0) (.inr (0, [.ref (ad 1), .ref (ad 3), .ref (ad 8), .ref (ad 9), .ref (ad 4), .ref (ad 5), .ref (ad 10), .ref (ad (5 + sN S 8)), .ref (ad (8 - sN S 8)), .int (nI (sN S 3)), .int (sI S 0 11)])) := hR.k 0 (by decide)
  have h1 : zhs Z (ad 1) (.inr (1, [.ref (ad 11), .ref (ad 12), .ref (ad 13), .ref (ad 14), .ref (ad 15), .int (nI (sN S 0)), .int (nI (sN S 1)), .int (nI (sN S 2)), .int (nI (sN S 7))])) := hR.k 1 (by decide)
  refine g_aload_nq d_K_field_0 rfl 0 rfl ?_
  refine g_get d_K_field_1 f_K_12_K (by assumption) (by first | rfl | assumption) ?_
  refine g_iload_n d_K_field_4 rfl 1 rfl ?_
  refine g_callV d_K_field_5 k_Sc_partAt l_K_96 i_Sc_partAt rfl q_Sc_Sc_partAt_Sc h1 (by rfl) (by rfl) (Nat.le_of_ble_eq_true rfl) (by decide) (C_Sc_partAt hR ⟨_, rfl, ?_⟩)
  refine g_astoreq d_K_field_8 (by decide) rfl ?_
  show G _ _ _ _ _ _ _ _ [(5, _), (0, _), (1, _), (2, _), (3, _)] _ _
  refine g_aloadq d_K_field_10 0 rfl ?_
  refine g_ifnullq (tgt := 24) d_K_field_12 (by decide) (fun h12 => ?_) (fun q12 h12 => ?_)
  · have hF := hI (fun z => atP_none h12 z.1)
    exact g_thr hK hT zl_7 (by decide +kernel) oa_I oc_I oi_I d_K_field_24 d_K_field_27 d_K_field_28 d_K_field_30 d_K_field_33 (by decide +kernel) (by omega) (by omega) (by decide) hF
  · rw [h12]
    obtain ⟨k, hk, rfl, rfl⟩ := atP_some h12 n0
    refine g_iload_n d_K_field_15 rfl 3 rfl ?_
    refine g_bipush (v := 8) d_K_field_16 rfl ?_
    refine g_callS d_K_field_18 k_K_isBelow l_K_64 s_K_isBelow (by rfl) (by rfl) (Nat.le_of_ble_eq_true rfl) (by decide) (C_K_isBelow ⟨_, rfl, ?_⟩)
    first | refine g_if_neB (tgt := 34) d_K_field_21 (by decide) (fun h21 => ?_) (fun h21 => ?_) | refine g_if_ne (tgt := 34) d_K_field_21 (by decide) (fun h21 => ?_) (fun h21 => ?_)
    · obtain ⟨j, hj, rfl⟩ := bel (n := 8) h21 (by decide)
      refine g_aloadq d_K_field_34 0 rfl ?_
      refine g_iload_n d_K_field_36 rfl 3 rfl ?_
      refine g_lload_n d_K_field_37 rfl 4 rfl ?_
      obtain ⟨p0, p1, p2⟩ := hR.part hk
      refine g_callV d_K_field_38 k_Pa_setField l_K_130 i_Pa_setField rfl q_Pa_Pa_setField_Pa p0 (by rfl) (by rfl) (Nat.le_of_ble_eq_true rfl) (by decide) (C_Pa_setField p0 p2 hj ⟨_, rfl, ?_⟩)
      have hR1 := hR.putJ (i := 102 + 3 * k) (f := vp_updL (sJ S (102 + 3 * k)) j v) (e := xl w 8 (vp_updL (sJ S (102 + 3 * k)) j v)) (by simp only [liveS]; omega) (by rw [cell_partF (by omega)]; exact congrArg (xl w 8) (va_up_self S.2.1 (102 + 3 * k) _))
      refine g_zret d_K_field_41 ?_ ?_
      · first | rfl | exact zb_nar _ | exact zb_narc (by assumption)
      · exact hN k j hk hj rfl rfl _ hR1 rfl
    · have hF := hI (fun z => h21 z.2)
      exact g_thr hK hT zl_7 (by decide +kernel) oa_I oc_I oi_I d_K_field_24 d_K_field_27 d_K_field_28 d_K_field_30 d_K_field_33 (by decide +kernel) (by omega) (by omega) (by decide) hF

set_option maxHeartbeats 4000000 in
set_option maxRecDepth 100000 in
theorem C_K_end {w : zC} {Z : zZ} {Q : zR → zZ → Prop} {ad : Nat → Nat} {S : ST} (hR : Rep w ad S Z) {adK adV : Nat → Nat} (hK : zLit w adK adV) (hT : zThr w) {x : Int32} {y z : Int64} (hL : ciLive S) (h100 : sN S 7 ≤ 100) (hb : 1 ≤ Z.2.2.1 ∧ 6 ≤ Z.2.2.2) (hI : ¬ inr x (sN S 1) → Q (.inr "java/lang/IndexOutOfBoundsException") (zpay Z 1 6)) (hN : ∀ k, k < sN S 1 → x = nI k → if sN S 7 < 100 then (∀ Z', Rep w ad (wN (wI S (220 + 2 * k) (va_up (sI S (220 + 2 * k)) 5 (endF S k y z))) 7 (sN S 7 + 1)) Z' → Z'.2.2 = Z.2.2 → Q (.inl (some (.int 1))) Z') else Q (.inl (some (.int 0))) Z) : Cz w (6, 140) y_K_end (Cond.code y_K_end c_K_end 7 r_K_end :: wz) [.ref (ad 0), .int x, .long y, .long z] Z Q := by
  refine Cz.of (by decide +kernel) (by simp [lg_sl, Value.category]) ?_
  show G _ _ _ _ _ _ _ _ [(0, _), (1, _), (2, _), (4, _)] _ _
  have n0 := hR.1.1
  have n1 := hR.1.2.1
  have n2 := hR.1.2.2.1
  have h0 : zhs Z (ad 0) (.inr (0, [.ref (ad 1), .ref (ad 3), .ref (ad 8), .ref (ad 9), .ref (ad 4), .ref (ad 5), .ref (ad 10), .ref (ad (5 + sN S 8)), .ref (ad (8 - sN S 8)), .int (nI (sN S 3)), .int (sI S 0 11)])) := hR.k 0 (by decide)
  have h1 : zhs Z (ad 1) (.inr (1, [.ref (ad 11), .ref (ad 12), .ref (ad 13), .ref (ad 14), .ref (ad 15), .int (nI (sN S 0)), .int (nI (sN S 1)), .int (nI (sN S 2)), .int (nI (sN S 7))])) := hR.k 1 (by decide)
  refine g_aload_nq d_K_end_0 rfl 0 rfl ?_
  refine g_get d_K_end_1 f_K_12_K (by assumption) (by first | rfl | assumption) ?_
  refine g_iload_n d_K_end_4 rfl 1 rfl ?_
  refine g_callV d_K_end_5 k_Sc_netAt l_K_108 i_Sc_netAt rfl q_Sc_Sc_netAt_Sc h1 (by rfl) (by rfl) (Nat.le_of_ble_eq_true rfl) (by decide) (C_Sc_netAt hR ⟨_, rfl, ?_⟩)
  refine g_astoreq d_K_end_8 (by decide) rfl ?_
  show G _ _ _ _ _ _ _ _ [(6, _), (0, _), (1, _), (2, _), (4, _)] _ _
  refine g_aloadq d_K_end_10 0 rfl ?_
  refine g_ifnonnullq (tgt := 25) d_K_end_12 (by decide) (fun q12 h12 => ?_) (fun h12 => ?_)
  · rw [h12]
    obtain ⟨k, hk, rfl, rfl⟩ := atN_some h12 n1
    refine g_aload_nq d_K_end_25 rfl 1 rfl ?_
    refine g_get d_K_end_26 f_K_12_K (by assumption) (by first | rfl | assumption) ?_
    refine g_aloadq d_K_end_29 0 rfl ?_
    refine g_lload_n d_K_end_31 rfl 3 rfl ?_
    refine g_lload d_K_end_32 4 rfl ?_
    refine g_callV d_K_end_34 k_Sc_addEnd l_K_138 i_Sc_addEnd rfl q_Sc_Sc_addEnd_Sc h1 (by rfl) (by rfl) (Nat.le_of_ble_eq_true rfl) (by decide) (C_Sc_addEnd hR hk hL h100 ?_)
    have hN := hN k hk rfl
    split
    · rename_i h9
      rw [if_pos h9] at hN
      exact fun Z1 r1 b1 => ⟨_, rfl, g_zret d_K_end_37 rfl (hN Z1 r1 b1)⟩
    · rename_i h9
      rw [if_neg h9] at hN
      exact ⟨_, rfl, g_zret d_K_end_37 rfl hN⟩
  · have hF := hI (atN_none h12)
    exact g_thr hK hT zl_8 (by decide +kernel) oa_I oc_I oi_I d_K_end_15 d_K_end_18 d_K_end_19 d_K_end_21 d_K_end_24 (by decide +kernel) (by omega) (by omega) (by decide) hF

set_option maxHeartbeats 4000000 in
set_option maxRecDepth 100000 in
theorem C_K_off {w : zC} {Z : zZ} {Q : zR → zZ → Prop} {ad : Nat → Nat} {S : ST} (hR : Rep w ad S Z) {adK adV : Nat → Nat} (hK : zLit w adK adV) (hT : zThr w) {x : Int32} {c : Prop} [Decidable c] (hb : 1 ≤ Z.2.2.1 ∧ 6 ≤ Z.2.2.2) (hI : ¬ inr x (7 + sN S 3) → Q (.inr "java/lang/IndexOutOfBoundsException") (zpay Z 1 6)) (hN : ∀ k, k < 7 + sN S 3 → x = nI k → ∀ Z', Rep w ad (wI S 9 (upd (sI S 9) k (zb c))) Z' → Z'.2.2 = Z.2.2 → Q (.inl (some (.int (zb (¬ sI S 9 k = zb c))))) Z') : Cz w (6, 140) y_K_off (Cond.code y_K_off c_K_off 4 r_K_off :: wz) [.ref (ad 0), .int x, .int (zb c)] Z Q := by
  refine Cz.of (by decide +kernel) (by simp [lg_sl, Value.category]) ?_
  show G _ _ _ _ _ _ _ _ [(0, _), (1, _), (2, _)] _ _
  have h0 : zhs Z (ad 0) (.inr (0, [.ref (ad 1), .ref (ad 3), .ref (ad 8), .ref (ad 9), .ref (ad 4), .ref (ad 5), .ref (ad 10), .ref (ad (5 + sN S 8)), .ref (ad (8 - sN S 8)), .int (nI (sN S 3)), .int (sI S 0 11)])) := hR.k 0 (by decide)
  have h9 : zhs Z (ad 9) (xz w 27 (sI S 9)) := hR.k 9 (by decide)
  refine g_aload_nq d_K_off_0 rfl 0 rfl ?_
  refine g_iload_n d_K_off_1 rfl 1 rfl ?_
  refine g_callV d_K_off_2 k_K_isRule l_K_164 i_K_isRule rfl p_K_isRule h0 (by rfl) (by rfl) (Nat.le_of_ble_eq_true rfl) (by decide) (C_K_isRule hR ⟨_, rfl, ?_⟩)
  first | refine g_if_neB (tgt := 18) d_K_off_5 (by decide) (fun h5 => ?_) (fun h5 => ?_) | refine g_if_ne (tgt := 18) d_K_off_5 (by decide) (fun h5 => ?_) (fun h5 => ?_)
  · have n3 := hR.1.2.2.2.1
    obtain ⟨k, hk, rfl⟩ := bel (n := 7 + sN S 3) h5 (by omega)
    refine g_aload_nq d_K_off_18 rfl 0 rfl ?_
    refine g_get d_K_off_19 f_K_29_K (by assumption) (by first | rfl | assumption) ?_
    refine g_iload_n d_K_off_22 rfl 1 rfl ?_
    refine g_zald d_K_off_23 (by assumption) (vp_in_nI (n := k) (N := 27) (by omega) (by decide)) ?_
    rw [nI_clamp (by omega)]
    refine g_iload_n d_K_off_24 rfl 2 rfl ?_
    refine g_icmp_eq (tgt := 32) d_K_off_25 (by decide) (fun h25 => ?_) (fun h25 => ?_)
    · have hF := hN k hk rfl
      rw [show zb (¬ sI S 9 k = zb c) = 0 from zb_f (fun z => z h25)] at hF
      refine g_iconst (v := 0) d_K_off_32 rfl ?_
      refine g_istore_n d_K_off_33 rfl (by decide) rfl ?_
      show G _ _ _ _ _ _ _ _ [(3, _), (0, _), (1, _), (2, _)] _ _
      refine g_aload_nq d_K_off_34 rfl 1 rfl ?_
      refine g_get d_K_off_35 f_K_29_K (by assumption) (by first | rfl | assumption) ?_
      refine g_iload_n d_K_off_38 rfl 2 rfl ?_
      refine g_iload_n d_K_off_39 rfl 3 rfl ?_
      refine g_zast d_K_off_40 (by assumption) (vp_in_nI (n := k) (N := 27) (by omega) (by decide)) ?_
      rw [nI_clamp (by omega), zb_vnar]
      have hR1 := hR.putI (i := 9) (f := upd (sI S 9) k (zb c)) (e := xz w 27 (upd (sI S 9) k (zb c))) (Or.inl (by decide)) (by rw [cell_K (by decide)]; exact congrArg (xz w 27) (va_up_self S.1 9 _))
      refine g_iload_n d_K_off_41 rfl 0 rfl ?_
      refine g_zret d_K_off_42 ?_ ?_
      · first | rfl | exact zb_nar _ | exact zb_narc (by assumption)
      · exact hF _ hR1 rfl
    · have hF := hN k hk rfl
      rw [show zb (¬ sI S 9 k = zb c) = 1 from zb_t h25] at hF
      refine g_iconst (v := 1) d_K_off_28 rfl ?_
      refine g_goto (tgt := 33) d_K_off_29 (by decide) ?_
      refine g_istore_n d_K_off_33 rfl (by decide) rfl ?_
      show G _ _ _ _ _ _ _ _ [(3, _), (0, _), (1, _), (2, _)] _ _
      refine g_aload_nq d_K_off_34 rfl 1 rfl ?_
      refine g_get d_K_off_35 f_K_29_K (by assumption) (by first | rfl | assumption) ?_
      refine g_iload_n d_K_off_38 rfl 2 rfl ?_
      refine g_iload_n d_K_off_39 rfl 3 rfl ?_
      refine g_zast d_K_off_40 (by assumption) (vp_in_nI (n := k) (N := 27) (by omega) (by decide)) ?_
      rw [nI_clamp (by omega), zb_vnar]
      have hR1 := hR.putI (i := 9) (f := upd (sI S 9) k (zb c)) (e := xz w 27 (upd (sI S 9) k (zb c))) (Or.inl (by decide)) (by rw [cell_K (by decide)]; exact congrArg (xz w 27) (va_up_self S.1 9 _))
      refine g_iload_n d_K_off_41 rfl 0 rfl ?_
      refine g_zret d_K_off_42 ?_ ?_
      · first | rfl | exact zb_nar _ | exact zb_narc (by assumption)
      · exact hF _ hR1 rfl
  · have hF := hI h5
    exact g_thr hK hT zl_27 (by decide +kernel) oa_I oc_I oi_I d_K_off_8 d_K_off_11 d_K_off_12 d_K_off_14 d_K_off_17 (by decide +kernel) (by omega) (by omega) (by decide) hF
