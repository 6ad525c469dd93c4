/-! Schematic: what it answers -/
theorem tn_lt {x : Int32} {n : Nat} (h0 : ¬ x < 0) (h : ¬ nI n ≤ x) (hn : n < 2 ^ 31) : x.toNatClampNeg < n := Nat.not_le.mp fun q => vin_of h0 h hn (Or.inr q)
/-- a thing's number out of its place -/
theorem num_of {s t k : Nat} (hs : s < 16) (ht : t < 3) (hk : k < 160) : (nI s * 3 + nI t) * 160 + nI k = nI ((3 * s + t) * 160 + k) := by
  rw [show (3 : Int32) = nI 3 from rfl, show (160 : Int32) = nI 160 from rfl, pk_mul, nI_add, pk_mul, nI_add]
  congr 1
  omega
theorem num_rem {s t k : Nat} (hs : s < 16) (ht : t < 3) (hk : k < 160) : ((nI s * 3 + nI t) * 160 + nI k) - ((nI s * 3 + nI t) * 160 + nI k) / 160 * 160 = nI k := by
  rw [num_of hs ht hk, show (160 : Int32) = nI 160 from rfl, pk_rem (by omega) (by decide) (by decide)]
  congr 1
  omega
def inr (x : Int32) (n : Nat) : Prop := ¬ x < 0 ∧ ¬ nI n ≤ x
theorem inr_nI {k n : Nat} (h : k < n) (hn : n < 2 ^ 31) : inr (nI k) n := ⟨nI_pos (by omega), nI_ge h hn⟩
def atP (ad : Nat → Nat) (S : ST) (x : Int32) : Option Nat := if ¬ x < 0 ∧ ¬ nI (sN S 0) ≤ x then some (ad (100 + 3 * x.toNatClampNeg)) else none
def atN (ad : Nat → Nat) (S : ST) (x : Int32) : Option Nat := if ¬ x < 0 ∧ ¬ nI (sN S 1) ≤ x then some (ad (220 + 2 * x.toNatClampNeg)) else none
def atQ (ad : Nat → Nat) (S : ST) (x : Int32) : Option Nat := if ¬ x < 0 ∧ ¬ nI (sN S 2) ≤ x then some (ad (300 + x.toNatClampNeg)) else none
def atO (ad : Nat → Nat) (S : ST) (x : Int32) : Option Nat := if ¬ x < 0 ∧ ¬ nI (sN S 0 + sN S 1 + sN S 2) ≤ x then some (ad (sN S (1000 + x.toNatClampNeg))) else none
theorem sw_0_2 (x : Int32) : (x.toInt < 0 ∨ 2 < x.toInt) ∨ x = 0 ∨ x = 1 ∨ x = 2 := by
  by_cases h0 : x = 0
  · simp [h0]
  have n0 : ¬ x.toInt = 0 := fun q => h0 (Int32.toInt_inj.mp (q.trans (by decide)))
  by_cases h1 : x = 1
  · simp [h1]
  have n1 : ¬ x.toInt = 1 := fun q => h1 (Int32.toInt_inj.mp (q.trans (by decide)))
  by_cases h2 : x = 2
  · simp [h2]
  have n2 : ¬ x.toInt = 2 := fun q => h2 (Int32.toInt_inj.mp (q.trans (by decide)))
  exact Or.inl (by omega)
set_option maxHeartbeats 4000000 in
set_option maxRecDepth 100000 in
theorem C_Sc_partAt {w : zC} {Z : zZ} {Q : zR → zZ → Prop} {ad : Nat → Nat} {S : ST} (hR : Rep w ad S Z) {x : Int32} (hQ : Q (.inl (some (va_rf (atP ad S x)))) Z) : Cz w (1, 21) y_Sc_partAt (Cond.code y_Sc_partAt c_Sc_partAt 2 r_Sc_partAt :: wz) [.ref (ad 1), .int x] Z Q := by
  refine Cz.of (by decide +kernel) (by simp [lg_sl, Value.category]) ?_
  show G _ _ _ _ _ _ _ _ [(0, _), (1, _)] _ _
  have h1 : zhs Z (ad 1) (.inr (1, [.ref (ad 11), .ref (ad 12), .ref (ad 13), .ref (ad 14), .ref (ad 15), .int (nI (sN S 0)), .int (nI (sN S 1)), .int (nI (sN S 2)), .int (nI (sN S 7))])) := hR.k 1 (by decide)
  have h2 : zhs Z (ad 12) (xr w 4 40 (fun k => if k < sN S 0 then some (ad (100 + 3 * k)) else sR S 12 k)) := hR.k 12 (by decide)
  have n0 := hR.1.1
  have n1 := hR.1.2.1
  have n2 := hR.1.2.2.1
  refine g_iload_n d_Sc_partAt_0 rfl 1 rfl ?_
  refine g_aload_nq d_Sc_partAt_1 rfl 0 rfl ?_
  refine g_get d_Sc_partAt_2 f_Sc_39_Sc (by assumption) (by first | rfl | assumption) ?_
  refine g_callSN d_Sc_partAt_5 k_K_isBelow l_Sc_58 s_K_isBelow (by rfl) (by rfl) (Nat.le_of_ble_eq_true rfl) (by decide) (C_K_isBelow ⟨_, rfl, ?_⟩)
  first | refine g_if_eqB (tgt := 29) d_Sc_partAt_8 (by decide) (fun h8 => ?_) (fun h8 => ?_) | refine g_if_eq (tgt := 29) d_Sc_partAt_8 (by decide) (fun h8 => ?_) (fun h8 => ?_)
  · unfold atP at hQ
    rw [if_neg h8] at hQ
    refine g_null d_Sc_partAt_29 ?_
    refine g_aret d_Sc_partAt_30 ?_
    exact hQ
  · unfold atP at hQ
    rw [if_pos h8] at hQ
    refine g_iload_n d_Sc_partAt_11 rfl 1 rfl ?_
    refine g_aload_nq d_Sc_partAt_12 rfl 0 rfl ?_
    refine g_get d_Sc_partAt_13 f_Sc_17_Sc (by assumption) (by first | rfl | assumption) ?_
    refine g_alen d_Sc_partAt_16 4 (by assumption) rfl ?_
    refine g_icmp_ge (tgt := 29) d_Sc_partAt_17 (by decide) (fun h17 => ?_) (fun h17 => ?_)
    · exact absurd h17 (vin_le h8.2 (by omega) (by decide))
    · refine g_aload_nq d_Sc_partAt_20 rfl 0 rfl ?_
      refine g_get d_Sc_partAt_21 f_Sc_17_Sc (by assumption) (by first | rfl | assumption) ?_
      refine g_iload_n d_Sc_partAt_24 rfl 1 rfl ?_
      refine g_aald d_Sc_partAt_25 4 (by assumption) rfl (vin_of h8.1 h17 (by decide)) ?_
      rw [if_pos (tn_lt h8.1 h8.2 (by omega))]
      refine g_goto (tgt := 30) d_Sc_partAt_26 (by decide) ?_
      refine g_aret d_Sc_partAt_30 ?_
      exact hQ

set_option maxHeartbeats 4000000 in
set_option maxRecDepth 100000 in
theorem C_Sc_netAt {w : zC} {Z : zZ} {Q : zR → zZ → Prop} {ad : Nat → Nat} {S : ST} (hR : Rep w ad S Z) {x : Int32} (hQ : Q (.inl (some (va_rf (atN ad S x)))) Z) : Cz w (1, 21) y_Sc_netAt (Cond.code y_Sc_netAt c_Sc_netAt 2 r_Sc_netAt :: wz) [.ref (ad 1), .int x] Z Q := by
  refine Cz.of (by decide +kernel) (by simp [lg_sl, Value.category]) ?_
  show G _ _ _ _ _ _ _ _ [(0, _), (1, _)] _ _
  have h1 : zhs Z (ad 1) (.inr (1, [.ref (ad 11), .ref (ad 12), .ref (ad 13), .ref (ad 14), .ref (ad 15), .int (nI (sN S 0)), .int (nI (sN S 1)), .int (nI (sN S 2)), .int (nI (sN S 7))])) := hR.k 1 (by decide)
  have h2 : zhs Z (ad 13) (xr w 5 40 (fun k => if k < sN S 1 then some (ad (220 + 2 * k)) else sR S 13 k)) := hR.k 13 (by decide)
  have n0 := hR.1.1
  have n1 := hR.1.2.1
  have n2 := hR.1.2.2.1
  refine g_iload_n d_Sc_netAt_0 rfl 1 rfl ?_
  refine g_aload_nq d_Sc_netAt_1 rfl 0 rfl ?_
  refine g_get d_Sc_netAt_2 f_Sc_43_Sc (by assumption) (by first | rfl | assumption) ?_
  refine g_callSN d_Sc_netAt_5 k_K_isBelow l_Sc_58 s_K_isBelow (by rfl) (by rfl) (Nat.le_of_ble_eq_true rfl) (by decide) (C_K_isBelow ⟨_, rfl, ?_⟩)
  first | refine g_if_eqB (tgt := 29) d_Sc_netAt_8 (by decide) (fun h8 => ?_) (fun h8 => ?_) | refine g_if_eq (tgt := 29) d_Sc_netAt_8 (by decide) (fun h8 => ?_) (fun h8 => ?_)
  · unfold atN at hQ
    rw [if_neg h8] at hQ
    refine g_null d_Sc_netAt_29 ?_
    refine g_aret d_Sc_netAt_30 ?_
    exact hQ
  · unfold atN at hQ
    rw [if_pos h8] at hQ
    refine g_iload_n d_Sc_netAt_11 rfl 1 rfl ?_
    refine g_aload_nq d_Sc_netAt_12 rfl 0 rfl ?_
    refine g_get d_Sc_netAt_13 f_Sc_23_Sc (by assumption) (by first | rfl | assumption) ?_
    refine g_alen d_Sc_netAt_16 5 (by assumption) rfl ?_
    refine g_icmp_ge (tgt := 29) d_Sc_netAt_17 (by decide) (fun h17 => ?_) (fun h17 => ?_)
    · exact absurd h17 (vin_le h8.2 (by omega) (by decide))
    · refine g_aload_nq d_Sc_netAt_20 rfl 0 rfl ?_
      refine g_get d_Sc_netAt_21 f_Sc_23_Sc (by assumption) (by first | rfl | assumption) ?_
      refine g_iload_n d_Sc_netAt_24 rfl 1 rfl ?_
      refine g_aald d_Sc_netAt_25 5 (by assumption) rfl (vin_of h8.1 h17 (by decide)) ?_
      rw [if_pos (tn_lt h8.1 h8.2 (by omega))]
      refine g_goto (tgt := 30) d_Sc_netAt_26 (by decide) ?_
      refine g_aret d_Sc_netAt_30 ?_
      exact hQ

set_option maxHeartbeats 4000000 in
set_option maxRecDepth 100000 in
theorem C_Sc_pinAt {w : zC} {Z : zZ} {Q : zR → zZ → Prop} {ad : Nat → Nat} {S : ST} (hR : Rep w ad S Z) {x : Int32} (hQ : Q (.inl (some (va_rf (atQ ad S x)))) Z) : Cz w (1, 21) y_Sc_pinAt (Cond.code y_Sc_pinAt c_Sc_pinAt 2 r_Sc_pinAt :: wz) [.ref (ad 1), .int x] Z Q := by
  refine Cz.of (by decide +kernel) (by simp [lg_sl, Value.category]) ?_
  show G _ _ _ _ _ _ _ _ [(0, _), (1, _)] _ _
  have h1 : zhs Z (ad 1) (.inr (1, [.ref (ad 11), .ref (ad 12), .ref (ad 13), .ref (ad 14), .ref (ad 15), .int (nI (sN S 0)), .int (nI (sN S 1)), .int (nI (sN S 2)), .int (nI (sN S 7))])) := hR.k 1 (by decide)
  have h2 : zhs Z (ad 14) (xr w 6 160 (fun k => if k < sN S 2 then some (ad (300 + k)) else sR S 14 k)) := hR.k 14 (by decide)
  have n0 := hR.1.1
  have n1 := hR.1.2.1
  have n2 := hR.1.2.2.1
  refine g_iload_n d_Sc_pinAt_0 rfl 1 rfl ?_
  refine g_aload_nq d_Sc_pinAt_1 rfl 0 rfl ?_
  refine g_get d_Sc_pinAt_2 f_Sc_46_Sc (by assumption) (by first | rfl | assumption) ?_
  refine g_callSN d_Sc_pinAt_5 k_K_isBelow l_Sc_58 s_K_isBelow (by rfl) (by rfl) (Nat.le_of_ble_eq_true rfl) (by decide) (C_K_isBelow ⟨_, rfl, ?_⟩)
  first | refine g_if_eqB (tgt := 29) d_Sc_pinAt_8 (by decide) (fun h8 => ?_) (fun h8 => ?_) | refine g_if_eq (tgt := 29) d_Sc_pinAt_8 (by decide) (fun h8 => ?_) (fun h8 => ?_)
  · unfold atQ at hQ
    rw [if_neg h8] at hQ
    refine g_null d_Sc_pinAt_29 ?_
    refine g_aret d_Sc_pinAt_30 ?_
    exact hQ
  · unfold atQ at hQ
    rw [if_pos h8] at hQ
    refine g_iload_n d_Sc_pinAt_11 rfl 1 rfl ?_
    refine g_aload_nq d_Sc_pinAt_12 rfl 0 rfl ?_
    refine g_get d_Sc_pinAt_13 f_Sc_29_Sc (by assumption) (by first | rfl | assumption) ?_
    refine g_alen d_Sc_pinAt_16 6 (by assumption) rfl ?_
    refine g_icmp_ge (tgt := 29) d_Sc_pinAt_17 (by decide) (fun h17 => ?_) (fun h17 => ?_)
    · exact absurd h17 (vin_le h8.2 (by omega) (by decide))
    · refine g_aload_nq d_Sc_pinAt_20 rfl 0 rfl ?_
      refine g_get d_Sc_pinAt_21 f_Sc_29_Sc (by assumption) (by first | rfl | assumption) ?_
      refine g_iload_n d_Sc_pinAt_24 rfl 1 rfl ?_
      refine g_aald d_Sc_pinAt_25 6 (by assumption) rfl (vin_of h8.1 h17 (by decide)) ?_
      rw [if_pos (tn_lt h8.1 h8.2 (by omega))]
      refine g_goto (tgt := 30) d_Sc_pinAt_26 (by decide) ?_
      refine g_aret d_Sc_pinAt_30 ?_
      exact hQ

set_option maxHeartbeats 4000000 in
set_option maxRecDepth 100000 in
theorem C_Sc_thingCount {w : zC} {Z : zZ} {Q : zR → zZ → Prop} {ad : Nat → Nat} {S : ST} (hR : Rep w ad S Z) (hQ : Q (.inl (some (.int (nI (sN S 0 + sN S 1 + sN S 2))))) Z) : Cz w (0, 0) y_Sc_thingCount (Cond.code y_Sc_thingCount c_Sc_thingCount 1 r_Sc_thingCount :: wz) [.ref (ad 1)] Z Q := by
  refine Cz.of (by decide +kernel) (by simp [lg_sl, Value.category]) ?_
  show G _ _ _ _ _ _ _ _ [(0, _)] _ _
  have h1 : zhs Z (ad 1) (.inr (1, [.ref (ad 11), .ref (ad 12), .ref (ad 13), .ref (ad 14), .ref (ad 15), .int (nI (sN S 0)), .int (nI (sN S 1)), .int (nI (sN S 2)), .int (nI (sN S 7))])) := hR.k 1 (by decide)
  refine g_aload_nq d_Sc_thingCount_0 rfl 0 rfl ?_
  refine g_get d_Sc_thingCount_1 f_Sc_39_Sc (by assumption) (by first | rfl | assumption) ?_
  refine g_aload_nq d_Sc_thingCount_4 rfl 0 rfl ?_
  refine g_get d_Sc_thingCount_5 f_Sc_43_Sc (by assumption) (by first | rfl | assumption) ?_
  refine g_iadd d_Sc_thingCount_8 ?_
  rw [nI_add]
  refine g_aload_nq d_Sc_thingCount_9 rfl 0 rfl ?_
  refine g_get d_Sc_thingCount_10 f_Sc_46_Sc (by assumption) (by first | rfl | assumption) ?_
  refine g_iadd d_Sc_thingCount_13 ?_
  rw [nI_add]
  refine g_iret d_Sc_thingCount_14 ?_
  exact hQ

set_option maxHeartbeats 4000000 in
set_option maxRecDepth 100000 in
theorem C_Sc_thingInOrder {w : zC} {Z : zZ} {Q : zR → zZ → Prop} {ad : Nat → Nat} {S : ST} (hR : Rep w ad S Z) {x : Int32} (hQ : Q (.inl (some (va_rf (atO ad S x)))) Z) : Cz w (1, 21) y_Sc_thingInOrder (Cond.code y_Sc_thingInOrder c_Sc_thingInOrder 2 r_Sc_thingInOrder :: wz) [.ref (ad 1), .int x] Z Q := by
  refine Cz.of (by decide +kernel) (by simp [lg_sl, Value.category]) ?_
  show G _ _ _ _ _ _ _ _ [(0, _), (1, _)] _ _
  have h1 : zhs Z (ad 1) (.inr (1, [.ref (ad 11), .ref (ad 12), .ref (ad 13), .ref (ad 14), .ref (ad 15), .int (nI (sN S 0)), .int (nI (sN S 1)), .int (nI (sN S 2)), .int (nI (sN S 7))])) := hR.k 1 (by decide)
  have h2 : zhs Z (ad 15) (xr w 7 240 (fun k => if k < sN S 0 + sN S 1 + sN S 2 then some (ad (sN S (1000 + k))) else sR S 15 k)) := hR.k 15 (by decide)
  have n0 := hR.1.1
  have n1 := hR.1.2.1
  have n2 := hR.1.2.2.1
  refine g_iload_n d_Sc_thingInOrder_0 rfl 1 rfl ?_
  refine g_aload_nq d_Sc_thingInOrder_1 rfl 0 rfl ?_
  refine g_callV d_Sc_thingInOrder_2 k_Sc_thingCount l_Sc_108 i_Sc_thingCount rfl q_Sc_Sc_thingCount_Sc (by assumption) (by rfl) (by rfl) (Nat.le_of_ble_eq_true rfl) (by decide) (C_Sc_thingCount hR ⟨_, rfl, ?_⟩)
  refine g_callSN d_Sc_thingInOrder_5 k_K_isBelow l_Sc_58 s_K_isBelow (by rfl) (by rfl) (Nat.le_of_ble_eq_true rfl) (by decide) (C_K_isBelow ⟨_, rfl, ?_⟩)
  first | refine g_if_eqB (tgt := 29) d_Sc_thingInOrder_8 (by decide) (fun h8 => ?_) (fun h8 => ?_) | refine g_if_eq (tgt := 29) d_Sc_thingInOrder_8 (by decide) (fun h8 => ?_) (fun h8 => ?_)
  · unfold atO at hQ
    rw [if_neg h8] at hQ
    refine g_null d_Sc_thingInOrder_29 ?_
    refine g_aret d_Sc_thingInOrder_30 ?_
    exact hQ
  · unfold atO at hQ
    rw [if_pos h8] at hQ
    refine g_iload_n d_Sc_thingInOrder_11 rfl 1 rfl ?_
    refine g_aload_nq d_Sc_thingInOrder_12 rfl 0 rfl ?_
    refine g_get d_Sc_thingInOrder_13 f_Sc_35_Sc (by assumption) (by first | rfl | assumption) ?_
    refine g_alen d_Sc_thingInOrder_16 7 (by assumption) rfl ?_
    refine g_icmp_ge (tgt := 29) d_Sc_thingInOrder_17 (by decide) (fun h17 => ?_) (fun h17 => ?_)
    · exact absurd h17 (vin_le h8.2 (by omega) (by decide))
    · refine g_aload_nq d_Sc_thingInOrder_20 rfl 0 rfl ?_
      refine g_get d_Sc_thingInOrder_21 f_Sc_35_Sc (by assumption) (by first | rfl | assumption) ?_
      refine g_iload_n d_Sc_thingInOrder_24 rfl 1 rfl ?_
      refine g_aald d_Sc_thingInOrder_25 7 (by assumption) rfl (vin_of h8.1 h17 (by decide)) ?_
      rw [if_pos (tn_lt h8.1 h8.2 (by omega))]
      refine g_goto (tgt := 30) d_Sc_thingInOrder_26 (by decide) ?_
      refine g_aret d_Sc_thingInOrder_30 ?_
      exact hQ

set_option maxHeartbeats 4000000 in
set_option maxRecDepth 100000 in
theorem C_Sc_thingOf {w : zC} {Z : zZ} {Q : zR → zZ → Prop} {ad : Nat → Nat} {S : ST} (hR : Rep w ad S Z) {t x : Int32} (hQ : Q (.inl (some (va_rf (if t = 0 then atP ad S x else if t = 1 then atN ad S x else if t = 2 then atQ ad S x else none)))) Z) : Cz w (2, 42) y_Sc_thingOf (Cond.code y_Sc_thingOf c_Sc_thingOf 3 r_Sc_thingOf :: wz) [.ref (ad 1), .int t, .int x] Z Q := by
  refine Cz.of (by decide +kernel) (by simp [lg_sl, Value.category]) ?_
  show G _ _ _ _ _ _ _ _ [(0, _), (1, _), (2, _)] _ _
  have h9 : zhs Z (ad 1) (.inr (1, [.ref (ad 11), .ref (ad 12), .ref (ad 13), .ref (ad 14), .ref (ad 15), .int (nI (sN S 0)), .int (nI (sN S 1)), .int (nI (sN S 2)), .int (nI (sN S 7))])) := hR.k 1 (by decide)
  refine g_iload_n d_Sc_thingOf_0 rfl 1 rfl ?_
  rcases sw_0_2 t with h1 | rfl | rfl | rfl
  · refine g_tableOut (tgt := 46) d_Sc_thingOf_1 h1 (by decide) ?_
    refine g_null d_Sc_thingOf_46 ?_
    refine g_aret d_Sc_thingOf_47 ?_
    rw [if_neg (fun z => by rw [z] at h1; exact absurd h1 (by decide)), if_neg (fun z => by rw [z] at h1; exact absurd h1 (by decide)), if_neg (fun z => by rw [z] at h1; exact absurd h1 (by decide))] at hQ
    exact hQ
  · refine g_tableIn (tgt := 28) d_Sc_thingOf_1 (by decide) (by decide) rfl (by decide) ?_
    refine g_aload_nq d_Sc_thingOf_28 rfl 0 rfl ?_
    refine g_iload_n d_Sc_thingOf_29 rfl 2 rfl ?_
    refine g_callV d_Sc_thingOf_30 k_Sc_partAt l_Sc_96 i_Sc_partAt rfl q_Sc_Sc_partAt_Sc (by assumption) (by rfl) (by rfl) (Nat.le_of_ble_eq_true rfl) (by decide) (C_Sc_partAt hR ⟨_, rfl, ?_⟩)
    refine g_aret d_Sc_thingOf_33 ?_
    rw [if_pos rfl] at hQ
    exact hQ
  · refine g_tableIn (tgt := 34) d_Sc_thingOf_1 (by decide) (by decide) rfl (by decide) ?_
    refine g_aload_nq d_Sc_thingOf_34 rfl 0 rfl ?_
    refine g_iload_n d_Sc_thingOf_35 rfl 2 rfl ?_
    refine g_callV d_Sc_thingOf_36 k_Sc_netAt l_Sc_100 i_Sc_netAt rfl q_Sc_Sc_netAt_Sc (by assumption) (by rfl) (by rfl) (Nat.le_of_ble_eq_true rfl) (by decide) (C_Sc_netAt hR ⟨_, rfl, ?_⟩)
    refine g_aret d_Sc_thingOf_39 ?_
    rw [if_neg (by decide), if_pos rfl] at hQ
    exact hQ
  · refine g_tableIn (tgt := 40) d_Sc_thingOf_1 (by decide) (by decide) rfl (by decide) ?_
    refine g_aload_nq d_Sc_thingOf_40 rfl 0 rfl ?_
    refine g_iload_n d_Sc_thingOf_41 rfl 2 rfl ?_
    refine g_callV d_Sc_thingOf_42 k_Sc_pinAt l_Sc_104 i_Sc_pinAt rfl q_Sc_Sc_pinAt_Sc (by assumption) (by rfl) (by rfl) (Nat.le_of_ble_eq_true rfl) (by decide) (C_Sc_pinAt hR ⟨_, rfl, ?_⟩)
    refine g_aret d_Sc_thingOf_45 ?_
    rw [if_neg (by decide), if_neg (by decide), if_pos rfl] at hQ
    exact hQ

set_option maxHeartbeats 4000000 in
set_option maxRecDepth 100000 in
theorem C_Sc_verdictOf {w : zC} {Z : zZ} {Q : zR → zZ → Prop} {ad : Nat → Nat} {S : ST} (hR : Rep w ad S Z) {a b : Nat} (ha : a < 10) (hb : b < 10) (hQ : Q (.inl (some (.int (sI S 11 (a * 10 + b))))) Z) : Cz w (1, 21) y_Sc_verdictOf (Cond.code y_Sc_verdictOf c_Sc_verdictOf 4 r_Sc_verdictOf :: wz) [.ref (ad 1), .int (nI a), .int (nI b)] Z Q := by
  refine Cz.of (by decide +kernel) (by simp [lg_sl, Value.category]) ?_
  show G _ _ _ _ _ _ _ _ [(0, _), (1, _), (2, _)] _ _
  have h1 : zhs Z (ad 1) (.inr (1, [.ref (ad 11), .ref (ad 12), .ref (ad 13), .ref (ad 14), .ref (ad 15), .int (nI (sN S 0)), .int (nI (sN S 1)), .int (nI (sN S 2)), .int (nI (sN S 7))])) := hR.k 1 (by decide)
  have h2 : zhs Z (ad 11) (xi w 100 (sI S 11)) := hR.k 11 (by decide)
  refine g_iload_n d_Sc_verdictOf_0 rfl 1 rfl ?_
  refine g_bipush (v := 10) d_Sc_verdictOf_1 rfl ?_
  refine g_imul d_Sc_verdictOf_3 ?_
  refine g_iload_n d_Sc_verdictOf_4 rfl 2 rfl ?_
  refine g_iadd d_Sc_verdictOf_5 ?_
  rw [show (10 : Int32) = nI 10 from rfl, pk_mul, nI_add]
  refine g_istore_n d_Sc_verdictOf_6 rfl (by decide) rfl ?_
  show G _ _ _ _ _ _ _ _ [(3, _), (0, _), (1, _), (2, _)] _ _
  refine g_iload_n d_Sc_verdictOf_7 rfl 0 rfl ?_
  refine g_aload_nq d_Sc_verdictOf_8 rfl 1 rfl ?_
  refine g_get d_Sc_verdictOf_9 f_Sc_9_Sc (by assumption) (by first | rfl | assumption) ?_
  refine g_alen d_Sc_verdictOf_12 0 (by assumption) rfl ?_
  refine g_callSN d_Sc_verdictOf_13 k_K_isBelow l_Sc_58 s_K_isBelow (by rfl) (by rfl) (Nat.le_of_ble_eq_true rfl) (by decide) (C_K_isBelow ⟨_, rfl, ?_⟩)
  first | refine g_if_eqB (tgt := 28) d_Sc_verdictOf_16 (by decide) (fun h16 => ?_) (fun h16 => ?_) | refine g_if_eq (tgt := 28) d_Sc_verdictOf_16 (by decide) (fun h16 => ?_) (fun h16 => ?_)
  · exact absurd (inr_nI (by omega) (by decide)) h16
  · refine g_aload_nq d_Sc_verdictOf_19 rfl 1 rfl ?_
    refine g_get d_Sc_verdictOf_20 f_Sc_9_Sc (by assumption) (by first | rfl | assumption) ?_
    refine g_iload_n d_Sc_verdictOf_23 rfl 0 rfl ?_
    refine g_iald d_Sc_verdictOf_24 (by assumption) (vp_in_nI (by omega) (by decide)) ?_
    rw [nI_clamp (by omega)]
    refine g_goto (tgt := 29) d_Sc_verdictOf_25 (by decide) ?_
    refine g_iret d_Sc_verdictOf_29 ?_
    exact hQ
