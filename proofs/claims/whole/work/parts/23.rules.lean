/-! Schematic, Net, Pin: the built-in rules -/
theorem g_sub {w : zC} {y : MethodName} {cc : ByteArray} {nL : Nat} {rt : Option FieldType} {d : Nat × Nat} {Post : zR → zZ → Prop} {pc : Nat} {lv lv' : List (Nat × Value)} {st : List Value} {Z : zZ} (ks : List Nat) (hl : lv_pick lv' ks = lv) (k : G w y cc nL rt d Post pc lv st Z) : G w y cc nL rt d Post pc lv' st Z :=
  fun p e R s m args below meth c H locs cells slots ls hx hw hl' => k p e R s m args below meth c H locs cells slots ls hx hw (lv_sub hl' ks hl)
def ciSh (S : ST) : Prop := (∀ k, k < sN S 0 → ∃ s, s < 16 ∧ sI S (100 + 3 * k) 0 = nI s) ∧ (∀ k, k < sN S 1 → ∃ s, s < 16 ∧ sI S (220 + 2 * k) 0 = nI s) ∧ ∀ k, k < sN S 2 → ∃ s, s < 16 ∧ sI S (300 + k) 0 = nI s
def ciPin (S : ST) : Prop := ∀ k, k < sN S 2 → (∃ d, d < 10 ∧ sI S (300 + k) 3 = nI d) ∧ sN S (2000 + k) < sN S 0 ∧ ∀ n, sR S (300 + k) 4 = some n → n < sN S 1
theorem atN_nI {ad : Nat → Nat} {S : ST} {i : Nat} (h : i < sN S 1) (hn : sN S 1 ≤ 40) : atN ad S (nI i) = some (ad (220 + 2 * i)) := by
  unfold atN
  rw [if_pos ⟨nI_pos (by omega), nI_ge h (by omega)⟩, nI_clamp (by omega)]
theorem atP_nI {ad : Nat → Nat} {S : ST} {i : Nat} (h : i < sN S 0) (hn : sN S 0 ≤ 40) : atP ad S (nI i) = some (ad (100 + 3 * i)) := by
  unfold atP
  rw [if_pos ⟨nI_pos (by omega), nI_ge h (by omega)⟩, nI_clamp (by omega)]
theorem atQ_nI {ad : Nat → Nat} {S : ST} {i : Nat} (h : i < sN S 2) (hn : sN S 2 ≤ 160) : atQ ad S (nI i) = some (ad (300 + i)) := by
  unfold atQ
  rw [if_pos ⟨nI_pos (by omega), nI_ge h (by omega)⟩, nI_clamp (by omega)]
def lnB (S : ST) (k : Nat) : Bool := (List.range k).any fun i => decide (sI S (220 + 2 * i) 4 = sI S (220 + 2 * k) 4)
theorem lnB_t {S : ST} {k i : Nat} (hi : i < k) (h : sI S (220 + 2 * i) 4 = sI S (220 + 2 * k) 4) : lnB S k = true := List.any_eq_true.mpr ⟨i, List.mem_range.mpr hi, decide_eq_true h⟩
theorem lnB_f {S : ST} {k : Nat} (h : ∀ i, i < k → ¬ sI S (220 + 2 * i) 4 = sI S (220 + 2 * k) 4) : ¬ lnB S k = true := fun z => by
  obtain ⟨i, hi, h1⟩ := List.any_eq_true.mp z
  exact h i (List.mem_range.mp hi) (of_decide_eq_true h1)
/-- the worst verdict of pin p and its first n lower pins on its net -/
def wvF (S : ST) (p : Nat) : Nat → Int32
  | 0 => 0
  | n + 1 => if sR S (300 + n) 4 = sR S (300 + p) 4 then (if wvF S p n < sI S 11 ((sI S (300 + p) 3).toNatClampNeg * 10 + (sI S (300 + n) 3).toNatClampNeg) then sI S 11 ((sI S (300 + p) 3).toNatClampNeg * 10 + (sI S (300 + n) 3).toNatClampNeg) else wvF S p n) else wvF S p n
set_option maxHeartbeats 4000000 in
set_option maxRecDepth 100000 in
theorem L_Sc_hasLowerNamesake {w : zC} {Z : zZ} {Q : zR → zZ → Prop} {ad : Nat → Nat} {S : ST} (hR : Rep w ad S Z) {k : Nat} (hk : k < sN S 1) (hs : ciSh S) (hQ : Q (.inl (some (.int (zb (lnB S k = true))))) Z)(n : Nat) : ∀ i, i + n = k → (∀ j, j < i → ¬ sI S (220 + 2 * j) 4 = sI S (220 + 2 * k) 4) → G w y_Sc_hasLowerNamesake c_Sc_hasLowerNamesake 4 r_Sc_hasLowerNamesake (2, 42) Q 2 [(2, .int (nI i)), (0, .ref (ad 1)), (1, .ref (ad (220 + 2 * k)))] [] Z := by
  have n0 := hR.1.1
  have n1 := hR.1.2.1
  have n2 := hR.1.2.2.1
  obtain ⟨s0, hs0, es0⟩ := hs.2.1 k hk
  have hk0 : zhs Z (ad (220 + 2 * k)) (.inr (7, [.int (sI S (220 + 2 * k) 0), .int ((sI S (220 + 2 * k) 0 * 3 + 1) * 160 + nI k), .ref (ad (221 + 2 * k)), .int (sI S (220 + 2 * k) 3), .int (sI S (220 + 2 * k) 4), .int (sI S (220 + 2 * k) 5)])) := (hR.net hk).1
  have hnum : ((sI S (220 + 2 * k) 0 * 3 + 1) * 160 + nI k) - ((sI S (220 + 2 * k) 0 * 3 + 1) * 160 + nI k) / 160 * 160 = nI k := by rw [es0]; exact num_rem hs0 (t := 1) (by decide) (by omega)
  have h1 : zhs Z (ad 1) (.inr (1, [.ref (ad 11), .ref (ad 12), .ref (ad 13), .ref (ad 14), .ref (ad 15), .int (nI (sN S 0)), .int (nI (sN S 1)), .int (nI (sN S 2)), .int (nI (sN S 7))])) := hR.k 1 (by decide)
  induction n with
  | zero =>
    intro i hi hlo
    refine g_iload_n d_Sc_hasLowerNamesake_2 rfl 0 rfl ?_
    refine g_aload_nq d_Sc_hasLowerNamesake_3 rfl 2 rfl ?_
    refine g_callU d_Sc_hasLowerNamesake_4 k_Th_number l_Sc_80 e_Ne_Th_number z_Th_number (by decide +kernel) rfl i_Th_number rfl q_Ne_Ne_number_Th (by assumption) (by rfl) (by rfl) (Nat.le_of_ble_eq_true rfl) (by decide) (C_Th_number (by simp [thk]) hk0 rfl ⟨_, rfl, ?_⟩)
    rw [hnum]
    refine g_icmp_ge (tgt := 39) d_Sc_hasLowerNamesake_7 (by decide) (fun h7 => ?_) (fun h7 => ?_)
    · refine g_iconst (v := 0) d_Sc_hasLowerNamesake_39 rfl ?_
      refine g_zret d_Sc_hasLowerNamesake_40 ?_ ?_
      · first | rfl | exact zb_nar _ | exact zb_narc (by assumption)
      · rw [zb_f (lnB_f (fun j hj => hlo j (by omega)))] at hQ
        exact hQ
    · exact absurd (nI_le (by omega) (by omega)) h7
  | succ n ih =>
    intro i hi hlo
    refine g_iload_n d_Sc_hasLowerNamesake_2 rfl 0 rfl ?_
    refine g_aload_nq d_Sc_hasLowerNamesake_3 rfl 2 rfl ?_
    refine g_callU d_Sc_hasLowerNamesake_4 k_Th_number l_Sc_80 e_Ne_Th_number z_Th_number (by decide +kernel) rfl i_Th_number rfl q_Ne_Ne_number_Th (by assumption) (by rfl) (by rfl) (Nat.le_of_ble_eq_true rfl) (by decide) (C_Th_number (by simp [thk]) hk0 rfl ⟨_, rfl, ?_⟩)
    rw [hnum]
    refine g_icmp_ge (tgt := 39) d_Sc_hasLowerNamesake_7 (by decide) (fun h7 => ?_) (fun h7 => ?_)
    · exact absurd h7 (nI_ge (by omega) (by omega))
    · refine g_aload_nq d_Sc_hasLowerNamesake_10 rfl 1 rfl ?_
      refine g_iload_n d_Sc_hasLowerNamesake_11 rfl 0 rfl ?_
      have hi0 : zhs Z (ad (220 + 2 * i)) (.inr (7, [.int (sI S (220 + 2 * i) 0), .int ((sI S (220 + 2 * i) 0 * 3 + 1) * 160 + nI i), .ref (ad (221 + 2 * i)), .int (sI S (220 + 2 * i) 3), .int (sI S (220 + 2 * i) 4), .int (sI S (220 + 2 * i) 5)])) := (hR.net (k := i) (by omega)).1
      refine g_callV d_Sc_hasLowerNamesake_12 k_Sc_netAt l_Sc_100 i_Sc_netAt rfl q_Sc_Sc_netAt_Sc h1 (by rfl) (by rfl) (Nat.le_of_ble_eq_true rfl) (by decide) (C_Sc_netAt hR ⟨_, rfl, ?_⟩)
      rw [atN_nI (by omega) n1]
      simp only [va_rf]
      refine g_astore_nq d_Sc_hasLowerNamesake_15 rfl (by decide) rfl ?_
      show G _ _ _ _ _ _ _ _ [(3, _), (2, _), (0, _), (1, _)] _ _
      refine g_aload_nq d_Sc_hasLowerNamesake_16 rfl 0 rfl ?_
      refine g_ifnull d_Sc_hasLowerNamesake_17 ?_
      refine g_aload_nq d_Sc_hasLowerNamesake_20 rfl 0 rfl ?_
      refine g_callV d_Sc_hasLowerNamesake_21 k_Ne_name l_Sc_115 i_Ne_name rfl q_Ne_Ne_name_Ne hi0 (by rfl) (by rfl) (Nat.le_of_ble_eq_true rfl) (by decide) (C_Ne_name hi0 ⟨_, rfl, ?_⟩)
      refine g_aload_nq d_Sc_hasLowerNamesake_24 rfl 3 rfl ?_
      refine g_callV d_Sc_hasLowerNamesake_25 k_Ne_name l_Sc_115 i_Ne_name rfl q_Ne_Ne_name_Ne hk0 (by rfl) (by rfl) (Nat.le_of_ble_eq_true rfl) (by decide) (C_Ne_name hk0 ⟨_, rfl, ?_⟩)
      refine g_icmp_ne (tgt := 33) d_Sc_hasLowerNamesake_28 (by decide) (fun h28 => ?_) (fun h28 => ?_)
      · refine g_iinc (k := 1) d_Sc_hasLowerNamesake_33 rfl (nI_1 i) (by decide) rfl ?_
        refine g_goto (tgt := 2) d_Sc_hasLowerNamesake_36 (by decide) ?_
        refine g_sub (lv := [(2, .int (nI (i + 1))), (0, .ref (ad 1)), (1, .ref (ad (220 + 2 * k)))]) [0, 2, 3] rfl ?_
        exact ih (i + 1) (by omega) (fun j hj => by by_cases hji : j = i; exact hji ▸ h28; exact hlo j (by omega))
      · rw [zb_t (lnB_t (by omega) h28)] at hQ
        refine g_iconst (v := 1) d_Sc_hasLowerNamesake_31 rfl ?_
        refine g_zret d_Sc_hasLowerNamesake_32 ?_ ?_
        · first | rfl | exact zb_nar _ | exact zb_narc (by assumption)
        · exact hQ

set_option maxHeartbeats 4000000 in
set_option maxRecDepth 100000 in
theorem C_Sc_hasLowerNamesake {w : zC} {Z : zZ} {Q : zR → zZ → Prop} {ad : Nat → Nat} {S : ST} (hR : Rep w ad S Z) {k : Nat} (hk : k < sN S 1) (hs : ciSh S) (hQ : Q (.inl (some (.int (zb (lnB S k = true))))) Z) : Cz w (2, 42) y_Sc_hasLowerNamesake (Cond.code y_Sc_hasLowerNamesake c_Sc_hasLowerNamesake 4 r_Sc_hasLowerNamesake :: wz) [.ref (ad 1), .ref (ad (220 + 2 * k))] Z Q := by
  refine Cz.of (by decide +kernel) (by simp [lg_sl, Value.category]) ?_
  show G _ _ _ _ _ _ _ _ [(0, _), (1, _)] _ _
  refine g_iconst (v := 0) d_Sc_hasLowerNamesake_0 rfl ?_
  refine g_istore_n d_Sc_hasLowerNamesake_1 rfl (by decide) rfl ?_
  show G _ _ _ _ _ _ _ _ [(2, _), (0, _), (1, _)] _ _
  exact L_Sc_hasLowerNamesake hR hk hs hQ k 0 (by omega) (fun j hj => absurd hj (by omega))
