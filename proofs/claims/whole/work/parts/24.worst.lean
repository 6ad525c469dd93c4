/-! Schematic.worstVerdictBelow, the built-in rules of nets and pins, a pin's terms -/
theorem mapNet {w : zC} {ad : Nat → Nat} {S : ST} {Z : zZ} (hR : Rep w ad S Z) {a b : Option Nat} (ha : ∀ n, a = some n → n < sN S 1) (hb : ∀ n, b = some n → n < sN S 1) : a.map (fun n => ad (220 + 2 * n)) = b.map (fun n => ad (220 + 2 * n)) ↔ a = b := by
  refine ⟨fun h => ?_, fun h => by rw [h]⟩
  cases a with
  | none => cases b with
    | none => rfl
    | some y => simp at h
  | some x => cases b with
    | none => simp at h
    | some y =>
      simp only [Option.map_some, Option.some.injEq] at h
      have hx := ha x rfl
      have hy := hb y rfl
      have := hR.2.1 (220 + 2 * x) (220 + 2 * y) (by simp only [liveS]; omega) (by simp only [liveS]; omega) h
      rw [show x = y by omega]
theorem pkv {pf : Nat → Int32} {k : Nat} (hk : k < 10) : (if ¬ nI k < 0 ∧ ¬ nI 10 ≤ nI k then pf (nI k).toNatClampNeg else 0) = pf k := by
  rw [if_pos ⟨nI_pos (by omega), nI_ge hk (by decide)⟩, nI_clamp (by omega)]
def nbw (S : ST) (k : Nat) (x : Int32) : Int32 :=
  if x = 2 then (if sI S (221 + 2 * k) 1 < 2 then 0 else 2) else if x = 3 then (if sI S (221 + 2 * k) 3 ≤ 0 then 0 else if ¬ sI S (221 + 2 * k) 4 = 0 then 0 else 2)
  else if x = 4 then (if ¬ sI S (220 + 2 * k) 3 = 1 then 0 else 1) else if x = 5 then (if lnB S k = true then 2 else 0) else if x = 6 then (if sI S (220 + 2 * k) 5 = 0 then 0 else 1) else 0
def pbw (S : ST) (k : Nat) (x : Int32) : Int32 :=
  if x = 0 then (if sR S (300 + k) 4 = none ∧ ¬ sI S (300 + k) 3 = 9 then 2 else 0) else if x = 1 then (if sR S (300 + k) 4 = none then 0 else wvF S k k) else 0
theorem sw_2_6 (x : Int32) : (x.toInt < 2 ∨ 6 < x.toInt) ∨ x = 2 ∨ x = 3 ∨ x = 4 ∨ x = 5 ∨ x = 6 := by
  by_cases h2 : x = 2
  · simp [h2]
  have n2 : ¬ x.toInt = 2 := fun q => h2 (Int32.toInt_inj.mp (q.trans (by decide)))
  by_cases h3 : x = 3
  · simp [h3]
  have n3 : ¬ x.toInt = 3 := fun q => h3 (Int32.toInt_inj.mp (q.trans (by decide)))
  by_cases h4 : x = 4
  · simp [h4]
  have n4 : ¬ x.toInt = 4 := fun q => h4 (Int32.toInt_inj.mp (q.trans (by decide)))
  by_cases h5 : x = 5
  · simp [h5]
  have n5 : ¬ x.toInt = 5 := fun q => h5 (Int32.toInt_inj.mp (q.trans (by decide)))
  by_cases h6 : x = 6
  · simp [h6]
  have n6 : ¬ x.toInt = 6 := fun q => h6 (Int32.toInt_inj.mp (q.trans (by decide)))
  exact Or.inl (by omega)
set_option maxHeartbeats 4000000 in
set_option maxRecDepth 100000 in
theorem L_Sc_worstVerdictBelow {w : zC} {Z : zZ} {Q : zR → zZ → Prop} {ad : Nat → Nat} {S : ST} (hR : Rep w ad S Z) {p : Nat} (hp : p < sN S 2) (hs : ciSh S) (hc : ciPin S) {b : Nat} (hb : (sR S (300 + p) 4).map (fun n => ad (220 + 2 * n)) = some b) (hQ : Q (.inl (some (.int (wvF S p p)))) Z) (n : Nat) : ∀ i m, i + n = p → m = wvF S p i → G w y_Sc_worstVerdictBelow c_Sc_worstVerdictBelow 6 r_Sc_worstVerdictBelow (2, 44) Q 16 [(4, .int (nI i)), (3, .int m), (2, .ref b), (0, .ref (ad 1)), (1, .ref (ad (300 + p)))] [] Z := by
  have n0 := hR.1.1
  have n1 := hR.1.2.1
  have n2 := hR.1.2.2.1
  obtain ⟨s0, hs0, es0⟩ := hs.2.2 p hp
  obtain ⟨⟨dp, hdp, edp⟩, -, hnp⟩ := hc p hp
  have hp0 : zhs Z (ad (300 + p)) (.inr (8, [.int (sI S (300 + p) 0), .int ((sI S (300 + p) 0 * 3 + 2) * 160 + nI p), .ref (ad (100 + 3 * sN S (2000 + p))), .int (sI S (300 + p) 3), va_rf ((sR S (300 + p) 4).map (fun n => ad (220 + 2 * n)))])) := hR.pin hp
  have hnum : ((sI S (300 + p) 0 * 3 + 2) * 160 + nI p) - ((sI S (300 + p) 0 * 3 + 2) * 160 + nI p) / 160 * 160 = nI p := by rw [es0]; exact num_rem hs0 (t := 2) (by decide) (by omega)
  have h1 : zhs Z (ad 1) (.inr (1, [.ref (ad 11), .ref (ad 12), .ref (ad 13), .ref (ad 14), .ref (ad 15), .int (nI (sN S 0)), .int (nI (sN S 1)), .int (nI (sN S 2)), .int (nI (sN S 7))])) := hR.k 1 (by decide)
  induction n with
  | zero =>
    intro i m hi hm
    refine g_iload d_Sc_worstVerdictBelow_16 0 rfl ?_
    refine g_aload_nq d_Sc_worstVerdictBelow_18 rfl 4 rfl ?_
    refine g_callU d_Sc_worstVerdictBelow_19 k_Th_number l_Sc_91 e_Pi_Th_number z_Th_number (by decide +kernel) rfl i_Th_number rfl q_Pi_Pi_number_Th (by assumption) (by rfl) (by rfl) (Nat.le_of_ble_eq_true rfl) (by decide) (C_Th_number (by simp [thk]) hp0 rfl ⟨_, rfl, ?_⟩)
    rw [hnum]
    refine g_icmp_ge (tgt := 71) d_Sc_worstVerdictBelow_22 (by decide) (fun h22 => ?_) (fun h22 => ?_)
    · refine g_iload_n d_Sc_worstVerdictBelow_71 rfl 1 rfl ?_
      refine g_iret d_Sc_worstVerdictBelow_72 ?_
      have hip : i = p := by omega
      rw [hm, hip]
      exact hQ
    · exact absurd (nI_le (by omega) (by omega)) h22
  | succ n ih =>
    intro i m hi hm
    refine g_iload d_Sc_worstVerdictBelow_16 0 rfl ?_
    refine g_aload_nq d_Sc_worstVerdictBelow_18 rfl 4 rfl ?_
    refine g_callU d_Sc_worstVerdictBelow_19 k_Th_number l_Sc_91 e_Pi_Th_number z_Th_number (by decide +kernel) rfl i_Th_number rfl q_Pi_Pi_number_Th (by assumption) (by rfl) (by rfl) (Nat.le_of_ble_eq_true rfl) (by decide) (C_Th_number (by simp [thk]) hp0 rfl ⟨_, rfl, ?_⟩)
    rw [hnum]
    refine g_icmp_ge (tgt := 71) d_Sc_worstVerdictBelow_22 (by decide) (fun h22 => ?_) (fun h22 => ?_)
    · exact absurd h22 (nI_ge (by omega) (by omega))
    · refine g_aload_nq d_Sc_worstVerdictBelow_25 rfl 3 rfl ?_
      refine g_iload d_Sc_worstVerdictBelow_26 0 rfl ?_
      have hi2 : i < sN S 2 := by omega
      have hi0 : zhs Z (ad (300 + i)) (.inr (8, [.int (sI S (300 + i) 0), .int ((sI S (300 + i) 0 * 3 + 2) * 160 + nI i), .ref (ad (100 + 3 * sN S (2000 + i))), .int (sI S (300 + i) 3), va_rf ((sR S (300 + i) 4).map (fun n => ad (220 + 2 * n)))])) := hR.pin hi2
      obtain ⟨⟨di, hdi, edi⟩, -, hni⟩ := hc i hi2
      refine g_callV d_Sc_worstVerdictBelow_28 k_Sc_pinAt l_Sc_104 i_Sc_pinAt rfl q_Sc_Sc_pinAt_Sc h1 (by rfl) (by rfl) (Nat.le_of_ble_eq_true rfl) (by decide) (C_Sc_pinAt hR ⟨_, rfl, ?_⟩)
      rw [atQ_nI hi2 n2]
      simp only [va_rf]
      refine g_astoreq d_Sc_worstVerdictBelow_31 (by decide) rfl ?_
      show G _ _ _ _ _ _ _ _ [(5, _), (4, _), (3, _), (2, _), (0, _), (1, _)] _ _
      refine g_aloadq d_Sc_worstVerdictBelow_33 0 rfl ?_
      refine g_ifnull d_Sc_worstVerdictBelow_35 ?_
      refine g_aloadq d_Sc_worstVerdictBelow_38 0 rfl ?_
      refine g_callV d_Sc_worstVerdictBelow_40 k_Pi_netOrNull l_Sc_118 i_Pi_netOrNull rfl q_Pi_Pi_netOrNull_Pi hi0 (by rfl) (by rfl) (Nat.le_of_ble_eq_true rfl) (by decide) (C_Pi_netOrNull hi0 ⟨_, rfl, ?_⟩)
      refine g_aload_nq d_Sc_worstVerdictBelow_43 rfl 3 rfl ?_
      rw [show Value.ref b = va_rf (some b) from rfl]
      refine g_acmp_ne (tgt := 65) d_Sc_worstVerdictBelow_44 (by decide) (fun h44 => ?_) (fun h44 => ?_)
      · rw [← hb, mapNet hR hni hnp] at h44
        refine g_iinc (k := 1) d_Sc_worstVerdictBelow_65 rfl (nI_1 i) (by decide) rfl ?_
        refine g_goto (tgt := 16) d_Sc_worstVerdictBelow_68 (by decide) ?_
        refine g_sub (lv := [(4, .int (nI (i + 1))), (3, .int m), (2, .ref b), (0, .ref (ad 1)), (1, .ref (ad (300 + p)))]) [0, 2, 3, 4, 5] rfl ?_
        exact ih (i + 1) m (by omega) (by rw [wvF, if_neg h44]; exact hm)
      rw [← hb, mapNet hR hni hnp] at h44
      refine g_iload_n d_Sc_worstVerdictBelow_47 rfl 2 rfl ?_
      refine g_aload_nq d_Sc_worstVerdictBelow_48 rfl 4 rfl ?_
      refine g_aload_nq d_Sc_worstVerdictBelow_49 rfl 5 rfl ?_
      refine g_callV d_Sc_worstVerdictBelow_50 k_Pi_kind l_Sc_122 i_Pi_kind rfl q_Pi_Pi_kind_Pi hp0 (by rfl) (by rfl) (Nat.le_of_ble_eq_true rfl) (by decide) (C_Pi_kind hp0 ⟨_, rfl, ?_⟩)
      refine g_aloadq d_Sc_worstVerdictBelow_53 0 rfl ?_
      refine g_callV d_Sc_worstVerdictBelow_55 k_Pi_kind l_Sc_122 i_Pi_kind rfl q_Pi_Pi_kind_Pi hi0 (by rfl) (by rfl) (Nat.le_of_ble_eq_true rfl) (by decide) (C_Pi_kind hi0 ⟨_, rfl, ?_⟩)
      rw [edp, edi]
      refine g_callV d_Sc_worstVerdictBelow_58 k_Sc_verdictOf l_Sc_62 i_Sc_verdictOf rfl p_Sc_verdictOf h1 (by rfl) (by rfl) (Nat.le_of_ble_eq_true rfl) (by decide) (C_Sc_verdictOf hR hdp hdi ⟨_, rfl, ?_⟩)
      refine g_callS d_Sc_worstVerdictBelow_61 k_jM_max l_Sc_125 s_jM_max (by rfl) (by rfl) (Nat.le_of_ble_eq_true rfl) (by decide) (C_jM_max ⟨_, rfl, ?_⟩)
      refine g_istore_n d_Sc_worstVerdictBelow_64 rfl (by decide) rfl ?_
      refine g_iinc (k := 2) d_Sc_worstVerdictBelow_65 rfl (nI_1 i) (by decide) rfl ?_
      refine g_goto (tgt := 16) d_Sc_worstVerdictBelow_68 (by decide) ?_
      refine g_sub (lv := [(4, .int (nI (i + 1))), (3, .int (if m < sI S 11 (dp * 10 + di) then sI S 11 (dp * 10 + di) else m)), (2, .ref b), (0, .ref (ad 1)), (1, .ref (ad (300 + p)))]) [0, 1, 3, 4, 5] rfl ?_
      exact ih (i + 1) _ (by omega) (by rw [wvF, if_pos h44, edp, edi, nI_clamp (by omega), nI_clamp (by omega), ← hm])

set_option maxHeartbeats 4000000 in
set_option maxRecDepth 100000 in
theorem C_Sc_worstVerdictBelow {w : zC} {Z : zZ} {Q : zR → zZ → Prop} {ad : Nat → Nat} {S : ST} (hR : Rep w ad S Z) {p : Nat} (hp : p < sN S 2) (hs : ciSh S) (hc : ciPin S) (hQ : Q (.inl (some (.int (if sR S (300 + p) 4 = none then 0 else wvF S p p)))) Z) : Cz w (2, 44) y_Sc_worstVerdictBelow (Cond.code y_Sc_worstVerdictBelow c_Sc_worstVerdictBelow 6 r_Sc_worstVerdictBelow :: wz) [.ref (ad 1), .ref (ad (300 + p))] Z Q := by
  refine Cz.of (by decide +kernel) (by simp [lg_sl, Value.category]) ?_
  show G _ _ _ _ _ _ _ _ [(0, _), (1, _)] _ _
  have hp0 : zhs Z (ad (300 + p)) (.inr (8, [.int (sI S (300 + p) 0), .int ((sI S (300 + p) 0 * 3 + 2) * 160 + nI p), .ref (ad (100 + 3 * sN S (2000 + p))), .int (sI S (300 + p) 3), va_rf ((sR S (300 + p) 4).map (fun n => ad (220 + 2 * n)))])) := hR.pin hp
  refine g_aload_nq d_Sc_worstVerdictBelow_0 rfl 1 rfl ?_
  refine g_callV d_Sc_worstVerdictBelow_1 k_Pi_netOrNull l_Sc_118 i_Pi_netOrNull rfl q_Pi_Pi_netOrNull_Pi hp0 (by rfl) (by rfl) (Nat.le_of_ble_eq_true rfl) (by decide) (C_Pi_netOrNull hp0 ⟨_, rfl, ?_⟩)
  refine g_astore_nq d_Sc_worstVerdictBelow_4 rfl (by decide) rfl ?_
  show G _ _ _ _ _ _ _ _ [(2, _), (0, _), (1, _)] _ _
  refine g_aload_nq d_Sc_worstVerdictBelow_5 rfl 0 rfl ?_
  refine g_ifnonnullq (tgt := 11) d_Sc_worstVerdictBelow_6 (by decide) (fun q6 h6 => ?_) (fun h6 => ?_)
  · rw [if_neg (fun z => by rw [z] at h6; cases h6)] at hQ
    rw [h6]
    simp only [va_rf]
    refine g_iconst (v := 0) d_Sc_worstVerdictBelow_11 rfl ?_
    refine g_istore_n d_Sc_worstVerdictBelow_12 rfl (by decide) rfl ?_
    show G _ _ _ _ _ _ _ _ [(3, _), (2, _), (0, _), (1, _)] _ _
    refine g_iconst (v := 0) d_Sc_worstVerdictBelow_13 rfl ?_
    refine g_istore d_Sc_worstVerdictBelow_14 (by decide) rfl ?_
    show G _ _ _ _ _ _ _ _ [(4, _), (3, _), (2, _), (0, _), (1, _)] _ _
    exact L_Sc_worstVerdictBelow hR hp hs hc h6 hQ p 0 0 (by omega) rfl
  · rw [if_pos (Option.map_eq_none_iff.mp h6)] at hQ
    refine g_iconst (v := 0) d_Sc_worstVerdictBelow_9 rfl ?_
    refine g_iret d_Sc_worstVerdictBelow_10 ?_
    exact hQ

set_option maxHeartbeats 4000000 in
set_option maxRecDepth 100000 in
theorem C_Ne_builtInWeight {w : zC} {Z : zZ} {Q : zR → zZ → Prop} {ad : Nat → Nat} {S : ST} (hR : Rep w ad S Z) {k : Nat} {x : Int32} (hk : k < sN S 1) (hs : ciSh S) (hQ : Q (.inl (some (.int (nbw S k x)))) Z) : Cz w (3, 65) y_Ne_builtInWeight (Cond.code y_Ne_builtInWeight c_Ne_builtInWeight 3 r_Ne_builtInWeight :: wz) [.ref (ad (220 + 2 * k)), .int x, .ref (ad 1)] Z Q := by
  refine Cz.of (by decide +kernel) (by simp [lg_sl, Value.category]) ?_
  show G _ _ _ _ _ _ _ _ [(0, _), (1, _), (2, _)] _ _
  have hk0 : zhs Z (ad (220 + 2 * k)) (.inr (7, [.int (sI S (220 + 2 * k) 0), .int ((sI S (220 + 2 * k) 0 * 3 + 1) * 160 + nI k), .ref (ad (221 + 2 * k)), .int (sI S (220 + 2 * k) 3), .int (sI S (220 + 2 * k) 4), .int (sI S (220 + 2 * k) 5)])) := (hR.net hk).1
  have hk1 := (hR.net hk).2
  have h1s : zhs Z (ad 1) (.inr (1, [.ref (ad 11), .ref (ad 12), .ref (ad 13), .ref (ad 14), .ref (ad 15), .int (nI (sN S 0)), .int (nI (sN S 1)), .int (nI (sN S 2)), .int (nI (sN S 7))])) := hR.k 1 (by decide)
  refine g_iload_n d_Ne_builtInWeight_0 rfl 1 rfl ?_
  rcases sw_2_6 x with h1 | rfl | rfl | rfl | rfl | rfl
  · refine g_tableOut (tgt := 114) d_Ne_builtInWeight_1 h1 (by decide) ?_
    refine g_iconst (v := 0) d_Ne_builtInWeight_114 rfl ?_
    refine g_iret d_Ne_builtInWeight_115 ?_
    unfold nbw at hQ
    rw [if_neg (fun z => by rw [z] at h1; exact absurd h1 (by decide)), if_neg (fun z => by rw [z] at h1; exact absurd h1 (by decide)), if_neg (fun z => by rw [z] at h1; exact absurd h1 (by decide)), if_neg (fun z => by rw [z] at h1; exact absurd h1 (by decide)), if_neg (fun z => by rw [z] at h1; exact absurd h1 (by decide))] at hQ
    exact hQ
  · refine g_tableIn (tgt := 36) d_Ne_builtInWeight_1 (by decide) (by decide) rfl (by decide) ?_
    refine g_aload_nq d_Ne_builtInWeight_36 rfl 0 rfl ?_
    refine g_iconst (v := 1) d_Ne_builtInWeight_37 rfl ?_
    rw [show (1 : Int32) = nI 1 from rfl]
    refine g_callU d_Ne_builtInWeight_38 k_Ph_pinsOfKind l_Ne_21 e_Ne_Ph_pinsOfKind z_Ph_pinsOfKind (by decide +kernel) rfl i_Ph_pinsOfKind rfl q_Ne_Ne_pinsOfKind_Ph (by assumption) (by rfl) (by rfl) (Nat.le_of_ble_eq_true rfl) (by decide) (C_Ph_pinsOfKind (by simp [phk]) hk0 rfl hk1 ⟨_, rfl, ?_⟩)
    rw [pkv (by decide)]
    refine g_iconst (v := 2) d_Ne_builtInWeight_41 rfl ?_
    refine g_icmp_lt (tgt := 49) d_Ne_builtInWeight_42 (by decide) (fun h42 => ?_) (fun h42 => ?_)
    · refine g_iconst (v := 0) d_Ne_builtInWeight_49 rfl ?_
      refine g_iret d_Ne_builtInWeight_50 ?_
      unfold nbw at hQ
      rw [if_pos rfl] at hQ
      first | (rw [if_pos h42] at hQ; exact hQ) | (rw [if_neg h42] at hQ; exact hQ) | (rw [if_neg (fun z => z h42)] at hQ; exact hQ)
    · refine g_iconst (v := 2) d_Ne_builtInWeight_45 rfl ?_
      refine g_goto (tgt := 50) d_Ne_builtInWeight_46 (by decide) ?_
      refine g_iret d_Ne_builtInWeight_50 ?_
      unfold nbw at hQ
      rw [if_pos rfl] at hQ
      first | (rw [if_pos h42] at hQ; exact hQ) | (rw [if_neg h42] at hQ; exact hQ) | (rw [if_neg (fun z => z h42)] at hQ; exact hQ)
  · refine g_tableIn (tgt := 51) d_Ne_builtInWeight_1 (by decide) (by decide) rfl (by decide) ?_
    refine g_aload_nq d_Ne_builtInWeight_51 rfl 0 rfl ?_
    refine g_iconst (v := 3) d_Ne_builtInWeight_52 rfl ?_
    rw [show (3 : Int32) = nI 3 from rfl]
    refine g_callU d_Ne_builtInWeight_53 k_Ph_pinsOfKind l_Ne_21 e_Ne_Ph_pinsOfKind z_Ph_pinsOfKind (by decide +kernel) rfl i_Ph_pinsOfKind rfl q_Ne_Ne_pinsOfKind_Ph (by assumption) (by rfl) (by rfl) (Nat.le_of_ble_eq_true rfl) (by decide) (C_Ph_pinsOfKind (by simp [phk]) hk0 rfl hk1 ⟨_, rfl, ?_⟩)
    rw [pkv (by decide)]
    refine g_if_le (tgt := 71) d_Ne_builtInWeight_56 (by decide) (fun h56 => ?_) (fun h56 => ?_)
    · refine g_iconst (v := 0) d_Ne_builtInWeight_71 rfl ?_
      refine g_iret d_Ne_builtInWeight_72 ?_
      unfold nbw at hQ
      rw [if_neg (by decide), if_pos rfl] at hQ
      first | (rw [if_pos h56] at hQ; exact hQ) | (rw [if_neg h56, if_pos h64] at hQ; exact hQ) | (rw [if_neg h56, if_neg (fun z => z h64)] at hQ; exact hQ)
    · refine g_aload_nq d_Ne_builtInWeight_59 rfl 0 rfl ?_
      refine g_iconst (v := 4) d_Ne_builtInWeight_60 rfl ?_
      rw [show (4 : Int32) = nI 4 from rfl]
      refine g_callU d_Ne_builtInWeight_61 k_Ph_pinsOfKind l_Ne_21 e_Ne_Ph_pinsOfKind z_Ph_pinsOfKind (by decide +kernel) rfl i_Ph_pinsOfKind rfl q_Ne_Ne_pinsOfKind_Ph (by assumption) (by rfl) (by rfl) (Nat.le_of_ble_eq_true rfl) (by decide) (C_Ph_pinsOfKind (by simp [phk]) hk0 rfl hk1 ⟨_, rfl, ?_⟩)
      rw [pkv (by decide)]
      first | refine g_if_neB (tgt := 71) d_Ne_builtInWeight_64 (by decide) (fun h64 => ?_) (fun h64 => ?_) | refine g_if_ne (tgt := 71) d_Ne_builtInWeight_64 (by decide) (fun h64 => ?_) (fun h64 => ?_)
      · refine g_iconst (v := 0) d_Ne_builtInWeight_71 rfl ?_
        refine g_iret d_Ne_builtInWeight_72 ?_
        unfold nbw at hQ
        rw [if_neg (by decide), if_pos rfl] at hQ
        first | (rw [if_pos h56] at hQ; exact hQ) | (rw [if_neg h56, if_pos h64] at hQ; exact hQ) | (rw [if_neg h56, if_neg (fun z => z h64)] at hQ; exact hQ)
      · refine g_iconst (v := 2) d_Ne_builtInWeight_67 rfl ?_
        refine g_goto (tgt := 72) d_Ne_builtInWeight_68 (by decide) ?_
        refine g_iret d_Ne_builtInWeight_72 ?_
        unfold nbw at hQ
        rw [if_neg (by decide), if_pos rfl] at hQ
        first | (rw [if_pos h56] at hQ; exact hQ) | (rw [if_neg h56, if_pos h64] at hQ; exact hQ) | (rw [if_neg h56, if_neg (fun z => z h64)] at hQ; exact hQ)
  · refine g_tableIn (tgt := 73) d_Ne_builtInWeight_1 (by decide) (by decide) rfl (by decide) ?_
    refine g_aload_nq d_Ne_builtInWeight_73 rfl 0 rfl ?_
    refine g_callU d_Ne_builtInWeight_74 k_Ph_pinCount l_Ne_25 e_Ne_Ph_pinCount z_Ph_pinCount (by decide +kernel) rfl i_Ph_pinCount rfl q_Ne_Ne_pinCount_Ph hk0 (by rfl) (by rfl) (Nat.le_of_ble_eq_true rfl) (by decide) (C_Ph_pinCount (by simp [phk]) hk0 rfl ⟨_, rfl, ?_⟩)
    refine g_iconst (v := 1) d_Ne_builtInWeight_77 rfl ?_
    refine g_icmp_ne (tgt := 85) d_Ne_builtInWeight_78 (by decide) (fun h78 => ?_) (fun h78 => ?_)
    · refine g_iconst (v := 0) d_Ne_builtInWeight_85 rfl ?_
      refine g_iret d_Ne_builtInWeight_86 ?_
      unfold nbw at hQ
      rw [if_neg (by decide), if_neg (by decide), if_pos rfl] at hQ
      first | (rw [if_pos h78] at hQ; exact hQ) | (rw [if_neg h78] at hQ; exact hQ) | (rw [if_neg (fun z => z h78)] at hQ; exact hQ)
    · refine g_iconst (v := 1) d_Ne_builtInWeight_81 rfl ?_
      refine g_goto (tgt := 86) d_Ne_builtInWeight_82 (by decide) ?_
      refine g_iret d_Ne_builtInWeight_86 ?_
      unfold nbw at hQ
      rw [if_neg (by decide), if_neg (by decide), if_pos rfl] at hQ
      first | (rw [if_pos h78] at hQ; exact hQ) | (rw [if_neg h78] at hQ; exact hQ) | (rw [if_neg (fun z => z h78)] at hQ; exact hQ)
  · refine g_tableIn (tgt := 87) d_Ne_builtInWeight_1 (by decide) (by decide) rfl (by decide) ?_
    refine g_aload_nq d_Ne_builtInWeight_87 rfl 2 rfl ?_
    refine g_aload_nq d_Ne_builtInWeight_88 rfl 0 rfl ?_
    refine g_callV d_Ne_builtInWeight_89 k_Sc_hasLowerNamesake l_Ne_29 i_Sc_hasLowerNamesake rfl q_Sc_Sc_hasLowerNamesake_Sc h1s (by rfl) (by rfl) (Nat.le_of_ble_eq_true rfl) (by decide) (C_Sc_hasLowerNamesake hR hk hs ⟨_, rfl, ?_⟩)
    first | refine g_if_eqB (tgt := 99) d_Ne_builtInWeight_92 (by decide) (fun h92 => ?_) (fun h92 => ?_) | refine g_if_eq (tgt := 99) d_Ne_builtInWeight_92 (by decide) (fun h92 => ?_) (fun h92 => ?_)
    · refine g_iconst (v := 0) d_Ne_builtInWeight_99 rfl ?_
      refine g_iret d_Ne_builtInWeight_100 ?_
      unfold nbw at hQ
      rw [if_neg (by decide), if_neg (by decide), if_neg (by decide), if_pos rfl] at hQ
      first | (rw [if_pos h92] at hQ; exact hQ) | (rw [if_neg h92] at hQ; exact hQ) | (rw [if_neg (fun z => z h92)] at hQ; exact hQ)
    · refine g_iconst (v := 2) d_Ne_builtInWeight_95 rfl ?_
      refine g_goto (tgt := 100) d_Ne_builtInWeight_96 (by decide) ?_
      refine g_iret d_Ne_builtInWeight_100 ?_
      unfold nbw at hQ
      rw [if_neg (by decide), if_neg (by decide), if_neg (by decide), if_pos rfl] at hQ
      first | (rw [if_pos h92] at hQ; exact hQ) | (rw [if_neg h92] at hQ; exact hQ) | (rw [if_neg (fun z => z h92)] at hQ; exact hQ)
  · refine g_tableIn (tgt := 101) d_Ne_builtInWeight_1 (by decide) (by decide) rfl (by decide) ?_
    refine g_aload_nq d_Ne_builtInWeight_101 rfl 0 rfl ?_
    refine g_get d_Ne_builtInWeight_102 f_Ne_9_Ne (by assumption) (by first | rfl | assumption) ?_
    first | refine g_if_eqB (tgt := 112) d_Ne_builtInWeight_105 (by decide) (fun h105 => ?_) (fun h105 => ?_) | refine g_if_eq (tgt := 112) d_Ne_builtInWeight_105 (by decide) (fun h105 => ?_) (fun h105 => ?_)
    · refine g_iconst (v := 0) d_Ne_builtInWeight_112 rfl ?_
      refine g_iret d_Ne_builtInWeight_113 ?_
      unfold nbw at hQ
      rw [if_neg (by decide), if_neg (by decide), if_neg (by decide), if_neg (by decide), if_pos rfl] at hQ
      first | (rw [if_pos h105] at hQ; exact hQ) | (rw [if_neg h105] at hQ; exact hQ) | (rw [if_neg (fun z => z h105)] at hQ; exact hQ)
    · refine g_iconst (v := 1) d_Ne_builtInWeight_108 rfl ?_
      refine g_goto (tgt := 113) d_Ne_builtInWeight_109 (by decide) ?_
      refine g_iret d_Ne_builtInWeight_113 ?_
      unfold nbw at hQ
      rw [if_neg (by decide), if_neg (by decide), if_neg (by decide), if_neg (by decide), if_pos rfl] at hQ
      first | (rw [if_pos h105] at hQ; exact hQ) | (rw [if_neg h105] at hQ; exact hQ) | (rw [if_neg (fun z => z h105)] at hQ; exact hQ)
