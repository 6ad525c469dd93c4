/-! Pin: its built-in rules and its terms -/
def fAt (S : ST) (k : Nat) (x : Int32) : Int64 := if ¬ x < 0 ∧ ¬ nI 8 ≤ x then sJ S (102 + 3 * k) x.toNatClampNeg else 0
def qv (S : ST) (p : Nat) (t x : Int32) : Int64 :=
  if t = 14 then fAt S (sN S (2000 + p)) x else if t = 16 then (sI S (300 + p) 3).toInt64 else if t = 17 then (match sR S (300 + p) 4 with | none => -1 | some n => (sI S (220 + 2 * n) 4).toInt64) else if t = 18 then (sI S (300 + p) 0).toInt64 else 0
theorem sw_14_18 (x : Int32) : (x.toInt < 14 ∨ 18 < x.toInt) ∨ x = 14 ∨ x = 15 ∨ x = 16 ∨ x = 17 ∨ x = 18 := by
  by_cases h14 : x = 14
  · simp [h14]
  have n14 : ¬ x.toInt = 14 := fun q => h14 (Int32.toInt_inj.mp (q.trans (by decide)))
  by_cases h15 : x = 15
  · simp [h15]
  have n15 : ¬ x.toInt = 15 := fun q => h15 (Int32.toInt_inj.mp (q.trans (by decide)))
  by_cases h16 : x = 16
  · simp [h16]
  have n16 : ¬ x.toInt = 16 := fun q => h16 (Int32.toInt_inj.mp (q.trans (by decide)))
  by_cases h17 : x = 17
  · simp [h17]
  have n17 : ¬ x.toInt = 17 := fun q => h17 (Int32.toInt_inj.mp (q.trans (by decide)))
  by_cases h18 : x = 18
  · simp [h18]
  have n18 : ¬ x.toInt = 18 := fun q => h18 (Int32.toInt_inj.mp (q.trans (by decide)))
  exact Or.inl (by omega)
set_option maxHeartbeats 4000000 in
set_option maxRecDepth 100000 in
theorem C_Pi_builtInWeight {w : zC} {Z : zZ} {Q : zR → zZ → Prop} {ad : Nat → Nat} {S : ST} (hR : Rep w ad S Z) {p : Nat} {x : Int32} (hp : p < sN S 2) (hs : ciSh S) (hc : ciPin S) (hQ : Q (.inl (some (.int (pbw S p x)))) Z) : Cz w (3, 69) y_Pi_builtInWeight (Cond.code y_Pi_builtInWeight c_Pi_builtInWeight 3 r_Pi_builtInWeight :: wz) [.ref (ad (300 + p)), .int x, .ref (ad 1)] Z Q := by
  refine Cz.of (by decide +kernel) (by simp [lg_sl, Value.category]) ?_
  show G _ _ _ _ _ _ _ _ [(0, _), (1, _), (2, _)] _ _
  have hp0 : zhs Z (ad (300 + p)) (.inr (8, [.int (sI S (300 + p) 0), .int ((sI S (300 + p) 0 * 3 + 2) * 160 + nI p), .ref (ad (100 + 3 * sN S (2000 + p))), .int (sI S (300 + p) 3), va_rf ((sR S (300 + p) 4).map (fun n => ad (220 + 2 * n)))])) := hR.pin hp
  have h1s : zhs Z (ad 1) (.inr (1, [.ref (ad 11), .ref (ad 12), .ref (ad 13), .ref (ad 14), .ref (ad 15), .int (nI (sN S 0)), .int (nI (sN S 1)), .int (nI (sN S 2)), .int (nI (sN S 7))])) := hR.k 1 (by decide)
  refine g_iload_n d_Pi_builtInWeight_0 rfl 1 rfl ?_
  by_cases s1_0 : x = 0
  · subst s1_0
    refine g_lookup (off := 27) (tgt := 28) d_Pi_builtInWeight_1 (by decide) (by decide +kernel) (by decide) ?_
    refine g_aload_nq d_Pi_builtInWeight_28 rfl 0 rfl ?_
    refine g_get d_Pi_builtInWeight_29 f_Pi_15_Pi (by assumption) (by first | rfl | assumption) ?_
    refine g_ifnonnullq (tgt := 48) d_Pi_builtInWeight_32 (by decide) (fun q32 h32 => ?_) (fun h32 => ?_)
    · refine g_iconst (v := 0) d_Pi_builtInWeight_48 rfl ?_
      refine g_iret d_Pi_builtInWeight_49 ?_
      unfold pbw at hQ
      rw [if_pos rfl, if_neg (fun z => by rw [z.1] at h32; cases h32)] at hQ
      exact hQ
    · refine g_aload_nq d_Pi_builtInWeight_35 rfl 0 rfl ?_
      refine g_get d_Pi_builtInWeight_36 f_Pi_25_Pi (by assumption) (by first | rfl | assumption) ?_
      refine g_bipush (v := 9) d_Pi_builtInWeight_39 rfl ?_
      refine g_icmp_eq (tgt := 48) d_Pi_builtInWeight_41 (by decide) (fun h41 => ?_) (fun h41 => ?_)
      · refine g_iconst (v := 0) d_Pi_builtInWeight_48 rfl ?_
        refine g_iret d_Pi_builtInWeight_49 ?_
        unfold pbw at hQ
        rw [if_pos rfl] at hQ
        first | (rw [if_pos ⟨Option.map_eq_none_iff.mp h32, h41⟩] at hQ; exact hQ) | (rw [if_neg (fun z => z.2 h41)] at hQ; exact hQ)
      · refine g_iconst (v := 2) d_Pi_builtInWeight_44 rfl ?_
        refine g_goto (tgt := 49) d_Pi_builtInWeight_45 (by decide) ?_
        refine g_iret d_Pi_builtInWeight_49 ?_
        unfold pbw at hQ
        rw [if_pos rfl] at hQ
        first | (rw [if_pos ⟨Option.map_eq_none_iff.mp h32, h41⟩] at hQ; exact hQ) | (rw [if_neg (fun z => z.2 h41)] at hQ; exact hQ)
  by_cases s1_1 : x = 1
  · subst s1_1
    refine g_lookup (off := 49) (tgt := 50) d_Pi_builtInWeight_1 (by decide) (by decide +kernel) (by decide) ?_
    refine g_aload_nq d_Pi_builtInWeight_50 rfl 2 rfl ?_
    refine g_aload_nq d_Pi_builtInWeight_51 rfl 0 rfl ?_
    refine g_callV d_Pi_builtInWeight_52 k_Sc_worstVerdictBelow l_Pi_35 i_Sc_worstVerdictBelow rfl q_Sc_Sc_worstVerdictBelow_Sc h1s (by rfl) (by rfl) (Nat.le_of_ble_eq_true rfl) (by decide) (C_Sc_worstVerdictBelow hR hp hs hc ⟨_, rfl, ?_⟩)
    refine g_iret d_Pi_builtInWeight_55 ?_
    unfold pbw at hQ
    rw [if_neg (by decide), if_pos rfl] at hQ
    exact hQ
  refine g_lookup (off := 55) (tgt := 56) d_Pi_builtInWeight_1 (by decide) (by show Op.lookupswitch.offset [(0, 27), (1, 49)] 55 (x).toInt = 55; rw [lv_osw s1_0 (a := 0) (by decide), lv_osw s1_1 (a := 1) (by decide)]; rfl) (by decide) ?_
  refine g_iconst (v := 0) d_Pi_builtInWeight_56 rfl ?_
  refine g_iret d_Pi_builtInWeight_57 ?_
  unfold pbw at hQ
  rw [if_neg s1_0, if_neg s1_1] at hQ
  exact hQ

set_option maxHeartbeats 4000000 in
set_option maxRecDepth 100000 in
theorem C_Pi_valueOf {w : zC} {Z : zZ} {Q : zR → zZ → Prop} {ad : Nat → Nat} {S : ST} (hR : Rep w ad S Z) {p : Nat} {t x : Int32} (hp : p < sN S 2) (hc : ciPin S) (hQ : Q (.inl (some (.long (qv S p t x)))) Z) : Cz w (2, 42) y_Pi_valueOf (Cond.code y_Pi_valueOf c_Pi_valueOf 3 r_Pi_valueOf :: wz) [.ref (ad (300 + p)), .int t, .int x] Z Q := by
  refine Cz.of (by decide +kernel) (by simp [lg_sl, Value.category]) ?_
  show G _ _ _ _ _ _ _ _ [(0, _), (1, _), (2, _)] _ _
  obtain ⟨-, hpt, hnp⟩ := hc p hp
  have hp0 : zhs Z (ad (300 + p)) (.inr (8, [.int (sI S (300 + p) 0), .int ((sI S (300 + p) 0 * 3 + 2) * 160 + nI p), .ref (ad (100 + 3 * sN S (2000 + p))), .int (sI S (300 + p) 3), va_rf ((sR S (300 + p) 4).map (fun n => ad (220 + 2 * n)))])) := hR.pin hp
  have hq0 : zhs Z (ad (100 + 3 * sN S (2000 + p))) (.inr (6, [.int (sI S (100 + 3 * (sN S (2000 + p))) 0), .int ((sI S (100 + 3 * (sN S (2000 + p))) 0 * 3 + 0) * 160 + nI (sN S (2000 + p))), .ref (ad (101 + 3 * (sN S (2000 + p)))), .int (sI S (100 + 3 * (sN S (2000 + p))) 3), .ref (ad (102 + 3 * (sN S (2000 + p))))])) := (hR.part hpt).1
  have hq2 := (hR.part hpt).2.2
  refine g_iload_n d_Pi_valueOf_0 rfl 1 rfl ?_
  rcases sw_14_18 t with h1 | rfl | rfl | rfl | rfl | rfl
  · refine g_tableOut (tgt := 79) d_Pi_valueOf_1 h1 (by decide) ?_
    refine g_lconst (v := 0) d_Pi_valueOf_79 rfl ?_
    refine g_lret d_Pi_valueOf_80 ?_
    unfold qv at hQ
    first | (rw [if_neg (by decide), if_neg (by decide), if_neg (by decide), if_neg (by decide)] at hQ; exact hQ) | (rw [if_neg (fun z => by rw [z] at h1; exact absurd h1 (by decide)), if_neg (fun z => by rw [z] at h1; exact absurd h1 (by decide)), if_neg (fun z => by rw [z] at h1; exact absurd h1 (by decide)), if_neg (fun z => by rw [z] at h1; exact absurd h1 (by decide))] at hQ; exact hQ)
  · refine g_tableIn (tgt := 36) d_Pi_valueOf_1 (by decide) (by decide) rfl (by decide) ?_
    refine g_aload_nq d_Pi_valueOf_36 rfl 0 rfl ?_
    refine g_get d_Pi_valueOf_37 f_Pi_21_Pi (by assumption) (by first | rfl | assumption) ?_
    refine g_iload_n d_Pi_valueOf_40 rfl 2 rfl ?_
    refine g_callV d_Pi_valueOf_41 k_Pa_fieldAt l_Pi_41 i_Pa_fieldAt rfl q_Pa_Pa_fieldAt_Pa hq0 (by rfl) (by rfl) (Nat.le_of_ble_eq_true rfl) (by decide) (C_Pa_fieldAt hq0 hq2 ⟨_, rfl, ?_⟩)
    refine g_lret d_Pi_valueOf_44 ?_
    unfold qv at hQ
    rw [if_pos rfl] at hQ
    exact hQ
  · refine g_tableIn (tgt := 79) d_Pi_valueOf_1 (by decide) (by decide) rfl (by decide) ?_
    refine g_lconst (v := 0) d_Pi_valueOf_79 rfl ?_
    refine g_lret d_Pi_valueOf_80 ?_
    unfold qv at hQ
    first | (rw [if_neg (by decide), if_neg (by decide), if_neg (by decide), if_neg (by decide)] at hQ; exact hQ) | (rw [if_neg (fun z => by rw [z] at h1; exact absurd h1 (by decide)), if_neg (fun z => by rw [z] at h1; exact absurd h1 (by decide)), if_neg (fun z => by rw [z] at h1; exact absurd h1 (by decide)), if_neg (fun z => by rw [z] at h1; exact absurd h1 (by decide))] at hQ; exact hQ)
  · refine g_tableIn (tgt := 45) d_Pi_valueOf_1 (by decide) (by decide) rfl (by decide) ?_
    refine g_aload_nq d_Pi_valueOf_45 rfl 0 rfl ?_
    refine g_get d_Pi_valueOf_46 f_Pi_25_Pi (by assumption) (by first | rfl | assumption) ?_
    refine g_i2l d_Pi_valueOf_49 rfl ?_
    refine g_lret d_Pi_valueOf_50 ?_
    unfold qv at hQ
    rw [if_neg (by decide), if_pos rfl] at hQ
    exact hQ
  · refine g_tableIn (tgt := 51) d_Pi_valueOf_1 (by decide) (by decide) rfl (by decide) ?_
    refine g_aload_nq d_Pi_valueOf_51 rfl 0 rfl ?_
    refine g_get d_Pi_valueOf_52 f_Pi_15_Pi (by assumption) (by first | rfl | assumption) ?_
    cases hn : sR S (300 + p) 4 with
    | none =>
      simp only [Option.map_none, va_rf]
      refine g_ifnonnullN d_Pi_valueOf_55 ?_
      refine g_ldc2 v_Pi_45 d_Pi_valueOf_58 ?_
      refine g_goto (tgt := 72) d_Pi_valueOf_61 (by decide) ?_
      refine g_lret d_Pi_valueOf_72 ?_
      unfold qv at hQ
      rw [if_neg (by decide), if_neg (by decide), if_pos rfl, hn] at hQ
      exact hQ
    | some n9 =>
      have hn9 := hnp n9 hn
      have hb0 : zhs Z (ad (220 + 2 * n9)) (.inr (7, [.int (sI S (220 + 2 * n9) 0), .int ((sI S (220 + 2 * n9) 0 * 3 + 1) * 160 + nI n9), .ref (ad (221 + 2 * n9)), .int (sI S (220 + 2 * n9) 3), .int (sI S (220 + 2 * n9) 4), .int (sI S (220 + 2 * n9) 5)])) := (hR.net hn9).1
      simp only [Option.map_some, va_rf]
      refine g_ifnonnull (tgt := 64) d_Pi_valueOf_55 (by decide) ?_
      refine g_aload_nq d_Pi_valueOf_64 rfl 0 rfl ?_
      refine g_get d_Pi_valueOf_65 f_Pi_15_Pi hp0 (by rfl) ?_
      rw [hn]
      simp only [Option.map_some, va_rf]
      refine g_callV d_Pi_valueOf_68 k_Ne_name l_Pi_47 i_Ne_name rfl q_Ne_Ne_name_Ne hb0 (by rfl) (by rfl) (Nat.le_of_ble_eq_true rfl) (by decide) (C_Ne_name hb0 ⟨_, rfl, ?_⟩)
      refine g_i2l d_Pi_valueOf_71 rfl ?_
      refine g_lret d_Pi_valueOf_72 ?_
      unfold qv at hQ
      rw [if_neg (by decide), if_neg (by decide), if_pos rfl, hn] at hQ
      exact hQ
  · refine g_tableIn (tgt := 73) d_Pi_valueOf_1 (by decide) (by decide) rfl (by decide) ?_
    refine g_aload_nq d_Pi_valueOf_73 rfl 0 rfl ?_
    refine g_callU d_Pi_valueOf_74 k_Th_sheet l_Pi_50 e_Pi_Th_sheet z_Th_sheet (by decide +kernel) rfl i_Th_sheet rfl q_Pi_Pi_sheet_Th (by assumption) (by rfl) (by rfl) (Nat.le_of_ble_eq_true rfl) (by decide) (C_Th_sheet (by simp [thk]) hp0 rfl ⟨_, rfl, ?_⟩)
    refine g_i2l d_Pi_valueOf_77 rfl ?_
    refine g_lret d_Pi_valueOf_78 ?_
    unfold qv at hQ
    rw [if_neg (by decide), if_neg (by decide), if_neg (by decide), if_pos rfl] at hQ
    exact hQ
