/-! the law: its loop -/
theorem sw_0_16 (x : Int32) : (x.toInt < 0 ∨ 16 < x.toInt) ∨ x = 0 ∨ x = 1 ∨ x = 2 ∨ x = 3 ∨ x = 4 ∨ x = 5 ∨ x = 6 ∨ x = 7 ∨ x = 8 ∨ x = 9 ∨ x = 10 ∨ x = 11 ∨ x = 12 ∨ x = 13 ∨ x = 14 ∨ x = 15 ∨ x = 16 := by
  by_cases h0 : x = 0
  · simp [h0]
  have n0 : ¬ x.toInt = 0 := fun q => h0 (Int32.toInt_inj.mp (q.trans (by decide)))
  by_cases h1 : x = 1
  · simp [h1]
  have n1 : ¬ x.toInt = 1 := fun q => h1 (Int32.toInt_inj.mp (q.trans (by decide)))
  by_cases h2 : x = 2
  · simp [h2]
  have n2 : ¬ x.toInt = 2 := fun q => h2 (Int32.toInt_inj.mp (q.trans (by decide)))
  by_cases h3 : x = 3
  · simp [h3]
  have n3 : ¬ x.toInt = 3 := fun q => h3 (Int32.toInt_inj.mp (q.trans (by decide)))
  by_cases h4 : x = 4
  · simp [h4]
  have n4 : ¬ x.toInt = 4 := fun q => h4 (Int32.toInt_inj.mp (q.trans (by decide)))
  by_cases h5 : x = 5
  · simp [h5]
  have n5 : ¬ x.toInt = 5 := fun q => h5 (Int32.toInt_inj.mp (q.trans (by decide)))
  by_cases h6 : x = 6
  · simp [h6]
  have n6 : ¬ x.toInt = 6 := fun q => h6 (Int32.toInt_inj.mp (q.trans (by decide)))
  by_cases h7 : x = 7
  · simp [h7]
  have n7 : ¬ x.toInt = 7 := fun q => h7 (Int32.toInt_inj.mp (q.trans (by decide)))
  by_cases h8 : x = 8
  · simp [h8]
  have n8 : ¬ x.toInt = 8 := fun q => h8 (Int32.toInt_inj.mp (q.trans (by decide)))
  by_cases h9 : x = 9
  · simp [h9]
  have n9 : ¬ x.toInt = 9 := fun q => h9 (Int32.toInt_inj.mp (q.trans (by decide)))
  by_cases h10 : x = 10
  · simp [h10]
  have n10 : ¬ x.toInt = 10 := fun q => h10 (Int32.toInt_inj.mp (q.trans (by decide)))
  by_cases h11 : x = 11
  · simp [h11]
  have n11 : ¬ x.toInt = 11 := fun q => h11 (Int32.toInt_inj.mp (q.trans (by decide)))
  by_cases h12 : x = 12
  · simp [h12]
  have n12 : ¬ x.toInt = 12 := fun q => h12 (Int32.toInt_inj.mp (q.trans (by decide)))
  by_cases h13 : x = 13
  · simp [h13]
  have n13 : ¬ x.toInt = 13 := fun q => h13 (Int32.toInt_inj.mp (q.trans (by decide)))
  by_cases h14 : x = 14
  · simp [h14]
  have n14 : ¬ x.toInt = 14 := fun q => h14 (Int32.toInt_inj.mp (q.trans (by decide)))
  by_cases h15 : x = 15
  · simp [h15]
  have n15 : ¬ x.toInt = 15 := fun q => h15 (Int32.toInt_inj.mp (q.trans (by decide)))
  by_cases h16 : x = 16
  · simp [h16]
  have n16 : ¬ x.toInt = 16 := fun q => h16 (Int32.toInt_inj.mp (q.trans (by decide)))
  exact Or.inl (by omega)
theorem lp_in {L n : Nat} (hL : L ≤ 3072) (hn : n ≤ 512) (h : ¬ nI L - 6 < nI (6 * n)) : 6 * n + 6 ≤ L := by
  rw [Int32.lt_iff_toInt_lt, Int32.toInt_sub, nI_toInt (by omega), nI_toInt (by omega), show (6 : Int32).toInt = 6 by decide, Int.bmod_eq_of_le (by omega) (by omega)] at h
  omega
theorem La_back {w : zC} {Post : zR → zZ → Prop} {Z : zZ} {b L n : Nat} {xs : Nat → Int32} {ad ad' : Nat → Nat} (he : ad' 57 = ad 57 ∧ ad' 600 = ad 600 ∧ ad' 0 = ad 0) (h : G w x code 7 ret (14, 510) Post 23 [(4, .int (nI (6 * (n + 1)))), (3, .ref (ad' 57)), (2, .ref (ad' 600)), (1, .ref (ad' 0)), (0, .ref b)] [] Z) : G w x code 7 ret (14, 510) Post 1217 [(4, .int (nI (6 * n))), (3, .ref (ad 57)), (2, .ref (ad 600)), (1, .ref (ad 0)), (0, .ref b)] [] Z := by
  rw [he.1, he.2.1, he.2.2] at h
  refine g_iinc (k := 0) d_La_law_1217 rfl (show nI (6 * n) + 6 = nI (6 * (n + 1)) by rw [show (6 : Int32) = nI 6 from rfl, nI_add]; congr 1) (by decide) rfl ?_
  refine g_goto (tgt := 23) d_La_law_1220 (by decide) ?_
  exact h
set_option maxHeartbeats 4000000 in
theorem La_loop {w : zC} {Post : zR → zZ → Prop} {b L : Nat} {xs : Nat → Int32} {adK adV : Nat → Nat} (hs : zScr w b L xs) (hK : zLit w adK adV) (hT : zThr w) (hL : L ≤ 3072) (hP : ∀ Z, Post (.inl (some (.int 1))) Z) : ∀ (k n : Nat) (ad : Nat → Nat) (S : ST) (Z : zZ), n + k = 512 → Rep w ad S Z → Sim n S → bAll S Z (3 * k) (164 * k) → G w x code 7 ret (14, 510) Post 23 [(4, .int (nI (6 * n))), (3, .ref (ad 57)), (2, .ref (ad 600)), (1, .ref (ad 0)), (0, .ref b)] [] Z := by
  intro k
  induction k with
  | zero =>
    intro n ad S Z hnk hR hS hb
    refine g_iload d_La_law_23 0 rfl ?_
    refine g_aload_nq d_La_law_25 rfl 4 rfl ?_
    refine g_xlen hs d_La_law_26 ?_
    refine g_bipush (v := 6) d_La_law_27 rfl ?_
    refine g_isub d_La_law_29 ?_
    refine g_icmp_gt (tgt := 1223) d_La_law_30 (by decide) (fun _ => ?_) (fun h => absurd (lp_in hL (by omega) h) (by omega))
    refine g_iconst (v := 1) d_La_law_1223 rfl ?_
    exact g_zret d_La_law_1224 rfl (hP Z)
  | succ k ih =>
    intro n ad S Z hnk hR hS hb
    refine g_iload d_La_law_23 0 rfl ?_
    refine g_aload_nq d_La_law_25 rfl 4 rfl ?_
    refine g_xlen hs d_La_law_26 ?_
    refine g_bipush (v := 6) d_La_law_27 rfl ?_
    refine g_isub d_La_law_29 ?_
    refine g_icmp_gt (tgt := 1223) d_La_law_30 (by decide) (fun _ => ?_) (fun h => ?_)
    · refine g_iconst (v := 1) d_La_law_1223 rfl ?_
      exact g_zret d_La_law_1224 rfl (hP Z)
    have hn := lp_in hL (by omega) h
    have kont : ∀ ad' S' Z', Rep w ad' S' Z' → Sim (n + 1) S' → bAll S' Z' (3 * k) (164 * k) → (ad' 57 = ad 57 ∧ ad' 600 = ad 600 ∧ ad' 0 = ad 0) → G w x code 7 ret (14, 510) Post 1217 [(4, .int (nI (6 * n))), (3, .ref (ad 57)), (2, .ref (ad 600)), (1, .ref (ad 0)), (0, .ref b)] [] Z' := fun ad' S' Z' r s bb e => La_back (L := L) (xs := xs) e (ih (n + 1) ad' S' Z' (by omega) r s bb)
    refine g_aload_nq d_La_law_33 rfl 4 rfl ?_
    refine g_iload d_La_law_34 0 rfl ?_
    refine g_xld hs (i := 6 * n) (by omega) hL d_La_law_36 ?_
    refine g_bipush (v := 31) d_La_law_37 rfl ?_
    refine g_iand d_La_law_39 ?_
    generalize xs (6 * n) &&& 31 = v
    rcases sw_0_16 v with h40 | rfl | rfl | rfl | rfl | rfl | rfl | rfl | rfl | rfl | rfl | rfl | rfl | rfl | rfl | rfl | rfl | rfl
    · exact g_tableOut (tgt := 1217) d_La_law_40 h40 (by decide) (kont ad S Z hR hS.up (bA hb (fun _ _ _ => rfl) (by omega) (by omega)) ⟨rfl, rfl, rfl⟩)
    · exact g_tableIn (tgt := 124) d_La_law_40 (by decide) (by decide) rfl (by decide) (La_table_w hs hK hT hn hL hR hS hb kont)
    · exact g_tableIn (tgt := 211) d_La_law_40 (by decide) (by decide) rfl (by decide) (La_part_w hs hK hT hn hL hR hS hb kont)
    · exact g_tableIn (tgt := 267) d_La_law_40 (by decide) (by decide) rfl (by decide) (La_net_w hs hK hT hn hL hR hS hb kont)
    · exact g_tableIn (tgt := 335) d_La_law_40 (by decide) (by decide) rfl (by decide) (La_pin_w hs hK hT hn hL hR hS hb kont)
    · exact g_tableIn (tgt := 415) d_La_law_40 (by decide) (by decide) rfl (by decide) (La_join_w hs hK hT hn hL hR hS hb kont)
    · exact g_tableIn (tgt := 490) d_La_law_40 (by decide) (by decide) rfl (by decide) (La_field_w hs hK hT hn hL hR hS hb kont)
    · exact g_tableIn (tgt := 609) d_La_law_40 (by decide) (by decide) rfl (by decide) (La_end_w hs hK hT hn hL hR hS hb kont)
    · exact g_tableIn (tgt := 760) d_La_law_40 (by decide) (by decide) rfl (by decide) (La_unit_w hs hK hT hn hL hR hS hb kont)
    · exact g_tableIn (tgt := 785) d_La_law_40 (by decide) (by decide) rfl (by decide) (La_rule_w hs hK hT hn hL hR hS hb kont)
    · exact g_tableIn (tgt := 829) d_La_law_40 (by decide) (by decide) rfl (by decide) (La_off_w hs hK hT hn hL hR hS hb kont)
    · exact g_tableIn (tgt := 920) d_La_law_40 (by decide) (by decide) rfl (by decide) (La_run_w hs hK hT hn hL hR hS hb kont (by omega))
    · exact g_tableIn (tgt := 933) d_La_law_40 (by decide) (by decide) rfl (by decide) (La_remark_w hs hK hT hn hL hR hS hb kont)
    · exact g_tableIn (tgt := 1001) d_La_law_40 (by decide) (by decide) rfl (by decide) (La_closed_w hs hK hT hn hL hR hS hb kont)
    · exact g_tableIn (tgt := 1069) d_La_law_40 (by decide) (by decide) rfl (by decide) (La_waive_w hs hK hT hn hL hR hS hb kont)
    · exact g_tableIn (tgt := 1168) d_La_law_40 (by decide) (by decide) rfl (by decide) (La_next_w hs hK hT hn hL hR hS hb kont)
    · exact g_tableIn (tgt := 1181) d_La_law_40 (by decide) (by decide) rfl (by decide) (La_offRule_w hs hK hT hn hL hR hS hb kont)
    · exact g_tableIn (tgt := 1206) d_La_law_40 (by decide) (by decide) rfl (by decide) (La_clear_w hs hK hT hn hL hR hS hb kont)
