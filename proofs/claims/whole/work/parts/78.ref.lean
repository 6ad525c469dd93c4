/-! The reference: table, part, net, pin, join, field, end, off -/
theorem le_pred {v : Int32} {n : Nat} (hn : n < 2 ^ 30) : v ≤ nI n ↔ ¬ nI (n + 1) ≤ v := by
  rw [Int32.le_iff_toInt_le, Int32.le_iff_toInt_le, nI_toInt (by omega), nI_toInt (by omega)]
  omega
def zf8 (g : Nat → Int64) (b : Nat) : Nat → Nat → Nat → Int64
  | 0, _ => g
  | m + 1, i => zf8 (vp_updL g (b + i) 0) b m (i + 1)
set_option maxHeartbeats 4000000 in
set_option maxRecDepth 100000 in
theorem C_Mo_table {w : zC} {Z : zZ} {Q : zR → zZ → Prop} {ad : Nat → Nat} {S : ST} (hR : Rep w ad S Z) (hL : ciLive S) {x y v : Int32} (hI : ¬ (inr x 10 ∧ inr y 10) → ∀ Z', Rep w ad (thS S 1) Z' → Z'.2.2 = Z.2.2 → Q (.inl (some (.int (0)))) Z') (hA : inr x 10 → inr y 10 → ¬ inr v 3 → ∀ Z', Rep w ad (thS S 2) Z' → Z'.2.2 = Z.2.2 → Q (.inl (some (.int (0)))) Z') (hN : ∀ a b, a < 10 → b < 10 → x = nI a → y = nI b → inr v 3 → ∀ Z', Rep w ad (wI (thS S 0) 701 (upd (upd (sI S 701) (10 * a + b) v) (10 * b + a) v)) Z' → Z'.2.2 = Z.2.2 → Q (.inl (some (.int (zb (¬ sI S 701 (10 * a + b) = v))))) Z') : Cz w (1, 25) y_Mo_table (Cond.code y_Mo_table c_Mo_table 5 r_Mo_table :: wz) [.ref (ad 600), .int x, .int y, .int v] Z Q := by
  refine Cz.of (by decide +kernel) (by simp [lg_sl, Value.category]) ?_
  show G _ _ _ _ _ _ _ _ [(0, _), (1, _), (2, _), (3, _)] _ _
  have hm : zhs Z (ad 600) (.inr (10, [.int (sI S 600 0), .ref (ad 701), .int (nI (sN S 20)), .int (nI (sN S 21)), .int (nI (sN S 22)), .ref (ad 705), .ref (ad 706), .ref (ad 707), .ref (ad 708), .ref (ad 709), .ref (ad 710), .ref (ad 711), .int (nI (sN S 23)), .ref (ad 713), .ref (ad 714), .ref (ad 715), .ref (ad 716), .int (nI (sN S 24)), .int (nI (sN S 25)), .ref (ad 719), .ref (ad 720), .ref (ad 721), .ref (ad 722), .ref (ad 723), .ref (ad 724), .int (sI S 600 25), .ref (ad 726), .ref (ad 727), .ref (ad 728), .int (sI S 600 29), .int (nI (sN S 26)), .ref (ad 731), .ref (ad 732), .int (nI (sN S 27)), .int (nI (sN S 28)), .int (nI (sN S 29)), .int (nI (sN S 30)), .ref (ad 737), .int (nI (sN S 31)), .int (nI (sN S 32)), .int (sI S 600 40), .ref (ad 741)])) := hR.m
  have m701 : zhs Z (ad 701) (xi w 100 (sI S 701)) := hR.ma 701 (by decide)
  have J : ∀ i j, mL i → mL j → i ≠ j → ad i ≠ ad j := fun i j hi hj hne => hR.inj (lvL hi) (lvL hj) hne
  obtain ⟨Z0, hZ0⟩ : ∃ Z0, Z0 = Z := ⟨_, rfl⟩
  have hB : Z.2.2 = Z0.2.2 := by rw [hZ0]
  refine g_aload_nq d_Mo_table_0 rfl 0 rfl ?_
  refine g_iload_n d_Mo_table_1 rfl 1 rfl ?_
  refine g_callS d_Mo_table_2 k_Mo_isKind l_Mo_100 s_Mo_isKind (by rfl) (by rfl) (Nat.le_of_ble_eq_true rfl) (by decide) (C_Mo_isKind ⟨_, rfl, ?_⟩)
  first | refine g_if_eqB (tgt := 15) d_Mo_table_5 (by decide) (fun h5 => ?_) (fun h5 => ?_) | refine g_if_eq (tgt := 15) d_Mo_table_5 (by decide) (fun h5 => ?_) (fun h5 => ?_)
  · have hF := hI (fun z => h5 z.1)
    refine g_iconst (v := 1) d_Mo_table_15 rfl ?_
    refine g_goto (tgt := 33) d_Mo_table_16 (by decide) ?_
    refine g_put d_Mo_table_33 w_Mo_91_Mo (by assumption) (by first | rfl | exact zb_nar _) (by first | rfl | exact zb_fit _ | exact zrf_fit _) (by first | exact Nat.le_of_ble_eq_true rfl | omega) ?_
    refine gen_putI (P := fun z => G w y_Mo_table c_Mo_table 5 r_Mo_table (1, 25) Q _ _ _ z) hR (i := 600) lv6 c6_0 (fun Z1 e1 hR => ?_)
    have m701 := zhs_put_ne' e1 m701 (J 701 600 (by decide) (by decide) (by decide))
    have hm := zhs_put_same' e1 hm
    simp only [List.set] at hm
    have hB : Z1.2.2 = Z0.2.2 := by rw [← e1]; exact hB
    refine g_aload_nq d_Mo_table_36 rfl 0 rfl ?_
    refine g_get d_Mo_table_37 f_Mo_91_Mo (by assumption) (by first | rfl | assumption) ?_
    first | refine g_if_eqB (tgt := 45) d_Mo_table_40 (by decide) (fun h40 => ?_) (fun h40 => ?_) | refine g_if_eq (tgt := 45) d_Mo_table_40 (by decide) (fun h40 => ?_) (fun h40 => ?_)
    · exact absurd h40 (by decide)
    · refine g_iconst (v := 0) d_Mo_table_43 rfl ?_
      refine g_zret d_Mo_table_44 ?_ ?_
      · first | rfl | exact zb_nar _ | exact zb_narc (by assumption)
      · exact hF _ hR (by rw [hB, hZ0])
  · refine g_iload_n d_Mo_table_8 rfl 2 rfl ?_
    refine g_callS d_Mo_table_9 k_Mo_isKind l_Mo_100 s_Mo_isKind (by rfl) (by rfl) (Nat.le_of_ble_eq_true rfl) (by decide) (C_Mo_isKind ⟨_, rfl, ?_⟩)
    first | refine g_if_neB (tgt := 19) d_Mo_table_12 (by decide) (fun h12 => ?_) (fun h12 => ?_) | refine g_if_ne (tgt := 19) d_Mo_table_12 (by decide) (fun h12 => ?_) (fun h12 => ?_)
    · refine g_iload_n d_Mo_table_19 rfl 3 rfl ?_
      refine g_if_lt (tgt := 28) d_Mo_table_20 (by decide) (fun h20 => ?_) (fun h20 => ?_)
      · have hF := hA h5 h12 (fun z => z.1 h20)
        refine g_iconst (v := 2) d_Mo_table_28 rfl ?_
        refine g_goto (tgt := 33) d_Mo_table_29 (by decide) ?_
        refine g_put d_Mo_table_33 w_Mo_91_Mo (by assumption) (by first | rfl | exact zb_nar _) (by first | rfl | exact zb_fit _ | exact zrf_fit _) (by first | exact Nat.le_of_ble_eq_true rfl | omega) ?_
        refine gen_putI (P := fun z => G w y_Mo_table c_Mo_table 5 r_Mo_table (1, 25) Q _ _ _ z) hR (i := 600) lv6 c6_0 (fun Z1 e1 hR => ?_)
        have m701 := zhs_put_ne' e1 m701 (J 701 600 (by decide) (by decide) (by decide))
        have hm := zhs_put_same' e1 hm
        simp only [List.set] at hm
        have hB : Z1.2.2 = Z0.2.2 := by rw [← e1]; exact hB
        refine g_aload_nq d_Mo_table_36 rfl 0 rfl ?_
        refine g_get d_Mo_table_37 f_Mo_91_Mo (by assumption) (by first | rfl | assumption) ?_
        first | refine g_if_eqB (tgt := 45) d_Mo_table_40 (by decide) (fun h40 => ?_) (fun h40 => ?_) | refine g_if_eq (tgt := 45) d_Mo_table_40 (by decide) (fun h40 => ?_) (fun h40 => ?_)
        · exact absurd h40 (by decide)
        · refine g_iconst (v := 0) d_Mo_table_43 rfl ?_
          refine g_zret d_Mo_table_44 ?_ ?_
          · first | rfl | exact zb_nar _ | exact zb_narc (by assumption)
          · exact hF _ hR (by rw [hB, hZ0])
      · refine g_iload_n d_Mo_table_23 rfl 3 rfl ?_
        refine g_iconst (v := 2) d_Mo_table_24 rfl ?_
        refine g_icmp_le (tgt := 32) d_Mo_table_25 (by decide) (fun h25 => ?_) (fun h25 => ?_)
        · have hv : inr v 3 := ⟨h20, (le_pred (n := 2) (by decide)).mp h25⟩
          obtain ⟨a, ha, rfl⟩ := bel (n := 10) h5 (by decide)
          obtain ⟨b, hb9, rfl⟩ := bel (n := 10) h12 (by decide)
          refine g_iconst (v := 0) d_Mo_table_32 rfl ?_
          refine g_put d_Mo_table_33 w_Mo_91_Mo (by assumption) (by first | rfl | exact zb_nar _) (by first | rfl | exact zb_fit _ | exact zrf_fit _) (by first | exact Nat.le_of_ble_eq_true rfl | omega) ?_
          refine gen_putI (P := fun z => G w y_Mo_table c_Mo_table 5 r_Mo_table (1, 25) Q _ _ _ z) hR (i := 600) lv6 c6_0 (fun Z1 e1 hR => ?_)
          have m701 := zhs_put_ne' e1 m701 (J 701 600 (by decide) (by decide) (by decide))
          have hm := zhs_put_same' e1 hm
          simp only [List.set] at hm
          have hB : Z1.2.2 = Z0.2.2 := by rw [← e1]; exact hB
          refine g_aload_nq d_Mo_table_36 rfl 0 rfl ?_
          refine g_get d_Mo_table_37 f_Mo_91_Mo (by assumption) (by first | rfl | assumption) ?_
          first | refine g_if_eqB (tgt := 45) d_Mo_table_40 (by decide) (fun h40 => ?_) (fun h40 => ?_) | refine g_if_eq (tgt := 45) d_Mo_table_40 (by decide) (fun h40 => ?_) (fun h40 => ?_)
          · refine g_aload_nq d_Mo_table_45 rfl 0 rfl ?_
            refine g_get d_Mo_table_46 f_Mo_7_Mo (by assumption) (by first | rfl | assumption) ?_
            refine g_bipush (v := 10) d_Mo_table_49 rfl ?_
            refine g_iload_n d_Mo_table_51 rfl 1 rfl ?_
            refine g_imul d_Mo_table_52 ?_
            rw [show (10 : Int32) = nI 10 from rfl, pk_mul]
            refine g_iload_n d_Mo_table_53 rfl 2 rfl ?_
            refine g_iadd d_Mo_table_54 ?_
            rw [nI_add]
            refine g_iald d_Mo_table_55 (by assumption) (vp_in_nI (by omega) (by decide)) ?_
            rw [nI_clamp (by omega)]
            refine g_iload_n d_Mo_table_56 rfl 3 rfl ?_
            refine g_icmp_eq (tgt := 64) d_Mo_table_57 (by decide) (fun h57 => ?_) (fun h57 => ?_)
            · have hF := hN a b ha hb9 rfl rfl hv
              rw [zb_f (fun z => z h57)] at hF
              refine g_iconst (v := 0) d_Mo_table_64 rfl ?_
              refine g_istore d_Mo_table_65 (by decide) rfl ?_
              show G _ _ _ _ _ _ _ _ [(4, _), (0, _), (1, _), (2, _), (3, _)] _ _
              refine g_aload_nq d_Mo_table_67 rfl 1 rfl ?_
              refine g_get d_Mo_table_68 f_Mo_7_Mo (by assumption) (by first | rfl | assumption) ?_
              refine g_bipush (v := 10) d_Mo_table_71 rfl ?_
              refine g_iload_n d_Mo_table_73 rfl 2 rfl ?_
              refine g_imul d_Mo_table_74 ?_
              rw [show (10 : Int32) = nI 10 from rfl, pk_mul]
              refine g_iload_n d_Mo_table_75 rfl 3 rfl ?_
              refine g_iadd d_Mo_table_76 ?_
              rw [nI_add]
              refine g_iload_n d_Mo_table_77 rfl 4 rfl ?_
              refine g_iast d_Mo_table_78 (by assumption) (vp_in_nI (by omega) (by decide)) ?_
              rw [nI_clamp (by omega)]
              refine gen_putI (P := fun z => G w y_Mo_table c_Mo_table 5 r_Mo_table (1, 25) Q _ _ _ z) hR (i := 701) (lvM (by decide)) cM_701 (fun Z1 e1 hR => ?_)
              have hm := zhs_put_ne' e1 hm (J 600 701 (by decide) (by decide) (by decide))
              have m701 := zhs_put_same' e1 m701
              have hB : Z1.2.2 = Z0.2.2 := by rw [← e1]; exact hB
              refine g_aload_nq d_Mo_table_79 rfl 1 rfl ?_
              refine g_get d_Mo_table_80 f_Mo_7_Mo (by assumption) (by first | rfl | assumption) ?_
              refine g_bipush (v := 10) d_Mo_table_83 rfl ?_
              refine g_iload_n d_Mo_table_85 rfl 3 rfl ?_
              refine g_imul d_Mo_table_86 ?_
              rw [show (10 : Int32) = nI 10 from rfl, pk_mul]
              refine g_iload_n d_Mo_table_87 rfl 2 rfl ?_
              refine g_iadd d_Mo_table_88 ?_
              rw [nI_add]
              refine g_iload_n d_Mo_table_89 rfl 4 rfl ?_
              refine g_iast d_Mo_table_90 (by assumption) (vp_in_nI (by omega) (by decide)) ?_
              rw [nI_clamp (by omega)]
              refine gen_putI (P := fun z => G w y_Mo_table c_Mo_table 5 r_Mo_table (1, 25) Q _ _ _ z) hR (i := 701) (lvM (by decide)) cM_701 (fun Z1 e1 hR => ?_)
              have hm := zhs_put_ne' e1 hm (J 600 701 (by decide) (by decide) (by decide))
              have m701 := zhs_put_same' e1 m701
              have hB : Z1.2.2 = Z0.2.2 := by rw [← e1]; exact hB
              refine g_iload d_Mo_table_91 0 rfl ?_
              refine g_zret d_Mo_table_93 ?_ ?_
              · first | rfl | exact zb_nar _ | exact zb_narc (by assumption)
              · rw [wI_wI] at hR
                exact hF _ hR (by rw [hB, hZ0])
            · have hF := hN a b ha hb9 rfl rfl hv
              rw [zb_t h57] at hF
              refine g_iconst (v := 1) d_Mo_table_60 rfl ?_
              refine g_goto (tgt := 65) d_Mo_table_61 (by decide) ?_
              refine g_istore d_Mo_table_65 (by decide) rfl ?_
              show G _ _ _ _ _ _ _ _ [(4, _), (0, _), (1, _), (2, _), (3, _)] _ _
              refine g_aload_nq d_Mo_table_67 rfl 1 rfl ?_
              refine g_get d_Mo_table_68 f_Mo_7_Mo (by assumption) (by first | rfl | assumption) ?_
              refine g_bipush (v := 10) d_Mo_table_71 rfl ?_
              refine g_iload_n d_Mo_table_73 rfl 2 rfl ?_
              refine g_imul d_Mo_table_74 ?_
              rw [show (10 : Int32) = nI 10 from rfl, pk_mul]
              refine g_iload_n d_Mo_table_75 rfl 3 rfl ?_
              refine g_iadd d_Mo_table_76 ?_
              rw [nI_add]
              refine g_iload_n d_Mo_table_77 rfl 4 rfl ?_
              refine g_iast d_Mo_table_78 (by assumption) (vp_in_nI (by omega) (by decide)) ?_
              rw [nI_clamp (by omega)]
              refine gen_putI (P := fun z => G w y_Mo_table c_Mo_table 5 r_Mo_table (1, 25) Q _ _ _ z) hR (i := 701) (lvM (by decide)) cM_701 (fun Z1 e1 hR => ?_)
              have hm := zhs_put_ne' e1 hm (J 600 701 (by decide) (by decide) (by decide))
              have m701 := zhs_put_same' e1 m701
              have hB : Z1.2.2 = Z0.2.2 := by rw [← e1]; exact hB
              refine g_aload_nq d_Mo_table_79 rfl 1 rfl ?_
              refine g_get d_Mo_table_80 f_Mo_7_Mo (by assumption) (by first | rfl | assumption) ?_
              refine g_bipush (v := 10) d_Mo_table_83 rfl ?_
              refine g_iload_n d_Mo_table_85 rfl 3 rfl ?_
              refine g_imul d_Mo_table_86 ?_
              rw [show (10 : Int32) = nI 10 from rfl, pk_mul]
              refine g_iload_n d_Mo_table_87 rfl 2 rfl ?_
              refine g_iadd d_Mo_table_88 ?_
              rw [nI_add]
              refine g_iload_n d_Mo_table_89 rfl 4 rfl ?_
              refine g_iast d_Mo_table_90 (by assumption) (vp_in_nI (by omega) (by decide)) ?_
              rw [nI_clamp (by omega)]
              refine gen_putI (P := fun z => G w y_Mo_table c_Mo_table 5 r_Mo_table (1, 25) Q _ _ _ z) hR (i := 701) (lvM (by decide)) cM_701 (fun Z1 e1 hR => ?_)
              have hm := zhs_put_ne' e1 hm (J 600 701 (by decide) (by decide) (by decide))
              have m701 := zhs_put_same' e1 m701
              have hB : Z1.2.2 = Z0.2.2 := by rw [← e1]; exact hB
              refine g_iload d_Mo_table_91 0 rfl ?_
              refine g_zret d_Mo_table_93 ?_ ?_
              · first | rfl | exact zb_nar _ | exact zb_narc (by assumption)
              · rw [wI_wI] at hR
                exact hF _ hR (by rw [hB, hZ0])
          · exact absurd rfl h40
        · have hF := hA h5 h12 (fun z => h25 ((le_pred (n := 2) (by decide)).mpr z.2))
          refine g_iconst (v := 2) d_Mo_table_28 rfl ?_
          refine g_goto (tgt := 33) d_Mo_table_29 (by decide) ?_
          refine g_put d_Mo_table_33 w_Mo_91_Mo (by assumption) (by first | rfl | exact zb_nar _) (by first | rfl | exact zb_fit _ | exact zrf_fit _) (by first | exact Nat.le_of_ble_eq_true rfl | omega) ?_
          refine gen_putI (P := fun z => G w y_Mo_table c_Mo_table 5 r_Mo_table (1, 25) Q _ _ _ z) hR (i := 600) lv6 c6_0 (fun Z1 e1 hR => ?_)
          have m701 := zhs_put_ne' e1 m701 (J 701 600 (by decide) (by decide) (by decide))
          have hm := zhs_put_same' e1 hm
          simp only [List.set] at hm
          have hB : Z1.2.2 = Z0.2.2 := by rw [← e1]; exact hB
          refine g_aload_nq d_Mo_table_36 rfl 0 rfl ?_
          refine g_get d_Mo_table_37 f_Mo_91_Mo (by assumption) (by first | rfl | assumption) ?_
          first | refine g_if_eqB (tgt := 45) d_Mo_table_40 (by decide) (fun h40 => ?_) (fun h40 => ?_) | refine g_if_eq (tgt := 45) d_Mo_table_40 (by decide) (fun h40 => ?_) (fun h40 => ?_)
          · exact absurd h40 (by decide)
          · refine g_iconst (v := 0) d_Mo_table_43 rfl ?_
            refine g_zret d_Mo_table_44 ?_ ?_
            · first | rfl | exact zb_nar _ | exact zb_narc (by assumption)
            · exact hF _ hR (by rw [hB, hZ0])
    · have hF := hI (fun z => h12 z.2)
      refine g_iconst (v := 1) d_Mo_table_15 rfl ?_
      refine g_goto (tgt := 33) d_Mo_table_16 (by decide) ?_
      refine g_put d_Mo_table_33 w_Mo_91_Mo (by assumption) (by first | rfl | exact zb_nar _) (by first | rfl | exact zb_fit _ | exact zrf_fit _) (by first | exact Nat.le_of_ble_eq_true rfl | omega) ?_
      refine gen_putI (P := fun z => G w y_Mo_table c_Mo_table 5 r_Mo_table (1, 25) Q _ _ _ z) hR (i := 600) lv6 c6_0 (fun Z1 e1 hR => ?_)
      have m701 := zhs_put_ne' e1 m701 (J 701 600 (by decide) (by decide) (by decide))
      have hm := zhs_put_same' e1 hm
      simp only [List.set] at hm
      have hB : Z1.2.2 = Z0.2.2 := by rw [← e1]; exact hB
      refine g_aload_nq d_Mo_table_36 rfl 0 rfl ?_
      refine g_get d_Mo_table_37 f_Mo_91_Mo (by assumption) (by first | rfl | assumption) ?_
      first | refine g_if_eqB (tgt := 45) d_Mo_table_40 (by decide) (fun h40 => ?_) (fun h40 => ?_) | refine g_if_eq (tgt := 45) d_Mo_table_40 (by decide) (fun h40 => ?_) (fun h40 => ?_)
      · exact absurd h40 (by decide)
      · refine g_iconst (v := 0) d_Mo_table_43 rfl ?_
        refine g_zret d_Mo_table_44 ?_ ?_
        · first | rfl | exact zb_nar _ | exact zb_narc (by assumption)
        · exact hF _ hR (by rw [hB, hZ0])

set_option maxHeartbeats 4000000 in
set_option maxRecDepth 100000 in
theorem L_Mo_part {w : zC} {Q : zR → zZ → Prop} {a c k : Nat} {x : Int32} {fs : List Value} (h40 : k < 40) (m : Nat) : ∀ i g Z, i + m = 8 → zhs Z a (.inr (10, fs)) → fs[2]? = some (.int (nI k)) → fs[6]? = some (.ref c) → zhs Z c (xl w 320 g) → G w y_Mo_part c_Mo_part 3 r_Mo_part (1, 25) Q 75 [(2, .int (nI 8)), (0, .ref a), (1, .int x)] [] (zput Z c (xl w 320 (zf8 g (8 * k) m i))) → G w y_Mo_part c_Mo_part 3 r_Mo_part (1, 25) Q 48 [(2, .int (nI i)), (0, .ref a), (1, .int x)] [] Z := by
  induction m with
  | zero =>
    intro i g Z hi h0 h2 h6 h7 hk
    refine g_iload_n d_Mo_part_48 rfl 0 rfl ?_
    refine g_bipush (v := 8) d_Mo_part_49 rfl ?_
    refine g_icmp_ge (tgt := 75) d_Mo_part_51 (by decide) (fun h51 => ?_) (fun h51 => ?_)
    · rw [zf8, zput_self h7] at hk
      rw [show i = 8 by omega]
      exact hk
    · exact absurd (show (8 : Int32) ≤ nI i from nI_le (a := 8) (by omega) (by omega)) h51
  | succ m ih =>
    intro i g Z hi h0 h2 h6 h7 hk
    have ha : a ≠ c := zhs_ne h0 h7 (by simp)
    refine g_iload_n d_Mo_part_48 rfl 0 rfl ?_
    refine g_bipush (v := 8) d_Mo_part_49 rfl ?_
    refine g_icmp_ge (tgt := 75) d_Mo_part_51 (by decide) (fun h51 => ?_) (fun h51 => ?_)
    · exact absurd h51 (nI_ge (b := 8) (by omega) (by decide))
    · refine g_aload_nq d_Mo_part_54 rfl 1 rfl ?_
      refine g_get d_Mo_part_55 f_Mo_16_Mo (by assumption) (by first | rfl | assumption) ?_
      refine g_bipush (v := 8) d_Mo_part_58 rfl ?_
      refine g_aload_nq d_Mo_part_60 rfl 1 rfl ?_
      refine g_get d_Mo_part_61 f_Mo_97_Mo (by assumption) (by first | rfl | assumption) ?_
      refine g_imul d_Mo_part_64 ?_
      rw [show (8 : Int32) = nI 8 from rfl, pk_mul]
      refine g_iload_n d_Mo_part_65 rfl 0 rfl ?_
      refine g_iadd d_Mo_part_66 ?_
      rw [nI_add]
      refine g_lconst (v := 0) d_Mo_part_67 rfl ?_
      refine g_last d_Mo_part_68 h7 (vp_in_nI (by omega) (by decide)) ?_
      rw [nI_clamp (by omega)]
      refine g_iinc (k := 0) d_Mo_part_69 rfl (nI_1 i) (by decide) rfl ?_
      refine g_goto (tgt := 48) d_Mo_part_72 (by decide) ?_
      exact ih (i + 1) _ _ (by omega) (zhs_put_ne h0 ha) h2 h6 (zhs_put_same h7) (by rw [zput_put]; exact hk)

set_option maxHeartbeats 4000000 in
set_option maxRecDepth 100000 in
theorem C_Mo_part {w : zC} {Z : zZ} {Q : zR → zZ → Prop} {ad : Nat → Nat} {S : ST} (hR : Rep w ad S Z) (hL : ciLive S) {x : Int32} (hc20 : sN S 20 ≤ 40) (hI : ¬ inr x 16 → ∀ Z', Rep w ad (thS S 1) Z' → Z'.2.2 = Z.2.2 → Q (.inl (some (.int (0)))) Z') (hN : inr x 16 → if sN S 20 < 40 then (∀ Z', Rep w ad (wN (wJ (wI (thS S 0) 705 (upd (sI S 705) (sN S 20) x)) 706 (zf8 (sJ S 706) (8 * sN S 20) 8 0)) 20 (sN S 20 + 1)) Z' → Z'.2.2 = Z.2.2 → Q (.inl (some (.int (nI (sN S 20))))) Z') else ∀ Z', Rep w ad (thS S 0) Z' → Z'.2.2 = Z.2.2 → Q (.inl (some (.int (-1)))) Z') : Cz w (1, 25) y_Mo_part (Cond.code y_Mo_part c_Mo_part 3 r_Mo_part :: wz) [.ref (ad 600), .int x] Z Q := by
  refine Cz.of (by decide +kernel) (by simp [lg_sl, Value.category]) ?_
  show G _ _ _ _ _ _ _ _ [(0, _), (1, _)] _ _
  have hm : zhs Z (ad 600) (.inr (10, [.int (sI S 600 0), .ref (ad 701), .int (nI (sN S 20)), .int (nI (sN S 21)), .int (nI (sN S 22)), .ref (ad 705), .ref (ad 706), .ref (ad 707), .ref (ad 708), .ref (ad 709), .ref (ad 710), .ref (ad 711), .int (nI (sN S 23)), .ref (ad 713), .ref (ad 714), .ref (ad 715), .ref (ad 716), .int (nI (sN S 24)), .int (nI (sN S 25)), .ref (ad 719), .ref (ad 720), .ref (ad 721), .ref (ad 722), .ref (ad 723), .ref (ad 724), .int (sI S 600 25), .ref (ad 726), .ref (ad 727), .ref (ad 728), .int (sI S 600 29), .int (nI (sN S 26)), .ref (ad 731), .ref (ad 732), .int (nI (sN S 27)), .int (nI (sN S 28)), .int (nI (sN S 29)), .int (nI (sN S 30)), .ref (ad 737), .int (nI (sN S 31)), .int (nI (sN S 32)), .int (sI S 600 40), .ref (ad 741)])) := hR.m
  have m705 : zhs Z (ad 705) (xi w 40 (sI S 705)) := hR.ma 705 (by decide)
  have m706 : zhs Z (ad 706) (xl w 320 (sJ S 706)) := hR.ma 706 (by decide)
  have J : ∀ i j, mL i → mL j → i ≠ j → ad i ≠ ad j := fun i j hi hj hne => hR.inj (lvL hi) (lvL hj) hne
  obtain ⟨Z0, hZ0⟩ : ∃ Z0, Z0 = Z := ⟨_, rfl⟩
  have hB : Z.2.2 = Z0.2.2 := by rw [hZ0]
  refine g_aload_nq d_Mo_part_0 rfl 0 rfl ?_
  refine g_iload_n d_Mo_part_1 rfl 1 rfl ?_
  refine g_callS d_Mo_part_2 k_Mo_isSheet l_Mo_104 s_Mo_isSheet (by rfl) (by rfl) (Nat.le_of_ble_eq_true rfl) (by decide) (C_Mo_isSheet ⟨_, rfl, ?_⟩)
  first | refine g_if_eqB (tgt := 12) d_Mo_part_5 (by decide) (fun h5 => ?_) (fun h5 => ?_) | refine g_if_eq (tgt := 12) d_Mo_part_5 (by decide) (fun h5 => ?_) (fun h5 => ?_)
  · have hF := hI h5
    refine g_iconst (v := 1) d_Mo_part_12 rfl ?_
    refine g_put d_Mo_part_13 w_Mo_91_Mo (by assumption) (by first | rfl | exact zb_nar _) (by first | rfl | exact zb_fit _ | exact zrf_fit _) (by first | exact Nat.le_of_ble_eq_true rfl | omega) ?_
    refine gen_putI (P := fun z => G w y_Mo_part c_Mo_part 3 r_Mo_part (1, 25) Q _ _ _ z) hR (i := 600) lv6 c6_0 (fun Z1 e1 hR => ?_)
    have m705 := zhs_put_ne' e1 m705 (J 705 600 (by decide) (by decide) (by decide))
    have m706 := zhs_put_ne' e1 m706 (J 706 600 (by decide) (by decide) (by decide))
    have hm := zhs_put_same' e1 hm
    simp only [List.set] at hm
    have hB : Z1.2.2 = Z0.2.2 := by rw [← e1]; exact hB
    refine g_aload_nq d_Mo_part_16 rfl 0 rfl ?_
    refine g_get d_Mo_part_17 f_Mo_91_Mo (by assumption) (by first | rfl | assumption) ?_
    first | refine g_if_eqB (tgt := 25) d_Mo_part_20 (by decide) (fun h20 => ?_) (fun h20 => ?_) | refine g_if_eq (tgt := 25) d_Mo_part_20 (by decide) (fun h20 => ?_) (fun h20 => ?_)
    · exact absurd h20 (by decide)
    · refine g_iconst (v := 0) d_Mo_part_23 rfl ?_
      refine g_iret d_Mo_part_24 ?_
      exact hF _ hR (by rw [hB, hZ0])
  · have hN := hN h5
    refine g_iconst (v := 0) d_Mo_part_8 rfl ?_
    refine g_goto (tgt := 13) d_Mo_part_9 (by decide) ?_
    refine g_put d_Mo_part_13 w_Mo_91_Mo (by assumption) (by first | rfl | exact zb_nar _) (by first | rfl | exact zb_fit _ | exact zrf_fit _) (by first | exact Nat.le_of_ble_eq_true rfl | omega) ?_
    refine gen_putI (P := fun z => G w y_Mo_part c_Mo_part 3 r_Mo_part (1, 25) Q _ _ _ z) hR (i := 600) lv6 c6_0 (fun Z1 e1 hR => ?_)
    have m705 := zhs_put_ne' e1 m705 (J 705 600 (by decide) (by decide) (by decide))
    have m706 := zhs_put_ne' e1 m706 (J 706 600 (by decide) (by decide) (by decide))
    have hm := zhs_put_same' e1 hm
    simp only [List.set] at hm
    have hB : Z1.2.2 = Z0.2.2 := by rw [← e1]; exact hB
    refine g_aload_nq d_Mo_part_16 rfl 0 rfl ?_
    refine g_get d_Mo_part_17 f_Mo_91_Mo (by assumption) (by first | rfl | assumption) ?_
    first | refine g_if_eqB (tgt := 25) d_Mo_part_20 (by decide) (fun h20 => ?_) (fun h20 => ?_) | refine g_if_eq (tgt := 25) d_Mo_part_20 (by decide) (fun h20 => ?_) (fun h20 => ?_)
    · refine g_aload_nq d_Mo_part_25 rfl 0 rfl ?_
      refine g_get d_Mo_part_26 f_Mo_97_Mo (by assumption) (by first | rfl | assumption) ?_
      refine g_bipush (v := 40) d_Mo_part_29 rfl ?_
      refine g_icmp_ne (tgt := 36) d_Mo_part_31 (by decide) (fun h31 => ?_) (fun h31 => ?_)
      · have hlt : sN S 20 < 40 := Nat.lt_of_le_of_ne hc20 (fun z => h31 (by rw [z]; rfl))
        rw [if_pos hlt] at hN
        refine g_aload_nq d_Mo_part_36 rfl 0 rfl ?_
        refine g_get d_Mo_part_37 f_Mo_13_Mo (by assumption) (by first | rfl | assumption) ?_
        refine g_aload_nq d_Mo_part_40 rfl 0 rfl ?_
        refine g_get d_Mo_part_41 f_Mo_97_Mo (by assumption) (by first | rfl | assumption) ?_
        refine g_iload_n d_Mo_part_44 rfl 1 rfl ?_
        refine g_iast d_Mo_part_45 (by assumption) (vp_in_nI (by omega) (by decide)) ?_
        rw [nI_clamp (by omega)]
        refine gen_putI (P := fun z => G w y_Mo_part c_Mo_part 3 r_Mo_part (1, 25) Q _ _ _ z) hR (i := 705) (lvM (by decide)) cM_705 (fun Z1 e1 hR => ?_)
        have m706 := zhs_put_ne' e1 m706 (J 706 705 (by decide) (by decide) (by decide))
        have hm := zhs_put_ne' e1 hm (J 600 705 (by decide) (by decide) (by decide))
        have m705 := zhs_put_same' e1 m705
        have hB : Z1.2.2 = Z0.2.2 := by rw [← e1]; exact hB
        refine g_iconst (v := 0) d_Mo_part_46 rfl ?_
        refine g_istore_n d_Mo_part_47 rfl (by decide) rfl ?_
        show G _ _ _ _ _ _ _ _ [(2, _), (0, _), (1, _)] _ _
        refine L_Mo_part hlt 8 0 (sJ S 706) Z1 (by omega) hm rfl rfl m706 ?_
        refine gen_putJ (P := fun z => G w y_Mo_part c_Mo_part 3 r_Mo_part (1, 25) Q _ _ _ z) hR (i := 706) (lvM (by decide)) cM_706 (fun Z1 e1 hR => ?_)
        have m705 := zhs_put_ne' e1 m705 (J 705 706 (by decide) (by decide) (by decide))
        have hm := zhs_put_ne' e1 hm (J 600 706 (by decide) (by decide) (by decide))
        have m706 := zhs_put_same' e1 m706
        have hB : Z1.2.2 = Z0.2.2 := by rw [← e1]; exact hB
        refine g_aload_nq d_Mo_part_75 rfl 1 rfl ?_
        refine g_dup d_Mo_part_76 rfl ?_
        refine g_get d_Mo_part_77 f_Mo_97_Mo (by assumption) (by first | rfl | assumption) ?_
        refine g_iconst (v := 1) d_Mo_part_80 rfl ?_
        refine g_iadd d_Mo_part_81 ?_
        rw [show (1 : Int32) = nI 1 from rfl, nI_add]
        refine g_put d_Mo_part_82 w_Mo_97_Mo (by assumption) (by first | rfl | exact zb_nar _) (by first | rfl | exact zb_fit _ | exact zrf_fit _) (by first | exact Nat.le_of_ble_eq_true rfl | omega) ?_
        refine gen_putN (P := fun z => G w y_Mo_part c_Mo_part 3 r_Mo_part (1, 25) Q _ _ _ z) hR hL (n := 20) (by decide) c6N_20 (fun Z1 e1 hR hL => ?_)
        have m705 := zhs_put_ne' e1 m705 (J 705 600 (by decide) (by decide) (by decide))
        have m706 := zhs_put_ne' e1 m706 (J 706 600 (by decide) (by decide) (by decide))
        have hm := zhs_put_same' e1 hm
        simp only [List.set] at hm
        have hB : Z1.2.2 = Z0.2.2 := by rw [← e1]; exact hB
        refine g_aload_nq d_Mo_part_85 rfl 1 rfl ?_
        refine g_get d_Mo_part_86 f_Mo_97_Mo (by assumption) (by first | rfl | assumption) ?_
        refine g_iconst (v := 1) d_Mo_part_89 rfl ?_
        refine g_isub d_Mo_part_90 ?_
        rw [nI_pred]
        refine g_iret d_Mo_part_91 ?_
        exact hN _ hR (by rw [hB, hZ0])
      · have h40 : sN S 20 = 40 := (nI_eq (b := 40) (by omega) (by decide)).mp h31
        rw [if_neg (by omega)] at hN
        refine g_iconst (v := (-1)) d_Mo_part_34 rfl ?_
        refine g_iret d_Mo_part_35 ?_
        exact hN _ hR (by rw [hB, hZ0])
    · exact absurd rfl h20

set_option maxHeartbeats 4000000 in
set_option maxRecDepth 100000 in
theorem C_Mo_net {w : zC} {Z : zZ} {Q : zR → zZ → Prop} {ad : Nat → Nat} {S : ST} (hR : Rep w ad S Z) (hL : ciLive S) {x m : Int32} (h21 : sN S 21 ≤ 40) (hI : ¬ inr x 16 → ∀ Z', Rep w ad (thS S 1) Z' → Z'.2.2 = Z.2.2 → Q (.inl (some (.int (0)))) Z') (hA : inr x 16 → ¬ inr m 1000 → ∀ Z', Rep w ad (thS S 2) Z' → Z'.2.2 = Z.2.2 → Q (.inl (some (.int (0)))) Z') (hN : inr x 16 → inr m 1000 → if sN S 21 < 40 then (∀ Z', Rep w ad (wN (wI (wI (thS S 0) 707 (upd (sI S 707) (sN S 21) x)) 708 (upd (sI S 708) (sN S 21) m)) 21 (sN S 21 + 1)) Z' → Z'.2.2 = Z.2.2 → Q (.inl (some (.int (nI (sN S 21))))) Z') else ∀ Z', Rep w ad (thS S 0) Z' → Z'.2.2 = Z.2.2 → Q (.inl (some (.int (-1)))) Z') : Cz w (1, 25) y_Mo_net (Cond.code y_Mo_net c_Mo_net 3 r_Mo_net :: wz) [.ref (ad 600), .int x, .int m] Z Q := by
  refine Cz.of (by decide +kernel) (by simp [lg_sl, Value.category]) ?_
  show G _ _ _ _ _ _ _ _ [(0, _), (1, _), (2, _)] _ _
  have hm : zhs Z (ad 600) (.inr (10, [.int (sI S 600 0), .ref (ad 701), .int (nI (sN S 20)), .int (nI (sN S 21)), .int (nI (sN S 22)), .ref (ad 705), .ref (ad 706), .ref (ad 707), .ref (ad 708), .ref (ad 709), .ref (ad 710), .ref (ad 711), .int (nI (sN S 23)), .ref (ad 713), .ref (ad 714), .ref (ad 715), .ref (ad 716), .int (nI (sN S 24)), .int (nI (sN S 25)), .ref (ad 719), .ref (ad 720), .ref (ad 721), .ref (ad 722), .ref (ad 723), .ref (ad 724), .int (sI S 600 25), .ref (ad 726), .ref (ad 727), .ref (ad 728), .int (sI S 600 29), .int (nI (sN S 26)), .ref (ad 731), .ref (ad 732), .int (nI (sN S 27)), .int (nI (sN S 28)), .int (nI (sN S 29)), .int (nI (sN S 30)), .ref (ad 737), .int (nI (sN S 31)), .int (nI (sN S 32)), .int (sI S 600 40), .ref (ad 741)])) := hR.m
  have m707 : zhs Z (ad 707) (xi w 40 (sI S 707)) := hR.ma 707 (by decide)
  have m708 : zhs Z (ad 708) (xi w 40 (sI S 708)) := hR.ma 708 (by decide)
  have J : ∀ i j, mL i → mL j → i ≠ j → ad i ≠ ad j := fun i j hi hj hne => hR.inj (lvL hi) (lvL hj) hne
  obtain ⟨Z0, hZ0⟩ : ∃ Z0, Z0 = Z := ⟨_, rfl⟩
  have hB : Z.2.2 = Z0.2.2 := by rw [hZ0]
  refine g_aload_nq d_Mo_net_0 rfl 0 rfl ?_
  refine g_iload_n d_Mo_net_1 rfl 1 rfl ?_
  refine g_callS d_Mo_net_2 k_Mo_isSheet l_Mo_104 s_Mo_isSheet (by rfl) (by rfl) (Nat.le_of_ble_eq_true rfl) (by decide) (C_Mo_isSheet ⟨_, rfl, ?_⟩)
  first | refine g_if_neB (tgt := 12) d_Mo_net_5 (by decide) (fun h5 => ?_) (fun h5 => ?_) | refine g_if_ne (tgt := 12) d_Mo_net_5 (by decide) (fun h5 => ?_) (fun h5 => ?_)
  · refine g_iload_n d_Mo_net_12 rfl 2 rfl ?_
    refine g_if_lt (tgt := 23) d_Mo_net_13 (by decide) (fun h13 => ?_) (fun h13 => ?_)
    · have hF := hA h5 (fun z => z.1 h13)
      refine g_iconst (v := 2) d_Mo_net_23 rfl ?_
      refine g_goto (tgt := 28) d_Mo_net_24 (by decide) ?_
      refine g_put d_Mo_net_28 w_Mo_91_Mo (by assumption) (by first | rfl | exact zb_nar _) (by first | rfl | exact zb_fit _ | exact zrf_fit _) (by first | exact Nat.le_of_ble_eq_true rfl | omega) ?_
      refine gen_putI (P := fun z => G w y_Mo_net c_Mo_net 3 r_Mo_net (1, 25) Q _ _ _ z) hR (i := 600) lv6 c6_0 (fun Z1 e1 hR => ?_)
      have m707 := zhs_put_ne' e1 m707 (J 707 600 (by decide) (by decide) (by decide))
      have m708 := zhs_put_ne' e1 m708 (J 708 600 (by decide) (by decide) (by decide))
      have hm := zhs_put_same' e1 hm
      simp only [List.set] at hm
      have hB : Z1.2.2 = Z0.2.2 := by rw [← e1]; exact hB
      refine g_aload_nq d_Mo_net_31 rfl 0 rfl ?_
      refine g_get d_Mo_net_32 f_Mo_91_Mo (by assumption) (by first | rfl | assumption) ?_
      first | refine g_if_eqB (tgt := 40) d_Mo_net_35 (by decide) (fun h35 => ?_) (fun h35 => ?_) | refine g_if_eq (tgt := 40) d_Mo_net_35 (by decide) (fun h35 => ?_) (fun h35 => ?_)
      · exact absurd h35 (by decide)
      · refine g_iconst (v := 0) d_Mo_net_38 rfl ?_
        refine g_iret d_Mo_net_39 ?_
        exact hF _ hR (by rw [hB, hZ0])
    · refine g_iload_n d_Mo_net_16 rfl 2 rfl ?_
      refine g_sipush (v := 999) d_Mo_net_17 rfl ?_
      refine g_icmp_le (tgt := 27) d_Mo_net_20 (by decide) (fun h20 => ?_) (fun h20 => ?_)
      · have hN := hN h5 ⟨h13, (le_pred (n := 999) (by decide)).mp h20⟩
        refine g_iconst (v := 0) d_Mo_net_27 rfl ?_
        refine g_put d_Mo_net_28 w_Mo_91_Mo (by assumption) (by first | rfl | exact zb_nar _) (by first | rfl | exact zb_fit _ | exact zrf_fit _) (by first | exact Nat.le_of_ble_eq_true rfl | omega) ?_
        refine gen_putI (P := fun z => G w y_Mo_net c_Mo_net 3 r_Mo_net (1, 25) Q _ _ _ z) hR (i := 600) lv6 c6_0 (fun Z1 e1 hR => ?_)
        have m707 := zhs_put_ne' e1 m707 (J 707 600 (by decide) (by decide) (by decide))
        have m708 := zhs_put_ne' e1 m708 (J 708 600 (by decide) (by decide) (by decide))
        have hm := zhs_put_same' e1 hm
        simp only [List.set] at hm
        have hB : Z1.2.2 = Z0.2.2 := by rw [← e1]; exact hB
        refine g_aload_nq d_Mo_net_31 rfl 0 rfl ?_
        refine g_get d_Mo_net_32 f_Mo_91_Mo (by assumption) (by first | rfl | assumption) ?_
        first | refine g_if_eqB (tgt := 40) d_Mo_net_35 (by decide) (fun h35 => ?_) (fun h35 => ?_) | refine g_if_eq (tgt := 40) d_Mo_net_35 (by decide) (fun h35 => ?_) (fun h35 => ?_)
        · refine g_aload_nq d_Mo_net_40 rfl 0 rfl ?_
          refine g_get d_Mo_net_41 f_Mo_94_Mo (by assumption) (by first | rfl | assumption) ?_
          refine g_bipush (v := 40) d_Mo_net_44 rfl ?_
          refine g_icmp_ne (tgt := 51) d_Mo_net_46 (by decide) (fun h46 => ?_) (fun h46 => ?_)
          · have hlt : sN S 21 < 40 := Nat.lt_of_le_of_ne h21 (fun z => h46 (by rw [z]; rfl))
            rw [if_pos hlt] at hN
            refine g_aload_nq d_Mo_net_51 rfl 0 rfl ?_
            refine g_get d_Mo_net_52 f_Mo_20_Mo (by assumption) (by first | rfl | assumption) ?_
            refine g_aload_nq d_Mo_net_55 rfl 0 rfl ?_
            refine g_get d_Mo_net_56 f_Mo_94_Mo (by assumption) (by first | rfl | assumption) ?_
            refine g_iload_n d_Mo_net_59 rfl 1 rfl ?_
            refine g_iast d_Mo_net_60 (by assumption) (vp_in_nI (by omega) (by decide)) ?_
            rw [nI_clamp (by omega)]
            refine gen_putI (P := fun z => G w y_Mo_net c_Mo_net 3 r_Mo_net (1, 25) Q _ _ _ z) hR (i := 707) (lvM (by decide)) cM_707 (fun Z1 e1 hR => ?_)
            have m708 := zhs_put_ne' e1 m708 (J 708 707 (by decide) (by decide) (by decide))
            have hm := zhs_put_ne' e1 hm (J 600 707 (by decide) (by decide) (by decide))
            have m707 := zhs_put_same' e1 m707
            have hB : Z1.2.2 = Z0.2.2 := by rw [← e1]; exact hB
            refine g_aload_nq d_Mo_net_61 rfl 0 rfl ?_
            refine g_get d_Mo_net_62 f_Mo_23_Mo (by assumption) (by first | rfl | assumption) ?_
            refine g_aload_nq d_Mo_net_65 rfl 0 rfl ?_
            refine g_get d_Mo_net_66 f_Mo_94_Mo (by assumption) (by first | rfl | assumption) ?_
            refine g_iload_n d_Mo_net_69 rfl 2 rfl ?_
            refine g_iast d_Mo_net_70 (by assumption) (vp_in_nI (by omega) (by decide)) ?_
            rw [nI_clamp (by omega)]
            refine gen_putI (P := fun z => G w y_Mo_net c_Mo_net 3 r_Mo_net (1, 25) Q _ _ _ z) hR (i := 708) (lvM (by decide)) cM_708 (fun Z1 e1 hR => ?_)
            have m707 := zhs_put_ne' e1 m707 (J 707 708 (by decide) (by decide) (by decide))
            have hm := zhs_put_ne' e1 hm (J 600 708 (by decide) (by decide) (by decide))
            have m708 := zhs_put_same' e1 m708
            have hB : Z1.2.2 = Z0.2.2 := by rw [← e1]; exact hB
            refine g_aload_nq d_Mo_net_71 rfl 0 rfl ?_
            refine g_dup d_Mo_net_72 rfl ?_
            refine g_get d_Mo_net_73 f_Mo_94_Mo (by assumption) (by first | rfl | assumption) ?_
            refine g_iconst (v := 1) d_Mo_net_76 rfl ?_
            refine g_iadd d_Mo_net_77 ?_
            rw [show (1 : Int32) = nI 1 from rfl, nI_add]
            refine g_put d_Mo_net_78 w_Mo_94_Mo (by assumption) (by first | rfl | exact zb_nar _) (by first | rfl | exact zb_fit _ | exact zrf_fit _) (by first | exact Nat.le_of_ble_eq_true rfl | omega) ?_
            refine gen_putN (P := fun z => G w y_Mo_net c_Mo_net 3 r_Mo_net (1, 25) Q _ _ _ z) hR hL (n := 21) (by decide) c6N_21 (fun Z1 e1 hR hL => ?_)
            have m707 := zhs_put_ne' e1 m707 (J 707 600 (by decide) (by decide) (by decide))
            have m708 := zhs_put_ne' e1 m708 (J 708 600 (by decide) (by decide) (by decide))
            have hm := zhs_put_same' e1 hm
            simp only [List.set] at hm
            have hB : Z1.2.2 = Z0.2.2 := by rw [← e1]; exact hB
            refine g_aload_nq d_Mo_net_81 rfl 0 rfl ?_
            refine g_get d_Mo_net_82 f_Mo_94_Mo (by assumption) (by first | rfl | assumption) ?_
            refine g_iconst (v := 1) d_Mo_net_85 rfl ?_
            refine g_isub d_Mo_net_86 ?_
            rw [nI_pred]
            refine g_iret d_Mo_net_87 ?_
            exact hN _ hR (by rw [hB, hZ0])
          · have h40 : sN S 21 = 40 := (nI_eq (b := 40) (by omega) (by decide)).mp h46
            rw [if_neg (by omega)] at hN
            refine g_iconst (v := (-1)) d_Mo_net_49 rfl ?_
            refine g_iret d_Mo_net_50 ?_
            exact hN _ hR (by rw [hB, hZ0])
        · exact absurd rfl h35
      · have hF := hA h5 (fun z => h20 ((le_pred (n := 999) (by decide)).mpr z.2))
        refine g_iconst (v := 2) d_Mo_net_23 rfl ?_
        refine g_goto (tgt := 28) d_Mo_net_24 (by decide) ?_
        refine g_put d_Mo_net_28 w_Mo_91_Mo (by assumption) (by first | rfl | exact zb_nar _) (by first | rfl | exact zb_fit _ | exact zrf_fit _) (by first | exact Nat.le_of_ble_eq_true rfl | omega) ?_
        refine gen_putI (P := fun z => G w y_Mo_net c_Mo_net 3 r_Mo_net (1, 25) Q _ _ _ z) hR (i := 600) lv6 c6_0 (fun Z1 e1 hR => ?_)
        have m707 := zhs_put_ne' e1 m707 (J 707 600 (by decide) (by decide) (by decide))
        have m708 := zhs_put_ne' e1 m708 (J 708 600 (by decide) (by decide) (by decide))
        have hm := zhs_put_same' e1 hm
        simp only [List.set] at hm
        have hB : Z1.2.2 = Z0.2.2 := by rw [← e1]; exact hB
        refine g_aload_nq d_Mo_net_31 rfl 0 rfl ?_
        refine g_get d_Mo_net_32 f_Mo_91_Mo (by assumption) (by first | rfl | assumption) ?_
        first | refine g_if_eqB (tgt := 40) d_Mo_net_35 (by decide) (fun h35 => ?_) (fun h35 => ?_) | refine g_if_eq (tgt := 40) d_Mo_net_35 (by decide) (fun h35 => ?_) (fun h35 => ?_)
        · exact absurd h35 (by decide)
        · refine g_iconst (v := 0) d_Mo_net_38 rfl ?_
          refine g_iret d_Mo_net_39 ?_
          exact hF _ hR (by rw [hB, hZ0])
  · have hF := hI h5
    refine g_iconst (v := 1) d_Mo_net_8 rfl ?_
    refine g_goto (tgt := 28) d_Mo_net_9 (by decide) ?_
    refine g_put d_Mo_net_28 w_Mo_91_Mo (by assumption) (by first | rfl | exact zb_nar _) (by first | rfl | exact zb_fit _ | exact zrf_fit _) (by first | exact Nat.le_of_ble_eq_true rfl | omega) ?_
    refine gen_putI (P := fun z => G w y_Mo_net c_Mo_net 3 r_Mo_net (1, 25) Q _ _ _ z) hR (i := 600) lv6 c6_0 (fun Z1 e1 hR => ?_)
    have m707 := zhs_put_ne' e1 m707 (J 707 600 (by decide) (by decide) (by decide))
    have m708 := zhs_put_ne' e1 m708 (J 708 600 (by decide) (by decide) (by decide))
    have hm := zhs_put_same' e1 hm
    simp only [List.set] at hm
    have hB : Z1.2.2 = Z0.2.2 := by rw [← e1]; exact hB
    refine g_aload_nq d_Mo_net_31 rfl 0 rfl ?_
    refine g_get d_Mo_net_32 f_Mo_91_Mo (by assumption) (by first | rfl | assumption) ?_
    first | refine g_if_eqB (tgt := 40) d_Mo_net_35 (by decide) (fun h35 => ?_) (fun h35 => ?_) | refine g_if_eq (tgt := 40) d_Mo_net_35 (by decide) (fun h35 => ?_) (fun h35 => ?_)
    · exact absurd h35 (by decide)
    · refine g_iconst (v := 0) d_Mo_net_38 rfl ?_
      refine g_iret d_Mo_net_39 ?_
      exact hF _ hR (by rw [hB, hZ0])

set_option maxHeartbeats 4000000 in
set_option maxRecDepth 100000 in
theorem C_Mo_pin {w : zC} {Z : zZ} {Q : zR → zZ → Prop} {ad : Nat → Nat} {S : ST} (hR : Rep w ad S Z) (hL : ciLive S) {x y z : Int32} (h22 : sN S 22 ≤ 160) (hI : ¬ (inr x (sN S 20) ∧ (y = -1 ∨ inr y (sN S 21))) → ∀ Z', Rep w ad (thS S 1) Z' → Z'.2.2 = Z.2.2 → Q (.inl (some (.int (0)))) Z') (hA : inr x (sN S 20) → (y = -1 ∨ inr y (sN S 21)) → ¬ inr z 10 → ∀ Z', Rep w ad (thS S 2) Z' → Z'.2.2 = Z.2.2 → Q (.inl (some (.int (0)))) Z') (hN : inr x (sN S 20) → (y = -1 ∨ inr y (sN S 21)) → inr z 10 → if sN S 22 < 160 then (∀ Z', Rep w ad (wN (wI (wI (wI (thS S 0) 709 (upd (sI S 709) (sN S 22) x)) 710 (upd (sI S 710) (sN S 22) y)) 711 (upd (sI S 711) (sN S 22) z)) 22 (sN S 22 + 1)) Z' → Z'.2.2 = Z.2.2 → Q (.inl (some (.int (nI (sN S 22))))) Z') else ∀ Z', Rep w ad (thS S 0) Z' → Z'.2.2 = Z.2.2 → Q (.inl (some (.int (-1)))) Z') : Cz w (1, 25) y_Mo_pin (Cond.code y_Mo_pin c_Mo_pin 5 r_Mo_pin :: wz) [.ref (ad 600), .int x, .int y, .int z] Z Q := by
  refine Cz.of (by decide +kernel) (by simp [lg_sl, Value.category]) ?_
  show G _ _ _ _ _ _ _ _ [(0, _), (1, _), (2, _), (3, _)] _ _
  have hm : zhs Z (ad 600) (.inr (10, [.int (sI S 600 0), .ref (ad 701), .int (nI (sN S 20)), .int (nI (sN S 21)), .int (nI (sN S 22)), .ref (ad 705), .ref (ad 706), .ref (ad 707), .ref (ad 708), .ref (ad 709), .ref (ad 710), .ref (ad 711), .int (nI (sN S 23)), .ref (ad 713), .ref (ad 714), .ref (ad 715), .ref (ad 716), .int (nI (sN S 24)), .int (nI (sN S 25)), .ref (ad 719), .ref (ad 720), .ref (ad 721), .ref (ad 722), .ref (ad 723), .ref (ad 724), .int (sI S 600 25), .ref (ad 726), .ref (ad 727), .ref (ad 728), .int (sI S 600 29), .int (nI (sN S 26)), .ref (ad 731), .ref (ad 732), .int (nI (sN S 27)), .int (nI (sN S 28)), .int (nI (sN S 29)), .int (nI (sN S 30)), .ref (ad 737), .int (nI (sN S 31)), .int (nI (sN S 32)), .int (sI S 600 40), .ref (ad 741)])) := hR.m
  have m709 : zhs Z (ad 709) (xi w 160 (sI S 709)) := hR.ma 709 (by decide)
  have m710 : zhs Z (ad 710) (xi w 160 (sI S 710)) := hR.ma 710 (by decide)
  have m711 : zhs Z (ad 711) (xi w 160 (sI S 711)) := hR.ma 711 (by decide)
  have J : ∀ i j, mL i → mL j → i ≠ j → ad i ≠ ad j := fun i j hi hj hne => hR.inj (lvL hi) (lvL hj) hne
  obtain ⟨Z0, hZ0⟩ : ∃ Z0, Z0 = Z := ⟨_, rfl⟩
  have hB : Z.2.2 = Z0.2.2 := by rw [hZ0]
  refine g_aload_nq d_Mo_pin_0 rfl 0 rfl ?_
  refine g_iload_n d_Mo_pin_1 rfl 1 rfl ?_
  refine g_callV d_Mo_pin_2 k_Mo_isPart l_Mo_107 i_Mo_isPart rfl p_Mo_isPart hm (by rfl) (by rfl) (Nat.le_of_ble_eq_true rfl) (by decide) (C_Mo_isPart hR ⟨_, rfl, ?_⟩)
  first | refine g_if_eqB (tgt := 25) d_Mo_pin_5 (by decide) (fun h5 => ?_) (fun h5 => ?_) | refine g_if_eq (tgt := 25) d_Mo_pin_5 (by decide) (fun h5 => ?_) (fun h5 => ?_)
  · have hF := hI (fun z => h5 z.1)
    refine g_iconst (v := 0) d_Mo_pin_25 rfl ?_
    refine g_istore d_Mo_pin_26 (by decide) rfl ?_
    show G _ _ _ _ _ _ _ _ [(4, _), (0, _), (1, _), (2, _), (3, _)] _ _
    refine g_aload_nq d_Mo_pin_28 rfl 1 rfl ?_
    refine g_iload d_Mo_pin_29 0 rfl ?_
    first | refine g_if_neB (tgt := 38) d_Mo_pin_31 (by decide) (fun h31 => ?_) (fun h31 => ?_) | refine g_if_ne (tgt := 38) d_Mo_pin_31 (by decide) (fun h31 => ?_) (fun h31 => ?_)
    · exact absurd rfl h31
    · refine g_iconst (v := 1) d_Mo_pin_34 rfl ?_
      refine g_goto (tgt := 50) d_Mo_pin_35 (by decide) ?_
      refine g_put d_Mo_pin_50 w_Mo_91_Mo (by assumption) (by first | rfl | exact zb_nar _) (by first | rfl | exact zb_fit _ | exact zrf_fit _) (by first | exact Nat.le_of_ble_eq_true rfl | omega) ?_
      refine gen_putI (P := fun z => G w y_Mo_pin c_Mo_pin 5 r_Mo_pin (1, 25) Q _ _ _ z) hR (i := 600) lv6 c6_0 (fun Z1 e1 hR => ?_)
      have m709 := zhs_put_ne' e1 m709 (J 709 600 (by decide) (by decide) (by decide))
      have m710 := zhs_put_ne' e1 m710 (J 710 600 (by decide) (by decide) (by decide))
      have m711 := zhs_put_ne' e1 m711 (J 711 600 (by decide) (by decide) (by decide))
      have hm := zhs_put_same' e1 hm
      simp only [List.set] at hm
      have hB : Z1.2.2 = Z0.2.2 := by rw [← e1]; exact hB
      refine g_aload_nq d_Mo_pin_53 rfl 1 rfl ?_
      refine g_get d_Mo_pin_54 f_Mo_91_Mo (by assumption) (by first | rfl | assumption) ?_
      first | refine g_if_eqB (tgt := 62) d_Mo_pin_57 (by decide) (fun h57 => ?_) (fun h57 => ?_) | refine g_if_eq (tgt := 62) d_Mo_pin_57 (by decide) (fun h57 => ?_) (fun h57 => ?_)
      · exact absurd h57 (by decide)
      · refine g_iconst (v := 0) d_Mo_pin_60 rfl ?_
        refine g_iret d_Mo_pin_61 ?_
        exact hF _ hR (by rw [hB, hZ0])
  · have hx : inr x (sN S 20) := h5
    refine g_iload_n d_Mo_pin_8 rfl 2 rfl ?_
    refine g_iconst (v := (-1)) d_Mo_pin_9 rfl ?_
    refine g_icmp_eq (tgt := 21) d_Mo_pin_10 (by decide) (fun h10 => ?_) (fun h10 => ?_)
    · have hy : (y = -1 ∨ inr y (sN S 21)) := Or.inl h10
      refine g_iconst (v := 1) d_Mo_pin_21 rfl ?_
      refine g_goto (tgt := 26) d_Mo_pin_22 (by decide) ?_
      refine g_istore d_Mo_pin_26 (by decide) rfl ?_
      show G _ _ _ _ _ _ _ _ [(4, _), (0, _), (1, _), (2, _), (3, _)] _ _
      refine g_aload_nq d_Mo_pin_28 rfl 1 rfl ?_
      refine g_iload d_Mo_pin_29 0 rfl ?_
      first | refine g_if_neB (tgt := 38) d_Mo_pin_31 (by decide) (fun h31 => ?_) (fun h31 => ?_) | refine g_if_ne (tgt := 38) d_Mo_pin_31 (by decide) (fun h31 => ?_) (fun h31 => ?_)
      · refine g_iload_n d_Mo_pin_38 rfl 4 rfl ?_
        refine g_callS d_Mo_pin_39 k_Mo_isKind l_Mo_100 s_Mo_isKind (by rfl) (by rfl) (Nat.le_of_ble_eq_true rfl) (by decide) (C_Mo_isKind ⟨_, rfl, ?_⟩)
        first | refine g_if_eqB (tgt := 49) d_Mo_pin_42 (by decide) (fun h42 => ?_) (fun h42 => ?_) | refine g_if_eq (tgt := 49) d_Mo_pin_42 (by decide) (fun h42 => ?_) (fun h42 => ?_)
        · have hF := hA hx hy h42
          refine g_iconst (v := 2) d_Mo_pin_49 rfl ?_
          refine g_put d_Mo_pin_50 w_Mo_91_Mo (by assumption) (by first | rfl | exact zb_nar _) (by first | rfl | exact zb_fit _ | exact zrf_fit _) (by first | exact Nat.le_of_ble_eq_true rfl | omega) ?_
          refine gen_putI (P := fun z => G w y_Mo_pin c_Mo_pin 5 r_Mo_pin (1, 25) Q _ _ _ z) hR (i := 600) lv6 c6_0 (fun Z1 e1 hR => ?_)
          have m709 := zhs_put_ne' e1 m709 (J 709 600 (by decide) (by decide) (by decide))
          have m710 := zhs_put_ne' e1 m710 (J 710 600 (by decide) (by decide) (by decide))
          have m711 := zhs_put_ne' e1 m711 (J 711 600 (by decide) (by decide) (by decide))
          have hm := zhs_put_same' e1 hm
          simp only [List.set] at hm
          have hB : Z1.2.2 = Z0.2.2 := by rw [← e1]; exact hB
          refine g_aload_nq d_Mo_pin_53 rfl 1 rfl ?_
          refine g_get d_Mo_pin_54 f_Mo_91_Mo (by assumption) (by first | rfl | assumption) ?_
          first | refine g_if_eqB (tgt := 62) d_Mo_pin_57 (by decide) (fun h57 => ?_) (fun h57 => ?_) | refine g_if_eq (tgt := 62) d_Mo_pin_57 (by decide) (fun h57 => ?_) (fun h57 => ?_)
          · exact absurd h57 (by decide)
          · refine g_iconst (v := 0) d_Mo_pin_60 rfl ?_
            refine g_iret d_Mo_pin_61 ?_
            exact hF _ hR (by rw [hB, hZ0])
        · have hN := hN hx hy h42
          refine g_iconst (v := 0) d_Mo_pin_45 rfl ?_
          refine g_goto (tgt := 50) d_Mo_pin_46 (by decide) ?_
          refine g_put d_Mo_pin_50 w_Mo_91_Mo (by assumption) (by first | rfl | exact zb_nar _) (by first | rfl | exact zb_fit _ | exact zrf_fit _) (by first | exact Nat.le_of_ble_eq_true rfl | omega) ?_
          refine gen_putI (P := fun z => G w y_Mo_pin c_Mo_pin 5 r_Mo_pin (1, 25) Q _ _ _ z) hR (i := 600) lv6 c6_0 (fun Z1 e1 hR => ?_)
          have m709 := zhs_put_ne' e1 m709 (J 709 600 (by decide) (by decide) (by decide))
          have m710 := zhs_put_ne' e1 m710 (J 710 600 (by decide) (by decide) (by decide))
          have m711 := zhs_put_ne' e1 m711 (J 711 600 (by decide) (by decide) (by decide))
          have hm := zhs_put_same' e1 hm
          simp only [List.set] at hm
          have hB : Z1.2.2 = Z0.2.2 := by rw [← e1]; exact hB
          refine g_aload_nq d_Mo_pin_53 rfl 1 rfl ?_
          refine g_get d_Mo_pin_54 f_Mo_91_Mo (by assumption) (by first | rfl | assumption) ?_
          first | refine g_if_eqB (tgt := 62) d_Mo_pin_57 (by decide) (fun h57 => ?_) (fun h57 => ?_) | refine g_if_eq (tgt := 62) d_Mo_pin_57 (by decide) (fun h57 => ?_) (fun h57 => ?_)
          · refine g_aload_nq d_Mo_pin_62 rfl 1 rfl ?_
            refine g_get d_Mo_pin_63 f_Mo_113_Mo (by assumption) (by first | rfl | assumption) ?_
            refine g_sipush (v := 160) d_Mo_pin_66 rfl ?_
            refine g_icmp_ne (tgt := 74) d_Mo_pin_69 (by decide) (fun h69 => ?_) (fun h69 => ?_)
            · have hlt : sN S 22 < 160 := Nat.lt_of_le_of_ne h22 (fun z => h69 (by rw [z]; rfl))
              rw [if_pos hlt] at hN
              refine g_aload_nq d_Mo_pin_74 rfl 1 rfl ?_
              refine g_get d_Mo_pin_75 f_Mo_26_Mo (by assumption) (by first | rfl | assumption) ?_
              refine g_aload_nq d_Mo_pin_78 rfl 1 rfl ?_
              refine g_get d_Mo_pin_79 f_Mo_113_Mo (by assumption) (by first | rfl | assumption) ?_
              refine g_iload_n d_Mo_pin_82 rfl 2 rfl ?_
              refine g_iast d_Mo_pin_83 (by assumption) (vp_in_nI (by omega) (by decide)) ?_
              rw [nI_clamp (by omega)]
              refine gen_putI (P := fun z => G w y_Mo_pin c_Mo_pin 5 r_Mo_pin (1, 25) Q _ _ _ z) hR (i := 709) (lvM (by decide)) cM_709 (fun Z1 e1 hR => ?_)
              have m710 := zhs_put_ne' e1 m710 (J 710 709 (by decide) (by decide) (by decide))
              have m711 := zhs_put_ne' e1 m711 (J 711 709 (by decide) (by decide) (by decide))
              have hm := zhs_put_ne' e1 hm (J 600 709 (by decide) (by decide) (by decide))
              have m709 := zhs_put_same' e1 m709
              have hB : Z1.2.2 = Z0.2.2 := by rw [← e1]; exact hB
              refine g_aload_nq d_Mo_pin_84 rfl 1 rfl ?_
              refine g_get d_Mo_pin_85 f_Mo_29_Mo (by assumption) (by first | rfl | assumption) ?_
              refine g_aload_nq d_Mo_pin_88 rfl 1 rfl ?_
              refine g_get d_Mo_pin_89 f_Mo_113_Mo (by assumption) (by first | rfl | assumption) ?_
              refine g_iload_n d_Mo_pin_92 rfl 3 rfl ?_
              refine g_iast d_Mo_pin_93 (by assumption) (vp_in_nI (by omega) (by decide)) ?_
              rw [nI_clamp (by omega)]
              refine gen_putI (P := fun z => G w y_Mo_pin c_Mo_pin 5 r_Mo_pin (1, 25) Q _ _ _ z) hR (i := 710) (lvM (by decide)) cM_710 (fun Z1 e1 hR => ?_)
              have m709 := zhs_put_ne' e1 m709 (J 709 710 (by decide) (by decide) (by decide))
              have m711 := zhs_put_ne' e1 m711 (J 711 710 (by decide) (by decide) (by decide))
              have hm := zhs_put_ne' e1 hm (J 600 710 (by decide) (by decide) (by decide))
              have m710 := zhs_put_same' e1 m710
              have hB : Z1.2.2 = Z0.2.2 := by rw [← e1]; exact hB
              refine g_aload_nq d_Mo_pin_94 rfl 1 rfl ?_
              refine g_get d_Mo_pin_95 f_Mo_32_Mo (by assumption) (by first | rfl | assumption) ?_
              refine g_aload_nq d_Mo_pin_98 rfl 1 rfl ?_
              refine g_get d_Mo_pin_99 f_Mo_113_Mo (by assumption) (by first | rfl | assumption) ?_
              refine g_iload_n d_Mo_pin_102 rfl 4 rfl ?_
              refine g_iast d_Mo_pin_103 (by assumption) (vp_in_nI (by omega) (by decide)) ?_
              rw [nI_clamp (by omega)]
              refine gen_putI (P := fun z => G w y_Mo_pin c_Mo_pin 5 r_Mo_pin (1, 25) Q _ _ _ z) hR (i := 711) (lvM (by decide)) cM_711 (fun Z1 e1 hR => ?_)
              have m709 := zhs_put_ne' e1 m709 (J 709 711 (by decide) (by decide) (by decide))
              have m710 := zhs_put_ne' e1 m710 (J 710 711 (by decide) (by decide) (by decide))
              have hm := zhs_put_ne' e1 hm (J 600 711 (by decide) (by decide) (by decide))
              have m711 := zhs_put_same' e1 m711
              have hB : Z1.2.2 = Z0.2.2 := by rw [← e1]; exact hB
              refine g_aload_nq d_Mo_pin_104 rfl 1 rfl ?_
              refine g_dup d_Mo_pin_105 rfl ?_
              refine g_get d_Mo_pin_106 f_Mo_113_Mo (by assumption) (by first | rfl | assumption) ?_
              refine g_iconst (v := 1) d_Mo_pin_109 rfl ?_
              refine g_iadd d_Mo_pin_110 ?_
              rw [show (1 : Int32) = nI 1 from rfl, nI_add]
              refine g_put d_Mo_pin_111 w_Mo_113_Mo (by assumption) (by first | rfl | exact zb_nar _) (by first | rfl | exact zb_fit _ | exact zrf_fit _) (by first | exact Nat.le_of_ble_eq_true rfl | omega) ?_
              refine gen_putN (P := fun z => G w y_Mo_pin c_Mo_pin 5 r_Mo_pin (1, 25) Q _ _ _ z) hR hL (n := 22) (by decide) c6N_22 (fun Z1 e1 hR hL => ?_)
              have m709 := zhs_put_ne' e1 m709 (J 709 600 (by decide) (by decide) (by decide))
              have m710 := zhs_put_ne' e1 m710 (J 710 600 (by decide) (by decide) (by decide))
              have m711 := zhs_put_ne' e1 m711 (J 711 600 (by decide) (by decide) (by decide))
              have hm := zhs_put_same' e1 hm
              simp only [List.set] at hm
              have hB : Z1.2.2 = Z0.2.2 := by rw [← e1]; exact hB
              refine g_aload_nq d_Mo_pin_114 rfl 1 rfl ?_
              refine g_get d_Mo_pin_115 f_Mo_113_Mo (by assumption) (by first | rfl | assumption) ?_
              refine g_iconst (v := 1) d_Mo_pin_118 rfl ?_
              refine g_isub d_Mo_pin_119 ?_
              rw [nI_pred]
              refine g_iret d_Mo_pin_120 ?_
              exact hN _ hR (by rw [hB, hZ0])
            · have h160 : sN S 22 = 160 := (nI_eq (b := 160) (by omega) (by decide)).mp h69
              rw [if_neg (by omega)] at hN
              refine g_iconst (v := (-1)) d_Mo_pin_72 rfl ?_
              refine g_iret d_Mo_pin_73 ?_
              exact hN _ hR (by rw [hB, hZ0])
          · exact absurd rfl h57
      · exact absurd h31 (by decide)
    · refine g_aload_nq d_Mo_pin_13 rfl 0 rfl ?_
      refine g_iload_n d_Mo_pin_14 rfl 2 rfl ?_
      refine g_callV d_Mo_pin_15 k_Mo_isNet l_Mo_110 i_Mo_isNet rfl p_Mo_isNet hm (by rfl) (by rfl) (Nat.le_of_ble_eq_true rfl) (by decide) (C_Mo_isNet hR ⟨_, rfl, ?_⟩)
      first | refine g_if_eqB (tgt := 25) d_Mo_pin_18 (by decide) (fun h18 => ?_) (fun h18 => ?_) | refine g_if_eq (tgt := 25) d_Mo_pin_18 (by decide) (fun h18 => ?_) (fun h18 => ?_)
      · have hF := hI (fun z => by rcases z.2 with z | z; exact h10 z; exact h18 z)
        refine g_iconst (v := 0) d_Mo_pin_25 rfl ?_
        refine g_istore d_Mo_pin_26 (by decide) rfl ?_
        show G _ _ _ _ _ _ _ _ [(4, _), (0, _), (1, _), (2, _), (3, _)] _ _
        refine g_aload_nq d_Mo_pin_28 rfl 1 rfl ?_
        refine g_iload d_Mo_pin_29 0 rfl ?_
        first | refine g_if_neB (tgt := 38) d_Mo_pin_31 (by decide) (fun h31 => ?_) (fun h31 => ?_) | refine g_if_ne (tgt := 38) d_Mo_pin_31 (by decide) (fun h31 => ?_) (fun h31 => ?_)
        · exact absurd rfl h31
        · refine g_iconst (v := 1) d_Mo_pin_34 rfl ?_
          refine g_goto (tgt := 50) d_Mo_pin_35 (by decide) ?_
          refine g_put d_Mo_pin_50 w_Mo_91_Mo (by assumption) (by first | rfl | exact zb_nar _) (by first | rfl | exact zb_fit _ | exact zrf_fit _) (by first | exact Nat.le_of_ble_eq_true rfl | omega) ?_
          refine gen_putI (P := fun z => G w y_Mo_pin c_Mo_pin 5 r_Mo_pin (1, 25) Q _ _ _ z) hR (i := 600) lv6 c6_0 (fun Z1 e1 hR => ?_)
          have m709 := zhs_put_ne' e1 m709 (J 709 600 (by decide) (by decide) (by decide))
          have m710 := zhs_put_ne' e1 m710 (J 710 600 (by decide) (by decide) (by decide))
          have m711 := zhs_put_ne' e1 m711 (J 711 600 (by decide) (by decide) (by decide))
          have hm := zhs_put_same' e1 hm
          simp only [List.set] at hm
          have hB : Z1.2.2 = Z0.2.2 := by rw [← e1]; exact hB
          refine g_aload_nq d_Mo_pin_53 rfl 1 rfl ?_
          refine g_get d_Mo_pin_54 f_Mo_91_Mo (by assumption) (by first | rfl | assumption) ?_
          first | refine g_if_eqB (tgt := 62) d_Mo_pin_57 (by decide) (fun h57 => ?_) (fun h57 => ?_) | refine g_if_eq (tgt := 62) d_Mo_pin_57 (by decide) (fun h57 => ?_) (fun h57 => ?_)
          · exact absurd h57 (by decide)
          · refine g_iconst (v := 0) d_Mo_pin_60 rfl ?_
            refine g_iret d_Mo_pin_61 ?_
            exact hF _ hR (by rw [hB, hZ0])
      · have hy : (y = -1 ∨ inr y (sN S 21)) := Or.inr h18
        refine g_iconst (v := 1) d_Mo_pin_21 rfl ?_
        refine g_goto (tgt := 26) d_Mo_pin_22 (by decide) ?_
        refine g_istore d_Mo_pin_26 (by decide) rfl ?_
        show G _ _ _ _ _ _ _ _ [(4, _), (0, _), (1, _), (2, _), (3, _)] _ _
        refine g_aload_nq d_Mo_pin_28 rfl 1 rfl ?_
        refine g_iload d_Mo_pin_29 0 rfl ?_
        first | refine g_if_neB (tgt := 38) d_Mo_pin_31 (by decide) (fun h31 => ?_) (fun h31 => ?_) | refine g_if_ne (tgt := 38) d_Mo_pin_31 (by decide) (fun h31 => ?_) (fun h31 => ?_)
        · refine g_iload_n d_Mo_pin_38 rfl 4 rfl ?_
          refine g_callS d_Mo_pin_39 k_Mo_isKind l_Mo_100 s_Mo_isKind (by rfl) (by rfl) (Nat.le_of_ble_eq_true rfl) (by decide) (C_Mo_isKind ⟨_, rfl, ?_⟩)
          first | refine g_if_eqB (tgt := 49) d_Mo_pin_42 (by decide) (fun h42 => ?_) (fun h42 => ?_) | refine g_if_eq (tgt := 49) d_Mo_pin_42 (by decide) (fun h42 => ?_) (fun h42 => ?_)
          · have hF := hA hx hy h42
            refine g_iconst (v := 2) d_Mo_pin_49 rfl ?_
            refine g_put d_Mo_pin_50 w_Mo_91_Mo (by assumption) (by first | rfl | exact zb_nar _) (by first | rfl | exact zb_fit _ | exact zrf_fit _) (by first | exact Nat.le_of_ble_eq_true rfl | omega) ?_
            refine gen_putI (P := fun z => G w y_Mo_pin c_Mo_pin 5 r_Mo_pin (1, 25) Q _ _ _ z) hR (i := 600) lv6 c6_0 (fun Z1 e1 hR => ?_)
            have m709 := zhs_put_ne' e1 m709 (J 709 600 (by decide) (by decide) (by decide))
            have m710 := zhs_put_ne' e1 m710 (J 710 600 (by decide) (by decide) (by decide))
            have m711 := zhs_put_ne' e1 m711 (J 711 600 (by decide) (by decide) (by decide))
            have hm := zhs_put_same' e1 hm
            simp only [List.set] at hm
            have hB : Z1.2.2 = Z0.2.2 := by rw [← e1]; exact hB
            refine g_aload_nq d_Mo_pin_53 rfl 1 rfl ?_
            refine g_get d_Mo_pin_54 f_Mo_91_Mo (by assumption) (by first | rfl | assumption) ?_
            first | refine g_if_eqB (tgt := 62) d_Mo_pin_57 (by decide) (fun h57 => ?_) (fun h57 => ?_) | refine g_if_eq (tgt := 62) d_Mo_pin_57 (by decide) (fun h57 => ?_) (fun h57 => ?_)
            · exact absurd h57 (by decide)
            · refine g_iconst (v := 0) d_Mo_pin_60 rfl ?_
              refine g_iret d_Mo_pin_61 ?_
              exact hF _ hR (by rw [hB, hZ0])
          · have hN := hN hx hy h42
            refine g_iconst (v := 0) d_Mo_pin_45 rfl ?_
            refine g_goto (tgt := 50) d_Mo_pin_46 (by decide) ?_
            refine g_put d_Mo_pin_50 w_Mo_91_Mo (by assumption) (by first | rfl | exact zb_nar _) (by first | rfl | exact zb_fit _ | exact zrf_fit _) (by first | exact Nat.le_of_ble_eq_true rfl | omega) ?_
            refine gen_putI (P := fun z => G w y_Mo_pin c_Mo_pin 5 r_Mo_pin (1, 25) Q _ _ _ z) hR (i := 600) lv6 c6_0 (fun Z1 e1 hR => ?_)
            have m709 := zhs_put_ne' e1 m709 (J 709 600 (by decide) (by decide) (by decide))
            have m710 := zhs_put_ne' e1 m710 (J 710 600 (by decide) (by decide) (by decide))
            have m711 := zhs_put_ne' e1 m711 (J 711 600 (by decide) (by decide) (by decide))
            have hm := zhs_put_same' e1 hm
            simp only [List.set] at hm
            have hB : Z1.2.2 = Z0.2.2 := by rw [← e1]; exact hB
            refine g_aload_nq d_Mo_pin_53 rfl 1 rfl ?_
            refine g_get d_Mo_pin_54 f_Mo_91_Mo (by assumption) (by first | rfl | assumption) ?_
            first | refine g_if_eqB (tgt := 62) d_Mo_pin_57 (by decide) (fun h57 => ?_) (fun h57 => ?_) | refine g_if_eq (tgt := 62) d_Mo_pin_57 (by decide) (fun h57 => ?_) (fun h57 => ?_)
            · refine g_aload_nq d_Mo_pin_62 rfl 1 rfl ?_
              refine g_get d_Mo_pin_63 f_Mo_113_Mo (by assumption) (by first | rfl | assumption) ?_
              refine g_sipush (v := 160) d_Mo_pin_66 rfl ?_
              refine g_icmp_ne (tgt := 74) d_Mo_pin_69 (by decide) (fun h69 => ?_) (fun h69 => ?_)
              · have hlt : sN S 22 < 160 := Nat.lt_of_le_of_ne h22 (fun z => h69 (by rw [z]; rfl))
                rw [if_pos hlt] at hN
                refine g_aload_nq d_Mo_pin_74 rfl 1 rfl ?_
                refine g_get d_Mo_pin_75 f_Mo_26_Mo (by assumption) (by first | rfl | assumption) ?_
                refine g_aload_nq d_Mo_pin_78 rfl 1 rfl ?_
                refine g_get d_Mo_pin_79 f_Mo_113_Mo (by assumption) (by first | rfl | assumption) ?_
                refine g_iload_n d_Mo_pin_82 rfl 2 rfl ?_
                refine g_iast d_Mo_pin_83 (by assumption) (vp_in_nI (by omega) (by decide)) ?_
                rw [nI_clamp (by omega)]
                refine gen_putI (P := fun z => G w y_Mo_pin c_Mo_pin 5 r_Mo_pin (1, 25) Q _ _ _ z) hR (i := 709) (lvM (by decide)) cM_709 (fun Z1 e1 hR => ?_)
                have m710 := zhs_put_ne' e1 m710 (J 710 709 (by decide) (by decide) (by decide))
                have m711 := zhs_put_ne' e1 m711 (J 711 709 (by decide) (by decide) (by decide))
                have hm := zhs_put_ne' e1 hm (J 600 709 (by decide) (by decide) (by decide))
                have m709 := zhs_put_same' e1 m709
                have hB : Z1.2.2 = Z0.2.2 := by rw [← e1]; exact hB
                refine g_aload_nq d_Mo_pin_84 rfl 1 rfl ?_
                refine g_get d_Mo_pin_85 f_Mo_29_Mo (by assumption) (by first | rfl | assumption) ?_
                refine g_aload_nq d_Mo_pin_88 rfl 1 rfl ?_
                refine g_get d_Mo_pin_89 f_Mo_113_Mo (by assumption) (by first | rfl | assumption) ?_
                refine g_iload_n d_Mo_pin_92 rfl 3 rfl ?_
                refine g_iast d_Mo_pin_93 (by assumption) (vp_in_nI (by omega) (by decide)) ?_
                rw [nI_clamp (by omega)]
                refine gen_putI (P := fun z => G w y_Mo_pin c_Mo_pin 5 r_Mo_pin (1, 25) Q _ _ _ z) hR (i := 710) (lvM (by decide)) cM_710 (fun Z1 e1 hR => ?_)
                have m709 := zhs_put_ne' e1 m709 (J 709 710 (by decide) (by decide) (by decide))
                have m711 := zhs_put_ne' e1 m711 (J 711 710 (by decide) (by decide) (by decide))
                have hm := zhs_put_ne' e1 hm (J 600 710 (by decide) (by decide) (by decide))
                have m710 := zhs_put_same' e1 m710
                have hB : Z1.2.2 = Z0.2.2 := by rw [← e1]; exact hB
                refine g_aload_nq d_Mo_pin_94 rfl 1 rfl ?_
                refine g_get d_Mo_pin_95 f_Mo_32_Mo (by assumption) (by first | rfl | assumption) ?_
                refine g_aload_nq d_Mo_pin_98 rfl 1 rfl ?_
                refine g_get d_Mo_pin_99 f_Mo_113_Mo (by assumption) (by first | rfl | assumption) ?_
                refine g_iload_n d_Mo_pin_102 rfl 4 rfl ?_
                refine g_iast d_Mo_pin_103 (by assumption) (vp_in_nI (by omega) (by decide)) ?_
                rw [nI_clamp (by omega)]
                refine gen_putI (P := fun z => G w y_Mo_pin c_Mo_pin 5 r_Mo_pin (1, 25) Q _ _ _ z) hR (i := 711) (lvM (by decide)) cM_711 (fun Z1 e1 hR => ?_)
                have m709 := zhs_put_ne' e1 m709 (J 709 711 (by decide) (by decide) (by decide))
                have m710 := zhs_put_ne' e1 m710 (J 710 711 (by decide) (by decide) (by decide))
                have hm := zhs_put_ne' e1 hm (J 600 711 (by decide) (by decide) (by decide))
                have m711 := zhs_put_same' e1 m711
                have hB : Z1.2.2 = Z0.2.2 := by rw [← e1]; exact hB
                refine g_aload_nq d_Mo_pin_104 rfl 1 rfl ?_
                refine g_dup d_Mo_pin_105 rfl ?_
                refine g_get d_Mo_pin_106 f_Mo_113_Mo (by assumption) (by first | rfl | assumption) ?_
                refine g_iconst (v := 1) d_Mo_pin_109 rfl ?_
                refine g_iadd d_Mo_pin_110 ?_
                rw [show (1 : Int32) = nI 1 from rfl, nI_add]
                refine g_put d_Mo_pin_111 w_Mo_113_Mo (by assumption) (by first | rfl | exact zb_nar _) (by first | rfl | exact zb_fit _ | exact zrf_fit _) (by first | exact Nat.le_of_ble_eq_true rfl | omega) ?_
                refine gen_putN (P := fun z => G w y_Mo_pin c_Mo_pin 5 r_Mo_pin (1, 25) Q _ _ _ z) hR hL (n := 22) (by decide) c6N_22 (fun Z1 e1 hR hL => ?_)
                have m709 := zhs_put_ne' e1 m709 (J 709 600 (by decide) (by decide) (by decide))
                have m710 := zhs_put_ne' e1 m710 (J 710 600 (by decide) (by decide) (by decide))
                have m711 := zhs_put_ne' e1 m711 (J 711 600 (by decide) (by decide) (by decide))
                have hm := zhs_put_same' e1 hm
                simp only [List.set] at hm
                have hB : Z1.2.2 = Z0.2.2 := by rw [← e1]; exact hB
                refine g_aload_nq d_Mo_pin_114 rfl 1 rfl ?_
                refine g_get d_Mo_pin_115 f_Mo_113_Mo (by assumption) (by first | rfl | assumption) ?_
                refine g_iconst (v := 1) d_Mo_pin_118 rfl ?_
                refine g_isub d_Mo_pin_119 ?_
                rw [nI_pred]
                refine g_iret d_Mo_pin_120 ?_
                exact hN _ hR (by rw [hB, hZ0])
              · have h160 : sN S 22 = 160 := (nI_eq (b := 160) (by omega) (by decide)).mp h69
                rw [if_neg (by omega)] at hN
                refine g_iconst (v := (-1)) d_Mo_pin_72 rfl ?_
                refine g_iret d_Mo_pin_73 ?_
                exact hN _ hR (by rw [hB, hZ0])
            · exact absurd rfl h57
        · exact absurd h31 (by decide)

set_option maxHeartbeats 4000000 in
set_option maxRecDepth 100000 in
theorem C_Mo_join {w : zC} {Z : zZ} {Q : zR → zZ → Prop} {ad : Nat → Nat} {S : ST} (hR : Rep w ad S Z) (hL : ciLive S) {x y : Int32} (h22 : sN S 22 ≤ 160) (hI : ¬ (inr x (sN S 22) ∧ (y = -1 ∨ inr y (sN S 21))) → ∀ Z', Rep w ad (thS S 1) Z' → Z'.2.2 = Z.2.2 → Q (.inl (some (.int (0)))) Z') (hN : ∀ k, k < sN S 22 → x = nI k → (y = -1 ∨ inr y (sN S 21)) → if sI S 710 k = y then (∀ Z', Rep w ad (thS S 0) Z' → Z'.2.2 = Z.2.2 → Q (.inl (some (.int (0)))) Z') else ∀ Z', Rep w ad (wI (thS S 0) 710 (upd (sI S 710) k y)) Z' → Z'.2.2 = Z.2.2 → Q (.inl (some (.int (1)))) Z') : Cz w (1, 25) y_Mo_join (Cond.code y_Mo_join c_Mo_join 3 r_Mo_join :: wz) [.ref (ad 600), .int x, .int y] Z Q := by
  refine Cz.of (by decide +kernel) (by simp [lg_sl, Value.category]) ?_
  show G _ _ _ _ _ _ _ _ [(0, _), (1, _), (2, _)] _ _
  have hm : zhs Z (ad 600) (.inr (10, [.int (sI S 600 0), .ref (ad 701), .int (nI (sN S 20)), .int (nI (sN S 21)), .int (nI (sN S 22)), .ref (ad 705), .ref (ad 706), .ref (ad 707), .ref (ad 708), .ref (ad 709), .ref (ad 710), .ref (ad 711), .int (nI (sN S 23)), .ref (ad 713), .ref (ad 714), .ref (ad 715), .ref (ad 716), .int (nI (sN S 24)), .int (nI (sN S 25)), .ref (ad 719), .ref (ad 720), .ref (ad 721), .ref (ad 722), .ref (ad 723), .ref (ad 724), .int (sI S 600 25), .ref (ad 726), .ref (ad 727), .ref (ad 728), .int (sI S 600 29), .int (nI (sN S 26)), .ref (ad 731), .ref (ad 732), .int (nI (sN S 27)), .int (nI (sN S 28)), .int (nI (sN S 29)), .int (nI (sN S 30)), .ref (ad 737), .int (nI (sN S 31)), .int (nI (sN S 32)), .int (sI S 600 40), .ref (ad 741)])) := hR.m
  have m710 : zhs Z (ad 710) (xi w 160 (sI S 710)) := hR.ma 710 (by decide)
  have J : ∀ i j, mL i → mL j → i ≠ j → ad i ≠ ad j := fun i j hi hj hne => hR.inj (lvL hi) (lvL hj) hne
  obtain ⟨Z0, hZ0⟩ : ∃ Z0, Z0 = Z := ⟨_, rfl⟩
  have hB : Z.2.2 = Z0.2.2 := by rw [hZ0]
  refine g_aload_nq d_Mo_join_0 rfl 0 rfl ?_
  refine g_iload_n d_Mo_join_1 rfl 1 rfl ?_
  refine g_if_lt (tgt := 30) d_Mo_join_2 (by decide) (fun h2 => ?_) (fun h2 => ?_)
  · have hF := hI (fun z => z.1.1 h2)
    refine g_iconst (v := 1) d_Mo_join_30 rfl ?_
    refine g_put d_Mo_join_31 w_Mo_91_Mo (by assumption) (by first | rfl | exact zb_nar _) (by first | rfl | exact zb_fit _ | exact zrf_fit _) (by first | exact Nat.le_of_ble_eq_true rfl | omega) ?_
    refine gen_putI (P := fun z => G w y_Mo_join c_Mo_join 3 r_Mo_join (1, 25) Q _ _ _ z) hR (i := 600) lv6 c6_0 (fun Z1 e1 hR => ?_)
    have m710 := zhs_put_ne' e1 m710 (J 710 600 (by decide) (by decide) (by decide))
    have hm := zhs_put_same' e1 hm
    simp only [List.set] at hm
    have hB : Z1.2.2 = Z0.2.2 := by rw [← e1]; exact hB
    refine g_aload_nq d_Mo_join_34 rfl 0 rfl ?_
    refine g_get d_Mo_join_35 f_Mo_91_Mo (by assumption) (by first | rfl | assumption) ?_
    first | refine g_if_neB (tgt := 51) d_Mo_join_38 (by decide) (fun h38 => ?_) (fun h38 => ?_) | refine g_if_ne (tgt := 51) d_Mo_join_38 (by decide) (fun h38 => ?_) (fun h38 => ?_)
    · refine g_iconst (v := 0) d_Mo_join_51 rfl ?_
      refine g_zret d_Mo_join_52 ?_ ?_
      · first | rfl | exact zb_nar _ | exact zb_narc (by assumption)
      · exact hF _ hR (by rw [hB, hZ0])
    · exact absurd h38 (by decide)
  · refine g_iload_n d_Mo_join_5 rfl 1 rfl ?_
    refine g_aload_nq d_Mo_join_6 rfl 0 rfl ?_
    refine g_get d_Mo_join_7 f_Mo_113_Mo (by assumption) (by first | rfl | assumption) ?_
    refine g_icmp_ge (tgt := 30) d_Mo_join_10 (by decide) (fun h10 => ?_) (fun h10 => ?_)
    · have hF := hI (fun z => z.1.2 h10)
      refine g_iconst (v := 1) d_Mo_join_30 rfl ?_
      refine g_put d_Mo_join_31 w_Mo_91_Mo (by assumption) (by first | rfl | exact zb_nar _) (by first | rfl | exact zb_fit _ | exact zrf_fit _) (by first | exact Nat.le_of_ble_eq_true rfl | omega) ?_
      refine gen_putI (P := fun z => G w y_Mo_join c_Mo_join 3 r_Mo_join (1, 25) Q _ _ _ z) hR (i := 600) lv6 c6_0 (fun Z1 e1 hR => ?_)
      have m710 := zhs_put_ne' e1 m710 (J 710 600 (by decide) (by decide) (by decide))
      have hm := zhs_put_same' e1 hm
      simp only [List.set] at hm
      have hB : Z1.2.2 = Z0.2.2 := by rw [← e1]; exact hB
      refine g_aload_nq d_Mo_join_34 rfl 0 rfl ?_
      refine g_get d_Mo_join_35 f_Mo_91_Mo (by assumption) (by first | rfl | assumption) ?_
      first | refine g_if_neB (tgt := 51) d_Mo_join_38 (by decide) (fun h38 => ?_) (fun h38 => ?_) | refine g_if_ne (tgt := 51) d_Mo_join_38 (by decide) (fun h38 => ?_) (fun h38 => ?_)
      · refine g_iconst (v := 0) d_Mo_join_51 rfl ?_
        refine g_zret d_Mo_join_52 ?_ ?_
        · first | rfl | exact zb_nar _ | exact zb_narc (by assumption)
        · exact hF _ hR (by rw [hB, hZ0])
      · exact absurd h38 (by decide)
    · refine g_iload_n d_Mo_join_13 rfl 2 rfl ?_
      refine g_iconst (v := (-1)) d_Mo_join_14 rfl ?_
      refine g_icmp_eq (tgt := 26) d_Mo_join_15 (by decide) (fun h15 => ?_) (fun h15 => ?_)
      · have hy : (y = -1 ∨ inr y (sN S 21)) := Or.inl h15
        obtain ⟨k, hk, rfl⟩ := bel (n := sN S 22) ⟨h2, h10⟩ (by omega)
        have hN := hN k hk rfl hy
        refine g_iconst (v := 0) d_Mo_join_26 rfl ?_
        refine g_goto (tgt := 31) d_Mo_join_27 (by decide) ?_
        refine g_put d_Mo_join_31 w_Mo_91_Mo (by assumption) (by first | rfl | exact zb_nar _) (by first | rfl | exact zb_fit _ | exact zrf_fit _) (by first | exact Nat.le_of_ble_eq_true rfl | omega) ?_
        refine gen_putI (P := fun z => G w y_Mo_join c_Mo_join 3 r_Mo_join (1, 25) Q _ _ _ z) hR (i := 600) lv6 c6_0 (fun Z1 e1 hR => ?_)
        have m710 := zhs_put_ne' e1 m710 (J 710 600 (by decide) (by decide) (by decide))
        have hm := zhs_put_same' e1 hm
        simp only [List.set] at hm
        have hB : Z1.2.2 = Z0.2.2 := by rw [← e1]; exact hB
        refine g_aload_nq d_Mo_join_34 rfl 0 rfl ?_
        refine g_get d_Mo_join_35 f_Mo_91_Mo (by assumption) (by first | rfl | assumption) ?_
        first | refine g_if_neB (tgt := 51) d_Mo_join_38 (by decide) (fun h38 => ?_) (fun h38 => ?_) | refine g_if_ne (tgt := 51) d_Mo_join_38 (by decide) (fun h38 => ?_) (fun h38 => ?_)
        · exact absurd rfl h38
        · refine g_aload_nq d_Mo_join_41 rfl 0 rfl ?_
          refine g_get d_Mo_join_42 f_Mo_29_Mo (by assumption) (by first | rfl | assumption) ?_
          refine g_iload_n d_Mo_join_45 rfl 1 rfl ?_
          refine g_iald d_Mo_join_46 (by assumption) (vp_in_nI (by omega) (by decide)) ?_
          rw [nI_clamp (by omega)]
          refine g_iload_n d_Mo_join_47 rfl 2 rfl ?_
          refine g_icmp_ne (tgt := 53) d_Mo_join_48 (by decide) (fun h48 => ?_) (fun h48 => ?_)
          · rw [if_neg h48] at hN
            refine g_aload_nq d_Mo_join_53 rfl 0 rfl ?_
            refine g_get d_Mo_join_54 f_Mo_29_Mo (by assumption) (by first | rfl | assumption) ?_
            refine g_iload_n d_Mo_join_57 rfl 1 rfl ?_
            refine g_iload_n d_Mo_join_58 rfl 2 rfl ?_
            refine g_iast d_Mo_join_59 (by assumption) (vp_in_nI (by omega) (by decide)) ?_
            rw [nI_clamp (by omega)]
            refine gen_putI (P := fun z => G w y_Mo_join c_Mo_join 3 r_Mo_join (1, 25) Q _ _ _ z) hR (i := 710) (lvM (by decide)) cM_710 (fun Z1 e1 hR => ?_)
            have hm := zhs_put_ne' e1 hm (J 600 710 (by decide) (by decide) (by decide))
            have m710 := zhs_put_same' e1 m710
            have hB : Z1.2.2 = Z0.2.2 := by rw [← e1]; exact hB
            refine g_iconst (v := 1) d_Mo_join_60 rfl ?_
            refine g_zret d_Mo_join_61 ?_ ?_
            · first | rfl | exact zb_nar _ | exact zb_narc (by assumption)
            · exact hN _ hR (by rw [hB, hZ0])
          · rw [if_pos h48] at hN
            refine g_iconst (v := 0) d_Mo_join_51 rfl ?_
            refine g_zret d_Mo_join_52 ?_ ?_
            · first | rfl | exact zb_nar _ | exact zb_narc (by assumption)
            · exact hN _ hR (by rw [hB, hZ0])
      · refine g_aload_nq d_Mo_join_18 rfl 0 rfl ?_
        refine g_iload_n d_Mo_join_19 rfl 2 rfl ?_
        refine g_callV d_Mo_join_20 k_Mo_isNet l_Mo_110 i_Mo_isNet rfl p_Mo_isNet hm (by rfl) (by rfl) (Nat.le_of_ble_eq_true rfl) (by decide) (C_Mo_isNet hR ⟨_, rfl, ?_⟩)
        first | refine g_if_eqB (tgt := 30) d_Mo_join_23 (by decide) (fun h23 => ?_) (fun h23 => ?_) | refine g_if_eq (tgt := 30) d_Mo_join_23 (by decide) (fun h23 => ?_) (fun h23 => ?_)
        · have hF := hI (fun z => by rcases z.2 with z | z; exact h15 z; exact h23 z)
          refine g_iconst (v := 1) d_Mo_join_30 rfl ?_
          refine g_put d_Mo_join_31 w_Mo_91_Mo (by assumption) (by first | rfl | exact zb_nar _) (by first | rfl | exact zb_fit _ | exact zrf_fit _) (by first | exact Nat.le_of_ble_eq_true rfl | omega) ?_
          refine gen_putI (P := fun z => G w y_Mo_join c_Mo_join 3 r_Mo_join (1, 25) Q _ _ _ z) hR (i := 600) lv6 c6_0 (fun Z1 e1 hR => ?_)
          have m710 := zhs_put_ne' e1 m710 (J 710 600 (by decide) (by decide) (by decide))
          have hm := zhs_put_same' e1 hm
          simp only [List.set] at hm
          have hB : Z1.2.2 = Z0.2.2 := by rw [← e1]; exact hB
          refine g_aload_nq d_Mo_join_34 rfl 0 rfl ?_
          refine g_get d_Mo_join_35 f_Mo_91_Mo (by assumption) (by first | rfl | assumption) ?_
          first | refine g_if_neB (tgt := 51) d_Mo_join_38 (by decide) (fun h38 => ?_) (fun h38 => ?_) | refine g_if_ne (tgt := 51) d_Mo_join_38 (by decide) (fun h38 => ?_) (fun h38 => ?_)
          · refine g_iconst (v := 0) d_Mo_join_51 rfl ?_
            refine g_zret d_Mo_join_52 ?_ ?_
            · first | rfl | exact zb_nar _ | exact zb_narc (by assumption)
            · exact hF _ hR (by rw [hB, hZ0])
          · exact absurd h38 (by decide)
        · have hy : (y = -1 ∨ inr y (sN S 21)) := Or.inr h23
          obtain ⟨k, hk, rfl⟩ := bel (n := sN S 22) ⟨h2, h10⟩ (by omega)
          have hN := hN k hk rfl hy
          refine g_iconst (v := 0) d_Mo_join_26 rfl ?_
          refine g_goto (tgt := 31) d_Mo_join_27 (by decide) ?_
          refine g_put d_Mo_join_31 w_Mo_91_Mo (by assumption) (by first | rfl | exact zb_nar _) (by first | rfl | exact zb_fit _ | exact zrf_fit _) (by first | exact Nat.le_of_ble_eq_true rfl | omega) ?_
          refine gen_putI (P := fun z => G w y_Mo_join c_Mo_join 3 r_Mo_join (1, 25) Q _ _ _ z) hR (i := 600) lv6 c6_0 (fun Z1 e1 hR => ?_)
          have m710 := zhs_put_ne' e1 m710 (J 710 600 (by decide) (by decide) (by decide))
          have hm := zhs_put_same' e1 hm
          simp only [List.set] at hm
          have hB : Z1.2.2 = Z0.2.2 := by rw [← e1]; exact hB
          refine g_aload_nq d_Mo_join_34 rfl 0 rfl ?_
          refine g_get d_Mo_join_35 f_Mo_91_Mo (by assumption) (by first | rfl | assumption) ?_
          first | refine g_if_neB (tgt := 51) d_Mo_join_38 (by decide) (fun h38 => ?_) (fun h38 => ?_) | refine g_if_ne (tgt := 51) d_Mo_join_38 (by decide) (fun h38 => ?_) (fun h38 => ?_)
          · exact absurd rfl h38
          · refine g_aload_nq d_Mo_join_41 rfl 0 rfl ?_
            refine g_get d_Mo_join_42 f_Mo_29_Mo (by assumption) (by first | rfl | assumption) ?_
            refine g_iload_n d_Mo_join_45 rfl 1 rfl ?_
            refine g_iald d_Mo_join_46 (by assumption) (vp_in_nI (by omega) (by decide)) ?_
            rw [nI_clamp (by omega)]
            refine g_iload_n d_Mo_join_47 rfl 2 rfl ?_
            refine g_icmp_ne (tgt := 53) d_Mo_join_48 (by decide) (fun h48 => ?_) (fun h48 => ?_)
            · rw [if_neg h48] at hN
              refine g_aload_nq d_Mo_join_53 rfl 0 rfl ?_
              refine g_get d_Mo_join_54 f_Mo_29_Mo (by assumption) (by first | rfl | assumption) ?_
              refine g_iload_n d_Mo_join_57 rfl 1 rfl ?_
              refine g_iload_n d_Mo_join_58 rfl 2 rfl ?_
              refine g_iast d_Mo_join_59 (by assumption) (vp_in_nI (by omega) (by decide)) ?_
              rw [nI_clamp (by omega)]
              refine gen_putI (P := fun z => G w y_Mo_join c_Mo_join 3 r_Mo_join (1, 25) Q _ _ _ z) hR (i := 710) (lvM (by decide)) cM_710 (fun Z1 e1 hR => ?_)
              have hm := zhs_put_ne' e1 hm (J 600 710 (by decide) (by decide) (by decide))
              have m710 := zhs_put_same' e1 m710
              have hB : Z1.2.2 = Z0.2.2 := by rw [← e1]; exact hB
              refine g_iconst (v := 1) d_Mo_join_60 rfl ?_
              refine g_zret d_Mo_join_61 ?_ ?_
              · first | rfl | exact zb_nar _ | exact zb_narc (by assumption)
              · exact hN _ hR (by rw [hB, hZ0])
            · rw [if_pos h48] at hN
              refine g_iconst (v := 0) d_Mo_join_51 rfl ?_
              refine g_zret d_Mo_join_52 ?_ ?_
              · first | rfl | exact zb_nar _ | exact zb_narc (by assumption)
              · exact hN _ hR (by rw [hB, hZ0])

set_option maxHeartbeats 4000000 in
set_option maxRecDepth 100000 in
theorem C_Mo_field {w : zC} {Z : zZ} {Q : zR → zZ → Prop} {ad : Nat → Nat} {S : ST} (hR : Rep w ad S Z) (hL : ciLive S) {x y : Int32} {v : Int64} (h20 : sN S 20 ≤ 40) (hI : ¬ (inr x (sN S 20) ∧ inr y 8) → ∀ Z', Rep w ad (thS S 1) Z' → Z'.2.2 = Z.2.2 → Q (.inl (some (.int (0)))) Z') (hN : ∀ k j, k < sN S 20 → j < 8 → x = nI k → y = nI j → if sJ S 706 (8 * k + j) = v then (∀ Z', Rep w ad (thS S 0) Z' → Z'.2.2 = Z.2.2 → Q (.inl (some (.int (0)))) Z') else ∀ Z', Rep w ad (wJ (thS S 0) 706 (vp_updL (sJ S 706) (8 * k + j) v)) Z' → Z'.2.2 = Z.2.2 → Q (.inl (some (.int (1)))) Z') : Cz w (1, 25) y_Mo_field (Cond.code y_Mo_field c_Mo_field 5 r_Mo_field :: wz) [.ref (ad 600), .int x, .int y, .long v] Z Q := by
  refine Cz.of (by decide +kernel) (by simp [lg_sl, Value.category]) ?_
  show G _ _ _ _ _ _ _ _ [(0, _), (1, _), (2, _), (3, _)] _ _
  have hm : zhs Z (ad 600) (.inr (10, [.int (sI S 600 0), .ref (ad 701), .int (nI (sN S 20)), .int (nI (sN S 21)), .int (nI (sN S 22)), .ref (ad 705), .ref (ad 706), .ref (ad 707), .ref (ad 708), .ref (ad 709), .ref (ad 710), .ref (ad 711), .int (nI (sN S 23)), .ref (ad 713), .ref (ad 714), .ref (ad 715), .ref (ad 716), .int (nI (sN S 24)), .int (nI (sN S 25)), .ref (ad 719), .ref (ad 720), .ref (ad 721), .ref (ad 722), .ref (ad 723), .ref (ad 724), .int (sI S 600 25), .ref (ad 726), .ref (ad 727), .ref (ad 728), .int (sI S 600 29), .int (nI (sN S 26)), .ref (ad 731), .ref (ad 732), .int (nI (sN S 27)), .int (nI (sN S 28)), .int (nI (sN S 29)), .int (nI (sN S 30)), .ref (ad 737), .int (nI (sN S 31)), .int (nI (sN S 32)), .int (sI S 600 40), .ref (ad 741)])) := hR.m
  have m706 : zhs Z (ad 706) (xl w 320 (sJ S 706)) := hR.ma 706 (by decide)
  have J : ∀ i j, mL i → mL j → i ≠ j → ad i ≠ ad j := fun i j hi hj hne => hR.inj (lvL hi) (lvL hj) hne
  obtain ⟨Z0, hZ0⟩ : ∃ Z0, Z0 = Z := ⟨_, rfl⟩
  have hB : Z.2.2 = Z0.2.2 := by rw [hZ0]
  refine g_aload_nq d_Mo_field_0 rfl 0 rfl ?_
  refine g_aload_nq d_Mo_field_1 rfl 0 rfl ?_
  refine g_iload_n d_Mo_field_2 rfl 1 rfl ?_
  refine g_callV d_Mo_field_3 k_Mo_isPart l_Mo_107 i_Mo_isPart rfl p_Mo_isPart hm (by rfl) (by rfl) (Nat.le_of_ble_eq_true rfl) (by decide) (C_Mo_isPart hR ⟨_, rfl, ?_⟩)
  first | refine g_if_eqB (tgt := 23) d_Mo_field_6 (by decide) (fun h6 => ?_) (fun h6 => ?_) | refine g_if_eq (tgt := 23) d_Mo_field_6 (by decide) (fun h6 => ?_) (fun h6 => ?_)
  · have hF := hI (fun z => h6 z.1)
    refine g_iconst (v := 1) d_Mo_field_23 rfl ?_
    refine g_put d_Mo_field_24 w_Mo_91_Mo (by assumption) (by first | rfl | exact zb_nar _) (by first | rfl | exact zb_fit _ | exact zrf_fit _) (by first | exact Nat.le_of_ble_eq_true rfl | omega) ?_
    refine gen_putI (P := fun z => G w y_Mo_field c_Mo_field 5 r_Mo_field (1, 25) Q _ _ _ z) hR (i := 600) lv6 c6_0 (fun Z1 e1 hR => ?_)
    have m706 := zhs_put_ne' e1 m706 (J 706 600 (by decide) (by decide) (by decide))
    have hm := zhs_put_same' e1 hm
    simp only [List.set] at hm
    have hB : Z1.2.2 = Z0.2.2 := by rw [← e1]; exact hB
    refine g_aload_nq d_Mo_field_27 rfl 0 rfl ?_
    refine g_get d_Mo_field_28 f_Mo_91_Mo (by assumption) (by first | rfl | assumption) ?_
    first | refine g_if_neB (tgt := 50) d_Mo_field_31 (by decide) (fun h31 => ?_) (fun h31 => ?_) | refine g_if_ne (tgt := 50) d_Mo_field_31 (by decide) (fun h31 => ?_) (fun h31 => ?_)
    · refine g_iconst (v := 0) d_Mo_field_50 rfl ?_
      refine g_zret d_Mo_field_51 ?_ ?_
      · first | rfl | exact zb_nar _ | exact zb_narc (by assumption)
      · exact hF _ hR (by rw [hB, hZ0])
    · exact absurd h31 (by decide)
  · refine g_iload_n d_Mo_field_9 rfl 2 rfl ?_
    refine g_if_lt (tgt := 23) d_Mo_field_10 (by decide) (fun h10 => ?_) (fun h10 => ?_)
    · have hF := hI (fun z => z.2.1 h10)
      refine g_iconst (v := 1) d_Mo_field_23 rfl ?_
      refine g_put d_Mo_field_24 w_Mo_91_Mo (by assumption) (by first | rfl | exact zb_nar _) (by first | rfl | exact zb_fit _ | exact zrf_fit _) (by first | exact Nat.le_of_ble_eq_true rfl | omega) ?_
      refine gen_putI (P := fun z => G w y_Mo_field c_Mo_field 5 r_Mo_field (1, 25) Q _ _ _ z) hR (i := 600) lv6 c6_0 (fun Z1 e1 hR => ?_)
      have m706 := zhs_put_ne' e1 m706 (J 706 600 (by decide) (by decide) (by decide))
      have hm := zhs_put_same' e1 hm
      simp only [List.set] at hm
      have hB : Z1.2.2 = Z0.2.2 := by rw [← e1]; exact hB
      refine g_aload_nq d_Mo_field_27 rfl 0 rfl ?_
      refine g_get d_Mo_field_28 f_Mo_91_Mo (by assumption) (by first | rfl | assumption) ?_
      first | refine g_if_neB (tgt := 50) d_Mo_field_31 (by decide) (fun h31 => ?_) (fun h31 => ?_) | refine g_if_ne (tgt := 50) d_Mo_field_31 (by decide) (fun h31 => ?_) (fun h31 => ?_)
      · refine g_iconst (v := 0) d_Mo_field_50 rfl ?_
        refine g_zret d_Mo_field_51 ?_ ?_
        · first | rfl | exact zb_nar _ | exact zb_narc (by assumption)
        · exact hF _ hR (by rw [hB, hZ0])
      · exact absurd h31 (by decide)
    · refine g_iload_n d_Mo_field_13 rfl 2 rfl ?_
      refine g_bipush (v := 8) d_Mo_field_14 rfl ?_
      refine g_icmp_ge (tgt := 23) d_Mo_field_16 (by decide) (fun h16 => ?_) (fun h16 => ?_)
      · have hF := hI (fun z => z.2.2 h16)
        refine g_iconst (v := 1) d_Mo_field_23 rfl ?_
        refine g_put d_Mo_field_24 w_Mo_91_Mo (by assumption) (by first | rfl | exact zb_nar _) (by first | rfl | exact zb_fit _ | exact zrf_fit _) (by first | exact Nat.le_of_ble_eq_true rfl | omega) ?_
        refine gen_putI (P := fun z => G w y_Mo_field c_Mo_field 5 r_Mo_field (1, 25) Q _ _ _ z) hR (i := 600) lv6 c6_0 (fun Z1 e1 hR => ?_)
        have m706 := zhs_put_ne' e1 m706 (J 706 600 (by decide) (by decide) (by decide))
        have hm := zhs_put_same' e1 hm
        simp only [List.set] at hm
        have hB : Z1.2.2 = Z0.2.2 := by rw [← e1]; exact hB
        refine g_aload_nq d_Mo_field_27 rfl 0 rfl ?_
        refine g_get d_Mo_field_28 f_Mo_91_Mo (by assumption) (by first | rfl | assumption) ?_
        first | refine g_if_neB (tgt := 50) d_Mo_field_31 (by decide) (fun h31 => ?_) (fun h31 => ?_) | refine g_if_ne (tgt := 50) d_Mo_field_31 (by decide) (fun h31 => ?_) (fun h31 => ?_)
        · refine g_iconst (v := 0) d_Mo_field_50 rfl ?_
          refine g_zret d_Mo_field_51 ?_ ?_
          · first | rfl | exact zb_nar _ | exact zb_narc (by assumption)
          · exact hF _ hR (by rw [hB, hZ0])
        · exact absurd h31 (by decide)
      · obtain ⟨k, hk, rfl⟩ := bel (n := sN S 20) h6 (by omega)
        obtain ⟨j, hj, rfl⟩ := bel (n := 8) ⟨h10, h16⟩ (by decide)
        have hN := hN k j hk hj rfl rfl
        refine g_iconst (v := 0) d_Mo_field_19 rfl ?_
        refine g_goto (tgt := 24) d_Mo_field_20 (by decide) ?_
        refine g_put d_Mo_field_24 w_Mo_91_Mo (by assumption) (by first | rfl | exact zb_nar _) (by first | rfl | exact zb_fit _ | exact zrf_fit _) (by first | exact Nat.le_of_ble_eq_true rfl | omega) ?_
        refine gen_putI (P := fun z => G w y_Mo_field c_Mo_field 5 r_Mo_field (1, 25) Q _ _ _ z) hR (i := 600) lv6 c6_0 (fun Z1 e1 hR => ?_)
        have m706 := zhs_put_ne' e1 m706 (J 706 600 (by decide) (by decide) (by decide))
        have hm := zhs_put_same' e1 hm
        simp only [List.set] at hm
        have hB : Z1.2.2 = Z0.2.2 := by rw [← e1]; exact hB
        refine g_aload_nq d_Mo_field_27 rfl 0 rfl ?_
        refine g_get d_Mo_field_28 f_Mo_91_Mo (by assumption) (by first | rfl | assumption) ?_
        first | refine g_if_neB (tgt := 50) d_Mo_field_31 (by decide) (fun h31 => ?_) (fun h31 => ?_) | refine g_if_ne (tgt := 50) d_Mo_field_31 (by decide) (fun h31 => ?_) (fun h31 => ?_)
        · exact absurd rfl h31
        · refine g_aload_nq d_Mo_field_34 rfl 0 rfl ?_
          refine g_get d_Mo_field_35 f_Mo_16_Mo (by assumption) (by first | rfl | assumption) ?_
          refine g_bipush (v := 8) d_Mo_field_38 rfl ?_
          refine g_iload_n d_Mo_field_40 rfl 1 rfl ?_
          refine g_imul d_Mo_field_41 ?_
          rw [show (8 : Int32) = nI 8 from rfl, pk_mul]
          refine g_iload_n d_Mo_field_42 rfl 2 rfl ?_
          refine g_iadd d_Mo_field_43 ?_
          rw [nI_add]
          refine g_lald d_Mo_field_44 (by assumption) (vp_in_nI (by omega) (by decide)) ?_
          rw [nI_clamp (by omega)]
          refine g_lload_n d_Mo_field_45 rfl 3 rfl ?_
          refine g_lcmp d_Mo_field_46 ?_
          refine g_if_ne (tgt := 52) d_Mo_field_47 (by decide) (fun h47 => ?_) (fun h47 => ?_)
          · rw [lg_cmp_eq] at h47
            rw [if_neg h47] at hN
            refine g_aload_nq d_Mo_field_52 rfl 0 rfl ?_
            refine g_get d_Mo_field_53 f_Mo_16_Mo (by assumption) (by first | rfl | assumption) ?_
            refine g_bipush (v := 8) d_Mo_field_56 rfl ?_
            refine g_iload_n d_Mo_field_58 rfl 1 rfl ?_
            refine g_imul d_Mo_field_59 ?_
            rw [show (8 : Int32) = nI 8 from rfl, pk_mul]
            refine g_iload_n d_Mo_field_60 rfl 2 rfl ?_
            refine g_iadd d_Mo_field_61 ?_
            rw [nI_add]
            refine g_lload_n d_Mo_field_62 rfl 3 rfl ?_
            refine g_last d_Mo_field_63 (by assumption) (vp_in_nI (by omega) (by decide)) ?_
            rw [nI_clamp (by omega)]
            refine gen_putJ (P := fun z => G w y_Mo_field c_Mo_field 5 r_Mo_field (1, 25) Q _ _ _ z) hR (i := 706) (lvM (by decide)) cM_706 (fun Z1 e1 hR => ?_)
            have hm := zhs_put_ne' e1 hm (J 600 706 (by decide) (by decide) (by decide))
            have m706 := zhs_put_same' e1 m706
            have hB : Z1.2.2 = Z0.2.2 := by rw [← e1]; exact hB
            refine g_iconst (v := 1) d_Mo_field_64 rfl ?_
            refine g_zret d_Mo_field_65 ?_ ?_
            · first | rfl | exact zb_nar _ | exact zb_narc (by assumption)
            · exact hN _ hR (by rw [hB, hZ0])
          · rw [lg_cmp_eq] at h47
            rw [if_pos h47] at hN
            refine g_iconst (v := 0) d_Mo_field_50 rfl ?_
            refine g_zret d_Mo_field_51 ?_ ?_
            · first | rfl | exact zb_nar _ | exact zb_narc (by assumption)
            · exact hN _ hR (by rw [hB, hZ0])

set_option maxHeartbeats 4000000 in
set_option maxRecDepth 100000 in
theorem C_Mo_end {w : zC} {Z : zZ} {Q : zR → zZ → Prop} {ad : Nat → Nat} {S : ST} (hR : Rep w ad S Z) (hL : ciLive S) {x : Int32} {y z : Int64} (h23 : sN S 23 ≤ 100) (hI : ¬ inr x (sN S 21) → ∀ Z', Rep w ad (thS S 1) Z' → Z'.2.2 = Z.2.2 → Q (.inl (some (.int (0)))) Z') (hN : inr x (sN S 21) → if sN S 23 < 100 then (∀ Z', Rep w ad (wN (wJ (wJ (wI (thS S 0) 713 (upd (sI S 713) (sN S 23) x)) 714 (vp_updL (sJ S 714) (sN S 23) y)) 715 (vp_updL (sJ S 715) (sN S 23) z)) 23 (sN S 23 + 1)) Z' → Z'.2.2 = Z.2.2 → Q (.inl (some (.int (1)))) Z') else ∀ Z', Rep w ad (thS S 0) Z' → Z'.2.2 = Z.2.2 → Q (.inl (some (.int (0)))) Z') : Cz w (1, 25) y_Mo_end (Cond.code y_Mo_end c_Mo_end 6 r_Mo_end :: wz) [.ref (ad 600), .int x, .long y, .long z] Z Q := by
  refine Cz.of (by decide +kernel) (by simp [lg_sl, Value.category]) ?_
  show G _ _ _ _ _ _ _ _ [(0, _), (1, _), (2, _), (4, _)] _ _
  have hm : zhs Z (ad 600) (.inr (10, [.int (sI S 600 0), .ref (ad 701), .int (nI (sN S 20)), .int (nI (sN S 21)), .int (nI (sN S 22)), .ref (ad 705), .ref (ad 706), .ref (ad 707), .ref (ad 708), .ref (ad 709), .ref (ad 710), .ref (ad 711), .int (nI (sN S 23)), .ref (ad 713), .ref (ad 714), .ref (ad 715), .ref (ad 716), .int (nI (sN S 24)), .int (nI (sN S 25)), .ref (ad 719), .ref (ad 720), .ref (ad 721), .ref (ad 722), .ref (ad 723), .ref (ad 724), .int (sI S 600 25), .ref (ad 726), .ref (ad 727), .ref (ad 728), .int (sI S 600 29), .int (nI (sN S 26)), .ref (ad 731), .ref (ad 732), .int (nI (sN S 27)), .int (nI (sN S 28)), .int (nI (sN S 29)), .int (nI (sN S 30)), .ref (ad 737), .int (nI (sN S 31)), .int (nI (sN S 32)), .int (sI S 600 40), .ref (ad 741)])) := hR.m
  have m713 : zhs Z (ad 713) (xi w 100 (sI S 713)) := hR.ma 713 (by decide)
  have m714 : zhs Z (ad 714) (xl w 100 (sJ S 714)) := hR.ma 714 (by decide)
  have m715 : zhs Z (ad 715) (xl w 100 (sJ S 715)) := hR.ma 715 (by decide)
  have J : ∀ i j, mL i → mL j → i ≠ j → ad i ≠ ad j := fun i j hi hj hne => hR.inj (lvL hi) (lvL hj) hne
  obtain ⟨Z0, hZ0⟩ : ∃ Z0, Z0 = Z := ⟨_, rfl⟩
  have hB : Z.2.2 = Z0.2.2 := by rw [hZ0]
  refine g_aload_nq d_Mo_end_0 rfl 0 rfl ?_
  refine g_aload_nq d_Mo_end_1 rfl 0 rfl ?_
  refine g_iload_n d_Mo_end_2 rfl 1 rfl ?_
  refine g_callV d_Mo_end_3 k_Mo_isNet l_Mo_110 i_Mo_isNet rfl p_Mo_isNet hm (by rfl) (by rfl) (Nat.le_of_ble_eq_true rfl) (by decide) (C_Mo_isNet hR ⟨_, rfl, ?_⟩)
  first | refine g_if_eqB (tgt := 13) d_Mo_end_6 (by decide) (fun h6 => ?_) (fun h6 => ?_) | refine g_if_eq (tgt := 13) d_Mo_end_6 (by decide) (fun h6 => ?_) (fun h6 => ?_)
  · have hF := hI h6
    refine g_iconst (v := 1) d_Mo_end_13 rfl ?_
    refine g_put d_Mo_end_14 w_Mo_91_Mo (by assumption) (by first | rfl | exact zb_nar _) (by first | rfl | exact zb_fit _ | exact zrf_fit _) (by first | exact Nat.le_of_ble_eq_true rfl | omega) ?_
    refine gen_putI (P := fun z => G w y_Mo_end c_Mo_end 6 r_Mo_end (1, 25) Q _ _ _ z) hR (i := 600) lv6 c6_0 (fun Z1 e1 hR => ?_)
    have m713 := zhs_put_ne' e1 m713 (J 713 600 (by decide) (by decide) (by decide))
    have m714 := zhs_put_ne' e1 m714 (J 714 600 (by decide) (by decide) (by decide))
    have m715 := zhs_put_ne' e1 m715 (J 715 600 (by decide) (by decide) (by decide))
    have hm := zhs_put_same' e1 hm
    simp only [List.set] at hm
    have hB : Z1.2.2 = Z0.2.2 := by rw [← e1]; exact hB
    refine g_aload_nq d_Mo_end_17 rfl 0 rfl ?_
    refine g_get d_Mo_end_18 f_Mo_91_Mo (by assumption) (by first | rfl | assumption) ?_
    first | refine g_if_neB (tgt := 33) d_Mo_end_21 (by decide) (fun h21 => ?_) (fun h21 => ?_) | refine g_if_ne (tgt := 33) d_Mo_end_21 (by decide) (fun h21 => ?_) (fun h21 => ?_)
    · refine g_iconst (v := 0) d_Mo_end_33 rfl ?_
      refine g_zret d_Mo_end_34 ?_ ?_
      · first | rfl | exact zb_nar _ | exact zb_narc (by assumption)
      · exact hF _ hR (by rw [hB, hZ0])
    · exact absurd h21 (by decide)
  · have hN := hN h6
    refine g_iconst (v := 0) d_Mo_end_9 rfl ?_
    refine g_goto (tgt := 14) d_Mo_end_10 (by decide) ?_
    refine g_put d_Mo_end_14 w_Mo_91_Mo (by assumption) (by first | rfl | exact zb_nar _) (by first | rfl | exact zb_fit _ | exact zrf_fit _) (by first | exact Nat.le_of_ble_eq_true rfl | omega) ?_
    refine gen_putI (P := fun z => G w y_Mo_end c_Mo_end 6 r_Mo_end (1, 25) Q _ _ _ z) hR (i := 600) lv6 c6_0 (fun Z1 e1 hR => ?_)
    have m713 := zhs_put_ne' e1 m713 (J 713 600 (by decide) (by decide) (by decide))
    have m714 := zhs_put_ne' e1 m714 (J 714 600 (by decide) (by decide) (by decide))
    have m715 := zhs_put_ne' e1 m715 (J 715 600 (by decide) (by decide) (by decide))
    have hm := zhs_put_same' e1 hm
    simp only [List.set] at hm
    have hB : Z1.2.2 = Z0.2.2 := by rw [← e1]; exact hB
    refine g_aload_nq d_Mo_end_17 rfl 0 rfl ?_
    refine g_get d_Mo_end_18 f_Mo_91_Mo (by assumption) (by first | rfl | assumption) ?_
    first | refine g_if_neB (tgt := 33) d_Mo_end_21 (by decide) (fun h21 => ?_) (fun h21 => ?_) | refine g_if_ne (tgt := 33) d_Mo_end_21 (by decide) (fun h21 => ?_) (fun h21 => ?_)
    · exact absurd rfl h21
    · refine g_aload_nq d_Mo_end_24 rfl 0 rfl ?_
      refine g_get d_Mo_end_25 f_Mo_116_Mo (by assumption) (by first | rfl | assumption) ?_
      refine g_bipush (v := 100) d_Mo_end_28 rfl ?_
      refine g_icmp_ne (tgt := 35) d_Mo_end_30 (by decide) (fun h30 => ?_) (fun h30 => ?_)
      · have hlt : sN S 23 < 100 := Nat.lt_of_le_of_ne h23 (fun z => h30 (by rw [z]; rfl))
        rw [if_pos hlt] at hN
        refine g_aload_nq d_Mo_end_35 rfl 0 rfl ?_
        refine g_get d_Mo_end_36 f_Mo_35_Mo (by assumption) (by first | rfl | assumption) ?_
        refine g_aload_nq d_Mo_end_39 rfl 0 rfl ?_
        refine g_get d_Mo_end_40 f_Mo_116_Mo (by assumption) (by first | rfl | assumption) ?_
        refine g_iload_n d_Mo_end_43 rfl 1 rfl ?_
        refine g_iast d_Mo_end_44 (by assumption) (vp_in_nI (by omega) (by decide)) ?_
        rw [nI_clamp (by omega)]
        refine gen_putI (P := fun z => G w y_Mo_end c_Mo_end 6 r_Mo_end (1, 25) Q _ _ _ z) hR (i := 713) (lvM (by decide)) cM_713 (fun Z1 e1 hR => ?_)
        have m714 := zhs_put_ne' e1 m714 (J 714 713 (by decide) (by decide) (by decide))
        have m715 := zhs_put_ne' e1 m715 (J 715 713 (by decide) (by decide) (by decide))
        have hm := zhs_put_ne' e1 hm (J 600 713 (by decide) (by decide) (by decide))
        have m713 := zhs_put_same' e1 m713
        have hB : Z1.2.2 = Z0.2.2 := by rw [← e1]; exact hB
        refine g_aload_nq d_Mo_end_45 rfl 0 rfl ?_
        refine g_get d_Mo_end_46 f_Mo_38_Mo (by assumption) (by first | rfl | assumption) ?_
        refine g_aload_nq d_Mo_end_49 rfl 0 rfl ?_
        refine g_get d_Mo_end_50 f_Mo_116_Mo (by assumption) (by first | rfl | assumption) ?_
        refine g_lload_n d_Mo_end_53 rfl 2 rfl ?_
        refine g_last d_Mo_end_54 (by assumption) (vp_in_nI (by omega) (by decide)) ?_
        rw [nI_clamp (by omega)]
        refine gen_putJ (P := fun z => G w y_Mo_end c_Mo_end 6 r_Mo_end (1, 25) Q _ _ _ z) hR (i := 714) (lvM (by decide)) cM_714 (fun Z1 e1 hR => ?_)
        have m713 := zhs_put_ne' e1 m713 (J 713 714 (by decide) (by decide) (by decide))
        have m715 := zhs_put_ne' e1 m715 (J 715 714 (by decide) (by decide) (by decide))
        have hm := zhs_put_ne' e1 hm (J 600 714 (by decide) (by decide) (by decide))
        have m714 := zhs_put_same' e1 m714
        have hB : Z1.2.2 = Z0.2.2 := by rw [← e1]; exact hB
        refine g_aload_nq d_Mo_end_55 rfl 0 rfl ?_
        refine g_get d_Mo_end_56 f_Mo_41_Mo (by assumption) (by first | rfl | assumption) ?_
        refine g_aload_nq d_Mo_end_59 rfl 0 rfl ?_
        refine g_get d_Mo_end_60 f_Mo_116_Mo (by assumption) (by first | rfl | assumption) ?_
        refine g_lload d_Mo_end_63 3 rfl ?_
        refine g_last d_Mo_end_65 (by assumption) (vp_in_nI (by omega) (by decide)) ?_
        rw [nI_clamp (by omega)]
        refine gen_putJ (P := fun z => G w y_Mo_end c_Mo_end 6 r_Mo_end (1, 25) Q _ _ _ z) hR (i := 715) (lvM (by decide)) cM_715 (fun Z1 e1 hR => ?_)
        have m713 := zhs_put_ne' e1 m713 (J 713 715 (by decide) (by decide) (by decide))
        have m714 := zhs_put_ne' e1 m714 (J 714 715 (by decide) (by decide) (by decide))
        have hm := zhs_put_ne' e1 hm (J 600 715 (by decide) (by decide) (by decide))
        have m715 := zhs_put_same' e1 m715
        have hB : Z1.2.2 = Z0.2.2 := by rw [← e1]; exact hB
        refine g_aload_nq d_Mo_end_66 rfl 0 rfl ?_
        refine g_dup d_Mo_end_67 rfl ?_
        refine g_get d_Mo_end_68 f_Mo_116_Mo (by assumption) (by first | rfl | assumption) ?_
        refine g_iconst (v := 1) d_Mo_end_71 rfl ?_
        refine g_iadd d_Mo_end_72 ?_
        rw [show (1 : Int32) = nI 1 from rfl, nI_add]
        refine g_put d_Mo_end_73 w_Mo_116_Mo (by assumption) (by first | rfl | exact zb_nar _) (by first | rfl | exact zb_fit _ | exact zrf_fit _) (by first | exact Nat.le_of_ble_eq_true rfl | omega) ?_
        refine gen_putN (P := fun z => G w y_Mo_end c_Mo_end 6 r_Mo_end (1, 25) Q _ _ _ z) hR hL (n := 23) (by decide) c6N_23 (fun Z1 e1 hR hL => ?_)
        have m713 := zhs_put_ne' e1 m713 (J 713 600 (by decide) (by decide) (by decide))
        have m714 := zhs_put_ne' e1 m714 (J 714 600 (by decide) (by decide) (by decide))
        have m715 := zhs_put_ne' e1 m715 (J 715 600 (by decide) (by decide) (by decide))
        have hm := zhs_put_same' e1 hm
        simp only [List.set] at hm
        have hB : Z1.2.2 = Z0.2.2 := by rw [← e1]; exact hB
        refine g_iconst (v := 1) d_Mo_end_76 rfl ?_
        refine g_zret d_Mo_end_77 ?_ ?_
        · first | rfl | exact zb_nar _ | exact zb_narc (by assumption)
        · exact hN _ hR (by rw [hB, hZ0])
      · have h100x : sN S 23 = 100 := (nI_eq (b := 100) (by omega) (by decide)).mp h30
        rw [if_neg (by omega)] at hN
        refine g_iconst (v := 0) d_Mo_end_33 rfl ?_
        refine g_zret d_Mo_end_34 ?_ ?_
        · first | rfl | exact zb_nar _ | exact zb_narc (by assumption)
        · exact hN _ hR (by rw [hB, hZ0])

set_option maxHeartbeats 4000000 in
set_option maxRecDepth 100000 in
theorem C_Mo_off {w : zC} {Z : zZ} {Q : zR → zZ → Prop} {ad : Nat → Nat} {S : ST} (hR : Rep w ad S Z) (hL : ciLive S) {x : Int32} {c : Prop} [Decidable c] (h25 : sN S 25 ≤ 20) (hI : ¬ inr x (7 + sN S 25) → ∀ Z', Rep w ad (thS S 1) Z' → Z'.2.2 = Z.2.2 → Q (.inl (some (.int (0)))) Z') (hN : ∀ k, k < 7 + sN S 25 → x = nI k → if sI S 724 k = zb c then (∀ Z', Rep w ad (thS S 0) Z' → Z'.2.2 = Z.2.2 → Q (.inl (some (.int (0)))) Z') else ∀ Z', Rep w ad (wI (thS S 0) 724 (upd (sI S 724) k (zb c))) Z' → Z'.2.2 = Z.2.2 → Q (.inl (some (.int (1)))) Z') : Cz w (1, 25) y_Mo_off (Cond.code y_Mo_off c_Mo_off 3 r_Mo_off :: wz) [.ref (ad 600), .int x, .int (zb c)] Z Q := by
  refine Cz.of (by decide +kernel) (by simp [lg_sl, Value.category]) ?_
  show G _ _ _ _ _ _ _ _ [(0, _), (1, _), (2, _)] _ _
  have hm : zhs Z (ad 600) (.inr (10, [.int (sI S 600 0), .ref (ad 701), .int (nI (sN S 20)), .int (nI (sN S 21)), .int (nI (sN S 22)), .ref (ad 705), .ref (ad 706), .ref (ad 707), .ref (ad 708), .ref (ad 709), .ref (ad 710), .ref (ad 711), .int (nI (sN S 23)), .ref (ad 713), .ref (ad 714), .ref (ad 715), .ref (ad 716), .int (nI (sN S 24)), .int (nI (sN S 25)), .ref (ad 719), .ref (ad 720), .ref (ad 721), .ref (ad 722), .ref (ad 723), .ref (ad 724), .int (sI S 600 25), .ref (ad 726), .ref (ad 727), .ref (ad 728), .int (sI S 600 29), .int (nI (sN S 26)), .ref (ad 731), .ref (ad 732), .int (nI (sN S 27)), .int (nI (sN S 28)), .int (nI (sN S 29)), .int (nI (sN S 30)), .ref (ad 737), .int (nI (sN S 31)), .int (nI (sN S 32)), .int (sI S 600 40), .ref (ad 741)])) := hR.m
  have m724 : zhs Z (ad 724) (xz w 27 (sI S 724)) := hR.ma 724 (by decide)
  have J : ∀ i j, mL i → mL j → i ≠ j → ad i ≠ ad j := fun i j hi hj hne => hR.inj (lvL hi) (lvL hj) hne
  obtain ⟨Z0, hZ0⟩ : ∃ Z0, Z0 = Z := ⟨_, rfl⟩
  have hB : Z.2.2 = Z0.2.2 := by rw [hZ0]
  refine g_aload_nq d_Mo_off_0 rfl 0 rfl ?_
  refine g_aload_nq d_Mo_off_1 rfl 0 rfl ?_
  refine g_iload_n d_Mo_off_2 rfl 1 rfl ?_
  refine g_callV d_Mo_off_3 k_Mo_isRule l_Mo_281 i_Mo_isRule rfl p_Mo_isRule hm (by rfl) (by rfl) (Nat.le_of_ble_eq_true rfl) (by decide) (C_Mo_isRule hR ⟨_, rfl, ?_⟩)
  first | refine g_if_eqB (tgt := 13) d_Mo_off_6 (by decide) (fun h6 => ?_) (fun h6 => ?_) | refine g_if_eq (tgt := 13) d_Mo_off_6 (by decide) (fun h6 => ?_) (fun h6 => ?_)
  · have hF := hI h6
    refine g_iconst (v := 1) d_Mo_off_13 rfl ?_
    refine g_put d_Mo_off_14 w_Mo_91_Mo (by assumption) (by first | rfl | exact zb_nar _) (by first | rfl | exact zb_fit _ | exact zrf_fit _) (by first | exact Nat.le_of_ble_eq_true rfl | omega) ?_
    refine gen_putI (P := fun z => G w y_Mo_off c_Mo_off 3 r_Mo_off (1, 25) Q _ _ _ z) hR (i := 600) lv6 c6_0 (fun Z1 e1 hR => ?_)
    have m724 := zhs_put_ne' e1 m724 (J 724 600 (by decide) (by decide) (by decide))
    have hm := zhs_put_same' e1 hm
    simp only [List.set] at hm
    have hB : Z1.2.2 = Z0.2.2 := by rw [← e1]; exact hB
    refine g_aload_nq d_Mo_off_17 rfl 0 rfl ?_
    refine g_get d_Mo_off_18 f_Mo_91_Mo (by assumption) (by first | rfl | assumption) ?_
    first | refine g_if_neB (tgt := 34) d_Mo_off_21 (by decide) (fun h21 => ?_) (fun h21 => ?_) | refine g_if_ne (tgt := 34) d_Mo_off_21 (by decide) (fun h21 => ?_) (fun h21 => ?_)
    · refine g_iconst (v := 0) d_Mo_off_34 rfl ?_
      refine g_zret d_Mo_off_35 ?_ ?_
      · first | rfl | exact zb_nar _ | exact zb_narc (by assumption)
      · exact hF _ hR (by rw [hB, hZ0])
    · exact absurd h21 (by decide)
  · obtain ⟨k, hk, rfl⟩ := bel (n := 7 + sN S 25) h6 (by omega)
    have hN := hN k hk rfl
    refine g_iconst (v := 0) d_Mo_off_9 rfl ?_
    refine g_goto (tgt := 14) d_Mo_off_10 (by decide) ?_
    refine g_put d_Mo_off_14 w_Mo_91_Mo (by assumption) (by first | rfl | exact zb_nar _) (by first | rfl | exact zb_fit _ | exact zrf_fit _) (by first | exact Nat.le_of_ble_eq_true rfl | omega) ?_
    refine gen_putI (P := fun z => G w y_Mo_off c_Mo_off 3 r_Mo_off (1, 25) Q _ _ _ z) hR (i := 600) lv6 c6_0 (fun Z1 e1 hR => ?_)
    have m724 := zhs_put_ne' e1 m724 (J 724 600 (by decide) (by decide) (by decide))
    have hm := zhs_put_same' e1 hm
    simp only [List.set] at hm
    have hB : Z1.2.2 = Z0.2.2 := by rw [← e1]; exact hB
    refine g_aload_nq d_Mo_off_17 rfl 0 rfl ?_
    refine g_get d_Mo_off_18 f_Mo_91_Mo (by assumption) (by first | rfl | assumption) ?_
    first | refine g_if_neB (tgt := 34) d_Mo_off_21 (by decide) (fun h21 => ?_) (fun h21 => ?_) | refine g_if_ne (tgt := 34) d_Mo_off_21 (by decide) (fun h21 => ?_) (fun h21 => ?_)
    · exact absurd rfl h21
    · refine g_aload_nq d_Mo_off_24 rfl 0 rfl ?_
      refine g_get d_Mo_off_25 f_Mo_62_Mo (by assumption) (by first | rfl | assumption) ?_
      refine g_iload_n d_Mo_off_28 rfl 1 rfl ?_
      refine g_zald d_Mo_off_29 (by assumption) (vp_in_nI (n := k) (N := 27) (by omega) (by decide)) ?_
      rw [nI_clamp (by omega)]
      refine g_iload_n d_Mo_off_30 rfl 2 rfl ?_
      refine g_icmp_ne (tgt := 36) d_Mo_off_31 (by decide) (fun h31 => ?_) (fun h31 => ?_)
      · rw [if_neg h31] at hN
        refine g_aload_nq d_Mo_off_36 rfl 0 rfl ?_
        refine g_get d_Mo_off_37 f_Mo_62_Mo (by assumption) (by first | rfl | assumption) ?_
        refine g_iload_n d_Mo_off_40 rfl 1 rfl ?_
        refine g_iload_n d_Mo_off_41 rfl 2 rfl ?_
        refine g_zast d_Mo_off_42 (by assumption) (vp_in_nI (n := k) (N := 27) (by omega) (by decide)) ?_
        rw [nI_clamp (by omega), zb_vnar]
        refine gen_putI (P := fun z => G w y_Mo_off c_Mo_off 3 r_Mo_off (1, 25) Q _ _ _ z) hR (i := 724) (lvM (by decide)) cM_724 (fun Z1 e1 hR => ?_)
        have hm := zhs_put_ne' e1 hm (J 600 724 (by decide) (by decide) (by decide))
        have m724 := zhs_put_same' e1 m724
        have hB : Z1.2.2 = Z0.2.2 := by rw [← e1]; exact hB
        refine g_iconst (v := 1) d_Mo_off_43 rfl ?_
        refine g_zret d_Mo_off_44 ?_ ?_
        · first | rfl | exact zb_nar _ | exact zb_narc (by assumption)
        · exact hN _ hR (by rw [hB, hZ0])
      · rw [if_pos h31] at hN
        refine g_iconst (v := 0) d_Mo_off_34 rfl ?_
        refine g_zret d_Mo_off_35 ?_ ?_
        · first | rfl | exact zb_nar _ | exact zb_narc (by assumption)
        · exact hN _ hR (by rw [hB, hZ0])
