/-! the law's cases that catch -/
def scl (xs : Nat → Int32) (i : Nat) : Int64 := ((xs i).toInt64 <<< ((32 : Int32).toInt64 &&& 63)) ||| ((xs (i + 1)).toInt64 &&& 4294967295)
theorem zl_cg {p q : Prop} [Decidable p] [Decidable q] (h : p ↔ q) : zl p = zl q := by
  unfold zl
  by_cases hp : p
  · rw [if_pos hp, if_pos (h.mp hp)]
  · rw [if_neg hp, if_neg (fun z => hp (h.mpr z))]
theorem zA {Z Z1 Z2 : zZ} (b2 : Z2.2.2 = Z1.2.2) {p q : Nat} (h1 : Z1.2.2.1 = Z.2.2.1 - p) (h2 : Z1.2.2.2 = Z.2.2.2 - q) (hp : p ≤ 3) (hq : q ≤ 164) : Z.2.2.1 ≤ Z2.2.2.1 + 3 ∧ Z.2.2.2 ≤ Z2.2.2.2 + 164 := by
  rw [b2]
  omega
theorem nIe {a c : Nat} {x : Int32} (h1 : x = nI a) (h2 : x = nI c) (ha : a < 2 ^ 31) (hc : c < 2 ^ 31) : a = c := (nI_eq ha hc).mp (h1.symm.trans h2)
theorem b16 {S : ST} {Z : zZ} {k : Nat} (h : bAll S Z (3 * (k + 1)) (164 * (k + 1))) : 1 ≤ Z.2.2.1 ∧ 6 ≤ Z.2.2.2 := by
  have := bP h
  omega
theorem b3 {S : ST} {Z : zZ} {k p q : Nat} (h : bAll S Z (3 * (k + 1)) (164 * (k + 1))) (hp : p ≤ 3) (hq : q ≤ 164) : p ≤ Z.2.2.1 ∧ q ≤ Z.2.2.2 := by
  have := bP h
  omega
theorem La_table_w {w : zC} {Post : zR → zZ → Prop} {Z : zZ} {b L n : Nat} {xs : Nat → Int32} {adK adV : Nat → Nat} {ad : Nat → Nat} {S : ST} {k : Nat} (hs : zScr w b L xs) (hK : zLit w adK adV) (hT : zThr w) (hn : 6 * n + 6 ≤ L) (hL : L ≤ 3072) (hR : Rep w ad S Z) (hS : Sim n S) (hb : bAll S Z (3 * (k + 1)) (164 * (k + 1))) (kont : ∀ ad' S' Z', Rep w ad' S' Z' → Sim (n + 1) S' → bAll S' Z' (3 * k) (164 * k) → (ad' 57 = ad 57 ∧ ad' 600 = ad 600 ∧ ad' 0 = ad 0) → G w x code 7 ret (14, 510) Post 1217 [(4, .int (nI (6 * n))), (3, .ref (ad 57)), (2, .ref (ad 600)), (1, .ref (ad 0)), (0, .ref b)] [] Z') : G w x code 7 ret (14, 510) Post 124 [(4, .int (nI (6 * n))), (3, .ref (ad 57)), (2, .ref (ad 600)), (1, .ref (ad 0)), (0, .ref b)] [] Z := by
  refine g_aload_nq d_La_law_124 rfl 3 rfl ?_
  refine g_aload_nq d_La_law_125 rfl 4 rfl ?_
  refine g_iload d_La_law_126 0 rfl ?_
  refine g_iconst (v := nI 1) d_La_law_128 rfl ?_
  refine g_scr hs hn hL (by decide) d_La_law_129 d_La_law_130 ?_
  refine g_aload_nq d_La_law_131 rfl 4 rfl ?_
  refine g_iload d_La_law_132 0 rfl ?_
  refine g_iconst (v := nI 2) d_La_law_134 rfl ?_
  refine g_scr hs hn hL (by decide) d_La_law_135 d_La_law_136 ?_
  refine g_aload_nq d_La_law_137 rfl 4 rfl ?_
  refine g_iload d_La_law_138 0 rfl ?_
  refine g_iconst (v := nI 3) d_La_law_140 rfl ?_
  refine g_scr hs hn hL (by decide) d_La_law_141 d_La_law_142 ?_
  refine g_aload_nq d_La_law_143 rfl 1 rfl ?_
  refine g_callSW d_La_law_144 kw_La_table l_La_65 s_La_table (by rfl) (by rfl) (Nat.le_of_ble_eq_true rfl) (by decide) (C_La_table hR hK hT (b16 hb) (fun c1 => ⟨_, rfl, ?_⟩) (fun c1 c2 => ⟨_, rfl, ?_⟩) (fun a e ha he e1 e2 e3 Z1 r1 b1 => ⟨_, rfl, ?_⟩))
  · refine g_istore d_La_law_147 (by decide) rfl ?_
    show G _ _ _ _ _ _ _ _ [(5, _), (4, _), (3, _), (2, _), (1, _), (0, _)] _ _
    refine g_aload_nq d_La_law_149 rfl 3 rfl ?_
    refine g_aload_nq d_La_law_150 rfl 5 rfl ?_
    refine g_iload d_La_law_151 1 rfl ?_
    refine g_iconst (v := nI 1) d_La_law_153 rfl ?_
    refine g_scr hs hn hL (by decide) d_La_law_154 d_La_law_155 ?_
    refine g_aload_nq d_La_law_156 rfl 5 rfl ?_
    refine g_iload d_La_law_157 1 rfl ?_
    refine g_iconst (v := nI 2) d_La_law_159 rfl ?_
    refine g_scr hs hn hL (by decide) d_La_law_160 d_La_law_161 ?_
    refine g_aload_nq d_La_law_162 rfl 5 rfl ?_
    refine g_iload d_La_law_163 1 rfl ?_
    refine g_iconst (v := nI 3) d_La_law_165 rfl ?_
    refine g_scr hs hn hL (by decide) d_La_law_166 d_La_law_167 ?_
    refine g_callV d_La_law_168 k_Mo_table l_La_70 i_Mo_table rfl q_Mo_Mo_table_Mo (Rep.m (Rep.pay hR)) (by rfl) (by rfl) (Nat.le_of_ble_eq_true rfl) (by decide) (C_Mo_table (Rep.pay hR) hS.live (fun _ Z2 r2 b2 => ⟨_, rfl, ?_⟩) (fun p q _ => absurd ⟨p, q⟩ c1) (fun a e ha he e1 e2 _ => absurd ⟨e1 ▸ inr_nI ha (by decide), e2 ▸ inr_nI he (by decide)⟩ c1))
    exact Tl_table (c := False) r2 th0 (fun z => absurd z (by decide)) (kont ad (thS S 1) Z2 r2 (si_th hS).up (bA hb (fun _ _ _ => rfl) (zP b2).1 (zP b2).2) ⟨rfl, rfl, rfl⟩)
  · refine g_istore d_La_law_147 (by decide) rfl ?_
    show G _ _ _ _ _ _ _ _ [(5, _), (4, _), (3, _), (2, _), (1, _), (0, _)] _ _
    refine g_aload_nq d_La_law_149 rfl 3 rfl ?_
    refine g_aload_nq d_La_law_150 rfl 5 rfl ?_
    refine g_iload d_La_law_151 1 rfl ?_
    refine g_iconst (v := nI 1) d_La_law_153 rfl ?_
    refine g_scr hs hn hL (by decide) d_La_law_154 d_La_law_155 ?_
    refine g_aload_nq d_La_law_156 rfl 5 rfl ?_
    refine g_iload d_La_law_157 1 rfl ?_
    refine g_iconst (v := nI 2) d_La_law_159 rfl ?_
    refine g_scr hs hn hL (by decide) d_La_law_160 d_La_law_161 ?_
    refine g_aload_nq d_La_law_162 rfl 5 rfl ?_
    refine g_iload d_La_law_163 1 rfl ?_
    refine g_iconst (v := nI 3) d_La_law_165 rfl ?_
    refine g_scr hs hn hL (by decide) d_La_law_166 d_La_law_167 ?_
    refine g_callV d_La_law_168 k_Mo_table l_La_70 i_Mo_table rfl q_Mo_Mo_table_Mo (Rep.m (Rep.pay hR)) (by rfl) (by rfl) (Nat.le_of_ble_eq_true rfl) (by decide) (C_Mo_table (Rep.pay hR) hS.live (fun c9 => absurd c1 c9) (fun _ _ _ Z2 r2 b2 => ⟨_, rfl, ?_⟩) (fun a e ha he e1 e2 e3 => absurd e3 c2))
    exact Tl_table (c := False) r2 th0 (fun z => absurd z (by decide)) (kont ad (thS S 2) Z2 r2 (si_th hS).up (bA hb (fun _ _ _ => rfl) (zP b2).1 (zP b2).2) ⟨rfl, rfl, rfl⟩)
  · have si := si_table (u := zl (¬ sI S 11 (a * 10 + e) = xs (6 * n + 3))) (t := xs (6 * n + 3)) hS ha he _ rfl
    have lv1 : ciLive (outS (wI S 11 (upd (upd (sI S 11) (a * 10 + e) (xs (6 * n + 3))) (e * 10 + a) (xs (6 * n + 3)))) (zl (¬ sI S 11 (a * 10 + e) = xs (6 * n + 3)))) := hS.live.same' rfl (fun _ _ => rfl)
    refine g_istore d_La_law_147 (by decide) rfl ?_
    show G _ _ _ _ _ _ _ _ [(5, _), (4, _), (3, _), (2, _), (1, _), (0, _)] _ _
    refine g_aload_nq d_La_law_149 rfl 3 rfl ?_
    refine g_aload_nq d_La_law_150 rfl 5 rfl ?_
    refine g_iload d_La_law_151 1 rfl ?_
    refine g_iconst (v := nI 1) d_La_law_153 rfl ?_
    refine g_scr hs hn hL (by decide) d_La_law_154 d_La_law_155 ?_
    refine g_aload_nq d_La_law_156 rfl 5 rfl ?_
    refine g_iload d_La_law_157 1 rfl ?_
    refine g_iconst (v := nI 2) d_La_law_159 rfl ?_
    refine g_scr hs hn hL (by decide) d_La_law_160 d_La_law_161 ?_
    refine g_aload_nq d_La_law_162 rfl 5 rfl ?_
    refine g_iload d_La_law_163 1 rfl ?_
    refine g_iconst (v := nI 3) d_La_law_165 rfl ?_
    refine g_scr hs hn hL (by decide) d_La_law_166 d_La_law_167 ?_
    refine g_callV d_La_law_168 k_Mo_table l_La_70 i_Mo_table rfl q_Mo_Mo_table_Mo (Rep.m r1) (by rfl) (by rfl) (Nat.le_of_ble_eq_true rfl) (by decide) (C_Mo_table r1 lv1 (fun c9 => absurd ⟨e1 ▸ inr_nI ha (by decide), e2 ▸ inr_nI he (by decide)⟩ c9) (fun _ _ c9 => absurd e3 c9) (fun a' e' ha' he' e1' e2' e3' Z2 r2 b2 => ⟨_, rfl, ?_⟩))
    obtain rfl := nIe e1 e1' (by omega) (by omega)
    obtain rfl := nIe e2 e2' (by omega) (by omega)
    exact Tl_table r2 (by rw [wIo (by decide), th0]) (fun _ => out57.trans (zl_cg (not_congr si.2.symm))) (kont ad _ Z2 r2 si.1.up (bA hb (fun _ _ _ => rfl) (zE (b2.trans b1)).1 (zE (b2.trans b1)).2) ⟨rfl, rfl, rfl⟩)
theorem La_part_w {w : zC} {Post : zR → zZ → Prop} {Z : zZ} {b L n : Nat} {xs : Nat → Int32} {adK adV : Nat → Nat} {ad : Nat → Nat} {S : ST} {k : Nat} (hs : zScr w b L xs) (hK : zLit w adK adV) (hT : zThr w) (hn : 6 * n + 6 ≤ L) (hL : L ≤ 3072) (hR : Rep w ad S Z) (hS : Sim n S) (hb : bAll S Z (3 * (k + 1)) (164 * (k + 1))) (kont : ∀ ad' S' Z', Rep w ad' S' Z' → Sim (n + 1) S' → bAll S' Z' (3 * k) (164 * k) → (ad' 57 = ad 57 ∧ ad' 600 = ad 600 ∧ ad' 0 = ad 0) → G w x code 7 ret (14, 510) Post 1217 [(4, .int (nI (6 * n))), (3, .ref (ad 57)), (2, .ref (ad 600)), (1, .ref (ad 0)), (0, .ref b)] [] Z') : G w x code 7 ret (14, 510) Post 211 [(4, .int (nI (6 * n))), (3, .ref (ad 57)), (2, .ref (ad 600)), (1, .ref (ad 0)), (0, .ref b)] [] Z := by
  have c20 : sN S 20 = sN S 0 := hS.1.1.1.1
  have hb40 := hS.1.1.2.1
  unfold bdS at hb40
  refine g_aload_nq d_La_law_211 rfl 3 rfl ?_
  refine g_aload_nq d_La_law_212 rfl 4 rfl ?_
  refine g_iload d_La_law_213 0 rfl ?_
  refine g_iconst (v := nI 1) d_La_law_215 rfl ?_
  refine g_scr hs hn hL (by decide) d_La_law_216 d_La_law_217 ?_
  refine g_aload_nq d_La_law_218 rfl 1 rfl ?_
  refine g_callSW d_La_law_219 kw_La_part l_La_74 s_La_part (by rfl) (by rfl) (Nat.le_of_ble_eq_true rfl) (by decide) (C_La_part hR hK hT hS.live (b3 hb (by omega) (by omega)) (b16 hb) (fun c1 => ⟨_, rfl, ?_⟩) (fun s hs16 e1 => ?_))
  · refine g_istore d_La_law_222 (by decide) rfl ?_
    show G _ _ _ _ _ _ _ _ [(5, _), (4, _), (3, _), (2, _), (1, _), (0, _)] _ _
    refine g_aload_nq d_La_law_224 rfl 3 rfl ?_
    refine g_aload_nq d_La_law_225 rfl 5 rfl ?_
    refine g_iload d_La_law_226 1 rfl ?_
    refine g_iconst (v := nI 1) d_La_law_228 rfl ?_
    refine g_scr hs hn hL (by decide) d_La_law_229 d_La_law_230 ?_
    refine g_callV d_La_law_231 k_Mo_part l_La_77 i_Mo_part rfl q_Mo_Mo_part_Mo (Rep.m (Rep.pay hR)) (by rfl) (by rfl) (Nat.le_of_ble_eq_true rfl) (by decide) (C_Mo_part (Rep.pay hR) hS.live (by omega) (fun _ Z2 r2 b2 => ⟨_, rfl, ?_⟩) (fun c9 => absurd c9 c1))
    exact Tl_part (u := 0) r2 th0 (fun z => absurd z (by decide)) (kont ad (thS S 1) Z2 r2 (si_th hS).up (bA hb (fun _ _ _ => rfl) (zP b2).1 (zP b2).2) ⟨rfl, rfl, rfl⟩)
  · have hin : inr (xs (6 * n + 1)) 16 := e1 ▸ inr_nI hs16 (by decide)
    split
    · rename_i h40
      intro Z1 a9 q9 r9 r1 b1 b1'
      have e57 : partA ad (sN S 0) a9 q9 r9 57 = ad 57 := by unfold partA; rw [va_up_ne _ _ (by omega), va_up_ne _ _ (by omega), va_up_ne _ _ (by omega)]
      have e600 : partA ad (sN S 0) a9 q9 r9 600 = ad 600 := by unfold partA; rw [va_up_ne _ _ (by omega), va_up_ne _ _ (by omega), va_up_ne _ _ (by omega)]
      have e0 : partA ad (sN S 0) a9 q9 r9 0 = ad 0 := by unfold partA; rw [va_up_ne _ _ (by omega), va_up_ne _ _ (by omega), va_up_ne _ _ (by omega)]
      have si := si_part (p := insP (ordP S) ((nI s * 3 + 0) * 160 + nI (sN S 0)) (sN S 0 + sN S 1 + sN S 2)) (x := nI s) (v := (nI (sN S 0)).toInt64) hS h40 ⟨s, hs16, rfl⟩ rfl
      have lv1 : ciLive (outS (partS S (insP (ordP S) ((nI s * 3 + 0) * 160 + nI (sN S 0)) (sN S 0 + sN S 1 + sN S 2)) (nI s)) (nI (sN S 0)).toInt64) := si.live.same' rfl (fun m hm => (wN_ne (by omega)).symm)
      have c20' : sN (outS (partS S (insP (ordP S) ((nI s * 3 + 0) * 160 + nI (sN S 0)) (sN S 0 + sN S 1 + sN S 2)) (nI s)) (nI (sN S 0)).toInt64) 20 = sN S 0 := by
        show insN S 0 (insP (ordP S) ((nI s * 3 + 0) * 160 + nI (sN S 0)) (sN S 0 + sN S 1 + sN S 2)) (100 + 3 * sN S 0) 20 = _
        rw [insN_o (by decide) (by decide)]
        exact c20
      have e4 : ∀ m, 4 ≤ m → m ≤ 6 → sN (outS (partS S (insP (ordP S) ((nI s * 3 + 0) * 160 + nI (sN S 0)) (sN S 0 + sN S 1 + sN S 2)) (nI s)) (nI (sN S 0)).toInt64) m = sN S m := fun m h1 h2 => by
        show insN S 0 (insP (ordP S) ((nI s * 3 + 0) * 160 + nI (sN S 0)) (sN S 0 + sN S 1 + sN S 2)) (100 + 3 * sN S 0) m = _
        rw [insN_o (by omega) (by omega)]
      have o57 : sJ (outS (partS S (insP (ordP S) ((nI s * 3 + 0) * 160 + nI (sN S 0)) (sN S 0 + sN S 1 + sN S 2)) (nI s)) (nI (sN S 0)).toInt64) 57 0 = (nI (sN S 0)).toInt64 := out57
      refine ⟨_, rfl, ?_⟩
      generalize partA ad (sN S 0) a9 q9 r9 = ad1 at *
      generalize outS (partS S (insP (ordP S) ((nI s * 3 + 0) * 160 + nI (sN S 0)) (sN S 0 + sN S 1 + sN S 2)) (nI s)) (nI (sN S 0)).toInt64 = T at *
      rw [← e57, ← e600, ← e0] at kont ⊢
      refine g_istore d_La_law_222 (by decide) rfl ?_
      show G _ _ _ _ _ _ _ _ [(5, _), (4, _), (3, _), (2, _), (1, _), (0, _)] _ _
      refine g_aload_nq d_La_law_224 rfl 3 rfl ?_
      refine g_aload_nq d_La_law_225 rfl 5 rfl ?_
      refine g_iload d_La_law_226 1 rfl ?_
      refine g_iconst (v := nI 1) d_La_law_228 rfl ?_
      refine g_scr hs hn hL (by decide) d_La_law_229 d_La_law_230 ?_
      rw [e1]
      refine g_callV d_La_law_231 k_Mo_part l_La_77 i_Mo_part rfl q_Mo_Mo_part_Mo (Rep.m r1) (by rfl) (by rfl) (Nat.le_of_ble_eq_true rfl) (by decide) (C_Mo_part r1 lv1 (by omega) (fun c9 => absurd hin (e1 ▸ c9)) (fun _ => ?_))
      rw [if_pos (by omega)]
      intro Z2 r2 b2
      refine ⟨_, rfl, ?_⟩
      rw [c20']
      exact Tl_part r2 (by rw [wNI, wJI, wIo (by decide), th0]) (fun _ => by rw [wNJ, wJo (by decide), wIJ, thJ]; exact o57) (kont ad1 _ Z2 r2 si.up (bA hb (fun m h1 h2 => (wN_ne (by omega)).trans (e4 m h1 h2)) (zA b2 b1 b1' (by omega) (by omega)).1 (zA b2 b1 b1' (by omega) (by omega)).2) ⟨rfl, rfl, rfl⟩)
    · rename_i h40
      intro Z1 r1 b1
      refine ⟨_, rfl, ?_⟩
      refine g_istore d_La_law_222 (by decide) rfl ?_
      show G _ _ _ _ _ _ _ _ [(5, _), (4, _), (3, _), (2, _), (1, _), (0, _)] _ _
      refine g_aload_nq d_La_law_224 rfl 3 rfl ?_
      refine g_aload_nq d_La_law_225 rfl 5 rfl ?_
      refine g_iload d_La_law_226 1 rfl ?_
      refine g_iconst (v := nI 1) d_La_law_228 rfl ?_
      refine g_scr hs hn hL (by decide) d_La_law_229 d_La_law_230 ?_
      refine g_callV d_La_law_231 k_Mo_part l_La_77 i_Mo_part rfl q_Mo_Mo_part_Mo (Rep.m r1) (by rfl) (by rfl) (Nat.le_of_ble_eq_true rfl) (by decide) (C_Mo_part r1 (si_out hS).live (by show sN S 20 ≤ 40; omega) (fun c9 => absurd hin c9) (fun _ => ?_))
      rw [if_neg (show ¬ sN (outS S (-1)) 20 < 40 by show ¬ sN S 20 < 40; omega)]
      intro Z2 r2 b2
      refine ⟨_, rfl, ?_⟩
      exact Tl_part (u := -1) r2 th0 (fun _ => out57) (kont ad _ Z2 r2 (si_th (si_out hS)).up (bA hb (fun _ _ _ => rfl) (zE (b2.trans b1)).1 (zE (b2.trans b1)).2) ⟨rfl, rfl, rfl⟩)
theorem La_net_w {w : zC} {Post : zR → zZ → Prop} {Z : zZ} {b L n : Nat} {xs : Nat → Int32} {adK adV : Nat → Nat} {ad : Nat → Nat} {S : ST} {k : Nat} (hs : zScr w b L xs) (hK : zLit w adK adV) (hT : zThr w) (hn : 6 * n + 6 ≤ L) (hL : L ≤ 3072) (hR : Rep w ad S Z) (hS : Sim n S) (hb : bAll S Z (3 * (k + 1)) (164 * (k + 1))) (kont : ∀ ad' S' Z', Rep w ad' S' Z' → Sim (n + 1) S' → bAll S' Z' (3 * k) (164 * k) → (ad' 57 = ad 57 ∧ ad' 600 = ad 600 ∧ ad' 0 = ad 0) → G w x code 7 ret (14, 510) Post 1217 [(4, .int (nI (6 * n))), (3, .ref (ad 57)), (2, .ref (ad 600)), (1, .ref (ad 0)), (0, .ref b)] [] Z') : G w x code 7 ret (14, 510) Post 267 [(4, .int (nI (6 * n))), (3, .ref (ad 57)), (2, .ref (ad 600)), (1, .ref (ad 0)), (0, .ref b)] [] Z := by
  have c21 : sN S 21 = sN S 1 := hS.1.1.1.2.1
  have hb40 := hS.1.1.2.1
  unfold bdS at hb40
  refine g_aload_nq d_La_law_267 rfl 3 rfl ?_
  refine g_aload_nq d_La_law_268 rfl 4 rfl ?_
  refine g_iload d_La_law_269 0 rfl ?_
  refine g_iconst (v := nI 1) d_La_law_271 rfl ?_
  refine g_scr hs hn hL (by decide) d_La_law_272 d_La_law_273 ?_
  refine g_aload_nq d_La_law_274 rfl 4 rfl ?_
  refine g_iload d_La_law_275 0 rfl ?_
  refine g_iconst (v := nI 2) d_La_law_277 rfl ?_
  refine g_scr hs hn hL (by decide) d_La_law_278 d_La_law_279 ?_
  refine g_aload_nq d_La_law_280 rfl 1 rfl ?_
  refine g_callSW d_La_law_281 kw_La_net l_La_78 s_La_net (by rfl) (by rfl) (Nat.le_of_ble_eq_true rfl) (by decide) (C_La_net hR hK hT hS.live (b3 hb (by omega) (by omega)) (b16 hb) (fun c1 => ⟨_, rfl, ?_⟩) (fun c1 c2 => ⟨_, rfl, ?_⟩) (fun s hs16 e1 hm => ?_))
  · refine g_istore d_La_law_284 (by decide) rfl ?_
    show G _ _ _ _ _ _ _ _ [(5, _), (4, _), (3, _), (2, _), (1, _), (0, _)] _ _
    refine g_aload_nq d_La_law_286 rfl 3 rfl ?_
    refine g_aload_nq d_La_law_287 rfl 5 rfl ?_
    refine g_iload d_La_law_288 1 rfl ?_
    refine g_iconst (v := nI 1) d_La_law_290 rfl ?_
    refine g_scr hs hn hL (by decide) d_La_law_291 d_La_law_292 ?_
    refine g_aload_nq d_La_law_293 rfl 5 rfl ?_
    refine g_iload d_La_law_294 1 rfl ?_
    refine g_iconst (v := nI 2) d_La_law_296 rfl ?_
    refine g_scr hs hn hL (by decide) d_La_law_297 d_La_law_298 ?_
    refine g_callV d_La_law_299 k_Mo_net l_La_81 i_Mo_net rfl q_Mo_Mo_net_Mo (Rep.m (Rep.pay hR)) (by rfl) (by rfl) (Nat.le_of_ble_eq_true rfl) (by decide) (C_Mo_net (Rep.pay hR) hS.live (by omega) (fun _ Z2 r2 b2 => ⟨_, rfl, ?_⟩) (fun c9 => absurd c9 c1) (fun c9 => absurd c9 c1))
    exact Tl_net (u := 0) r2 th0 (fun z => absurd z (by decide)) (kont ad (thS S 1) Z2 r2 (si_th hS).up (bA hb (fun _ _ _ => rfl) (zP b2).1 (zP b2).2) ⟨rfl, rfl, rfl⟩)
  · refine g_istore d_La_law_284 (by decide) rfl ?_
    show G _ _ _ _ _ _ _ _ [(5, _), (4, _), (3, _), (2, _), (1, _), (0, _)] _ _
    refine g_aload_nq d_La_law_286 rfl 3 rfl ?_
    refine g_aload_nq d_La_law_287 rfl 5 rfl ?_
    refine g_iload d_La_law_288 1 rfl ?_
    refine g_iconst (v := nI 1) d_La_law_290 rfl ?_
    refine g_scr hs hn hL (by decide) d_La_law_291 d_La_law_292 ?_
    refine g_aload_nq d_La_law_293 rfl 5 rfl ?_
    refine g_iload d_La_law_294 1 rfl ?_
    refine g_iconst (v := nI 2) d_La_law_296 rfl ?_
    refine g_scr hs hn hL (by decide) d_La_law_297 d_La_law_298 ?_
    refine g_callV d_La_law_299 k_Mo_net l_La_81 i_Mo_net rfl q_Mo_Mo_net_Mo (Rep.m (Rep.pay hR)) (by rfl) (by rfl) (Nat.le_of_ble_eq_true rfl) (by decide) (C_Mo_net (Rep.pay hR) hS.live (by omega) (fun c9 => absurd c1 c9) (fun _ _ Z2 r2 b2 => ⟨_, rfl, ?_⟩) (fun _ c9 => absurd c9 c2))
    exact Tl_net (u := 0) r2 th0 (fun z => absurd z (by decide)) (kont ad (thS S 2) Z2 r2 (si_th hS).up (bA hb (fun _ _ _ => rfl) (zP b2).1 (zP b2).2) ⟨rfl, rfl, rfl⟩)
  · have hin : inr (xs (6 * n + 1)) 16 := e1 ▸ inr_nI hs16 (by decide)
    split
    · rename_i h40
      intro Z1 a9 q9 r1 b1 b1'
      have e57 : netA ad (sN S 1) a9 q9 57 = ad 57 := by unfold netA; rw [va_up_ne _ _ (by omega), va_up_ne _ _ (by omega)]
      have e600 : netA ad (sN S 1) a9 q9 600 = ad 600 := by unfold netA; rw [va_up_ne _ _ (by omega), va_up_ne _ _ (by omega)]
      have e0 : netA ad (sN S 1) a9 q9 0 = ad 0 := by unfold netA; rw [va_up_ne _ _ (by omega), va_up_ne _ _ (by omega)]
      have si := si_net (p := (insP (ordP S) ((nI s * 3 + 1) * 160 + nI (sN S 1)) (sN S 0 + sN S 1 + sN S 2))) (x := nI s) (y := xs (6 * n + 2)) (v := (nI (sN S 1)).toInt64) hS h40 ⟨s, hs16, rfl⟩ rfl
      have lv1 : ciLive (outS (netS S (insP (ordP S) ((nI s * 3 + 1) * 160 + nI (sN S 1)) (sN S 0 + sN S 1 + sN S 2)) (nI s) (xs (6 * n + 2))) (nI (sN S 1)).toInt64) := si.live.same' rfl (fun m hm => (wN_ne (by omega)).symm)
      have c20' : sN (outS (netS S (insP (ordP S) ((nI s * 3 + 1) * 160 + nI (sN S 1)) (sN S 0 + sN S 1 + sN S 2)) (nI s) (xs (6 * n + 2))) (nI (sN S 1)).toInt64) 21 = sN S 1 := by
        show insN S 1 (insP (ordP S) ((nI s * 3 + 1) * 160 + nI (sN S 1)) (sN S 0 + sN S 1 + sN S 2)) (220 + 2 * sN S 1) 21 = _
        rw [insN_o (by decide) (by decide)]
        exact c21
      have e4 : ∀ m, 4 ≤ m → m ≤ 6 → sN (outS (netS S (insP (ordP S) ((nI s * 3 + 1) * 160 + nI (sN S 1)) (sN S 0 + sN S 1 + sN S 2)) (nI s) (xs (6 * n + 2))) (nI (sN S 1)).toInt64) m = sN S m := fun m h1 h2 => by
        show insN S 1 (insP (ordP S) ((nI s * 3 + 1) * 160 + nI (sN S 1)) (sN S 0 + sN S 1 + sN S 2)) (220 + 2 * sN S 1) m = _
        rw [insN_o (by omega) (by omega)]
      have o57 : sJ (outS (netS S (insP (ordP S) ((nI s * 3 + 1) * 160 + nI (sN S 1)) (sN S 0 + sN S 1 + sN S 2)) (nI s) (xs (6 * n + 2))) (nI (sN S 1)).toInt64) 57 0 = (nI (sN S 1)).toInt64 := out57
      refine ⟨_, rfl, ?_⟩
      generalize netA ad (sN S 1) a9 q9 = ad1 at *
      generalize outS (netS S (insP (ordP S) ((nI s * 3 + 1) * 160 + nI (sN S 1)) (sN S 0 + sN S 1 + sN S 2)) (nI s) (xs (6 * n + 2))) (nI (sN S 1)).toInt64 = T at *
      rw [← e57, ← e600, ← e0] at kont ⊢
      refine g_istore d_La_law_284 (by decide) rfl ?_
      show G _ _ _ _ _ _ _ _ [(5, _), (4, _), (3, _), (2, _), (1, _), (0, _)] _ _
      refine g_aload_nq d_La_law_286 rfl 3 rfl ?_
      refine g_aload_nq d_La_law_287 rfl 5 rfl ?_
      refine g_iload d_La_law_288 1 rfl ?_
      refine g_iconst (v := nI 1) d_La_law_290 rfl ?_
      refine g_scr hs hn hL (by decide) d_La_law_291 d_La_law_292 ?_
      refine g_aload_nq d_La_law_293 rfl 5 rfl ?_
      refine g_iload d_La_law_294 1 rfl ?_
      refine g_iconst (v := nI 2) d_La_law_296 rfl ?_
      refine g_scr hs hn hL (by decide) d_La_law_297 d_La_law_298 ?_
      rw [e1]
      refine g_callV d_La_law_299 k_Mo_net l_La_81 i_Mo_net rfl q_Mo_Mo_net_Mo (Rep.m r1) (by rfl) (by rfl) (Nat.le_of_ble_eq_true rfl) (by decide) (C_Mo_net r1 lv1 (by omega) (fun c9 => absurd hin (e1 ▸ c9)) (fun _ c9 => absurd hm c9) (fun _ _ => ?_))
      rw [if_pos (by omega)]
      intro Z2 r2 b2
      refine ⟨_, rfl, ?_⟩
      rw [c20']
      exact Tl_net r2 (by rw [wNI, wIo (by decide), wIo (by decide), th0]) (fun _ => by rw [wNJ, wIJ, wIJ, thJ]; exact o57) (kont ad1 _ Z2 r2 si.up (bA hb (fun m h1 h2 => (wN_ne (by omega)).trans (e4 m h1 h2)) (zA b2 b1 b1' (by omega) (by omega)).1 (zA b2 b1 b1' (by omega) (by omega)).2) ⟨rfl, rfl, rfl⟩)
    · rename_i h40
      intro Z1 r1 b1
      refine ⟨_, rfl, ?_⟩
      refine g_istore d_La_law_284 (by decide) rfl ?_
      show G _ _ _ _ _ _ _ _ [(5, _), (4, _), (3, _), (2, _), (1, _), (0, _)] _ _
      refine g_aload_nq d_La_law_286 rfl 3 rfl ?_
      refine g_aload_nq d_La_law_287 rfl 5 rfl ?_
      refine g_iload d_La_law_288 1 rfl ?_
      refine g_iconst (v := nI 1) d_La_law_290 rfl ?_
      refine g_scr hs hn hL (by decide) d_La_law_291 d_La_law_292 ?_
      refine g_aload_nq d_La_law_293 rfl 5 rfl ?_
      refine g_iload d_La_law_294 1 rfl ?_
      refine g_iconst (v := nI 2) d_La_law_296 rfl ?_
      refine g_scr hs hn hL (by decide) d_La_law_297 d_La_law_298 ?_
      refine g_callV d_La_law_299 k_Mo_net l_La_81 i_Mo_net rfl q_Mo_Mo_net_Mo (Rep.m r1) (by rfl) (by rfl) (Nat.le_of_ble_eq_true rfl) (by decide) (C_Mo_net r1 (si_out hS).live (by show sN S 21 ≤ 40; omega) (fun c9 => absurd hin c9) (fun _ c9 => absurd hm c9) (fun _ _ => ?_))
      rw [if_neg (show ¬ sN (outS S (-1)) 21 < 40 by show ¬ sN S 21 < 40; omega)]
      intro Z2 r2 b2
      refine ⟨_, rfl, ?_⟩
      exact Tl_net (u := -1) r2 th0 (fun _ => out57) (kont ad _ Z2 r2 (si_th (si_out hS)).up (bA hb (fun _ _ _ => rfl) (zE (b2.trans b1)).1 (zE (b2.trans b1)).2) ⟨rfl, rfl, rfl⟩)
theorem netO_I {S : ST} {y : Int32} (h1 : sN S 1 ≤ 40) (h : y = -1 ∨ inr y (sN S 1)) : (∀ b, netO S y = some b → b < sN S 1) ∧ y = oI (netO S y) := by
  rcases h with rfl | h
  · have : netO S (-1) = none := by unfold netO; rw [if_neg (fun z => z.1 (by decide))]
    rw [this]
    exact ⟨fun b hb => (by cases hb), rfl⟩
  · obtain ⟨k, hk, rfl⟩ := inr_cases h (by omega)
    have : netO S (nI k) = some k := by
      unfold netO
      rw [if_pos (show ¬ nI k < 0 ∧ ¬ nI (sN S 1) ≤ nI k from ⟨h.1, h.2⟩), nI_clamp (by omega)]
    rw [this]
    exact ⟨fun b hb => (by cases hb; exact hk), rfl⟩
theorem La_pin_w {w : zC} {Post : zR → zZ → Prop} {Z : zZ} {b L n : Nat} {xs : Nat → Int32} {adK adV : Nat → Nat} {ad : Nat → Nat} {S : ST} {k : Nat} (hs : zScr w b L xs) (hK : zLit w adK adV) (hT : zThr w) (hn : 6 * n + 6 ≤ L) (hL : L ≤ 3072) (hR : Rep w ad S Z) (hS : Sim n S) (hb : bAll S Z (3 * (k + 1)) (164 * (k + 1))) (kont : ∀ ad' S' Z', Rep w ad' S' Z' → Sim (n + 1) S' → bAll S' Z' (3 * k) (164 * k) → (ad' 57 = ad 57 ∧ ad' 600 = ad 600 ∧ ad' 0 = ad 0) → G w x code 7 ret (14, 510) Post 1217 [(4, .int (nI (6 * n))), (3, .ref (ad 57)), (2, .ref (ad 600)), (1, .ref (ad 0)), (0, .ref b)] [] Z') : G w x code 7 ret (14, 510) Post 335 [(4, .int (nI (6 * n))), (3, .ref (ad 57)), (2, .ref (ad 600)), (1, .ref (ad 0)), (0, .ref b)] [] Z := by
  have c20 : sN S 20 = sN S 0 := hS.1.1.1.1
  have c21 : sN S 21 = sN S 1 := hS.1.1.1.2.1
  have c22 : sN S 22 = sN S 2 := hS.1.1.1.2.2.1
  have hb40 := hS.1.1.2.1
  unfold bdS at hb40
  refine g_aload_nq d_La_law_335 rfl 3 rfl ?_
  refine g_aload_nq d_La_law_336 rfl 4 rfl ?_
  refine g_iload d_La_law_337 0 rfl ?_
  refine g_iconst (v := nI 1) d_La_law_339 rfl ?_
  refine g_scr hs hn hL (by decide) d_La_law_340 d_La_law_341 ?_
  refine g_aload_nq d_La_law_342 rfl 4 rfl ?_
  refine g_iload d_La_law_343 0 rfl ?_
  refine g_iconst (v := nI 2) d_La_law_345 rfl ?_
  refine g_scr hs hn hL (by decide) d_La_law_346 d_La_law_347 ?_
  refine g_aload_nq d_La_law_348 rfl 4 rfl ?_
  refine g_iload d_La_law_349 0 rfl ?_
  refine g_iconst (v := nI 3) d_La_law_351 rfl ?_
  refine g_scr hs hn hL (by decide) d_La_law_352 d_La_law_353 ?_
  refine g_aload_nq d_La_law_354 rfl 1 rfl ?_
  refine g_callSW d_La_law_355 kw_La_pin l_La_82 s_La_pin (by rfl) (by rfl) (Nat.le_of_ble_eq_true rfl) (by decide) (C_La_pin hR hK hT hS.ci.1 hS.live (b3 hb (by omega) (by omega)) (b16 hb) (fun c1 => ⟨_, rfl, ?_⟩) (fun c1 c2 => ⟨_, rfl, ?_⟩) (fun k0 d hk0 hd e1 e2 hy => ?_))
  · refine g_istore d_La_law_358 (by decide) rfl ?_
    show G _ _ _ _ _ _ _ _ [(5, _), (4, _), (3, _), (2, _), (1, _), (0, _)] _ _
    refine g_aload_nq d_La_law_360 rfl 3 rfl ?_
    refine g_aload_nq d_La_law_361 rfl 5 rfl ?_
    refine g_iload d_La_law_362 1 rfl ?_
    refine g_iconst (v := nI 1) d_La_law_364 rfl ?_
    refine g_scr hs hn hL (by decide) d_La_law_365 d_La_law_366 ?_
    refine g_aload_nq d_La_law_367 rfl 5 rfl ?_
    refine g_iload d_La_law_368 1 rfl ?_
    refine g_iconst (v := nI 2) d_La_law_370 rfl ?_
    refine g_scr hs hn hL (by decide) d_La_law_371 d_La_law_372 ?_
    refine g_aload_nq d_La_law_373 rfl 5 rfl ?_
    refine g_iload d_La_law_374 1 rfl ?_
    refine g_iconst (v := nI 3) d_La_law_376 rfl ?_
    refine g_scr hs hn hL (by decide) d_La_law_377 d_La_law_378 ?_
    refine g_callV d_La_law_379 k_Mo_pin l_La_84 i_Mo_pin rfl q_Mo_Mo_pin_Mo (Rep.m (Rep.pay hR)) (by rfl) (by rfl) (Nat.le_of_ble_eq_true rfl) (by decide) (C_Mo_pin (Rep.pay hR) hS.live (by omega) (fun _ Z2 r2 b2 => ⟨_, rfl, ?_⟩) (fun c8 c9 => absurd ⟨c20 ▸ c8, c21 ▸ c9⟩ c1) (fun c8 c9 => absurd ⟨c20 ▸ c8, c21 ▸ c9⟩ c1))
    exact Tl_pin (u := 0) r2 th0 (fun z => absurd z (by decide)) (kont ad (thS S 1) Z2 r2 (si_th hS).up (bA hb (fun _ _ _ => rfl) (zP b2).1 (zP b2).2) ⟨rfl, rfl, rfl⟩)
  · refine g_istore d_La_law_358 (by decide) rfl ?_
    show G _ _ _ _ _ _ _ _ [(5, _), (4, _), (3, _), (2, _), (1, _), (0, _)] _ _
    refine g_aload_nq d_La_law_360 rfl 3 rfl ?_
    refine g_aload_nq d_La_law_361 rfl 5 rfl ?_
    refine g_iload d_La_law_362 1 rfl ?_
    refine g_iconst (v := nI 1) d_La_law_364 rfl ?_
    refine g_scr hs hn hL (by decide) d_La_law_365 d_La_law_366 ?_
    refine g_aload_nq d_La_law_367 rfl 5 rfl ?_
    refine g_iload d_La_law_368 1 rfl ?_
    refine g_iconst (v := nI 2) d_La_law_370 rfl ?_
    refine g_scr hs hn hL (by decide) d_La_law_371 d_La_law_372 ?_
    refine g_aload_nq d_La_law_373 rfl 5 rfl ?_
    refine g_iload d_La_law_374 1 rfl ?_
    refine g_iconst (v := nI 3) d_La_law_376 rfl ?_
    refine g_scr hs hn hL (by decide) d_La_law_377 d_La_law_378 ?_
    refine g_callV d_La_law_379 k_Mo_pin l_La_84 i_Mo_pin rfl q_Mo_Mo_pin_Mo (Rep.m (Rep.pay hR)) (by rfl) (by rfl) (Nat.le_of_ble_eq_true rfl) (by decide) (C_Mo_pin (Rep.pay hR) hS.live (by omega) (fun c9 => absurd (by rw [c20, c21]; exact c1) c9) (fun _ _ _ Z2 r2 b2 => ⟨_, rfl, ?_⟩) (fun _ _ c9 => absurd c9 c2))
    exact Tl_pin (u := 0) r2 th0 (fun z => absurd z (by decide)) (kont ad (thS S 2) Z2 r2 (si_th hS).up (bA hb (fun _ _ _ => rfl) (zP b2).1 (zP b2).2) ⟨rfl, rfl, rfl⟩)
  · have hin : inr (xs (6 * n + 1)) (sN S 0) := e1 ▸ inr_nI hk0 (by omega)
    have hin3 : inr (xs (6 * n + 3)) 10 := e2 ▸ inr_nI hd (by omega)
    obtain ⟨ho, ey⟩ := netO_I hb40.2.1 hy
    split
    · rename_i h160
      intro Z1 a9 r1 b1 b1'
      have e57 : pinA ad (sN S 2) a9 57 = ad 57 := by unfold pinA; rw [va_up_ne _ _ (by omega)]
      have e600 : pinA ad (sN S 2) a9 600 = ad 600 := by unfold pinA; rw [va_up_ne _ _ (by omega)]
      have e0 : pinA ad (sN S 2) a9 0 = ad 0 := by unfold pinA; rw [va_up_ne _ _ (by omega)]
      obtain ⟨si, t22⟩ := si_pin (n := n) (p := (insP (ordP (pinB (cntO (cntP S k0 d 1) (netO S (xs (6 * n + 2))) d 1) k0 d (sI S (100 + 3 * k0) 0) (netO S (xs (6 * n + 2))))) ((sI S (100 + 3 * k0) 0 * 3 + 2) * 160 + nI (sN S 2)) (sN (pinB (cntO (cntP S k0 d 1) (netO S (xs (6 * n + 2))) d 1) k0 d (sI S (100 + 3 * k0) 0) (netO S (xs (6 * n + 2)))) 0 + sN (pinB (cntO (cntP S k0 d 1) (netO S (xs (6 * n + 2))) d 1) k0 d (sI S (100 + 3 * k0) 0) (netO S (xs (6 * n + 2)))) 1 + sN (pinB (cntO (cntP S k0 d 1) (netO S (xs (6 * n + 2))) d 1) k0 d (sI S (100 + 3 * k0) 0) (netO S (xs (6 * n + 2)))) 2))) (k := k0) (d := d) (o := (netO S (xs (6 * n + 2)))) (v := (nI (sN S 2)).toInt64) (y := xs (6 * n + 2)) hS h160 hk0 hd ho ey (outS (pinS (pinB (cntO (cntP S k0 d 1) (netO S (xs (6 * n + 2))) d 1) k0 d (sI S (100 + 3 * k0) 0) (netO S (xs (6 * n + 2)))) (insP (ordP (pinB (cntO (cntP S k0 d 1) (netO S (xs (6 * n + 2))) d 1) k0 d (sI S (100 + 3 * k0) 0) (netO S (xs (6 * n + 2))))) ((sI S (100 + 3 * k0) 0 * 3 + 2) * 160 + nI (sN S 2)) (sN (pinB (cntO (cntP S k0 d 1) (netO S (xs (6 * n + 2))) d 1) k0 d (sI S (100 + 3 * k0) 0) (netO S (xs (6 * n + 2)))) 0 + sN (pinB (cntO (cntP S k0 d 1) (netO S (xs (6 * n + 2))) d 1) k0 d (sI S (100 + 3 * k0) 0) (netO S (xs (6 * n + 2)))) 1 + sN (pinB (cntO (cntP S k0 d 1) (netO S (xs (6 * n + 2))) d 1) k0 d (sI S (100 + 3 * k0) 0) (netO S (xs (6 * n + 2)))) 2))) (nI (sN S 2)).toInt64) rfl rfl
      have lv1 : ciLive (outS (pinS (pinB (cntO (cntP S k0 d 1) (netO S (xs (6 * n + 2))) d 1) k0 d (sI S (100 + 3 * k0) 0) (netO S (xs (6 * n + 2)))) (insP (ordP (pinB (cntO (cntP S k0 d 1) (netO S (xs (6 * n + 2))) d 1) k0 d (sI S (100 + 3 * k0) 0) (netO S (xs (6 * n + 2))))) ((sI S (100 + 3 * k0) 0 * 3 + 2) * 160 + nI (sN S 2)) (sN (pinB (cntO (cntP S k0 d 1) (netO S (xs (6 * n + 2))) d 1) k0 d (sI S (100 + 3 * k0) 0) (netO S (xs (6 * n + 2)))) 0 + sN (pinB (cntO (cntP S k0 d 1) (netO S (xs (6 * n + 2))) d 1) k0 d (sI S (100 + 3 * k0) 0) (netO S (xs (6 * n + 2)))) 1 + sN (pinB (cntO (cntP S k0 d 1) (netO S (xs (6 * n + 2))) d 1) k0 d (sI S (100 + 3 * k0) 0) (netO S (xs (6 * n + 2)))) 2))) (nI (sN S 2)).toInt64) := si.live.same' rfl (fun m hm => (wN_ne (by omega)).symm)
      have cN : sN (cntO (cntP S k0 d 1) (netO S (xs (6 * n + 2))) d 1) = sN S := cO_N.1
      have tN : ∀ m, m ≠ 2 → m < 1000 → sN (outS (pinS (pinB (cntO (cntP S k0 d 1) (netO S (xs (6 * n + 2))) d 1) k0 d (sI S (100 + 3 * k0) 0) (netO S (xs (6 * n + 2)))) (insP (ordP (pinB (cntO (cntP S k0 d 1) (netO S (xs (6 * n + 2))) d 1) k0 d (sI S (100 + 3 * k0) 0) (netO S (xs (6 * n + 2))))) ((sI S (100 + 3 * k0) 0 * 3 + 2) * 160 + nI (sN S 2)) (sN (pinB (cntO (cntP S k0 d 1) (netO S (xs (6 * n + 2))) d 1) k0 d (sI S (100 + 3 * k0) 0) (netO S (xs (6 * n + 2)))) 0 + sN (pinB (cntO (cntP S k0 d 1) (netO S (xs (6 * n + 2))) d 1) k0 d (sI S (100 + 3 * k0) 0) (netO S (xs (6 * n + 2)))) 1 + sN (pinB (cntO (cntP S k0 d 1) (netO S (xs (6 * n + 2))) d 1) k0 d (sI S (100 + 3 * k0) 0) (netO S (xs (6 * n + 2)))) 2))) (nI (sN S 2)).toInt64) m = sN S m := fun m h1 h2 => by
        show insN (pinB (cntO (cntP S k0 d 1) (netO S (xs (6 * n + 2))) d 1) k0 d (sI S (100 + 3 * k0) 0) (netO S (xs (6 * n + 2)))) 2 (insP (ordP (pinB (cntO (cntP S k0 d 1) (netO S (xs (6 * n + 2))) d 1) k0 d (sI S (100 + 3 * k0) 0) (netO S (xs (6 * n + 2))))) ((sI S (100 + 3 * k0) 0 * 3 + 2) * 160 + nI (sN S 2)) (sN (pinB (cntO (cntP S k0 d 1) (netO S (xs (6 * n + 2))) d 1) k0 d (sI S (100 + 3 * k0) 0) (netO S (xs (6 * n + 2)))) 0 + sN (pinB (cntO (cntP S k0 d 1) (netO S (xs (6 * n + 2))) d 1) k0 d (sI S (100 + 3 * k0) 0) (netO S (xs (6 * n + 2)))) 1 + sN (pinB (cntO (cntP S k0 d 1) (netO S (xs (6 * n + 2))) d 1) k0 d (sI S (100 + 3 * k0) 0) (netO S (xs (6 * n + 2)))) 2)) (300 + sN (pinB (cntO (cntP S k0 d 1) (netO S (xs (6 * n + 2))) d 1) k0 d (sI S (100 + 3 * k0) 0) (netO S (xs (6 * n + 2)))) 2) m = _
        rw [insN_o h1 (by omega)]
        show va_up (sN (cntO (cntP S k0 d 1) (netO S (xs (6 * n + 2))) d 1)) (2000 + sN (cntO (cntP S k0 d 1) (netO S (xs (6 * n + 2))) d 1) 2) k0 m = _
        rw [cN, va_up_ne _ _ (by omega)]
      have o57 : sJ (outS (pinS (pinB (cntO (cntP S k0 d 1) (netO S (xs (6 * n + 2))) d 1) k0 d (sI S (100 + 3 * k0) 0) (netO S (xs (6 * n + 2)))) (insP (ordP (pinB (cntO (cntP S k0 d 1) (netO S (xs (6 * n + 2))) d 1) k0 d (sI S (100 + 3 * k0) 0) (netO S (xs (6 * n + 2))))) ((sI S (100 + 3 * k0) 0 * 3 + 2) * 160 + nI (sN S 2)) (sN (pinB (cntO (cntP S k0 d 1) (netO S (xs (6 * n + 2))) d 1) k0 d (sI S (100 + 3 * k0) 0) (netO S (xs (6 * n + 2)))) 0 + sN (pinB (cntO (cntP S k0 d 1) (netO S (xs (6 * n + 2))) d 1) k0 d (sI S (100 + 3 * k0) 0) (netO S (xs (6 * n + 2)))) 1 + sN (pinB (cntO (cntP S k0 d 1) (netO S (xs (6 * n + 2))) d 1) k0 d (sI S (100 + 3 * k0) 0) (netO S (xs (6 * n + 2)))) 2))) (nI (sN S 2)).toInt64) 57 0 = (nI (sN S 2)).toInt64 := out57
      refine ⟨_, rfl, ?_⟩
      generalize pinA ad (sN S 2) a9 = ad1 at *
      generalize outS (pinS (pinB (cntO (cntP S k0 d 1) (netO S (xs (6 * n + 2))) d 1) k0 d (sI S (100 + 3 * k0) 0) (netO S (xs (6 * n + 2)))) (insP (ordP (pinB (cntO (cntP S k0 d 1) (netO S (xs (6 * n + 2))) d 1) k0 d (sI S (100 + 3 * k0) 0) (netO S (xs (6 * n + 2))))) ((sI S (100 + 3 * k0) 0 * 3 + 2) * 160 + nI (sN S 2)) (sN (pinB (cntO (cntP S k0 d 1) (netO S (xs (6 * n + 2))) d 1) k0 d (sI S (100 + 3 * k0) 0) (netO S (xs (6 * n + 2)))) 0 + sN (pinB (cntO (cntP S k0 d 1) (netO S (xs (6 * n + 2))) d 1) k0 d (sI S (100 + 3 * k0) 0) (netO S (xs (6 * n + 2)))) 1 + sN (pinB (cntO (cntP S k0 d 1) (netO S (xs (6 * n + 2))) d 1) k0 d (sI S (100 + 3 * k0) 0) (netO S (xs (6 * n + 2)))) 2))) (nI (sN S 2)).toInt64 = T at *
      rw [← e57, ← e600, ← e0] at kont ⊢
      refine g_istore d_La_law_358 (by decide) rfl ?_
      show G _ _ _ _ _ _ _ _ [(5, _), (4, _), (3, _), (2, _), (1, _), (0, _)] _ _
      refine g_aload_nq d_La_law_360 rfl 3 rfl ?_
      refine g_aload_nq d_La_law_361 rfl 5 rfl ?_
      refine g_iload d_La_law_362 1 rfl ?_
      refine g_iconst (v := nI 1) d_La_law_364 rfl ?_
      refine g_scr hs hn hL (by decide) d_La_law_365 d_La_law_366 ?_
      refine g_aload_nq d_La_law_367 rfl 5 rfl ?_
      refine g_iload d_La_law_368 1 rfl ?_
      refine g_iconst (v := nI 2) d_La_law_370 rfl ?_
      refine g_scr hs hn hL (by decide) d_La_law_371 d_La_law_372 ?_
      refine g_aload_nq d_La_law_373 rfl 5 rfl ?_
      refine g_iload d_La_law_374 1 rfl ?_
      refine g_iconst (v := nI 3) d_La_law_376 rfl ?_
      refine g_scr hs hn hL (by decide) d_La_law_377 d_La_law_378 ?_
      rw [e1, e2]
      refine g_callV d_La_law_379 k_Mo_pin l_La_84 i_Mo_pin rfl q_Mo_Mo_pin_Mo (Rep.m r1) (by rfl) (by rfl) (Nat.le_of_ble_eq_true rfl) (by decide) (C_Mo_pin r1 lv1 (by rw [t22]; omega) (fun c9 => absurd (by rw [tN 20 (by omega) (by omega), tN 21 (by omega) (by omega), c20, c21, ← e1]; exact ⟨hin, hy⟩) c9) (fun _ _ c9 => absurd (e2 ▸ hin3) c9) (fun _ _ _ => ?_))
      rw [if_pos (by rw [t22]; omega)]
      intro Z2 r2 b2
      refine ⟨_, rfl, ?_⟩
      have e6 : nI (sN T 22) = nI (sN S 2) := by rw [t22]
      rw [e6]
      exact Tl_pin r2 (by rw [wNI, wIo (by decide), wIo (by decide), wIo (by decide), th0]) (fun _ => by rw [wNJ, wIJ, wIJ, wIJ, thJ]; exact o57) (kont ad1 _ Z2 r2 si.up (bA hb (fun m h1 h2 => (wN_ne (by omega)).trans (tN m (by omega) (by omega))) (zA b2 b1 b1' (by omega) (by omega)).1 (zA b2 b1 b1' (by omega) (by omega)).2) ⟨rfl, rfl, rfl⟩)
    · rename_i h160
      intro Z1 r1 b1
      refine ⟨_, rfl, ?_⟩
      refine g_istore d_La_law_358 (by decide) rfl ?_
      show G _ _ _ _ _ _ _ _ [(5, _), (4, _), (3, _), (2, _), (1, _), (0, _)] _ _
      refine g_aload_nq d_La_law_360 rfl 3 rfl ?_
      refine g_aload_nq d_La_law_361 rfl 5 rfl ?_
      refine g_iload d_La_law_362 1 rfl ?_
      refine g_iconst (v := nI 1) d_La_law_364 rfl ?_
      refine g_scr hs hn hL (by decide) d_La_law_365 d_La_law_366 ?_
      refine g_aload_nq d_La_law_367 rfl 5 rfl ?_
      refine g_iload d_La_law_368 1 rfl ?_
      refine g_iconst (v := nI 2) d_La_law_370 rfl ?_
      refine g_scr hs hn hL (by decide) d_La_law_371 d_La_law_372 ?_
      refine g_aload_nq d_La_law_373 rfl 5 rfl ?_
      refine g_iload d_La_law_374 1 rfl ?_
      refine g_iconst (v := nI 3) d_La_law_376 rfl ?_
      refine g_scr hs hn hL (by decide) d_La_law_377 d_La_law_378 ?_
      refine g_callV d_La_law_379 k_Mo_pin l_La_84 i_Mo_pin rfl q_Mo_Mo_pin_Mo (Rep.m r1) (by rfl) (by rfl) (Nat.le_of_ble_eq_true rfl) (by decide) (C_Mo_pin r1 (si_out hS).live (by show sN S 22 ≤ 160; omega) (fun c9 => absurd (by show inr (xs (6 * n + 1)) (sN S 20) ∧ (xs (6 * n + 2) = -1 ∨ inr (xs (6 * n + 2)) (sN S 21)); rw [c20, c21]; exact ⟨hin, hy⟩) c9) (fun _ _ c9 => absurd hin3 c9) (fun _ _ _ => ?_))
      rw [if_neg (show ¬ sN (outS S (-1)) 22 < 160 by show ¬ sN S 22 < 160; omega)]
      intro Z2 r2 b2
      refine ⟨_, rfl, ?_⟩
      exact Tl_pin (u := -1) r2 th0 (fun _ => out57) (kont ad _ Z2 r2 (si_th (si_out hS)).up (bA hb (fun _ _ _ => rfl) (zE (b2.trans b1)).1 (zE (b2.trans b1)).2) ⟨rfl, rfl, rfl⟩)
