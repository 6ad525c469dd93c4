/-! the law: flags, letters, runs, versions, clear -/
theorem Rep.k0 {w : zC} {ad : Nat → Nat} {S : ST} {Z : zZ} (hR : Rep w ad S Z) : zhs Z (ad 0) (.inr (0, [.ref (ad 1), .ref (ad 3), .ref (ad 8), .ref (ad 9), .ref (ad 4), .ref (ad 5), .ref (ad 10), .ref (ad (5 + sN S 8)), .ref (ad (8 - sN S 8)), .int (nI (sN S 3)), .int (sI S 0 11)])) := hR.k 0 (by decide)
theorem gT.live {S : ST} (h : gT S) : ciLive S := ⟨h.2.2.2.2.2.2.2.1.1, fun k hk => (h.2.2.2.2.2.2.2.2.2.1 k hk).2⟩
theorem gT.mi {S : ST} (h : gT S) (hW : gW S) : mInv S := by
  obtain ⟨⟨c1, c2, c3, c4⟩, hb, c5⟩ := h.1
  unfold bdS at hb
  exact ⟨⟨by omega, by omega, by omega, by omega, by have := hW.1; have := hW.2.1; omega⟩, h.2.2.2.2.2.2.2.2.2.2⟩
theorem gT.ok {S : ST} (h : gT S) (hd : gD S) : ∀ j s k, s < 3 → k < mny S s → j < sN S 25 → sI S 719 j = nI s → rOK S j (nI s) k := by
  intro j s k hs hk hj he
  have hj' : j < sN S 3 := by rw [← hd.1]; exact hj
  obtain ⟨t1, t2, t3, t4, t5, -⟩ := hd.2.2.1 j hj'
  obtain ⟨v, v1, -, -, -, v5⟩ := told_val h hd hj' ((mny_tok h hs).mp hk) (by rw [← t1]; exact he)
  exact ⟨sN S (3000 + j), v, by omega, t5, v1⟩
theorem La_unit_w {w : zC} {Post : zR → zZ → Prop} {Z : zZ} {b L n : Nat} {xs : Nat → Int32} {adK adV : Nat → Nat} {ad : Nat → Nat} {S : ST} {k : Nat} (hs : zScr w b L xs) (hK : zLit w adK adV) (hT : zThr w) (hn : 6 * n + 6 ≤ L) (hL : L ≤ 3072) (hR : Rep w ad S Z) (hS : Sim n S) (hb : bAll S Z (3 * (k + 1)) (164 * (k + 1))) (kont : ∀ ad' S' Z', Rep w ad' S' Z' → Sim (n + 1) S' → bAll S' Z' (3 * k) (164 * k) → (ad' 57 = ad 57 ∧ ad' 600 = ad 600 ∧ ad' 0 = ad 0) → G w x code 7 ret (14, 510) Post 1217 [(4, .int (nI (6 * n))), (3, .ref (ad 57)), (2, .ref (ad 600)), (1, .ref (ad 0)), (0, .ref b)] [] Z') : G w x code 7 ret (14, 510) Post 760 [(4, .int (nI (6 * n))), (3, .ref (ad 57)), (2, .ref (ad 600)), (1, .ref (ad 0)), (0, .ref b)] [] Z := by
  have h24 : sN S 24 = sN S 9 := hS.2.2.2.2.1.1.1.symm
  have h160 : sN S 9 ≤ 160 := hS.2.2.2.2.1.1.2.1
  refine g_aload_nq d_La_law_760 rfl 3 rfl ?_
  refine g_aload_nq d_La_law_761 rfl 4 rfl ?_
  refine g_iload d_La_law_762 0 rfl ?_
  refine g_iconst (v := nI 1) d_La_law_764 rfl ?_
  refine g_scr hs hn hL (by decide) d_La_law_765 d_La_law_766 ?_
  refine g_callV d_La_law_767 k_K_unit l_La_98 i_K_unit rfl q_K_K_unit_K (Rep.k0 hR) (by rfl) (by rfl) (Nat.le_of_ble_eq_true rfl) (by decide) (C_K_unit hR hS.live h160 ?_)
  split
  · rename_i hx
    intro Z1 r1 b1
    refine ⟨_, rfl, ?_⟩
    obtain ⟨si, t24⟩ := si_unit hS hx.1 hx.2 _ rfl
    have lv1 : ciLive (wN (wI S 16 (upd (sI S 16) (sN S 9) (xs (6 * n + 1)))) 9 (sN S 9 + 1)) := hS.live.same' rfl (fun m hm => wN_ne (by omega))
    have tN : ∀ m, 4 ≤ m → m ≤ 6 → sN (wN (wI S 16 (upd (sI S 16) (sN S 9) (xs (6 * n + 1)))) 9 (sN S 9 + 1)) m = sN S m := fun m h1 h2 => wN_ne (by omega)
    generalize wN (wI S 16 (upd (sI S 16) (sN S 9) (xs (6 * n + 1)))) 9 (sN S 9 + 1) = T at *
    refine g_aload_nq d_La_law_770 rfl 2 rfl ?_
    refine g_aload_nq d_La_law_771 rfl 4 rfl ?_
    refine g_iload d_La_law_772 0 rfl ?_
    refine g_iconst (v := nI 1) d_La_law_774 rfl ?_
    refine g_scr hs hn hL (by decide) d_La_law_775 d_La_law_776 ?_
    refine g_callV d_La_law_777 k_Mo_unit l_La_102 i_Mo_unit rfl q_Mo_Mo_unit_Mo (Rep.m r1) (by rfl) (by rfl) (Nat.le_of_ble_eq_true rfl) (by decide) (C_Mo_unit r1 lv1 (by omega) ?_)
    rw [if_pos ⟨hx.1, by omega⟩]
    intro Z2 r2 b2
    refine ⟨_, rfl, ?_⟩
    refine g_icmp_eq (tgt := 1217) d_La_law_780 (by decide) (fun _ => ?_) (fun h9 => absurd rfl h9)
    exact kont ad _ Z2 r2 si.up (bA hb (fun m h1 h2 => (wN_ne (by omega)).trans (tN m h1 h2)) (zE (b2.trans b1)).1 (zE (b2.trans b1)).2) ⟨rfl, rfl, rfl⟩
  · rename_i hx
    refine ⟨_, rfl, ?_⟩
    refine g_aload_nq d_La_law_770 rfl 2 rfl ?_
    refine g_aload_nq d_La_law_771 rfl 4 rfl ?_
    refine g_iload d_La_law_772 0 rfl ?_
    refine g_iconst (v := nI 1) d_La_law_774 rfl ?_
    refine g_scr hs hn hL (by decide) d_La_law_775 d_La_law_776 ?_
    refine g_callV d_La_law_777 k_Mo_unit l_La_102 i_Mo_unit rfl q_Mo_Mo_unit_Mo (Rep.m hR) (by rfl) (by rfl) (Nat.le_of_ble_eq_true rfl) (by decide) (C_Mo_unit hR hS.live (by omega) ?_)
    rw [if_neg (fun z => hx ⟨z.1, by omega⟩)]
    intro Z2 r2 b2
    refine ⟨_, rfl, ?_⟩
    refine g_icmp_eq (tgt := 1217) d_La_law_780 (by decide) (fun _ => ?_) (fun h9 => absurd rfl h9)
    exact kont ad _ Z2 r2 (si_th hS).up (bA hb (fun _ _ _ => rfl) (zE b2).1 (zE b2).2) ⟨rfl, rfl, rfl⟩
theorem La_next_w {w : zC} {Post : zR → zZ → Prop} {Z : zZ} {b L n : Nat} {xs : Nat → Int32} {adK adV : Nat → Nat} {ad : Nat → Nat} {S : ST} {k : Nat} (hs : zScr w b L xs) (hK : zLit w adK adV) (hT : zThr w) (hn : 6 * n + 6 ≤ L) (hL : L ≤ 3072) (hR : Rep w ad S Z) (hS : Sim n S) (hb : bAll S Z (3 * (k + 1)) (164 * (k + 1))) (kont : ∀ ad' S' Z', Rep w ad' S' Z' → Sim (n + 1) S' → bAll S' Z' (3 * k) (164 * k) → (ad' 57 = ad 57 ∧ ad' 600 = ad 600 ∧ ad' 0 = ad 0) → G w x code 7 ret (14, 510) Post 1217 [(4, .int (nI (6 * n))), (3, .ref (ad 57)), (2, .ref (ad 600)), (1, .ref (ad 0)), (0, .ref b)] [] Z') : G w x code 7 ret (14, 510) Post 1168 [(4, .int (nI (6 * n))), (3, .ref (ad 57)), (2, .ref (ad 600)), (1, .ref (ad 0)), (0, .ref b)] [] Z := by
  refine g_aload_nq d_La_law_1168 rfl 3 rfl ?_
  refine g_callV d_La_law_1169 k_K_next l_La_125 i_K_next rfl q_K_K_next_K (Rep.k0 hR) (by rfl) (by rfl) (Nat.le_of_ble_eq_true rfl) (by decide) (C_K_next hR (fun Z1 r1 b1 => ⟨_, rfl, ?_⟩))
  obtain ⟨si, t25⟩ := si_next hS _ rfl
  have lv1 : ciLive (wI S 0 (va_up (sI S 0) 11 (sI S 0 11 + 1))) := hS.live.same' rfl (fun _ _ => rfl)
  refine g_aload_nq d_La_law_1172 rfl 2 rfl ?_
  refine g_callV d_La_law_1173 k_Mo_next l_La_128 i_Mo_next rfl q_Mo_Mo_next_Mo (Rep.m r1) (by rfl) (by rfl) (Nat.le_of_ble_eq_true rfl) (by decide) (C_Mo_next r1 lv1 (fun Z2 r2 b2 => ⟨_, rfl, ?_⟩))
  refine g_icmp_eq (tgt := 1217) d_La_law_1176 (by decide) (fun _ => ?_) (fun h9 => absurd (by rw [t25]) h9)
  exact kont ad _ Z2 r2 si (bA hb (fun _ _ _ => rfl) (zE (b2.trans b1)).1 (zE (b2.trans b1)).2) ⟨rfl, rfl, rfl⟩
theorem La_offRule_w {w : zC} {Post : zR → zZ → Prop} {Z : zZ} {b L n : Nat} {xs : Nat → Int32} {adK adV : Nat → Nat} {ad : Nat → Nat} {S : ST} {k : Nat} (hs : zScr w b L xs) (hK : zLit w adK adV) (hT : zThr w) (hn : 6 * n + 6 ≤ L) (hL : L ≤ 3072) (hR : Rep w ad S Z) (hS : Sim n S) (hb : bAll S Z (3 * (k + 1)) (164 * (k + 1))) (kont : ∀ ad' S' Z', Rep w ad' S' Z' → Sim (n + 1) S' → bAll S' Z' (3 * k) (164 * k) → (ad' 57 = ad 57 ∧ ad' 600 = ad 600 ∧ ad' 0 = ad 0) → G w x code 7 ret (14, 510) Post 1217 [(4, .int (nI (6 * n))), (3, .ref (ad 57)), (2, .ref (ad 600)), (1, .ref (ad 0)), (0, .ref b)] [] Z') : G w x code 7 ret (14, 510) Post 1181 [(4, .int (nI (6 * n))), (3, .ref (ad 57)), (2, .ref (ad 600)), (1, .ref (ad 0)), (0, .ref b)] [] Z := by
  refine g_aload_nq d_La_law_1181 rfl 3 rfl ?_
  refine g_aload_nq d_La_law_1182 rfl 4 rfl ?_
  refine g_iload d_La_law_1183 0 rfl ?_
  refine g_iconst (v := nI 1) d_La_law_1185 rfl ?_
  refine g_scr hs hn hL (by decide) d_La_law_1186 d_La_law_1187 ?_
  refine g_callV d_La_law_1188 k_K_offRule l_La_129 i_K_offRule rfl q_K_K_offRule_K (Rep.k0 hR) (by rfl) (by rfl) (Nat.le_of_ble_eq_true rfl) (by decide) (C_K_offRule hR ⟨_, rfl, ?_⟩)
  refine g_aload_nq d_La_law_1191 rfl 2 rfl ?_
  refine g_aload_nq d_La_law_1192 rfl 4 rfl ?_
  refine g_iload d_La_law_1193 0 rfl ?_
  refine g_iconst (v := nI 1) d_La_law_1195 rfl ?_
  refine g_scr hs hn hL (by decide) d_La_law_1196 d_La_law_1197 ?_
  refine g_callV d_La_law_1198 k_Mo_offRule l_La_132 i_Mo_offRule rfl q_Mo_Mo_offRule_Mo (Rep.m hR) (by rfl) (by rfl) (Nat.le_of_ble_eq_true rfl) (by decide) (C_Mo_offRule hR hS.live (by have := hS.2.1.1; have := hS.2.1.2.1; omega) (fun Z2 r2 b2 => ⟨_, rfl, ?_⟩))
  refine g_icmp_eq (tgt := 1217) d_La_law_1201 (by decide) (fun _ => ?_) (fun h9 => absurd (si_offRule hS) h9)
  exact kont ad _ Z2 r2 (si_th hS).up (bA hb (fun _ _ _ => rfl) (zE b2).1 (zE b2).2) ⟨rfl, rfl, rfl⟩
theorem La_clear_w {w : zC} {Post : zR → zZ → Prop} {Z : zZ} {b L n : Nat} {xs : Nat → Int32} {adK adV : Nat → Nat} {ad : Nat → Nat} {S : ST} {k : Nat} (hs : zScr w b L xs) (hK : zLit w adK adV) (hT : zThr w) (hn : 6 * n + 6 ≤ L) (hL : L ≤ 3072) (hR : Rep w ad S Z) (hS : Sim n S) (hb : bAll S Z (3 * (k + 1)) (164 * (k + 1))) (kont : ∀ ad' S' Z', Rep w ad' S' Z' → Sim (n + 1) S' → bAll S' Z' (3 * k) (164 * k) → (ad' 57 = ad 57 ∧ ad' 600 = ad 600 ∧ ad' 0 = ad 0) → G w x code 7 ret (14, 510) Post 1217 [(4, .int (nI (6 * n))), (3, .ref (ad 57)), (2, .ref (ad 600)), (1, .ref (ad 0)), (0, .ref b)] [] Z') : G w x code 7 ret (14, 510) Post 1206 [(4, .int (nI (6 * n))), (3, .ref (ad 57)), (2, .ref (ad 600)), (1, .ref (ad 0)), (0, .ref b)] [] Z := by
  refine g_aload_nq d_La_law_1206 rfl 3 rfl ?_
  refine g_callV d_La_law_1207 k_K_clear l_La_133 i_K_clear rfl q_K_K_clear_K (Rep.k0 hR) (by rfl) (by rfl) (Nat.le_of_ble_eq_true rfl) (by decide) (C_K_clear hR hS.live (fun Z1 r1 b1 => ⟨_, rfl, ?_⟩))
  have si := si_clear (ad := ad) hS _ rfl
  have lv1 : ciLive (clrS ad S) := by
    have z0 : sN (clrS ad S) 0 = 0 := rfl
    have z1 : sN (clrS ad S) 1 = 0 := rfl
    have z2 : sN (clrS ad S) 2 = 0 := rfl
    exact ⟨fun k hk => (by rw [z0, z1, z2] at hk; omega), fun k hk => (by rw [z2] at hk; omega)⟩
  have tN : ∀ m, 4 ≤ m → m ≤ 6 → sN (mclS (clrS ad S)) m = sN S m := fun m h1 h2 => by
    rcases (show m = 4 ∨ m = 5 ∨ m = 6 by omega) with rfl | rfl | rfl <;> rfl
  refine g_aload_nq d_La_law_1210 rfl 2 rfl ?_
  refine g_callV d_La_law_1211 k_Mo_clear l_La_136 i_Mo_clear rfl q_Mo_Mo_clear_Mo (Rep.m r1) (by rfl) (by rfl) (Nat.le_of_ble_eq_true rfl) (by decide) (C_Mo_clear r1 lv1 (fun Z2 r2 b2 => ⟨_, rfl, ?_⟩))
  refine g_goto (tgt := 1217) d_La_law_1214 (by decide) ?_
  exact kont ad _ Z2 r2 si.up (bA hb tN (zE (b2.trans b1)).1 (zE (b2.trans b1)).2) ⟨rfl, rfl, rfl⟩
theorem La_off_w {w : zC} {Post : zR → zZ → Prop} {Z : zZ} {b L n : Nat} {xs : Nat → Int32} {adK adV : Nat → Nat} {ad : Nat → Nat} {S : ST} {k : Nat} (hs : zScr w b L xs) (hK : zLit w adK adV) (hT : zThr w) (hn : 6 * n + 6 ≤ L) (hL : L ≤ 3072) (hR : Rep w ad S Z) (hS : Sim n S) (hb : bAll S Z (3 * (k + 1)) (164 * (k + 1))) (kont : ∀ ad' S' Z', Rep w ad' S' Z' → Sim (n + 1) S' → bAll S' Z' (3 * k) (164 * k) → (ad' 57 = ad 57 ∧ ad' 600 = ad 600 ∧ ad' 0 = ad 0) → G w x code 7 ret (14, 510) Post 1217 [(4, .int (nI (6 * n))), (3, .ref (ad 57)), (2, .ref (ad 600)), (1, .ref (ad 0)), (0, .ref b)] [] Z') : G w x code 7 ret (14, 510) Post 829 [(4, .int (nI (6 * n))), (3, .ref (ad 57)), (2, .ref (ad 600)), (1, .ref (ad 0)), (0, .ref b)] [] Z := by
  have c25 : sN S 25 = sN S 3 := hS.2.1.1
  have h20 : sN S 3 ≤ 20 := hS.2.1.2.1
  refine g_aload_nq d_La_law_829 rfl 3 rfl ?_
  refine g_aload_nq d_La_law_830 rfl 4 rfl ?_
  refine g_iload d_La_law_831 0 rfl ?_
  refine g_iconst (v := nI 1) d_La_law_833 rfl ?_
  refine g_scr hs hn hL (by decide) d_La_law_834 d_La_law_835 ?_
  refine g_aload_nq d_La_law_836 rfl 4 rfl ?_
  refine g_iload d_La_law_837 0 rfl ?_
  refine g_iconst (v := nI 2) d_La_law_839 rfl ?_
  refine g_scr hs hn hL (by decide) d_La_law_840 d_La_law_841 ?_
  refine g_if_eq (tgt := 849) d_La_law_842 (by decide) (fun h0 => ?_) (fun h0 => ?_)
  · refine g_iconst (v := 0) d_La_law_849 rfl ?_
    refine g_aload_nq d_La_law_850 rfl 1 rfl ?_
    refine g_callSW d_La_law_851 kw_La_off l_La_107 s_La_off (by rfl) (by rfl) (Nat.le_of_ble_eq_true rfl) (by decide) (C_La_off (c0 := False) hR hK hT (b16 hb) (fun c1 => ⟨_, rfl, ?_⟩) (fun k0 hk0 e1 Z1 r1 b1 => ⟨_, rfl, ?_⟩))
    · refine g_istore d_La_law_854 (by decide) rfl ?_
      show G _ _ _ _ _ _ _ _ [(5, _), (4, _), (3, _), (2, _), (1, _), (0, _)] _ _
      refine g_aload_nq d_La_law_856 rfl 3 rfl ?_
      refine g_aload_nq d_La_law_857 rfl 5 rfl ?_
      refine g_iload d_La_law_858 1 rfl ?_
      refine g_iconst (v := nI 1) d_La_law_860 rfl ?_
      refine g_scr hs hn hL (by decide) d_La_law_861 d_La_law_862 ?_
      refine g_aload_nq d_La_law_863 rfl 5 rfl ?_
      refine g_iload d_La_law_864 1 rfl ?_
      refine g_iconst (v := nI 2) d_La_law_866 rfl ?_
      refine g_scr hs hn hL (by decide) d_La_law_867 d_La_law_868 ?_
      refine g_if_eq (tgt := 876) d_La_law_869 (by decide) (fun _ => ?_) (fun h9 => absurd h0 h9)
      refine g_iconst (v := 0) d_La_law_876 rfl ?_
      refine g_callV d_La_law_877 k_Mo_off l_La_110 i_Mo_off rfl q_Mo_Mo_off_Mo (Rep.m (Rep.pay hR)) (by rfl) (by rfl) (Nat.le_of_ble_eq_true rfl) (by decide) (C_Mo_off (c := False) (x := xs (6 * n + 1)) (Rep.pay hR) hS.live (by omega) (fun _ Z2 r2 b2 => ⟨_, rfl, ?_⟩) (fun k9 hk9 e9 => absurd (by rw [e9]; exact inr_nI (by omega) (by omega)) c1))
      exact Tl_off (c := False) r2 th0 (fun z => absurd z (by decide)) (kont ad (thS S 1) Z2 r2 (si_th hS).up (bA hb (fun _ _ _ => rfl) (zP b2).1 (zP b2).2) ⟨rfl, rfl, rfl⟩)
    · obtain ⟨sy, s1, s2⟩ := si_off (f := zb False) (u := zl (¬ sI S 9 k0 = zb False)) hS hk0 _ rfl
      have lv1 : ciLive (outS (wI S 9 (upd (sI S 9) k0 (zb False))) (zl (¬ sI S 9 k0 = zb False))) := hS.live.same' rfl (fun _ _ => rfl)
      have o57 : sJ (outS (wI S 9 (upd (sI S 9) k0 (zb False))) (zl (¬ sI S 9 k0 = zb False))) 57 0 = zl (¬ sI S 9 k0 = zb False) := out57
      have tN : sN (outS (wI S 9 (upd (sI S 9) k0 (zb False))) (zl (¬ sI S 9 k0 = zb False))) = sN S := rfl
      generalize outS (wI S 9 (upd (sI S 9) k0 (zb False))) (zl (¬ sI S 9 k0 = zb False)) = T at *
      refine g_istore d_La_law_854 (by decide) rfl ?_
      show G _ _ _ _ _ _ _ _ [(5, _), (4, _), (3, _), (2, _), (1, _), (0, _)] _ _
      refine g_aload_nq d_La_law_856 rfl 3 rfl ?_
      refine g_aload_nq d_La_law_857 rfl 5 rfl ?_
      refine g_iload d_La_law_858 1 rfl ?_
      refine g_iconst (v := nI 1) d_La_law_860 rfl ?_
      refine g_scr hs hn hL (by decide) d_La_law_861 d_La_law_862 ?_
      refine g_aload_nq d_La_law_863 rfl 5 rfl ?_
      refine g_iload d_La_law_864 1 rfl ?_
      refine g_iconst (v := nI 2) d_La_law_866 rfl ?_
      refine g_scr hs hn hL (by decide) d_La_law_867 d_La_law_868 ?_
      refine g_if_eq (tgt := 876) d_La_law_869 (by decide) (fun _ => ?_) (fun h9 => absurd h0 h9)
      refine g_iconst (v := 0) d_La_law_876 rfl ?_
      refine g_callV d_La_law_877 k_Mo_off l_La_110 i_Mo_off rfl q_Mo_Mo_off_Mo (Rep.m r1) (by rfl) (by rfl) (Nat.le_of_ble_eq_true rfl) (by decide) (C_Mo_off (c := False) (x := xs (6 * n + 1)) r1 lv1 (by rw [tN]; omega) (fun c9 => absurd (by rw [tN, c25, e1]; exact inr_nI hk0 (by omega)) c9) (fun k9 hk9 e9 => ?_))
      rw [tN] at hk9
      obtain rfl := nIe e1 e9 (by omega) (by omega)
      split
      · rename_i he
        intro Z2 r2 b2
        refine ⟨_, rfl, ?_⟩
        exact Tl_off (c := False) r2 th0 (fun _ => o57.trans (if_neg (fun z => z (sy.mp he)))) (kont ad _ Z2 r2 (s1 he).up (bA hb (fun m _ _ => congrFun tN m) (zE (b2.trans b1)).1 (zE (b2.trans b1)).2) ⟨rfl, rfl, rfl⟩)
      · rename_i he
        intro Z2 r2 b2
        refine ⟨_, rfl, ?_⟩
        exact Tl_off (c := True) r2 (by rw [wIo (by decide), th0]) (fun _ => o57.trans (if_pos (fun z => he (sy.mpr z)))) (kont ad _ Z2 r2 s2.up (bA hb (fun m _ _ => congrFun tN m) (zE (b2.trans b1)).1 (zE (b2.trans b1)).2) ⟨rfl, rfl, rfl⟩)
  · refine g_iconst (v := 1) d_La_law_845 rfl ?_
    refine g_goto (tgt := 850) d_La_law_846 (by decide) ?_
    refine g_aload_nq d_La_law_850 rfl 1 rfl ?_
    refine g_callSW d_La_law_851 kw_La_off l_La_107 s_La_off (by rfl) (by rfl) (Nat.le_of_ble_eq_true rfl) (by decide) (C_La_off (c0 := True) hR hK hT (b16 hb) (fun c1 => ⟨_, rfl, ?_⟩) (fun k0 hk0 e1 Z1 r1 b1 => ⟨_, rfl, ?_⟩))
    · refine g_istore d_La_law_854 (by decide) rfl ?_
      show G _ _ _ _ _ _ _ _ [(5, _), (4, _), (3, _), (2, _), (1, _), (0, _)] _ _
      refine g_aload_nq d_La_law_856 rfl 3 rfl ?_
      refine g_aload_nq d_La_law_857 rfl 5 rfl ?_
      refine g_iload d_La_law_858 1 rfl ?_
      refine g_iconst (v := nI 1) d_La_law_860 rfl ?_
      refine g_scr hs hn hL (by decide) d_La_law_861 d_La_law_862 ?_
      refine g_aload_nq d_La_law_863 rfl 5 rfl ?_
      refine g_iload d_La_law_864 1 rfl ?_
      refine g_iconst (v := nI 2) d_La_law_866 rfl ?_
      refine g_scr hs hn hL (by decide) d_La_law_867 d_La_law_868 ?_
      refine g_if_eq (tgt := 876) d_La_law_869 (by decide) (fun h9 => absurd h9 h0) (fun _ => ?_)
      refine g_iconst (v := 1) d_La_law_872 rfl ?_
      refine g_goto (tgt := 877) d_La_law_873 (by decide) ?_
      refine g_callV d_La_law_877 k_Mo_off l_La_110 i_Mo_off rfl q_Mo_Mo_off_Mo (Rep.m (Rep.pay hR)) (by rfl) (by rfl) (Nat.le_of_ble_eq_true rfl) (by decide) (C_Mo_off (c := True) (x := xs (6 * n + 1)) (Rep.pay hR) hS.live (by omega) (fun _ Z2 r2 b2 => ⟨_, rfl, ?_⟩) (fun k9 hk9 e9 => absurd (by rw [e9]; exact inr_nI (by omega) (by omega)) c1))
      exact Tl_off (c := False) r2 th0 (fun z => absurd z (by decide)) (kont ad (thS S 1) Z2 r2 (si_th hS).up (bA hb (fun _ _ _ => rfl) (zP b2).1 (zP b2).2) ⟨rfl, rfl, rfl⟩)
    · obtain ⟨sy, s1, s2⟩ := si_off (f := zb True) (u := zl (¬ sI S 9 k0 = zb True)) hS hk0 _ rfl
      have lv1 : ciLive (outS (wI S 9 (upd (sI S 9) k0 (zb True))) (zl (¬ sI S 9 k0 = zb True))) := hS.live.same' rfl (fun _ _ => rfl)
      have o57 : sJ (outS (wI S 9 (upd (sI S 9) k0 (zb True))) (zl (¬ sI S 9 k0 = zb True))) 57 0 = zl (¬ sI S 9 k0 = zb True) := out57
      have tN : sN (outS (wI S 9 (upd (sI S 9) k0 (zb True))) (zl (¬ sI S 9 k0 = zb True))) = sN S := rfl
      generalize outS (wI S 9 (upd (sI S 9) k0 (zb True))) (zl (¬ sI S 9 k0 = zb True)) = T at *
      refine g_istore d_La_law_854 (by decide) rfl ?_
      show G _ _ _ _ _ _ _ _ [(5, _), (4, _), (3, _), (2, _), (1, _), (0, _)] _ _
      refine g_aload_nq d_La_law_856 rfl 3 rfl ?_
      refine g_aload_nq d_La_law_857 rfl 5 rfl ?_
      refine g_iload d_La_law_858 1 rfl ?_
      refine g_iconst (v := nI 1) d_La_law_860 rfl ?_
      refine g_scr hs hn hL (by decide) d_La_law_861 d_La_law_862 ?_
      refine g_aload_nq d_La_law_863 rfl 5 rfl ?_
      refine g_iload d_La_law_864 1 rfl ?_
      refine g_iconst (v := nI 2) d_La_law_866 rfl ?_
      refine g_scr hs hn hL (by decide) d_La_law_867 d_La_law_868 ?_
      refine g_if_eq (tgt := 876) d_La_law_869 (by decide) (fun h9 => absurd h9 h0) (fun _ => ?_)
      refine g_iconst (v := 1) d_La_law_872 rfl ?_
      refine g_goto (tgt := 877) d_La_law_873 (by decide) ?_
      refine g_callV d_La_law_877 k_Mo_off l_La_110 i_Mo_off rfl q_Mo_Mo_off_Mo (Rep.m r1) (by rfl) (by rfl) (Nat.le_of_ble_eq_true rfl) (by decide) (C_Mo_off (c := True) (x := xs (6 * n + 1)) r1 lv1 (by rw [tN]; omega) (fun c9 => absurd (by rw [tN, c25, e1]; exact inr_nI hk0 (by omega)) c9) (fun k9 hk9 e9 => ?_))
      rw [tN] at hk9
      obtain rfl := nIe e1 e9 (by omega) (by omega)
      split
      · rename_i he
        intro Z2 r2 b2
        refine ⟨_, rfl, ?_⟩
        exact Tl_off (c := False) r2 th0 (fun _ => o57.trans (if_neg (fun z => z (sy.mp he)))) (kont ad _ Z2 r2 (s1 he).up (bA hb (fun m _ _ => congrFun tN m) (zE (b2.trans b1)).1 (zE (b2.trans b1)).2) ⟨rfl, rfl, rfl⟩)
      · rename_i he
        intro Z2 r2 b2
        refine ⟨_, rfl, ?_⟩
        exact Tl_off (c := True) r2 (by rw [wIo (by decide), th0]) (fun _ => o57.trans (if_pos (fun z => he (sy.mpr z)))) (kont ad _ Z2 r2 s2.up (bA hb (fun m _ _ => congrFun tN m) (zE (b2.trans b1)).1 (zE (b2.trans b1)).2) ⟨rfl, rfl, rfl⟩)
theorem La_run_w {w : zC} {Post : zR → zZ → Prop} {Z : zZ} {b L n : Nat} {xs : Nat → Int32} {adK adV : Nat → Nat} {ad : Nat → Nat} {S : ST} {k : Nat} (hs : zScr w b L xs) (hK : zLit w adK adV) (hT : zThr w) (hn : 6 * n + 6 ≤ L) (hL : L ≤ 3072) (hR : Rep w ad S Z) (hS : Sim n S) (hb : bAll S Z (3 * (k + 1)) (164 * (k + 1))) (kont : ∀ ad' S' Z', Rep w ad' S' Z' → Sim (n + 1) S' → bAll S' Z' (3 * k) (164 * k) → (ad' 57 = ad 57 ∧ ad' 600 = ad 600 ∧ ad' 0 = ad 0) → G w x code 7 ret (14, 510) Post 1217 [(4, .int (nI (6 * n))), (3, .ref (ad 57)), (2, .ref (ad 600)), (1, .ref (ad 0)), (0, .ref b)] [] Z') (hn6 : n ≤ 600) : G w x code 7 ret (14, 510) Post 920 [(4, .int (nI (6 * n))), (3, .ref (ad 57)), (2, .ref (ad 600)), (1, .ref (ad 0)), (0, .ref b)] [] Z := by
  obtain ⟨hT1, hD, hM, hF, hX, hW, hRr, hV⟩ := id hS
  have h8 := hRr.1.2
  refine g_aload_nq d_La_law_920 rfl 3 rfl ?_
  refine g_callV d_La_law_921 k_K_run l_La_111 i_K_run rfl q_K_K_run_K (Rep.k0 hR) (by rfl) (by rfl) (Nat.le_of_ble_eq_true rfl) (by decide) (C_K_run (j := 3 - sN S 8) (b := sN S 8) (X := 3 * (k + 1)) (Y := 164 * (k + 1)) hR (by omega) rfl hS.ci hS.live hRr.1.1 hW.2.1 hb (all_len hT1 hD) (fun Z1 ad1 S1 S' r1 had hmv hrem hmvC hcmp hcap hb1 => ⟨_, rfl, ?_⟩))
  have e57 := had 57 (by omega)
  have e600 := had 600 (by omega)
  have e0 := had 0 (by omega)
  obtain ⟨t1, t2, t3, t4, t5, t6, -, -⟩ := run_sim (g := fun _ => 0) hT1 hD hM hF hW hRr hV hn6 (show 3 - sN S 8 + sN S 8 = 3 by omega) rfl hmv hrem hmvC hcmp hcap
  obtain ⟨fI, fJ, fR, fN, -⟩ := run_frame (show 3 - sN S 8 + sN S 8 = 3 by omega) rfl (by omega) hmv hmvC
  rw [← e57, ← e600, ← e0] at kont ⊢
  refine g_aload_nq d_La_law_924 rfl 2 rfl ?_
  refine g_callV d_La_law_925 k_Mo_run l_La_114 i_Mo_run rfl q_Mo_Mo_run_Mo (Rep.m r1) (by rfl) (by rfl) (Nat.le_of_ble_eq_true rfl) (by decide) (C_Mo_run r1 t1.live (t1.mi t5) (t1.ok t2) (by have := t2.1; have := t2.2.1; omega) (fun Z2 g r2 b2 => ⟨_, rfl, ?_⟩))
  obtain ⟨-, -, -, -, -, -, s7, s8⟩ := run_sim (g := g) hT1 hD hM hF hW hRr hV hn6 (show 3 - sN S 8 + sN S 8 = 3 by omega) rfl hmv hrem hmvC hcmp hcap
  refine g_icmp_eq (tgt := 1217) d_La_law_928 (by decide) (fun _ => ?_) (fun h9 => absurd (by rw [s8]) h9)
  have si : Sim n (runZ S' g) := ⟨t1.run, t2.cg (fun m hm => rZ_I (by omega) (by omega) (by omega) (by omega)) (fun _ _ => rfl), t3.cg (rZ_I (by decide) (by decide) (by decide) (by decide)) (rZ_I (by decide) (by decide) (by decide) (by decide)), t4.cg (rZ_I (by decide) (by decide) (by decide) (by decide)) (rZ_I (by decide) (by decide) (by decide) (by decide)) rfl, hX.cg ((rZ_I (by decide) (by decide) (by decide) (by decide)).trans (fI 716 (by omega))) ((rZ_I (by decide) (by decide) (by decide) (by decide)).trans (fI 16 (by omega))) (fN 9 (by omega)) (fN 24 (by omega)), t5.cg (same_hk t1.1.2.1 (fun m a b => by rw [rZ_I (by omega) (by omega) (by omega) (by omega)]) (fun _ _ => rfl)) (fun m hm => rZ_I (by omega) (by omega) (by omega) (by omega)) rfl rfl, s7, t6.cg (by rw [rZ_I (by decide) (by decide) (by decide) (by decide)]) (rZ_600 (by decide) (by decide))⟩
  exact kont ad1 _ Z2 r2 si.up (bA hb1 (fun _ _ _ => rfl) (zE b2).1 (zE b2).2) ⟨rfl, rfl, rfl⟩
