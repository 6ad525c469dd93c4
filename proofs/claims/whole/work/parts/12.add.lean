/-! Remarks.add; Waivers -/
set_option maxHeartbeats 4000000 in
set_option maxRecDepth 100000 in
theorem A_Rm_add {w : zC} {Z : zZ} {Q : zR → zZ → Prop} {a k v f c N : Nat} {kf wf ff : Nat → Int32} {x0 x1 x2 : Int32} (h0 : zhs Z a (.inr (5, [.ref k, .ref v, .ref f, .int (nI c)]))) (h1 : zhs Z k (.inl (w.2.2.2.1 0, N, .inl kf))) (h2 : zhs Z v (.inl (w.2.2.2.1 0, N, .inl wf))) (h3 : zhs Z f (.inl (w.2.2.2.1 0, N, .inl ff))) (hkv : k ≠ v) (hkf : k ≠ f) (hvf : v ≠ f) (hc : c < N) (hN : N < 2 ^ 31) (hQ : Q (.inl none) (zput (zput (zput (zput Z k (.inl (w.2.2.2.1 0, N, .inl (upd kf c x0)))) v (.inl (w.2.2.2.1 0, N, .inl (upd wf c x1)))) f (.inl (w.2.2.2.1 0, N, .inl (upd ff c x2)))) a (.inr (5, [.ref k, .ref v, .ref f, .int (nI (c + 1))])))) : G w y_Rm_add c_Rm_add 4 r_Rm_add (3, 69) Q 16 [(0, .ref a), (1, .int x0), (2, .int x1), (3, .int x2)] [] Z := by
  refine g_aload_nq d_Rm_add_16 rfl 0 rfl ?_
  refine g_get d_Rm_add_17 f_Rm_21_Rm (by assumption) (by rfl) ?_
  refine g_aload_nq d_Rm_add_20 rfl 0 rfl ?_
  refine g_get d_Rm_add_21 f_Rm_11_Rm (by assumption) (by rfl) ?_
  refine g_alen d_Rm_add_24 0 (by assumption) rfl ?_
  refine g_icmp_ge (tgt := 92) d_Rm_add_25 (by decide) (fun h25 => ?_) (fun h25 => ?_)
  · exact absurd h25 (nI_ge hc hN)
  · refine g_aload_nq d_Rm_add_28 rfl 0 rfl ?_
    refine g_get d_Rm_add_29 f_Rm_21_Rm (by assumption) (by rfl) ?_
    refine g_aload_nq d_Rm_add_32 rfl 0 rfl ?_
    refine g_get d_Rm_add_33 f_Rm_15_Rm (by assumption) (by rfl) ?_
    refine g_alen d_Rm_add_36 0 (by assumption) rfl ?_
    refine g_icmp_ge (tgt := 92) d_Rm_add_37 (by decide) (fun h37 => ?_) (fun h37 => ?_)
    · exact absurd h37 (nI_ge hc hN)
    · refine g_aload_nq d_Rm_add_40 rfl 0 rfl ?_
      refine g_get d_Rm_add_41 f_Rm_21_Rm (by assumption) (by rfl) ?_
      refine g_aload_nq d_Rm_add_44 rfl 0 rfl ?_
      refine g_get d_Rm_add_45 f_Rm_18_Rm (by assumption) (by rfl) ?_
      refine g_alen d_Rm_add_48 0 (by assumption) rfl ?_
      refine g_icmp_ge (tgt := 92) d_Rm_add_49 (by decide) (fun h49 => ?_) (fun h49 => ?_)
      · exact absurd h49 (nI_ge hc hN)
      · refine g_aload_nq d_Rm_add_52 rfl 0 rfl ?_
        refine g_get d_Rm_add_53 f_Rm_11_Rm (by assumption) (by rfl) ?_
        refine g_aload_nq d_Rm_add_56 rfl 0 rfl ?_
        refine g_get d_Rm_add_57 f_Rm_21_Rm (by assumption) (by rfl) ?_
        refine g_iload_n d_Rm_add_60 rfl 1 rfl ?_
        refine g_iast d_Rm_add_61 (by assumption) (vp_in_nI hc hN) ?_
        rw [nI_clamp (by omega)]
        generalize e1 : zput _ _ _ = Z1
        have h0 := zhs_put_ne' e1 h0 (zhs_ne h0 h1 (by simp))
        have h2 := zhs_put_ne' e1 h2 (Ne.symm hkv)
        have h3 := zhs_put_ne' e1 h3 (Ne.symm hkf)
        have h1 := zhs_put_same' e1 h1
        refine g_aload_nq d_Rm_add_62 rfl 0 rfl ?_
        refine g_get d_Rm_add_63 f_Rm_15_Rm (by assumption) (by rfl) ?_
        refine g_aload_nq d_Rm_add_66 rfl 0 rfl ?_
        refine g_get d_Rm_add_67 f_Rm_21_Rm (by assumption) (by rfl) ?_
        refine g_iload_n d_Rm_add_70 rfl 2 rfl ?_
        refine g_iast d_Rm_add_71 (by assumption) (vp_in_nI hc hN) ?_
        rw [nI_clamp (by omega)]
        generalize e2 : zput _ _ _ = Z2
        have h0 := zhs_put_ne' e2 h0 (zhs_ne h0 h2 (by simp))
        have h1 := zhs_put_ne' e2 h1 (hkv)
        have h3 := zhs_put_ne' e2 h3 (Ne.symm hvf)
        have h2 := zhs_put_same' e2 h2
        refine g_aload_nq d_Rm_add_72 rfl 0 rfl ?_
        refine g_get d_Rm_add_73 f_Rm_18_Rm (by assumption) (by rfl) ?_
        refine g_aload_nq d_Rm_add_76 rfl 0 rfl ?_
        refine g_get d_Rm_add_77 f_Rm_21_Rm (by assumption) (by rfl) ?_
        refine g_iload_n d_Rm_add_80 rfl 3 rfl ?_
        refine g_iast d_Rm_add_81 (by assumption) (vp_in_nI hc hN) ?_
        rw [nI_clamp (by omega)]
        generalize e3 : zput _ _ _ = Z3
        have h0 := zhs_put_ne' e3 h0 (zhs_ne h0 h3 (by simp))
        have h1 := zhs_put_ne' e3 h1 (hkf)
        have h2 := zhs_put_ne' e3 h2 (hvf)
        have h3 := zhs_put_same' e3 h3
        refine g_aload_nq d_Rm_add_82 rfl 0 rfl ?_
        refine g_dup d_Rm_add_83 rfl ?_
        refine g_get d_Rm_add_84 f_Rm_21_Rm (by assumption) (by rfl) ?_
        refine g_iconst (v := 1) d_Rm_add_87 rfl ?_
        refine g_iadd d_Rm_add_88 ?_
        rw [nI_1]
        refine g_put d_Rm_add_89 w_Rm_21_Rm (by assumption) (by rfl) (by rfl) (Nat.le_of_ble_eq_true rfl) ?_
        refine g_vret d_Rm_add_92 ?_
        rw [← e3, ← e2, ← e1]
        exact hQ

/-- the new row's worth: what was before c, and the new one at c -/
def rowAdd (f g : Nat → Int32) (c : Nat) (x : Int32) : Prop := (∀ j, j < c → g j = f j) ∧ g c = x
theorem rowAdd_upd {f : Nat → Int32} {c : Nat} {x : Int32} : rowAdd f (upd f c x) c x := ⟨fun j hj => pk_un (by omega), pk_us⟩
theorem rowAdd_cpy {f : Nat → Int32} {c n : Nat} {x : Int32} (h : c ≤ n) : rowAdd f (upd (va_cpy f (fun _ => 0) 0 0 n) c x) c x := ⟨fun j hj => by rw [pk_un (by omega), sb_cpy0 (by omega)], pk_us⟩
/-- behind four writes -/
theorem add_end {w : zC} {Z Z' : zZ} {a k v f c N : Nat} {kf wf ff : Nat → Int32} (h0 : zhs Z a (.inr (5, [.ref k, .ref v, .ref f, .int (nI c)]))) (h1 : zhs Z k (.inl (w.2.2.2.1 0, N, .inl kf))) (h2 : zhs Z v (.inl (w.2.2.2.1 0, N, .inl wf))) (h3 : zhs Z f (.inl (w.2.2.2.1 0, N, .inl ff))) (hkv : k ≠ v) (hkf : k ≠ f) (hvf : v ≠ f) {e1 e2 e3 : va_E} {e0 : va_E}
    (hz : zput (zput (zput (zput Z k e1) v e2) f e3) a e0 = Z') : zhs Z' a e0 ∧ zhs Z' k e1 ∧ zhs Z' v e2 ∧ zhs Z' f e3 ∧ zfr Z Z' [a, k, v, f] ∧ Z'.1 = Z.1 ∧ Z'.2.2.1 = Z.2.2.1 ∧ Z'.2.2.2 = Z.2.2.2 := by
  have nk : k ≠ a := Ne.symm (zhs_ne h0 h1 (by simp))
  have nv : v ≠ a := Ne.symm (zhs_ne h0 h2 (by simp))
  have nf : f ≠ a := Ne.symm (zhs_ne h0 h3 (by simp))
  subst hz
  refine ⟨zhs_put_same (zhs_put_ne (zhs_put_ne (zhs_put_ne h0 (Ne.symm nk)) (Ne.symm nv)) (Ne.symm nf)), zhs_put_ne (zhs_put_ne (zhs_put_ne (zhs_put_same h1) hkv) hkf) nk, zhs_put_ne (zhs_put_ne (zhs_put_same (zhs_put_ne h2 (Ne.symm hkv))) hvf) nv, zhs_put_ne (zhs_put_same (zhs_put_ne (zhs_put_ne h3 (Ne.symm hkf)) (Ne.symm hvf))) nf, ?_, rfl, rfl, rfl⟩
  exact zfr_tr (zfr_put rfl (by simp)) (zfr_tr (zfr_put rfl (by simp)) (zfr_tr (zfr_put rfl (by simp)) (zfr_put rfl (by simp))))

set_option maxHeartbeats 4000000 in
set_option maxRecDepth 100000 in
theorem C_Rm_add {w : zC} {Z : zZ} {Q : zR → zZ → Prop} {a k v f c N : Nat} {kf wf ff : Nat → Int32} {x0 x1 x2 : Int32} (h0 : zhs Z a (.inr (5, [.ref k, .ref v, .ref f, .int (nI c)]))) (h1 : zhs Z k (.inl (w.2.2.2.1 0, N, .inl kf))) (h2 : zhs Z v (.inl (w.2.2.2.1 0, N, .inl wf))) (h3 : zhs Z f (.inl (w.2.2.2.1 0, N, .inl ff))) (hkv : k ≠ v) (hkf : k ≠ f) (hvf : v ≠ f) (hc : c ≤ N) (hN0 : 0 < N) (hN : N ≤ 3720) (hc2 : c < 3720) (hb : c = N → 3 ≤ Z.2.2.1 ∧ 3 * min (2 * N) 3720 ≤ Z.2.2.2) (hQ : ∀ Z' k' v' f' N' kf' wf' ff', c < N' → N' ≤ 3720 → ((N' = N ∧ k' = k ∧ v' = v ∧ f' = f ∧ Z'.2.2.1 = Z.2.2.1 ∧ Z'.2.2.2 = Z.2.2.2) ∨ (c = N ∧ N' = min (2 * N) 3720 ∧ k' ∉ Z.1 ∧ v' ∉ Z.1 ∧ f' ∉ Z.1 ∧ Z'.2.2.1 = Z.2.2.1 - 3 ∧ Z'.2.2.2 = Z.2.2.2 - 3 * N')) → k' ≠ v' → k' ≠ f' → v' ≠ f' → zhs Z' a (.inr (5, [.ref k', .ref v', .ref f', .int (nI (c + 1))])) → zhs Z' k' (.inl (w.2.2.2.1 0, N', .inl kf')) → zhs Z' v' (.inl (w.2.2.2.1 0, N', .inl wf')) → zhs Z' f' (.inl (w.2.2.2.1 0, N', .inl ff')) → rowAdd kf kf' c x0 → rowAdd wf wf' c x1 → rowAdd ff ff' c x2 → zfr Z Z' [a, k, v, f] → Q (.inl none) Z') : Cz w (3, 69) y_Rm_add (Cond.code y_Rm_add c_Rm_add 4 r_Rm_add :: wz) [.ref a, .int x0, .int x1, .int x2] Z Q := by
  refine Cz.of (by decide +kernel) (by simp [lg_sl, Value.category]) ?_
  show G _ _ _ _ _ _ _ _ [(0, _), (1, _), (2, _), (3, _)] _ _
  refine g_aload_nq d_Rm_add_0 rfl 0 rfl ?_
  refine g_get d_Rm_add_1 f_Rm_21_Rm (by assumption) (by rfl) ?_
  refine g_aload_nq d_Rm_add_4 rfl 0 rfl ?_
  refine g_get d_Rm_add_5 f_Rm_11_Rm (by assumption) (by rfl) ?_
  refine g_alen d_Rm_add_8 0 (by assumption) rfl ?_
  refine g_icmp_lt (tgt := 16) d_Rm_add_9 (by decide) (fun h9 => ?_) (fun h9 => ?_)
  · refine A_Rm_add h0 h1 h2 h3 hkv hkf hvf ((nI_ltI (by omega) (by omega)).mp h9) (by omega) ?_
    generalize hz : zput _ _ _ = Z9
    obtain ⟨b0, b1, b2, b3, b4, b5, b6, b7⟩ := add_end h0 h1 h2 h3 hkv hkf hvf hz
    exact hQ Z9 k v f N _ _ _ ((nI_ltI (by omega) (by omega)).mp h9) hN (Or.inl ⟨rfl, rfl, rfl, rfl, b6, b7⟩) hkv hkf hvf b0 b1 b2 b3 rowAdd_upd rowAdd_upd rowAdd_upd b4
  · refine g_aload_nq d_Rm_add_12 rfl 0 rfl ?_
    have hcN : c = N := by have h5 := h9; rw [nI_ltI (by omega) (by omega)] at h5; omega
    have hb9 := hb hcN
    refine g_callV d_Rm_add_13 k_Rm_grow l_Rm_25 i_Rm_grow rfl p_Rm_grow (by assumption) (by rfl) (by rfl) (Nat.le_of_ble_eq_true rfl) (by decide) (C_Rm_grow h0 h1 h2 h3 (by omega) (by omega) (fun Z8 q0 q1 q2 m0 m1 m2 d1 d2 d3 g0 g1 g2 g3 F8 u1 u2 => ⟨_, rfl, ?_⟩))
    refine A_Rm_add g0 g1 g2 g3 d1 d2 d3 (by omega) (by omega) ?_
    generalize hz : zput _ _ _ = Z9
    obtain ⟨b0, b1, b2, b3, b4, b5, b6, b7⟩ := add_end g0 g1 g2 g3 d1 d2 d3 hz
    refine hQ Z9 q0 q1 q2 _ _ _ _ (by omega) (by omega) (Or.inr ⟨hcN, rfl, m0, m1, m2, by omega, by omega⟩) d1 d2 d3 b0 b1 b2 b3 (rowAdd_cpy (by omega)) (rowAdd_cpy (by omega)) (rowAdd_cpy (by omega)) (fun b e hb hz9 => b4 b e (fun q => ?_) (F8 b e (fun q => hb (by simp only [List.mem_singleton] at q; simp [q])) hz9))
    simp only [List.mem_cons, List.not_mem_nil, or_false] at q hb
    rcases q with rfl | rfl | rfl | rfl
    · exact hb (Or.inl rfl)
    · exact m0 hz9.1
    · exact m1 hz9.1
    · exact m2 hz9.1
