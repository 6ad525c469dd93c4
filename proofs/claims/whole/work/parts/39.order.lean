/-! Schematic.putInOrder -/
theorem thSel {ci : Nat} (h : thk ci) : ∃ r : vw_C, vwCl[ci]? = some r ∧ Cond.selects r.1 y_Th_isBefore y_Th_isBefore ∈ wz ∧ zAs ci "PinKindChecks$Thing" := by
  rcases h with rfl | rfl | rfl
  · exact ⟨_, rfl, q_Pa_Th_isBefore_Th, _, rfl, Or.inr h_Pa_Th⟩
  · exact ⟨_, rfl, q_Ne_Th_isBefore_Th, _, rfl, Or.inr h_Ne_Th⟩
  · exact ⟨_, rfl, q_Pi_Th_isBefore_Th, _, rfl, Or.inr h_Pi_Th⟩
theorem Rep.thing {w : zC} {ad : Nat → Nat} {S : ST} {Z : zZ} (h : Rep w ad S Z) {c q : Nat} (hk : tok S c q) : ∃ ci fs, thk ci ∧ zhs Z (ad (tid c q)) (.inr (ci, fs)) ∧ fs[1]? = some (.int (plc S c q)) := by
  rcases hk with ⟨rfl, hk⟩ | ⟨rfl, hk⟩ | ⟨rfl, hk⟩
  · exact ⟨6, _, by simp [thk], (h.part hk).1, rfl⟩
  · exact ⟨7, _, by simp [thk], (h.net hk).1, rfl⟩
  · exact ⟨8, _, by simp [thk], h.pin hk, rfl⟩
def ordA (ad : Nat → Nat) (S : ST) : Nat → Option Nat := fun k => if k < sN S 0 + sN S 1 + sN S 2 then some (ad (sN S (1000 + k))) else sR S 15 k
/-- the place of the k-th thing in order -/
def ordP (S : ST) (k : Nat) : Int32 := plc S (tc (sN S (1000 + k))) (tq (sN S (1000 + k)))
def insP (pl : Nat → Int32) (P : Int32) : Nat → Nat
  | 0 => 0
  | n + 1 => if P < pl n then insP pl P n else n + 1
def shf {α : Type} (f : Nat → α) (T i : Nat) : Nat → α := fun k => if i < k ∧ k ≤ T then f (k - 1) else f k
theorem shf_top {α : Type} {f : Nat → α} {T : Nat} : shf f T T = f := by
  funext k
  unfold shf
  rw [if_neg (by omega)]
theorem shf_step {α : Type} {f : Nat → α} {T i : Nat} (h : i + 1 ≤ T) : va_up (shf f T (i + 1)) (i + 1) (f i) = shf f T i := by
  funext k
  unfold va_up shf
  by_cases hk : k = i + 1
  · rw [if_pos hk, if_pos (by omega), hk, Nat.add_sub_cancel]
  · rw [if_neg hk]
    by_cases h2 : i + 1 < k ∧ k ≤ T
    · rw [if_pos h2, if_pos (by omega)]
    · rw [if_neg h2, if_neg (by omega)]
theorem insP_le {pl : Nat → Int32} {P : Int32} : ∀ {n : Nat}, insP pl P n ≤ n
  | 0 => Nat.le_refl _
  | n + 1 => by
    unfold insP
    split
    · have := insP_le (pl := pl) (P := P) (n := n); omega
    · omega
set_option maxHeartbeats 4000000 in
set_option maxRecDepth 100000 in
theorem F_putInOrder {w : zC} {Z : zZ} {Q : zR → zZ → Prop} {ad : Nat → Nat} {S : ST} (hR : Rep w ad S Z) {a ci : Nat} {fs : List Value} {P : Int32} (hk : thk ci) (hA : zhs Z a (.inr (ci, fs))) (hP : fs[1]? = some (.int P)) (hT : sN S 0 + sN S 1 + sN S 2 < 240) {i : Nat} (hi : i ≤ sN S 0 + sN S 1 + sN S 2) (hQ : Q (.inl none) (zput Z (ad 15) (xr w 7 240 (va_up (shf (ordA ad S) (sN S 0 + sN S 1 + sN S 2) i) i (some a))))) : G w y_Sc_putInOrder c_Sc_putInOrder 3 r_Sc_putInOrder (1, 21) Q 54 [(2, .int (nI i)), (0, .ref (ad 1)), (1, .ref a)] [] (zput Z (ad 15) (xr w 7 240 (shf (ordA ad S) (sN S 0 + sN S 1 + sN S 2) i))) := by
  have z15 : zhs Z (ad 15) (xr w 7 240 (ordA ad S)) := hR.k 15 (by decide)
  have b1 : zhs Z (ad 1) (.inr (1, [.ref (ad 11), .ref (ad 12), .ref (ad 13), .ref (ad 14), .ref (ad 15), .int (nI (sN S 0)), .int (nI (sN S 1)), .int (nI (sN S 2)), .int (nI (sN S 7))])) := hR.k 1 (by decide)
  have n15 := hR.inj (i := 1) (j := 15) (Or.inl (by decide)) (Or.inl (by decide)) (by decide)
  have a15 : a ≠ ad 15 := zhs_ne hA z15 (by simp)
  obtain ⟨r, hr1, hr2, hr3⟩ := thSel hk
  have h1 := zhs_put_ne (e' := xr w 7 240 (shf (ordA ad S) (sN S 0 + sN S 1 + sN S 2) i)) b1 n15
  have h15 := zhs_put_same (e' := xr w 7 240 (shf (ordA ad S) (sN S 0 + sN S 1 + sN S 2) i)) z15
  have hB := zhs_put_ne (e' := xr w 7 240 (shf (ordA ad S) (sN S 0 + sN S 1 + sN S 2) i)) hA a15
  refine g_aload_nq d_Sc_putInOrder_54 rfl 1 rfl ?_
  refine g_get d_Sc_putInOrder_55 f_Sc_35_Sc (by assumption) (by first | rfl | assumption) ?_
  refine g_iload_n d_Sc_putInOrder_58 rfl 0 rfl ?_
  refine g_aload_nq d_Sc_putInOrder_59 rfl 2 rfl ?_
  refine g_aast d_Sc_putInOrder_60 7 h15 rfl hB hr3 (vp_in_nI (by omega) (by decide)) ?_
  rw [nI_clamp (by omega), zput_put]
  refine g_vret d_Sc_putInOrder_61 ?_
  exact hQ

set_option maxHeartbeats 4000000 in
set_option maxRecDepth 100000 in
theorem L_putInOrder {w : zC} {Z : zZ} {Q : zR → zZ → Prop} {ad : Nat → Nat} {S : ST} (hR : Rep w ad S Z) {a ci : Nat} {fs : List Value} {P : Int32} (hk : thk ci) (hA : zhs Z a (.inr (ci, fs))) (hP : fs[1]? = some (.int P)) (hT : sN S 0 + sN S 1 + sN S 2 < 240) (hL : ciLive S) (i : Nat) : i ≤ sN S 0 + sN S 1 + sN S 2 → Q (.inl none) (zput Z (ad 15) (xr w 7 240 (va_up (shf (ordA ad S) (sN S 0 + sN S 1 + sN S 2) (insP (ordP S) P i)) (insP (ordP S) P i) (some a)))) → G w y_Sc_putInOrder c_Sc_putInOrder 3 r_Sc_putInOrder (1, 21) Q 15 [(2, .int (nI i)), (0, .ref (ad 1)), (1, .ref a)] [] (zput Z (ad 15) (xr w 7 240 (shf (ordA ad S) (sN S 0 + sN S 1 + sN S 2) i))) := by
  have z15 : zhs Z (ad 15) (xr w 7 240 (ordA ad S)) := hR.k 15 (by decide)
  have b1 : zhs Z (ad 1) (.inr (1, [.ref (ad 11), .ref (ad 12), .ref (ad 13), .ref (ad 14), .ref (ad 15), .int (nI (sN S 0)), .int (nI (sN S 1)), .int (nI (sN S 2)), .int (nI (sN S 7))])) := hR.k 1 (by decide)
  have n15 := hR.inj (i := 1) (j := 15) (Or.inl (by decide)) (Or.inl (by decide)) (by decide)
  have a15 : a ≠ ad 15 := zhs_ne hA z15 (by simp)
  obtain ⟨r, hr1, hr2, hr3⟩ := thSel hk
  induction i with
  | zero =>
    intro hi hQ
    refine g_iload_n d_Sc_putInOrder_15 rfl 0 rfl ?_
    refine g_if_le (tgt := 54) d_Sc_putInOrder_16 (by decide) (fun h16 => ?_) (fun h16 => ?_)
    · exact F_putInOrder hR hk hA hP hT hi hQ
    · exact absurd (by decide) h16
  | succ i ih =>
    intro hi hQ
    have h1 := zhs_put_ne (e' := xr w 7 240 (shf (ordA ad S) (sN S 0 + sN S 1 + sN S 2) (i + 1))) b1 n15
    have h15 := zhs_put_same (e' := xr w 7 240 (shf (ordA ad S) (sN S 0 + sN S 1 + sN S 2) (i + 1))) z15
    have hB := zhs_put_ne (e' := xr w 7 240 (shf (ordA ad S) (sN S 0 + sN S 1 + sN S 2) (i + 1))) hA a15
    obtain ⟨c, q, ht, hid⟩ := hL.1 i (by omega)
    have htq := tc_tid ht hR.1.1 hR.1.2.1
    have hop : ordP S i = plc S c q := by unfold ordP; rw [hid, htq.1, htq.2]
    obtain ⟨cj, gs, hk2, hC, hP2⟩ := hR.thing ht
    have hoa : ordA ad S i = some (ad (tid c q)) := by unfold ordA; rw [if_pos (by omega), hid]
    have c15 : ad (tid c q) ≠ ad 15 := zhs_ne hC z15 (by simp)
    have hC := zhs_put_ne (e' := xr w 7 240 (shf (ordA ad S) (sN S 0 + sN S 1 + sN S 2) (i + 1))) hC c15
    obtain ⟨r9, hs1, hs2, hs3⟩ := thSel hk2
    have hsh : shf (ordA ad S) (sN S 0 + sN S 1 + sN S 2) (i + 1) i = some (ad (tid c q)) := by unfold shf; rw [if_neg (by omega)]; exact hoa
    refine g_iload_n d_Sc_putInOrder_15 rfl 0 rfl ?_
    refine g_if_le (tgt := 54) d_Sc_putInOrder_16 (by decide) (fun h16 => ?_) (fun h16 => ?_)
    · exact absurd h16 (Int32.not_le.mpr (nI_lt (a := 0) (b := i + 1) (by omega) (by omega)))
    · refine g_aload_nq d_Sc_putInOrder_19 rfl 2 rfl ?_
      refine g_aload_nq d_Sc_putInOrder_20 rfl 1 rfl ?_
      refine g_get d_Sc_putInOrder_21 f_Sc_35_Sc (by assumption) (by first | rfl | assumption) ?_
      refine g_iload_n d_Sc_putInOrder_24 rfl 0 rfl ?_
      refine g_iconst (v := 1) d_Sc_putInOrder_25 rfl ?_
      refine g_isub d_Sc_putInOrder_26 ?_
      rw [nI_pred]
      refine g_aald d_Sc_putInOrder_27 7 h15 rfl (vp_in_nI (by omega) (by decide)) ?_
      rw [nI_clamp (by omega), hsh]
      simp only [va_rf]
      refine g_callV d_Sc_putInOrder_28 k_Th_isBefore l_Sc_111 i_Th_isBefore hr1 hr2 hB (by rfl) (by rfl) (Nat.le_of_ble_eq_true rfl) (by decide) (C_Th_isBefore hk hB hk2 hC hP hP2 ⟨_, rfl, ?_⟩)
      first | refine g_if_eqB (tgt := 54) d_Sc_putInOrder_31 (by decide) (fun h31 => ?_) (fun h31 => ?_) | refine g_if_eq (tgt := 54) d_Sc_putInOrder_31 (by decide) (fun h31 => ?_) (fun h31 => ?_)
      · rw [insP, hop, if_neg h31] at hQ
        exact F_putInOrder hR hk hA hP hT hi hQ
      · rw [insP, hop, if_pos h31] at hQ
        refine g_aload_nq d_Sc_putInOrder_34 rfl 1 rfl ?_
        refine g_get d_Sc_putInOrder_35 f_Sc_35_Sc (by assumption) (by first | rfl | assumption) ?_
        refine g_iload_n d_Sc_putInOrder_38 rfl 0 rfl ?_
        refine g_aload_nq d_Sc_putInOrder_39 rfl 1 rfl ?_
        refine g_get d_Sc_putInOrder_40 f_Sc_35_Sc (by assumption) (by first | rfl | assumption) ?_
        refine g_iload_n d_Sc_putInOrder_43 rfl 0 rfl ?_
        refine g_iconst (v := 1) d_Sc_putInOrder_44 rfl ?_
        refine g_isub d_Sc_putInOrder_45 ?_
        rw [nI_pred]
        refine g_aald d_Sc_putInOrder_46 7 h15 rfl (vp_in_nI (by omega) (by decide)) ?_
        rw [nI_clamp (by omega), hsh]
        simp only [va_rf]
        refine g_aast d_Sc_putInOrder_47 7 h15 rfl hC hs3 (vp_in_nI (by omega) (by decide)) ?_
        rw [nI_clamp (by omega), zput_put, ← hoa, shf_step hi]
        refine g_iinc (k := 0) d_Sc_putInOrder_48 rfl (show nI (i + 1) + Int32.ofInt (-1) = nI i from pk_m1 i) (by decide) rfl ?_
        refine g_goto (tgt := 15) d_Sc_putInOrder_51 (by decide) ?_
        exact ih (by omega) hQ

set_option maxHeartbeats 4000000 in
set_option maxRecDepth 100000 in
theorem C_Sc_putInOrder {w : zC} {Z : zZ} {Q : zR → zZ → Prop} {ad : Nat → Nat} {S : ST} (hR : Rep w ad S Z) {a ci : Nat} {fs : List Value} {P : Int32} (hk : thk ci) (hA : zhs Z a (.inr (ci, fs))) (hP : fs[1]? = some (.int P)) (hT : sN S 0 + sN S 1 + sN S 2 < 240) (hL : ciLive S) (hQ : Q (.inl none) (zput Z (ad 15) (xr w 7 240 (va_up (shf (ordA ad S) (sN S 0 + sN S 1 + sN S 2) (insP (ordP S) P (sN S 0 + sN S 1 + sN S 2))) (insP (ordP S) P (sN S 0 + sN S 1 + sN S 2)) (some a))))) : Cz w (1, 21) y_Sc_putInOrder (Cond.code y_Sc_putInOrder c_Sc_putInOrder 3 r_Sc_putInOrder :: wz) [.ref (ad 1), .ref a] Z Q := by
  refine Cz.of (by decide +kernel) (by simp [lg_sl, Value.category]) ?_
  show G _ _ _ _ _ _ _ _ [(0, _), (1, _)] _ _
  have z15 : zhs Z (ad 15) (xr w 7 240 (ordA ad S)) := hR.k 15 (by decide)
  have b1 : zhs Z (ad 1) (.inr (1, [.ref (ad 11), .ref (ad 12), .ref (ad 13), .ref (ad 14), .ref (ad 15), .int (nI (sN S 0)), .int (nI (sN S 1)), .int (nI (sN S 2)), .int (nI (sN S 7))])) := hR.k 1 (by decide)
  have n15 := hR.inj (i := 1) (j := 15) (Or.inl (by decide)) (Or.inl (by decide)) (by decide)
  have a15 : a ≠ ad 15 := zhs_ne hA z15 (by simp)
  obtain ⟨r, hr1, hr2, hr3⟩ := thSel hk
  refine g_aload_nq d_Sc_putInOrder_0 rfl 0 rfl ?_
  refine g_callV d_Sc_putInOrder_1 k_Sc_thingCount l_Sc_108 i_Sc_thingCount rfl q_Sc_Sc_thingCount_Sc b1 (by rfl) (by rfl) (Nat.le_of_ble_eq_true rfl) (by decide) (C_Sc_thingCount hR ⟨_, rfl, ?_⟩)
  refine g_istore_n d_Sc_putInOrder_4 rfl (by decide) rfl ?_
  show G _ _ _ _ _ _ _ _ [(2, _), (0, _), (1, _)] _ _
  refine g_iload_n d_Sc_putInOrder_5 rfl 0 rfl ?_
  refine g_aload_nq d_Sc_putInOrder_6 rfl 1 rfl ?_
  refine g_get d_Sc_putInOrder_7 f_Sc_35_Sc (by assumption) (by first | rfl | assumption) ?_
  refine g_alen d_Sc_putInOrder_10 7 (by assumption) rfl ?_
  refine g_icmp_lt (tgt := 15) d_Sc_putInOrder_11 (by decide) (fun h11 => ?_) (fun h11 => ?_)
  · have h9 := L_putInOrder hR hk hA hP hT hL (sN S 0 + sN S 1 + sN S 2) (Nat.le_refl _) hQ
    rw [shf_top, zput_self z15] at h9
    exact h9
  · exact absurd (nI_lt hT (by decide)) h11
