/-! The face of the class: remark, closed, waive, unit -/
def abt (x t : Int32) : Int32 := if t = 0 then x - x / 27 * 27 else if t = 1 then x / 27 / 160 - x / 27 / 160 / 3 * 3 else x / 27 - x / 27 / 160 * 160
def rmkV (S : ST) (k : Nat) (t : Int32) : Int32 := if t = 3 then sI S (23 + 3 * sN S 8) k else if t = 4 then sI S (24 + 3 * sN S 8) k else if t = 5 then rsn (sI S 20) (sI S 21) (sI S (22 + 3 * sN S 8) k) (sN S 16) else abt (sI S (22 + 3 * sN S 8) k) t
def cldV (S : ST) (k : Nat) (t : Int32) : Int32 := if t = 3 then sI S 24 k else abt (sI S 22 k) t
def wOK (S : ST) (t x : Int32) : Prop := ∃ c k, tok S c k ∧ t = nI c ∧ x = nI k
def thA (ad : Nat → Nat) (S : ST) (t x : Int32) : Option Nat := if t = 0 then atP ad S x else if t = 1 then atN ad S x else if t = 2 then atQ ad S x else none
theorem thA_some {ad : Nat → Nat} {S : ST} {t x : Int32} {q : Nat} (h : thA ad S t x = some q) (n0 : sN S 0 ≤ 40) (n1 : sN S 1 ≤ 40) (n2 : sN S 2 ≤ 160) : ∃ c k, tok S c k ∧ t = nI c ∧ x = nI k ∧ q = ad (tid c k) := by
  unfold thA at h
  split at h
  · rename_i e
    obtain ⟨k, h1, h2, h3⟩ := atP_some h n0
    exact ⟨0, k, Or.inl ⟨rfl, h1⟩, e, h2, h3⟩
  split at h
  · rename_i e
    obtain ⟨k, h1, h2, h3⟩ := atN_some h n1
    exact ⟨1, k, Or.inr (Or.inl ⟨rfl, h1⟩), e, h2, h3⟩
  split at h
  · rename_i e
    obtain ⟨k, h1, h2, h3⟩ := atQ_some h n2
    exact ⟨2, k, Or.inr (Or.inr ⟨rfl, h1⟩), e, h2, h3⟩
  · cases h
theorem thA_none {ad : Nat → Nat} {S : ST} {t x : Int32} (h : thA ad S t x = none) (n0 : sN S 0 ≤ 40) (n1 : sN S 1 ≤ 40) (n2 : sN S 2 ≤ 160) : ¬ wOK S t x := fun ⟨c, k, hk, e1, e2⟩ => by
  subst e1; subst e2
  unfold thA at h
  rcases hk with ⟨rfl, hk⟩ | ⟨rfl, hk⟩ | ⟨rfl, hk⟩
  · rw [if_pos (by decide)] at h; exact atP_none h (inr_nI hk (by omega))
  · rw [if_neg (by decide), if_pos (by decide)] at h; exact atN_none h (inr_nI hk (by omega))
  · rw [if_neg (by decide), if_neg (by decide), if_pos (by decide)] at h; exact atQ_none h (inr_nI hk (by omega))
/-- what waive leaves -/
def wvS (S : ST) (x y : Int32) : Option ST := if rsn (sI S 20) (sI S 21) x (sN S 16) = y then none else match fo (sI S 20) x (sN S 16) 0 with
  | none => if sN S 16 < 50 then some (wN (wI (wI S 20 (upd (sI S 20) (sN S 16) x)) 21 (upd (sI S 21) (sN S 16) y)) 16 (sN S 16 + 1)) else none
  | some j => if y = -1 then some (wN (wI (wI S 20 (upd (sI S 20) j (sI S 20 (sN S 16 - 1)))) 21 (upd (sI S 21) j (sI S 21 (sN S 16 - 1)))) 16 (sN S 16 - 1)) else some (wI S 21 (upd (sI S 21) j y))
theorem wv_three {w : zC} {ad : Nat → Nat} {S : ST} {Z : zZ} (hR : Rep w ad S Z) (hL : ciLive S) {f g : Nat → Int32} {n : Nat} : Rep w ad (wN (wI (wI S 20 f) 21 g) 16 n) (zput (zput (zput Z (ad 20) (xi w 50 f)) (ad 21) (xi w 50 g)) (ad 4) (.inr (4, [.ref (ad 20), .ref (ad 21), .int (nI n)]))) := by
  have h1 := hR.putI (i := 20) (f := f) (e := xi w 50 f) (Or.inl (by decide)) (by rw [cell_K (by decide)]; exact congrArg (xi w 50) (va_up_self S.1 20 _))
  have h2 := h1.putI (i := 21) (f := g) (e := xi w 50 g) (Or.inl (by decide)) (by rw [cell_K (by decide)]; exact congrArg (xi w 50) (va_up_self (va_up S.1 20 f) 21 _))
  exact h2.putN (hL.eqT ⟨fun m hm => (va_up_ne _ _ (by omega)).trans (va_up_ne _ _ (by omega)), fun _ _ => rfl, fun _ _ => rfl, fun _ _ => rfl⟩) (i := 4) (n := 16) (v := n) (Or.inl (by decide)) (by omega) (fun z => by omega) (fun i hi => by rcases hi with hi | hi | hi <;> first | omega | (unfold rdK at hi; split at hi <;> first | omega | exact hi.elim)) (by rw [cell_K (by decide)]; rfl)
theorem A_setReason {w : zC} {Z : zZ} {Q : zR → zZ → Prop} {ad : Nat → Nat} {S : ST} {x y : Int32} (hR : Rep w ad S Z) (hL : ciLive S) (h50 : sN S 16 ≤ 50) (hQ : tkQ w ad S Z Q (wvS S x y)) : Cz w (2, 44) y_Wv_setReason (Cond.code y_Wv_setReason c_Wv_setReason 4 r_Wv_setReason :: wz) [.ref (ad 4), .int x, .int y] Z Q := by
  refine C_Wv_setReason (hR.k 4 (by decide)) (hR.k 20 (by decide)) (hR.k 21 (by decide)) h50 (hR.inj (Or.inl (by decide)) (Or.inl (by decide)) (by decide)) ?_
  unfold wvS at hQ
  split
  · rename_i h1
    rw [if_pos h1] at hQ
    exact hQ Z hR rfl
  · rename_i h1
    rw [if_neg h1] at hQ
    rcases h2 : fo (sI S 20) x (sN S 16) 0 with _ | j
    · rw [h2] at hQ
      simp only at hQ ⊢
      split
      · rename_i h3
        rw [if_pos h3] at hQ
        exact hQ _ (wv_three hR hL) rfl
      · rename_i h3
        rw [if_neg h3] at hQ
        exact hQ Z hR rfl
    · rw [h2] at hQ
      simp only at hQ ⊢
      split
      · rename_i h3
        rw [if_pos h3] at hQ
        exact hQ _ (wv_three hR hL) rfl
      · rename_i h3
        rw [if_neg h3] at hQ
        exact hQ _ (hR.putI (i := 21) (Or.inl (by decide)) (by rw [cell_K (by decide)]; exact congrArg (xi w 50) (va_up_self S.1 21 _))) rfl
theorem sw_3_5 (x : Int32) : (x.toInt < 3 ∨ 5 < x.toInt) ∨ x = 3 ∨ x = 4 ∨ x = 5 := by
  by_cases h3 : x = 3
  · simp [h3]
  have n3 : ¬ x.toInt = 3 := fun q => h3 (Int32.toInt_inj.mp (q.trans (by decide)))
  by_cases h4 : x = 4
  · simp [h4]
  have n4 : ¬ x.toInt = 4 := fun q => h4 (Int32.toInt_inj.mp (q.trans (by decide)))
  by_cases h5 : x = 5
  · simp [h5]
  have n5 : ¬ x.toInt = 5 := fun q => h5 (Int32.toInt_inj.mp (q.trans (by decide)))
  exact Or.inl (by omega)
set_option maxHeartbeats 4000000 in
set_option maxRecDepth 100000 in
theorem C_K_remark {w : zC} {Z : zZ} {Q : zR → zZ → Prop} {ad : Nat → Nat} {S : ST} (hR : Rep w ad S Z) {adK adV : Nat → Nat} (hK : zLit w adK adV) (hT : zThr w) {x t : Int32} (hc : capOK S (sN S 8)) (h50 : sN S 16 ≤ 50) (hb : 1 ≤ Z.2.2.1 ∧ 6 ≤ Z.2.2.2) (hI : ¬ (inr x (sN S (17 + sN S 8)) ∧ inr t 6) → Q (.inr "java/lang/IndexOutOfBoundsException") (zpay Z 1 6)) (hN : ∀ k, k < sN S (17 + sN S 8) → x = nI k → inr t 6 → Q (.inl (some (.int (rmkV S k t)))) Z) : Cz w (6, 140) y_K_remark (Cond.code y_K_remark c_K_remark 3 r_K_remark :: wz) [.ref (ad 0), .int x, .int t] Z Q := by
  refine Cz.of (by decide +kernel) (by simp [lg_sl, Value.category]) ?_
  show G _ _ _ _ _ _ _ _ [(0, _), (1, _), (2, _)] _ _
  have h0 : zhs Z (ad 0) (.inr (0, [.ref (ad 1), .ref (ad 3), .ref (ad 8), .ref (ad 9), .ref (ad 4), .ref (ad 5), .ref (ad 10), .ref (ad (5 + sN S 8)), .ref (ad (8 - sN S 8)), .int (nI (sN S 3)), .int (sI S 0 11)])) := hR.k 0 (by decide)
  have h4 : zhs Z (ad 4) (.inr (4, [.ref (ad 20), .ref (ad 21), .int (nI (sN S 16))])) := hR.k 4 (by decide)
  have h20 : zhs Z (ad 20) (xi w 50 (sI S 20)) := hR.k 20 (by decide)
  have h21 : zhs Z (ad 21) (xi w 50 (sI S 21)) := hR.k 21 (by decide)
  have hj : sN S 8 < 3 := by have := hR.1.2.2.2.2; omega
  obtain ⟨r0, r1, r2, r3⟩ := hR.rem hj
  refine g_iload_n d_K_remark_0 rfl 1 rfl ?_
  refine g_aload_nq d_K_remark_1 rfl 0 rfl ?_
  refine g_get d_K_remark_2 f_K_51_K (by assumption) (by first | rfl | assumption) ?_
  refine g_callV d_K_remark_5 k_Rm_count l_K_187 i_Rm_count rfl q_Rm_Rm_count_Rm r0 (by rfl) (by rfl) (Nat.le_of_ble_eq_true rfl) (by decide) (C_Rm_count r0 ⟨_, rfl, ?_⟩)
  refine g_callS d_K_remark_8 k_K_isBelow l_K_64 s_K_isBelow (by rfl) (by rfl) (Nat.le_of_ble_eq_true rfl) (by decide) (C_K_isBelow ⟨_, rfl, ?_⟩)
  first | refine g_if_eqB (tgt := 23) d_K_remark_11 (by decide) (fun h11 => ?_) (fun h11 => ?_) | refine g_if_eq (tgt := 23) d_K_remark_11 (by decide) (fun h11 => ?_) (fun h11 => ?_)
  · have hF := hI (fun z => h11 z.1)
    exact g_thr hK hT zl_28 (by decide +kernel) oa_I oc_I oi_I d_K_remark_23 d_K_remark_26 d_K_remark_27 d_K_remark_29 d_K_remark_32 (by decide +kernel) (by omega) (by omega) (by decide) hF
  · refine g_iload_n d_K_remark_14 rfl 2 rfl ?_
    refine g_bipush (v := 6) d_K_remark_15 rfl ?_
    refine g_callS d_K_remark_17 k_K_isBelow l_K_64 s_K_isBelow (by rfl) (by rfl) (Nat.le_of_ble_eq_true rfl) (by decide) (C_K_isBelow ⟨_, rfl, ?_⟩)
    first | refine g_if_neB (tgt := 33) d_K_remark_20 (by decide) (fun h20x => ?_) (fun h20x => ?_) | refine g_if_ne (tgt := 33) d_K_remark_20 (by decide) (fun h20x => ?_) (fun h20x => ?_)
    · obtain ⟨k, hk, rfl⟩ := bel h11 (by have := hc.1; have := hc.2.2; omega)
      have hN := hN k hk rfl h20x
      unfold rmkV at hN
      refine g_iload_n d_K_remark_33 rfl 2 rfl ?_
      rcases sw_3_5 t with h34 | rfl | rfl | rfl
      · refine g_tableOut (tgt := 94) d_K_remark_34 h34 (by decide) ?_
        rw [if_neg (show ¬ t = 3 from fun z => by subst z; exact absurd h34 (by decide)), if_neg (show ¬ t = 4 from fun z => by subst z; exact absurd h34 (by decide)), if_neg (show ¬ t = 5 from fun z => by subst z; exact absurd h34 (by decide))] at hN
        refine g_aload_nq d_K_remark_94 rfl 0 rfl ?_
        refine g_get d_K_remark_95 f_K_51_K (by assumption) (by first | rfl | assumption) ?_
        refine g_iload_n d_K_remark_98 rfl 1 rfl ?_
        refine g_callV d_K_remark_99 k_Rm_keyOf l_K_198 i_Rm_keyOf rfl q_Rm_Rm_keyOf_Rm r0 (by rfl) (by rfl) (Nat.le_of_ble_eq_true rfl) (by decide) (C_Rm_keyOf r0 r1 hc.1 (by have := hc.2.2; omega) ⟨_, rfl, ?_⟩)
        rw [if_pos h11, nI_clamp (by have := hc.1; have := hc.2.2; omega)]
        refine g_iload_n d_K_remark_102 rfl 2 rfl ?_
        refine g_callS d_K_remark_103 k_K_aboutKey l_K_204 s_K_aboutKey (by rfl) (by rfl) (Nat.le_of_ble_eq_true rfl) (by decide) (C_K_aboutKey ⟨_, rfl, ?_⟩)
        refine g_iret d_K_remark_106 ?_
        exact hN
      · refine g_tableIn (tgt := 60) d_K_remark_34 (by decide) (by decide) rfl (by decide) ?_
        rw [if_pos rfl] at hN
        refine g_aload_nq d_K_remark_60 rfl 0 rfl ?_
        refine g_get d_K_remark_61 f_K_51_K (by assumption) (by first | rfl | assumption) ?_
        refine g_iload_n d_K_remark_64 rfl 1 rfl ?_
        refine g_callV d_K_remark_65 k_Rm_weightOf l_K_192 i_Rm_weightOf rfl q_Rm_Rm_weightOf_Rm r0 (by rfl) (by rfl) (Nat.le_of_ble_eq_true rfl) (by decide) (C_Rm_weightOf r0 r2 hc.1 (by have := hc.2.2; omega) ⟨_, rfl, ?_⟩)
        rw [if_pos h11, nI_clamp (by have := hc.1; have := hc.2.2; omega)]
        refine g_iret d_K_remark_68 ?_
        exact hN
      · refine g_tableIn (tgt := 69) d_K_remark_34 (by decide) (by decide) rfl (by decide) ?_
        rw [if_neg (by decide), if_pos rfl] at hN
        refine g_aload_nq d_K_remark_69 rfl 0 rfl ?_
        refine g_get d_K_remark_70 f_K_51_K (by assumption) (by first | rfl | assumption) ?_
        refine g_iload_n d_K_remark_73 rfl 1 rfl ?_
        refine g_callV d_K_remark_74 k_Rm_firstOf l_K_195 i_Rm_firstOf rfl q_Rm_Rm_firstOf_Rm r0 (by rfl) (by rfl) (Nat.le_of_ble_eq_true rfl) (by decide) (C_Rm_firstOf r0 r3 hc.1 (by have := hc.2.2; omega) ⟨_, rfl, ?_⟩)
        rw [if_pos h11, nI_clamp (by have := hc.1; have := hc.2.2; omega)]
        refine g_iret d_K_remark_77 ?_
        exact hN
      · refine g_tableIn (tgt := 78) d_K_remark_34 (by decide) (by decide) rfl (by decide) ?_
        rw [if_neg (by decide), if_neg (by decide), if_pos rfl] at hN
        refine g_aload_nq d_K_remark_78 rfl 0 rfl ?_
        refine g_get d_K_remark_79 f_K_36_K (by assumption) (by first | rfl | assumption) ?_
        refine g_aload_nq d_K_remark_82 rfl 0 rfl ?_
        refine g_get d_K_remark_83 f_K_51_K (by assumption) (by first | rfl | assumption) ?_
        refine g_iload_n d_K_remark_86 rfl 1 rfl ?_
        refine g_callV d_K_remark_87 k_Rm_keyOf l_K_198 i_Rm_keyOf rfl q_Rm_Rm_keyOf_Rm r0 (by rfl) (by rfl) (Nat.le_of_ble_eq_true rfl) (by decide) (C_Rm_keyOf r0 r1 hc.1 (by have := hc.2.2; omega) ⟨_, rfl, ?_⟩)
        rw [if_pos h11, nI_clamp (by have := hc.1; have := hc.2.2; omega)]
        refine g_callV d_K_remark_90 k_Wv_reasonFor l_K_201 i_Wv_reasonFor rfl q_Wv_Wv_reasonFor_Wv h4 (by rfl) (by rfl) (Nat.le_of_ble_eq_true rfl) (by decide) (C_Wv_reasonFor h4 h20 h21 h50 ⟨_, rfl, ?_⟩)
        refine g_iret d_K_remark_93 ?_
        exact hN
    · have hF := hI (fun z => h20x z.2)
      exact g_thr hK hT zl_28 (by decide +kernel) oa_I oc_I oi_I d_K_remark_23 d_K_remark_26 d_K_remark_27 d_K_remark_29 d_K_remark_32 (by decide +kernel) (by omega) (by omega) (by decide) hF

set_option maxHeartbeats 4000000 in
set_option maxRecDepth 100000 in
theorem C_K_closed {w : zC} {Z : zZ} {Q : zR → zZ → Prop} {ad : Nat → Nat} {S : ST} (hR : Rep w ad S Z) {adK adV : Nat → Nat} (hK : zLit w adK adV) (hT : zThr w) {x t : Int32} (hc : capOK S 0) (hb : 1 ≤ Z.2.2.1 ∧ 6 ≤ Z.2.2.2) (hI : ¬ (inr x (sN S 17) ∧ inr t 4) → Q (.inr "java/lang/IndexOutOfBoundsException") (zpay Z 1 6)) (hN : ∀ k, k < sN S 17 → x = nI k → inr t 4 → Q (.inl (some (.int (cldV S k t)))) Z) : Cz w (6, 140) y_K_closed (Cond.code y_K_closed c_K_closed 3 r_K_closed :: wz) [.ref (ad 0), .int x, .int t] Z Q := by
  refine Cz.of (by decide +kernel) (by simp [lg_sl, Value.category]) ?_
  show G _ _ _ _ _ _ _ _ [(0, _), (1, _), (2, _)] _ _
  have h0 : zhs Z (ad 0) (.inr (0, [.ref (ad 1), .ref (ad 3), .ref (ad 8), .ref (ad 9), .ref (ad 4), .ref (ad 5), .ref (ad 10), .ref (ad (5 + sN S 8)), .ref (ad (8 - sN S 8)), .int (nI (sN S 3)), .int (sI S 0 11)])) := hR.k 0 (by decide)
  have h5 : zhs Z (ad 5) (.inr (5, [.ref (ad 22), .ref (ad 23), .ref (ad 24), .int (nI (sN S 17))])) := hR.k 5 (by decide)
  have h22x : zhs Z (ad 22) (xi w (sN S 4) (sI S 22)) := hR.k 22 (by decide)
  have h24x : zhs Z (ad 24) (xi w (sN S 4) (sI S 24)) := hR.k 24 (by decide)
  refine g_iload_n d_K_closed_0 rfl 1 rfl ?_
  refine g_aload_nq d_K_closed_1 rfl 0 rfl ?_
  refine g_get d_K_closed_2 f_K_43_K (by assumption) (by first | rfl | assumption) ?_
  refine g_callV d_K_closed_5 k_Rm_count l_K_187 i_Rm_count rfl q_Rm_Rm_count_Rm h5 (by rfl) (by rfl) (Nat.le_of_ble_eq_true rfl) (by decide) (C_Rm_count h5 ⟨_, rfl, ?_⟩)
  refine g_callS d_K_closed_8 k_K_isBelow l_K_64 s_K_isBelow (by rfl) (by rfl) (Nat.le_of_ble_eq_true rfl) (by decide) (C_K_isBelow ⟨_, rfl, ?_⟩)
  first | refine g_if_eqB (tgt := 22) d_K_closed_11 (by decide) (fun h11 => ?_) (fun h11 => ?_) | refine g_if_eq (tgt := 22) d_K_closed_11 (by decide) (fun h11 => ?_) (fun h11 => ?_)
  · have hF := hI (fun z => h11 z.1)
    exact g_thr hK hT zl_29 (by decide +kernel) oa_I oc_I oi_I d_K_closed_22 d_K_closed_25 d_K_closed_26 d_K_closed_28 d_K_closed_31 (by decide +kernel) (by omega) (by omega) (by decide) hF
  · refine g_iload_n d_K_closed_14 rfl 2 rfl ?_
    refine g_iconst (v := 4) d_K_closed_15 rfl ?_
    refine g_callS d_K_closed_16 k_K_isBelow l_K_64 s_K_isBelow (by rfl) (by rfl) (Nat.le_of_ble_eq_true rfl) (by decide) (C_K_isBelow ⟨_, rfl, ?_⟩)
    first | refine g_if_neB (tgt := 32) d_K_closed_19 (by decide) (fun h19 => ?_) (fun h19 => ?_) | refine g_if_ne (tgt := 32) d_K_closed_19 (by decide) (fun h19 => ?_) (fun h19 => ?_)
    · have c2 : sN S 17 < 2 ^ 31 := by have c1 : sN S 17 ≤ sN S 4 := hc.1; have : sN S 4 ≤ 3720 := hc.2.2; omega
      obtain ⟨k, hk, rfl⟩ := bel h11 c2
      have hN := hN k hk rfl h19
      unfold cldV at hN
      refine g_iload_n d_K_closed_32 rfl 2 rfl ?_
      refine g_iconst (v := 3) d_K_closed_33 rfl ?_
      refine g_icmp_ne (tgt := 48) d_K_closed_34 (by decide) (fun h34 => ?_) (fun h34 => ?_)
      · rw [if_neg h34] at hN
        refine g_aload_nq d_K_closed_48 rfl 0 rfl ?_
        refine g_get d_K_closed_49 f_K_43_K (by assumption) (by first | rfl | assumption) ?_
        refine g_iload_n d_K_closed_52 rfl 1 rfl ?_
        refine g_callV d_K_closed_53 k_Rm_keyOf l_K_198 i_Rm_keyOf rfl q_Rm_Rm_keyOf_Rm h5 (by rfl) (by rfl) (Nat.le_of_ble_eq_true rfl) (by decide) (C_Rm_keyOf h5 h22x hc.1 (by have : sN S 4 ≤ 3720 := hc.2.2; show sN S 4 < 2 ^ 31; omega) ⟨_, rfl, ?_⟩)
        rw [if_pos h11, nI_clamp (by omega)]
        refine g_iload_n d_K_closed_56 rfl 2 rfl ?_
        refine g_callS d_K_closed_57 k_K_aboutKey l_K_204 s_K_aboutKey (by rfl) (by rfl) (Nat.le_of_ble_eq_true rfl) (by decide) (C_K_aboutKey ⟨_, rfl, ?_⟩)
        refine g_iret d_K_closed_60 ?_
        exact hN
      · rw [if_pos h34] at hN
        refine g_aload_nq d_K_closed_37 rfl 0 rfl ?_
        refine g_get d_K_closed_38 f_K_43_K (by assumption) (by first | rfl | assumption) ?_
        refine g_iload_n d_K_closed_41 rfl 1 rfl ?_
        refine g_callV d_K_closed_42 k_Rm_firstOf l_K_195 i_Rm_firstOf rfl q_Rm_Rm_firstOf_Rm h5 (by rfl) (by rfl) (Nat.le_of_ble_eq_true rfl) (by decide) (C_Rm_firstOf h5 h24x hc.1 (by have : sN S 4 ≤ 3720 := hc.2.2; show sN S 4 < 2 ^ 31; omega) ⟨_, rfl, ?_⟩)
        rw [if_pos h11, nI_clamp (by omega)]
        refine g_goto (tgt := 60) d_K_closed_45 (by decide) ?_
        refine g_iret d_K_closed_60 ?_
        exact hN
    · have hF := hI (fun z => h19 z.2)
      exact g_thr hK hT zl_29 (by decide +kernel) oa_I oc_I oi_I d_K_closed_22 d_K_closed_25 d_K_closed_26 d_K_closed_28 d_K_closed_31 (by decide +kernel) (by omega) (by omega) (by decide) hF

set_option maxHeartbeats 4000000 in
set_option maxRecDepth 100000 in
theorem C_K_waive {w : zC} {Z : zZ} {Q : zR → zZ → Prop} {ad : Nat → Nat} {S : ST} (hR : Rep w ad S Z) {adK adV : Nat → Nat} (hK : zLit w adK adV) (hT : zThr w) {r t x y : Int32} (hL : ciLive S) (h50 : sN S 16 ≤ 50) (hb : 1 ≤ Z.2.2.1 ∧ 6 ≤ Z.2.2.2) (hI : ¬ (inr r (7 + sN S 3) ∧ wOK S t x) → Q (.inr "java/lang/IndexOutOfBoundsException") (zpay Z 1 6)) (hA : inr r (7 + sN S 3) → wOK S t x → ¬ (y = -1 ∨ inr y 1000) → Q (.inr "java/lang/IllegalArgumentException") (zpay Z 1 6)) (hN : ∀ p c k, p < 7 + sN S 3 → tok S c k → r = nI p → t = nI c → x = nI k → (y = -1 ∨ inr y 1000) → tkQ w ad S Z Q (wvS S (plc S c k * 27 + nI p) y)) : Cz w (6, 140) y_K_waive (Cond.code y_K_waive c_K_waive 6 r_K_waive :: wz) [.ref (ad 0), .int r, .int t, .int x, .int y] Z Q := by
  refine Cz.of (by decide +kernel) (by simp [lg_sl, Value.category]) ?_
  show G _ _ _ _ _ _ _ _ [(0, _), (1, _), (2, _), (3, _), (4, _)] _ _
  have n0 := hR.1.1
  have n1 := hR.1.2.1
  have n2 := hR.1.2.2.1
  have h0 : zhs Z (ad 0) (.inr (0, [.ref (ad 1), .ref (ad 3), .ref (ad 8), .ref (ad 9), .ref (ad 4), .ref (ad 5), .ref (ad 10), .ref (ad (5 + sN S 8)), .ref (ad (8 - sN S 8)), .int (nI (sN S 3)), .int (sI S 0 11)])) := hR.k 0 (by decide)
  have h1 : zhs Z (ad 1) (.inr (1, [.ref (ad 11), .ref (ad 12), .ref (ad 13), .ref (ad 14), .ref (ad 15), .int (nI (sN S 0)), .int (nI (sN S 1)), .int (nI (sN S 2)), .int (nI (sN S 7))])) := hR.k 1 (by decide)
  have h4 : zhs Z (ad 4) (.inr (4, [.ref (ad 20), .ref (ad 21), .int (nI (sN S 16))])) := hR.k 4 (by decide)
  refine g_aload_nq d_K_waive_0 rfl 0 rfl ?_
  refine g_get d_K_waive_1 f_K_12_K (by assumption) (by first | rfl | assumption) ?_
  refine g_iload_n d_K_waive_4 rfl 2 rfl ?_
  refine g_iload_n d_K_waive_5 rfl 3 rfl ?_
  refine g_callV d_K_waive_6 k_Sc_thingOf l_K_209 i_Sc_thingOf rfl q_Sc_Sc_thingOf_Sc h1 (by rfl) (by rfl) (Nat.le_of_ble_eq_true rfl) (by decide) (C_Sc_thingOf hR ⟨_, rfl, ?_⟩)
  show G _ _ _ _ _ _ _ _ _ (va_rf (thA ad S t x) :: _) _
  refine g_astoreq d_K_waive_9 (by decide) rfl ?_
  show G _ _ _ _ _ _ _ _ [(5, _), (0, _), (1, _), (2, _), (3, _), (4, _)] _ _
  refine g_aload_nq d_K_waive_11 rfl 1 rfl ?_
  refine g_iload_n d_K_waive_12 rfl 2 rfl ?_
  refine g_callV d_K_waive_13 k_K_isRule l_K_164 i_K_isRule rfl p_K_isRule h0 (by rfl) (by rfl) (Nat.le_of_ble_eq_true rfl) (by decide) (C_K_isRule hR ⟨_, rfl, ?_⟩)
  first | refine g_if_eqB (tgt := 24) d_K_waive_16 (by decide) (fun h16 => ?_) (fun h16 => ?_) | refine g_if_eq (tgt := 24) d_K_waive_16 (by decide) (fun h16 => ?_) (fun h16 => ?_)
  · have hF := hI (fun z => h16 z.1)
    exact g_thr hK hT zl_30 (by decide +kernel) oa_I oc_I oi_I d_K_waive_24 d_K_waive_27 d_K_waive_28 d_K_waive_30 d_K_waive_33 (by decide +kernel) (by omega) (by omega) (by decide) hF
  · refine g_aloadq d_K_waive_19 0 rfl ?_
    refine g_ifnonnullq (tgt := 34) d_K_waive_21 (by decide) (fun q21 h21 => ?_) (fun h21 => ?_)
    · rw [h21]
      obtain ⟨c, k, hk, rfl, rfl, rfl⟩ := thA_some h21 n0 n1 n2
      have n3 := hR.1.2.2.2.1
      obtain ⟨p, hp, rfl⟩ := bel (n := 7 + sN S 3) h16 (by omega)
      refine g_iload d_K_waive_34 5 rfl ?_
      refine g_iconst (v := (-1)) d_K_waive_36 rfl ?_
      refine g_icmp_eq (tgt := 61) d_K_waive_37 (by decide) (fun h37 => ?_) (fun h37 => ?_)
      · have hy : y = -1 ∨ inr y 1000 := Or.inl h37
        refine g_aload_nq d_K_waive_61 rfl 1 rfl ?_
        refine g_get d_K_waive_62 f_K_36_K (by assumption) (by first | rfl | assumption) ?_
        refine g_aloadq d_K_waive_65 0 rfl ?_
        refine g_iload_n d_K_waive_67 rfl 2 rfl ?_
        refine V_keyWith hR hk d_K_waive_68 l_K_217 (Nat.le_of_ble_eq_true rfl) (by decide) ?_
        refine g_iload d_K_waive_71 5 rfl ?_
        refine g_callV d_K_waive_73 k_Wv_setReason l_K_222 i_Wv_setReason rfl q_Wv_Wv_setReason_Wv h4 (by rfl) (by rfl) (Nat.le_of_ble_eq_true rfl) (by decide) (A_setReason hR hL h50 (fun Z1 hR1 B1 => ⟨_, rfl, ?_⟩))
        refine g_zret d_K_waive_76 ?_ ?_
        · first | rfl | exact zb_nar _ | exact zb_narc (by assumption)
        · exact hN p c k hp hk rfl rfl rfl hy Z1 hR1 B1
      · refine g_iload d_K_waive_40 5 rfl ?_
        refine g_sipush (v := 1000) d_K_waive_42 rfl ?_
        refine g_callS d_K_waive_45 k_K_isBelow l_K_64 s_K_isBelow (by rfl) (by rfl) (Nat.le_of_ble_eq_true rfl) (by decide) (C_K_isBelow ⟨_, rfl, ?_⟩)
        first | refine g_if_neB (tgt := 61) d_K_waive_48 (by decide) (fun h48 => ?_) (fun h48 => ?_) | refine g_if_ne (tgt := 61) d_K_waive_48 (by decide) (fun h48 => ?_) (fun h48 => ?_)
        · have hy : y = -1 ∨ inr y 1000 := Or.inr h48
          refine g_aload_nq d_K_waive_61 rfl 1 rfl ?_
          refine g_get d_K_waive_62 f_K_36_K (by assumption) (by first | rfl | assumption) ?_
          refine g_aloadq d_K_waive_65 0 rfl ?_
          refine g_iload_n d_K_waive_67 rfl 2 rfl ?_
          refine V_keyWith hR hk d_K_waive_68 l_K_217 (Nat.le_of_ble_eq_true rfl) (by decide) ?_
          refine g_iload d_K_waive_71 5 rfl ?_
          refine g_callV d_K_waive_73 k_Wv_setReason l_K_222 i_Wv_setReason rfl q_Wv_Wv_setReason_Wv h4 (by rfl) (by rfl) (Nat.le_of_ble_eq_true rfl) (by decide) (A_setReason hR hL h50 (fun Z1 hR1 B1 => ⟨_, rfl, ?_⟩))
          refine g_zret d_K_waive_76 ?_ ?_
          · first | rfl | exact zb_nar _ | exact zb_narc (by assumption)
          · exact hN p c k hp hk rfl rfl rfl hy Z1 hR1 B1
        · have hF := hA (inr_nI hp (by omega)) ⟨c, k, hk, rfl, rfl⟩ (fun z => by rcases z with z | z; exact h37 z; exact h48 z)
          exact g_thr hK hT zl_31 (by decide +kernel) oa_A oc_A oi_A d_K_waive_51 d_K_waive_54 d_K_waive_55 d_K_waive_57 d_K_waive_60 (by decide +kernel) (by omega) (by omega) (by decide) hF
    · have hF := hI (fun z => thA_none h21 n0 n1 n2 z.2)
      exact g_thr hK hT zl_30 (by decide +kernel) oa_I oc_I oi_I d_K_waive_24 d_K_waive_27 d_K_waive_28 d_K_waive_30 d_K_waive_33 (by decide +kernel) (by omega) (by omega) (by decide) hF

set_option maxHeartbeats 4000000 in
set_option maxRecDepth 100000 in
theorem C_Rd_addLetter {w : zC} {Z : zZ} {Q : zR → zZ → Prop} {ad : Nat → Nat} {S : ST} (hR : Rep w ad S Z) {x : Int32} (hL : ciLive S) (h160 : sN S 9 ≤ 160) (hQ : if ltr x ∧ sN S 9 < 160 then (∀ Z', Rep w ad (wN (wI S 16 (upd (sI S 16) (sN S 9) x)) 9 (sN S 9 + 1)) Z' → Z'.2.2 = Z.2.2 → Q (.inl (some (.int 1))) Z') else Q (.inl (some (.int 0))) Z) : Cz w (1, 30) y_Rd_addLetter (Cond.code y_Rd_addLetter c_Rd_addLetter 2 r_Rd_addLetter :: wz) [.ref (ad 3), .int x] Z Q := by
  refine Cz.of (by decide +kernel) (by simp [lg_sl, Value.category]) ?_
  show G _ _ _ _ _ _ _ _ [(0, _), (1, _)] _ _
  have h3 : zhs Z (ad 3) (.inr (3, [.ref (ad 17), .ref (ad 18), .ref (ad 19), .ref (ad 2), .int (nI (sN S 12)), .int (nI (sN S 13)), .int (nI (sN S 14)), .int (sI S 3 7), .int (nI (sN S 15)), .int (sI S 3 9), .int (sI S 3 10), .int (sI S 3 11)])) := hR.k 3 (by decide)
  have h2 : zhs Z (ad 2) (.inr (2, [.ref (ad 16), .int (nI (sN S 9)), .int (nI (sN S 10)), .int (nI (sN S 11))])) := hR.k 2 (by decide)
  refine g_aload_nq d_Rd_addLetter_0 rfl 0 rfl ?_
  refine g_get d_Rd_addLetter_1 f_Rd_24_Rd (by assumption) (by first | rfl | assumption) ?_
  refine g_iload_n d_Rd_addLetter_4 rfl 1 rfl ?_
  refine g_callV d_Rd_addLetter_5 k_Tx_addLetter l_Rd_54 i_Tx_addLetter rfl q_Tx_Tx_addLetter_Tx h2 (by rfl) (by rfl) (Nat.le_of_ble_eq_true rfl) (by decide) (C_Tx_addLetter hR hL h160 ?_)
  split
  · rename_i h9
    rw [if_pos h9] at hQ
    exact fun Z1 r1 b1 => ⟨_, rfl, g_zret d_Rd_addLetter_8 rfl (hQ Z1 r1 b1)⟩
  · rename_i h9
    rw [if_neg h9] at hQ
    exact ⟨_, rfl, g_zret d_Rd_addLetter_8 rfl hQ⟩

set_option maxHeartbeats 4000000 in
set_option maxRecDepth 100000 in
theorem C_K_unit {w : zC} {Z : zZ} {Q : zR → zZ → Prop} {ad : Nat → Nat} {S : ST} (hR : Rep w ad S Z) {x : Int32} (hL : ciLive S) (h160 : sN S 9 ≤ 160) (hQ : if ltr x ∧ sN S 9 < 160 then (∀ Z', Rep w ad (wN (wI S 16 (upd (sI S 16) (sN S 9) x)) 9 (sN S 9 + 1)) Z' → Z'.2.2 = Z.2.2 → Q (.inl (some (.int 1))) Z') else Q (.inl (some (.int 0))) Z) : Cz w (2, 52) y_K_unit (Cond.code y_K_unit c_K_unit 2 r_K_unit :: wz) [.ref (ad 0), .int x] Z Q := by
  refine Cz.of (by decide +kernel) (by simp [lg_sl, Value.category]) ?_
  show G _ _ _ _ _ _ _ _ [(0, _), (1, _)] _ _
  have h0 : zhs Z (ad 0) (.inr (0, [.ref (ad 1), .ref (ad 3), .ref (ad 8), .ref (ad 9), .ref (ad 4), .ref (ad 5), .ref (ad 10), .ref (ad (5 + sN S 8)), .ref (ad (8 - sN S 8)), .int (nI (sN S 3)), .int (sI S 0 11)])) := hR.k 0 (by decide)
  have h3 : zhs Z (ad 3) (.inr (3, [.ref (ad 17), .ref (ad 18), .ref (ad 19), .ref (ad 2), .int (nI (sN S 12)), .int (nI (sN S 13)), .int (nI (sN S 14)), .int (sI S 3 7), .int (nI (sN S 15)), .int (sI S 3 9), .int (sI S 3 10), .int (sI S 3 11)])) := hR.k 3 (by decide)
  refine g_aload_nq d_K_unit_0 rfl 0 rfl ?_
  refine g_get d_K_unit_1 f_K_19_K (by assumption) (by first | rfl | assumption) ?_
  refine g_iload_n d_K_unit_4 rfl 1 rfl ?_
  refine g_callV d_K_unit_5 k_Rd_addLetter l_K_142 i_Rd_addLetter rfl q_Rd_Rd_addLetter_Rd h3 (by rfl) (by rfl) (Nat.le_of_ble_eq_true rfl) (by decide) (C_Rd_addLetter hR hL h160 ?_)
  split
  · rename_i h9
    rw [if_pos h9] at hQ
    exact fun Z1 r1 b1 => ⟨_, rfl, g_zret d_K_unit_8 rfl (hQ Z1 r1 b1)⟩
  · rename_i h9
    rw [if_neg h9] at hQ
    exact ⟨_, rfl, g_zret d_K_unit_8 rfl hQ⟩
