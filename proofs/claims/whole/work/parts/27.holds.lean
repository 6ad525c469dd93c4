/-! ToldRule.holdsFor: the codes worked out for a thing -/
def in10 (f : Nat → Int32) (x : Int32) : Int64 := (if ¬ x < 0 ∧ ¬ nI 10 ≤ x then f x.toNatClampNeg else 0).toInt64
def pv (S : ST) (k : Nat) (t x : Int32) : Int64 := if t = 15 then (sI S (100 + 3 * k) 3).toInt64 else if t = 18 then (sI S (100 + 3 * k) 0).toInt64 else if t = 19 then in10 (sI S (101 + 3 * k)) x else (if t = 14 then fAt S k x else 0)
def nv (S : ST) (k : Nat) (t x : Int32) : Int64 := if t = 15 then (sI S (220 + 2 * k) 3).toInt64 else if t = 18 then (sI S (220 + 2 * k) 0).toInt64 else if t = 19 then in10 (sI S (221 + 2 * k)) x else (if t = 17 then (sI S (220 + 2 * k) 4).toInt64 else 0)
/-- things: parts (0), nets (1), pins (2), by their numbers -/
def tv (S : ST) (c k : Nat) (t x : Int32) : Int64 := if c = 0 then pv S k t x else if c = 1 then nv S k t x else qv S k t x
def tid (c k : Nat) : Nat := if c = 0 then 100 + 3 * k else if c = 1 then 220 + 2 * k else 300 + k
def tok (S : ST) (c k : Nat) : Prop := (c = 0 ∧ k < sN S 0) ∨ (c = 1 ∧ k < sN S 1) ∨ (c = 2 ∧ k < sN S 2)
theorem tv_wJ {S : ST} {c k : Nat} {t x : Int32} {f : Nat → Int64} : tv (wJ S 10 f) c k t x = tv S c k t x := by
  have e : ∀ j, sJ (wJ S 10 f) (102 + 3 * j) = sJ S (102 + 3 * j) := fun j => va_up_ne _ _ (by omega)
  simp only [tv, pv, nv, qv, fAt, e]
  rfl
theorem wJ_wJ {S : ST} {i : Nat} {f g : Nat → Int64} : wJ (wJ S i f) i g = wJ S i g := by
  have h : va_up (va_up S.2.1 i f) i g = va_up S.2.1 i g := bx_uu _ _ _ _
  show (S.1, va_up (va_up S.2.1 i f) i g, S.2.2.1, S.2.2.2) = (S.1, va_up S.2.1 i g, S.2.2.1, S.2.2.2)
  rw [h]
theorem wJ_self {S : ST} {i : Nat} : wJ S i (sJ S i) = S := by
  have h : va_up S.2.1 i (sJ S i) = S.2.1 := by
    funext j
    by_cases hj : j = i
    · rw [hj, va_up_self]
    · rw [va_up_ne _ _ hj]
  show (S.1, va_up S.2.1 i (sJ S i), S.2.2.1, S.2.2.2) = S
  rw [h]
def stp (v : Int32 → Int32 → Int64) (c x : Int32) (h : Nat) (f : Nat → Int64) : Nat × (Nat → Int64) :=
  if c < 13 then (if c = 3 then (if h < 1 then (h, f) else (h, vp_updL f (h - 1) (tl (f (h - 1) = 0)))) else (if h < 2 then (h, f) else (h - 1, vp_updL f (h - 2) (wo c (f (h - 2)) (f (h - 1)))))) else (if h < 80 then (h + 1, vp_updL f h (if c = 13 then x.toInt64 else v c x)) else (h, f))
def evl (v : Int32 → Int32 → Int64) (cs xs : Nat → Int32) : Nat → Nat → Nat × (Nat → Int64) → Nat × (Nat → Int64)
  | 0, _, s => s
  | n + 1, i, s => evl v cs xs n (i + 1) (stp v (cs i) (xs i) s.1 s.2)
set_option maxHeartbeats 4000000 in
set_option maxRecDepth 100000 in
theorem V_valueOf {w : zC} {Z : zZ} {Post : zR → zZ → Prop} {ad : Nat → Nat} {S : ST} {c k : Nat} (hR : Rep w ad S Z) (hk : tok S c k) (hc : ciPin S) {t x : Int32} {lv : List (Nat × Value)} {st : List Value} (hsum : (st.map fun v => v.category).sum ≤ 8)
    (kk : G w y_Tr_holdsFor c_Tr_holdsFor 6 r_Tr_holdsFor (4, 86) Post 80 lv (.long (tv S c k t x) :: st) Z) : G w y_Tr_holdsFor c_Tr_holdsFor 6 r_Tr_holdsFor (4, 86) Post 77 lv (.int x :: .int t :: .ref (ad (tid c k)) :: st) Z := by
  rcases hk with ⟨rfl, hk⟩ | ⟨rfl, hk⟩ | ⟨rfl, hk⟩
  · have h0 : zhs Z (ad (100 + 3 * k)) (.inr (6, [.int (sI S (100 + 3 * k) 0), .int ((sI S (100 + 3 * k) 0 * 3 + 0) * 160 + nI k), .ref (ad (101 + 3 * k)), .int (sI S (100 + 3 * k) 3), .ref (ad (102 + 3 * k))])) := (hR.part hk).1
    show G _ _ _ _ _ _ _ _ _ (_ :: _ :: .ref (ad (100 + 3 * k)) :: _) _
    refine g_callU d_Tr_holdsFor_77 k_Ph_valueOf l_Tr_35 e_Th_Th_valueOf z_Th_valueOf (by decide +kernel) rfl i_Ph_valueOf rfl q_Pa_Th_valueOf_Ph h0 (by rfl) (by rfl) hsum (by decide) (C_Ph_valueOfP h0 (hR.part hk).2.1 (hR.part hk).2.2 ⟨_, rfl, kk⟩)
  · have h0 : zhs Z (ad (220 + 2 * k)) (.inr (7, [.int (sI S (220 + 2 * k) 0), .int ((sI S (220 + 2 * k) 0 * 3 + 1) * 160 + nI k), .ref (ad (221 + 2 * k)), .int (sI S (220 + 2 * k) 3), .int (sI S (220 + 2 * k) 4), .int (sI S (220 + 2 * k) 5)])) := (hR.net hk).1
    show G _ _ _ _ _ _ _ _ _ (_ :: _ :: .ref (ad (220 + 2 * k)) :: _) _
    refine g_callU d_Tr_holdsFor_77 k_Ph_valueOf l_Tr_35 e_Th_Th_valueOf z_Th_valueOf (by decide +kernel) rfl i_Ph_valueOf rfl q_Ne_Th_valueOf_Ph h0 (by rfl) (by rfl) hsum (by decide) (C_Ph_valueOfN h0 (hR.net hk).2 ⟨_, rfl, kk⟩)
  · have h0 : zhs Z (ad (300 + k)) (.inr (8, [.int (sI S (300 + k) 0), .int ((sI S (300 + k) 0 * 3 + 2) * 160 + nI k), .ref (ad (100 + 3 * sN S (2000 + k))), .int (sI S (300 + k) 3), va_rf ((sR S (300 + k) 4).map (fun n => ad (220 + 2 * n)))])) := hR.pin hk
    show G _ _ _ _ _ _ _ _ _ (_ :: _ :: .ref (ad (300 + k)) :: _) _
    refine g_callU d_Tr_holdsFor_77 k_Pi_valueOf l_Tr_35 e_Th_Th_valueOf z_Th_valueOf (by decide +kernel) rfl i_Pi_valueOf rfl q_Pi_Th_valueOf_Pi h0 (by rfl) (by rfl) hsum (by decide) (C_Pi_valueOf hR hk hc ⟨_, rfl, kk⟩)

set_option maxHeartbeats 4000000 in
set_option maxRecDepth 100000 in
theorem L_Tr_holdsFor {w : zC} {Q : zR → zZ → Prop} {ad : Nat → Nat} {S : ST} {B : Nat × Nat} {r c k : Nat} (hr : r < sN S 3) (ht : tok S c k) (hc : ciPin S) (hN : sN S (3000 + r) ≤ 80) (n : Nat) : ∀ i h f Z, i + n = sN S (3000 + r) → h ≤ 80 → Rep w ad (wJ S 10 f) Z → Z.2.2 = B → (∀ Z', Rep w ad (wJ S 10 (evl (tv S c k) (sI S (461 + 3 * r)) (sI S (462 + 3 * r)) n i (h, f)).2) Z' → Z'.2.2 = B → Q (.inl (some (.int (zb ((evl (tv S c k) (sI S (461 + 3 * r)) (sI S (462 + 3 * r)) n i (h, f)).1 = 1 ∧ ¬ (evl (tv S c k) (sI S (461 + 3 * r)) (sI S (462 + 3 * r)) n i (h, f)).2 0 = 0))))) Z') → G w y_Tr_holdsFor c_Tr_holdsFor 6 r_Tr_holdsFor (4, 86) Q 5 [(4, .int (nI i)), (3, .int (nI h)), (0, .ref (ad (460 + 3 * r))), (1, .ref (ad (tid c k))), (2, .ref (ad 10))] [] Z := by
  induction n with
  | zero =>
    intro i h f Z hi hh hR hB hQ
    have h0 : zhs Z (ad (460 + 3 * r)) (.inr (9, [.int (sI S (460 + 3 * r) 0), .int (sI S (460 + 3 * r) 1), .ref (ad (461 + 3 * r)), .ref (ad (462 + 3 * r))])) := (hR.rule hr).1
    have h1 : zhs Z (ad (461 + 3 * r)) (xi w (sN S (3000 + r)) (sI S (461 + 3 * r))) := (hR.rule hr).2.1
    have h2 : zhs Z (ad (462 + 3 * r)) (xi w (sN S (3000 + r)) (sI S (462 + 3 * r))) := (hR.rule hr).2.2
    have h3 : zhs Z (ad 10) (xl w 80 f) := by
      have h9 : zhs Z (ad 10) (xl w 80 (va_up S.2.1 10 f 10)) := hR.k 10 (by decide)
      rwa [va_up_self] at h9
    have hQ : Q (.inl (some (.int (zb (h = 1 ∧ ¬ f 0 = 0))))) Z := hQ Z hR hB
    refine g_iload d_Tr_holdsFor_5 0 rfl ?_
    refine g_aload_nq d_Tr_holdsFor_7 rfl 2 rfl ?_
    refine g_get d_Tr_holdsFor_8 f_Tr_18_Tr (by assumption) (by first | rfl | assumption) ?_
    refine g_alen d_Tr_holdsFor_11 0 (by assumption) rfl ?_
    refine g_icmp_ge (tgt := 156) d_Tr_holdsFor_12 (by decide) (fun h12 => ?_) (fun h12 => ?_)
    · refine g_iload_n d_Tr_holdsFor_156 rfl 1 rfl ?_
      refine g_iconst (v := 1) d_Tr_holdsFor_157 rfl ?_
      refine g_icmp_ne (tgt := 173) d_Tr_holdsFor_158 (by decide) (fun h158 => ?_) (fun h158 => ?_)
      · have h1n : ¬ h = 1 := fun z => h158 (by rw [z]; rfl)
        rw [zb_f (fun z => h1n z.1)] at hQ
        refine g_iconst (v := 0) d_Tr_holdsFor_173 rfl ?_
        refine g_zret d_Tr_holdsFor_174 ?_ ?_
        · first | rfl | exact zb_nar _ | exact zb_narc (by assumption)
        · exact hQ
      · have h1n : h = 1 := (nI_eq (by omega) (by decide)).mp h158
        refine g_aload_nq d_Tr_holdsFor_161 rfl 4 rfl ?_
        refine g_iconst (v := 0) d_Tr_holdsFor_162 rfl ?_
        refine g_lald d_Tr_holdsFor_163 (by assumption) (vp_in_nI (n := 0) (by decide) (by decide)) ?_
        rw [show (0 : Int32).toNatClampNeg = 0 from sb_cl0]
        refine g_lconst (v := 0) d_Tr_holdsFor_164 rfl ?_
        refine g_lcmp d_Tr_holdsFor_165 ?_
        first | refine g_if_eqB (tgt := 173) d_Tr_holdsFor_166 (by decide) (fun h166 => ?_) (fun h166 => ?_) | refine g_if_eq (tgt := 173) d_Tr_holdsFor_166 (by decide) (fun h166 => ?_) (fun h166 => ?_)
        · rw [lg_cmp_eq] at h166
          rw [zb_f (fun z => z.2 h166)] at hQ
          refine g_iconst (v := 0) d_Tr_holdsFor_173 rfl ?_
          refine g_zret d_Tr_holdsFor_174 ?_ ?_
          · first | rfl | exact zb_nar _ | exact zb_narc (by assumption)
          · exact hQ
        · rw [lg_cmp_eq] at h166
          rw [zb_t ⟨h1n, h166⟩] at hQ
          refine g_iconst (v := 1) d_Tr_holdsFor_169 rfl ?_
          refine g_goto (tgt := 174) d_Tr_holdsFor_170 (by decide) ?_
          refine g_zret d_Tr_holdsFor_174 ?_ ?_
          · first | rfl | exact zb_nar _ | exact zb_narc (by assumption)
          · exact hQ
    · exact absurd (nI_le (by omega) (by omega)) h12
  | succ n ih =>
    intro i h f Z hi hh hR hB hQ
    have h0 : zhs Z (ad (460 + 3 * r)) (.inr (9, [.int (sI S (460 + 3 * r) 0), .int (sI S (460 + 3 * r) 1), .ref (ad (461 + 3 * r)), .ref (ad (462 + 3 * r))])) := (hR.rule hr).1
    have h1 : zhs Z (ad (461 + 3 * r)) (xi w (sN S (3000 + r)) (sI S (461 + 3 * r))) := (hR.rule hr).2.1
    have h2 : zhs Z (ad (462 + 3 * r)) (xi w (sN S (3000 + r)) (sI S (462 + 3 * r))) := (hR.rule hr).2.2
    have h3 : zhs Z (ad 10) (xl w 80 f) := by
      have h9 : zhs Z (ad 10) (xl w 80 (va_up S.2.1 10 f 10)) := hR.k 10 (by decide)
      rwa [va_up_self] at h9
    have next : ∀ h' f' Z', stp (tv S c k) (sI S (461 + 3 * r) i) (sI S (462 + 3 * r) i) h f = (h', f') → h' ≤ 80 → Rep w ad (wJ S 10 f') Z' → Z'.2.2 = B → G w y_Tr_holdsFor c_Tr_holdsFor 6 r_Tr_holdsFor (4, 86) Q 150 [(4, .int (nI i)), (3, .int (nI h')), (0, .ref (ad (460 + 3 * r))), (1, .ref (ad (tid c k))), (2, .ref (ad 10))] [] Z' := by
      intro h' f' Z' hs hh' hR' hB'
      refine g_iinc (k := 0) d_Tr_holdsFor_150 rfl (nI_1 i) (by decide) rfl ?_
      refine g_goto (tgt := 5) d_Tr_holdsFor_153 (by decide) ?_
      exact ih (i + 1) h' f' Z' (by omega) hh' hR' hB' (by rw [evl, hs] at hQ; exact hQ)
    have wr : ∀ g x, Rep w ad (wJ S 10 (vp_updL f g x)) (zput Z (ad 10) (xl w 80 (vp_updL f g x))) := fun g x => by
      have h9 := hR.putJ (i := 10) (f := vp_updL f g x) (e := xl w 80 (vp_updL f g x)) (by simp [liveS]) (by rw [cell_K (by decide)]; exact congrArg (xl w 80) (va_up_self (va_up S.2.1 10 f) 10 (vp_updL f g x)))
      rwa [wJ_wJ] at h9
    refine g_iload d_Tr_holdsFor_5 0 rfl ?_
    refine g_aload_nq d_Tr_holdsFor_7 rfl 2 rfl ?_
    refine g_get d_Tr_holdsFor_8 f_Tr_18_Tr (by assumption) (by first | rfl | assumption) ?_
    refine g_alen d_Tr_holdsFor_11 0 (by assumption) rfl ?_
    refine g_icmp_ge (tgt := 156) d_Tr_holdsFor_12 (by decide) (fun h12 => ?_) (fun h12 => ?_)
    · exact absurd h12 (nI_ge (by omega) (by omega))
    · refine g_iload d_Tr_holdsFor_15 0 rfl ?_
      refine g_aload_nq d_Tr_holdsFor_17 rfl 2 rfl ?_
      refine g_get d_Tr_holdsFor_18 f_Tr_22_Tr (by assumption) (by first | rfl | assumption) ?_
      refine g_alen d_Tr_holdsFor_21 0 (by assumption) rfl ?_
      refine g_icmp_ge (tgt := 156) d_Tr_holdsFor_22 (by decide) (fun h22 => ?_) (fun h22 => ?_)
      · exact absurd h22 (nI_ge (by omega) (by omega))
      · refine g_aload_nq d_Tr_holdsFor_25 rfl 2 rfl ?_
        refine g_get d_Tr_holdsFor_26 f_Tr_18_Tr (by assumption) (by first | rfl | assumption) ?_
        refine g_iload d_Tr_holdsFor_29 0 rfl ?_
        refine g_iald d_Tr_holdsFor_31 (by assumption) (vp_in_nI (by omega) (by omega)) ?_
        rw [nI_clamp (by omega)]
        refine g_istore d_Tr_holdsFor_32 (by decide) rfl ?_
        show G _ _ _ _ _ _ _ _ [(5, _), (4, _), (3, _), (0, _), (1, _), (2, _)] _ _
        refine g_iload d_Tr_holdsFor_34 0 rfl ?_
        refine g_bipush (v := 13) d_Tr_holdsFor_36 rfl ?_
        refine g_icmp_lt (tgt := 87) d_Tr_holdsFor_38 (by decide) (fun h38 => ?_) (fun h38 => ?_)
        · refine g_iload d_Tr_holdsFor_87 0 rfl ?_
          refine g_iconst (v := 3) d_Tr_holdsFor_89 rfl ?_
          refine g_icmp_ne (tgt := 124) d_Tr_holdsFor_90 (by decide) (fun h90 => ?_) (fun h90 => ?_)
          · refine g_iload_n d_Tr_holdsFor_124 rfl 2 rfl ?_
            refine g_iconst (v := 2) d_Tr_holdsFor_125 rfl ?_
            refine g_icmp_lt (tgt := 150) d_Tr_holdsFor_126 (by decide) (fun h126 => ?_) (fun h126 => ?_)
            · have hl2 : h < 2 := (nI_ltI (by omega) (by decide)).mp h126
              refine g_sub [1, 2, 3, 4, 5] rfl (next _ _ _ (by unfold stp; rw [if_pos h38, if_neg h90, if_pos hl2]) hh hR hB)
            · have hl2 : ¬ h < 2 := fun z => h126 (nI_lt z (by decide))
              obtain ⟨g, rfl⟩ : ∃ g, h = g + 1 + 1 := ⟨h - 2, by omega⟩
              refine g_iinc (k := 2) d_Tr_holdsFor_129 rfl (show nI (g + 1 + 1) + Int32.ofInt (-1) = nI (g + 1) from pk_m1 (g + 1)) (by decide) rfl ?_
              show G _ _ _ _ _ _ _ _ [(3, _), (5, _), (4, _), (0, _), (1, _), (2, _)] _ _
              refine g_aload_nq d_Tr_holdsFor_132 rfl 5 rfl ?_
              refine g_iload_n d_Tr_holdsFor_133 rfl 0 rfl ?_
              refine g_iconst (v := 1) d_Tr_holdsFor_134 rfl ?_
              refine g_isub d_Tr_holdsFor_135 ?_
              rw [nI_pred]
              refine g_iload d_Tr_holdsFor_136 1 rfl ?_
              refine g_aload_nq d_Tr_holdsFor_138 rfl 5 rfl ?_
              refine g_iload_n d_Tr_holdsFor_139 rfl 0 rfl ?_
              refine g_iconst (v := 1) d_Tr_holdsFor_140 rfl ?_
              refine g_isub d_Tr_holdsFor_141 ?_
              rw [nI_pred]
              refine g_lald d_Tr_holdsFor_142 (by assumption) (vp_in_nI (by omega) (by decide)) ?_
              rw [nI_clamp (by omega)]
              refine g_aload_nq d_Tr_holdsFor_143 rfl 5 rfl ?_
              refine g_iload_n d_Tr_holdsFor_144 rfl 0 rfl ?_
              refine g_lald d_Tr_holdsFor_145 (by assumption) (vp_in_nI (by omega) (by decide)) ?_
              rw [nI_clamp (by omega)]
              refine g_callS d_Tr_holdsFor_146 k_Tr_workOut l_Tr_45 s_Tr_workOut (by rfl) (by rfl) (Nat.le_of_ble_eq_true rfl) (by decide) (C_Tr_workOut ⟨_, rfl, ?_⟩)
              refine g_last d_Tr_holdsFor_149 (by assumption) (vp_in_nI (by omega) (by decide)) ?_
              rw [nI_clamp (by omega)]
              refine g_sub [2, 0, 3, 4, 5] rfl (next _ _ _ (by unfold stp; rw [if_pos h38, if_neg h90, if_neg hl2]; rfl) (by omega) (wr _ _) hB)
          · refine g_iload_n d_Tr_holdsFor_93 rfl 2 rfl ?_
            refine g_iconst (v := 1) d_Tr_holdsFor_94 rfl ?_
            refine g_icmp_lt (tgt := 150) d_Tr_holdsFor_95 (by decide) (fun h95 => ?_) (fun h95 => ?_)
            · have hl1 : h < 1 := (nI_ltI (by omega) (by decide)).mp h95
              refine g_sub [1, 2, 3, 4, 5] rfl (next _ _ _ (by unfold stp; rw [if_pos h38, if_pos h90, if_pos hl1]) hh hR hB)
            · have hl1 : ¬ h < 1 := fun z => h95 (nI_lt z (by decide))
              obtain ⟨g, rfl⟩ : ∃ g, h = g + 1 := ⟨h - 1, by omega⟩
              refine g_aload_nq d_Tr_holdsFor_98 rfl 5 rfl ?_
              refine g_iload_n d_Tr_holdsFor_99 rfl 2 rfl ?_
              refine g_iconst (v := 1) d_Tr_holdsFor_100 rfl ?_
              refine g_isub d_Tr_holdsFor_101 ?_
              rw [nI_pred]
              refine g_aload_nq d_Tr_holdsFor_102 rfl 5 rfl ?_
              refine g_iload_n d_Tr_holdsFor_103 rfl 2 rfl ?_
              refine g_iconst (v := 1) d_Tr_holdsFor_104 rfl ?_
              refine g_isub d_Tr_holdsFor_105 ?_
              rw [nI_pred]
              refine g_lald d_Tr_holdsFor_106 (by assumption) (vp_in_nI (by omega) (by decide)) ?_
              rw [nI_clamp (by omega)]
              refine g_lconst (v := 0) d_Tr_holdsFor_107 rfl ?_
              refine g_lcmp d_Tr_holdsFor_108 ?_
              first | refine g_if_neB (tgt := 116) d_Tr_holdsFor_109 (by decide) (fun h109 => ?_) (fun h109 => ?_) | refine g_if_ne (tgt := 116) d_Tr_holdsFor_109 (by decide) (fun h109 => ?_) (fun h109 => ?_)
              · rw [lg_cmp_eq] at h109
                refine g_iconst (v := 0) d_Tr_holdsFor_116 rfl ?_
                refine g_callS d_Tr_holdsFor_117 k_Tr_truth l_Tr_41 s_Tr_truth (by rfl) (by rfl) (Nat.le_of_ble_eq_true rfl) (by decide) (C_Tr_truth ⟨_, rfl, ?_⟩)
                refine g_last d_Tr_holdsFor_120 (by assumption) (vp_in_nI (by omega) (by decide)) ?_
                rw [nI_clamp (by omega)]
                refine g_goto (tgt := 150) d_Tr_holdsFor_121 (by decide) ?_
                first | (rw [if_pos rfl]; refine g_sub [1, 2, 3, 4, 5] rfl (next _ _ _ (by unfold stp; rw [if_pos h38, if_pos h90, if_neg hl1, Nat.add_sub_cancel, tl_f h109]) hh (wr _ _) hB)) | (rw [if_neg (by decide)]; refine g_sub [1, 2, 3, 4, 5] rfl (next _ _ _ (by unfold stp; rw [if_pos h38, if_pos h90, if_neg hl1, Nat.add_sub_cancel, tl_t h109]) hh (wr _ _) hB))
              · rw [lg_cmp_eq] at h109
                refine g_iconst (v := 1) d_Tr_holdsFor_112 rfl ?_
                refine g_goto (tgt := 117) d_Tr_holdsFor_113 (by decide) ?_
                refine g_callS d_Tr_holdsFor_117 k_Tr_truth l_Tr_41 s_Tr_truth (by rfl) (by rfl) (Nat.le_of_ble_eq_true rfl) (by decide) (C_Tr_truth ⟨_, rfl, ?_⟩)
                refine g_last d_Tr_holdsFor_120 (by assumption) (vp_in_nI (by omega) (by decide)) ?_
                rw [nI_clamp (by omega)]
                refine g_goto (tgt := 150) d_Tr_holdsFor_121 (by decide) ?_
                first | (rw [if_pos rfl]; refine g_sub [1, 2, 3, 4, 5] rfl (next _ _ _ (by unfold stp; rw [if_pos h38, if_pos h90, if_neg hl1, Nat.add_sub_cancel, tl_f h109]) hh (wr _ _) hB)) | (rw [if_neg (by decide)]; refine g_sub [1, 2, 3, 4, 5] rfl (next _ _ _ (by unfold stp; rw [if_pos h38, if_pos h90, if_neg hl1, Nat.add_sub_cancel, tl_t h109]) hh (wr _ _) hB))
        · refine g_iload_n d_Tr_holdsFor_41 rfl 2 rfl ?_
          refine g_aload_nq d_Tr_holdsFor_42 rfl 5 rfl ?_
          refine g_alen d_Tr_holdsFor_43 1 (by assumption) rfl ?_
          refine g_icmp_ge (tgt := 150) d_Tr_holdsFor_44 (by decide) (fun h44 => ?_) (fun h44 => ?_)
          · have hge : ¬ h < 80 := fun z => nI_ge z (by decide) h44
            refine g_sub [1, 2, 3, 4, 5] rfl (next _ _ _ (by unfold stp; rw [if_neg h38, if_neg hge]) hh hR hB)
          · have hlt : h < 80 := Nat.not_le.mp (fun z => h44 (nI_le z (by omega)))
            refine g_aload_nq d_Tr_holdsFor_47 rfl 5 rfl ?_
            refine g_iload_n d_Tr_holdsFor_48 rfl 2 rfl ?_
            refine g_iload d_Tr_holdsFor_49 0 rfl ?_
            refine g_bipush (v := 13) d_Tr_holdsFor_51 rfl ?_
            refine g_icmp_ne (tgt := 67) d_Tr_holdsFor_53 (by decide) (fun h53 => ?_) (fun h53 => ?_)
            · refine g_aload_nq d_Tr_holdsFor_67 rfl 4 rfl ?_
              refine g_iload d_Tr_holdsFor_68 0 rfl ?_
              refine g_aload_nq d_Tr_holdsFor_70 rfl 3 rfl ?_
              refine g_get d_Tr_holdsFor_71 f_Tr_22_Tr (by assumption) (by first | rfl | assumption) ?_
              refine g_iload d_Tr_holdsFor_74 1 rfl ?_
              refine g_iald d_Tr_holdsFor_76 (by assumption) (vp_in_nI (by omega) (by omega)) ?_
              rw [nI_clamp (by omega)]
              refine V_valueOf hR ht hc (Nat.le_of_ble_eq_true rfl) ?_
              rw [tv_wJ]
              refine g_last d_Tr_holdsFor_80 (by assumption) (vp_in_nI hlt (by decide)) ?_
              rw [nI_clamp (by omega)]
              refine g_iinc (k := 2) d_Tr_holdsFor_81 rfl (nI_1 h) (by decide) rfl ?_
              refine g_goto (tgt := 150) d_Tr_holdsFor_84 (by decide) ?_
              refine g_sub [2, 0, 3, 4, 5] rfl (next _ _ _ (by unfold stp; rw [if_neg h38, if_pos hlt, if_neg h53]) (by omega) (wr _ _) hB)
            · refine g_aload_nq d_Tr_holdsFor_56 rfl 3 rfl ?_
              refine g_get d_Tr_holdsFor_57 f_Tr_22_Tr (by assumption) (by first | rfl | assumption) ?_
              refine g_iload d_Tr_holdsFor_60 1 rfl ?_
              refine g_iald d_Tr_holdsFor_62 (by assumption) (vp_in_nI (by omega) (by omega)) ?_
              rw [nI_clamp (by omega)]
              refine g_i2l d_Tr_holdsFor_63 rfl ?_
              refine g_goto (tgt := 80) d_Tr_holdsFor_64 (by decide) ?_
              refine g_last d_Tr_holdsFor_80 (by assumption) (vp_in_nI hlt (by decide)) ?_
              rw [nI_clamp (by omega)]
              refine g_iinc (k := 2) d_Tr_holdsFor_81 rfl (nI_1 h) (by decide) rfl ?_
              refine g_goto (tgt := 150) d_Tr_holdsFor_84 (by decide) ?_
              refine g_sub [2, 0, 3, 4, 5] rfl (next _ _ _ (by unfold stp; rw [if_neg h38, if_pos hlt, if_pos h53]) (by omega) (wr _ _) hB)

set_option maxHeartbeats 4000000 in
set_option maxRecDepth 100000 in
theorem C_Tr_holdsFor {w : zC} {Z : zZ} {Q : zR → zZ → Prop} {ad : Nat → Nat} {S : ST} (hR : Rep w ad S Z) {r c k : Nat} (hr : r < sN S 3) (ht : tok S c k) (hc : ciPin S) (hN : sN S (3000 + r) ≤ 80) (hQ : ∀ Z', Rep w ad (wJ S 10 (evl (tv S c k) (sI S (461 + 3 * r)) (sI S (462 + 3 * r)) (sN S (3000 + r)) 0 (0, sJ S 10)).2) Z' → Z'.2.2 = Z.2.2 → Q (.inl (some (.int (zb ((evl (tv S c k) (sI S (461 + 3 * r)) (sI S (462 + 3 * r)) (sN S (3000 + r)) 0 (0, sJ S 10)).1 = 1 ∧ ¬ (evl (tv S c k) (sI S (461 + 3 * r)) (sI S (462 + 3 * r)) (sN S (3000 + r)) 0 (0, sJ S 10)).2 0 = 0))))) Z') : Cz w (4, 86) y_Tr_holdsFor (Cond.code y_Tr_holdsFor c_Tr_holdsFor 6 r_Tr_holdsFor :: wz) [.ref (ad (460 + 3 * r)), .ref (ad (tid c k)), .ref (ad 10)] Z Q := by
  refine Cz.of (by decide +kernel) (by simp [lg_sl, Value.category]) ?_
  show G _ _ _ _ _ _ _ _ [(0, _), (1, _), (2, _)] _ _
  refine g_iconst (v := 0) d_Tr_holdsFor_0 rfl ?_
  refine g_istore_n d_Tr_holdsFor_1 rfl (by decide) rfl ?_
  show G _ _ _ _ _ _ _ _ [(3, _), (0, _), (1, _), (2, _)] _ _
  refine g_iconst (v := 0) d_Tr_holdsFor_2 rfl ?_
  refine g_istore d_Tr_holdsFor_3 (by decide) rfl ?_
  show G _ _ _ _ _ _ _ _ [(4, _), (3, _), (0, _), (1, _), (2, _)] _ _
  exact L_Tr_holdsFor hr ht hc hN _ 0 0 (sJ S 10) Z (by omega) (by omega) (by rw [wJ_self]; exact hR) rfl hQ
