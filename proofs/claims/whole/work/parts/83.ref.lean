/-! The reference: found -/
def fnB (S : ST) (r : Nat) (s : Int32) (k : Nat) : Int32 := if s = 2 then (if nI r = 0 then (if sI S 710 k = -1 ∧ ¬ sI S 711 k = 9 then 2 else 0) else if nI r = 1 then wvR S k k else 0) else if s = 0 then 0 else
  if r = 2 then (if nI (pcR S 1 (nI k) 1 (sN S 22)) ≤ 1 then 0 else 2) else if r = 3 then (if ¬ nI (pcR S 1 (nI k) 3 (sN S 22)) ≤ 0 ∧ nI (pcR S 1 (nI k) 4 (sN S 22)) = 0 then 2 else 0) else if r = 4 then (if nI (pcR S 1 (nI k) (-1) (sN S 22)) = 1 then 1 else 0)
  else if r = 5 then (if nbR S k k then 2 else 0) else if r = 6 then (if ogR S (nI k) (sN S 23) then 1 else 0) else 0
def tvR (S : ST) (j : Nat) (s : Int32) (k : Nat) : Int64 := match rpR S s k (sI S 721 j).toNatClampNeg (90 * j) [] with
  | some [v] => v
  | _ => 0
def fnR (S : ST) (r : Nat) (s : Int32) (k : Nat) : Int32 := if nI r < 7 then fnB S r s k else if sI S 719 (r - 7) = s ∧ ¬ tvR S (r - 7) s k = 0 then sI S 720 (r - 7) else 0
/-- the told rule j can be worked out for the thing -/
def rOK (S : ST) (j : Nat) (s : Int32) (k : Nat) : Prop := ∃ c v, c ≤ 90 ∧ sI S 721 j = nI c ∧ rpR S s k c (90 * j) [] = some [v]
theorem rOK.tv {S : ST} {j k : Nat} {s : Int32} {c : Nat} {v : Int64} (h1 : c ≤ 90) (h2 : sI S 721 j = nI c) (h3 : rpR S s k c (90 * j) [] = some [v]) : tvR S j s k = v := by
  unfold tvR
  rw [h2, nI_clamp (by omega), h3]
set_option maxHeartbeats 4000000 in
set_option maxRecDepth 100000 in
theorem C_Mo_found {w : zC} {Z : zZ} {Q : zR → zZ → Prop} {ad : Nat → Nat} {S : ST} (hR : Rep w ad S Z) (hI : mInv S) {s : Int32} {r k : Nat} (hr : r < 27) (hk : k < 160) (hs : s = 2 ∨ k < 40) (hw : 7 ≤ r → sI S 719 (r - 7) = s → rOK S (r - 7) s k) (hQ : ∀ Z' g, Rep w ad (wJ S 741 g) Z' → Z'.2.2 = Z.2.2 → Q (.inl (some (.int (fnR S r s k)))) Z') : Cz w (4, 110) y_Mo_found (Cond.code y_Mo_found c_Mo_found 4 r_Mo_found :: wz) [.ref (ad 600), .int (nI r), .int s, .int (nI k)] Z Q := by
  refine Cz.of (by decide +kernel) (by simp [lg_sl, Value.category]) ?_
  show G _ _ _ _ _ _ _ _ [(0, _), (1, _), (2, _), (3, _)] _ _
  have hm : zhs Z (ad 600) (.inr (10, [.int (sI S 600 0), .ref (ad 701), .int (nI (sN S 20)), .int (nI (sN S 21)), .int (nI (sN S 22)), .ref (ad 705), .ref (ad 706), .ref (ad 707), .ref (ad 708), .ref (ad 709), .ref (ad 710), .ref (ad 711), .int (nI (sN S 23)), .ref (ad 713), .ref (ad 714), .ref (ad 715), .ref (ad 716), .int (nI (sN S 24)), .int (nI (sN S 25)), .ref (ad 719), .ref (ad 720), .ref (ad 721), .ref (ad 722), .ref (ad 723), .ref (ad 724), .int (sI S 600 25), .ref (ad 726), .ref (ad 727), .ref (ad 728), .int (sI S 600 29), .int (nI (sN S 26)), .ref (ad 731), .ref (ad 732), .int (nI (sN S 27)), .int (nI (sN S 28)), .int (nI (sN S 29)), .int (nI (sN S 30)), .ref (ad 737), .int (nI (sN S 31)), .int (nI (sN S 32)), .int (sI S 600 40), .ref (ad 741)])) := hR.m
  have m710 : zhs Z (ad 710) (xi w 160 (sI S 710)) := hR.ma 710 (by decide)
  have m711 : zhs Z (ad 711) (xi w 160 (sI S 711)) := hR.ma 711 (by decide)
  have m719 : zhs Z (ad 719) (xi w 20 (sI S 719)) := hR.ma 719 (by decide)
  have m720 : zhs Z (ad 720) (xi w 20 (sI S 720)) := hR.ma 720 (by decide)
  have J : ∀ i j, mL i → mL j → i ≠ j → ad i ≠ ad j := fun i j hi hj hne => hR.inj (lvL hi) (lvL hj) hne
  obtain ⟨Z0, hZ0⟩ : ∃ Z0, Z0 = Z := ⟨_, rfl⟩
  have hB : Z.2.2 = Z0.2.2 := by rw [hZ0]
  refine g_iload_n d_Mo_found_0 rfl 1 rfl ?_
  refine g_bipush (v := 7) d_Mo_found_1 rfl ?_
  refine g_icmp_lt (tgt := 45) d_Mo_found_3 (by decide) (fun h3 => ?_) (fun h3 => ?_)
  · have hr7 : r < 7 := (nI_ltI (by omega) (by decide)).mp h3
    rw [fnR, if_pos h3] at hQ
    have hF := hQ Z (sJ S 741) (by rw [wJ_self]; exact hR) rfl
    unfold fnB at hF
    refine g_iload_n d_Mo_found_45 rfl 2 rfl ?_
    refine g_iconst (v := 2) d_Mo_found_46 rfl ?_
    refine g_icmp_ne (tgt := 98) d_Mo_found_47 (by decide) (fun h47 => ?_) (fun h47 => ?_)
    · rw [if_neg h47] at hF
      refine g_iload_n d_Mo_found_98 rfl 2 rfl ?_
      first | refine g_if_neB (tgt := 104) d_Mo_found_99 (by decide) (fun h99 => ?_) (fun h99 => ?_) | refine g_if_ne (tgt := 104) d_Mo_found_99 (by decide) (fun h99 => ?_) (fun h99 => ?_)
      · rw [if_neg h99] at hF
        have h40 : k < 40 := by rcases hs with rfl | hs; exact absurd rfl h47; exact hs
        rcases (show r = 0 ∨ r = 1 ∨ r = 2 ∨ r = 3 ∨ r = 4 ∨ r = 5 ∨ r = 6 by omega) with rfl | rfl | rfl | rfl | rfl | rfl | rfl
        · rw [if_neg (by decide), if_neg (by decide), if_neg (by decide), if_neg (by decide), if_neg (by decide)] at hF
          refine g_iload_n d_Mo_found_104 rfl 1 rfl ?_
          refine g_tableOut (tgt := 228) d_Mo_found_105 (by decide) (by decide) ?_
          refine g_iconst (v := 0) d_Mo_found_228 rfl ?_
          refine g_iret d_Mo_found_229 ?_
          exact hF
        · rw [if_neg (by decide), if_neg (by decide), if_neg (by decide), if_neg (by decide), if_neg (by decide)] at hF
          refine g_iload_n d_Mo_found_104 rfl 1 rfl ?_
          refine g_tableOut (tgt := 228) d_Mo_found_105 (by decide) (by decide) ?_
          refine g_iconst (v := 0) d_Mo_found_228 rfl ?_
          refine g_iret d_Mo_found_229 ?_
          exact hF
        · rw [if_pos rfl] at hF
          refine g_iload_n d_Mo_found_104 rfl 1 rfl ?_
          refine g_tableIn (tgt := 140) d_Mo_found_105 (by decide) (by decide) rfl (by decide) ?_
          refine g_aload_nq d_Mo_found_140 rfl 0 rfl ?_
          refine g_iconst (v := 1) d_Mo_found_141 rfl ?_
          refine g_iload_n d_Mo_found_142 rfl 3 rfl ?_
          refine g_iconst (v := 1) d_Mo_found_143 rfl ?_
          refine g_callV d_Mo_found_144 k_Mo_pinsOf l_Mo_220 i_Mo_pinsOf rfl p_Mo_pinsOf hm (by rfl) (by rfl) (Nat.le_of_ble_eq_true rfl) (by decide) (C_Mo_pinsOf hR hI ⟨_, rfl, ?_⟩)
          refine g_iconst (v := 1) d_Mo_found_147 rfl ?_
          refine g_icmp_le (tgt := 155) d_Mo_found_148 (by decide) (fun h148 => ?_) (fun h148 => ?_)
          · rw [if_pos h148] at hF
            refine g_iconst (v := 0) d_Mo_found_155 rfl ?_
            refine g_iret d_Mo_found_156 ?_
            exact hF
          · rw [if_neg h148] at hF
            refine g_iconst (v := 2) d_Mo_found_151 rfl ?_
            refine g_goto (tgt := 156) d_Mo_found_152 (by decide) ?_
            refine g_iret d_Mo_found_156 ?_
            exact hF
        · rw [if_neg (by decide), if_pos rfl] at hF
          refine g_iload_n d_Mo_found_104 rfl 1 rfl ?_
          refine g_tableIn (tgt := 157) d_Mo_found_105 (by decide) (by decide) rfl (by decide) ?_
          refine g_aload_nq d_Mo_found_157 rfl 0 rfl ?_
          refine g_iconst (v := 1) d_Mo_found_158 rfl ?_
          refine g_iload_n d_Mo_found_159 rfl 3 rfl ?_
          refine g_iconst (v := 3) d_Mo_found_160 rfl ?_
          refine g_callV d_Mo_found_161 k_Mo_pinsOf l_Mo_220 i_Mo_pinsOf rfl p_Mo_pinsOf hm (by rfl) (by rfl) (Nat.le_of_ble_eq_true rfl) (by decide) (C_Mo_pinsOf hR hI ⟨_, rfl, ?_⟩)
          refine g_if_le (tgt := 181) d_Mo_found_164 (by decide) (fun h164 => ?_) (fun h164 => ?_)
          · rw [if_neg (fun z => z.1 h164)] at hF
            refine g_iconst (v := 0) d_Mo_found_181 rfl ?_
            refine g_iret d_Mo_found_182 ?_
            exact hF
          · refine g_aload_nq d_Mo_found_167 rfl 0 rfl ?_
            refine g_iconst (v := 1) d_Mo_found_168 rfl ?_
            refine g_iload_n d_Mo_found_169 rfl 3 rfl ?_
            refine g_iconst (v := 4) d_Mo_found_170 rfl ?_
            refine g_callV d_Mo_found_171 k_Mo_pinsOf l_Mo_220 i_Mo_pinsOf rfl p_Mo_pinsOf hm (by rfl) (by rfl) (Nat.le_of_ble_eq_true rfl) (by decide) (C_Mo_pinsOf hR hI ⟨_, rfl, ?_⟩)
            first | refine g_if_neB (tgt := 181) d_Mo_found_174 (by decide) (fun h174 => ?_) (fun h174 => ?_) | refine g_if_ne (tgt := 181) d_Mo_found_174 (by decide) (fun h174 => ?_) (fun h174 => ?_)
            · rw [if_neg (fun z => h174 z.2)] at hF
              refine g_iconst (v := 0) d_Mo_found_181 rfl ?_
              refine g_iret d_Mo_found_182 ?_
              exact hF
            · rw [if_pos ⟨h164, h174⟩] at hF
              refine g_iconst (v := 2) d_Mo_found_177 rfl ?_
              refine g_goto (tgt := 182) d_Mo_found_178 (by decide) ?_
              refine g_iret d_Mo_found_182 ?_
              exact hF
        · rw [if_neg (by decide), if_neg (by decide), if_pos rfl] at hF
          refine g_iload_n d_Mo_found_104 rfl 1 rfl ?_
          refine g_tableIn (tgt := 183) d_Mo_found_105 (by decide) (by decide) rfl (by decide) ?_
          refine g_aload_nq d_Mo_found_183 rfl 0 rfl ?_
          refine g_iconst (v := 1) d_Mo_found_184 rfl ?_
          refine g_iload_n d_Mo_found_185 rfl 3 rfl ?_
          refine g_iconst (v := (-1)) d_Mo_found_186 rfl ?_
          refine g_callV d_Mo_found_187 k_Mo_pinsOf l_Mo_220 i_Mo_pinsOf rfl p_Mo_pinsOf hm (by rfl) (by rfl) (Nat.le_of_ble_eq_true rfl) (by decide) (C_Mo_pinsOf hR hI ⟨_, rfl, ?_⟩)
          refine g_iconst (v := 1) d_Mo_found_190 rfl ?_
          refine g_icmp_ne (tgt := 198) d_Mo_found_191 (by decide) (fun h191 => ?_) (fun h191 => ?_)
          · rw [if_neg h191] at hF
            refine g_iconst (v := 0) d_Mo_found_198 rfl ?_
            refine g_iret d_Mo_found_199 ?_
            exact hF
          · rw [if_pos h191] at hF
            refine g_iconst (v := 1) d_Mo_found_194 rfl ?_
            refine g_goto (tgt := 199) d_Mo_found_195 (by decide) ?_
            refine g_iret d_Mo_found_199 ?_
            exact hF
        · rw [if_neg (by decide), if_neg (by decide), if_neg (by decide), if_pos rfl] at hF
          refine g_iload_n d_Mo_found_104 rfl 1 rfl ?_
          refine g_tableIn (tgt := 200) d_Mo_found_105 (by decide) (by decide) rfl (by decide) ?_
          refine g_aload_nq d_Mo_found_200 rfl 0 rfl ?_
          refine g_iload_n d_Mo_found_201 rfl 3 rfl ?_
          refine g_callV d_Mo_found_202 k_Mo_isNamedBefore l_Mo_246 i_Mo_isNamedBefore rfl p_Mo_isNamedBefore hm (by rfl) (by rfl) (Nat.le_of_ble_eq_true rfl) (by decide) (C_Mo_isNamedBefore hR h40 ⟨_, rfl, ?_⟩)
          first | refine g_if_eqB (tgt := 212) d_Mo_found_205 (by decide) (fun h205 => ?_) (fun h205 => ?_) | refine g_if_eq (tgt := 212) d_Mo_found_205 (by decide) (fun h205 => ?_) (fun h205 => ?_)
          · rw [if_neg h205] at hF
            refine g_iconst (v := 0) d_Mo_found_212 rfl ?_
            refine g_iret d_Mo_found_213 ?_
            exact hF
          · rw [if_pos h205] at hF
            refine g_iconst (v := 2) d_Mo_found_208 rfl ?_
            refine g_goto (tgt := 213) d_Mo_found_209 (by decide) ?_
            refine g_iret d_Mo_found_213 ?_
            exact hF
        · rw [if_neg (by decide), if_neg (by decide), if_neg (by decide), if_neg (by decide), if_pos rfl] at hF
          refine g_iload_n d_Mo_found_104 rfl 1 rfl ?_
          refine g_tableIn (tgt := 214) d_Mo_found_105 (by decide) (by decide) rfl (by decide) ?_
          refine g_aload_nq d_Mo_found_214 rfl 0 rfl ?_
          refine g_iload_n d_Mo_found_215 rfl 3 rfl ?_
          refine g_callV d_Mo_found_216 k_Mo_isOffGrid l_Mo_249 i_Mo_isOffGrid rfl p_Mo_isOffGrid hm (by rfl) (by rfl) (Nat.le_of_ble_eq_true rfl) (by decide) (C_Mo_isOffGrid hR hI ⟨_, rfl, ?_⟩)
          first | refine g_if_eqB (tgt := 226) d_Mo_found_219 (by decide) (fun h219 => ?_) (fun h219 => ?_) | refine g_if_eq (tgt := 226) d_Mo_found_219 (by decide) (fun h219 => ?_) (fun h219 => ?_)
          · rw [if_neg h219] at hF
            refine g_iconst (v := 0) d_Mo_found_226 rfl ?_
            refine g_iret d_Mo_found_227 ?_
            exact hF
          · rw [if_pos h219] at hF
            refine g_iconst (v := 1) d_Mo_found_222 rfl ?_
            refine g_goto (tgt := 227) d_Mo_found_223 (by decide) ?_
            refine g_iret d_Mo_found_227 ?_
            exact hF
      · rw [if_pos h99] at hF
        refine g_iconst (v := 0) d_Mo_found_102 rfl ?_
        refine g_iret d_Mo_found_103 ?_
        exact hF
    · rw [if_pos h47] at hF
      refine g_iload_n d_Mo_found_50 rfl 1 rfl ?_
      first | refine g_if_neB (tgt := 83) d_Mo_found_51 (by decide) (fun h51 => ?_) (fun h51 => ?_) | refine g_if_ne (tgt := 83) d_Mo_found_51 (by decide) (fun h51 => ?_) (fun h51 => ?_)
      · rw [if_neg h51] at hF
        refine g_iload_n d_Mo_found_83 rfl 1 rfl ?_
        refine g_iconst (v := 1) d_Mo_found_84 rfl ?_
        refine g_icmp_ne (tgt := 96) d_Mo_found_85 (by decide) (fun h85 => ?_) (fun h85 => ?_)
        · rw [if_neg h85] at hF
          refine g_iconst (v := 0) d_Mo_found_96 rfl ?_
          refine g_iret d_Mo_found_97 ?_
          exact hF
        · rw [if_pos h85] at hF
          refine g_aload_nq d_Mo_found_88 rfl 0 rfl ?_
          refine g_iload_n d_Mo_found_89 rfl 3 rfl ?_
          refine g_callV d_Mo_found_90 k_Mo_worst l_Mo_243 i_Mo_worst rfl p_Mo_worst hm (by rfl) (by rfl) (Nat.le_of_ble_eq_true rfl) (by decide) (C_Mo_worst hR hI hk ⟨_, rfl, ?_⟩)
          refine g_goto (tgt := 97) d_Mo_found_93 (by decide) ?_
          refine g_iret d_Mo_found_97 ?_
          exact hF
      · rw [if_pos h51] at hF
        refine g_aload_nq d_Mo_found_54 rfl 0 rfl ?_
        refine g_get d_Mo_found_55 f_Mo_29_Mo (by assumption) (by first | rfl | assumption) ?_
        refine g_iload_n d_Mo_found_58 rfl 3 rfl ?_
        refine g_iald d_Mo_found_59 (by assumption) (vp_in_nI (n := k) (by omega) (by decide)) ?_
        rw [nI_clamp (by omega)]
        refine g_iconst (v := (-1)) d_Mo_found_60 rfl ?_
        refine g_icmp_ne (tgt := 79) d_Mo_found_61 (by decide) (fun h61 => ?_) (fun h61 => ?_)
        · rw [if_neg (fun z => h61 z.1)] at hF
          refine g_iconst (v := 0) d_Mo_found_79 rfl ?_
          refine g_goto (tgt := 97) d_Mo_found_80 (by decide) ?_
          refine g_iret d_Mo_found_97 ?_
          exact hF
        · refine g_aload_nq d_Mo_found_64 rfl 0 rfl ?_
          refine g_get d_Mo_found_65 f_Mo_32_Mo (by assumption) (by first | rfl | assumption) ?_
          refine g_iload_n d_Mo_found_68 rfl 3 rfl ?_
          refine g_iald d_Mo_found_69 (by assumption) (vp_in_nI (n := k) (by omega) (by decide)) ?_
          rw [nI_clamp (by omega)]
          refine g_bipush (v := 9) d_Mo_found_70 rfl ?_
          refine g_icmp_eq (tgt := 79) d_Mo_found_72 (by decide) (fun h72 => ?_) (fun h72 => ?_)
          · rw [if_neg (fun z => z.2 h72)] at hF
            refine g_iconst (v := 0) d_Mo_found_79 rfl ?_
            refine g_goto (tgt := 97) d_Mo_found_80 (by decide) ?_
            refine g_iret d_Mo_found_97 ?_
            exact hF
          · rw [if_pos ⟨h61, h72⟩] at hF
            refine g_iconst (v := 2) d_Mo_found_75 rfl ?_
            refine g_goto (tgt := 97) d_Mo_found_76 (by decide) ?_
            refine g_iret d_Mo_found_97 ?_
            exact hF
  · have hr7 : 7 ≤ r := Nat.not_lt.mp (fun z => h3 (nI_lt z (by decide)))
    rw [fnR, if_neg h3] at hQ
    refine g_aload_nq d_Mo_found_6 rfl 0 rfl ?_
    refine g_get d_Mo_found_7 f_Mo_47_Mo (by assumption) (by first | rfl | assumption) ?_
    refine g_iload_n d_Mo_found_10 rfl 1 rfl ?_
    refine g_bipush (v := 7) d_Mo_found_11 rfl ?_
    refine g_isub d_Mo_found_13 ?_
    rw [show (7 : Int32) = nI 7 from rfl, nI_sub (by omega)]
    refine g_iald d_Mo_found_14 (by assumption) (vp_in_nI (n := (r - 7)) (by omega) (by decide)) ?_
    rw [nI_clamp (by omega)]
    refine g_iload_n d_Mo_found_15 rfl 2 rfl ?_
    refine g_icmp_ne (tgt := 43) d_Mo_found_16 (by decide) (fun h16 => ?_) (fun h16 => ?_)
    · rw [if_neg (fun z => h16 z.1)] at hQ
      have hF := hQ Z (sJ S 741) (by rw [wJ_self]; exact hR) rfl
      refine g_iconst (v := 0) d_Mo_found_43 rfl ?_
      refine g_iret d_Mo_found_44 ?_
      exact hF
    · refine g_aload_nq d_Mo_found_19 rfl 0 rfl ?_
      refine g_iload_n d_Mo_found_20 rfl 1 rfl ?_
      refine g_bipush (v := 7) d_Mo_found_21 rfl ?_
      refine g_isub d_Mo_found_23 ?_
      rw [show (7 : Int32) = nI 7 from rfl, nI_sub (by omega)]
      refine g_iload_n d_Mo_found_24 rfl 3 rfl ?_
      obtain ⟨c, v, e1, e2, e3⟩ := hw hr7 h16
      refine g_callV d_Mo_found_25 k_Mo_holds l_Mo_239 i_Mo_holds rfl p_Mo_holds hm (by rfl) (by rfl) (Nat.le_of_ble_eq_true rfl) (by decide) (C_Mo_holds hR hI (by omega) e2 e1 h16 hk hs e3 (fun Z1 g r1 b1 => ⟨_, rfl, ?_⟩))
      rw [rOK.tv e1 e2 e3] at hQ
      have hm : zhs Z1 (ad 600) (.inr (10, [.int (sI S 600 0), .ref (ad 701), .int (nI (sN S 20)), .int (nI (sN S 21)), .int (nI (sN S 22)), .ref (ad 705), .ref (ad 706), .ref (ad 707), .ref (ad 708), .ref (ad 709), .ref (ad 710), .ref (ad 711), .int (nI (sN S 23)), .ref (ad 713), .ref (ad 714), .ref (ad 715), .ref (ad 716), .int (nI (sN S 24)), .int (nI (sN S 25)), .ref (ad 719), .ref (ad 720), .ref (ad 721), .ref (ad 722), .ref (ad 723), .ref (ad 724), .int (sI S 600 25), .ref (ad 726), .ref (ad 727), .ref (ad 728), .int (sI S 600 29), .int (nI (sN S 26)), .ref (ad 731), .ref (ad 732), .int (nI (sN S 27)), .int (nI (sN S 28)), .int (nI (sN S 29)), .int (nI (sN S 30)), .ref (ad 737), .int (nI (sN S 31)), .int (nI (sN S 32)), .int (sI S 600 40), .ref (ad 741)])) := r1.m
      have m720 : zhs Z1 (ad 720) (xi w 20 (sI S 720)) := r1.ma 720 (by decide)
      first | refine g_if_eqB (tgt := 43) d_Mo_found_28 (by decide) (fun h28 => ?_) (fun h28 => ?_) | refine g_if_eq (tgt := 43) d_Mo_found_28 (by decide) (fun h28 => ?_) (fun h28 => ?_)
      · rw [if_neg (fun z => h28 z.2)] at hQ
        have hF := hQ Z1 g r1 b1
        refine g_iconst (v := 0) d_Mo_found_43 rfl ?_
        refine g_iret d_Mo_found_44 ?_
        exact hF
      · rw [if_pos ⟨h16, h28⟩] at hQ
        have hF := hQ Z1 g r1 b1
        refine g_aload_nq d_Mo_found_31 rfl 0 rfl ?_
        refine g_get d_Mo_found_32 f_Mo_50_Mo (by assumption) (by first | rfl | assumption) ?_
        refine g_iload_n d_Mo_found_35 rfl 1 rfl ?_
        refine g_bipush (v := 7) d_Mo_found_36 rfl ?_
        refine g_isub d_Mo_found_38 ?_
        rw [show (7 : Int32) = nI 7 from rfl, nI_sub (by omega)]
        refine g_iald d_Mo_found_39 (by assumption) (vp_in_nI (n := (r - 7)) (by omega) (by decide)) ?_
        rw [nI_clamp (by omega)]
        refine g_goto (tgt := 44) d_Mo_found_40 (by decide) ?_
        refine g_iret d_Mo_found_44 ?_
        exact hF
