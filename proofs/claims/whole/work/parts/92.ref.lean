/-! The reference: terms and signs -/
def w6 (S : ST) (k : Nat) (x : Int32) : ST := wI S 600 (va_up (sI S 600) k x)
def mTm (S : ST) (s : Int32) : ST × Bool := if nuR S (sN S 28) then (mput S 0 (vaR S), true)
  else if nI (sN S 28 - sN S 27) = 2 ∧ sI S 716 (sN S 27) = 102 ∧ ¬ sI S 716 (sN S 27 + 1) ≤ 47 ∧ ¬ 56 ≤ sI S 716 (sN S 27 + 1) ∧ ¬ s = 1 then (mput S 1 (sI S 716 (sN S 27 + 1) - 48), true)
  else if spR S = wdR 112 105 110 115 0 ∧ ¬ s = 2 then (mput S 2 0, true) else if spR S = wdR 107 105 110 100 0 ∧ s = 2 then (mput S 3 0, true) else if spR S = wdR 110 97 109 101 0 ∧ ¬ s = 0 then (mput S 4 0, true)
  else if spR S = wdR 115 104 101 101 116 then (mput S 5 0, true) else if spR S = wdR 97 110 121 0 0 ∧ ¬ s = 2 then mDn S else (S, false)
def mRw (S : ST) (x : Int32) : ST := mwai (mrel (mrk x) (sN S 31) S) x
def mSg (S : ST) : ST × Bool := if ¬ sI S 600 40 = 5 ∧ ¬ sgR (spR S) < 10 ∧ ¬ 12 < sgR (spR S) then (w6 (mRw S (sgR (spR S))) 40 (sI (mRw S (sgR (spR S))) 600 40 - 1), true)
  else if sI S 600 40 = 2 then (if sgR (spR S) < 13 ∨ ¬ sgR (spR S) ≤ 18 then (S, false) else (w6 (mRw S (sgR (spR S))) 40 3, true))
  else if sgR (spR S) = 20 ∨ sgR (spR S) = 21 then (w6 (mRw S (sgR (spR S))) 40 0, true)
  else if spR S = 41 ∧ ¬ nI (sN S 32) = 0 then (w6 (wN (wN (mrel 1 (sN S 31) S) 31 (sN (mrel 1 (sN S 31) S) 31 - 1)) 32 (sN (mrel 1 (sN S 31) S) 32 - 1)) 40 5, true) else (S, false)
theorem mrel_31 {x : Int32} : ∀ n S, sN S 31 = n → sN (mrel x n S) 31 ≤ n
  | 0, S, h => Nat.le_of_eq h
  | n + 1, S, h => by
    unfold mrel
    split
    · omega
    · have := mrel_31 (x := x) n (mput (wN S 31 n) (sI S 737 n) 0) (show sN (wN S 31 n) 31 = n from wN_self); omega
theorem mrel_R {x : Int32} : ∀ n S, (mrel x n S).2.2.1 = S.2.2.1 ∧ ∀ m, m ≠ 31 → sN (mrel x n S) m = sN S m
  | 0, S => ⟨rfl, fun _ _ => rfl⟩
  | n + 1, S => by
    unfold mrel
    split
    · exact ⟨rfl, fun _ _ => rfl⟩
    · obtain ⟨a, b⟩ := mrel_R (x := x) n (mput (wN S 31 n) (sI S 737 n) 0)
      exact ⟨a, fun m hm => (b m hm).trans (wN_ne hm)⟩
theorem ciLive.rel {S : ST} {x : Int32} {n : Nat} (h : ciLive S) : ciLive (mrel x n S) := h.same' (mrel_R n S).1 (fun m hm => (mrel_R n S).2 m (by omega))
set_option maxHeartbeats 4000000 in
set_option maxRecDepth 100000 in
theorem C_Mo_isTerm {w : zC} {Z : zZ} {Q : zR → zZ → Prop} {ad : Nat → Nat} {S : ST} (hR : Rep w ad S Z) (hL : ciLive S) {s : Int32} (hw : mW S) (hq : mQ S) (hQ : mkQ w ad Z Q (mTm S s)) : Cz w (2, 52) y_Mo_isTerm (Cond.code y_Mo_isTerm c_Mo_isTerm 4 r_Mo_isTerm :: wz) [.ref (ad 600), .int s] Z Q := by
  refine Cz.of (by decide +kernel) (by simp [lg_sl, Value.category]) ?_
  show G _ _ _ _ _ _ _ _ [(0, _), (1, _)] _ _
  have hm : zhs Z (ad 600) (.inr (10, [.int (sI S 600 0), .ref (ad 701), .int (nI (sN S 20)), .int (nI (sN S 21)), .int (nI (sN S 22)), .ref (ad 705), .ref (ad 706), .ref (ad 707), .ref (ad 708), .ref (ad 709), .ref (ad 710), .ref (ad 711), .int (nI (sN S 23)), .ref (ad 713), .ref (ad 714), .ref (ad 715), .ref (ad 716), .int (nI (sN S 24)), .int (nI (sN S 25)), .ref (ad 719), .ref (ad 720), .ref (ad 721), .ref (ad 722), .ref (ad 723), .ref (ad 724), .int (sI S 600 25), .ref (ad 726), .ref (ad 727), .ref (ad 728), .int (sI S 600 29), .int (nI (sN S 26)), .ref (ad 731), .ref (ad 732), .int (nI (sN S 27)), .int (nI (sN S 28)), .int (nI (sN S 29)), .int (nI (sN S 30)), .ref (ad 737), .int (nI (sN S 31)), .int (nI (sN S 32)), .int (sI S 600 40), .ref (ad 741)])) := hR.m
  have m716 : zhs Z (ad 716) (xi w 160 (sI S 716)) := hR.ma 716 (by decide)
  refine g_aload_nq d_Mo_isTerm_0 rfl 0 rfl ?_
  refine g_callV d_Mo_isTerm_1 k_Mo_spelt l_Mo_145 i_Mo_spelt rfl p_Mo_spelt hm (by rfl) (by rfl) (Nat.le_of_ble_eq_true rfl) (by decide) (C_Mo_spelt hR hw.2.1 (Nat.le_trans hw.2.2 hw.1) ⟨_, rfl, ?_⟩)
  refine g_lstore_n d_Mo_isTerm_4 rfl (by decide) rfl ?_
  show G _ _ _ _ _ _ _ _ [(2, _), (0, _), (1, _)] _ _
  refine g_aload_nq d_Mo_isTerm_5 rfl 1 rfl ?_
  refine g_callV d_Mo_isTerm_6 k_Mo_isNumber l_Mo_149 i_Mo_isNumber rfl p_Mo_isNumber hm (by rfl) (by rfl) (Nat.le_of_ble_eq_true rfl) (by decide) (C_Mo_isNumber hR hw.2.1 (Nat.le_trans hw.2.2 hw.1) ⟨_, rfl, ?_⟩)
  first | refine g_if_eqB (tgt := 24) d_Mo_isTerm_9 (by decide) (fun h9 => ?_) (fun h9 => ?_) | refine g_if_eq (tgt := 24) d_Mo_isTerm_9 (by decide) (fun h9 => ?_) (fun h9 => ?_)
  · rw [mTm, if_neg h9] at hQ
    refine g_aload_nq d_Mo_isTerm_24 rfl 1 rfl ?_
    refine g_get d_Mo_isTerm_25 f_Mo_122_Mo (by assumption) (by first | rfl | assumption) ?_
    refine g_aload_nq d_Mo_isTerm_28 rfl 1 rfl ?_
    refine g_get d_Mo_isTerm_29 f_Mo_125_Mo (by assumption) (by first | rfl | assumption) ?_
    refine g_isub d_Mo_isTerm_32 ?_
    rw [nI_sub hw.2.1]
    refine g_iconst (v := 2) d_Mo_isTerm_33 rfl ?_
    refine g_icmp_ne (tgt := 110) d_Mo_isTerm_34 (by decide) (fun h34 => ?_) (fun h34 => ?_)
    · rw [if_neg (fun z => h34 z.1)] at hQ
      refine g_lload_n d_Mo_isTerm_110 rfl 0 rfl ?_
      refine g_bipush (v := 112) d_Mo_isTerm_111 rfl ?_
      refine g_bipush (v := 105) d_Mo_isTerm_113 rfl ?_
      refine g_bipush (v := 110) d_Mo_isTerm_115 rfl ?_
      refine g_bipush (v := 115) d_Mo_isTerm_117 rfl ?_
      refine g_iconst (v := 0) d_Mo_isTerm_119 rfl ?_
      refine g_callS d_Mo_isTerm_120 k_Mo_word l_Mo_157 s_Mo_word (by rfl) (by rfl) (Nat.le_of_ble_eq_true rfl) (by decide) (C_Mo_word ⟨_, rfl, ?_⟩)
      refine g_lcmp d_Mo_isTerm_123 ?_
      refine g_if_ne (tgt := 141) d_Mo_isTerm_124 (by decide) (fun h124 => ?_) (fun h124 => ?_)
      · rw [lg_cmp_eq] at h124
        rw [if_neg (fun z => h124 z.1)] at hQ
        refine g_lload_n d_Mo_isTerm_141 rfl 0 rfl ?_
        refine g_bipush (v := 107) d_Mo_isTerm_142 rfl ?_
        refine g_bipush (v := 105) d_Mo_isTerm_144 rfl ?_
        refine g_bipush (v := 110) d_Mo_isTerm_146 rfl ?_
        refine g_bipush (v := 100) d_Mo_isTerm_148 rfl ?_
        refine g_iconst (v := 0) d_Mo_isTerm_150 rfl ?_
        refine g_callS d_Mo_isTerm_151 k_Mo_word l_Mo_157 s_Mo_word (by rfl) (by rfl) (Nat.le_of_ble_eq_true rfl) (by decide) (C_Mo_word ⟨_, rfl, ?_⟩)
        refine g_lcmp d_Mo_isTerm_154 ?_
        refine g_if_ne (tgt := 172) d_Mo_isTerm_155 (by decide) (fun h155 => ?_) (fun h155 => ?_)
        · rw [lg_cmp_eq] at h155
          rw [if_neg (fun z => h155 z.1)] at hQ
          refine g_lload_n d_Mo_isTerm_172 rfl 0 rfl ?_
          refine g_bipush (v := 110) d_Mo_isTerm_173 rfl ?_
          refine g_bipush (v := 97) d_Mo_isTerm_175 rfl ?_
          refine g_bipush (v := 109) d_Mo_isTerm_177 rfl ?_
          refine g_bipush (v := 101) d_Mo_isTerm_179 rfl ?_
          refine g_iconst (v := 0) d_Mo_isTerm_181 rfl ?_
          refine g_callS d_Mo_isTerm_182 k_Mo_word l_Mo_157 s_Mo_word (by rfl) (by rfl) (Nat.le_of_ble_eq_true rfl) (by decide) (C_Mo_word ⟨_, rfl, ?_⟩)
          refine g_lcmp d_Mo_isTerm_185 ?_
          refine g_if_ne (tgt := 202) d_Mo_isTerm_186 (by decide) (fun h186 => ?_) (fun h186 => ?_)
          · rw [lg_cmp_eq] at h186
            rw [if_neg (fun z => h186 z.1)] at hQ
            refine g_lload_n d_Mo_isTerm_202 rfl 0 rfl ?_
            refine g_bipush (v := 115) d_Mo_isTerm_203 rfl ?_
            refine g_bipush (v := 104) d_Mo_isTerm_205 rfl ?_
            refine g_bipush (v := 101) d_Mo_isTerm_207 rfl ?_
            refine g_bipush (v := 101) d_Mo_isTerm_209 rfl ?_
            refine g_bipush (v := 116) d_Mo_isTerm_211 rfl ?_
            refine g_callS d_Mo_isTerm_213 k_Mo_word l_Mo_157 s_Mo_word (by rfl) (by rfl) (Nat.le_of_ble_eq_true rfl) (by decide) (C_Mo_word ⟨_, rfl, ?_⟩)
            refine g_lcmp d_Mo_isTerm_216 ?_
            refine g_if_ne (tgt := 229) d_Mo_isTerm_217 (by decide) (fun h217 => ?_) (fun h217 => ?_)
            · rw [lg_cmp_eq] at h217
              rw [if_neg (h217)] at hQ
              refine g_lload_n d_Mo_isTerm_229 rfl 0 rfl ?_
              refine g_bipush (v := 97) d_Mo_isTerm_230 rfl ?_
              refine g_bipush (v := 110) d_Mo_isTerm_232 rfl ?_
              refine g_bipush (v := 121) d_Mo_isTerm_234 rfl ?_
              refine g_iconst (v := 0) d_Mo_isTerm_236 rfl ?_
              refine g_iconst (v := 0) d_Mo_isTerm_237 rfl ?_
              refine g_callS d_Mo_isTerm_238 k_Mo_word l_Mo_157 s_Mo_word (by rfl) (by rfl) (Nat.le_of_ble_eq_true rfl) (by decide) (C_Mo_word ⟨_, rfl, ?_⟩)
              refine g_lcmp d_Mo_isTerm_241 ?_
              refine g_if_ne (tgt := 261) d_Mo_isTerm_242 (by decide) (fun h242 => ?_) (fun h242 => ?_)
              · rw [lg_cmp_eq] at h242
                rw [if_neg (fun z => h242 z.1)] at hQ
                have hF := hQ Z hR rfl
                refine g_iconst (v := 0) d_Mo_isTerm_261 rfl ?_
                refine g_zret d_Mo_isTerm_262 ?_ ?_
                · first | rfl | exact zb_nar _ | exact zb_narc (by assumption)
                · exact hF
              · rw [lg_cmp_eq] at h242
                refine g_iload_n d_Mo_isTerm_245 rfl 2 rfl ?_
                refine g_iconst (v := 2) d_Mo_isTerm_246 rfl ?_
                refine g_icmp_eq (tgt := 261) d_Mo_isTerm_247 (by decide) (fun h247 => ?_) (fun h247 => ?_)
                · rw [if_neg (fun z => z.2 h247)] at hQ
                  have hF := hQ Z hR rfl
                  refine g_iconst (v := 0) d_Mo_isTerm_261 rfl ?_
                  refine g_zret d_Mo_isTerm_262 ?_ ?_
                  · first | rfl | exact zb_nar _ | exact zb_narc (by assumption)
                  · exact hF
                · rw [if_pos ⟨h242, h247⟩] at hQ
                  refine g_aload_nq d_Mo_isTerm_250 rfl 1 rfl ?_
                  refine g_callV d_Mo_isTerm_251 k_Mo_isDigitNext l_Mo_161 i_Mo_isDigitNext rfl p_Mo_isDigitNext hm (by rfl) (by rfl) (Nat.le_of_ble_eq_true rfl) (by decide) (C_Mo_isDigitNext hR hL hw.1 hw.2.2 hq (fun Z1 hR1 B1 => ⟨_, rfl, ?_⟩))
                  first | refine g_if_eqB (tgt := 261) d_Mo_isTerm_254 (by decide) (fun h254 => ?_) (fun h254 => ?_) | refine g_if_eq (tgt := 261) d_Mo_isTerm_254 (by decide) (fun h254 => ?_) (fun h254 => ?_)
                  · have hF := hQ Z1 hR1 B1
                    rw [zb_f h254] at hF
                    refine g_iconst (v := 0) d_Mo_isTerm_261 rfl ?_
                    refine g_zret d_Mo_isTerm_262 ?_ ?_
                    · first | rfl | exact zb_nar _ | exact zb_narc (by assumption)
                    · exact hF
                  · have hF := hQ Z1 hR1 B1
                    rw [zb_t h254] at hF
                    refine g_iconst (v := 1) d_Mo_isTerm_257 rfl ?_
                    refine g_goto (tgt := 262) d_Mo_isTerm_258 (by decide) ?_
                    refine g_zret d_Mo_isTerm_262 ?_ ?_
                    · first | rfl | exact zb_nar _ | exact zb_narc (by assumption)
                    · exact hF
            · rw [lg_cmp_eq] at h217
              rw [if_pos h217] at hQ
              refine g_aload_nq d_Mo_isTerm_220 rfl 1 rfl ?_
              refine g_iconst (v := 5) d_Mo_isTerm_221 rfl ?_
              refine g_iconst (v := 0) d_Mo_isTerm_222 rfl ?_
              refine g_callV d_Mo_isTerm_223 k_Mo_put l_Mo_141 i_Mo_put rfl p_Mo_put hm (by rfl) (by rfl) (Nat.le_of_ble_eq_true rfl) (by decide) (C_Mo_put hR hq.1 (by have := hq.2.1; omega) hq.2.2 (fun Z1 hR1 B1 => ⟨_, rfl, ?_⟩))
              refine g_goto (tgt := 263) d_Mo_isTerm_226 (by decide) ?_
              refine g_iconst (v := 1) d_Mo_isTerm_263 rfl ?_
              refine g_zret d_Mo_isTerm_264 ?_ ?_
              · first | rfl | exact zb_nar _ | exact zb_narc (by assumption)
              · exact hQ Z1 hR1 B1
          · rw [lg_cmp_eq] at h186
            refine g_iload_n d_Mo_isTerm_189 rfl 2 rfl ?_
            first | refine g_if_eqB (tgt := 202) d_Mo_isTerm_190 (by decide) (fun h190 => ?_) (fun h190 => ?_) | refine g_if_eq (tgt := 202) d_Mo_isTerm_190 (by decide) (fun h190 => ?_) (fun h190 => ?_)
            · rw [if_neg (fun z => z.2 h190)] at hQ
              refine g_lload_n d_Mo_isTerm_202 rfl 0 rfl ?_
              refine g_bipush (v := 115) d_Mo_isTerm_203 rfl ?_
              refine g_bipush (v := 104) d_Mo_isTerm_205 rfl ?_
              refine g_bipush (v := 101) d_Mo_isTerm_207 rfl ?_
              refine g_bipush (v := 101) d_Mo_isTerm_209 rfl ?_
              refine g_bipush (v := 116) d_Mo_isTerm_211 rfl ?_
              refine g_callS d_Mo_isTerm_213 k_Mo_word l_Mo_157 s_Mo_word (by rfl) (by rfl) (Nat.le_of_ble_eq_true rfl) (by decide) (C_Mo_word ⟨_, rfl, ?_⟩)
              refine g_lcmp d_Mo_isTerm_216 ?_
              refine g_if_ne (tgt := 229) d_Mo_isTerm_217 (by decide) (fun h217 => ?_) (fun h217 => ?_)
              · rw [lg_cmp_eq] at h217
                rw [if_neg (h217)] at hQ
                refine g_lload_n d_Mo_isTerm_229 rfl 0 rfl ?_
                refine g_bipush (v := 97) d_Mo_isTerm_230 rfl ?_
                refine g_bipush (v := 110) d_Mo_isTerm_232 rfl ?_
                refine g_bipush (v := 121) d_Mo_isTerm_234 rfl ?_
                refine g_iconst (v := 0) d_Mo_isTerm_236 rfl ?_
                refine g_iconst (v := 0) d_Mo_isTerm_237 rfl ?_
                refine g_callS d_Mo_isTerm_238 k_Mo_word l_Mo_157 s_Mo_word (by rfl) (by rfl) (Nat.le_of_ble_eq_true rfl) (by decide) (C_Mo_word ⟨_, rfl, ?_⟩)
                refine g_lcmp d_Mo_isTerm_241 ?_
                refine g_if_ne (tgt := 261) d_Mo_isTerm_242 (by decide) (fun h242 => ?_) (fun h242 => ?_)
                · rw [lg_cmp_eq] at h242
                  rw [if_neg (fun z => h242 z.1)] at hQ
                  have hF := hQ Z hR rfl
                  refine g_iconst (v := 0) d_Mo_isTerm_261 rfl ?_
                  refine g_zret d_Mo_isTerm_262 ?_ ?_
                  · first | rfl | exact zb_nar _ | exact zb_narc (by assumption)
                  · exact hF
                · rw [lg_cmp_eq] at h242
                  refine g_iload_n d_Mo_isTerm_245 rfl 2 rfl ?_
                  refine g_iconst (v := 2) d_Mo_isTerm_246 rfl ?_
                  refine g_icmp_eq (tgt := 261) d_Mo_isTerm_247 (by decide) (fun h247 => ?_) (fun h247 => ?_)
                  · rw [if_neg (fun z => z.2 h247)] at hQ
                    have hF := hQ Z hR rfl
                    refine g_iconst (v := 0) d_Mo_isTerm_261 rfl ?_
                    refine g_zret d_Mo_isTerm_262 ?_ ?_
                    · first | rfl | exact zb_nar _ | exact zb_narc (by assumption)
                    · exact hF
                  · rw [if_pos ⟨h242, h247⟩] at hQ
                    refine g_aload_nq d_Mo_isTerm_250 rfl 1 rfl ?_
                    refine g_callV d_Mo_isTerm_251 k_Mo_isDigitNext l_Mo_161 i_Mo_isDigitNext rfl p_Mo_isDigitNext hm (by rfl) (by rfl) (Nat.le_of_ble_eq_true rfl) (by decide) (C_Mo_isDigitNext hR hL hw.1 hw.2.2 hq (fun Z1 hR1 B1 => ⟨_, rfl, ?_⟩))
                    first | refine g_if_eqB (tgt := 261) d_Mo_isTerm_254 (by decide) (fun h254 => ?_) (fun h254 => ?_) | refine g_if_eq (tgt := 261) d_Mo_isTerm_254 (by decide) (fun h254 => ?_) (fun h254 => ?_)
                    · have hF := hQ Z1 hR1 B1
                      rw [zb_f h254] at hF
                      refine g_iconst (v := 0) d_Mo_isTerm_261 rfl ?_
                      refine g_zret d_Mo_isTerm_262 ?_ ?_
                      · first | rfl | exact zb_nar _ | exact zb_narc (by assumption)
                      · exact hF
                    · have hF := hQ Z1 hR1 B1
                      rw [zb_t h254] at hF
                      refine g_iconst (v := 1) d_Mo_isTerm_257 rfl ?_
                      refine g_goto (tgt := 262) d_Mo_isTerm_258 (by decide) ?_
                      refine g_zret d_Mo_isTerm_262 ?_ ?_
                      · first | rfl | exact zb_nar _ | exact zb_narc (by assumption)
                      · exact hF
              · rw [lg_cmp_eq] at h217
                rw [if_pos h217] at hQ
                refine g_aload_nq d_Mo_isTerm_220 rfl 1 rfl ?_
                refine g_iconst (v := 5) d_Mo_isTerm_221 rfl ?_
                refine g_iconst (v := 0) d_Mo_isTerm_222 rfl ?_
                refine g_callV d_Mo_isTerm_223 k_Mo_put l_Mo_141 i_Mo_put rfl p_Mo_put hm (by rfl) (by rfl) (Nat.le_of_ble_eq_true rfl) (by decide) (C_Mo_put hR hq.1 (by have := hq.2.1; omega) hq.2.2 (fun Z1 hR1 B1 => ⟨_, rfl, ?_⟩))
                refine g_goto (tgt := 263) d_Mo_isTerm_226 (by decide) ?_
                refine g_iconst (v := 1) d_Mo_isTerm_263 rfl ?_
                refine g_zret d_Mo_isTerm_264 ?_ ?_
                · first | rfl | exact zb_nar _ | exact zb_narc (by assumption)
                · exact hQ Z1 hR1 B1
            · rw [if_pos ⟨h186, h190⟩] at hQ
              refine g_aload_nq d_Mo_isTerm_193 rfl 1 rfl ?_
              refine g_iconst (v := 4) d_Mo_isTerm_194 rfl ?_
              refine g_iconst (v := 0) d_Mo_isTerm_195 rfl ?_
              refine g_callV d_Mo_isTerm_196 k_Mo_put l_Mo_141 i_Mo_put rfl p_Mo_put hm (by rfl) (by rfl) (Nat.le_of_ble_eq_true rfl) (by decide) (C_Mo_put hR hq.1 (by have := hq.2.1; omega) hq.2.2 (fun Z1 hR1 B1 => ⟨_, rfl, ?_⟩))
              refine g_goto (tgt := 263) d_Mo_isTerm_199 (by decide) ?_
              refine g_iconst (v := 1) d_Mo_isTerm_263 rfl ?_
              refine g_zret d_Mo_isTerm_264 ?_ ?_
              · first | rfl | exact zb_nar _ | exact zb_narc (by assumption)
              · exact hQ Z1 hR1 B1
        · rw [lg_cmp_eq] at h155
          refine g_iload_n d_Mo_isTerm_158 rfl 2 rfl ?_
          refine g_iconst (v := 2) d_Mo_isTerm_159 rfl ?_
          refine g_icmp_ne (tgt := 172) d_Mo_isTerm_160 (by decide) (fun h160 => ?_) (fun h160 => ?_)
          · rw [if_neg (fun z => h160 z.2)] at hQ
            refine g_lload_n d_Mo_isTerm_172 rfl 0 rfl ?_
            refine g_bipush (v := 110) d_Mo_isTerm_173 rfl ?_
            refine g_bipush (v := 97) d_Mo_isTerm_175 rfl ?_
            refine g_bipush (v := 109) d_Mo_isTerm_177 rfl ?_
            refine g_bipush (v := 101) d_Mo_isTerm_179 rfl ?_
            refine g_iconst (v := 0) d_Mo_isTerm_181 rfl ?_
            refine g_callS d_Mo_isTerm_182 k_Mo_word l_Mo_157 s_Mo_word (by rfl) (by rfl) (Nat.le_of_ble_eq_true rfl) (by decide) (C_Mo_word ⟨_, rfl, ?_⟩)
            refine g_lcmp d_Mo_isTerm_185 ?_
            refine g_if_ne (tgt := 202) d_Mo_isTerm_186 (by decide) (fun h186 => ?_) (fun h186 => ?_)
            · rw [lg_cmp_eq] at h186
              rw [if_neg (fun z => h186 z.1)] at hQ
              refine g_lload_n d_Mo_isTerm_202 rfl 0 rfl ?_
              refine g_bipush (v := 115) d_Mo_isTerm_203 rfl ?_
              refine g_bipush (v := 104) d_Mo_isTerm_205 rfl ?_
              refine g_bipush (v := 101) d_Mo_isTerm_207 rfl ?_
              refine g_bipush (v := 101) d_Mo_isTerm_209 rfl ?_
              refine g_bipush (v := 116) d_Mo_isTerm_211 rfl ?_
              refine g_callS d_Mo_isTerm_213 k_Mo_word l_Mo_157 s_Mo_word (by rfl) (by rfl) (Nat.le_of_ble_eq_true rfl) (by decide) (C_Mo_word ⟨_, rfl, ?_⟩)
              refine g_lcmp d_Mo_isTerm_216 ?_
              refine g_if_ne (tgt := 229) d_Mo_isTerm_217 (by decide) (fun h217 => ?_) (fun h217 => ?_)
              · rw [lg_cmp_eq] at h217
                rw [if_neg (h217)] at hQ
                refine g_lload_n d_Mo_isTerm_229 rfl 0 rfl ?_
                refine g_bipush (v := 97) d_Mo_isTerm_230 rfl ?_
                refine g_bipush (v := 110) d_Mo_isTerm_232 rfl ?_
                refine g_bipush (v := 121) d_Mo_isTerm_234 rfl ?_
                refine g_iconst (v := 0) d_Mo_isTerm_236 rfl ?_
                refine g_iconst (v := 0) d_Mo_isTerm_237 rfl ?_
                refine g_callS d_Mo_isTerm_238 k_Mo_word l_Mo_157 s_Mo_word (by rfl) (by rfl) (Nat.le_of_ble_eq_true rfl) (by decide) (C_Mo_word ⟨_, rfl, ?_⟩)
                refine g_lcmp d_Mo_isTerm_241 ?_
                refine g_if_ne (tgt := 261) d_Mo_isTerm_242 (by decide) (fun h242 => ?_) (fun h242 => ?_)
                · rw [lg_cmp_eq] at h242
                  rw [if_neg (fun z => h242 z.1)] at hQ
                  have hF := hQ Z hR rfl
                  refine g_iconst (v := 0) d_Mo_isTerm_261 rfl ?_
                  refine g_zret d_Mo_isTerm_262 ?_ ?_
                  · first | rfl | exact zb_nar _ | exact zb_narc (by assumption)
                  · exact hF
                · rw [lg_cmp_eq] at h242
                  refine g_iload_n d_Mo_isTerm_245 rfl 2 rfl ?_
                  refine g_iconst (v := 2) d_Mo_isTerm_246 rfl ?_
                  refine g_icmp_eq (tgt := 261) d_Mo_isTerm_247 (by decide) (fun h247 => ?_) (fun h247 => ?_)
                  · rw [if_neg (fun z => z.2 h247)] at hQ
                    have hF := hQ Z hR rfl
                    refine g_iconst (v := 0) d_Mo_isTerm_261 rfl ?_
                    refine g_zret d_Mo_isTerm_262 ?_ ?_
                    · first | rfl | exact zb_nar _ | exact zb_narc (by assumption)
                    · exact hF
                  · rw [if_pos ⟨h242, h247⟩] at hQ
                    refine g_aload_nq d_Mo_isTerm_250 rfl 1 rfl ?_
                    refine g_callV d_Mo_isTerm_251 k_Mo_isDigitNext l_Mo_161 i_Mo_isDigitNext rfl p_Mo_isDigitNext hm (by rfl) (by rfl) (Nat.le_of_ble_eq_true rfl) (by decide) (C_Mo_isDigitNext hR hL hw.1 hw.2.2 hq (fun Z1 hR1 B1 => ⟨_, rfl, ?_⟩))
                    first | refine g_if_eqB (tgt := 261) d_Mo_isTerm_254 (by decide) (fun h254 => ?_) (fun h254 => ?_) | refine g_if_eq (tgt := 261) d_Mo_isTerm_254 (by decide) (fun h254 => ?_) (fun h254 => ?_)
                    · have hF := hQ Z1 hR1 B1
                      rw [zb_f h254] at hF
                      refine g_iconst (v := 0) d_Mo_isTerm_261 rfl ?_
                      refine g_zret d_Mo_isTerm_262 ?_ ?_
                      · first | rfl | exact zb_nar _ | exact zb_narc (by assumption)
                      · exact hF
                    · have hF := hQ Z1 hR1 B1
                      rw [zb_t h254] at hF
                      refine g_iconst (v := 1) d_Mo_isTerm_257 rfl ?_
                      refine g_goto (tgt := 262) d_Mo_isTerm_258 (by decide) ?_
                      refine g_zret d_Mo_isTerm_262 ?_ ?_
                      · first | rfl | exact zb_nar _ | exact zb_narc (by assumption)
                      · exact hF
              · rw [lg_cmp_eq] at h217
                rw [if_pos h217] at hQ
                refine g_aload_nq d_Mo_isTerm_220 rfl 1 rfl ?_
                refine g_iconst (v := 5) d_Mo_isTerm_221 rfl ?_
                refine g_iconst (v := 0) d_Mo_isTerm_222 rfl ?_
                refine g_callV d_Mo_isTerm_223 k_Mo_put l_Mo_141 i_Mo_put rfl p_Mo_put hm (by rfl) (by rfl) (Nat.le_of_ble_eq_true rfl) (by decide) (C_Mo_put hR hq.1 (by have := hq.2.1; omega) hq.2.2 (fun Z1 hR1 B1 => ⟨_, rfl, ?_⟩))
                refine g_goto (tgt := 263) d_Mo_isTerm_226 (by decide) ?_
                refine g_iconst (v := 1) d_Mo_isTerm_263 rfl ?_
                refine g_zret d_Mo_isTerm_264 ?_ ?_
                · first | rfl | exact zb_nar _ | exact zb_narc (by assumption)
                · exact hQ Z1 hR1 B1
            · rw [lg_cmp_eq] at h186
              refine g_iload_n d_Mo_isTerm_189 rfl 2 rfl ?_
              first | refine g_if_eqB (tgt := 202) d_Mo_isTerm_190 (by decide) (fun h190 => ?_) (fun h190 => ?_) | refine g_if_eq (tgt := 202) d_Mo_isTerm_190 (by decide) (fun h190 => ?_) (fun h190 => ?_)
              · rw [if_neg (fun z => z.2 h190)] at hQ
                refine g_lload_n d_Mo_isTerm_202 rfl 0 rfl ?_
                refine g_bipush (v := 115) d_Mo_isTerm_203 rfl ?_
                refine g_bipush (v := 104) d_Mo_isTerm_205 rfl ?_
                refine g_bipush (v := 101) d_Mo_isTerm_207 rfl ?_
                refine g_bipush (v := 101) d_Mo_isTerm_209 rfl ?_
                refine g_bipush (v := 116) d_Mo_isTerm_211 rfl ?_
                refine g_callS d_Mo_isTerm_213 k_Mo_word l_Mo_157 s_Mo_word (by rfl) (by rfl) (Nat.le_of_ble_eq_true rfl) (by decide) (C_Mo_word ⟨_, rfl, ?_⟩)
                refine g_lcmp d_Mo_isTerm_216 ?_
                refine g_if_ne (tgt := 229) d_Mo_isTerm_217 (by decide) (fun h217 => ?_) (fun h217 => ?_)
                · rw [lg_cmp_eq] at h217
                  rw [if_neg (h217)] at hQ
                  refine g_lload_n d_Mo_isTerm_229 rfl 0 rfl ?_
                  refine g_bipush (v := 97) d_Mo_isTerm_230 rfl ?_
                  refine g_bipush (v := 110) d_Mo_isTerm_232 rfl ?_
                  refine g_bipush (v := 121) d_Mo_isTerm_234 rfl ?_
                  refine g_iconst (v := 0) d_Mo_isTerm_236 rfl ?_
                  refine g_iconst (v := 0) d_Mo_isTerm_237 rfl ?_
                  refine g_callS d_Mo_isTerm_238 k_Mo_word l_Mo_157 s_Mo_word (by rfl) (by rfl) (Nat.le_of_ble_eq_true rfl) (by decide) (C_Mo_word ⟨_, rfl, ?_⟩)
                  refine g_lcmp d_Mo_isTerm_241 ?_
                  refine g_if_ne (tgt := 261) d_Mo_isTerm_242 (by decide) (fun h242 => ?_) (fun h242 => ?_)
                  · rw [lg_cmp_eq] at h242
                    rw [if_neg (fun z => h242 z.1)] at hQ
                    have hF := hQ Z hR rfl
                    refine g_iconst (v := 0) d_Mo_isTerm_261 rfl ?_
                    refine g_zret d_Mo_isTerm_262 ?_ ?_
                    · first | rfl | exact zb_nar _ | exact zb_narc (by assumption)
                    · exact hF
                  · rw [lg_cmp_eq] at h242
                    refine g_iload_n d_Mo_isTerm_245 rfl 2 rfl ?_
                    refine g_iconst (v := 2) d_Mo_isTerm_246 rfl ?_
                    refine g_icmp_eq (tgt := 261) d_Mo_isTerm_247 (by decide) (fun h247 => ?_) (fun h247 => ?_)
                    · rw [if_neg (fun z => z.2 h247)] at hQ
                      have hF := hQ Z hR rfl
                      refine g_iconst (v := 0) d_Mo_isTerm_261 rfl ?_
                      refine g_zret d_Mo_isTerm_262 ?_ ?_
                      · first | rfl | exact zb_nar _ | exact zb_narc (by assumption)
                      · exact hF
                    · rw [if_pos ⟨h242, h247⟩] at hQ
                      refine g_aload_nq d_Mo_isTerm_250 rfl 1 rfl ?_
                      refine g_callV d_Mo_isTerm_251 k_Mo_isDigitNext l_Mo_161 i_Mo_isDigitNext rfl p_Mo_isDigitNext hm (by rfl) (by rfl) (Nat.le_of_ble_eq_true rfl) (by decide) (C_Mo_isDigitNext hR hL hw.1 hw.2.2 hq (fun Z1 hR1 B1 => ⟨_, rfl, ?_⟩))
                      first | refine g_if_eqB (tgt := 261) d_Mo_isTerm_254 (by decide) (fun h254 => ?_) (fun h254 => ?_) | refine g_if_eq (tgt := 261) d_Mo_isTerm_254 (by decide) (fun h254 => ?_) (fun h254 => ?_)
                      · have hF := hQ Z1 hR1 B1
                        rw [zb_f h254] at hF
                        refine g_iconst (v := 0) d_Mo_isTerm_261 rfl ?_
                        refine g_zret d_Mo_isTerm_262 ?_ ?_
                        · first | rfl | exact zb_nar _ | exact zb_narc (by assumption)
                        · exact hF
                      · have hF := hQ Z1 hR1 B1
                        rw [zb_t h254] at hF
                        refine g_iconst (v := 1) d_Mo_isTerm_257 rfl ?_
                        refine g_goto (tgt := 262) d_Mo_isTerm_258 (by decide) ?_
                        refine g_zret d_Mo_isTerm_262 ?_ ?_
                        · first | rfl | exact zb_nar _ | exact zb_narc (by assumption)
                        · exact hF
                · rw [lg_cmp_eq] at h217
                  rw [if_pos h217] at hQ
                  refine g_aload_nq d_Mo_isTerm_220 rfl 1 rfl ?_
                  refine g_iconst (v := 5) d_Mo_isTerm_221 rfl ?_
                  refine g_iconst (v := 0) d_Mo_isTerm_222 rfl ?_
                  refine g_callV d_Mo_isTerm_223 k_Mo_put l_Mo_141 i_Mo_put rfl p_Mo_put hm (by rfl) (by rfl) (Nat.le_of_ble_eq_true rfl) (by decide) (C_Mo_put hR hq.1 (by have := hq.2.1; omega) hq.2.2 (fun Z1 hR1 B1 => ⟨_, rfl, ?_⟩))
                  refine g_goto (tgt := 263) d_Mo_isTerm_226 (by decide) ?_
                  refine g_iconst (v := 1) d_Mo_isTerm_263 rfl ?_
                  refine g_zret d_Mo_isTerm_264 ?_ ?_
                  · first | rfl | exact zb_nar _ | exact zb_narc (by assumption)
                  · exact hQ Z1 hR1 B1
              · rw [if_pos ⟨h186, h190⟩] at hQ
                refine g_aload_nq d_Mo_isTerm_193 rfl 1 rfl ?_
                refine g_iconst (v := 4) d_Mo_isTerm_194 rfl ?_
                refine g_iconst (v := 0) d_Mo_isTerm_195 rfl ?_
                refine g_callV d_Mo_isTerm_196 k_Mo_put l_Mo_141 i_Mo_put rfl p_Mo_put hm (by rfl) (by rfl) (Nat.le_of_ble_eq_true rfl) (by decide) (C_Mo_put hR hq.1 (by have := hq.2.1; omega) hq.2.2 (fun Z1 hR1 B1 => ⟨_, rfl, ?_⟩))
                refine g_goto (tgt := 263) d_Mo_isTerm_199 (by decide) ?_
                refine g_iconst (v := 1) d_Mo_isTerm_263 rfl ?_
                refine g_zret d_Mo_isTerm_264 ?_ ?_
                · first | rfl | exact zb_nar _ | exact zb_narc (by assumption)
                · exact hQ Z1 hR1 B1
          · rw [if_pos ⟨h155, h160⟩] at hQ
            refine g_aload_nq d_Mo_isTerm_163 rfl 1 rfl ?_
            refine g_iconst (v := 3) d_Mo_isTerm_164 rfl ?_
            refine g_iconst (v := 0) d_Mo_isTerm_165 rfl ?_
            refine g_callV d_Mo_isTerm_166 k_Mo_put l_Mo_141 i_Mo_put rfl p_Mo_put hm (by rfl) (by rfl) (Nat.le_of_ble_eq_true rfl) (by decide) (C_Mo_put hR hq.1 (by have := hq.2.1; omega) hq.2.2 (fun Z1 hR1 B1 => ⟨_, rfl, ?_⟩))
            refine g_goto (tgt := 263) d_Mo_isTerm_169 (by decide) ?_
            refine g_iconst (v := 1) d_Mo_isTerm_263 rfl ?_
            refine g_zret d_Mo_isTerm_264 ?_ ?_
            · first | rfl | exact zb_nar _ | exact zb_narc (by assumption)
            · exact hQ Z1 hR1 B1
      · rw [lg_cmp_eq] at h124
        refine g_iload_n d_Mo_isTerm_127 rfl 2 rfl ?_
        refine g_iconst (v := 2) d_Mo_isTerm_128 rfl ?_
        refine g_icmp_eq (tgt := 141) d_Mo_isTerm_129 (by decide) (fun h129 => ?_) (fun h129 => ?_)
        · rw [if_neg (fun z => z.2 h129)] at hQ
          refine g_lload_n d_Mo_isTerm_141 rfl 0 rfl ?_
          refine g_bipush (v := 107) d_Mo_isTerm_142 rfl ?_
          refine g_bipush (v := 105) d_Mo_isTerm_144 rfl ?_
          refine g_bipush (v := 110) d_Mo_isTerm_146 rfl ?_
          refine g_bipush (v := 100) d_Mo_isTerm_148 rfl ?_
          refine g_iconst (v := 0) d_Mo_isTerm_150 rfl ?_
          refine g_callS d_Mo_isTerm_151 k_Mo_word l_Mo_157 s_Mo_word (by rfl) (by rfl) (Nat.le_of_ble_eq_true rfl) (by decide) (C_Mo_word ⟨_, rfl, ?_⟩)
          refine g_lcmp d_Mo_isTerm_154 ?_
          refine g_if_ne (tgt := 172) d_Mo_isTerm_155 (by decide) (fun h155 => ?_) (fun h155 => ?_)
          · rw [lg_cmp_eq] at h155
            rw [if_neg (fun z => h155 z.1)] at hQ
            refine g_lload_n d_Mo_isTerm_172 rfl 0 rfl ?_
            refine g_bipush (v := 110) d_Mo_isTerm_173 rfl ?_
            refine g_bipush (v := 97) d_Mo_isTerm_175 rfl ?_
            refine g_bipush (v := 109) d_Mo_isTerm_177 rfl ?_
            refine g_bipush (v := 101) d_Mo_isTerm_179 rfl ?_
            refine g_iconst (v := 0) d_Mo_isTerm_181 rfl ?_
            refine g_callS d_Mo_isTerm_182 k_Mo_word l_Mo_157 s_Mo_word (by rfl) (by rfl) (Nat.le_of_ble_eq_true rfl) (by decide) (C_Mo_word ⟨_, rfl, ?_⟩)
            refine g_lcmp d_Mo_isTerm_185 ?_
            refine g_if_ne (tgt := 202) d_Mo_isTerm_186 (by decide) (fun h186 => ?_) (fun h186 => ?_)
            · rw [lg_cmp_eq] at h186
              rw [if_neg (fun z => h186 z.1)] at hQ
              refine g_lload_n d_Mo_isTerm_202 rfl 0 rfl ?_
              refine g_bipush (v := 115) d_Mo_isTerm_203 rfl ?_
              refine g_bipush (v := 104) d_Mo_isTerm_205 rfl ?_
              refine g_bipush (v := 101) d_Mo_isTerm_207 rfl ?_
              refine g_bipush (v := 101) d_Mo_isTerm_209 rfl ?_
              refine g_bipush (v := 116) d_Mo_isTerm_211 rfl ?_
              refine g_callS d_Mo_isTerm_213 k_Mo_word l_Mo_157 s_Mo_word (by rfl) (by rfl) (Nat.le_of_ble_eq_true rfl) (by decide) (C_Mo_word ⟨_, rfl, ?_⟩)
              refine g_lcmp d_Mo_isTerm_216 ?_
              refine g_if_ne (tgt := 229) d_Mo_isTerm_217 (by decide) (fun h217 => ?_) (fun h217 => ?_)
              · rw [lg_cmp_eq] at h217
                rw [if_neg (h217)] at hQ
                refine g_lload_n d_Mo_isTerm_229 rfl 0 rfl ?_
                refine g_bipush (v := 97) d_Mo_isTerm_230 rfl ?_
                refine g_bipush (v := 110) d_Mo_isTerm_232 rfl ?_
                refine g_bipush (v := 121) d_Mo_isTerm_234 rfl ?_
                refine g_iconst (v := 0) d_Mo_isTerm_236 rfl ?_
                refine g_iconst (v := 0) d_Mo_isTerm_237 rfl ?_
                refine g_callS d_Mo_isTerm_238 k_Mo_word l_Mo_157 s_Mo_word (by rfl) (by rfl) (Nat.le_of_ble_eq_true rfl) (by decide) (C_Mo_word ⟨_, rfl, ?_⟩)
                refine g_lcmp d_Mo_isTerm_241 ?_
                refine g_if_ne (tgt := 261) d_Mo_isTerm_242 (by decide) (fun h242 => ?_) (fun h242 => ?_)
                · rw [lg_cmp_eq] at h242
                  rw [if_neg (fun z => h242 z.1)] at hQ
                  have hF := hQ Z hR rfl
                  refine g_iconst (v := 0) d_Mo_isTerm_261 rfl ?_
                  refine g_zret d_Mo_isTerm_262 ?_ ?_
                  · first | rfl | exact zb_nar _ | exact zb_narc (by assumption)
                  · exact hF
                · rw [lg_cmp_eq] at h242
                  refine g_iload_n d_Mo_isTerm_245 rfl 2 rfl ?_
                  refine g_iconst (v := 2) d_Mo_isTerm_246 rfl ?_
                  refine g_icmp_eq (tgt := 261) d_Mo_isTerm_247 (by decide) (fun h247 => ?_) (fun h247 => ?_)
                  · rw [if_neg (fun z => z.2 h247)] at hQ
                    have hF := hQ Z hR rfl
                    refine g_iconst (v := 0) d_Mo_isTerm_261 rfl ?_
                    refine g_zret d_Mo_isTerm_262 ?_ ?_
                    · first | rfl | exact zb_nar _ | exact zb_narc (by assumption)
                    · exact hF
                  · rw [if_pos ⟨h242, h247⟩] at hQ
                    refine g_aload_nq d_Mo_isTerm_250 rfl 1 rfl ?_
                    refine g_callV d_Mo_isTerm_251 k_Mo_isDigitNext l_Mo_161 i_Mo_isDigitNext rfl p_Mo_isDigitNext hm (by rfl) (by rfl) (Nat.le_of_ble_eq_true rfl) (by decide) (C_Mo_isDigitNext hR hL hw.1 hw.2.2 hq (fun Z1 hR1 B1 => ⟨_, rfl, ?_⟩))
                    first | refine g_if_eqB (tgt := 261) d_Mo_isTerm_254 (by decide) (fun h254 => ?_) (fun h254 => ?_) | refine g_if_eq (tgt := 261) d_Mo_isTerm_254 (by decide) (fun h254 => ?_) (fun h254 => ?_)
                    · have hF := hQ Z1 hR1 B1
                      rw [zb_f h254] at hF
                      refine g_iconst (v := 0) d_Mo_isTerm_261 rfl ?_
                      refine g_zret d_Mo_isTerm_262 ?_ ?_
                      · first | rfl | exact zb_nar _ | exact zb_narc (by assumption)
                      · exact hF
                    · have hF := hQ Z1 hR1 B1
                      rw [zb_t h254] at hF
                      refine g_iconst (v := 1) d_Mo_isTerm_257 rfl ?_
                      refine g_goto (tgt := 262) d_Mo_isTerm_258 (by decide) ?_
                      refine g_zret d_Mo_isTerm_262 ?_ ?_
                      · first | rfl | exact zb_nar _ | exact zb_narc (by assumption)
                      · exact hF
              · rw [lg_cmp_eq] at h217
                rw [if_pos h217] at hQ
                refine g_aload_nq d_Mo_isTerm_220 rfl 1 rfl ?_
                refine g_iconst (v := 5) d_Mo_isTerm_221 rfl ?_
                refine g_iconst (v := 0) d_Mo_isTerm_222 rfl ?_
                refine g_callV d_Mo_isTerm_223 k_Mo_put l_Mo_141 i_Mo_put rfl p_Mo_put hm (by rfl) (by rfl) (Nat.le_of_ble_eq_true rfl) (by decide) (C_Mo_put hR hq.1 (by have := hq.2.1; omega) hq.2.2 (fun Z1 hR1 B1 => ⟨_, rfl, ?_⟩))
                refine g_goto (tgt := 263) d_Mo_isTerm_226 (by decide) ?_
                refine g_iconst (v := 1) d_Mo_isTerm_263 rfl ?_
                refine g_zret d_Mo_isTerm_264 ?_ ?_
                · first | rfl | exact zb_nar _ | exact zb_narc (by assumption)
                · exact hQ Z1 hR1 B1
            · rw [lg_cmp_eq] at h186
              refine g_iload_n d_Mo_isTerm_189 rfl 2 rfl ?_
              first | refine g_if_eqB (tgt := 202) d_Mo_isTerm_190 (by decide) (fun h190 => ?_) (fun h190 => ?_) | refine g_if_eq (tgt := 202) d_Mo_isTerm_190 (by decide) (fun h190 => ?_) (fun h190 => ?_)
              · rw [if_neg (fun z => z.2 h190)] at hQ
                refine g_lload_n d_Mo_isTerm_202 rfl 0 rfl ?_
                refine g_bipush (v := 115) d_Mo_isTerm_203 rfl ?_
                refine g_bipush (v := 104) d_Mo_isTerm_205 rfl ?_
                refine g_bipush (v := 101) d_Mo_isTerm_207 rfl ?_
                refine g_bipush (v := 101) d_Mo_isTerm_209 rfl ?_
                refine g_bipush (v := 116) d_Mo_isTerm_211 rfl ?_
                refine g_callS d_Mo_isTerm_213 k_Mo_word l_Mo_157 s_Mo_word (by rfl) (by rfl) (Nat.le_of_ble_eq_true rfl) (by decide) (C_Mo_word ⟨_, rfl, ?_⟩)
                refine g_lcmp d_Mo_isTerm_216 ?_
                refine g_if_ne (tgt := 229) d_Mo_isTerm_217 (by decide) (fun h217 => ?_) (fun h217 => ?_)
                · rw [lg_cmp_eq] at h217
                  rw [if_neg (h217)] at hQ
                  refine g_lload_n d_Mo_isTerm_229 rfl 0 rfl ?_
                  refine g_bipush (v := 97) d_Mo_isTerm_230 rfl ?_
                  refine g_bipush (v := 110) d_Mo_isTerm_232 rfl ?_
                  refine g_bipush (v := 121) d_Mo_isTerm_234 rfl ?_
                  refine g_iconst (v := 0) d_Mo_isTerm_236 rfl ?_
                  refine g_iconst (v := 0) d_Mo_isTerm_237 rfl ?_
                  refine g_callS d_Mo_isTerm_238 k_Mo_word l_Mo_157 s_Mo_word (by rfl) (by rfl) (Nat.le_of_ble_eq_true rfl) (by decide) (C_Mo_word ⟨_, rfl, ?_⟩)
                  refine g_lcmp d_Mo_isTerm_241 ?_
                  refine g_if_ne (tgt := 261) d_Mo_isTerm_242 (by decide) (fun h242 => ?_) (fun h242 => ?_)
                  · rw [lg_cmp_eq] at h242
                    rw [if_neg (fun z => h242 z.1)] at hQ
                    have hF := hQ Z hR rfl
                    refine g_iconst (v := 0) d_Mo_isTerm_261 rfl ?_
                    refine g_zret d_Mo_isTerm_262 ?_ ?_
                    · first | rfl | exact zb_nar _ | exact zb_narc (by assumption)
                    · exact hF
                  · rw [lg_cmp_eq] at h242
                    refine g_iload_n d_Mo_isTerm_245 rfl 2 rfl ?_
                    refine g_iconst (v := 2) d_Mo_isTerm_246 rfl ?_
                    refine g_icmp_eq (tgt := 261) d_Mo_isTerm_247 (by decide) (fun h247 => ?_) (fun h247 => ?_)
                    · rw [if_neg (fun z => z.2 h247)] at hQ
                      have hF := hQ Z hR rfl
                      refine g_iconst (v := 0) d_Mo_isTerm_261 rfl ?_
                      refine g_zret d_Mo_isTerm_262 ?_ ?_
                      · first | rfl | exact zb_nar _ | exact zb_narc (by assumption)
                      · exact hF
                    · rw [if_pos ⟨h242, h247⟩] at hQ
                      refine g_aload_nq d_Mo_isTerm_250 rfl 1 rfl ?_
                      refine g_callV d_Mo_isTerm_251 k_Mo_isDigitNext l_Mo_161 i_Mo_isDigitNext rfl p_Mo_isDigitNext hm (by rfl) (by rfl) (Nat.le_of_ble_eq_true rfl) (by decide) (C_Mo_isDigitNext hR hL hw.1 hw.2.2 hq (fun Z1 hR1 B1 => ⟨_, rfl, ?_⟩))
                      first | refine g_if_eqB (tgt := 261) d_Mo_isTerm_254 (by decide) (fun h254 => ?_) (fun h254 => ?_) | refine g_if_eq (tgt := 261) d_Mo_isTerm_254 (by decide) (fun h254 => ?_) (fun h254 => ?_)
                      · have hF := hQ Z1 hR1 B1
                        rw [zb_f h254] at hF
                        refine g_iconst (v := 0) d_Mo_isTerm_261 rfl ?_
                        refine g_zret d_Mo_isTerm_262 ?_ ?_
                        · first | rfl | exact zb_nar _ | exact zb_narc (by assumption)
                        · exact hF
                      · have hF := hQ Z1 hR1 B1
                        rw [zb_t h254] at hF
                        refine g_iconst (v := 1) d_Mo_isTerm_257 rfl ?_
                        refine g_goto (tgt := 262) d_Mo_isTerm_258 (by decide) ?_
                        refine g_zret d_Mo_isTerm_262 ?_ ?_
                        · first | rfl | exact zb_nar _ | exact zb_narc (by assumption)
                        · exact hF
                · rw [lg_cmp_eq] at h217
                  rw [if_pos h217] at hQ
                  refine g_aload_nq d_Mo_isTerm_220 rfl 1 rfl ?_
                  refine g_iconst (v := 5) d_Mo_isTerm_221 rfl ?_
                  refine g_iconst (v := 0) d_Mo_isTerm_222 rfl ?_
                  refine g_callV d_Mo_isTerm_223 k_Mo_put l_Mo_141 i_Mo_put rfl p_Mo_put hm (by rfl) (by rfl) (Nat.le_of_ble_eq_true rfl) (by decide) (C_Mo_put hR hq.1 (by have := hq.2.1; omega) hq.2.2 (fun Z1 hR1 B1 => ⟨_, rfl, ?_⟩))
                  refine g_goto (tgt := 263) d_Mo_isTerm_226 (by decide) ?_
                  refine g_iconst (v := 1) d_Mo_isTerm_263 rfl ?_
                  refine g_zret d_Mo_isTerm_264 ?_ ?_
                  · first | rfl | exact zb_nar _ | exact zb_narc (by assumption)
                  · exact hQ Z1 hR1 B1
              · rw [if_pos ⟨h186, h190⟩] at hQ
                refine g_aload_nq d_Mo_isTerm_193 rfl 1 rfl ?_
                refine g_iconst (v := 4) d_Mo_isTerm_194 rfl ?_
                refine g_iconst (v := 0) d_Mo_isTerm_195 rfl ?_
                refine g_callV d_Mo_isTerm_196 k_Mo_put l_Mo_141 i_Mo_put rfl p_Mo_put hm (by rfl) (by rfl) (Nat.le_of_ble_eq_true rfl) (by decide) (C_Mo_put hR hq.1 (by have := hq.2.1; omega) hq.2.2 (fun Z1 hR1 B1 => ⟨_, rfl, ?_⟩))
                refine g_goto (tgt := 263) d_Mo_isTerm_199 (by decide) ?_
                refine g_iconst (v := 1) d_Mo_isTerm_263 rfl ?_
                refine g_zret d_Mo_isTerm_264 ?_ ?_
                · first | rfl | exact zb_nar _ | exact zb_narc (by assumption)
                · exact hQ Z1 hR1 B1
          · rw [lg_cmp_eq] at h155
            refine g_iload_n d_Mo_isTerm_158 rfl 2 rfl ?_
            refine g_iconst (v := 2) d_Mo_isTerm_159 rfl ?_
            refine g_icmp_ne (tgt := 172) d_Mo_isTerm_160 (by decide) (fun h160 => ?_) (fun h160 => ?_)
            · rw [if_neg (fun z => h160 z.2)] at hQ
              refine g_lload_n d_Mo_isTerm_172 rfl 0 rfl ?_
              refine g_bipush (v := 110) d_Mo_isTerm_173 rfl ?_
              refine g_bipush (v := 97) d_Mo_isTerm_175 rfl ?_
              refine g_bipush (v := 109) d_Mo_isTerm_177 rfl ?_
              refine g_bipush (v := 101) d_Mo_isTerm_179 rfl ?_
              refine g_iconst (v := 0) d_Mo_isTerm_181 rfl ?_
              refine g_callS d_Mo_isTerm_182 k_Mo_word l_Mo_157 s_Mo_word (by rfl) (by rfl) (Nat.le_of_ble_eq_true rfl) (by decide) (C_Mo_word ⟨_, rfl, ?_⟩)
              refine g_lcmp d_Mo_isTerm_185 ?_
              refine g_if_ne (tgt := 202) d_Mo_isTerm_186 (by decide) (fun h186 => ?_) (fun h186 => ?_)
              · rw [lg_cmp_eq] at h186
                rw [if_neg (fun z => h186 z.1)] at hQ
                refine g_lload_n d_Mo_isTerm_202 rfl 0 rfl ?_
                refine g_bipush (v := 115) d_Mo_isTerm_203 rfl ?_
                refine g_bipush (v := 104) d_Mo_isTerm_205 rfl ?_
                refine g_bipush (v := 101) d_Mo_isTerm_207 rfl ?_
                refine g_bipush (v := 101) d_Mo_isTerm_209 rfl ?_
                refine g_bipush (v := 116) d_Mo_isTerm_211 rfl ?_
                refine g_callS d_Mo_isTerm_213 k_Mo_word l_Mo_157 s_Mo_word (by rfl) (by rfl) (Nat.le_of_ble_eq_true rfl) (by decide) (C_Mo_word ⟨_, rfl, ?_⟩)
                refine g_lcmp d_Mo_isTerm_216 ?_
                refine g_if_ne (tgt := 229) d_Mo_isTerm_217 (by decide) (fun h217 => ?_) (fun h217 => ?_)
                · rw [lg_cmp_eq] at h217
                  rw [if_neg (h217)] at hQ
                  refine g_lload_n d_Mo_isTerm_229 rfl 0 rfl ?_
                  refine g_bipush (v := 97) d_Mo_isTerm_230 rfl ?_
                  refine g_bipush (v := 110) d_Mo_isTerm_232 rfl ?_
                  refine g_bipush (v := 121) d_Mo_isTerm_234 rfl ?_
                  refine g_iconst (v := 0) d_Mo_isTerm_236 rfl ?_
                  refine g_iconst (v := 0) d_Mo_isTerm_237 rfl ?_
                  refine g_callS d_Mo_isTerm_238 k_Mo_word l_Mo_157 s_Mo_word (by rfl) (by rfl) (Nat.le_of_ble_eq_true rfl) (by decide) (C_Mo_word ⟨_, rfl, ?_⟩)
                  refine g_lcmp d_Mo_isTerm_241 ?_
                  refine g_if_ne (tgt := 261) d_Mo_isTerm_242 (by decide) (fun h242 => ?_) (fun h242 => ?_)
                  · rw [lg_cmp_eq] at h242
                    rw [if_neg (fun z => h242 z.1)] at hQ
                    have hF := hQ Z hR rfl
                    refine g_iconst (v := 0) d_Mo_isTerm_261 rfl ?_
                    refine g_zret d_Mo_isTerm_262 ?_ ?_
                    · first | rfl | exact zb_nar _ | exact zb_narc (by assumption)
                    · exact hF
                  · rw [lg_cmp_eq] at h242
                    refine g_iload_n d_Mo_isTerm_245 rfl 2 rfl ?_
                    refine g_iconst (v := 2) d_Mo_isTerm_246 rfl ?_
                    refine g_icmp_eq (tgt := 261) d_Mo_isTerm_247 (by decide) (fun h247 => ?_) (fun h247 => ?_)
                    · rw [if_neg (fun z => z.2 h247)] at hQ
                      have hF := hQ Z hR rfl
                      refine g_iconst (v := 0) d_Mo_isTerm_261 rfl ?_
                      refine g_zret d_Mo_isTerm_262 ?_ ?_
                      · first | rfl | exact zb_nar _ | exact zb_narc (by assumption)
                      · exact hF
                    · rw [if_pos ⟨h242, h247⟩] at hQ
                      refine g_aload_nq d_Mo_isTerm_250 rfl 1 rfl ?_
                      refine g_callV d_Mo_isTerm_251 k_Mo_isDigitNext l_Mo_161 i_Mo_isDigitNext rfl p_Mo_isDigitNext hm (by rfl) (by rfl) (Nat.le_of_ble_eq_true rfl) (by decide) (C_Mo_isDigitNext hR hL hw.1 hw.2.2 hq (fun Z1 hR1 B1 => ⟨_, rfl, ?_⟩))
                      first | refine g_if_eqB (tgt := 261) d_Mo_isTerm_254 (by decide) (fun h254 => ?_) (fun h254 => ?_) | refine g_if_eq (tgt := 261) d_Mo_isTerm_254 (by decide) (fun h254 => ?_) (fun h254 => ?_)
                      · have hF := hQ Z1 hR1 B1
                        rw [zb_f h254] at hF
                        refine g_iconst (v := 0) d_Mo_isTerm_261 rfl ?_
                        refine g_zret d_Mo_isTerm_262 ?_ ?_
                        · first | rfl | exact zb_nar _ | exact zb_narc (by assumption)
                        · exact hF
                      · have hF := hQ Z1 hR1 B1
                        rw [zb_t h254] at hF
                        refine g_iconst (v := 1) d_Mo_isTerm_257 rfl ?_
                        refine g_goto (tgt := 262) d_Mo_isTerm_258 (by decide) ?_
                        refine g_zret d_Mo_isTerm_262 ?_ ?_
                        · first | rfl | exact zb_nar _ | exact zb_narc (by assumption)
                        · exact hF
                · rw [lg_cmp_eq] at h217
                  rw [if_pos h217] at hQ
                  refine g_aload_nq d_Mo_isTerm_220 rfl 1 rfl ?_
                  refine g_iconst (v := 5) d_Mo_isTerm_221 rfl ?_
                  refine g_iconst (v := 0) d_Mo_isTerm_222 rfl ?_
                  refine g_callV d_Mo_isTerm_223 k_Mo_put l_Mo_141 i_Mo_put rfl p_Mo_put hm (by rfl) (by rfl) (Nat.le_of_ble_eq_true rfl) (by decide) (C_Mo_put hR hq.1 (by have := hq.2.1; omega) hq.2.2 (fun Z1 hR1 B1 => ⟨_, rfl, ?_⟩))
                  refine g_goto (tgt := 263) d_Mo_isTerm_226 (by decide) ?_
                  refine g_iconst (v := 1) d_Mo_isTerm_263 rfl ?_
                  refine g_zret d_Mo_isTerm_264 ?_ ?_
                  · first | rfl | exact zb_nar _ | exact zb_narc (by assumption)
                  · exact hQ Z1 hR1 B1
              · rw [lg_cmp_eq] at h186
                refine g_iload_n d_Mo_isTerm_189 rfl 2 rfl ?_
                first | refine g_if_eqB (tgt := 202) d_Mo_isTerm_190 (by decide) (fun h190 => ?_) (fun h190 => ?_) | refine g_if_eq (tgt := 202) d_Mo_isTerm_190 (by decide) (fun h190 => ?_) (fun h190 => ?_)
                · rw [if_neg (fun z => z.2 h190)] at hQ
                  refine g_lload_n d_Mo_isTerm_202 rfl 0 rfl ?_
                  refine g_bipush (v := 115) d_Mo_isTerm_203 rfl ?_
                  refine g_bipush (v := 104) d_Mo_isTerm_205 rfl ?_
                  refine g_bipush (v := 101) d_Mo_isTerm_207 rfl ?_
                  refine g_bipush (v := 101) d_Mo_isTerm_209 rfl ?_
                  refine g_bipush (v := 116) d_Mo_isTerm_211 rfl ?_
                  refine g_callS d_Mo_isTerm_213 k_Mo_word l_Mo_157 s_Mo_word (by rfl) (by rfl) (Nat.le_of_ble_eq_true rfl) (by decide) (C_Mo_word ⟨_, rfl, ?_⟩)
                  refine g_lcmp d_Mo_isTerm_216 ?_
                  refine g_if_ne (tgt := 229) d_Mo_isTerm_217 (by decide) (fun h217 => ?_) (fun h217 => ?_)
                  · rw [lg_cmp_eq] at h217
                    rw [if_neg (h217)] at hQ
                    refine g_lload_n d_Mo_isTerm_229 rfl 0 rfl ?_
                    refine g_bipush (v := 97) d_Mo_isTerm_230 rfl ?_
                    refine g_bipush (v := 110) d_Mo_isTerm_232 rfl ?_
                    refine g_bipush (v := 121) d_Mo_isTerm_234 rfl ?_
                    refine g_iconst (v := 0) d_Mo_isTerm_236 rfl ?_
                    refine g_iconst (v := 0) d_Mo_isTerm_237 rfl ?_
                    refine g_callS d_Mo_isTerm_238 k_Mo_word l_Mo_157 s_Mo_word (by rfl) (by rfl) (Nat.le_of_ble_eq_true rfl) (by decide) (C_Mo_word ⟨_, rfl, ?_⟩)
                    refine g_lcmp d_Mo_isTerm_241 ?_
                    refine g_if_ne (tgt := 261) d_Mo_isTerm_242 (by decide) (fun h242 => ?_) (fun h242 => ?_)
                    · rw [lg_cmp_eq] at h242
                      rw [if_neg (fun z => h242 z.1)] at hQ
                      have hF := hQ Z hR rfl
                      refine g_iconst (v := 0) d_Mo_isTerm_261 rfl ?_
                      refine g_zret d_Mo_isTerm_262 ?_ ?_
                      · first | rfl | exact zb_nar _ | exact zb_narc (by assumption)
                      · exact hF
                    · rw [lg_cmp_eq] at h242
                      refine g_iload_n d_Mo_isTerm_245 rfl 2 rfl ?_
                      refine g_iconst (v := 2) d_Mo_isTerm_246 rfl ?_
                      refine g_icmp_eq (tgt := 261) d_Mo_isTerm_247 (by decide) (fun h247 => ?_) (fun h247 => ?_)
                      · rw [if_neg (fun z => z.2 h247)] at hQ
                        have hF := hQ Z hR rfl
                        refine g_iconst (v := 0) d_Mo_isTerm_261 rfl ?_
                        refine g_zret d_Mo_isTerm_262 ?_ ?_
                        · first | rfl | exact zb_nar _ | exact zb_narc (by assumption)
                        · exact hF
                      · rw [if_pos ⟨h242, h247⟩] at hQ
                        refine g_aload_nq d_Mo_isTerm_250 rfl 1 rfl ?_
                        refine g_callV d_Mo_isTerm_251 k_Mo_isDigitNext l_Mo_161 i_Mo_isDigitNext rfl p_Mo_isDigitNext hm (by rfl) (by rfl) (Nat.le_of_ble_eq_true rfl) (by decide) (C_Mo_isDigitNext hR hL hw.1 hw.2.2 hq (fun Z1 hR1 B1 => ⟨_, rfl, ?_⟩))
                        first | refine g_if_eqB (tgt := 261) d_Mo_isTerm_254 (by decide) (fun h254 => ?_) (fun h254 => ?_) | refine g_if_eq (tgt := 261) d_Mo_isTerm_254 (by decide) (fun h254 => ?_) (fun h254 => ?_)
                        · have hF := hQ Z1 hR1 B1
                          rw [zb_f h254] at hF
                          refine g_iconst (v := 0) d_Mo_isTerm_261 rfl ?_
                          refine g_zret d_Mo_isTerm_262 ?_ ?_
                          · first | rfl | exact zb_nar _ | exact zb_narc (by assumption)
                          · exact hF
                        · have hF := hQ Z1 hR1 B1
                          rw [zb_t h254] at hF
                          refine g_iconst (v := 1) d_Mo_isTerm_257 rfl ?_
                          refine g_goto (tgt := 262) d_Mo_isTerm_258 (by decide) ?_
                          refine g_zret d_Mo_isTerm_262 ?_ ?_
                          · first | rfl | exact zb_nar _ | exact zb_narc (by assumption)
                          · exact hF
                  · rw [lg_cmp_eq] at h217
                    rw [if_pos h217] at hQ
                    refine g_aload_nq d_Mo_isTerm_220 rfl 1 rfl ?_
                    refine g_iconst (v := 5) d_Mo_isTerm_221 rfl ?_
                    refine g_iconst (v := 0) d_Mo_isTerm_222 rfl ?_
                    refine g_callV d_Mo_isTerm_223 k_Mo_put l_Mo_141 i_Mo_put rfl p_Mo_put hm (by rfl) (by rfl) (Nat.le_of_ble_eq_true rfl) (by decide) (C_Mo_put hR hq.1 (by have := hq.2.1; omega) hq.2.2 (fun Z1 hR1 B1 => ⟨_, rfl, ?_⟩))
                    refine g_goto (tgt := 263) d_Mo_isTerm_226 (by decide) ?_
                    refine g_iconst (v := 1) d_Mo_isTerm_263 rfl ?_
                    refine g_zret d_Mo_isTerm_264 ?_ ?_
                    · first | rfl | exact zb_nar _ | exact zb_narc (by assumption)
                    · exact hQ Z1 hR1 B1
                · rw [if_pos ⟨h186, h190⟩] at hQ
                  refine g_aload_nq d_Mo_isTerm_193 rfl 1 rfl ?_
                  refine g_iconst (v := 4) d_Mo_isTerm_194 rfl ?_
                  refine g_iconst (v := 0) d_Mo_isTerm_195 rfl ?_
                  refine g_callV d_Mo_isTerm_196 k_Mo_put l_Mo_141 i_Mo_put rfl p_Mo_put hm (by rfl) (by rfl) (Nat.le_of_ble_eq_true rfl) (by decide) (C_Mo_put hR hq.1 (by have := hq.2.1; omega) hq.2.2 (fun Z1 hR1 B1 => ⟨_, rfl, ?_⟩))
                  refine g_goto (tgt := 263) d_Mo_isTerm_199 (by decide) ?_
                  refine g_iconst (v := 1) d_Mo_isTerm_263 rfl ?_
                  refine g_zret d_Mo_isTerm_264 ?_ ?_
                  · first | rfl | exact zb_nar _ | exact zb_narc (by assumption)
                  · exact hQ Z1 hR1 B1
            · rw [if_pos ⟨h155, h160⟩] at hQ
              refine g_aload_nq d_Mo_isTerm_163 rfl 1 rfl ?_
              refine g_iconst (v := 3) d_Mo_isTerm_164 rfl ?_
              refine g_iconst (v := 0) d_Mo_isTerm_165 rfl ?_
              refine g_callV d_Mo_isTerm_166 k_Mo_put l_Mo_141 i_Mo_put rfl p_Mo_put hm (by rfl) (by rfl) (Nat.le_of_ble_eq_true rfl) (by decide) (C_Mo_put hR hq.1 (by have := hq.2.1; omega) hq.2.2 (fun Z1 hR1 B1 => ⟨_, rfl, ?_⟩))
              refine g_goto (tgt := 263) d_Mo_isTerm_169 (by decide) ?_
              refine g_iconst (v := 1) d_Mo_isTerm_263 rfl ?_
              refine g_zret d_Mo_isTerm_264 ?_ ?_
              · first | rfl | exact zb_nar _ | exact zb_narc (by assumption)
              · exact hQ Z1 hR1 B1
        · rw [if_pos ⟨h124, h129⟩] at hQ
          refine g_aload_nq d_Mo_isTerm_132 rfl 1 rfl ?_
          refine g_iconst (v := 2) d_Mo_isTerm_133 rfl ?_
          refine g_iconst (v := 0) d_Mo_isTerm_134 rfl ?_
          refine g_callV d_Mo_isTerm_135 k_Mo_put l_Mo_141 i_Mo_put rfl p_Mo_put hm (by rfl) (by rfl) (Nat.le_of_ble_eq_true rfl) (by decide) (C_Mo_put hR hq.1 (by have := hq.2.1; omega) hq.2.2 (fun Z1 hR1 B1 => ⟨_, rfl, ?_⟩))
          refine g_goto (tgt := 263) d_Mo_isTerm_138 (by decide) ?_
          refine g_iconst (v := 1) d_Mo_isTerm_263 rfl ?_
          refine g_zret d_Mo_isTerm_264 ?_ ?_
          · first | rfl | exact zb_nar _ | exact zb_narc (by assumption)
          · exact hQ Z1 hR1 B1
    · have hb : sN S 28 - sN S 27 = 2 := (nI_eq (b := 2) (by have := hw.1; have := hw.2.2; omega) (by decide)).mp h34
      have hb9 := hw.1
      have hb8 := hw.2.2
      refine g_aload_nq d_Mo_isTerm_37 rfl 1 rfl ?_
      refine g_get d_Mo_isTerm_38 f_Mo_44_Mo (by assumption) (by first | rfl | assumption) ?_
      refine g_aload_nq d_Mo_isTerm_41 rfl 1 rfl ?_
      refine g_get d_Mo_isTerm_42 f_Mo_125_Mo (by assumption) (by first | rfl | assumption) ?_
      refine g_iald d_Mo_isTerm_45 (by assumption) (vp_in_nI (n := (sN S 27)) (by omega) (by decide)) ?_
      rw [nI_clamp (by omega)]
      refine g_bipush (v := 102) d_Mo_isTerm_46 rfl ?_
      refine g_icmp_ne (tgt := 110) d_Mo_isTerm_48 (by decide) (fun h48 => ?_) (fun h48 => ?_)
      · rw [if_neg (fun z => h48 z.2.1)] at hQ
        refine g_lload_n d_Mo_isTerm_110 rfl 0 rfl ?_
        refine g_bipush (v := 112) d_Mo_isTerm_111 rfl ?_
        refine g_bipush (v := 105) d_Mo_isTerm_113 rfl ?_
        refine g_bipush (v := 110) d_Mo_isTerm_115 rfl ?_
        refine g_bipush (v := 115) d_Mo_isTerm_117 rfl ?_
        refine g_iconst (v := 0) d_Mo_isTerm_119 rfl ?_
        refine g_callS d_Mo_isTerm_120 k_Mo_word l_Mo_157 s_Mo_word (by rfl) (by rfl) (Nat.le_of_ble_eq_true rfl) (by decide) (C_Mo_word ⟨_, rfl, ?_⟩)
        refine g_lcmp d_Mo_isTerm_123 ?_
        refine g_if_ne (tgt := 141) d_Mo_isTerm_124 (by decide) (fun h124 => ?_) (fun h124 => ?_)
        · rw [lg_cmp_eq] at h124
          rw [if_neg (fun z => h124 z.1)] at hQ
          refine g_lload_n d_Mo_isTerm_141 rfl 0 rfl ?_
          refine g_bipush (v := 107) d_Mo_isTerm_142 rfl ?_
          refine g_bipush (v := 105) d_Mo_isTerm_144 rfl ?_
          refine g_bipush (v := 110) d_Mo_isTerm_146 rfl ?_
          refine g_bipush (v := 100) d_Mo_isTerm_148 rfl ?_
          refine g_iconst (v := 0) d_Mo_isTerm_150 rfl ?_
          refine g_callS d_Mo_isTerm_151 k_Mo_word l_Mo_157 s_Mo_word (by rfl) (by rfl) (Nat.le_of_ble_eq_true rfl) (by decide) (C_Mo_word ⟨_, rfl, ?_⟩)
          refine g_lcmp d_Mo_isTerm_154 ?_
          refine g_if_ne (tgt := 172) d_Mo_isTerm_155 (by decide) (fun h155 => ?_) (fun h155 => ?_)
          · rw [lg_cmp_eq] at h155
            rw [if_neg (fun z => h155 z.1)] at hQ
            refine g_lload_n d_Mo_isTerm_172 rfl 0 rfl ?_
            refine g_bipush (v := 110) d_Mo_isTerm_173 rfl ?_
            refine g_bipush (v := 97) d_Mo_isTerm_175 rfl ?_
            refine g_bipush (v := 109) d_Mo_isTerm_177 rfl ?_
            refine g_bipush (v := 101) d_Mo_isTerm_179 rfl ?_
            refine g_iconst (v := 0) d_Mo_isTerm_181 rfl ?_
            refine g_callS d_Mo_isTerm_182 k_Mo_word l_Mo_157 s_Mo_word (by rfl) (by rfl) (Nat.le_of_ble_eq_true rfl) (by decide) (C_Mo_word ⟨_, rfl, ?_⟩)
            refine g_lcmp d_Mo_isTerm_185 ?_
            refine g_if_ne (tgt := 202) d_Mo_isTerm_186 (by decide) (fun h186 => ?_) (fun h186 => ?_)
            · rw [lg_cmp_eq] at h186
              rw [if_neg (fun z => h186 z.1)] at hQ
              refine g_lload_n d_Mo_isTerm_202 rfl 0 rfl ?_
              refine g_bipush (v := 115) d_Mo_isTerm_203 rfl ?_
              refine g_bipush (v := 104) d_Mo_isTerm_205 rfl ?_
              refine g_bipush (v := 101) d_Mo_isTerm_207 rfl ?_
              refine g_bipush (v := 101) d_Mo_isTerm_209 rfl ?_
              refine g_bipush (v := 116) d_Mo_isTerm_211 rfl ?_
              refine g_callS d_Mo_isTerm_213 k_Mo_word l_Mo_157 s_Mo_word (by rfl) (by rfl) (Nat.le_of_ble_eq_true rfl) (by decide) (C_Mo_word ⟨_, rfl, ?_⟩)
              refine g_lcmp d_Mo_isTerm_216 ?_
              refine g_if_ne (tgt := 229) d_Mo_isTerm_217 (by decide) (fun h217 => ?_) (fun h217 => ?_)
              · rw [lg_cmp_eq] at h217
                rw [if_neg (h217)] at hQ
                refine g_lload_n d_Mo_isTerm_229 rfl 0 rfl ?_
                refine g_bipush (v := 97) d_Mo_isTerm_230 rfl ?_
                refine g_bipush (v := 110) d_Mo_isTerm_232 rfl ?_
                refine g_bipush (v := 121) d_Mo_isTerm_234 rfl ?_
                refine g_iconst (v := 0) d_Mo_isTerm_236 rfl ?_
                refine g_iconst (v := 0) d_Mo_isTerm_237 rfl ?_
                refine g_callS d_Mo_isTerm_238 k_Mo_word l_Mo_157 s_Mo_word (by rfl) (by rfl) (Nat.le_of_ble_eq_true rfl) (by decide) (C_Mo_word ⟨_, rfl, ?_⟩)
                refine g_lcmp d_Mo_isTerm_241 ?_
                refine g_if_ne (tgt := 261) d_Mo_isTerm_242 (by decide) (fun h242 => ?_) (fun h242 => ?_)
                · rw [lg_cmp_eq] at h242
                  rw [if_neg (fun z => h242 z.1)] at hQ
                  have hF := hQ Z hR rfl
                  refine g_iconst (v := 0) d_Mo_isTerm_261 rfl ?_
                  refine g_zret d_Mo_isTerm_262 ?_ ?_
                  · first | rfl | exact zb_nar _ | exact zb_narc (by assumption)
                  · exact hF
                · rw [lg_cmp_eq] at h242
                  refine g_iload_n d_Mo_isTerm_245 rfl 2 rfl ?_
                  refine g_iconst (v := 2) d_Mo_isTerm_246 rfl ?_
                  refine g_icmp_eq (tgt := 261) d_Mo_isTerm_247 (by decide) (fun h247 => ?_) (fun h247 => ?_)
                  · rw [if_neg (fun z => z.2 h247)] at hQ
                    have hF := hQ Z hR rfl
                    refine g_iconst (v := 0) d_Mo_isTerm_261 rfl ?_
                    refine g_zret d_Mo_isTerm_262 ?_ ?_
                    · first | rfl | exact zb_nar _ | exact zb_narc (by assumption)
                    · exact hF
                  · rw [if_pos ⟨h242, h247⟩] at hQ
                    refine g_aload_nq d_Mo_isTerm_250 rfl 1 rfl ?_
                    refine g_callV d_Mo_isTerm_251 k_Mo_isDigitNext l_Mo_161 i_Mo_isDigitNext rfl p_Mo_isDigitNext hm (by rfl) (by rfl) (Nat.le_of_ble_eq_true rfl) (by decide) (C_Mo_isDigitNext hR hL hw.1 hw.2.2 hq (fun Z1 hR1 B1 => ⟨_, rfl, ?_⟩))
                    first | refine g_if_eqB (tgt := 261) d_Mo_isTerm_254 (by decide) (fun h254 => ?_) (fun h254 => ?_) | refine g_if_eq (tgt := 261) d_Mo_isTerm_254 (by decide) (fun h254 => ?_) (fun h254 => ?_)
                    · have hF := hQ Z1 hR1 B1
                      rw [zb_f h254] at hF
                      refine g_iconst (v := 0) d_Mo_isTerm_261 rfl ?_
                      refine g_zret d_Mo_isTerm_262 ?_ ?_
                      · first | rfl | exact zb_nar _ | exact zb_narc (by assumption)
                      · exact hF
                    · have hF := hQ Z1 hR1 B1
                      rw [zb_t h254] at hF
                      refine g_iconst (v := 1) d_Mo_isTerm_257 rfl ?_
                      refine g_goto (tgt := 262) d_Mo_isTerm_258 (by decide) ?_
                      refine g_zret d_Mo_isTerm_262 ?_ ?_
                      · first | rfl | exact zb_nar _ | exact zb_narc (by assumption)
                      · exact hF
              · rw [lg_cmp_eq] at h217
                rw [if_pos h217] at hQ
                refine g_aload_nq d_Mo_isTerm_220 rfl 1 rfl ?_
                refine g_iconst (v := 5) d_Mo_isTerm_221 rfl ?_
                refine g_iconst (v := 0) d_Mo_isTerm_222 rfl ?_
                refine g_callV d_Mo_isTerm_223 k_Mo_put l_Mo_141 i_Mo_put rfl p_Mo_put hm (by rfl) (by rfl) (Nat.le_of_ble_eq_true rfl) (by decide) (C_Mo_put hR hq.1 (by have := hq.2.1; omega) hq.2.2 (fun Z1 hR1 B1 => ⟨_, rfl, ?_⟩))
                refine g_goto (tgt := 263) d_Mo_isTerm_226 (by decide) ?_
                refine g_iconst (v := 1) d_Mo_isTerm_263 rfl ?_
                refine g_zret d_Mo_isTerm_264 ?_ ?_
                · first | rfl | exact zb_nar _ | exact zb_narc (by assumption)
                · exact hQ Z1 hR1 B1
            · rw [lg_cmp_eq] at h186
              refine g_iload_n d_Mo_isTerm_189 rfl 2 rfl ?_
              first | refine g_if_eqB (tgt := 202) d_Mo_isTerm_190 (by decide) (fun h190 => ?_) (fun h190 => ?_) | refine g_if_eq (tgt := 202) d_Mo_isTerm_190 (by decide) (fun h190 => ?_) (fun h190 => ?_)
              · rw [if_neg (fun z => z.2 h190)] at hQ
                refine g_lload_n d_Mo_isTerm_202 rfl 0 rfl ?_
                refine g_bipush (v := 115) d_Mo_isTerm_203 rfl ?_
                refine g_bipush (v := 104) d_Mo_isTerm_205 rfl ?_
                refine g_bipush (v := 101) d_Mo_isTerm_207 rfl ?_
                refine g_bipush (v := 101) d_Mo_isTerm_209 rfl ?_
                refine g_bipush (v := 116) d_Mo_isTerm_211 rfl ?_
                refine g_callS d_Mo_isTerm_213 k_Mo_word l_Mo_157 s_Mo_word (by rfl) (by rfl) (Nat.le_of_ble_eq_true rfl) (by decide) (C_Mo_word ⟨_, rfl, ?_⟩)
                refine g_lcmp d_Mo_isTerm_216 ?_
                refine g_if_ne (tgt := 229) d_Mo_isTerm_217 (by decide) (fun h217 => ?_) (fun h217 => ?_)
                · rw [lg_cmp_eq] at h217
                  rw [if_neg (h217)] at hQ
                  refine g_lload_n d_Mo_isTerm_229 rfl 0 rfl ?_
                  refine g_bipush (v := 97) d_Mo_isTerm_230 rfl ?_
                  refine g_bipush (v := 110) d_Mo_isTerm_232 rfl ?_
                  refine g_bipush (v := 121) d_Mo_isTerm_234 rfl ?_
                  refine g_iconst (v := 0) d_Mo_isTerm_236 rfl ?_
                  refine g_iconst (v := 0) d_Mo_isTerm_237 rfl ?_
                  refine g_callS d_Mo_isTerm_238 k_Mo_word l_Mo_157 s_Mo_word (by rfl) (by rfl) (Nat.le_of_ble_eq_true rfl) (by decide) (C_Mo_word ⟨_, rfl, ?_⟩)
                  refine g_lcmp d_Mo_isTerm_241 ?_
                  refine g_if_ne (tgt := 261) d_Mo_isTerm_242 (by decide) (fun h242 => ?_) (fun h242 => ?_)
                  · rw [lg_cmp_eq] at h242
                    rw [if_neg (fun z => h242 z.1)] at hQ
                    have hF := hQ Z hR rfl
                    refine g_iconst (v := 0) d_Mo_isTerm_261 rfl ?_
                    refine g_zret d_Mo_isTerm_262 ?_ ?_
                    · first | rfl | exact zb_nar _ | exact zb_narc (by assumption)
                    · exact hF
                  · rw [lg_cmp_eq] at h242
                    refine g_iload_n d_Mo_isTerm_245 rfl 2 rfl ?_
                    refine g_iconst (v := 2) d_Mo_isTerm_246 rfl ?_
                    refine g_icmp_eq (tgt := 261) d_Mo_isTerm_247 (by decide) (fun h247 => ?_) (fun h247 => ?_)
                    · rw [if_neg (fun z => z.2 h247)] at hQ
                      have hF := hQ Z hR rfl
                      refine g_iconst (v := 0) d_Mo_isTerm_261 rfl ?_
                      refine g_zret d_Mo_isTerm_262 ?_ ?_
                      · first | rfl | exact zb_nar _ | exact zb_narc (by assumption)
                      · exact hF
                    · rw [if_pos ⟨h242, h247⟩] at hQ
                      refine g_aload_nq d_Mo_isTerm_250 rfl 1 rfl ?_
                      refine g_callV d_Mo_isTerm_251 k_Mo_isDigitNext l_Mo_161 i_Mo_isDigitNext rfl p_Mo_isDigitNext hm (by rfl) (by rfl) (Nat.le_of_ble_eq_true rfl) (by decide) (C_Mo_isDigitNext hR hL hw.1 hw.2.2 hq (fun Z1 hR1 B1 => ⟨_, rfl, ?_⟩))
                      first | refine g_if_eqB (tgt := 261) d_Mo_isTerm_254 (by decide) (fun h254 => ?_) (fun h254 => ?_) | refine g_if_eq (tgt := 261) d_Mo_isTerm_254 (by decide) (fun h254 => ?_) (fun h254 => ?_)
                      · have hF := hQ Z1 hR1 B1
                        rw [zb_f h254] at hF
                        refine g_iconst (v := 0) d_Mo_isTerm_261 rfl ?_
                        refine g_zret d_Mo_isTerm_262 ?_ ?_
                        · first | rfl | exact zb_nar _ | exact zb_narc (by assumption)
                        · exact hF
                      · have hF := hQ Z1 hR1 B1
                        rw [zb_t h254] at hF
                        refine g_iconst (v := 1) d_Mo_isTerm_257 rfl ?_
                        refine g_goto (tgt := 262) d_Mo_isTerm_258 (by decide) ?_
                        refine g_zret d_Mo_isTerm_262 ?_ ?_
                        · first | rfl | exact zb_nar _ | exact zb_narc (by assumption)
                        · exact hF
                · rw [lg_cmp_eq] at h217
                  rw [if_pos h217] at hQ
                  refine g_aload_nq d_Mo_isTerm_220 rfl 1 rfl ?_
                  refine g_iconst (v := 5) d_Mo_isTerm_221 rfl ?_
                  refine g_iconst (v := 0) d_Mo_isTerm_222 rfl ?_
                  refine g_callV d_Mo_isTerm_223 k_Mo_put l_Mo_141 i_Mo_put rfl p_Mo_put hm (by rfl) (by rfl) (Nat.le_of_ble_eq_true rfl) (by decide) (C_Mo_put hR hq.1 (by have := hq.2.1; omega) hq.2.2 (fun Z1 hR1 B1 => ⟨_, rfl, ?_⟩))
                  refine g_goto (tgt := 263) d_Mo_isTerm_226 (by decide) ?_
                  refine g_iconst (v := 1) d_Mo_isTerm_263 rfl ?_
                  refine g_zret d_Mo_isTerm_264 ?_ ?_
                  · first | rfl | exact zb_nar _ | exact zb_narc (by assumption)
                  · exact hQ Z1 hR1 B1
              · rw [if_pos ⟨h186, h190⟩] at hQ
                refine g_aload_nq d_Mo_isTerm_193 rfl 1 rfl ?_
                refine g_iconst (v := 4) d_Mo_isTerm_194 rfl ?_
                refine g_iconst (v := 0) d_Mo_isTerm_195 rfl ?_
                refine g_callV d_Mo_isTerm_196 k_Mo_put l_Mo_141 i_Mo_put rfl p_Mo_put hm (by rfl) (by rfl) (Nat.le_of_ble_eq_true rfl) (by decide) (C_Mo_put hR hq.1 (by have := hq.2.1; omega) hq.2.2 (fun Z1 hR1 B1 => ⟨_, rfl, ?_⟩))
                refine g_goto (tgt := 263) d_Mo_isTerm_199 (by decide) ?_
                refine g_iconst (v := 1) d_Mo_isTerm_263 rfl ?_
                refine g_zret d_Mo_isTerm_264 ?_ ?_
                · first | rfl | exact zb_nar _ | exact zb_narc (by assumption)
                · exact hQ Z1 hR1 B1
          · rw [lg_cmp_eq] at h155
            refine g_iload_n d_Mo_isTerm_158 rfl 2 rfl ?_
            refine g_iconst (v := 2) d_Mo_isTerm_159 rfl ?_
            refine g_icmp_ne (tgt := 172) d_Mo_isTerm_160 (by decide) (fun h160 => ?_) (fun h160 => ?_)
            · rw [if_neg (fun z => h160 z.2)] at hQ
              refine g_lload_n d_Mo_isTerm_172 rfl 0 rfl ?_
              refine g_bipush (v := 110) d_Mo_isTerm_173 rfl ?_
              refine g_bipush (v := 97) d_Mo_isTerm_175 rfl ?_
              refine g_bipush (v := 109) d_Mo_isTerm_177 rfl ?_
              refine g_bipush (v := 101) d_Mo_isTerm_179 rfl ?_
              refine g_iconst (v := 0) d_Mo_isTerm_181 rfl ?_
              refine g_callS d_Mo_isTerm_182 k_Mo_word l_Mo_157 s_Mo_word (by rfl) (by rfl) (Nat.le_of_ble_eq_true rfl) (by decide) (C_Mo_word ⟨_, rfl, ?_⟩)
              refine g_lcmp d_Mo_isTerm_185 ?_
              refine g_if_ne (tgt := 202) d_Mo_isTerm_186 (by decide) (fun h186 => ?_) (fun h186 => ?_)
              · rw [lg_cmp_eq] at h186
                rw [if_neg (fun z => h186 z.1)] at hQ
                refine g_lload_n d_Mo_isTerm_202 rfl 0 rfl ?_
                refine g_bipush (v := 115) d_Mo_isTerm_203 rfl ?_
                refine g_bipush (v := 104) d_Mo_isTerm_205 rfl ?_
                refine g_bipush (v := 101) d_Mo_isTerm_207 rfl ?_
                refine g_bipush (v := 101) d_Mo_isTerm_209 rfl ?_
                refine g_bipush (v := 116) d_Mo_isTerm_211 rfl ?_
                refine g_callS d_Mo_isTerm_213 k_Mo_word l_Mo_157 s_Mo_word (by rfl) (by rfl) (Nat.le_of_ble_eq_true rfl) (by decide) (C_Mo_word ⟨_, rfl, ?_⟩)
                refine g_lcmp d_Mo_isTerm_216 ?_
                refine g_if_ne (tgt := 229) d_Mo_isTerm_217 (by decide) (fun h217 => ?_) (fun h217 => ?_)
                · rw [lg_cmp_eq] at h217
                  rw [if_neg (h217)] at hQ
                  refine g_lload_n d_Mo_isTerm_229 rfl 0 rfl ?_
                  refine g_bipush (v := 97) d_Mo_isTerm_230 rfl ?_
                  refine g_bipush (v := 110) d_Mo_isTerm_232 rfl ?_
                  refine g_bipush (v := 121) d_Mo_isTerm_234 rfl ?_
                  refine g_iconst (v := 0) d_Mo_isTerm_236 rfl ?_
                  refine g_iconst (v := 0) d_Mo_isTerm_237 rfl ?_
                  refine g_callS d_Mo_isTerm_238 k_Mo_word l_Mo_157 s_Mo_word (by rfl) (by rfl) (Nat.le_of_ble_eq_true rfl) (by decide) (C_Mo_word ⟨_, rfl, ?_⟩)
                  refine g_lcmp d_Mo_isTerm_241 ?_
                  refine g_if_ne (tgt := 261) d_Mo_isTerm_242 (by decide) (fun h242 => ?_) (fun h242 => ?_)
                  · rw [lg_cmp_eq] at h242
                    rw [if_neg (fun z => h242 z.1)] at hQ
                    have hF := hQ Z hR rfl
                    refine g_iconst (v := 0) d_Mo_isTerm_261 rfl ?_
                    refine g_zret d_Mo_isTerm_262 ?_ ?_
                    · first | rfl | exact zb_nar _ | exact zb_narc (by assumption)
                    · exact hF
                  · rw [lg_cmp_eq] at h242
                    refine g_iload_n d_Mo_isTerm_245 rfl 2 rfl ?_
                    refine g_iconst (v := 2) d_Mo_isTerm_246 rfl ?_
                    refine g_icmp_eq (tgt := 261) d_Mo_isTerm_247 (by decide) (fun h247 => ?_) (fun h247 => ?_)
                    · rw [if_neg (fun z => z.2 h247)] at hQ
                      have hF := hQ Z hR rfl
                      refine g_iconst (v := 0) d_Mo_isTerm_261 rfl ?_
                      refine g_zret d_Mo_isTerm_262 ?_ ?_
                      · first | rfl | exact zb_nar _ | exact zb_narc (by assumption)
                      · exact hF
                    · rw [if_pos ⟨h242, h247⟩] at hQ
                      refine g_aload_nq d_Mo_isTerm_250 rfl 1 rfl ?_
                      refine g_callV d_Mo_isTerm_251 k_Mo_isDigitNext l_Mo_161 i_Mo_isDigitNext rfl p_Mo_isDigitNext hm (by rfl) (by rfl) (Nat.le_of_ble_eq_true rfl) (by decide) (C_Mo_isDigitNext hR hL hw.1 hw.2.2 hq (fun Z1 hR1 B1 => ⟨_, rfl, ?_⟩))
                      first | refine g_if_eqB (tgt := 261) d_Mo_isTerm_254 (by decide) (fun h254 => ?_) (fun h254 => ?_) | refine g_if_eq (tgt := 261) d_Mo_isTerm_254 (by decide) (fun h254 => ?_) (fun h254 => ?_)
                      · have hF := hQ Z1 hR1 B1
                        rw [zb_f h254] at hF
                        refine g_iconst (v := 0) d_Mo_isTerm_261 rfl ?_
                        refine g_zret d_Mo_isTerm_262 ?_ ?_
                        · first | rfl | exact zb_nar _ | exact zb_narc (by assumption)
                        · exact hF
                      · have hF := hQ Z1 hR1 B1
                        rw [zb_t h254] at hF
                        refine g_iconst (v := 1) d_Mo_isTerm_257 rfl ?_
                        refine g_goto (tgt := 262) d_Mo_isTerm_258 (by decide) ?_
                        refine g_zret d_Mo_isTerm_262 ?_ ?_
                        · first | rfl | exact zb_nar _ | exact zb_narc (by assumption)
                        · exact hF
                · rw [lg_cmp_eq] at h217
                  rw [if_pos h217] at hQ
                  refine g_aload_nq d_Mo_isTerm_220 rfl 1 rfl ?_
                  refine g_iconst (v := 5) d_Mo_isTerm_221 rfl ?_
                  refine g_iconst (v := 0) d_Mo_isTerm_222 rfl ?_
                  refine g_callV d_Mo_isTerm_223 k_Mo_put l_Mo_141 i_Mo_put rfl p_Mo_put hm (by rfl) (by rfl) (Nat.le_of_ble_eq_true rfl) (by decide) (C_Mo_put hR hq.1 (by have := hq.2.1; omega) hq.2.2 (fun Z1 hR1 B1 => ⟨_, rfl, ?_⟩))
                  refine g_goto (tgt := 263) d_Mo_isTerm_226 (by decide) ?_
                  refine g_iconst (v := 1) d_Mo_isTerm_263 rfl ?_
                  refine g_zret d_Mo_isTerm_264 ?_ ?_
                  · first | rfl | exact zb_nar _ | exact zb_narc (by assumption)
                  · exact hQ Z1 hR1 B1
              · rw [lg_cmp_eq] at h186
                refine g_iload_n d_Mo_isTerm_189 rfl 2 rfl ?_
                first | refine g_if_eqB (tgt := 202) d_Mo_isTerm_190 (by decide) (fun h190 => ?_) (fun h190 => ?_) | refine g_if_eq (tgt := 202) d_Mo_isTerm_190 (by decide) (fun h190 => ?_) (fun h190 => ?_)
                · rw [if_neg (fun z => z.2 h190)] at hQ
                  refine g_lload_n d_Mo_isTerm_202 rfl 0 rfl ?_
                  refine g_bipush (v := 115) d_Mo_isTerm_203 rfl ?_
                  refine g_bipush (v := 104) d_Mo_isTerm_205 rfl ?_
                  refine g_bipush (v := 101) d_Mo_isTerm_207 rfl ?_
                  refine g_bipush (v := 101) d_Mo_isTerm_209 rfl ?_
                  refine g_bipush (v := 116) d_Mo_isTerm_211 rfl ?_
                  refine g_callS d_Mo_isTerm_213 k_Mo_word l_Mo_157 s_Mo_word (by rfl) (by rfl) (Nat.le_of_ble_eq_true rfl) (by decide) (C_Mo_word ⟨_, rfl, ?_⟩)
                  refine g_lcmp d_Mo_isTerm_216 ?_
                  refine g_if_ne (tgt := 229) d_Mo_isTerm_217 (by decide) (fun h217 => ?_) (fun h217 => ?_)
                  · rw [lg_cmp_eq] at h217
                    rw [if_neg (h217)] at hQ
                    refine g_lload_n d_Mo_isTerm_229 rfl 0 rfl ?_
                    refine g_bipush (v := 97) d_Mo_isTerm_230 rfl ?_
                    refine g_bipush (v := 110) d_Mo_isTerm_232 rfl ?_
                    refine g_bipush (v := 121) d_Mo_isTerm_234 rfl ?_
                    refine g_iconst (v := 0) d_Mo_isTerm_236 rfl ?_
                    refine g_iconst (v := 0) d_Mo_isTerm_237 rfl ?_
                    refine g_callS d_Mo_isTerm_238 k_Mo_word l_Mo_157 s_Mo_word (by rfl) (by rfl) (Nat.le_of_ble_eq_true rfl) (by decide) (C_Mo_word ⟨_, rfl, ?_⟩)
                    refine g_lcmp d_Mo_isTerm_241 ?_
                    refine g_if_ne (tgt := 261) d_Mo_isTerm_242 (by decide) (fun h242 => ?_) (fun h242 => ?_)
                    · rw [lg_cmp_eq] at h242
                      rw [if_neg (fun z => h242 z.1)] at hQ
                      have hF := hQ Z hR rfl
                      refine g_iconst (v := 0) d_Mo_isTerm_261 rfl ?_
                      refine g_zret d_Mo_isTerm_262 ?_ ?_
                      · first | rfl | exact zb_nar _ | exact zb_narc (by assumption)
                      · exact hF
                    · rw [lg_cmp_eq] at h242
                      refine g_iload_n d_Mo_isTerm_245 rfl 2 rfl ?_
                      refine g_iconst (v := 2) d_Mo_isTerm_246 rfl ?_
                      refine g_icmp_eq (tgt := 261) d_Mo_isTerm_247 (by decide) (fun h247 => ?_) (fun h247 => ?_)
                      · rw [if_neg (fun z => z.2 h247)] at hQ
                        have hF := hQ Z hR rfl
                        refine g_iconst (v := 0) d_Mo_isTerm_261 rfl ?_
                        refine g_zret d_Mo_isTerm_262 ?_ ?_
                        · first | rfl | exact zb_nar _ | exact zb_narc (by assumption)
                        · exact hF
                      · rw [if_pos ⟨h242, h247⟩] at hQ
                        refine g_aload_nq d_Mo_isTerm_250 rfl 1 rfl ?_
                        refine g_callV d_Mo_isTerm_251 k_Mo_isDigitNext l_Mo_161 i_Mo_isDigitNext rfl p_Mo_isDigitNext hm (by rfl) (by rfl) (Nat.le_of_ble_eq_true rfl) (by decide) (C_Mo_isDigitNext hR hL hw.1 hw.2.2 hq (fun Z1 hR1 B1 => ⟨_, rfl, ?_⟩))
                        first | refine g_if_eqB (tgt := 261) d_Mo_isTerm_254 (by decide) (fun h254 => ?_) (fun h254 => ?_) | refine g_if_eq (tgt := 261) d_Mo_isTerm_254 (by decide) (fun h254 => ?_) (fun h254 => ?_)
                        · have hF := hQ Z1 hR1 B1
                          rw [zb_f h254] at hF
                          refine g_iconst (v := 0) d_Mo_isTerm_261 rfl ?_
                          refine g_zret d_Mo_isTerm_262 ?_ ?_
                          · first | rfl | exact zb_nar _ | exact zb_narc (by assumption)
                          · exact hF
                        · have hF := hQ Z1 hR1 B1
                          rw [zb_t h254] at hF
                          refine g_iconst (v := 1) d_Mo_isTerm_257 rfl ?_
                          refine g_goto (tgt := 262) d_Mo_isTerm_258 (by decide) ?_
                          refine g_zret d_Mo_isTerm_262 ?_ ?_
                          · first | rfl | exact zb_nar _ | exact zb_narc (by assumption)
                          · exact hF
                  · rw [lg_cmp_eq] at h217
                    rw [if_pos h217] at hQ
                    refine g_aload_nq d_Mo_isTerm_220 rfl 1 rfl ?_
                    refine g_iconst (v := 5) d_Mo_isTerm_221 rfl ?_
                    refine g_iconst (v := 0) d_Mo_isTerm_222 rfl ?_
                    refine g_callV d_Mo_isTerm_223 k_Mo_put l_Mo_141 i_Mo_put rfl p_Mo_put hm (by rfl) (by rfl) (Nat.le_of_ble_eq_true rfl) (by decide) (C_Mo_put hR hq.1 (by have := hq.2.1; omega) hq.2.2 (fun Z1 hR1 B1 => ⟨_, rfl, ?_⟩))
                    refine g_goto (tgt := 263) d_Mo_isTerm_226 (by decide) ?_
                    refine g_iconst (v := 1) d_Mo_isTerm_263 rfl ?_
                    refine g_zret d_Mo_isTerm_264 ?_ ?_
                    · first | rfl | exact zb_nar _ | exact zb_narc (by assumption)
                    · exact hQ Z1 hR1 B1
                · rw [if_pos ⟨h186, h190⟩] at hQ
                  refine g_aload_nq d_Mo_isTerm_193 rfl 1 rfl ?_
                  refine g_iconst (v := 4) d_Mo_isTerm_194 rfl ?_
                  refine g_iconst (v := 0) d_Mo_isTerm_195 rfl ?_
                  refine g_callV d_Mo_isTerm_196 k_Mo_put l_Mo_141 i_Mo_put rfl p_Mo_put hm (by rfl) (by rfl) (Nat.le_of_ble_eq_true rfl) (by decide) (C_Mo_put hR hq.1 (by have := hq.2.1; omega) hq.2.2 (fun Z1 hR1 B1 => ⟨_, rfl, ?_⟩))
                  refine g_goto (tgt := 263) d_Mo_isTerm_199 (by decide) ?_
                  refine g_iconst (v := 1) d_Mo_isTerm_263 rfl ?_
                  refine g_zret d_Mo_isTerm_264 ?_ ?_
                  · first | rfl | exact zb_nar _ | exact zb_narc (by assumption)
                  · exact hQ Z1 hR1 B1
            · rw [if_pos ⟨h155, h160⟩] at hQ
              refine g_aload_nq d_Mo_isTerm_163 rfl 1 rfl ?_
              refine g_iconst (v := 3) d_Mo_isTerm_164 rfl ?_
              refine g_iconst (v := 0) d_Mo_isTerm_165 rfl ?_
              refine g_callV d_Mo_isTerm_166 k_Mo_put l_Mo_141 i_Mo_put rfl p_Mo_put hm (by rfl) (by rfl) (Nat.le_of_ble_eq_true rfl) (by decide) (C_Mo_put hR hq.1 (by have := hq.2.1; omega) hq.2.2 (fun Z1 hR1 B1 => ⟨_, rfl, ?_⟩))
              refine g_goto (tgt := 263) d_Mo_isTerm_169 (by decide) ?_
              refine g_iconst (v := 1) d_Mo_isTerm_263 rfl ?_
              refine g_zret d_Mo_isTerm_264 ?_ ?_
              · first | rfl | exact zb_nar _ | exact zb_narc (by assumption)
              · exact hQ Z1 hR1 B1
        · rw [lg_cmp_eq] at h124
          refine g_iload_n d_Mo_isTerm_127 rfl 2 rfl ?_
          refine g_iconst (v := 2) d_Mo_isTerm_128 rfl ?_
          refine g_icmp_eq (tgt := 141) d_Mo_isTerm_129 (by decide) (fun h129 => ?_) (fun h129 => ?_)
          · rw [if_neg (fun z => z.2 h129)] at hQ
            refine g_lload_n d_Mo_isTerm_141 rfl 0 rfl ?_
            refine g_bipush (v := 107) d_Mo_isTerm_142 rfl ?_
            refine g_bipush (v := 105) d_Mo_isTerm_144 rfl ?_
            refine g_bipush (v := 110) d_Mo_isTerm_146 rfl ?_
            refine g_bipush (v := 100) d_Mo_isTerm_148 rfl ?_
            refine g_iconst (v := 0) d_Mo_isTerm_150 rfl ?_
            refine g_callS d_Mo_isTerm_151 k_Mo_word l_Mo_157 s_Mo_word (by rfl) (by rfl) (Nat.le_of_ble_eq_true rfl) (by decide) (C_Mo_word ⟨_, rfl, ?_⟩)
            refine g_lcmp d_Mo_isTerm_154 ?_
            refine g_if_ne (tgt := 172) d_Mo_isTerm_155 (by decide) (fun h155 => ?_) (fun h155 => ?_)
            · rw [lg_cmp_eq] at h155
              rw [if_neg (fun z => h155 z.1)] at hQ
              refine g_lload_n d_Mo_isTerm_172 rfl 0 rfl ?_
              refine g_bipush (v := 110) d_Mo_isTerm_173 rfl ?_
              refine g_bipush (v := 97) d_Mo_isTerm_175 rfl ?_
              refine g_bipush (v := 109) d_Mo_isTerm_177 rfl ?_
              refine g_bipush (v := 101) d_Mo_isTerm_179 rfl ?_
              refine g_iconst (v := 0) d_Mo_isTerm_181 rfl ?_
              refine g_callS d_Mo_isTerm_182 k_Mo_word l_Mo_157 s_Mo_word (by rfl) (by rfl) (Nat.le_of_ble_eq_true rfl) (by decide) (C_Mo_word ⟨_, rfl, ?_⟩)
              refine g_lcmp d_Mo_isTerm_185 ?_
              refine g_if_ne (tgt := 202) d_Mo_isTerm_186 (by decide) (fun h186 => ?_) (fun h186 => ?_)
              · rw [lg_cmp_eq] at h186
                rw [if_neg (fun z => h186 z.1)] at hQ
                refine g_lload_n d_Mo_isTerm_202 rfl 0 rfl ?_
                refine g_bipush (v := 115) d_Mo_isTerm_203 rfl ?_
                refine g_bipush (v := 104) d_Mo_isTerm_205 rfl ?_
                refine g_bipush (v := 101) d_Mo_isTerm_207 rfl ?_
                refine g_bipush (v := 101) d_Mo_isTerm_209 rfl ?_
                refine g_bipush (v := 116) d_Mo_isTerm_211 rfl ?_
                refine g_callS d_Mo_isTerm_213 k_Mo_word l_Mo_157 s_Mo_word (by rfl) (by rfl) (Nat.le_of_ble_eq_true rfl) (by decide) (C_Mo_word ⟨_, rfl, ?_⟩)
                refine g_lcmp d_Mo_isTerm_216 ?_
                refine g_if_ne (tgt := 229) d_Mo_isTerm_217 (by decide) (fun h217 => ?_) (fun h217 => ?_)
                · rw [lg_cmp_eq] at h217
                  rw [if_neg (h217)] at hQ
                  refine g_lload_n d_Mo_isTerm_229 rfl 0 rfl ?_
                  refine g_bipush (v := 97) d_Mo_isTerm_230 rfl ?_
                  refine g_bipush (v := 110) d_Mo_isTerm_232 rfl ?_
                  refine g_bipush (v := 121) d_Mo_isTerm_234 rfl ?_
                  refine g_iconst (v := 0) d_Mo_isTerm_236 rfl ?_
                  refine g_iconst (v := 0) d_Mo_isTerm_237 rfl ?_
                  refine g_callS d_Mo_isTerm_238 k_Mo_word l_Mo_157 s_Mo_word (by rfl) (by rfl) (Nat.le_of_ble_eq_true rfl) (by decide) (C_Mo_word ⟨_, rfl, ?_⟩)
                  refine g_lcmp d_Mo_isTerm_241 ?_
                  refine g_if_ne (tgt := 261) d_Mo_isTerm_242 (by decide) (fun h242 => ?_) (fun h242 => ?_)
                  · rw [lg_cmp_eq] at h242
                    rw [if_neg (fun z => h242 z.1)] at hQ
                    have hF := hQ Z hR rfl
                    refine g_iconst (v := 0) d_Mo_isTerm_261 rfl ?_
                    refine g_zret d_Mo_isTerm_262 ?_ ?_
                    · first | rfl | exact zb_nar _ | exact zb_narc (by assumption)
                    · exact hF
                  · rw [lg_cmp_eq] at h242
                    refine g_iload_n d_Mo_isTerm_245 rfl 2 rfl ?_
                    refine g_iconst (v := 2) d_Mo_isTerm_246 rfl ?_
                    refine g_icmp_eq (tgt := 261) d_Mo_isTerm_247 (by decide) (fun h247 => ?_) (fun h247 => ?_)
                    · rw [if_neg (fun z => z.2 h247)] at hQ
                      have hF := hQ Z hR rfl
                      refine g_iconst (v := 0) d_Mo_isTerm_261 rfl ?_
                      refine g_zret d_Mo_isTerm_262 ?_ ?_
                      · first | rfl | exact zb_nar _ | exact zb_narc (by assumption)
                      · exact hF
                    · rw [if_pos ⟨h242, h247⟩] at hQ
                      refine g_aload_nq d_Mo_isTerm_250 rfl 1 rfl ?_
                      refine g_callV d_Mo_isTerm_251 k_Mo_isDigitNext l_Mo_161 i_Mo_isDigitNext rfl p_Mo_isDigitNext hm (by rfl) (by rfl) (Nat.le_of_ble_eq_true rfl) (by decide) (C_Mo_isDigitNext hR hL hw.1 hw.2.2 hq (fun Z1 hR1 B1 => ⟨_, rfl, ?_⟩))
                      first | refine g_if_eqB (tgt := 261) d_Mo_isTerm_254 (by decide) (fun h254 => ?_) (fun h254 => ?_) | refine g_if_eq (tgt := 261) d_Mo_isTerm_254 (by decide) (fun h254 => ?_) (fun h254 => ?_)
                      · have hF := hQ Z1 hR1 B1
                        rw [zb_f h254] at hF
                        refine g_iconst (v := 0) d_Mo_isTerm_261 rfl ?_
                        refine g_zret d_Mo_isTerm_262 ?_ ?_
                        · first | rfl | exact zb_nar _ | exact zb_narc (by assumption)
                        · exact hF
                      · have hF := hQ Z1 hR1 B1
                        rw [zb_t h254] at hF
                        refine g_iconst (v := 1) d_Mo_isTerm_257 rfl ?_
                        refine g_goto (tgt := 262) d_Mo_isTerm_258 (by decide) ?_
                        refine g_zret d_Mo_isTerm_262 ?_ ?_
                        · first | rfl | exact zb_nar _ | exact zb_narc (by assumption)
                        · exact hF
                · rw [lg_cmp_eq] at h217
                  rw [if_pos h217] at hQ
                  refine g_aload_nq d_Mo_isTerm_220 rfl 1 rfl ?_
                  refine g_iconst (v := 5) d_Mo_isTerm_221 rfl ?_
                  refine g_iconst (v := 0) d_Mo_isTerm_222 rfl ?_
                  refine g_callV d_Mo_isTerm_223 k_Mo_put l_Mo_141 i_Mo_put rfl p_Mo_put hm (by rfl) (by rfl) (Nat.le_of_ble_eq_true rfl) (by decide) (C_Mo_put hR hq.1 (by have := hq.2.1; omega) hq.2.2 (fun Z1 hR1 B1 => ⟨_, rfl, ?_⟩))
                  refine g_goto (tgt := 263) d_Mo_isTerm_226 (by decide) ?_
                  refine g_iconst (v := 1) d_Mo_isTerm_263 rfl ?_
                  refine g_zret d_Mo_isTerm_264 ?_ ?_
                  · first | rfl | exact zb_nar _ | exact zb_narc (by assumption)
                  · exact hQ Z1 hR1 B1
              · rw [lg_cmp_eq] at h186
                refine g_iload_n d_Mo_isTerm_189 rfl 2 rfl ?_
                first | refine g_if_eqB (tgt := 202) d_Mo_isTerm_190 (by decide) (fun h190 => ?_) (fun h190 => ?_) | refine g_if_eq (tgt := 202) d_Mo_isTerm_190 (by decide) (fun h190 => ?_) (fun h190 => ?_)
                · rw [if_neg (fun z => z.2 h190)] at hQ
                  refine g_lload_n d_Mo_isTerm_202 rfl 0 rfl ?_
                  refine g_bipush (v := 115) d_Mo_isTerm_203 rfl ?_
                  refine g_bipush (v := 104) d_Mo_isTerm_205 rfl ?_
                  refine g_bipush (v := 101) d_Mo_isTerm_207 rfl ?_
                  refine g_bipush (v := 101) d_Mo_isTerm_209 rfl ?_
                  refine g_bipush (v := 116) d_Mo_isTerm_211 rfl ?_
                  refine g_callS d_Mo_isTerm_213 k_Mo_word l_Mo_157 s_Mo_word (by rfl) (by rfl) (Nat.le_of_ble_eq_true rfl) (by decide) (C_Mo_word ⟨_, rfl, ?_⟩)
                  refine g_lcmp d_Mo_isTerm_216 ?_
                  refine g_if_ne (tgt := 229) d_Mo_isTerm_217 (by decide) (fun h217 => ?_) (fun h217 => ?_)
                  · rw [lg_cmp_eq] at h217
                    rw [if_neg (h217)] at hQ
                    refine g_lload_n d_Mo_isTerm_229 rfl 0 rfl ?_
                    refine g_bipush (v := 97) d_Mo_isTerm_230 rfl ?_
                    refine g_bipush (v := 110) d_Mo_isTerm_232 rfl ?_
                    refine g_bipush (v := 121) d_Mo_isTerm_234 rfl ?_
                    refine g_iconst (v := 0) d_Mo_isTerm_236 rfl ?_
                    refine g_iconst (v := 0) d_Mo_isTerm_237 rfl ?_
                    refine g_callS d_Mo_isTerm_238 k_Mo_word l_Mo_157 s_Mo_word (by rfl) (by rfl) (Nat.le_of_ble_eq_true rfl) (by decide) (C_Mo_word ⟨_, rfl, ?_⟩)
                    refine g_lcmp d_Mo_isTerm_241 ?_
                    refine g_if_ne (tgt := 261) d_Mo_isTerm_242 (by decide) (fun h242 => ?_) (fun h242 => ?_)
                    · rw [lg_cmp_eq] at h242
                      rw [if_neg (fun z => h242 z.1)] at hQ
                      have hF := hQ Z hR rfl
                      refine g_iconst (v := 0) d_Mo_isTerm_261 rfl ?_
                      refine g_zret d_Mo_isTerm_262 ?_ ?_
                      · first | rfl | exact zb_nar _ | exact zb_narc (by assumption)
                      · exact hF
                    · rw [lg_cmp_eq] at h242
                      refine g_iload_n d_Mo_isTerm_245 rfl 2 rfl ?_
                      refine g_iconst (v := 2) d_Mo_isTerm_246 rfl ?_
                      refine g_icmp_eq (tgt := 261) d_Mo_isTerm_247 (by decide) (fun h247 => ?_) (fun h247 => ?_)
                      · rw [if_neg (fun z => z.2 h247)] at hQ
                        have hF := hQ Z hR rfl
                        refine g_iconst (v := 0) d_Mo_isTerm_261 rfl ?_
                        refine g_zret d_Mo_isTerm_262 ?_ ?_
                        · first | rfl | exact zb_nar _ | exact zb_narc (by assumption)
                        · exact hF
                      · rw [if_pos ⟨h242, h247⟩] at hQ
                        refine g_aload_nq d_Mo_isTerm_250 rfl 1 rfl ?_
                        refine g_callV d_Mo_isTerm_251 k_Mo_isDigitNext l_Mo_161 i_Mo_isDigitNext rfl p_Mo_isDigitNext hm (by rfl) (by rfl) (Nat.le_of_ble_eq_true rfl) (by decide) (C_Mo_isDigitNext hR hL hw.1 hw.2.2 hq (fun Z1 hR1 B1 => ⟨_, rfl, ?_⟩))
                        first | refine g_if_eqB (tgt := 261) d_Mo_isTerm_254 (by decide) (fun h254 => ?_) (fun h254 => ?_) | refine g_if_eq (tgt := 261) d_Mo_isTerm_254 (by decide) (fun h254 => ?_) (fun h254 => ?_)
                        · have hF := hQ Z1 hR1 B1
                          rw [zb_f h254] at hF
                          refine g_iconst (v := 0) d_Mo_isTerm_261 rfl ?_
                          refine g_zret d_Mo_isTerm_262 ?_ ?_
                          · first | rfl | exact zb_nar _ | exact zb_narc (by assumption)
                          · exact hF
                        · have hF := hQ Z1 hR1 B1
                          rw [zb_t h254] at hF
                          refine g_iconst (v := 1) d_Mo_isTerm_257 rfl ?_
                          refine g_goto (tgt := 262) d_Mo_isTerm_258 (by decide) ?_
                          refine g_zret d_Mo_isTerm_262 ?_ ?_
                          · first | rfl | exact zb_nar _ | exact zb_narc (by assumption)
                          · exact hF
                  · rw [lg_cmp_eq] at h217
                    rw [if_pos h217] at hQ
                    refine g_aload_nq d_Mo_isTerm_220 rfl 1 rfl ?_
                    refine g_iconst (v := 5) d_Mo_isTerm_221 rfl ?_
                    refine g_iconst (v := 0) d_Mo_isTerm_222 rfl ?_
                    refine g_callV d_Mo_isTerm_223 k_Mo_put l_Mo_141 i_Mo_put rfl p_Mo_put hm (by rfl) (by rfl) (Nat.le_of_ble_eq_true rfl) (by decide) (C_Mo_put hR hq.1 (by have := hq.2.1; omega) hq.2.2 (fun Z1 hR1 B1 => ⟨_, rfl, ?_⟩))
                    refine g_goto (tgt := 263) d_Mo_isTerm_226 (by decide) ?_
                    refine g_iconst (v := 1) d_Mo_isTerm_263 rfl ?_
                    refine g_zret d_Mo_isTerm_264 ?_ ?_
                    · first | rfl | exact zb_nar _ | exact zb_narc (by assumption)
                    · exact hQ Z1 hR1 B1
                · rw [if_pos ⟨h186, h190⟩] at hQ
                  refine g_aload_nq d_Mo_isTerm_193 rfl 1 rfl ?_
                  refine g_iconst (v := 4) d_Mo_isTerm_194 rfl ?_
                  refine g_iconst (v := 0) d_Mo_isTerm_195 rfl ?_
                  refine g_callV d_Mo_isTerm_196 k_Mo_put l_Mo_141 i_Mo_put rfl p_Mo_put hm (by rfl) (by rfl) (Nat.le_of_ble_eq_true rfl) (by decide) (C_Mo_put hR hq.1 (by have := hq.2.1; omega) hq.2.2 (fun Z1 hR1 B1 => ⟨_, rfl, ?_⟩))
                  refine g_goto (tgt := 263) d_Mo_isTerm_199 (by decide) ?_
                  refine g_iconst (v := 1) d_Mo_isTerm_263 rfl ?_
                  refine g_zret d_Mo_isTerm_264 ?_ ?_
                  · first | rfl | exact zb_nar _ | exact zb_narc (by assumption)
                  · exact hQ Z1 hR1 B1
            · rw [lg_cmp_eq] at h155
              refine g_iload_n d_Mo_isTerm_158 rfl 2 rfl ?_
              refine g_iconst (v := 2) d_Mo_isTerm_159 rfl ?_
              refine g_icmp_ne (tgt := 172) d_Mo_isTerm_160 (by decide) (fun h160 => ?_) (fun h160 => ?_)
              · rw [if_neg (fun z => h160 z.2)] at hQ
                refine g_lload_n d_Mo_isTerm_172 rfl 0 rfl ?_
                refine g_bipush (v := 110) d_Mo_isTerm_173 rfl ?_
                refine g_bipush (v := 97) d_Mo_isTerm_175 rfl ?_
                refine g_bipush (v := 109) d_Mo_isTerm_177 rfl ?_
                refine g_bipush (v := 101) d_Mo_isTerm_179 rfl ?_
                refine g_iconst (v := 0) d_Mo_isTerm_181 rfl ?_
                refine g_callS d_Mo_isTerm_182 k_Mo_word l_Mo_157 s_Mo_word (by rfl) (by rfl) (Nat.le_of_ble_eq_true rfl) (by decide) (C_Mo_word ⟨_, rfl, ?_⟩)
                refine g_lcmp d_Mo_isTerm_185 ?_
                refine g_if_ne (tgt := 202) d_Mo_isTerm_186 (by decide) (fun h186 => ?_) (fun h186 => ?_)
                · rw [lg_cmp_eq] at h186
                  rw [if_neg (fun z => h186 z.1)] at hQ
                  refine g_lload_n d_Mo_isTerm_202 rfl 0 rfl ?_
                  refine g_bipush (v := 115) d_Mo_isTerm_203 rfl ?_
                  refine g_bipush (v := 104) d_Mo_isTerm_205 rfl ?_
                  refine g_bipush (v := 101) d_Mo_isTerm_207 rfl ?_
                  refine g_bipush (v := 101) d_Mo_isTerm_209 rfl ?_
                  refine g_bipush (v := 116) d_Mo_isTerm_211 rfl ?_
                  refine g_callS d_Mo_isTerm_213 k_Mo_word l_Mo_157 s_Mo_word (by rfl) (by rfl) (Nat.le_of_ble_eq_true rfl) (by decide) (C_Mo_word ⟨_, rfl, ?_⟩)
                  refine g_lcmp d_Mo_isTerm_216 ?_
                  refine g_if_ne (tgt := 229) d_Mo_isTerm_217 (by decide) (fun h217 => ?_) (fun h217 => ?_)
                  · rw [lg_cmp_eq] at h217
                    rw [if_neg (h217)] at hQ
                    refine g_lload_n d_Mo_isTerm_229 rfl 0 rfl ?_
                    refine g_bipush (v := 97) d_Mo_isTerm_230 rfl ?_
                    refine g_bipush (v := 110) d_Mo_isTerm_232 rfl ?_
                    refine g_bipush (v := 121) d_Mo_isTerm_234 rfl ?_
                    refine g_iconst (v := 0) d_Mo_isTerm_236 rfl ?_
                    refine g_iconst (v := 0) d_Mo_isTerm_237 rfl ?_
                    refine g_callS d_Mo_isTerm_238 k_Mo_word l_Mo_157 s_Mo_word (by rfl) (by rfl) (Nat.le_of_ble_eq_true rfl) (by decide) (C_Mo_word ⟨_, rfl, ?_⟩)
                    refine g_lcmp d_Mo_isTerm_241 ?_
                    refine g_if_ne (tgt := 261) d_Mo_isTerm_242 (by decide) (fun h242 => ?_) (fun h242 => ?_)
                    · rw [lg_cmp_eq] at h242
                      rw [if_neg (fun z => h242 z.1)] at hQ
                      have hF := hQ Z hR rfl
                      refine g_iconst (v := 0) d_Mo_isTerm_261 rfl ?_
                      refine g_zret d_Mo_isTerm_262 ?_ ?_
                      · first | rfl | exact zb_nar _ | exact zb_narc (by assumption)
                      · exact hF
                    · rw [lg_cmp_eq] at h242
                      refine g_iload_n d_Mo_isTerm_245 rfl 2 rfl ?_
                      refine g_iconst (v := 2) d_Mo_isTerm_246 rfl ?_
                      refine g_icmp_eq (tgt := 261) d_Mo_isTerm_247 (by decide) (fun h247 => ?_) (fun h247 => ?_)
                      · rw [if_neg (fun z => z.2 h247)] at hQ
                        have hF := hQ Z hR rfl
                        refine g_iconst (v := 0) d_Mo_isTerm_261 rfl ?_
                        refine g_zret d_Mo_isTerm_262 ?_ ?_
                        · first | rfl | exact zb_nar _ | exact zb_narc (by assumption)
                        · exact hF
                      · rw [if_pos ⟨h242, h247⟩] at hQ
                        refine g_aload_nq d_Mo_isTerm_250 rfl 1 rfl ?_
                        refine g_callV d_Mo_isTerm_251 k_Mo_isDigitNext l_Mo_161 i_Mo_isDigitNext rfl p_Mo_isDigitNext hm (by rfl) (by rfl) (Nat.le_of_ble_eq_true rfl) (by decide) (C_Mo_isDigitNext hR hL hw.1 hw.2.2 hq (fun Z1 hR1 B1 => ⟨_, rfl, ?_⟩))
                        first | refine g_if_eqB (tgt := 261) d_Mo_isTerm_254 (by decide) (fun h254 => ?_) (fun h254 => ?_) | refine g_if_eq (tgt := 261) d_Mo_isTerm_254 (by decide) (fun h254 => ?_) (fun h254 => ?_)
                        · have hF := hQ Z1 hR1 B1
                          rw [zb_f h254] at hF
                          refine g_iconst (v := 0) d_Mo_isTerm_261 rfl ?_
                          refine g_zret d_Mo_isTerm_262 ?_ ?_
                          · first | rfl | exact zb_nar _ | exact zb_narc (by assumption)
                          · exact hF
                        · have hF := hQ Z1 hR1 B1
                          rw [zb_t h254] at hF
                          refine g_iconst (v := 1) d_Mo_isTerm_257 rfl ?_
                          refine g_goto (tgt := 262) d_Mo_isTerm_258 (by decide) ?_
                          refine g_zret d_Mo_isTerm_262 ?_ ?_
                          · first | rfl | exact zb_nar _ | exact zb_narc (by assumption)
                          · exact hF
                  · rw [lg_cmp_eq] at h217
                    rw [if_pos h217] at hQ
                    refine g_aload_nq d_Mo_isTerm_220 rfl 1 rfl ?_
                    refine g_iconst (v := 5) d_Mo_isTerm_221 rfl ?_
                    refine g_iconst (v := 0) d_Mo_isTerm_222 rfl ?_
                    refine g_callV d_Mo_isTerm_223 k_Mo_put l_Mo_141 i_Mo_put rfl p_Mo_put hm (by rfl) (by rfl) (Nat.le_of_ble_eq_true rfl) (by decide) (C_Mo_put hR hq.1 (by have := hq.2.1; omega) hq.2.2 (fun Z1 hR1 B1 => ⟨_, rfl, ?_⟩))
                    refine g_goto (tgt := 263) d_Mo_isTerm_226 (by decide) ?_
                    refine g_iconst (v := 1) d_Mo_isTerm_263 rfl ?_
                    refine g_zret d_Mo_isTerm_264 ?_ ?_
                    · first | rfl | exact zb_nar _ | exact zb_narc (by assumption)
                    · exact hQ Z1 hR1 B1
                · rw [lg_cmp_eq] at h186
                  refine g_iload_n d_Mo_isTerm_189 rfl 2 rfl ?_
                  first | refine g_if_eqB (tgt := 202) d_Mo_isTerm_190 (by decide) (fun h190 => ?_) (fun h190 => ?_) | refine g_if_eq (tgt := 202) d_Mo_isTerm_190 (by decide) (fun h190 => ?_) (fun h190 => ?_)
                  · rw [if_neg (fun z => z.2 h190)] at hQ
                    refine g_lload_n d_Mo_isTerm_202 rfl 0 rfl ?_
                    refine g_bipush (v := 115) d_Mo_isTerm_203 rfl ?_
                    refine g_bipush (v := 104) d_Mo_isTerm_205 rfl ?_
                    refine g_bipush (v := 101) d_Mo_isTerm_207 rfl ?_
                    refine g_bipush (v := 101) d_Mo_isTerm_209 rfl ?_
                    refine g_bipush (v := 116) d_Mo_isTerm_211 rfl ?_
                    refine g_callS d_Mo_isTerm_213 k_Mo_word l_Mo_157 s_Mo_word (by rfl) (by rfl) (Nat.le_of_ble_eq_true rfl) (by decide) (C_Mo_word ⟨_, rfl, ?_⟩)
                    refine g_lcmp d_Mo_isTerm_216 ?_
                    refine g_if_ne (tgt := 229) d_Mo_isTerm_217 (by decide) (fun h217 => ?_) (fun h217 => ?_)
                    · rw [lg_cmp_eq] at h217
                      rw [if_neg (h217)] at hQ
                      refine g_lload_n d_Mo_isTerm_229 rfl 0 rfl ?_
                      refine g_bipush (v := 97) d_Mo_isTerm_230 rfl ?_
                      refine g_bipush (v := 110) d_Mo_isTerm_232 rfl ?_
                      refine g_bipush (v := 121) d_Mo_isTerm_234 rfl ?_
                      refine g_iconst (v := 0) d_Mo_isTerm_236 rfl ?_
                      refine g_iconst (v := 0) d_Mo_isTerm_237 rfl ?_
                      refine g_callS d_Mo_isTerm_238 k_Mo_word l_Mo_157 s_Mo_word (by rfl) (by rfl) (Nat.le_of_ble_eq_true rfl) (by decide) (C_Mo_word ⟨_, rfl, ?_⟩)
                      refine g_lcmp d_Mo_isTerm_241 ?_
                      refine g_if_ne (tgt := 261) d_Mo_isTerm_242 (by decide) (fun h242 => ?_) (fun h242 => ?_)
                      · rw [lg_cmp_eq] at h242
                        rw [if_neg (fun z => h242 z.1)] at hQ
                        have hF := hQ Z hR rfl
                        refine g_iconst (v := 0) d_Mo_isTerm_261 rfl ?_
                        refine g_zret d_Mo_isTerm_262 ?_ ?_
                        · first | rfl | exact zb_nar _ | exact zb_narc (by assumption)
                        · exact hF
                      · rw [lg_cmp_eq] at h242
                        refine g_iload_n d_Mo_isTerm_245 rfl 2 rfl ?_
                        refine g_iconst (v := 2) d_Mo_isTerm_246 rfl ?_
                        refine g_icmp_eq (tgt := 261) d_Mo_isTerm_247 (by decide) (fun h247 => ?_) (fun h247 => ?_)
                        · rw [if_neg (fun z => z.2 h247)] at hQ
                          have hF := hQ Z hR rfl
                          refine g_iconst (v := 0) d_Mo_isTerm_261 rfl ?_
                          refine g_zret d_Mo_isTerm_262 ?_ ?_
                          · first | rfl | exact zb_nar _ | exact zb_narc (by assumption)
                          · exact hF
                        · rw [if_pos ⟨h242, h247⟩] at hQ
                          refine g_aload_nq d_Mo_isTerm_250 rfl 1 rfl ?_
                          refine g_callV d_Mo_isTerm_251 k_Mo_isDigitNext l_Mo_161 i_Mo_isDigitNext rfl p_Mo_isDigitNext hm (by rfl) (by rfl) (Nat.le_of_ble_eq_true rfl) (by decide) (C_Mo_isDigitNext hR hL hw.1 hw.2.2 hq (fun Z1 hR1 B1 => ⟨_, rfl, ?_⟩))
                          first | refine g_if_eqB (tgt := 261) d_Mo_isTerm_254 (by decide) (fun h254 => ?_) (fun h254 => ?_) | refine g_if_eq (tgt := 261) d_Mo_isTerm_254 (by decide) (fun h254 => ?_) (fun h254 => ?_)
                          · have hF := hQ Z1 hR1 B1
                            rw [zb_f h254] at hF
                            refine g_iconst (v := 0) d_Mo_isTerm_261 rfl ?_
                            refine g_zret d_Mo_isTerm_262 ?_ ?_
                            · first | rfl | exact zb_nar _ | exact zb_narc (by assumption)
                            · exact hF
                          · have hF := hQ Z1 hR1 B1
                            rw [zb_t h254] at hF
                            refine g_iconst (v := 1) d_Mo_isTerm_257 rfl ?_
                            refine g_goto (tgt := 262) d_Mo_isTerm_258 (by decide) ?_
                            refine g_zret d_Mo_isTerm_262 ?_ ?_
                            · first | rfl | exact zb_nar _ | exact zb_narc (by assumption)
                            · exact hF
                    · rw [lg_cmp_eq] at h217
                      rw [if_pos h217] at hQ
                      refine g_aload_nq d_Mo_isTerm_220 rfl 1 rfl ?_
                      refine g_iconst (v := 5) d_Mo_isTerm_221 rfl ?_
                      refine g_iconst (v := 0) d_Mo_isTerm_222 rfl ?_
                      refine g_callV d_Mo_isTerm_223 k_Mo_put l_Mo_141 i_Mo_put rfl p_Mo_put hm (by rfl) (by rfl) (Nat.le_of_ble_eq_true rfl) (by decide) (C_Mo_put hR hq.1 (by have := hq.2.1; omega) hq.2.2 (fun Z1 hR1 B1 => ⟨_, rfl, ?_⟩))
                      refine g_goto (tgt := 263) d_Mo_isTerm_226 (by decide) ?_
                      refine g_iconst (v := 1) d_Mo_isTerm_263 rfl ?_
                      refine g_zret d_Mo_isTerm_264 ?_ ?_
                      · first | rfl | exact zb_nar _ | exact zb_narc (by assumption)
                      · exact hQ Z1 hR1 B1
                  · rw [if_pos ⟨h186, h190⟩] at hQ
                    refine g_aload_nq d_Mo_isTerm_193 rfl 1 rfl ?_
                    refine g_iconst (v := 4) d_Mo_isTerm_194 rfl ?_
                    refine g_iconst (v := 0) d_Mo_isTerm_195 rfl ?_
                    refine g_callV d_Mo_isTerm_196 k_Mo_put l_Mo_141 i_Mo_put rfl p_Mo_put hm (by rfl) (by rfl) (Nat.le_of_ble_eq_true rfl) (by decide) (C_Mo_put hR hq.1 (by have := hq.2.1; omega) hq.2.2 (fun Z1 hR1 B1 => ⟨_, rfl, ?_⟩))
                    refine g_goto (tgt := 263) d_Mo_isTerm_199 (by decide) ?_
                    refine g_iconst (v := 1) d_Mo_isTerm_263 rfl ?_
                    refine g_zret d_Mo_isTerm_264 ?_ ?_
                    · first | rfl | exact zb_nar _ | exact zb_narc (by assumption)
                    · exact hQ Z1 hR1 B1
              · rw [if_pos ⟨h155, h160⟩] at hQ
                refine g_aload_nq d_Mo_isTerm_163 rfl 1 rfl ?_
                refine g_iconst (v := 3) d_Mo_isTerm_164 rfl ?_
                refine g_iconst (v := 0) d_Mo_isTerm_165 rfl ?_
                refine g_callV d_Mo_isTerm_166 k_Mo_put l_Mo_141 i_Mo_put rfl p_Mo_put hm (by rfl) (by rfl) (Nat.le_of_ble_eq_true rfl) (by decide) (C_Mo_put hR hq.1 (by have := hq.2.1; omega) hq.2.2 (fun Z1 hR1 B1 => ⟨_, rfl, ?_⟩))
                refine g_goto (tgt := 263) d_Mo_isTerm_169 (by decide) ?_
                refine g_iconst (v := 1) d_Mo_isTerm_263 rfl ?_
                refine g_zret d_Mo_isTerm_264 ?_ ?_
                · first | rfl | exact zb_nar _ | exact zb_narc (by assumption)
                · exact hQ Z1 hR1 B1
          · rw [if_pos ⟨h124, h129⟩] at hQ
            refine g_aload_nq d_Mo_isTerm_132 rfl 1 rfl ?_
            refine g_iconst (v := 2) d_Mo_isTerm_133 rfl ?_
            refine g_iconst (v := 0) d_Mo_isTerm_134 rfl ?_
            refine g_callV d_Mo_isTerm_135 k_Mo_put l_Mo_141 i_Mo_put rfl p_Mo_put hm (by rfl) (by rfl) (Nat.le_of_ble_eq_true rfl) (by decide) (C_Mo_put hR hq.1 (by have := hq.2.1; omega) hq.2.2 (fun Z1 hR1 B1 => ⟨_, rfl, ?_⟩))
            refine g_goto (tgt := 263) d_Mo_isTerm_138 (by decide) ?_
            refine g_iconst (v := 1) d_Mo_isTerm_263 rfl ?_
            refine g_zret d_Mo_isTerm_264 ?_ ?_
            · first | rfl | exact zb_nar _ | exact zb_narc (by assumption)
            · exact hQ Z1 hR1 B1
      · refine g_aload_nq d_Mo_isTerm_51 rfl 1 rfl ?_
        refine g_get d_Mo_isTerm_52 f_Mo_44_Mo (by assumption) (by first | rfl | assumption) ?_
        refine g_aload_nq d_Mo_isTerm_55 rfl 1 rfl ?_
        refine g_get d_Mo_isTerm_56 f_Mo_125_Mo (by assumption) (by first | rfl | assumption) ?_
        refine g_iconst (v := 1) d_Mo_isTerm_59 rfl ?_
        refine g_iadd d_Mo_isTerm_60 ?_
        rw [nI_1]
        refine g_iald d_Mo_isTerm_61 (by assumption) (vp_in_nI (n := (sN S 27 + 1)) (by omega) (by decide)) ?_
        rw [nI_clamp (by omega)]
        refine g_bipush (v := 47) d_Mo_isTerm_62 rfl ?_
        refine g_icmp_le (tgt := 110) d_Mo_isTerm_64 (by decide) (fun h64 => ?_) (fun h64 => ?_)
        · rw [if_neg (fun z => z.2.2.1 h64)] at hQ
          refine g_lload_n d_Mo_isTerm_110 rfl 0 rfl ?_
          refine g_bipush (v := 112) d_Mo_isTerm_111 rfl ?_
          refine g_bipush (v := 105) d_Mo_isTerm_113 rfl ?_
          refine g_bipush (v := 110) d_Mo_isTerm_115 rfl ?_
          refine g_bipush (v := 115) d_Mo_isTerm_117 rfl ?_
          refine g_iconst (v := 0) d_Mo_isTerm_119 rfl ?_
          refine g_callS d_Mo_isTerm_120 k_Mo_word l_Mo_157 s_Mo_word (by rfl) (by rfl) (Nat.le_of_ble_eq_true rfl) (by decide) (C_Mo_word ⟨_, rfl, ?_⟩)
          refine g_lcmp d_Mo_isTerm_123 ?_
          refine g_if_ne (tgt := 141) d_Mo_isTerm_124 (by decide) (fun h124 => ?_) (fun h124 => ?_)
          · rw [lg_cmp_eq] at h124
            rw [if_neg (fun z => h124 z.1)] at hQ
            refine g_lload_n d_Mo_isTerm_141 rfl 0 rfl ?_
            refine g_bipush (v := 107) d_Mo_isTerm_142 rfl ?_
            refine g_bipush (v := 105) d_Mo_isTerm_144 rfl ?_
            refine g_bipush (v := 110) d_Mo_isTerm_146 rfl ?_
            refine g_bipush (v := 100) d_Mo_isTerm_148 rfl ?_
            refine g_iconst (v := 0) d_Mo_isTerm_150 rfl ?_
            refine g_callS d_Mo_isTerm_151 k_Mo_word l_Mo_157 s_Mo_word (by rfl) (by rfl) (Nat.le_of_ble_eq_true rfl) (by decide) (C_Mo_word ⟨_, rfl, ?_⟩)
            refine g_lcmp d_Mo_isTerm_154 ?_
            refine g_if_ne (tgt := 172) d_Mo_isTerm_155 (by decide) (fun h155 => ?_) (fun h155 => ?_)
            · rw [lg_cmp_eq] at h155
              rw [if_neg (fun z => h155 z.1)] at hQ
              refine g_lload_n d_Mo_isTerm_172 rfl 0 rfl ?_
              refine g_bipush (v := 110) d_Mo_isTerm_173 rfl ?_
              refine g_bipush (v := 97) d_Mo_isTerm_175 rfl ?_
              refine g_bipush (v := 109) d_Mo_isTerm_177 rfl ?_
              refine g_bipush (v := 101) d_Mo_isTerm_179 rfl ?_
              refine g_iconst (v := 0) d_Mo_isTerm_181 rfl ?_
              refine g_callS d_Mo_isTerm_182 k_Mo_word l_Mo_157 s_Mo_word (by rfl) (by rfl) (Nat.le_of_ble_eq_true rfl) (by decide) (C_Mo_word ⟨_, rfl, ?_⟩)
              refine g_lcmp d_Mo_isTerm_185 ?_
              refine g_if_ne (tgt := 202) d_Mo_isTerm_186 (by decide) (fun h186 => ?_) (fun h186 => ?_)
              · rw [lg_cmp_eq] at h186
                rw [if_neg (fun z => h186 z.1)] at hQ
                refine g_lload_n d_Mo_isTerm_202 rfl 0 rfl ?_
                refine g_bipush (v := 115) d_Mo_isTerm_203 rfl ?_
                refine g_bipush (v := 104) d_Mo_isTerm_205 rfl ?_
                refine g_bipush (v := 101) d_Mo_isTerm_207 rfl ?_
                refine g_bipush (v := 101) d_Mo_isTerm_209 rfl ?_
                refine g_bipush (v := 116) d_Mo_isTerm_211 rfl ?_
                refine g_callS d_Mo_isTerm_213 k_Mo_word l_Mo_157 s_Mo_word (by rfl) (by rfl) (Nat.le_of_ble_eq_true rfl) (by decide) (C_Mo_word ⟨_, rfl, ?_⟩)
                refine g_lcmp d_Mo_isTerm_216 ?_
                refine g_if_ne (tgt := 229) d_Mo_isTerm_217 (by decide) (fun h217 => ?_) (fun h217 => ?_)
                · rw [lg_cmp_eq] at h217
                  rw [if_neg (h217)] at hQ
                  refine g_lload_n d_Mo_isTerm_229 rfl 0 rfl ?_
                  refine g_bipush (v := 97) d_Mo_isTerm_230 rfl ?_
                  refine g_bipush (v := 110) d_Mo_isTerm_232 rfl ?_
                  refine g_bipush (v := 121) d_Mo_isTerm_234 rfl ?_
                  refine g_iconst (v := 0) d_Mo_isTerm_236 rfl ?_
                  refine g_iconst (v := 0) d_Mo_isTerm_237 rfl ?_
                  refine g_callS d_Mo_isTerm_238 k_Mo_word l_Mo_157 s_Mo_word (by rfl) (by rfl) (Nat.le_of_ble_eq_true rfl) (by decide) (C_Mo_word ⟨_, rfl, ?_⟩)
                  refine g_lcmp d_Mo_isTerm_241 ?_
                  refine g_if_ne (tgt := 261) d_Mo_isTerm_242 (by decide) (fun h242 => ?_) (fun h242 => ?_)
                  · rw [lg_cmp_eq] at h242
                    rw [if_neg (fun z => h242 z.1)] at hQ
                    have hF := hQ Z hR rfl
                    refine g_iconst (v := 0) d_Mo_isTerm_261 rfl ?_
                    refine g_zret d_Mo_isTerm_262 ?_ ?_
                    · first | rfl | exact zb_nar _ | exact zb_narc (by assumption)
                    · exact hF
                  · rw [lg_cmp_eq] at h242
                    refine g_iload_n d_Mo_isTerm_245 rfl 2 rfl ?_
                    refine g_iconst (v := 2) d_Mo_isTerm_246 rfl ?_
                    refine g_icmp_eq (tgt := 261) d_Mo_isTerm_247 (by decide) (fun h247 => ?_) (fun h247 => ?_)
                    · rw [if_neg (fun z => z.2 h247)] at hQ
                      have hF := hQ Z hR rfl
                      refine g_iconst (v := 0) d_Mo_isTerm_261 rfl ?_
                      refine g_zret d_Mo_isTerm_262 ?_ ?_
                      · first | rfl | exact zb_nar _ | exact zb_narc (by assumption)
                      · exact hF
                    · rw [if_pos ⟨h242, h247⟩] at hQ
                      refine g_aload_nq d_Mo_isTerm_250 rfl 1 rfl ?_
                      refine g_callV d_Mo_isTerm_251 k_Mo_isDigitNext l_Mo_161 i_Mo_isDigitNext rfl p_Mo_isDigitNext hm (by rfl) (by rfl) (Nat.le_of_ble_eq_true rfl) (by decide) (C_Mo_isDigitNext hR hL hw.1 hw.2.2 hq (fun Z1 hR1 B1 => ⟨_, rfl, ?_⟩))
                      first | refine g_if_eqB (tgt := 261) d_Mo_isTerm_254 (by decide) (fun h254 => ?_) (fun h254 => ?_) | refine g_if_eq (tgt := 261) d_Mo_isTerm_254 (by decide) (fun h254 => ?_) (fun h254 => ?_)
                      · have hF := hQ Z1 hR1 B1
                        rw [zb_f h254] at hF
                        refine g_iconst (v := 0) d_Mo_isTerm_261 rfl ?_
                        refine g_zret d_Mo_isTerm_262 ?_ ?_
                        · first | rfl | exact zb_nar _ | exact zb_narc (by assumption)
                        · exact hF
                      · have hF := hQ Z1 hR1 B1
                        rw [zb_t h254] at hF
                        refine g_iconst (v := 1) d_Mo_isTerm_257 rfl ?_
                        refine g_goto (tgt := 262) d_Mo_isTerm_258 (by decide) ?_
                        refine g_zret d_Mo_isTerm_262 ?_ ?_
                        · first | rfl | exact zb_nar _ | exact zb_narc (by assumption)
                        · exact hF
                · rw [lg_cmp_eq] at h217
                  rw [if_pos h217] at hQ
                  refine g_aload_nq d_Mo_isTerm_220 rfl 1 rfl ?_
                  refine g_iconst (v := 5) d_Mo_isTerm_221 rfl ?_
                  refine g_iconst (v := 0) d_Mo_isTerm_222 rfl ?_
                  refine g_callV d_Mo_isTerm_223 k_Mo_put l_Mo_141 i_Mo_put rfl p_Mo_put hm (by rfl) (by rfl) (Nat.le_of_ble_eq_true rfl) (by decide) (C_Mo_put hR hq.1 (by have := hq.2.1; omega) hq.2.2 (fun Z1 hR1 B1 => ⟨_, rfl, ?_⟩))
                  refine g_goto (tgt := 263) d_Mo_isTerm_226 (by decide) ?_
                  refine g_iconst (v := 1) d_Mo_isTerm_263 rfl ?_
                  refine g_zret d_Mo_isTerm_264 ?_ ?_
                  · first | rfl | exact zb_nar _ | exact zb_narc (by assumption)
                  · exact hQ Z1 hR1 B1
              · rw [lg_cmp_eq] at h186
                refine g_iload_n d_Mo_isTerm_189 rfl 2 rfl ?_
                first | refine g_if_eqB (tgt := 202) d_Mo_isTerm_190 (by decide) (fun h190 => ?_) (fun h190 => ?_) | refine g_if_eq (tgt := 202) d_Mo_isTerm_190 (by decide) (fun h190 => ?_) (fun h190 => ?_)
                · rw [if_neg (fun z => z.2 h190)] at hQ
                  refine g_lload_n d_Mo_isTerm_202 rfl 0 rfl ?_
                  refine g_bipush (v := 115) d_Mo_isTerm_203 rfl ?_
                  refine g_bipush (v := 104) d_Mo_isTerm_205 rfl ?_
                  refine g_bipush (v := 101) d_Mo_isTerm_207 rfl ?_
                  refine g_bipush (v := 101) d_Mo_isTerm_209 rfl ?_
                  refine g_bipush (v := 116) d_Mo_isTerm_211 rfl ?_
                  refine g_callS d_Mo_isTerm_213 k_Mo_word l_Mo_157 s_Mo_word (by rfl) (by rfl) (Nat.le_of_ble_eq_true rfl) (by decide) (C_Mo_word ⟨_, rfl, ?_⟩)
                  refine g_lcmp d_Mo_isTerm_216 ?_
                  refine g_if_ne (tgt := 229) d_Mo_isTerm_217 (by decide) (fun h217 => ?_) (fun h217 => ?_)
                  · rw [lg_cmp_eq] at h217
                    rw [if_neg (h217)] at hQ
                    refine g_lload_n d_Mo_isTerm_229 rfl 0 rfl ?_
                    refine g_bipush (v := 97) d_Mo_isTerm_230 rfl ?_
                    refine g_bipush (v := 110) d_Mo_isTerm_232 rfl ?_
                    refine g_bipush (v := 121) d_Mo_isTerm_234 rfl ?_
                    refine g_iconst (v := 0) d_Mo_isTerm_236 rfl ?_
                    refine g_iconst (v := 0) d_Mo_isTerm_237 rfl ?_
                    refine g_callS d_Mo_isTerm_238 k_Mo_word l_Mo_157 s_Mo_word (by rfl) (by rfl) (Nat.le_of_ble_eq_true rfl) (by decide) (C_Mo_word ⟨_, rfl, ?_⟩)
                    refine g_lcmp d_Mo_isTerm_241 ?_
                    refine g_if_ne (tgt := 261) d_Mo_isTerm_242 (by decide) (fun h242 => ?_) (fun h242 => ?_)
                    · rw [lg_cmp_eq] at h242
                      rw [if_neg (fun z => h242 z.1)] at hQ
                      have hF := hQ Z hR rfl
                      refine g_iconst (v := 0) d_Mo_isTerm_261 rfl ?_
                      refine g_zret d_Mo_isTerm_262 ?_ ?_
                      · first | rfl | exact zb_nar _ | exact zb_narc (by assumption)
                      · exact hF
                    · rw [lg_cmp_eq] at h242
                      refine g_iload_n d_Mo_isTerm_245 rfl 2 rfl ?_
                      refine g_iconst (v := 2) d_Mo_isTerm_246 rfl ?_
                      refine g_icmp_eq (tgt := 261) d_Mo_isTerm_247 (by decide) (fun h247 => ?_) (fun h247 => ?_)
                      · rw [if_neg (fun z => z.2 h247)] at hQ
                        have hF := hQ Z hR rfl
                        refine g_iconst (v := 0) d_Mo_isTerm_261 rfl ?_
                        refine g_zret d_Mo_isTerm_262 ?_ ?_
                        · first | rfl | exact zb_nar _ | exact zb_narc (by assumption)
                        · exact hF
                      · rw [if_pos ⟨h242, h247⟩] at hQ
                        refine g_aload_nq d_Mo_isTerm_250 rfl 1 rfl ?_
                        refine g_callV d_Mo_isTerm_251 k_Mo_isDigitNext l_Mo_161 i_Mo_isDigitNext rfl p_Mo_isDigitNext hm (by rfl) (by rfl) (Nat.le_of_ble_eq_true rfl) (by decide) (C_Mo_isDigitNext hR hL hw.1 hw.2.2 hq (fun Z1 hR1 B1 => ⟨_, rfl, ?_⟩))
                        first | refine g_if_eqB (tgt := 261) d_Mo_isTerm_254 (by decide) (fun h254 => ?_) (fun h254 => ?_) | refine g_if_eq (tgt := 261) d_Mo_isTerm_254 (by decide) (fun h254 => ?_) (fun h254 => ?_)
                        · have hF := hQ Z1 hR1 B1
                          rw [zb_f h254] at hF
                          refine g_iconst (v := 0) d_Mo_isTerm_261 rfl ?_
                          refine g_zret d_Mo_isTerm_262 ?_ ?_
                          · first | rfl | exact zb_nar _ | exact zb_narc (by assumption)
                          · exact hF
                        · have hF := hQ Z1 hR1 B1
                          rw [zb_t h254] at hF
                          refine g_iconst (v := 1) d_Mo_isTerm_257 rfl ?_
                          refine g_goto (tgt := 262) d_Mo_isTerm_258 (by decide) ?_
                          refine g_zret d_Mo_isTerm_262 ?_ ?_
                          · first | rfl | exact zb_nar _ | exact zb_narc (by assumption)
                          · exact hF
                  · rw [lg_cmp_eq] at h217
                    rw [if_pos h217] at hQ
                    refine g_aload_nq d_Mo_isTerm_220 rfl 1 rfl ?_
                    refine g_iconst (v := 5) d_Mo_isTerm_221 rfl ?_
                    refine g_iconst (v := 0) d_Mo_isTerm_222 rfl ?_
                    refine g_callV d_Mo_isTerm_223 k_Mo_put l_Mo_141 i_Mo_put rfl p_Mo_put hm (by rfl) (by rfl) (Nat.le_of_ble_eq_true rfl) (by decide) (C_Mo_put hR hq.1 (by have := hq.2.1; omega) hq.2.2 (fun Z1 hR1 B1 => ⟨_, rfl, ?_⟩))
                    refine g_goto (tgt := 263) d_Mo_isTerm_226 (by decide) ?_
                    refine g_iconst (v := 1) d_Mo_isTerm_263 rfl ?_
                    refine g_zret d_Mo_isTerm_264 ?_ ?_
                    · first | rfl | exact zb_nar _ | exact zb_narc (by assumption)
                    · exact hQ Z1 hR1 B1
                · rw [if_pos ⟨h186, h190⟩] at hQ
                  refine g_aload_nq d_Mo_isTerm_193 rfl 1 rfl ?_
                  refine g_iconst (v := 4) d_Mo_isTerm_194 rfl ?_
                  refine g_iconst (v := 0) d_Mo_isTerm_195 rfl ?_
                  refine g_callV d_Mo_isTerm_196 k_Mo_put l_Mo_141 i_Mo_put rfl p_Mo_put hm (by rfl) (by rfl) (Nat.le_of_ble_eq_true rfl) (by decide) (C_Mo_put hR hq.1 (by have := hq.2.1; omega) hq.2.2 (fun Z1 hR1 B1 => ⟨_, rfl, ?_⟩))
                  refine g_goto (tgt := 263) d_Mo_isTerm_199 (by decide) ?_
                  refine g_iconst (v := 1) d_Mo_isTerm_263 rfl ?_
                  refine g_zret d_Mo_isTerm_264 ?_ ?_
                  · first | rfl | exact zb_nar _ | exact zb_narc (by assumption)
                  · exact hQ Z1 hR1 B1
            · rw [lg_cmp_eq] at h155
              refine g_iload_n d_Mo_isTerm_158 rfl 2 rfl ?_
              refine g_iconst (v := 2) d_Mo_isTerm_159 rfl ?_
              refine g_icmp_ne (tgt := 172) d_Mo_isTerm_160 (by decide) (fun h160 => ?_) (fun h160 => ?_)
              · rw [if_neg (fun z => h160 z.2)] at hQ
                refine g_lload_n d_Mo_isTerm_172 rfl 0 rfl ?_
                refine g_bipush (v := 110) d_Mo_isTerm_173 rfl ?_
                refine g_bipush (v := 97) d_Mo_isTerm_175 rfl ?_
                refine g_bipush (v := 109) d_Mo_isTerm_177 rfl ?_
                refine g_bipush (v := 101) d_Mo_isTerm_179 rfl ?_
                refine g_iconst (v := 0) d_Mo_isTerm_181 rfl ?_
                refine g_callS d_Mo_isTerm_182 k_Mo_word l_Mo_157 s_Mo_word (by rfl) (by rfl) (Nat.le_of_ble_eq_true rfl) (by decide) (C_Mo_word ⟨_, rfl, ?_⟩)
                refine g_lcmp d_Mo_isTerm_185 ?_
                refine g_if_ne (tgt := 202) d_Mo_isTerm_186 (by decide) (fun h186 => ?_) (fun h186 => ?_)
                · rw [lg_cmp_eq] at h186
                  rw [if_neg (fun z => h186 z.1)] at hQ
                  refine g_lload_n d_Mo_isTerm_202 rfl 0 rfl ?_
                  refine g_bipush (v := 115) d_Mo_isTerm_203 rfl ?_
                  refine g_bipush (v := 104) d_Mo_isTerm_205 rfl ?_
                  refine g_bipush (v := 101) d_Mo_isTerm_207 rfl ?_
                  refine g_bipush (v := 101) d_Mo_isTerm_209 rfl ?_
                  refine g_bipush (v := 116) d_Mo_isTerm_211 rfl ?_
                  refine g_callS d_Mo_isTerm_213 k_Mo_word l_Mo_157 s_Mo_word (by rfl) (by rfl) (Nat.le_of_ble_eq_true rfl) (by decide) (C_Mo_word ⟨_, rfl, ?_⟩)
                  refine g_lcmp d_Mo_isTerm_216 ?_
                  refine g_if_ne (tgt := 229) d_Mo_isTerm_217 (by decide) (fun h217 => ?_) (fun h217 => ?_)
                  · rw [lg_cmp_eq] at h217
                    rw [if_neg (h217)] at hQ
                    refine g_lload_n d_Mo_isTerm_229 rfl 0 rfl ?_
                    refine g_bipush (v := 97) d_Mo_isTerm_230 rfl ?_
                    refine g_bipush (v := 110) d_Mo_isTerm_232 rfl ?_
                    refine g_bipush (v := 121) d_Mo_isTerm_234 rfl ?_
                    refine g_iconst (v := 0) d_Mo_isTerm_236 rfl ?_
                    refine g_iconst (v := 0) d_Mo_isTerm_237 rfl ?_
                    refine g_callS d_Mo_isTerm_238 k_Mo_word l_Mo_157 s_Mo_word (by rfl) (by rfl) (Nat.le_of_ble_eq_true rfl) (by decide) (C_Mo_word ⟨_, rfl, ?_⟩)
                    refine g_lcmp d_Mo_isTerm_241 ?_
                    refine g_if_ne (tgt := 261) d_Mo_isTerm_242 (by decide) (fun h242 => ?_) (fun h242 => ?_)
                    · rw [lg_cmp_eq] at h242
                      rw [if_neg (fun z => h242 z.1)] at hQ
                      have hF := hQ Z hR rfl
                      refine g_iconst (v := 0) d_Mo_isTerm_261 rfl ?_
                      refine g_zret d_Mo_isTerm_262 ?_ ?_
                      · first | rfl | exact zb_nar _ | exact zb_narc (by assumption)
                      · exact hF
                    · rw [lg_cmp_eq] at h242
                      refine g_iload_n d_Mo_isTerm_245 rfl 2 rfl ?_
                      refine g_iconst (v := 2) d_Mo_isTerm_246 rfl ?_
                      refine g_icmp_eq (tgt := 261) d_Mo_isTerm_247 (by decide) (fun h247 => ?_) (fun h247 => ?_)
                      · rw [if_neg (fun z => z.2 h247)] at hQ
                        have hF := hQ Z hR rfl
                        refine g_iconst (v := 0) d_Mo_isTerm_261 rfl ?_
                        refine g_zret d_Mo_isTerm_262 ?_ ?_
                        · first | rfl | exact zb_nar _ | exact zb_narc (by assumption)
                        · exact hF
                      · rw [if_pos ⟨h242, h247⟩] at hQ
                        refine g_aload_nq d_Mo_isTerm_250 rfl 1 rfl ?_
                        refine g_callV d_Mo_isTerm_251 k_Mo_isDigitNext l_Mo_161 i_Mo_isDigitNext rfl p_Mo_isDigitNext hm (by rfl) (by rfl) (Nat.le_of_ble_eq_true rfl) (by decide) (C_Mo_isDigitNext hR hL hw.1 hw.2.2 hq (fun Z1 hR1 B1 => ⟨_, rfl, ?_⟩))
                        first | refine g_if_eqB (tgt := 261) d_Mo_isTerm_254 (by decide) (fun h254 => ?_) (fun h254 => ?_) | refine g_if_eq (tgt := 261) d_Mo_isTerm_254 (by decide) (fun h254 => ?_) (fun h254 => ?_)
                        · have hF := hQ Z1 hR1 B1
                          rw [zb_f h254] at hF
                          refine g_iconst (v := 0) d_Mo_isTerm_261 rfl ?_
                          refine g_zret d_Mo_isTerm_262 ?_ ?_
                          · first | rfl | exact zb_nar _ | exact zb_narc (by assumption)
                          · exact hF
                        · have hF := hQ Z1 hR1 B1
                          rw [zb_t h254] at hF
                          refine g_iconst (v := 1) d_Mo_isTerm_257 rfl ?_
                          refine g_goto (tgt := 262) d_Mo_isTerm_258 (by decide) ?_
                          refine g_zret d_Mo_isTerm_262 ?_ ?_
                          · first | rfl | exact zb_nar _ | exact zb_narc (by assumption)
                          · exact hF
                  · rw [lg_cmp_eq] at h217
                    rw [if_pos h217] at hQ
                    refine g_aload_nq d_Mo_isTerm_220 rfl 1 rfl ?_
                    refine g_iconst (v := 5) d_Mo_isTerm_221 rfl ?_
                    refine g_iconst (v := 0) d_Mo_isTerm_222 rfl ?_
                    refine g_callV d_Mo_isTerm_223 k_Mo_put l_Mo_141 i_Mo_put rfl p_Mo_put hm (by rfl) (by rfl) (Nat.le_of_ble_eq_true rfl) (by decide) (C_Mo_put hR hq.1 (by have := hq.2.1; omega) hq.2.2 (fun Z1 hR1 B1 => ⟨_, rfl, ?_⟩))
                    refine g_goto (tgt := 263) d_Mo_isTerm_226 (by decide) ?_
                    refine g_iconst (v := 1) d_Mo_isTerm_263 rfl ?_
                    refine g_zret d_Mo_isTerm_264 ?_ ?_
                    · first | rfl | exact zb_nar _ | exact zb_narc (by assumption)
                    · exact hQ Z1 hR1 B1
                · rw [lg_cmp_eq] at h186
                  refine g_iload_n d_Mo_isTerm_189 rfl 2 rfl ?_
                  first | refine g_if_eqB (tgt := 202) d_Mo_isTerm_190 (by decide) (fun h190 => ?_) (fun h190 => ?_) | refine g_if_eq (tgt := 202) d_Mo_isTerm_190 (by decide) (fun h190 => ?_) (fun h190 => ?_)
                  · rw [if_neg (fun z => z.2 h190)] at hQ
                    refine g_lload_n d_Mo_isTerm_202 rfl 0 rfl ?_
                    refine g_bipush (v := 115) d_Mo_isTerm_203 rfl ?_
                    refine g_bipush (v := 104) d_Mo_isTerm_205 rfl ?_
                    refine g_bipush (v := 101) d_Mo_isTerm_207 rfl ?_
                    refine g_bipush (v := 101) d_Mo_isTerm_209 rfl ?_
                    refine g_bipush (v := 116) d_Mo_isTerm_211 rfl ?_
                    refine g_callS d_Mo_isTerm_213 k_Mo_word l_Mo_157 s_Mo_word (by rfl) (by rfl) (Nat.le_of_ble_eq_true rfl) (by decide) (C_Mo_word ⟨_, rfl, ?_⟩)
                    refine g_lcmp d_Mo_isTerm_216 ?_
                    refine g_if_ne (tgt := 229) d_Mo_isTerm_217 (by decide) (fun h217 => ?_) (fun h217 => ?_)
                    · rw [lg_cmp_eq] at h217
                      rw [if_neg (h217)] at hQ
                      refine g_lload_n d_Mo_isTerm_229 rfl 0 rfl ?_
                      refine g_bipush (v := 97) d_Mo_isTerm_230 rfl ?_
                      refine g_bipush (v := 110) d_Mo_isTerm_232 rfl ?_
                      refine g_bipush (v := 121) d_Mo_isTerm_234 rfl ?_
                      refine g_iconst (v := 0) d_Mo_isTerm_236 rfl ?_
                      refine g_iconst (v := 0) d_Mo_isTerm_237 rfl ?_
                      refine g_callS d_Mo_isTerm_238 k_Mo_word l_Mo_157 s_Mo_word (by rfl) (by rfl) (Nat.le_of_ble_eq_true rfl) (by decide) (C_Mo_word ⟨_, rfl, ?_⟩)
                      refine g_lcmp d_Mo_isTerm_241 ?_
                      refine g_if_ne (tgt := 261) d_Mo_isTerm_242 (by decide) (fun h242 => ?_) (fun h242 => ?_)
                      · rw [lg_cmp_eq] at h242
                        rw [if_neg (fun z => h242 z.1)] at hQ
                        have hF := hQ Z hR rfl
                        refine g_iconst (v := 0) d_Mo_isTerm_261 rfl ?_
                        refine g_zret d_Mo_isTerm_262 ?_ ?_
                        · first | rfl | exact zb_nar _ | exact zb_narc (by assumption)
                        · exact hF
                      · rw [lg_cmp_eq] at h242
                        refine g_iload_n d_Mo_isTerm_245 rfl 2 rfl ?_
                        refine g_iconst (v := 2) d_Mo_isTerm_246 rfl ?_
                        refine g_icmp_eq (tgt := 261) d_Mo_isTerm_247 (by decide) (fun h247 => ?_) (fun h247 => ?_)
                        · rw [if_neg (fun z => z.2 h247)] at hQ
                          have hF := hQ Z hR rfl
                          refine g_iconst (v := 0) d_Mo_isTerm_261 rfl ?_
                          refine g_zret d_Mo_isTerm_262 ?_ ?_
                          · first | rfl | exact zb_nar _ | exact zb_narc (by assumption)
                          · exact hF
                        · rw [if_pos ⟨h242, h247⟩] at hQ
                          refine g_aload_nq d_Mo_isTerm_250 rfl 1 rfl ?_
                          refine g_callV d_Mo_isTerm_251 k_Mo_isDigitNext l_Mo_161 i_Mo_isDigitNext rfl p_Mo_isDigitNext hm (by rfl) (by rfl) (Nat.le_of_ble_eq_true rfl) (by decide) (C_Mo_isDigitNext hR hL hw.1 hw.2.2 hq (fun Z1 hR1 B1 => ⟨_, rfl, ?_⟩))
                          first | refine g_if_eqB (tgt := 261) d_Mo_isTerm_254 (by decide) (fun h254 => ?_) (fun h254 => ?_) | refine g_if_eq (tgt := 261) d_Mo_isTerm_254 (by decide) (fun h254 => ?_) (fun h254 => ?_)
                          · have hF := hQ Z1 hR1 B1
                            rw [zb_f h254] at hF
                            refine g_iconst (v := 0) d_Mo_isTerm_261 rfl ?_
                            refine g_zret d_Mo_isTerm_262 ?_ ?_
                            · first | rfl | exact zb_nar _ | exact zb_narc (by assumption)
                            · exact hF
                          · have hF := hQ Z1 hR1 B1
                            rw [zb_t h254] at hF
                            refine g_iconst (v := 1) d_Mo_isTerm_257 rfl ?_
                            refine g_goto (tgt := 262) d_Mo_isTerm_258 (by decide) ?_
                            refine g_zret d_Mo_isTerm_262 ?_ ?_
                            · first | rfl | exact zb_nar _ | exact zb_narc (by assumption)
                            · exact hF
                    · rw [lg_cmp_eq] at h217
                      rw [if_pos h217] at hQ
                      refine g_aload_nq d_Mo_isTerm_220 rfl 1 rfl ?_
                      refine g_iconst (v := 5) d_Mo_isTerm_221 rfl ?_
                      refine g_iconst (v := 0) d_Mo_isTerm_222 rfl ?_
                      refine g_callV d_Mo_isTerm_223 k_Mo_put l_Mo_141 i_Mo_put rfl p_Mo_put hm (by rfl) (by rfl) (Nat.le_of_ble_eq_true rfl) (by decide) (C_Mo_put hR hq.1 (by have := hq.2.1; omega) hq.2.2 (fun Z1 hR1 B1 => ⟨_, rfl, ?_⟩))
                      refine g_goto (tgt := 263) d_Mo_isTerm_226 (by decide) ?_
                      refine g_iconst (v := 1) d_Mo_isTerm_263 rfl ?_
                      refine g_zret d_Mo_isTerm_264 ?_ ?_
                      · first | rfl | exact zb_nar _ | exact zb_narc (by assumption)
                      · exact hQ Z1 hR1 B1
                  · rw [if_pos ⟨h186, h190⟩] at hQ
                    refine g_aload_nq d_Mo_isTerm_193 rfl 1 rfl ?_
                    refine g_iconst (v := 4) d_Mo_isTerm_194 rfl ?_
                    refine g_iconst (v := 0) d_Mo_isTerm_195 rfl ?_
                    refine g_callV d_Mo_isTerm_196 k_Mo_put l_Mo_141 i_Mo_put rfl p_Mo_put hm (by rfl) (by rfl) (Nat.le_of_ble_eq_true rfl) (by decide) (C_Mo_put hR hq.1 (by have := hq.2.1; omega) hq.2.2 (fun Z1 hR1 B1 => ⟨_, rfl, ?_⟩))
                    refine g_goto (tgt := 263) d_Mo_isTerm_199 (by decide) ?_
                    refine g_iconst (v := 1) d_Mo_isTerm_263 rfl ?_
                    refine g_zret d_Mo_isTerm_264 ?_ ?_
                    · first | rfl | exact zb_nar _ | exact zb_narc (by assumption)
                    · exact hQ Z1 hR1 B1
              · rw [if_pos ⟨h155, h160⟩] at hQ
                refine g_aload_nq d_Mo_isTerm_163 rfl 1 rfl ?_
                refine g_iconst (v := 3) d_Mo_isTerm_164 rfl ?_
                refine g_iconst (v := 0) d_Mo_isTerm_165 rfl ?_
                refine g_callV d_Mo_isTerm_166 k_Mo_put l_Mo_141 i_Mo_put rfl p_Mo_put hm (by rfl) (by rfl) (Nat.le_of_ble_eq_true rfl) (by decide) (C_Mo_put hR hq.1 (by have := hq.2.1; omega) hq.2.2 (fun Z1 hR1 B1 => ⟨_, rfl, ?_⟩))
                refine g_goto (tgt := 263) d_Mo_isTerm_169 (by decide) ?_
                refine g_iconst (v := 1) d_Mo_isTerm_263 rfl ?_
                refine g_zret d_Mo_isTerm_264 ?_ ?_
                · first | rfl | exact zb_nar _ | exact zb_narc (by assumption)
                · exact hQ Z1 hR1 B1
          · rw [lg_cmp_eq] at h124
            refine g_iload_n d_Mo_isTerm_127 rfl 2 rfl ?_
            refine g_iconst (v := 2) d_Mo_isTerm_128 rfl ?_
            refine g_icmp_eq (tgt := 141) d_Mo_isTerm_129 (by decide) (fun h129 => ?_) (fun h129 => ?_)
            · rw [if_neg (fun z => z.2 h129)] at hQ
              refine g_lload_n d_Mo_isTerm_141 rfl 0 rfl ?_
              refine g_bipush (v := 107) d_Mo_isTerm_142 rfl ?_
              refine g_bipush (v := 105) d_Mo_isTerm_144 rfl ?_
              refine g_bipush (v := 110) d_Mo_isTerm_146 rfl ?_
              refine g_bipush (v := 100) d_Mo_isTerm_148 rfl ?_
              refine g_iconst (v := 0) d_Mo_isTerm_150 rfl ?_
              refine g_callS d_Mo_isTerm_151 k_Mo_word l_Mo_157 s_Mo_word (by rfl) (by rfl) (Nat.le_of_ble_eq_true rfl) (by decide) (C_Mo_word ⟨_, rfl, ?_⟩)
              refine g_lcmp d_Mo_isTerm_154 ?_
              refine g_if_ne (tgt := 172) d_Mo_isTerm_155 (by decide) (fun h155 => ?_) (fun h155 => ?_)
              · rw [lg_cmp_eq] at h155
                rw [if_neg (fun z => h155 z.1)] at hQ
                refine g_lload_n d_Mo_isTerm_172 rfl 0 rfl ?_
                refine g_bipush (v := 110) d_Mo_isTerm_173 rfl ?_
                refine g_bipush (v := 97) d_Mo_isTerm_175 rfl ?_
                refine g_bipush (v := 109) d_Mo_isTerm_177 rfl ?_
                refine g_bipush (v := 101) d_Mo_isTerm_179 rfl ?_
                refine g_iconst (v := 0) d_Mo_isTerm_181 rfl ?_
                refine g_callS d_Mo_isTerm_182 k_Mo_word l_Mo_157 s_Mo_word (by rfl) (by rfl) (Nat.le_of_ble_eq_true rfl) (by decide) (C_Mo_word ⟨_, rfl, ?_⟩)
                refine g_lcmp d_Mo_isTerm_185 ?_
                refine g_if_ne (tgt := 202) d_Mo_isTerm_186 (by decide) (fun h186 => ?_) (fun h186 => ?_)
                · rw [lg_cmp_eq] at h186
                  rw [if_neg (fun z => h186 z.1)] at hQ
                  refine g_lload_n d_Mo_isTerm_202 rfl 0 rfl ?_
                  refine g_bipush (v := 115) d_Mo_isTerm_203 rfl ?_
                  refine g_bipush (v := 104) d_Mo_isTerm_205 rfl ?_
                  refine g_bipush (v := 101) d_Mo_isTerm_207 rfl ?_
                  refine g_bipush (v := 101) d_Mo_isTerm_209 rfl ?_
                  refine g_bipush (v := 116) d_Mo_isTerm_211 rfl ?_
                  refine g_callS d_Mo_isTerm_213 k_Mo_word l_Mo_157 s_Mo_word (by rfl) (by rfl) (Nat.le_of_ble_eq_true rfl) (by decide) (C_Mo_word ⟨_, rfl, ?_⟩)
                  refine g_lcmp d_Mo_isTerm_216 ?_
                  refine g_if_ne (tgt := 229) d_Mo_isTerm_217 (by decide) (fun h217 => ?_) (fun h217 => ?_)
                  · rw [lg_cmp_eq] at h217
                    rw [if_neg (h217)] at hQ
                    refine g_lload_n d_Mo_isTerm_229 rfl 0 rfl ?_
                    refine g_bipush (v := 97) d_Mo_isTerm_230 rfl ?_
                    refine g_bipush (v := 110) d_Mo_isTerm_232 rfl ?_
                    refine g_bipush (v := 121) d_Mo_isTerm_234 rfl ?_
                    refine g_iconst (v := 0) d_Mo_isTerm_236 rfl ?_
                    refine g_iconst (v := 0) d_Mo_isTerm_237 rfl ?_
                    refine g_callS d_Mo_isTerm_238 k_Mo_word l_Mo_157 s_Mo_word (by rfl) (by rfl) (Nat.le_of_ble_eq_true rfl) (by decide) (C_Mo_word ⟨_, rfl, ?_⟩)
                    refine g_lcmp d_Mo_isTerm_241 ?_
                    refine g_if_ne (tgt := 261) d_Mo_isTerm_242 (by decide) (fun h242 => ?_) (fun h242 => ?_)
                    · rw [lg_cmp_eq] at h242
                      rw [if_neg (fun z => h242 z.1)] at hQ
                      have hF := hQ Z hR rfl
                      refine g_iconst (v := 0) d_Mo_isTerm_261 rfl ?_
                      refine g_zret d_Mo_isTerm_262 ?_ ?_
                      · first | rfl | exact zb_nar _ | exact zb_narc (by assumption)
                      · exact hF
                    · rw [lg_cmp_eq] at h242
                      refine g_iload_n d_Mo_isTerm_245 rfl 2 rfl ?_
                      refine g_iconst (v := 2) d_Mo_isTerm_246 rfl ?_
                      refine g_icmp_eq (tgt := 261) d_Mo_isTerm_247 (by decide) (fun h247 => ?_) (fun h247 => ?_)
                      · rw [if_neg (fun z => z.2 h247)] at hQ
                        have hF := hQ Z hR rfl
                        refine g_iconst (v := 0) d_Mo_isTerm_261 rfl ?_
                        refine g_zret d_Mo_isTerm_262 ?_ ?_
                        · first | rfl | exact zb_nar _ | exact zb_narc (by assumption)
                        · exact hF
                      · rw [if_pos ⟨h242, h247⟩] at hQ
                        refine g_aload_nq d_Mo_isTerm_250 rfl 1 rfl ?_
                        refine g_callV d_Mo_isTerm_251 k_Mo_isDigitNext l_Mo_161 i_Mo_isDigitNext rfl p_Mo_isDigitNext hm (by rfl) (by rfl) (Nat.le_of_ble_eq_true rfl) (by decide) (C_Mo_isDigitNext hR hL hw.1 hw.2.2 hq (fun Z1 hR1 B1 => ⟨_, rfl, ?_⟩))
                        first | refine g_if_eqB (tgt := 261) d_Mo_isTerm_254 (by decide) (fun h254 => ?_) (fun h254 => ?_) | refine g_if_eq (tgt := 261) d_Mo_isTerm_254 (by decide) (fun h254 => ?_) (fun h254 => ?_)
                        · have hF := hQ Z1 hR1 B1
                          rw [zb_f h254] at hF
                          refine g_iconst (v := 0) d_Mo_isTerm_261 rfl ?_
                          refine g_zret d_Mo_isTerm_262 ?_ ?_
                          · first | rfl | exact zb_nar _ | exact zb_narc (by assumption)
                          · exact hF
                        · have hF := hQ Z1 hR1 B1
                          rw [zb_t h254] at hF
                          refine g_iconst (v := 1) d_Mo_isTerm_257 rfl ?_
                          refine g_goto (tgt := 262) d_Mo_isTerm_258 (by decide) ?_
                          refine g_zret d_Mo_isTerm_262 ?_ ?_
                          · first | rfl | exact zb_nar _ | exact zb_narc (by assumption)
                          · exact hF
                  · rw [lg_cmp_eq] at h217
                    rw [if_pos h217] at hQ
                    refine g_aload_nq d_Mo_isTerm_220 rfl 1 rfl ?_
                    refine g_iconst (v := 5) d_Mo_isTerm_221 rfl ?_
                    refine g_iconst (v := 0) d_Mo_isTerm_222 rfl ?_
                    refine g_callV d_Mo_isTerm_223 k_Mo_put l_Mo_141 i_Mo_put rfl p_Mo_put hm (by rfl) (by rfl) (Nat.le_of_ble_eq_true rfl) (by decide) (C_Mo_put hR hq.1 (by have := hq.2.1; omega) hq.2.2 (fun Z1 hR1 B1 => ⟨_, rfl, ?_⟩))
                    refine g_goto (tgt := 263) d_Mo_isTerm_226 (by decide) ?_
                    refine g_iconst (v := 1) d_Mo_isTerm_263 rfl ?_
                    refine g_zret d_Mo_isTerm_264 ?_ ?_
                    · first | rfl | exact zb_nar _ | exact zb_narc (by assumption)
                    · exact hQ Z1 hR1 B1
                · rw [lg_cmp_eq] at h186
                  refine g_iload_n d_Mo_isTerm_189 rfl 2 rfl ?_
                  first | refine g_if_eqB (tgt := 202) d_Mo_isTerm_190 (by decide) (fun h190 => ?_) (fun h190 => ?_) | refine g_if_eq (tgt := 202) d_Mo_isTerm_190 (by decide) (fun h190 => ?_) (fun h190 => ?_)
                  · rw [if_neg (fun z => z.2 h190)] at hQ
                    refine g_lload_n d_Mo_isTerm_202 rfl 0 rfl ?_
                    refine g_bipush (v := 115) d_Mo_isTerm_203 rfl ?_
                    refine g_bipush (v := 104) d_Mo_isTerm_205 rfl ?_
                    refine g_bipush (v := 101) d_Mo_isTerm_207 rfl ?_
                    refine g_bipush (v := 101) d_Mo_isTerm_209 rfl ?_
                    refine g_bipush (v := 116) d_Mo_isTerm_211 rfl ?_
                    refine g_callS d_Mo_isTerm_213 k_Mo_word l_Mo_157 s_Mo_word (by rfl) (by rfl) (Nat.le_of_ble_eq_true rfl) (by decide) (C_Mo_word ⟨_, rfl, ?_⟩)
                    refine g_lcmp d_Mo_isTerm_216 ?_
                    refine g_if_ne (tgt := 229) d_Mo_isTerm_217 (by decide) (fun h217 => ?_) (fun h217 => ?_)
                    · rw [lg_cmp_eq] at h217
                      rw [if_neg (h217)] at hQ
                      refine g_lload_n d_Mo_isTerm_229 rfl 0 rfl ?_
                      refine g_bipush (v := 97) d_Mo_isTerm_230 rfl ?_
                      refine g_bipush (v := 110) d_Mo_isTerm_232 rfl ?_
                      refine g_bipush (v := 121) d_Mo_isTerm_234 rfl ?_
                      refine g_iconst (v := 0) d_Mo_isTerm_236 rfl ?_
                      refine g_iconst (v := 0) d_Mo_isTerm_237 rfl ?_
                      refine g_callS d_Mo_isTerm_238 k_Mo_word l_Mo_157 s_Mo_word (by rfl) (by rfl) (Nat.le_of_ble_eq_true rfl) (by decide) (C_Mo_word ⟨_, rfl, ?_⟩)
                      refine g_lcmp d_Mo_isTerm_241 ?_
                      refine g_if_ne (tgt := 261) d_Mo_isTerm_242 (by decide) (fun h242 => ?_) (fun h242 => ?_)
                      · rw [lg_cmp_eq] at h242
                        rw [if_neg (fun z => h242 z.1)] at hQ
                        have hF := hQ Z hR rfl
                        refine g_iconst (v := 0) d_Mo_isTerm_261 rfl ?_
                        refine g_zret d_Mo_isTerm_262 ?_ ?_
                        · first | rfl | exact zb_nar _ | exact zb_narc (by assumption)
                        · exact hF
                      · rw [lg_cmp_eq] at h242
                        refine g_iload_n d_Mo_isTerm_245 rfl 2 rfl ?_
                        refine g_iconst (v := 2) d_Mo_isTerm_246 rfl ?_
                        refine g_icmp_eq (tgt := 261) d_Mo_isTerm_247 (by decide) (fun h247 => ?_) (fun h247 => ?_)
                        · rw [if_neg (fun z => z.2 h247)] at hQ
                          have hF := hQ Z hR rfl
                          refine g_iconst (v := 0) d_Mo_isTerm_261 rfl ?_
                          refine g_zret d_Mo_isTerm_262 ?_ ?_
                          · first | rfl | exact zb_nar _ | exact zb_narc (by assumption)
                          · exact hF
                        · rw [if_pos ⟨h242, h247⟩] at hQ
                          refine g_aload_nq d_Mo_isTerm_250 rfl 1 rfl ?_
                          refine g_callV d_Mo_isTerm_251 k_Mo_isDigitNext l_Mo_161 i_Mo_isDigitNext rfl p_Mo_isDigitNext hm (by rfl) (by rfl) (Nat.le_of_ble_eq_true rfl) (by decide) (C_Mo_isDigitNext hR hL hw.1 hw.2.2 hq (fun Z1 hR1 B1 => ⟨_, rfl, ?_⟩))
                          first | refine g_if_eqB (tgt := 261) d_Mo_isTerm_254 (by decide) (fun h254 => ?_) (fun h254 => ?_) | refine g_if_eq (tgt := 261) d_Mo_isTerm_254 (by decide) (fun h254 => ?_) (fun h254 => ?_)
                          · have hF := hQ Z1 hR1 B1
                            rw [zb_f h254] at hF
                            refine g_iconst (v := 0) d_Mo_isTerm_261 rfl ?_
                            refine g_zret d_Mo_isTerm_262 ?_ ?_
                            · first | rfl | exact zb_nar _ | exact zb_narc (by assumption)
                            · exact hF
                          · have hF := hQ Z1 hR1 B1
                            rw [zb_t h254] at hF
                            refine g_iconst (v := 1) d_Mo_isTerm_257 rfl ?_
                            refine g_goto (tgt := 262) d_Mo_isTerm_258 (by decide) ?_
                            refine g_zret d_Mo_isTerm_262 ?_ ?_
                            · first | rfl | exact zb_nar _ | exact zb_narc (by assumption)
                            · exact hF
                    · rw [lg_cmp_eq] at h217
                      rw [if_pos h217] at hQ
                      refine g_aload_nq d_Mo_isTerm_220 rfl 1 rfl ?_
                      refine g_iconst (v := 5) d_Mo_isTerm_221 rfl ?_
                      refine g_iconst (v := 0) d_Mo_isTerm_222 rfl ?_
                      refine g_callV d_Mo_isTerm_223 k_Mo_put l_Mo_141 i_Mo_put rfl p_Mo_put hm (by rfl) (by rfl) (Nat.le_of_ble_eq_true rfl) (by decide) (C_Mo_put hR hq.1 (by have := hq.2.1; omega) hq.2.2 (fun Z1 hR1 B1 => ⟨_, rfl, ?_⟩))
                      refine g_goto (tgt := 263) d_Mo_isTerm_226 (by decide) ?_
                      refine g_iconst (v := 1) d_Mo_isTerm_263 rfl ?_
                      refine g_zret d_Mo_isTerm_264 ?_ ?_
                      · first | rfl | exact zb_nar _ | exact zb_narc (by assumption)
                      · exact hQ Z1 hR1 B1
                  · rw [if_pos ⟨h186, h190⟩] at hQ
                    refine g_aload_nq d_Mo_isTerm_193 rfl 1 rfl ?_
                    refine g_iconst (v := 4) d_Mo_isTerm_194 rfl ?_
                    refine g_iconst (v := 0) d_Mo_isTerm_195 rfl ?_
                    refine g_callV d_Mo_isTerm_196 k_Mo_put l_Mo_141 i_Mo_put rfl p_Mo_put hm (by rfl) (by rfl) (Nat.le_of_ble_eq_true rfl) (by decide) (C_Mo_put hR hq.1 (by have := hq.2.1; omega) hq.2.2 (fun Z1 hR1 B1 => ⟨_, rfl, ?_⟩))
                    refine g_goto (tgt := 263) d_Mo_isTerm_199 (by decide) ?_
                    refine g_iconst (v := 1) d_Mo_isTerm_263 rfl ?_
                    refine g_zret d_Mo_isTerm_264 ?_ ?_
                    · first | rfl | exact zb_nar _ | exact zb_narc (by assumption)
                    · exact hQ Z1 hR1 B1
              · rw [lg_cmp_eq] at h155
                refine g_iload_n d_Mo_isTerm_158 rfl 2 rfl ?_
                refine g_iconst (v := 2) d_Mo_isTerm_159 rfl ?_
                refine g_icmp_ne (tgt := 172) d_Mo_isTerm_160 (by decide) (fun h160 => ?_) (fun h160 => ?_)
                · rw [if_neg (fun z => h160 z.2)] at hQ
                  refine g_lload_n d_Mo_isTerm_172 rfl 0 rfl ?_
                  refine g_bipush (v := 110) d_Mo_isTerm_173 rfl ?_
                  refine g_bipush (v := 97) d_Mo_isTerm_175 rfl ?_
                  refine g_bipush (v := 109) d_Mo_isTerm_177 rfl ?_
                  refine g_bipush (v := 101) d_Mo_isTerm_179 rfl ?_
                  refine g_iconst (v := 0) d_Mo_isTerm_181 rfl ?_
                  refine g_callS d_Mo_isTerm_182 k_Mo_word l_Mo_157 s_Mo_word (by rfl) (by rfl) (Nat.le_of_ble_eq_true rfl) (by decide) (C_Mo_word ⟨_, rfl, ?_⟩)
                  refine g_lcmp d_Mo_isTerm_185 ?_
                  refine g_if_ne (tgt := 202) d_Mo_isTerm_186 (by decide) (fun h186 => ?_) (fun h186 => ?_)
                  · rw [lg_cmp_eq] at h186
                    rw [if_neg (fun z => h186 z.1)] at hQ
                    refine g_lload_n d_Mo_isTerm_202 rfl 0 rfl ?_
                    refine g_bipush (v := 115) d_Mo_isTerm_203 rfl ?_
                    refine g_bipush (v := 104) d_Mo_isTerm_205 rfl ?_
                    refine g_bipush (v := 101) d_Mo_isTerm_207 rfl ?_
                    refine g_bipush (v := 101) d_Mo_isTerm_209 rfl ?_
                    refine g_bipush (v := 116) d_Mo_isTerm_211 rfl ?_
                    refine g_callS d_Mo_isTerm_213 k_Mo_word l_Mo_157 s_Mo_word (by rfl) (by rfl) (Nat.le_of_ble_eq_true rfl) (by decide) (C_Mo_word ⟨_, rfl, ?_⟩)
                    refine g_lcmp d_Mo_isTerm_216 ?_
                    refine g_if_ne (tgt := 229) d_Mo_isTerm_217 (by decide) (fun h217 => ?_) (fun h217 => ?_)
                    · rw [lg_cmp_eq] at h217
                      rw [if_neg (h217)] at hQ
                      refine g_lload_n d_Mo_isTerm_229 rfl 0 rfl ?_
                      refine g_bipush (v := 97) d_Mo_isTerm_230 rfl ?_
                      refine g_bipush (v := 110) d_Mo_isTerm_232 rfl ?_
                      refine g_bipush (v := 121) d_Mo_isTerm_234 rfl ?_
                      refine g_iconst (v := 0) d_Mo_isTerm_236 rfl ?_
                      refine g_iconst (v := 0) d_Mo_isTerm_237 rfl ?_
                      refine g_callS d_Mo_isTerm_238 k_Mo_word l_Mo_157 s_Mo_word (by rfl) (by rfl) (Nat.le_of_ble_eq_true rfl) (by decide) (C_Mo_word ⟨_, rfl, ?_⟩)
                      refine g_lcmp d_Mo_isTerm_241 ?_
                      refine g_if_ne (tgt := 261) d_Mo_isTerm_242 (by decide) (fun h242 => ?_) (fun h242 => ?_)
                      · rw [lg_cmp_eq] at h242
                        rw [if_neg (fun z => h242 z.1)] at hQ
                        have hF := hQ Z hR rfl
                        refine g_iconst (v := 0) d_Mo_isTerm_261 rfl ?_
                        refine g_zret d_Mo_isTerm_262 ?_ ?_
                        · first | rfl | exact zb_nar _ | exact zb_narc (by assumption)
                        · exact hF
                      · rw [lg_cmp_eq] at h242
                        refine g_iload_n d_Mo_isTerm_245 rfl 2 rfl ?_
                        refine g_iconst (v := 2) d_Mo_isTerm_246 rfl ?_
                        refine g_icmp_eq (tgt := 261) d_Mo_isTerm_247 (by decide) (fun h247 => ?_) (fun h247 => ?_)
                        · rw [if_neg (fun z => z.2 h247)] at hQ
                          have hF := hQ Z hR rfl
                          refine g_iconst (v := 0) d_Mo_isTerm_261 rfl ?_
                          refine g_zret d_Mo_isTerm_262 ?_ ?_
                          · first | rfl | exact zb_nar _ | exact zb_narc (by assumption)
                          · exact hF
                        · rw [if_pos ⟨h242, h247⟩] at hQ
                          refine g_aload_nq d_Mo_isTerm_250 rfl 1 rfl ?_
                          refine g_callV d_Mo_isTerm_251 k_Mo_isDigitNext l_Mo_161 i_Mo_isDigitNext rfl p_Mo_isDigitNext hm (by rfl) (by rfl) (Nat.le_of_ble_eq_true rfl) (by decide) (C_Mo_isDigitNext hR hL hw.1 hw.2.2 hq (fun Z1 hR1 B1 => ⟨_, rfl, ?_⟩))
                          first | refine g_if_eqB (tgt := 261) d_Mo_isTerm_254 (by decide) (fun h254 => ?_) (fun h254 => ?_) | refine g_if_eq (tgt := 261) d_Mo_isTerm_254 (by decide) (fun h254 => ?_) (fun h254 => ?_)
                          · have hF := hQ Z1 hR1 B1
                            rw [zb_f h254] at hF
                            refine g_iconst (v := 0) d_Mo_isTerm_261 rfl ?_
                            refine g_zret d_Mo_isTerm_262 ?_ ?_
                            · first | rfl | exact zb_nar _ | exact zb_narc (by assumption)
                            · exact hF
                          · have hF := hQ Z1 hR1 B1
                            rw [zb_t h254] at hF
                            refine g_iconst (v := 1) d_Mo_isTerm_257 rfl ?_
                            refine g_goto (tgt := 262) d_Mo_isTerm_258 (by decide) ?_
                            refine g_zret d_Mo_isTerm_262 ?_ ?_
                            · first | rfl | exact zb_nar _ | exact zb_narc (by assumption)
                            · exact hF
                    · rw [lg_cmp_eq] at h217
                      rw [if_pos h217] at hQ
                      refine g_aload_nq d_Mo_isTerm_220 rfl 1 rfl ?_
                      refine g_iconst (v := 5) d_Mo_isTerm_221 rfl ?_
                      refine g_iconst (v := 0) d_Mo_isTerm_222 rfl ?_
                      refine g_callV d_Mo_isTerm_223 k_Mo_put l_Mo_141 i_Mo_put rfl p_Mo_put hm (by rfl) (by rfl) (Nat.le_of_ble_eq_true rfl) (by decide) (C_Mo_put hR hq.1 (by have := hq.2.1; omega) hq.2.2 (fun Z1 hR1 B1 => ⟨_, rfl, ?_⟩))
                      refine g_goto (tgt := 263) d_Mo_isTerm_226 (by decide) ?_
                      refine g_iconst (v := 1) d_Mo_isTerm_263 rfl ?_
                      refine g_zret d_Mo_isTerm_264 ?_ ?_
                      · first | rfl | exact zb_nar _ | exact zb_narc (by assumption)
                      · exact hQ Z1 hR1 B1
                  · rw [lg_cmp_eq] at h186
                    refine g_iload_n d_Mo_isTerm_189 rfl 2 rfl ?_
                    first | refine g_if_eqB (tgt := 202) d_Mo_isTerm_190 (by decide) (fun h190 => ?_) (fun h190 => ?_) | refine g_if_eq (tgt := 202) d_Mo_isTerm_190 (by decide) (fun h190 => ?_) (fun h190 => ?_)
                    · rw [if_neg (fun z => z.2 h190)] at hQ
                      refine g_lload_n d_Mo_isTerm_202 rfl 0 rfl ?_
                      refine g_bipush (v := 115) d_Mo_isTerm_203 rfl ?_
                      refine g_bipush (v := 104) d_Mo_isTerm_205 rfl ?_
                      refine g_bipush (v := 101) d_Mo_isTerm_207 rfl ?_
                      refine g_bipush (v := 101) d_Mo_isTerm_209 rfl ?_
                      refine g_bipush (v := 116) d_Mo_isTerm_211 rfl ?_
                      refine g_callS d_Mo_isTerm_213 k_Mo_word l_Mo_157 s_Mo_word (by rfl) (by rfl) (Nat.le_of_ble_eq_true rfl) (by decide) (C_Mo_word ⟨_, rfl, ?_⟩)
                      refine g_lcmp d_Mo_isTerm_216 ?_
                      refine g_if_ne (tgt := 229) d_Mo_isTerm_217 (by decide) (fun h217 => ?_) (fun h217 => ?_)
                      · rw [lg_cmp_eq] at h217
                        rw [if_neg (h217)] at hQ
                        refine g_lload_n d_Mo_isTerm_229 rfl 0 rfl ?_
                        refine g_bipush (v := 97) d_Mo_isTerm_230 rfl ?_
                        refine g_bipush (v := 110) d_Mo_isTerm_232 rfl ?_
                        refine g_bipush (v := 121) d_Mo_isTerm_234 rfl ?_
                        refine g_iconst (v := 0) d_Mo_isTerm_236 rfl ?_
                        refine g_iconst (v := 0) d_Mo_isTerm_237 rfl ?_
                        refine g_callS d_Mo_isTerm_238 k_Mo_word l_Mo_157 s_Mo_word (by rfl) (by rfl) (Nat.le_of_ble_eq_true rfl) (by decide) (C_Mo_word ⟨_, rfl, ?_⟩)
                        refine g_lcmp d_Mo_isTerm_241 ?_
                        refine g_if_ne (tgt := 261) d_Mo_isTerm_242 (by decide) (fun h242 => ?_) (fun h242 => ?_)
                        · rw [lg_cmp_eq] at h242
                          rw [if_neg (fun z => h242 z.1)] at hQ
                          have hF := hQ Z hR rfl
                          refine g_iconst (v := 0) d_Mo_isTerm_261 rfl ?_
                          refine g_zret d_Mo_isTerm_262 ?_ ?_
                          · first | rfl | exact zb_nar _ | exact zb_narc (by assumption)
                          · exact hF
                        · rw [lg_cmp_eq] at h242
                          refine g_iload_n d_Mo_isTerm_245 rfl 2 rfl ?_
                          refine g_iconst (v := 2) d_Mo_isTerm_246 rfl ?_
                          refine g_icmp_eq (tgt := 261) d_Mo_isTerm_247 (by decide) (fun h247 => ?_) (fun h247 => ?_)
                          · rw [if_neg (fun z => z.2 h247)] at hQ
                            have hF := hQ Z hR rfl
                            refine g_iconst (v := 0) d_Mo_isTerm_261 rfl ?_
                            refine g_zret d_Mo_isTerm_262 ?_ ?_
                            · first | rfl | exact zb_nar _ | exact zb_narc (by assumption)
                            · exact hF
                          · rw [if_pos ⟨h242, h247⟩] at hQ
                            refine g_aload_nq d_Mo_isTerm_250 rfl 1 rfl ?_
                            refine g_callV d_Mo_isTerm_251 k_Mo_isDigitNext l_Mo_161 i_Mo_isDigitNext rfl p_Mo_isDigitNext hm (by rfl) (by rfl) (Nat.le_of_ble_eq_true rfl) (by decide) (C_Mo_isDigitNext hR hL hw.1 hw.2.2 hq (fun Z1 hR1 B1 => ⟨_, rfl, ?_⟩))
                            first | refine g_if_eqB (tgt := 261) d_Mo_isTerm_254 (by decide) (fun h254 => ?_) (fun h254 => ?_) | refine g_if_eq (tgt := 261) d_Mo_isTerm_254 (by decide) (fun h254 => ?_) (fun h254 => ?_)
                            · have hF := hQ Z1 hR1 B1
                              rw [zb_f h254] at hF
                              refine g_iconst (v := 0) d_Mo_isTerm_261 rfl ?_
                              refine g_zret d_Mo_isTerm_262 ?_ ?_
                              · first | rfl | exact zb_nar _ | exact zb_narc (by assumption)
                              · exact hF
                            · have hF := hQ Z1 hR1 B1
                              rw [zb_t h254] at hF
                              refine g_iconst (v := 1) d_Mo_isTerm_257 rfl ?_
                              refine g_goto (tgt := 262) d_Mo_isTerm_258 (by decide) ?_
                              refine g_zret d_Mo_isTerm_262 ?_ ?_
                              · first | rfl | exact zb_nar _ | exact zb_narc (by assumption)
                              · exact hF
                      · rw [lg_cmp_eq] at h217
                        rw [if_pos h217] at hQ
                        refine g_aload_nq d_Mo_isTerm_220 rfl 1 rfl ?_
                        refine g_iconst (v := 5) d_Mo_isTerm_221 rfl ?_
                        refine g_iconst (v := 0) d_Mo_isTerm_222 rfl ?_
                        refine g_callV d_Mo_isTerm_223 k_Mo_put l_Mo_141 i_Mo_put rfl p_Mo_put hm (by rfl) (by rfl) (Nat.le_of_ble_eq_true rfl) (by decide) (C_Mo_put hR hq.1 (by have := hq.2.1; omega) hq.2.2 (fun Z1 hR1 B1 => ⟨_, rfl, ?_⟩))
                        refine g_goto (tgt := 263) d_Mo_isTerm_226 (by decide) ?_
                        refine g_iconst (v := 1) d_Mo_isTerm_263 rfl ?_
                        refine g_zret d_Mo_isTerm_264 ?_ ?_
                        · first | rfl | exact zb_nar _ | exact zb_narc (by assumption)
                        · exact hQ Z1 hR1 B1
                    · rw [if_pos ⟨h186, h190⟩] at hQ
                      refine g_aload_nq d_Mo_isTerm_193 rfl 1 rfl ?_
                      refine g_iconst (v := 4) d_Mo_isTerm_194 rfl ?_
                      refine g_iconst (v := 0) d_Mo_isTerm_195 rfl ?_
                      refine g_callV d_Mo_isTerm_196 k_Mo_put l_Mo_141 i_Mo_put rfl p_Mo_put hm (by rfl) (by rfl) (Nat.le_of_ble_eq_true rfl) (by decide) (C_Mo_put hR hq.1 (by have := hq.2.1; omega) hq.2.2 (fun Z1 hR1 B1 => ⟨_, rfl, ?_⟩))
                      refine g_goto (tgt := 263) d_Mo_isTerm_199 (by decide) ?_
                      refine g_iconst (v := 1) d_Mo_isTerm_263 rfl ?_
                      refine g_zret d_Mo_isTerm_264 ?_ ?_
                      · first | rfl | exact zb_nar _ | exact zb_narc (by assumption)
                      · exact hQ Z1 hR1 B1
                · rw [if_pos ⟨h155, h160⟩] at hQ
                  refine g_aload_nq d_Mo_isTerm_163 rfl 1 rfl ?_
                  refine g_iconst (v := 3) d_Mo_isTerm_164 rfl ?_
                  refine g_iconst (v := 0) d_Mo_isTerm_165 rfl ?_
                  refine g_callV d_Mo_isTerm_166 k_Mo_put l_Mo_141 i_Mo_put rfl p_Mo_put hm (by rfl) (by rfl) (Nat.le_of_ble_eq_true rfl) (by decide) (C_Mo_put hR hq.1 (by have := hq.2.1; omega) hq.2.2 (fun Z1 hR1 B1 => ⟨_, rfl, ?_⟩))
                  refine g_goto (tgt := 263) d_Mo_isTerm_169 (by decide) ?_
                  refine g_iconst (v := 1) d_Mo_isTerm_263 rfl ?_
                  refine g_zret d_Mo_isTerm_264 ?_ ?_
                  · first | rfl | exact zb_nar _ | exact zb_narc (by assumption)
                  · exact hQ Z1 hR1 B1
            · rw [if_pos ⟨h124, h129⟩] at hQ
              refine g_aload_nq d_Mo_isTerm_132 rfl 1 rfl ?_
              refine g_iconst (v := 2) d_Mo_isTerm_133 rfl ?_
              refine g_iconst (v := 0) d_Mo_isTerm_134 rfl ?_
              refine g_callV d_Mo_isTerm_135 k_Mo_put l_Mo_141 i_Mo_put rfl p_Mo_put hm (by rfl) (by rfl) (Nat.le_of_ble_eq_true rfl) (by decide) (C_Mo_put hR hq.1 (by have := hq.2.1; omega) hq.2.2 (fun Z1 hR1 B1 => ⟨_, rfl, ?_⟩))
              refine g_goto (tgt := 263) d_Mo_isTerm_138 (by decide) ?_
              refine g_iconst (v := 1) d_Mo_isTerm_263 rfl ?_
              refine g_zret d_Mo_isTerm_264 ?_ ?_
              · first | rfl | exact zb_nar _ | exact zb_narc (by assumption)
              · exact hQ Z1 hR1 B1
        · refine g_aload_nq d_Mo_isTerm_67 rfl 1 rfl ?_
          refine g_get d_Mo_isTerm_68 f_Mo_44_Mo (by assumption) (by first | rfl | assumption) ?_
          refine g_aload_nq d_Mo_isTerm_71 rfl 1 rfl ?_
          refine g_get d_Mo_isTerm_72 f_Mo_125_Mo (by assumption) (by first | rfl | assumption) ?_
          refine g_iconst (v := 1) d_Mo_isTerm_75 rfl ?_
          refine g_iadd d_Mo_isTerm_76 ?_
          rw [nI_1]
          refine g_iald d_Mo_isTerm_77 (by assumption) (vp_in_nI (n := (sN S 27 + 1)) (by omega) (by decide)) ?_
          rw [nI_clamp (by omega)]
          refine g_bipush (v := 56) d_Mo_isTerm_78 rfl ?_
          refine g_icmp_ge (tgt := 110) d_Mo_isTerm_80 (by decide) (fun h80 => ?_) (fun h80 => ?_)
          · rw [if_neg (fun z => z.2.2.2.1 h80)] at hQ
            refine g_lload_n d_Mo_isTerm_110 rfl 0 rfl ?_
            refine g_bipush (v := 112) d_Mo_isTerm_111 rfl ?_
            refine g_bipush (v := 105) d_Mo_isTerm_113 rfl ?_
            refine g_bipush (v := 110) d_Mo_isTerm_115 rfl ?_
            refine g_bipush (v := 115) d_Mo_isTerm_117 rfl ?_
            refine g_iconst (v := 0) d_Mo_isTerm_119 rfl ?_
            refine g_callS d_Mo_isTerm_120 k_Mo_word l_Mo_157 s_Mo_word (by rfl) (by rfl) (Nat.le_of_ble_eq_true rfl) (by decide) (C_Mo_word ⟨_, rfl, ?_⟩)
            refine g_lcmp d_Mo_isTerm_123 ?_
            refine g_if_ne (tgt := 141) d_Mo_isTerm_124 (by decide) (fun h124 => ?_) (fun h124 => ?_)
            · rw [lg_cmp_eq] at h124
              rw [if_neg (fun z => h124 z.1)] at hQ
              refine g_lload_n d_Mo_isTerm_141 rfl 0 rfl ?_
              refine g_bipush (v := 107) d_Mo_isTerm_142 rfl ?_
              refine g_bipush (v := 105) d_Mo_isTerm_144 rfl ?_
              refine g_bipush (v := 110) d_Mo_isTerm_146 rfl ?_
              refine g_bipush (v := 100) d_Mo_isTerm_148 rfl ?_
              refine g_iconst (v := 0) d_Mo_isTerm_150 rfl ?_
              refine g_callS d_Mo_isTerm_151 k_Mo_word l_Mo_157 s_Mo_word (by rfl) (by rfl) (Nat.le_of_ble_eq_true rfl) (by decide) (C_Mo_word ⟨_, rfl, ?_⟩)
              refine g_lcmp d_Mo_isTerm_154 ?_
              refine g_if_ne (tgt := 172) d_Mo_isTerm_155 (by decide) (fun h155 => ?_) (fun h155 => ?_)
              · rw [lg_cmp_eq] at h155
                rw [if_neg (fun z => h155 z.1)] at hQ
                refine g_lload_n d_Mo_isTerm_172 rfl 0 rfl ?_
                refine g_bipush (v := 110) d_Mo_isTerm_173 rfl ?_
                refine g_bipush (v := 97) d_Mo_isTerm_175 rfl ?_
                refine g_bipush (v := 109) d_Mo_isTerm_177 rfl ?_
                refine g_bipush (v := 101) d_Mo_isTerm_179 rfl ?_
                refine g_iconst (v := 0) d_Mo_isTerm_181 rfl ?_
                refine g_callS d_Mo_isTerm_182 k_Mo_word l_Mo_157 s_Mo_word (by rfl) (by rfl) (Nat.le_of_ble_eq_true rfl) (by decide) (C_Mo_word ⟨_, rfl, ?_⟩)
                refine g_lcmp d_Mo_isTerm_185 ?_
                refine g_if_ne (tgt := 202) d_Mo_isTerm_186 (by decide) (fun h186 => ?_) (fun h186 => ?_)
                · rw [lg_cmp_eq] at h186
                  rw [if_neg (fun z => h186 z.1)] at hQ
                  refine g_lload_n d_Mo_isTerm_202 rfl 0 rfl ?_
                  refine g_bipush (v := 115) d_Mo_isTerm_203 rfl ?_
                  refine g_bipush (v := 104) d_Mo_isTerm_205 rfl ?_
                  refine g_bipush (v := 101) d_Mo_isTerm_207 rfl ?_
                  refine g_bipush (v := 101) d_Mo_isTerm_209 rfl ?_
                  refine g_bipush (v := 116) d_Mo_isTerm_211 rfl ?_
                  refine g_callS d_Mo_isTerm_213 k_Mo_word l_Mo_157 s_Mo_word (by rfl) (by rfl) (Nat.le_of_ble_eq_true rfl) (by decide) (C_Mo_word ⟨_, rfl, ?_⟩)
                  refine g_lcmp d_Mo_isTerm_216 ?_
                  refine g_if_ne (tgt := 229) d_Mo_isTerm_217 (by decide) (fun h217 => ?_) (fun h217 => ?_)
                  · rw [lg_cmp_eq] at h217
                    rw [if_neg (h217)] at hQ
                    refine g_lload_n d_Mo_isTerm_229 rfl 0 rfl ?_
                    refine g_bipush (v := 97) d_Mo_isTerm_230 rfl ?_
                    refine g_bipush (v := 110) d_Mo_isTerm_232 rfl ?_
                    refine g_bipush (v := 121) d_Mo_isTerm_234 rfl ?_
                    refine g_iconst (v := 0) d_Mo_isTerm_236 rfl ?_
                    refine g_iconst (v := 0) d_Mo_isTerm_237 rfl ?_
                    refine g_callS d_Mo_isTerm_238 k_Mo_word l_Mo_157 s_Mo_word (by rfl) (by rfl) (Nat.le_of_ble_eq_true rfl) (by decide) (C_Mo_word ⟨_, rfl, ?_⟩)
                    refine g_lcmp d_Mo_isTerm_241 ?_
                    refine g_if_ne (tgt := 261) d_Mo_isTerm_242 (by decide) (fun h242 => ?_) (fun h242 => ?_)
                    · rw [lg_cmp_eq] at h242
                      rw [if_neg (fun z => h242 z.1)] at hQ
                      have hF := hQ Z hR rfl
                      refine g_iconst (v := 0) d_Mo_isTerm_261 rfl ?_
                      refine g_zret d_Mo_isTerm_262 ?_ ?_
                      · first | rfl | exact zb_nar _ | exact zb_narc (by assumption)
                      · exact hF
                    · rw [lg_cmp_eq] at h242
                      refine g_iload_n d_Mo_isTerm_245 rfl 2 rfl ?_
                      refine g_iconst (v := 2) d_Mo_isTerm_246 rfl ?_
                      refine g_icmp_eq (tgt := 261) d_Mo_isTerm_247 (by decide) (fun h247 => ?_) (fun h247 => ?_)
                      · rw [if_neg (fun z => z.2 h247)] at hQ
                        have hF := hQ Z hR rfl
                        refine g_iconst (v := 0) d_Mo_isTerm_261 rfl ?_
                        refine g_zret d_Mo_isTerm_262 ?_ ?_
                        · first | rfl | exact zb_nar _ | exact zb_narc (by assumption)
                        · exact hF
                      · rw [if_pos ⟨h242, h247⟩] at hQ
                        refine g_aload_nq d_Mo_isTerm_250 rfl 1 rfl ?_
                        refine g_callV d_Mo_isTerm_251 k_Mo_isDigitNext l_Mo_161 i_Mo_isDigitNext rfl p_Mo_isDigitNext hm (by rfl) (by rfl) (Nat.le_of_ble_eq_true rfl) (by decide) (C_Mo_isDigitNext hR hL hw.1 hw.2.2 hq (fun Z1 hR1 B1 => ⟨_, rfl, ?_⟩))
                        first | refine g_if_eqB (tgt := 261) d_Mo_isTerm_254 (by decide) (fun h254 => ?_) (fun h254 => ?_) | refine g_if_eq (tgt := 261) d_Mo_isTerm_254 (by decide) (fun h254 => ?_) (fun h254 => ?_)
                        · have hF := hQ Z1 hR1 B1
                          rw [zb_f h254] at hF
                          refine g_iconst (v := 0) d_Mo_isTerm_261 rfl ?_
                          refine g_zret d_Mo_isTerm_262 ?_ ?_
                          · first | rfl | exact zb_nar _ | exact zb_narc (by assumption)
                          · exact hF
                        · have hF := hQ Z1 hR1 B1
                          rw [zb_t h254] at hF
                          refine g_iconst (v := 1) d_Mo_isTerm_257 rfl ?_
                          refine g_goto (tgt := 262) d_Mo_isTerm_258 (by decide) ?_
                          refine g_zret d_Mo_isTerm_262 ?_ ?_
                          · first | rfl | exact zb_nar _ | exact zb_narc (by assumption)
                          · exact hF
                  · rw [lg_cmp_eq] at h217
                    rw [if_pos h217] at hQ
                    refine g_aload_nq d_Mo_isTerm_220 rfl 1 rfl ?_
                    refine g_iconst (v := 5) d_Mo_isTerm_221 rfl ?_
                    refine g_iconst (v := 0) d_Mo_isTerm_222 rfl ?_
                    refine g_callV d_Mo_isTerm_223 k_Mo_put l_Mo_141 i_Mo_put rfl p_Mo_put hm (by rfl) (by rfl) (Nat.le_of_ble_eq_true rfl) (by decide) (C_Mo_put hR hq.1 (by have := hq.2.1; omega) hq.2.2 (fun Z1 hR1 B1 => ⟨_, rfl, ?_⟩))
                    refine g_goto (tgt := 263) d_Mo_isTerm_226 (by decide) ?_
                    refine g_iconst (v := 1) d_Mo_isTerm_263 rfl ?_
                    refine g_zret d_Mo_isTerm_264 ?_ ?_
                    · first | rfl | exact zb_nar _ | exact zb_narc (by assumption)
                    · exact hQ Z1 hR1 B1
                · rw [lg_cmp_eq] at h186
                  refine g_iload_n d_Mo_isTerm_189 rfl 2 rfl ?_
                  first | refine g_if_eqB (tgt := 202) d_Mo_isTerm_190 (by decide) (fun h190 => ?_) (fun h190 => ?_) | refine g_if_eq (tgt := 202) d_Mo_isTerm_190 (by decide) (fun h190 => ?_) (fun h190 => ?_)
                  · rw [if_neg (fun z => z.2 h190)] at hQ
                    refine g_lload_n d_Mo_isTerm_202 rfl 0 rfl ?_
                    refine g_bipush (v := 115) d_Mo_isTerm_203 rfl ?_
                    refine g_bipush (v := 104) d_Mo_isTerm_205 rfl ?_
                    refine g_bipush (v := 101) d_Mo_isTerm_207 rfl ?_
                    refine g_bipush (v := 101) d_Mo_isTerm_209 rfl ?_
                    refine g_bipush (v := 116) d_Mo_isTerm_211 rfl ?_
                    refine g_callS d_Mo_isTerm_213 k_Mo_word l_Mo_157 s_Mo_word (by rfl) (by rfl) (Nat.le_of_ble_eq_true rfl) (by decide) (C_Mo_word ⟨_, rfl, ?_⟩)
                    refine g_lcmp d_Mo_isTerm_216 ?_
                    refine g_if_ne (tgt := 229) d_Mo_isTerm_217 (by decide) (fun h217 => ?_) (fun h217 => ?_)
                    · rw [lg_cmp_eq] at h217
                      rw [if_neg (h217)] at hQ
                      refine g_lload_n d_Mo_isTerm_229 rfl 0 rfl ?_
                      refine g_bipush (v := 97) d_Mo_isTerm_230 rfl ?_
                      refine g_bipush (v := 110) d_Mo_isTerm_232 rfl ?_
                      refine g_bipush (v := 121) d_Mo_isTerm_234 rfl ?_
                      refine g_iconst (v := 0) d_Mo_isTerm_236 rfl ?_
                      refine g_iconst (v := 0) d_Mo_isTerm_237 rfl ?_
                      refine g_callS d_Mo_isTerm_238 k_Mo_word l_Mo_157 s_Mo_word (by rfl) (by rfl) (Nat.le_of_ble_eq_true rfl) (by decide) (C_Mo_word ⟨_, rfl, ?_⟩)
                      refine g_lcmp d_Mo_isTerm_241 ?_
                      refine g_if_ne (tgt := 261) d_Mo_isTerm_242 (by decide) (fun h242 => ?_) (fun h242 => ?_)
                      · rw [lg_cmp_eq] at h242
                        rw [if_neg (fun z => h242 z.1)] at hQ
                        have hF := hQ Z hR rfl
                        refine g_iconst (v := 0) d_Mo_isTerm_261 rfl ?_
                        refine g_zret d_Mo_isTerm_262 ?_ ?_
                        · first | rfl | exact zb_nar _ | exact zb_narc (by assumption)
                        · exact hF
                      · rw [lg_cmp_eq] at h242
                        refine g_iload_n d_Mo_isTerm_245 rfl 2 rfl ?_
                        refine g_iconst (v := 2) d_Mo_isTerm_246 rfl ?_
                        refine g_icmp_eq (tgt := 261) d_Mo_isTerm_247 (by decide) (fun h247 => ?_) (fun h247 => ?_)
                        · rw [if_neg (fun z => z.2 h247)] at hQ
                          have hF := hQ Z hR rfl
                          refine g_iconst (v := 0) d_Mo_isTerm_261 rfl ?_
                          refine g_zret d_Mo_isTerm_262 ?_ ?_
                          · first | rfl | exact zb_nar _ | exact zb_narc (by assumption)
                          · exact hF
                        · rw [if_pos ⟨h242, h247⟩] at hQ
                          refine g_aload_nq d_Mo_isTerm_250 rfl 1 rfl ?_
                          refine g_callV d_Mo_isTerm_251 k_Mo_isDigitNext l_Mo_161 i_Mo_isDigitNext rfl p_Mo_isDigitNext hm (by rfl) (by rfl) (Nat.le_of_ble_eq_true rfl) (by decide) (C_Mo_isDigitNext hR hL hw.1 hw.2.2 hq (fun Z1 hR1 B1 => ⟨_, rfl, ?_⟩))
                          first | refine g_if_eqB (tgt := 261) d_Mo_isTerm_254 (by decide) (fun h254 => ?_) (fun h254 => ?_) | refine g_if_eq (tgt := 261) d_Mo_isTerm_254 (by decide) (fun h254 => ?_) (fun h254 => ?_)
                          · have hF := hQ Z1 hR1 B1
                            rw [zb_f h254] at hF
                            refine g_iconst (v := 0) d_Mo_isTerm_261 rfl ?_
                            refine g_zret d_Mo_isTerm_262 ?_ ?_
                            · first | rfl | exact zb_nar _ | exact zb_narc (by assumption)
                            · exact hF
                          · have hF := hQ Z1 hR1 B1
                            rw [zb_t h254] at hF
                            refine g_iconst (v := 1) d_Mo_isTerm_257 rfl ?_
                            refine g_goto (tgt := 262) d_Mo_isTerm_258 (by decide) ?_
                            refine g_zret d_Mo_isTerm_262 ?_ ?_
                            · first | rfl | exact zb_nar _ | exact zb_narc (by assumption)
                            · exact hF
                    · rw [lg_cmp_eq] at h217
                      rw [if_pos h217] at hQ
                      refine g_aload_nq d_Mo_isTerm_220 rfl 1 rfl ?_
                      refine g_iconst (v := 5) d_Mo_isTerm_221 rfl ?_
                      refine g_iconst (v := 0) d_Mo_isTerm_222 rfl ?_
                      refine g_callV d_Mo_isTerm_223 k_Mo_put l_Mo_141 i_Mo_put rfl p_Mo_put hm (by rfl) (by rfl) (Nat.le_of_ble_eq_true rfl) (by decide) (C_Mo_put hR hq.1 (by have := hq.2.1; omega) hq.2.2 (fun Z1 hR1 B1 => ⟨_, rfl, ?_⟩))
                      refine g_goto (tgt := 263) d_Mo_isTerm_226 (by decide) ?_
                      refine g_iconst (v := 1) d_Mo_isTerm_263 rfl ?_
                      refine g_zret d_Mo_isTerm_264 ?_ ?_
                      · first | rfl | exact zb_nar _ | exact zb_narc (by assumption)
                      · exact hQ Z1 hR1 B1
                  · rw [if_pos ⟨h186, h190⟩] at hQ
                    refine g_aload_nq d_Mo_isTerm_193 rfl 1 rfl ?_
                    refine g_iconst (v := 4) d_Mo_isTerm_194 rfl ?_
                    refine g_iconst (v := 0) d_Mo_isTerm_195 rfl ?_
                    refine g_callV d_Mo_isTerm_196 k_Mo_put l_Mo_141 i_Mo_put rfl p_Mo_put hm (by rfl) (by rfl) (Nat.le_of_ble_eq_true rfl) (by decide) (C_Mo_put hR hq.1 (by have := hq.2.1; omega) hq.2.2 (fun Z1 hR1 B1 => ⟨_, rfl, ?_⟩))
                    refine g_goto (tgt := 263) d_Mo_isTerm_199 (by decide) ?_
                    refine g_iconst (v := 1) d_Mo_isTerm_263 rfl ?_
                    refine g_zret d_Mo_isTerm_264 ?_ ?_
                    · first | rfl | exact zb_nar _ | exact zb_narc (by assumption)
                    · exact hQ Z1 hR1 B1
              · rw [lg_cmp_eq] at h155
                refine g_iload_n d_Mo_isTerm_158 rfl 2 rfl ?_
                refine g_iconst (v := 2) d_Mo_isTerm_159 rfl ?_
                refine g_icmp_ne (tgt := 172) d_Mo_isTerm_160 (by decide) (fun h160 => ?_) (fun h160 => ?_)
                · rw [if_neg (fun z => h160 z.2)] at hQ
                  refine g_lload_n d_Mo_isTerm_172 rfl 0 rfl ?_
                  refine g_bipush (v := 110) d_Mo_isTerm_173 rfl ?_
                  refine g_bipush (v := 97) d_Mo_isTerm_175 rfl ?_
                  refine g_bipush (v := 109) d_Mo_isTerm_177 rfl ?_
                  refine g_bipush (v := 101) d_Mo_isTerm_179 rfl ?_
                  refine g_iconst (v := 0) d_Mo_isTerm_181 rfl ?_
                  refine g_callS d_Mo_isTerm_182 k_Mo_word l_Mo_157 s_Mo_word (by rfl) (by rfl) (Nat.le_of_ble_eq_true rfl) (by decide) (C_Mo_word ⟨_, rfl, ?_⟩)
                  refine g_lcmp d_Mo_isTerm_185 ?_
                  refine g_if_ne (tgt := 202) d_Mo_isTerm_186 (by decide) (fun h186 => ?_) (fun h186 => ?_)
                  · rw [lg_cmp_eq] at h186
                    rw [if_neg (fun z => h186 z.1)] at hQ
                    refine g_lload_n d_Mo_isTerm_202 rfl 0 rfl ?_
                    refine g_bipush (v := 115) d_Mo_isTerm_203 rfl ?_
                    refine g_bipush (v := 104) d_Mo_isTerm_205 rfl ?_
                    refine g_bipush (v := 101) d_Mo_isTerm_207 rfl ?_
                    refine g_bipush (v := 101) d_Mo_isTerm_209 rfl ?_
                    refine g_bipush (v := 116) d_Mo_isTerm_211 rfl ?_
                    refine g_callS d_Mo_isTerm_213 k_Mo_word l_Mo_157 s_Mo_word (by rfl) (by rfl) (Nat.le_of_ble_eq_true rfl) (by decide) (C_Mo_word ⟨_, rfl, ?_⟩)
                    refine g_lcmp d_Mo_isTerm_216 ?_
                    refine g_if_ne (tgt := 229) d_Mo_isTerm_217 (by decide) (fun h217 => ?_) (fun h217 => ?_)
                    · rw [lg_cmp_eq] at h217
                      rw [if_neg (h217)] at hQ
                      refine g_lload_n d_Mo_isTerm_229 rfl 0 rfl ?_
                      refine g_bipush (v := 97) d_Mo_isTerm_230 rfl ?_
                      refine g_bipush (v := 110) d_Mo_isTerm_232 rfl ?_
                      refine g_bipush (v := 121) d_Mo_isTerm_234 rfl ?_
                      refine g_iconst (v := 0) d_Mo_isTerm_236 rfl ?_
                      refine g_iconst (v := 0) d_Mo_isTerm_237 rfl ?_
                      refine g_callS d_Mo_isTerm_238 k_Mo_word l_Mo_157 s_Mo_word (by rfl) (by rfl) (Nat.le_of_ble_eq_true rfl) (by decide) (C_Mo_word ⟨_, rfl, ?_⟩)
                      refine g_lcmp d_Mo_isTerm_241 ?_
                      refine g_if_ne (tgt := 261) d_Mo_isTerm_242 (by decide) (fun h242 => ?_) (fun h242 => ?_)
                      · rw [lg_cmp_eq] at h242
                        rw [if_neg (fun z => h242 z.1)] at hQ
                        have hF := hQ Z hR rfl
                        refine g_iconst (v := 0) d_Mo_isTerm_261 rfl ?_
                        refine g_zret d_Mo_isTerm_262 ?_ ?_
                        · first | rfl | exact zb_nar _ | exact zb_narc (by assumption)
                        · exact hF
                      · rw [lg_cmp_eq] at h242
                        refine g_iload_n d_Mo_isTerm_245 rfl 2 rfl ?_
                        refine g_iconst (v := 2) d_Mo_isTerm_246 rfl ?_
                        refine g_icmp_eq (tgt := 261) d_Mo_isTerm_247 (by decide) (fun h247 => ?_) (fun h247 => ?_)
                        · rw [if_neg (fun z => z.2 h247)] at hQ
                          have hF := hQ Z hR rfl
                          refine g_iconst (v := 0) d_Mo_isTerm_261 rfl ?_
                          refine g_zret d_Mo_isTerm_262 ?_ ?_
                          · first | rfl | exact zb_nar _ | exact zb_narc (by assumption)
                          · exact hF
                        · rw [if_pos ⟨h242, h247⟩] at hQ
                          refine g_aload_nq d_Mo_isTerm_250 rfl 1 rfl ?_
                          refine g_callV d_Mo_isTerm_251 k_Mo_isDigitNext l_Mo_161 i_Mo_isDigitNext rfl p_Mo_isDigitNext hm (by rfl) (by rfl) (Nat.le_of_ble_eq_true rfl) (by decide) (C_Mo_isDigitNext hR hL hw.1 hw.2.2 hq (fun Z1 hR1 B1 => ⟨_, rfl, ?_⟩))
                          first | refine g_if_eqB (tgt := 261) d_Mo_isTerm_254 (by decide) (fun h254 => ?_) (fun h254 => ?_) | refine g_if_eq (tgt := 261) d_Mo_isTerm_254 (by decide) (fun h254 => ?_) (fun h254 => ?_)
                          · have hF := hQ Z1 hR1 B1
                            rw [zb_f h254] at hF
                            refine g_iconst (v := 0) d_Mo_isTerm_261 rfl ?_
                            refine g_zret d_Mo_isTerm_262 ?_ ?_
                            · first | rfl | exact zb_nar _ | exact zb_narc (by assumption)
                            · exact hF
                          · have hF := hQ Z1 hR1 B1
                            rw [zb_t h254] at hF
                            refine g_iconst (v := 1) d_Mo_isTerm_257 rfl ?_
                            refine g_goto (tgt := 262) d_Mo_isTerm_258 (by decide) ?_
                            refine g_zret d_Mo_isTerm_262 ?_ ?_
                            · first | rfl | exact zb_nar _ | exact zb_narc (by assumption)
                            · exact hF
                    · rw [lg_cmp_eq] at h217
                      rw [if_pos h217] at hQ
                      refine g_aload_nq d_Mo_isTerm_220 rfl 1 rfl ?_
                      refine g_iconst (v := 5) d_Mo_isTerm_221 rfl ?_
                      refine g_iconst (v := 0) d_Mo_isTerm_222 rfl ?_
                      refine g_callV d_Mo_isTerm_223 k_Mo_put l_Mo_141 i_Mo_put rfl p_Mo_put hm (by rfl) (by rfl) (Nat.le_of_ble_eq_true rfl) (by decide) (C_Mo_put hR hq.1 (by have := hq.2.1; omega) hq.2.2 (fun Z1 hR1 B1 => ⟨_, rfl, ?_⟩))
                      refine g_goto (tgt := 263) d_Mo_isTerm_226 (by decide) ?_
                      refine g_iconst (v := 1) d_Mo_isTerm_263 rfl ?_
                      refine g_zret d_Mo_isTerm_264 ?_ ?_
                      · first | rfl | exact zb_nar _ | exact zb_narc (by assumption)
                      · exact hQ Z1 hR1 B1
                  · rw [lg_cmp_eq] at h186
                    refine g_iload_n d_Mo_isTerm_189 rfl 2 rfl ?_
                    first | refine g_if_eqB (tgt := 202) d_Mo_isTerm_190 (by decide) (fun h190 => ?_) (fun h190 => ?_) | refine g_if_eq (tgt := 202) d_Mo_isTerm_190 (by decide) (fun h190 => ?_) (fun h190 => ?_)
                    · rw [if_neg (fun z => z.2 h190)] at hQ
                      refine g_lload_n d_Mo_isTerm_202 rfl 0 rfl ?_
                      refine g_bipush (v := 115) d_Mo_isTerm_203 rfl ?_
                      refine g_bipush (v := 104) d_Mo_isTerm_205 rfl ?_
                      refine g_bipush (v := 101) d_Mo_isTerm_207 rfl ?_
                      refine g_bipush (v := 101) d_Mo_isTerm_209 rfl ?_
                      refine g_bipush (v := 116) d_Mo_isTerm_211 rfl ?_
                      refine g_callS d_Mo_isTerm_213 k_Mo_word l_Mo_157 s_Mo_word (by rfl) (by rfl) (Nat.le_of_ble_eq_true rfl) (by decide) (C_Mo_word ⟨_, rfl, ?_⟩)
                      refine g_lcmp d_Mo_isTerm_216 ?_
                      refine g_if_ne (tgt := 229) d_Mo_isTerm_217 (by decide) (fun h217 => ?_) (fun h217 => ?_)
                      · rw [lg_cmp_eq] at h217
                        rw [if_neg (h217)] at hQ
                        refine g_lload_n d_Mo_isTerm_229 rfl 0 rfl ?_
                        refine g_bipush (v := 97) d_Mo_isTerm_230 rfl ?_
                        refine g_bipush (v := 110) d_Mo_isTerm_232 rfl ?_
                        refine g_bipush (v := 121) d_Mo_isTerm_234 rfl ?_
                        refine g_iconst (v := 0) d_Mo_isTerm_236 rfl ?_
                        refine g_iconst (v := 0) d_Mo_isTerm_237 rfl ?_
                        refine g_callS d_Mo_isTerm_238 k_Mo_word l_Mo_157 s_Mo_word (by rfl) (by rfl) (Nat.le_of_ble_eq_true rfl) (by decide) (C_Mo_word ⟨_, rfl, ?_⟩)
                        refine g_lcmp d_Mo_isTerm_241 ?_
                        refine g_if_ne (tgt := 261) d_Mo_isTerm_242 (by decide) (fun h242 => ?_) (fun h242 => ?_)
                        · rw [lg_cmp_eq] at h242
                          rw [if_neg (fun z => h242 z.1)] at hQ
                          have hF := hQ Z hR rfl
                          refine g_iconst (v := 0) d_Mo_isTerm_261 rfl ?_
                          refine g_zret d_Mo_isTerm_262 ?_ ?_
                          · first | rfl | exact zb_nar _ | exact zb_narc (by assumption)
                          · exact hF
                        · rw [lg_cmp_eq] at h242
                          refine g_iload_n d_Mo_isTerm_245 rfl 2 rfl ?_
                          refine g_iconst (v := 2) d_Mo_isTerm_246 rfl ?_
                          refine g_icmp_eq (tgt := 261) d_Mo_isTerm_247 (by decide) (fun h247 => ?_) (fun h247 => ?_)
                          · rw [if_neg (fun z => z.2 h247)] at hQ
                            have hF := hQ Z hR rfl
                            refine g_iconst (v := 0) d_Mo_isTerm_261 rfl ?_
                            refine g_zret d_Mo_isTerm_262 ?_ ?_
                            · first | rfl | exact zb_nar _ | exact zb_narc (by assumption)
                            · exact hF
                          · rw [if_pos ⟨h242, h247⟩] at hQ
                            refine g_aload_nq d_Mo_isTerm_250 rfl 1 rfl ?_
                            refine g_callV d_Mo_isTerm_251 k_Mo_isDigitNext l_Mo_161 i_Mo_isDigitNext rfl p_Mo_isDigitNext hm (by rfl) (by rfl) (Nat.le_of_ble_eq_true rfl) (by decide) (C_Mo_isDigitNext hR hL hw.1 hw.2.2 hq (fun Z1 hR1 B1 => ⟨_, rfl, ?_⟩))
                            first | refine g_if_eqB (tgt := 261) d_Mo_isTerm_254 (by decide) (fun h254 => ?_) (fun h254 => ?_) | refine g_if_eq (tgt := 261) d_Mo_isTerm_254 (by decide) (fun h254 => ?_) (fun h254 => ?_)
                            · have hF := hQ Z1 hR1 B1
                              rw [zb_f h254] at hF
                              refine g_iconst (v := 0) d_Mo_isTerm_261 rfl ?_
                              refine g_zret d_Mo_isTerm_262 ?_ ?_
                              · first | rfl | exact zb_nar _ | exact zb_narc (by assumption)
                              · exact hF
                            · have hF := hQ Z1 hR1 B1
                              rw [zb_t h254] at hF
                              refine g_iconst (v := 1) d_Mo_isTerm_257 rfl ?_
                              refine g_goto (tgt := 262) d_Mo_isTerm_258 (by decide) ?_
                              refine g_zret d_Mo_isTerm_262 ?_ ?_
                              · first | rfl | exact zb_nar _ | exact zb_narc (by assumption)
                              · exact hF
                      · rw [lg_cmp_eq] at h217
                        rw [if_pos h217] at hQ
                        refine g_aload_nq d_Mo_isTerm_220 rfl 1 rfl ?_
                        refine g_iconst (v := 5) d_Mo_isTerm_221 rfl ?_
                        refine g_iconst (v := 0) d_Mo_isTerm_222 rfl ?_
                        refine g_callV d_Mo_isTerm_223 k_Mo_put l_Mo_141 i_Mo_put rfl p_Mo_put hm (by rfl) (by rfl) (Nat.le_of_ble_eq_true rfl) (by decide) (C_Mo_put hR hq.1 (by have := hq.2.1; omega) hq.2.2 (fun Z1 hR1 B1 => ⟨_, rfl, ?_⟩))
                        refine g_goto (tgt := 263) d_Mo_isTerm_226 (by decide) ?_
                        refine g_iconst (v := 1) d_Mo_isTerm_263 rfl ?_
                        refine g_zret d_Mo_isTerm_264 ?_ ?_
                        · first | rfl | exact zb_nar _ | exact zb_narc (by assumption)
                        · exact hQ Z1 hR1 B1
                    · rw [if_pos ⟨h186, h190⟩] at hQ
                      refine g_aload_nq d_Mo_isTerm_193 rfl 1 rfl ?_
                      refine g_iconst (v := 4) d_Mo_isTerm_194 rfl ?_
                      refine g_iconst (v := 0) d_Mo_isTerm_195 rfl ?_
                      refine g_callV d_Mo_isTerm_196 k_Mo_put l_Mo_141 i_Mo_put rfl p_Mo_put hm (by rfl) (by rfl) (Nat.le_of_ble_eq_true rfl) (by decide) (C_Mo_put hR hq.1 (by have := hq.2.1; omega) hq.2.2 (fun Z1 hR1 B1 => ⟨_, rfl, ?_⟩))
                      refine g_goto (tgt := 263) d_Mo_isTerm_199 (by decide) ?_
                      refine g_iconst (v := 1) d_Mo_isTerm_263 rfl ?_
                      refine g_zret d_Mo_isTerm_264 ?_ ?_
                      · first | rfl | exact zb_nar _ | exact zb_narc (by assumption)
                      · exact hQ Z1 hR1 B1
                · rw [if_pos ⟨h155, h160⟩] at hQ
                  refine g_aload_nq d_Mo_isTerm_163 rfl 1 rfl ?_
                  refine g_iconst (v := 3) d_Mo_isTerm_164 rfl ?_
                  refine g_iconst (v := 0) d_Mo_isTerm_165 rfl ?_
                  refine g_callV d_Mo_isTerm_166 k_Mo_put l_Mo_141 i_Mo_put rfl p_Mo_put hm (by rfl) (by rfl) (Nat.le_of_ble_eq_true rfl) (by decide) (C_Mo_put hR hq.1 (by have := hq.2.1; omega) hq.2.2 (fun Z1 hR1 B1 => ⟨_, rfl, ?_⟩))
                  refine g_goto (tgt := 263) d_Mo_isTerm_169 (by decide) ?_
                  refine g_iconst (v := 1) d_Mo_isTerm_263 rfl ?_
                  refine g_zret d_Mo_isTerm_264 ?_ ?_
                  · first | rfl | exact zb_nar _ | exact zb_narc (by assumption)
                  · exact hQ Z1 hR1 B1
            · rw [lg_cmp_eq] at h124
              refine g_iload_n d_Mo_isTerm_127 rfl 2 rfl ?_
              refine g_iconst (v := 2) d_Mo_isTerm_128 rfl ?_
              refine g_icmp_eq (tgt := 141) d_Mo_isTerm_129 (by decide) (fun h129 => ?_) (fun h129 => ?_)
              · rw [if_neg (fun z => z.2 h129)] at hQ
                refine g_lload_n d_Mo_isTerm_141 rfl 0 rfl ?_
                refine g_bipush (v := 107) d_Mo_isTerm_142 rfl ?_
                refine g_bipush (v := 105) d_Mo_isTerm_144 rfl ?_
                refine g_bipush (v := 110) d_Mo_isTerm_146 rfl ?_
                refine g_bipush (v := 100) d_Mo_isTerm_148 rfl ?_
                refine g_iconst (v := 0) d_Mo_isTerm_150 rfl ?_
                refine g_callS d_Mo_isTerm_151 k_Mo_word l_Mo_157 s_Mo_word (by rfl) (by rfl) (Nat.le_of_ble_eq_true rfl) (by decide) (C_Mo_word ⟨_, rfl, ?_⟩)
                refine g_lcmp d_Mo_isTerm_154 ?_
                refine g_if_ne (tgt := 172) d_Mo_isTerm_155 (by decide) (fun h155 => ?_) (fun h155 => ?_)
                · rw [lg_cmp_eq] at h155
                  rw [if_neg (fun z => h155 z.1)] at hQ
                  refine g_lload_n d_Mo_isTerm_172 rfl 0 rfl ?_
                  refine g_bipush (v := 110) d_Mo_isTerm_173 rfl ?_
                  refine g_bipush (v := 97) d_Mo_isTerm_175 rfl ?_
                  refine g_bipush (v := 109) d_Mo_isTerm_177 rfl ?_
                  refine g_bipush (v := 101) d_Mo_isTerm_179 rfl ?_
                  refine g_iconst (v := 0) d_Mo_isTerm_181 rfl ?_
                  refine g_callS d_Mo_isTerm_182 k_Mo_word l_Mo_157 s_Mo_word (by rfl) (by rfl) (Nat.le_of_ble_eq_true rfl) (by decide) (C_Mo_word ⟨_, rfl, ?_⟩)
                  refine g_lcmp d_Mo_isTerm_185 ?_
                  refine g_if_ne (tgt := 202) d_Mo_isTerm_186 (by decide) (fun h186 => ?_) (fun h186 => ?_)
                  · rw [lg_cmp_eq] at h186
                    rw [if_neg (fun z => h186 z.1)] at hQ
                    refine g_lload_n d_Mo_isTerm_202 rfl 0 rfl ?_
                    refine g_bipush (v := 115) d_Mo_isTerm_203 rfl ?_
                    refine g_bipush (v := 104) d_Mo_isTerm_205 rfl ?_
                    refine g_bipush (v := 101) d_Mo_isTerm_207 rfl ?_
                    refine g_bipush (v := 101) d_Mo_isTerm_209 rfl ?_
                    refine g_bipush (v := 116) d_Mo_isTerm_211 rfl ?_
                    refine g_callS d_Mo_isTerm_213 k_Mo_word l_Mo_157 s_Mo_word (by rfl) (by rfl) (Nat.le_of_ble_eq_true rfl) (by decide) (C_Mo_word ⟨_, rfl, ?_⟩)
                    refine g_lcmp d_Mo_isTerm_216 ?_
                    refine g_if_ne (tgt := 229) d_Mo_isTerm_217 (by decide) (fun h217 => ?_) (fun h217 => ?_)
                    · rw [lg_cmp_eq] at h217
                      rw [if_neg (h217)] at hQ
                      refine g_lload_n d_Mo_isTerm_229 rfl 0 rfl ?_
                      refine g_bipush (v := 97) d_Mo_isTerm_230 rfl ?_
                      refine g_bipush (v := 110) d_Mo_isTerm_232 rfl ?_
                      refine g_bipush (v := 121) d_Mo_isTerm_234 rfl ?_
                      refine g_iconst (v := 0) d_Mo_isTerm_236 rfl ?_
                      refine g_iconst (v := 0) d_Mo_isTerm_237 rfl ?_
                      refine g_callS d_Mo_isTerm_238 k_Mo_word l_Mo_157 s_Mo_word (by rfl) (by rfl) (Nat.le_of_ble_eq_true rfl) (by decide) (C_Mo_word ⟨_, rfl, ?_⟩)
                      refine g_lcmp d_Mo_isTerm_241 ?_
                      refine g_if_ne (tgt := 261) d_Mo_isTerm_242 (by decide) (fun h242 => ?_) (fun h242 => ?_)
                      · rw [lg_cmp_eq] at h242
                        rw [if_neg (fun z => h242 z.1)] at hQ
                        have hF := hQ Z hR rfl
                        refine g_iconst (v := 0) d_Mo_isTerm_261 rfl ?_
                        refine g_zret d_Mo_isTerm_262 ?_ ?_
                        · first | rfl | exact zb_nar _ | exact zb_narc (by assumption)
                        · exact hF
                      · rw [lg_cmp_eq] at h242
                        refine g_iload_n d_Mo_isTerm_245 rfl 2 rfl ?_
                        refine g_iconst (v := 2) d_Mo_isTerm_246 rfl ?_
                        refine g_icmp_eq (tgt := 261) d_Mo_isTerm_247 (by decide) (fun h247 => ?_) (fun h247 => ?_)
                        · rw [if_neg (fun z => z.2 h247)] at hQ
                          have hF := hQ Z hR rfl
                          refine g_iconst (v := 0) d_Mo_isTerm_261 rfl ?_
                          refine g_zret d_Mo_isTerm_262 ?_ ?_
                          · first | rfl | exact zb_nar _ | exact zb_narc (by assumption)
                          · exact hF
                        · rw [if_pos ⟨h242, h247⟩] at hQ
                          refine g_aload_nq d_Mo_isTerm_250 rfl 1 rfl ?_
                          refine g_callV d_Mo_isTerm_251 k_Mo_isDigitNext l_Mo_161 i_Mo_isDigitNext rfl p_Mo_isDigitNext hm (by rfl) (by rfl) (Nat.le_of_ble_eq_true rfl) (by decide) (C_Mo_isDigitNext hR hL hw.1 hw.2.2 hq (fun Z1 hR1 B1 => ⟨_, rfl, ?_⟩))
                          first | refine g_if_eqB (tgt := 261) d_Mo_isTerm_254 (by decide) (fun h254 => ?_) (fun h254 => ?_) | refine g_if_eq (tgt := 261) d_Mo_isTerm_254 (by decide) (fun h254 => ?_) (fun h254 => ?_)
                          · have hF := hQ Z1 hR1 B1
                            rw [zb_f h254] at hF
                            refine g_iconst (v := 0) d_Mo_isTerm_261 rfl ?_
                            refine g_zret d_Mo_isTerm_262 ?_ ?_
                            · first | rfl | exact zb_nar _ | exact zb_narc (by assumption)
                            · exact hF
                          · have hF := hQ Z1 hR1 B1
                            rw [zb_t h254] at hF
                            refine g_iconst (v := 1) d_Mo_isTerm_257 rfl ?_
                            refine g_goto (tgt := 262) d_Mo_isTerm_258 (by decide) ?_
                            refine g_zret d_Mo_isTerm_262 ?_ ?_
                            · first | rfl | exact zb_nar _ | exact zb_narc (by assumption)
                            · exact hF
                    · rw [lg_cmp_eq] at h217
                      rw [if_pos h217] at hQ
                      refine g_aload_nq d_Mo_isTerm_220 rfl 1 rfl ?_
                      refine g_iconst (v := 5) d_Mo_isTerm_221 rfl ?_
                      refine g_iconst (v := 0) d_Mo_isTerm_222 rfl ?_
                      refine g_callV d_Mo_isTerm_223 k_Mo_put l_Mo_141 i_Mo_put rfl p_Mo_put hm (by rfl) (by rfl) (Nat.le_of_ble_eq_true rfl) (by decide) (C_Mo_put hR hq.1 (by have := hq.2.1; omega) hq.2.2 (fun Z1 hR1 B1 => ⟨_, rfl, ?_⟩))
                      refine g_goto (tgt := 263) d_Mo_isTerm_226 (by decide) ?_
                      refine g_iconst (v := 1) d_Mo_isTerm_263 rfl ?_
                      refine g_zret d_Mo_isTerm_264 ?_ ?_
                      · first | rfl | exact zb_nar _ | exact zb_narc (by assumption)
                      · exact hQ Z1 hR1 B1
                  · rw [lg_cmp_eq] at h186
                    refine g_iload_n d_Mo_isTerm_189 rfl 2 rfl ?_
                    first | refine g_if_eqB (tgt := 202) d_Mo_isTerm_190 (by decide) (fun h190 => ?_) (fun h190 => ?_) | refine g_if_eq (tgt := 202) d_Mo_isTerm_190 (by decide) (fun h190 => ?_) (fun h190 => ?_)
                    · rw [if_neg (fun z => z.2 h190)] at hQ
                      refine g_lload_n d_Mo_isTerm_202 rfl 0 rfl ?_
                      refine g_bipush (v := 115) d_Mo_isTerm_203 rfl ?_
                      refine g_bipush (v := 104) d_Mo_isTerm_205 rfl ?_
                      refine g_bipush (v := 101) d_Mo_isTerm_207 rfl ?_
                      refine g_bipush (v := 101) d_Mo_isTerm_209 rfl ?_
                      refine g_bipush (v := 116) d_Mo_isTerm_211 rfl ?_
                      refine g_callS d_Mo_isTerm_213 k_Mo_word l_Mo_157 s_Mo_word (by rfl) (by rfl) (Nat.le_of_ble_eq_true rfl) (by decide) (C_Mo_word ⟨_, rfl, ?_⟩)
                      refine g_lcmp d_Mo_isTerm_216 ?_
                      refine g_if_ne (tgt := 229) d_Mo_isTerm_217 (by decide) (fun h217 => ?_) (fun h217 => ?_)
                      · rw [lg_cmp_eq] at h217
                        rw [if_neg (h217)] at hQ
                        refine g_lload_n d_Mo_isTerm_229 rfl 0 rfl ?_
                        refine g_bipush (v := 97) d_Mo_isTerm_230 rfl ?_
                        refine g_bipush (v := 110) d_Mo_isTerm_232 rfl ?_
                        refine g_bipush (v := 121) d_Mo_isTerm_234 rfl ?_
                        refine g_iconst (v := 0) d_Mo_isTerm_236 rfl ?_
                        refine g_iconst (v := 0) d_Mo_isTerm_237 rfl ?_
                        refine g_callS d_Mo_isTerm_238 k_Mo_word l_Mo_157 s_Mo_word (by rfl) (by rfl) (Nat.le_of_ble_eq_true rfl) (by decide) (C_Mo_word ⟨_, rfl, ?_⟩)
                        refine g_lcmp d_Mo_isTerm_241 ?_
                        refine g_if_ne (tgt := 261) d_Mo_isTerm_242 (by decide) (fun h242 => ?_) (fun h242 => ?_)
                        · rw [lg_cmp_eq] at h242
                          rw [if_neg (fun z => h242 z.1)] at hQ
                          have hF := hQ Z hR rfl
                          refine g_iconst (v := 0) d_Mo_isTerm_261 rfl ?_
                          refine g_zret d_Mo_isTerm_262 ?_ ?_
                          · first | rfl | exact zb_nar _ | exact zb_narc (by assumption)
                          · exact hF
                        · rw [lg_cmp_eq] at h242
                          refine g_iload_n d_Mo_isTerm_245 rfl 2 rfl ?_
                          refine g_iconst (v := 2) d_Mo_isTerm_246 rfl ?_
                          refine g_icmp_eq (tgt := 261) d_Mo_isTerm_247 (by decide) (fun h247 => ?_) (fun h247 => ?_)
                          · rw [if_neg (fun z => z.2 h247)] at hQ
                            have hF := hQ Z hR rfl
                            refine g_iconst (v := 0) d_Mo_isTerm_261 rfl ?_
                            refine g_zret d_Mo_isTerm_262 ?_ ?_
                            · first | rfl | exact zb_nar _ | exact zb_narc (by assumption)
                            · exact hF
                          · rw [if_pos ⟨h242, h247⟩] at hQ
                            refine g_aload_nq d_Mo_isTerm_250 rfl 1 rfl ?_
                            refine g_callV d_Mo_isTerm_251 k_Mo_isDigitNext l_Mo_161 i_Mo_isDigitNext rfl p_Mo_isDigitNext hm (by rfl) (by rfl) (Nat.le_of_ble_eq_true rfl) (by decide) (C_Mo_isDigitNext hR hL hw.1 hw.2.2 hq (fun Z1 hR1 B1 => ⟨_, rfl, ?_⟩))
                            first | refine g_if_eqB (tgt := 261) d_Mo_isTerm_254 (by decide) (fun h254 => ?_) (fun h254 => ?_) | refine g_if_eq (tgt := 261) d_Mo_isTerm_254 (by decide) (fun h254 => ?_) (fun h254 => ?_)
                            · have hF := hQ Z1 hR1 B1
                              rw [zb_f h254] at hF
                              refine g_iconst (v := 0) d_Mo_isTerm_261 rfl ?_
                              refine g_zret d_Mo_isTerm_262 ?_ ?_
                              · first | rfl | exact zb_nar _ | exact zb_narc (by assumption)
                              · exact hF
                            · have hF := hQ Z1 hR1 B1
                              rw [zb_t h254] at hF
                              refine g_iconst (v := 1) d_Mo_isTerm_257 rfl ?_
                              refine g_goto (tgt := 262) d_Mo_isTerm_258 (by decide) ?_
                              refine g_zret d_Mo_isTerm_262 ?_ ?_
                              · first | rfl | exact zb_nar _ | exact zb_narc (by assumption)
                              · exact hF
                      · rw [lg_cmp_eq] at h217
                        rw [if_pos h217] at hQ
                        refine g_aload_nq d_Mo_isTerm_220 rfl 1 rfl ?_
                        refine g_iconst (v := 5) d_Mo_isTerm_221 rfl ?_
                        refine g_iconst (v := 0) d_Mo_isTerm_222 rfl ?_
                        refine g_callV d_Mo_isTerm_223 k_Mo_put l_Mo_141 i_Mo_put rfl p_Mo_put hm (by rfl) (by rfl) (Nat.le_of_ble_eq_true rfl) (by decide) (C_Mo_put hR hq.1 (by have := hq.2.1; omega) hq.2.2 (fun Z1 hR1 B1 => ⟨_, rfl, ?_⟩))
                        refine g_goto (tgt := 263) d_Mo_isTerm_226 (by decide) ?_
                        refine g_iconst (v := 1) d_Mo_isTerm_263 rfl ?_
                        refine g_zret d_Mo_isTerm_264 ?_ ?_
                        · first | rfl | exact zb_nar _ | exact zb_narc (by assumption)
                        · exact hQ Z1 hR1 B1
                    · rw [if_pos ⟨h186, h190⟩] at hQ
                      refine g_aload_nq d_Mo_isTerm_193 rfl 1 rfl ?_
                      refine g_iconst (v := 4) d_Mo_isTerm_194 rfl ?_
                      refine g_iconst (v := 0) d_Mo_isTerm_195 rfl ?_
                      refine g_callV d_Mo_isTerm_196 k_Mo_put l_Mo_141 i_Mo_put rfl p_Mo_put hm (by rfl) (by rfl) (Nat.le_of_ble_eq_true rfl) (by decide) (C_Mo_put hR hq.1 (by have := hq.2.1; omega) hq.2.2 (fun Z1 hR1 B1 => ⟨_, rfl, ?_⟩))
                      refine g_goto (tgt := 263) d_Mo_isTerm_199 (by decide) ?_
                      refine g_iconst (v := 1) d_Mo_isTerm_263 rfl ?_
                      refine g_zret d_Mo_isTerm_264 ?_ ?_
                      · first | rfl | exact zb_nar _ | exact zb_narc (by assumption)
                      · exact hQ Z1 hR1 B1
                · rw [lg_cmp_eq] at h155
                  refine g_iload_n d_Mo_isTerm_158 rfl 2 rfl ?_
                  refine g_iconst (v := 2) d_Mo_isTerm_159 rfl ?_
                  refine g_icmp_ne (tgt := 172) d_Mo_isTerm_160 (by decide) (fun h160 => ?_) (fun h160 => ?_)
                  · rw [if_neg (fun z => h160 z.2)] at hQ
                    refine g_lload_n d_Mo_isTerm_172 rfl 0 rfl ?_
                    refine g_bipush (v := 110) d_Mo_isTerm_173 rfl ?_
                    refine g_bipush (v := 97) d_Mo_isTerm_175 rfl ?_
                    refine g_bipush (v := 109) d_Mo_isTerm_177 rfl ?_
                    refine g_bipush (v := 101) d_Mo_isTerm_179 rfl ?_
                    refine g_iconst (v := 0) d_Mo_isTerm_181 rfl ?_
                    refine g_callS d_Mo_isTerm_182 k_Mo_word l_Mo_157 s_Mo_word (by rfl) (by rfl) (Nat.le_of_ble_eq_true rfl) (by decide) (C_Mo_word ⟨_, rfl, ?_⟩)
                    refine g_lcmp d_Mo_isTerm_185 ?_
                    refine g_if_ne (tgt := 202) d_Mo_isTerm_186 (by decide) (fun h186 => ?_) (fun h186 => ?_)
                    · rw [lg_cmp_eq] at h186
                      rw [if_neg (fun z => h186 z.1)] at hQ
                      refine g_lload_n d_Mo_isTerm_202 rfl 0 rfl ?_
                      refine g_bipush (v := 115) d_Mo_isTerm_203 rfl ?_
                      refine g_bipush (v := 104) d_Mo_isTerm_205 rfl ?_
                      refine g_bipush (v := 101) d_Mo_isTerm_207 rfl ?_
                      refine g_bipush (v := 101) d_Mo_isTerm_209 rfl ?_
                      refine g_bipush (v := 116) d_Mo_isTerm_211 rfl ?_
                      refine g_callS d_Mo_isTerm_213 k_Mo_word l_Mo_157 s_Mo_word (by rfl) (by rfl) (Nat.le_of_ble_eq_true rfl) (by decide) (C_Mo_word ⟨_, rfl, ?_⟩)
                      refine g_lcmp d_Mo_isTerm_216 ?_
                      refine g_if_ne (tgt := 229) d_Mo_isTerm_217 (by decide) (fun h217 => ?_) (fun h217 => ?_)
                      · rw [lg_cmp_eq] at h217
                        rw [if_neg (h217)] at hQ
                        refine g_lload_n d_Mo_isTerm_229 rfl 0 rfl ?_
                        refine g_bipush (v := 97) d_Mo_isTerm_230 rfl ?_
                        refine g_bipush (v := 110) d_Mo_isTerm_232 rfl ?_
                        refine g_bipush (v := 121) d_Mo_isTerm_234 rfl ?_
                        refine g_iconst (v := 0) d_Mo_isTerm_236 rfl ?_
                        refine g_iconst (v := 0) d_Mo_isTerm_237 rfl ?_
                        refine g_callS d_Mo_isTerm_238 k_Mo_word l_Mo_157 s_Mo_word (by rfl) (by rfl) (Nat.le_of_ble_eq_true rfl) (by decide) (C_Mo_word ⟨_, rfl, ?_⟩)
                        refine g_lcmp d_Mo_isTerm_241 ?_
                        refine g_if_ne (tgt := 261) d_Mo_isTerm_242 (by decide) (fun h242 => ?_) (fun h242 => ?_)
                        · rw [lg_cmp_eq] at h242
                          rw [if_neg (fun z => h242 z.1)] at hQ
                          have hF := hQ Z hR rfl
                          refine g_iconst (v := 0) d_Mo_isTerm_261 rfl ?_
                          refine g_zret d_Mo_isTerm_262 ?_ ?_
                          · first | rfl | exact zb_nar _ | exact zb_narc (by assumption)
                          · exact hF
                        · rw [lg_cmp_eq] at h242
                          refine g_iload_n d_Mo_isTerm_245 rfl 2 rfl ?_
                          refine g_iconst (v := 2) d_Mo_isTerm_246 rfl ?_
                          refine g_icmp_eq (tgt := 261) d_Mo_isTerm_247 (by decide) (fun h247 => ?_) (fun h247 => ?_)
                          · rw [if_neg (fun z => z.2 h247)] at hQ
                            have hF := hQ Z hR rfl
                            refine g_iconst (v := 0) d_Mo_isTerm_261 rfl ?_
                            refine g_zret d_Mo_isTerm_262 ?_ ?_
                            · first | rfl | exact zb_nar _ | exact zb_narc (by assumption)
                            · exact hF
                          · rw [if_pos ⟨h242, h247⟩] at hQ
                            refine g_aload_nq d_Mo_isTerm_250 rfl 1 rfl ?_
                            refine g_callV d_Mo_isTerm_251 k_Mo_isDigitNext l_Mo_161 i_Mo_isDigitNext rfl p_Mo_isDigitNext hm (by rfl) (by rfl) (Nat.le_of_ble_eq_true rfl) (by decide) (C_Mo_isDigitNext hR hL hw.1 hw.2.2 hq (fun Z1 hR1 B1 => ⟨_, rfl, ?_⟩))
                            first | refine g_if_eqB (tgt := 261) d_Mo_isTerm_254 (by decide) (fun h254 => ?_) (fun h254 => ?_) | refine g_if_eq (tgt := 261) d_Mo_isTerm_254 (by decide) (fun h254 => ?_) (fun h254 => ?_)
                            · have hF := hQ Z1 hR1 B1
                              rw [zb_f h254] at hF
                              refine g_iconst (v := 0) d_Mo_isTerm_261 rfl ?_
                              refine g_zret d_Mo_isTerm_262 ?_ ?_
                              · first | rfl | exact zb_nar _ | exact zb_narc (by assumption)
                              · exact hF
                            · have hF := hQ Z1 hR1 B1
                              rw [zb_t h254] at hF
                              refine g_iconst (v := 1) d_Mo_isTerm_257 rfl ?_
                              refine g_goto (tgt := 262) d_Mo_isTerm_258 (by decide) ?_
                              refine g_zret d_Mo_isTerm_262 ?_ ?_
                              · first | rfl | exact zb_nar _ | exact zb_narc (by assumption)
                              · exact hF
                      · rw [lg_cmp_eq] at h217
                        rw [if_pos h217] at hQ
                        refine g_aload_nq d_Mo_isTerm_220 rfl 1 rfl ?_
                        refine g_iconst (v := 5) d_Mo_isTerm_221 rfl ?_
                        refine g_iconst (v := 0) d_Mo_isTerm_222 rfl ?_
                        refine g_callV d_Mo_isTerm_223 k_Mo_put l_Mo_141 i_Mo_put rfl p_Mo_put hm (by rfl) (by rfl) (Nat.le_of_ble_eq_true rfl) (by decide) (C_Mo_put hR hq.1 (by have := hq.2.1; omega) hq.2.2 (fun Z1 hR1 B1 => ⟨_, rfl, ?_⟩))
                        refine g_goto (tgt := 263) d_Mo_isTerm_226 (by decide) ?_
                        refine g_iconst (v := 1) d_Mo_isTerm_263 rfl ?_
                        refine g_zret d_Mo_isTerm_264 ?_ ?_
                        · first | rfl | exact zb_nar _ | exact zb_narc (by assumption)
                        · exact hQ Z1 hR1 B1
                    · rw [lg_cmp_eq] at h186
                      refine g_iload_n d_Mo_isTerm_189 rfl 2 rfl ?_
                      first | refine g_if_eqB (tgt := 202) d_Mo_isTerm_190 (by decide) (fun h190 => ?_) (fun h190 => ?_) | refine g_if_eq (tgt := 202) d_Mo_isTerm_190 (by decide) (fun h190 => ?_) (fun h190 => ?_)
                      · rw [if_neg (fun z => z.2 h190)] at hQ
                        refine g_lload_n d_Mo_isTerm_202 rfl 0 rfl ?_
                        refine g_bipush (v := 115) d_Mo_isTerm_203 rfl ?_
                        refine g_bipush (v := 104) d_Mo_isTerm_205 rfl ?_
                        refine g_bipush (v := 101) d_Mo_isTerm_207 rfl ?_
                        refine g_bipush (v := 101) d_Mo_isTerm_209 rfl ?_
                        refine g_bipush (v := 116) d_Mo_isTerm_211 rfl ?_
                        refine g_callS d_Mo_isTerm_213 k_Mo_word l_Mo_157 s_Mo_word (by rfl) (by rfl) (Nat.le_of_ble_eq_true rfl) (by decide) (C_Mo_word ⟨_, rfl, ?_⟩)
                        refine g_lcmp d_Mo_isTerm_216 ?_
                        refine g_if_ne (tgt := 229) d_Mo_isTerm_217 (by decide) (fun h217 => ?_) (fun h217 => ?_)
                        · rw [lg_cmp_eq] at h217
                          rw [if_neg (h217)] at hQ
                          refine g_lload_n d_Mo_isTerm_229 rfl 0 rfl ?_
                          refine g_bipush (v := 97) d_Mo_isTerm_230 rfl ?_
                          refine g_bipush (v := 110) d_Mo_isTerm_232 rfl ?_
                          refine g_bipush (v := 121) d_Mo_isTerm_234 rfl ?_
                          refine g_iconst (v := 0) d_Mo_isTerm_236 rfl ?_
                          refine g_iconst (v := 0) d_Mo_isTerm_237 rfl ?_
                          refine g_callS d_Mo_isTerm_238 k_Mo_word l_Mo_157 s_Mo_word (by rfl) (by rfl) (Nat.le_of_ble_eq_true rfl) (by decide) (C_Mo_word ⟨_, rfl, ?_⟩)
                          refine g_lcmp d_Mo_isTerm_241 ?_
                          refine g_if_ne (tgt := 261) d_Mo_isTerm_242 (by decide) (fun h242 => ?_) (fun h242 => ?_)
                          · rw [lg_cmp_eq] at h242
                            rw [if_neg (fun z => h242 z.1)] at hQ
                            have hF := hQ Z hR rfl
                            refine g_iconst (v := 0) d_Mo_isTerm_261 rfl ?_
                            refine g_zret d_Mo_isTerm_262 ?_ ?_
                            · first | rfl | exact zb_nar _ | exact zb_narc (by assumption)
                            · exact hF
                          · rw [lg_cmp_eq] at h242
                            refine g_iload_n d_Mo_isTerm_245 rfl 2 rfl ?_
                            refine g_iconst (v := 2) d_Mo_isTerm_246 rfl ?_
                            refine g_icmp_eq (tgt := 261) d_Mo_isTerm_247 (by decide) (fun h247 => ?_) (fun h247 => ?_)
                            · rw [if_neg (fun z => z.2 h247)] at hQ
                              have hF := hQ Z hR rfl
                              refine g_iconst (v := 0) d_Mo_isTerm_261 rfl ?_
                              refine g_zret d_Mo_isTerm_262 ?_ ?_
                              · first | rfl | exact zb_nar _ | exact zb_narc (by assumption)
                              · exact hF
                            · rw [if_pos ⟨h242, h247⟩] at hQ
                              refine g_aload_nq d_Mo_isTerm_250 rfl 1 rfl ?_
                              refine g_callV d_Mo_isTerm_251 k_Mo_isDigitNext l_Mo_161 i_Mo_isDigitNext rfl p_Mo_isDigitNext hm (by rfl) (by rfl) (Nat.le_of_ble_eq_true rfl) (by decide) (C_Mo_isDigitNext hR hL hw.1 hw.2.2 hq (fun Z1 hR1 B1 => ⟨_, rfl, ?_⟩))
                              first | refine g_if_eqB (tgt := 261) d_Mo_isTerm_254 (by decide) (fun h254 => ?_) (fun h254 => ?_) | refine g_if_eq (tgt := 261) d_Mo_isTerm_254 (by decide) (fun h254 => ?_) (fun h254 => ?_)
                              · have hF := hQ Z1 hR1 B1
                                rw [zb_f h254] at hF
                                refine g_iconst (v := 0) d_Mo_isTerm_261 rfl ?_
                                refine g_zret d_Mo_isTerm_262 ?_ ?_
                                · first | rfl | exact zb_nar _ | exact zb_narc (by assumption)
                                · exact hF
                              · have hF := hQ Z1 hR1 B1
                                rw [zb_t h254] at hF
                                refine g_iconst (v := 1) d_Mo_isTerm_257 rfl ?_
                                refine g_goto (tgt := 262) d_Mo_isTerm_258 (by decide) ?_
                                refine g_zret d_Mo_isTerm_262 ?_ ?_
                                · first | rfl | exact zb_nar _ | exact zb_narc (by assumption)
                                · exact hF
                        · rw [lg_cmp_eq] at h217
                          rw [if_pos h217] at hQ
                          refine g_aload_nq d_Mo_isTerm_220 rfl 1 rfl ?_
                          refine g_iconst (v := 5) d_Mo_isTerm_221 rfl ?_
                          refine g_iconst (v := 0) d_Mo_isTerm_222 rfl ?_
                          refine g_callV d_Mo_isTerm_223 k_Mo_put l_Mo_141 i_Mo_put rfl p_Mo_put hm (by rfl) (by rfl) (Nat.le_of_ble_eq_true rfl) (by decide) (C_Mo_put hR hq.1 (by have := hq.2.1; omega) hq.2.2 (fun Z1 hR1 B1 => ⟨_, rfl, ?_⟩))
                          refine g_goto (tgt := 263) d_Mo_isTerm_226 (by decide) ?_
                          refine g_iconst (v := 1) d_Mo_isTerm_263 rfl ?_
                          refine g_zret d_Mo_isTerm_264 ?_ ?_
                          · first | rfl | exact zb_nar _ | exact zb_narc (by assumption)
                          · exact hQ Z1 hR1 B1
                      · rw [if_pos ⟨h186, h190⟩] at hQ
                        refine g_aload_nq d_Mo_isTerm_193 rfl 1 rfl ?_
                        refine g_iconst (v := 4) d_Mo_isTerm_194 rfl ?_
                        refine g_iconst (v := 0) d_Mo_isTerm_195 rfl ?_
                        refine g_callV d_Mo_isTerm_196 k_Mo_put l_Mo_141 i_Mo_put rfl p_Mo_put hm (by rfl) (by rfl) (Nat.le_of_ble_eq_true rfl) (by decide) (C_Mo_put hR hq.1 (by have := hq.2.1; omega) hq.2.2 (fun Z1 hR1 B1 => ⟨_, rfl, ?_⟩))
                        refine g_goto (tgt := 263) d_Mo_isTerm_199 (by decide) ?_
                        refine g_iconst (v := 1) d_Mo_isTerm_263 rfl ?_
                        refine g_zret d_Mo_isTerm_264 ?_ ?_
                        · first | rfl | exact zb_nar _ | exact zb_narc (by assumption)
                        · exact hQ Z1 hR1 B1
                  · rw [if_pos ⟨h155, h160⟩] at hQ
                    refine g_aload_nq d_Mo_isTerm_163 rfl 1 rfl ?_
                    refine g_iconst (v := 3) d_Mo_isTerm_164 rfl ?_
                    refine g_iconst (v := 0) d_Mo_isTerm_165 rfl ?_
                    refine g_callV d_Mo_isTerm_166 k_Mo_put l_Mo_141 i_Mo_put rfl p_Mo_put hm (by rfl) (by rfl) (Nat.le_of_ble_eq_true rfl) (by decide) (C_Mo_put hR hq.1 (by have := hq.2.1; omega) hq.2.2 (fun Z1 hR1 B1 => ⟨_, rfl, ?_⟩))
                    refine g_goto (tgt := 263) d_Mo_isTerm_169 (by decide) ?_
                    refine g_iconst (v := 1) d_Mo_isTerm_263 rfl ?_
                    refine g_zret d_Mo_isTerm_264 ?_ ?_
                    · first | rfl | exact zb_nar _ | exact zb_narc (by assumption)
                    · exact hQ Z1 hR1 B1
              · rw [if_pos ⟨h124, h129⟩] at hQ
                refine g_aload_nq d_Mo_isTerm_132 rfl 1 rfl ?_
                refine g_iconst (v := 2) d_Mo_isTerm_133 rfl ?_
                refine g_iconst (v := 0) d_Mo_isTerm_134 rfl ?_
                refine g_callV d_Mo_isTerm_135 k_Mo_put l_Mo_141 i_Mo_put rfl p_Mo_put hm (by rfl) (by rfl) (Nat.le_of_ble_eq_true rfl) (by decide) (C_Mo_put hR hq.1 (by have := hq.2.1; omega) hq.2.2 (fun Z1 hR1 B1 => ⟨_, rfl, ?_⟩))
                refine g_goto (tgt := 263) d_Mo_isTerm_138 (by decide) ?_
                refine g_iconst (v := 1) d_Mo_isTerm_263 rfl ?_
                refine g_zret d_Mo_isTerm_264 ?_ ?_
                · first | rfl | exact zb_nar _ | exact zb_narc (by assumption)
                · exact hQ Z1 hR1 B1
          · refine g_iload_n d_Mo_isTerm_83 rfl 2 rfl ?_
            refine g_iconst (v := 1) d_Mo_isTerm_84 rfl ?_
            refine g_icmp_eq (tgt := 110) d_Mo_isTerm_85 (by decide) (fun h85 => ?_) (fun h85 => ?_)
            · rw [if_neg (fun z => z.2.2.2.2 h85)] at hQ
              refine g_lload_n d_Mo_isTerm_110 rfl 0 rfl ?_
              refine g_bipush (v := 112) d_Mo_isTerm_111 rfl ?_
              refine g_bipush (v := 105) d_Mo_isTerm_113 rfl ?_
              refine g_bipush (v := 110) d_Mo_isTerm_115 rfl ?_
              refine g_bipush (v := 115) d_Mo_isTerm_117 rfl ?_
              refine g_iconst (v := 0) d_Mo_isTerm_119 rfl ?_
              refine g_callS d_Mo_isTerm_120 k_Mo_word l_Mo_157 s_Mo_word (by rfl) (by rfl) (Nat.le_of_ble_eq_true rfl) (by decide) (C_Mo_word ⟨_, rfl, ?_⟩)
              refine g_lcmp d_Mo_isTerm_123 ?_
              refine g_if_ne (tgt := 141) d_Mo_isTerm_124 (by decide) (fun h124 => ?_) (fun h124 => ?_)
              · rw [lg_cmp_eq] at h124
                rw [if_neg (fun z => h124 z.1)] at hQ
                refine g_lload_n d_Mo_isTerm_141 rfl 0 rfl ?_
                refine g_bipush (v := 107) d_Mo_isTerm_142 rfl ?_
                refine g_bipush (v := 105) d_Mo_isTerm_144 rfl ?_
                refine g_bipush (v := 110) d_Mo_isTerm_146 rfl ?_
                refine g_bipush (v := 100) d_Mo_isTerm_148 rfl ?_
                refine g_iconst (v := 0) d_Mo_isTerm_150 rfl ?_
                refine g_callS d_Mo_isTerm_151 k_Mo_word l_Mo_157 s_Mo_word (by rfl) (by rfl) (Nat.le_of_ble_eq_true rfl) (by decide) (C_Mo_word ⟨_, rfl, ?_⟩)
                refine g_lcmp d_Mo_isTerm_154 ?_
                refine g_if_ne (tgt := 172) d_Mo_isTerm_155 (by decide) (fun h155 => ?_) (fun h155 => ?_)
                · rw [lg_cmp_eq] at h155
                  rw [if_neg (fun z => h155 z.1)] at hQ
                  refine g_lload_n d_Mo_isTerm_172 rfl 0 rfl ?_
                  refine g_bipush (v := 110) d_Mo_isTerm_173 rfl ?_
                  refine g_bipush (v := 97) d_Mo_isTerm_175 rfl ?_
                  refine g_bipush (v := 109) d_Mo_isTerm_177 rfl ?_
                  refine g_bipush (v := 101) d_Mo_isTerm_179 rfl ?_
                  refine g_iconst (v := 0) d_Mo_isTerm_181 rfl ?_
                  refine g_callS d_Mo_isTerm_182 k_Mo_word l_Mo_157 s_Mo_word (by rfl) (by rfl) (Nat.le_of_ble_eq_true rfl) (by decide) (C_Mo_word ⟨_, rfl, ?_⟩)
                  refine g_lcmp d_Mo_isTerm_185 ?_
                  refine g_if_ne (tgt := 202) d_Mo_isTerm_186 (by decide) (fun h186 => ?_) (fun h186 => ?_)
                  · rw [lg_cmp_eq] at h186
                    rw [if_neg (fun z => h186 z.1)] at hQ
                    refine g_lload_n d_Mo_isTerm_202 rfl 0 rfl ?_
                    refine g_bipush (v := 115) d_Mo_isTerm_203 rfl ?_
                    refine g_bipush (v := 104) d_Mo_isTerm_205 rfl ?_
                    refine g_bipush (v := 101) d_Mo_isTerm_207 rfl ?_
                    refine g_bipush (v := 101) d_Mo_isTerm_209 rfl ?_
                    refine g_bipush (v := 116) d_Mo_isTerm_211 rfl ?_
                    refine g_callS d_Mo_isTerm_213 k_Mo_word l_Mo_157 s_Mo_word (by rfl) (by rfl) (Nat.le_of_ble_eq_true rfl) (by decide) (C_Mo_word ⟨_, rfl, ?_⟩)
                    refine g_lcmp d_Mo_isTerm_216 ?_
                    refine g_if_ne (tgt := 229) d_Mo_isTerm_217 (by decide) (fun h217 => ?_) (fun h217 => ?_)
                    · rw [lg_cmp_eq] at h217
                      rw [if_neg (h217)] at hQ
                      refine g_lload_n d_Mo_isTerm_229 rfl 0 rfl ?_
                      refine g_bipush (v := 97) d_Mo_isTerm_230 rfl ?_
                      refine g_bipush (v := 110) d_Mo_isTerm_232 rfl ?_
                      refine g_bipush (v := 121) d_Mo_isTerm_234 rfl ?_
                      refine g_iconst (v := 0) d_Mo_isTerm_236 rfl ?_
                      refine g_iconst (v := 0) d_Mo_isTerm_237 rfl ?_
                      refine g_callS d_Mo_isTerm_238 k_Mo_word l_Mo_157 s_Mo_word (by rfl) (by rfl) (Nat.le_of_ble_eq_true rfl) (by decide) (C_Mo_word ⟨_, rfl, ?_⟩)
                      refine g_lcmp d_Mo_isTerm_241 ?_
                      refine g_if_ne (tgt := 261) d_Mo_isTerm_242 (by decide) (fun h242 => ?_) (fun h242 => ?_)
                      · rw [lg_cmp_eq] at h242
                        rw [if_neg (fun z => h242 z.1)] at hQ
                        have hF := hQ Z hR rfl
                        refine g_iconst (v := 0) d_Mo_isTerm_261 rfl ?_
                        refine g_zret d_Mo_isTerm_262 ?_ ?_
                        · first | rfl | exact zb_nar _ | exact zb_narc (by assumption)
                        · exact hF
                      · rw [lg_cmp_eq] at h242
                        refine g_iload_n d_Mo_isTerm_245 rfl 2 rfl ?_
                        refine g_iconst (v := 2) d_Mo_isTerm_246 rfl ?_
                        refine g_icmp_eq (tgt := 261) d_Mo_isTerm_247 (by decide) (fun h247 => ?_) (fun h247 => ?_)
                        · rw [if_neg (fun z => z.2 h247)] at hQ
                          have hF := hQ Z hR rfl
                          refine g_iconst (v := 0) d_Mo_isTerm_261 rfl ?_
                          refine g_zret d_Mo_isTerm_262 ?_ ?_
                          · first | rfl | exact zb_nar _ | exact zb_narc (by assumption)
                          · exact hF
                        · rw [if_pos ⟨h242, h247⟩] at hQ
                          refine g_aload_nq d_Mo_isTerm_250 rfl 1 rfl ?_
                          refine g_callV d_Mo_isTerm_251 k_Mo_isDigitNext l_Mo_161 i_Mo_isDigitNext rfl p_Mo_isDigitNext hm (by rfl) (by rfl) (Nat.le_of_ble_eq_true rfl) (by decide) (C_Mo_isDigitNext hR hL hw.1 hw.2.2 hq (fun Z1 hR1 B1 => ⟨_, rfl, ?_⟩))
                          first | refine g_if_eqB (tgt := 261) d_Mo_isTerm_254 (by decide) (fun h254 => ?_) (fun h254 => ?_) | refine g_if_eq (tgt := 261) d_Mo_isTerm_254 (by decide) (fun h254 => ?_) (fun h254 => ?_)
                          · have hF := hQ Z1 hR1 B1
                            rw [zb_f h254] at hF
                            refine g_iconst (v := 0) d_Mo_isTerm_261 rfl ?_
                            refine g_zret d_Mo_isTerm_262 ?_ ?_
                            · first | rfl | exact zb_nar _ | exact zb_narc (by assumption)
                            · exact hF
                          · have hF := hQ Z1 hR1 B1
                            rw [zb_t h254] at hF
                            refine g_iconst (v := 1) d_Mo_isTerm_257 rfl ?_
                            refine g_goto (tgt := 262) d_Mo_isTerm_258 (by decide) ?_
                            refine g_zret d_Mo_isTerm_262 ?_ ?_
                            · first | rfl | exact zb_nar _ | exact zb_narc (by assumption)
                            · exact hF
                    · rw [lg_cmp_eq] at h217
                      rw [if_pos h217] at hQ
                      refine g_aload_nq d_Mo_isTerm_220 rfl 1 rfl ?_
                      refine g_iconst (v := 5) d_Mo_isTerm_221 rfl ?_
                      refine g_iconst (v := 0) d_Mo_isTerm_222 rfl ?_
                      refine g_callV d_Mo_isTerm_223 k_Mo_put l_Mo_141 i_Mo_put rfl p_Mo_put hm (by rfl) (by rfl) (Nat.le_of_ble_eq_true rfl) (by decide) (C_Mo_put hR hq.1 (by have := hq.2.1; omega) hq.2.2 (fun Z1 hR1 B1 => ⟨_, rfl, ?_⟩))
                      refine g_goto (tgt := 263) d_Mo_isTerm_226 (by decide) ?_
                      refine g_iconst (v := 1) d_Mo_isTerm_263 rfl ?_
                      refine g_zret d_Mo_isTerm_264 ?_ ?_
                      · first | rfl | exact zb_nar _ | exact zb_narc (by assumption)
                      · exact hQ Z1 hR1 B1
                  · rw [lg_cmp_eq] at h186
                    refine g_iload_n d_Mo_isTerm_189 rfl 2 rfl ?_
                    first | refine g_if_eqB (tgt := 202) d_Mo_isTerm_190 (by decide) (fun h190 => ?_) (fun h190 => ?_) | refine g_if_eq (tgt := 202) d_Mo_isTerm_190 (by decide) (fun h190 => ?_) (fun h190 => ?_)
                    · rw [if_neg (fun z => z.2 h190)] at hQ
                      refine g_lload_n d_Mo_isTerm_202 rfl 0 rfl ?_
                      refine g_bipush (v := 115) d_Mo_isTerm_203 rfl ?_
                      refine g_bipush (v := 104) d_Mo_isTerm_205 rfl ?_
                      refine g_bipush (v := 101) d_Mo_isTerm_207 rfl ?_
                      refine g_bipush (v := 101) d_Mo_isTerm_209 rfl ?_
                      refine g_bipush (v := 116) d_Mo_isTerm_211 rfl ?_
                      refine g_callS d_Mo_isTerm_213 k_Mo_word l_Mo_157 s_Mo_word (by rfl) (by rfl) (Nat.le_of_ble_eq_true rfl) (by decide) (C_Mo_word ⟨_, rfl, ?_⟩)
                      refine g_lcmp d_Mo_isTerm_216 ?_
                      refine g_if_ne (tgt := 229) d_Mo_isTerm_217 (by decide) (fun h217 => ?_) (fun h217 => ?_)
                      · rw [lg_cmp_eq] at h217
                        rw [if_neg (h217)] at hQ
                        refine g_lload_n d_Mo_isTerm_229 rfl 0 rfl ?_
                        refine g_bipush (v := 97) d_Mo_isTerm_230 rfl ?_
                        refine g_bipush (v := 110) d_Mo_isTerm_232 rfl ?_
                        refine g_bipush (v := 121) d_Mo_isTerm_234 rfl ?_
                        refine g_iconst (v := 0) d_Mo_isTerm_236 rfl ?_
                        refine g_iconst (v := 0) d_Mo_isTerm_237 rfl ?_
                        refine g_callS d_Mo_isTerm_238 k_Mo_word l_Mo_157 s_Mo_word (by rfl) (by rfl) (Nat.le_of_ble_eq_true rfl) (by decide) (C_Mo_word ⟨_, rfl, ?_⟩)
                        refine g_lcmp d_Mo_isTerm_241 ?_
                        refine g_if_ne (tgt := 261) d_Mo_isTerm_242 (by decide) (fun h242 => ?_) (fun h242 => ?_)
                        · rw [lg_cmp_eq] at h242
                          rw [if_neg (fun z => h242 z.1)] at hQ
                          have hF := hQ Z hR rfl
                          refine g_iconst (v := 0) d_Mo_isTerm_261 rfl ?_
                          refine g_zret d_Mo_isTerm_262 ?_ ?_
                          · first | rfl | exact zb_nar _ | exact zb_narc (by assumption)
                          · exact hF
                        · rw [lg_cmp_eq] at h242
                          refine g_iload_n d_Mo_isTerm_245 rfl 2 rfl ?_
                          refine g_iconst (v := 2) d_Mo_isTerm_246 rfl ?_
                          refine g_icmp_eq (tgt := 261) d_Mo_isTerm_247 (by decide) (fun h247 => ?_) (fun h247 => ?_)
                          · rw [if_neg (fun z => z.2 h247)] at hQ
                            have hF := hQ Z hR rfl
                            refine g_iconst (v := 0) d_Mo_isTerm_261 rfl ?_
                            refine g_zret d_Mo_isTerm_262 ?_ ?_
                            · first | rfl | exact zb_nar _ | exact zb_narc (by assumption)
                            · exact hF
                          · rw [if_pos ⟨h242, h247⟩] at hQ
                            refine g_aload_nq d_Mo_isTerm_250 rfl 1 rfl ?_
                            refine g_callV d_Mo_isTerm_251 k_Mo_isDigitNext l_Mo_161 i_Mo_isDigitNext rfl p_Mo_isDigitNext hm (by rfl) (by rfl) (Nat.le_of_ble_eq_true rfl) (by decide) (C_Mo_isDigitNext hR hL hw.1 hw.2.2 hq (fun Z1 hR1 B1 => ⟨_, rfl, ?_⟩))
                            first | refine g_if_eqB (tgt := 261) d_Mo_isTerm_254 (by decide) (fun h254 => ?_) (fun h254 => ?_) | refine g_if_eq (tgt := 261) d_Mo_isTerm_254 (by decide) (fun h254 => ?_) (fun h254 => ?_)
                            · have hF := hQ Z1 hR1 B1
                              rw [zb_f h254] at hF
                              refine g_iconst (v := 0) d_Mo_isTerm_261 rfl ?_
                              refine g_zret d_Mo_isTerm_262 ?_ ?_
                              · first | rfl | exact zb_nar _ | exact zb_narc (by assumption)
                              · exact hF
                            · have hF := hQ Z1 hR1 B1
                              rw [zb_t h254] at hF
                              refine g_iconst (v := 1) d_Mo_isTerm_257 rfl ?_
                              refine g_goto (tgt := 262) d_Mo_isTerm_258 (by decide) ?_
                              refine g_zret d_Mo_isTerm_262 ?_ ?_
                              · first | rfl | exact zb_nar _ | exact zb_narc (by assumption)
                              · exact hF
                      · rw [lg_cmp_eq] at h217
                        rw [if_pos h217] at hQ
                        refine g_aload_nq d_Mo_isTerm_220 rfl 1 rfl ?_
                        refine g_iconst (v := 5) d_Mo_isTerm_221 rfl ?_
                        refine g_iconst (v := 0) d_Mo_isTerm_222 rfl ?_
                        refine g_callV d_Mo_isTerm_223 k_Mo_put l_Mo_141 i_Mo_put rfl p_Mo_put hm (by rfl) (by rfl) (Nat.le_of_ble_eq_true rfl) (by decide) (C_Mo_put hR hq.1 (by have := hq.2.1; omega) hq.2.2 (fun Z1 hR1 B1 => ⟨_, rfl, ?_⟩))
                        refine g_goto (tgt := 263) d_Mo_isTerm_226 (by decide) ?_
                        refine g_iconst (v := 1) d_Mo_isTerm_263 rfl ?_
                        refine g_zret d_Mo_isTerm_264 ?_ ?_
                        · first | rfl | exact zb_nar _ | exact zb_narc (by assumption)
                        · exact hQ Z1 hR1 B1
                    · rw [if_pos ⟨h186, h190⟩] at hQ
                      refine g_aload_nq d_Mo_isTerm_193 rfl 1 rfl ?_
                      refine g_iconst (v := 4) d_Mo_isTerm_194 rfl ?_
                      refine g_iconst (v := 0) d_Mo_isTerm_195 rfl ?_
                      refine g_callV d_Mo_isTerm_196 k_Mo_put l_Mo_141 i_Mo_put rfl p_Mo_put hm (by rfl) (by rfl) (Nat.le_of_ble_eq_true rfl) (by decide) (C_Mo_put hR hq.1 (by have := hq.2.1; omega) hq.2.2 (fun Z1 hR1 B1 => ⟨_, rfl, ?_⟩))
                      refine g_goto (tgt := 263) d_Mo_isTerm_199 (by decide) ?_
                      refine g_iconst (v := 1) d_Mo_isTerm_263 rfl ?_
                      refine g_zret d_Mo_isTerm_264 ?_ ?_
                      · first | rfl | exact zb_nar _ | exact zb_narc (by assumption)
                      · exact hQ Z1 hR1 B1
                · rw [lg_cmp_eq] at h155
                  refine g_iload_n d_Mo_isTerm_158 rfl 2 rfl ?_
                  refine g_iconst (v := 2) d_Mo_isTerm_159 rfl ?_
                  refine g_icmp_ne (tgt := 172) d_Mo_isTerm_160 (by decide) (fun h160 => ?_) (fun h160 => ?_)
                  · rw [if_neg (fun z => h160 z.2)] at hQ
                    refine g_lload_n d_Mo_isTerm_172 rfl 0 rfl ?_
                    refine g_bipush (v := 110) d_Mo_isTerm_173 rfl ?_
                    refine g_bipush (v := 97) d_Mo_isTerm_175 rfl ?_
                    refine g_bipush (v := 109) d_Mo_isTerm_177 rfl ?_
                    refine g_bipush (v := 101) d_Mo_isTerm_179 rfl ?_
                    refine g_iconst (v := 0) d_Mo_isTerm_181 rfl ?_
                    refine g_callS d_Mo_isTerm_182 k_Mo_word l_Mo_157 s_Mo_word (by rfl) (by rfl) (Nat.le_of_ble_eq_true rfl) (by decide) (C_Mo_word ⟨_, rfl, ?_⟩)
                    refine g_lcmp d_Mo_isTerm_185 ?_
                    refine g_if_ne (tgt := 202) d_Mo_isTerm_186 (by decide) (fun h186 => ?_) (fun h186 => ?_)
                    · rw [lg_cmp_eq] at h186
                      rw [if_neg (fun z => h186 z.1)] at hQ
                      refine g_lload_n d_Mo_isTerm_202 rfl 0 rfl ?_
                      refine g_bipush (v := 115) d_Mo_isTerm_203 rfl ?_
                      refine g_bipush (v := 104) d_Mo_isTerm_205 rfl ?_
                      refine g_bipush (v := 101) d_Mo_isTerm_207 rfl ?_
                      refine g_bipush (v := 101) d_Mo_isTerm_209 rfl ?_
                      refine g_bipush (v := 116) d_Mo_isTerm_211 rfl ?_
                      refine g_callS d_Mo_isTerm_213 k_Mo_word l_Mo_157 s_Mo_word (by rfl) (by rfl) (Nat.le_of_ble_eq_true rfl) (by decide) (C_Mo_word ⟨_, rfl, ?_⟩)
                      refine g_lcmp d_Mo_isTerm_216 ?_
                      refine g_if_ne (tgt := 229) d_Mo_isTerm_217 (by decide) (fun h217 => ?_) (fun h217 => ?_)
                      · rw [lg_cmp_eq] at h217
                        rw [if_neg (h217)] at hQ
                        refine g_lload_n d_Mo_isTerm_229 rfl 0 rfl ?_
                        refine g_bipush (v := 97) d_Mo_isTerm_230 rfl ?_
                        refine g_bipush (v := 110) d_Mo_isTerm_232 rfl ?_
                        refine g_bipush (v := 121) d_Mo_isTerm_234 rfl ?_
                        refine g_iconst (v := 0) d_Mo_isTerm_236 rfl ?_
                        refine g_iconst (v := 0) d_Mo_isTerm_237 rfl ?_
                        refine g_callS d_Mo_isTerm_238 k_Mo_word l_Mo_157 s_Mo_word (by rfl) (by rfl) (Nat.le_of_ble_eq_true rfl) (by decide) (C_Mo_word ⟨_, rfl, ?_⟩)
                        refine g_lcmp d_Mo_isTerm_241 ?_
                        refine g_if_ne (tgt := 261) d_Mo_isTerm_242 (by decide) (fun h242 => ?_) (fun h242 => ?_)
                        · rw [lg_cmp_eq] at h242
                          rw [if_neg (fun z => h242 z.1)] at hQ
                          have hF := hQ Z hR rfl
                          refine g_iconst (v := 0) d_Mo_isTerm_261 rfl ?_
                          refine g_zret d_Mo_isTerm_262 ?_ ?_
                          · first | rfl | exact zb_nar _ | exact zb_narc (by assumption)
                          · exact hF
                        · rw [lg_cmp_eq] at h242
                          refine g_iload_n d_Mo_isTerm_245 rfl 2 rfl ?_
                          refine g_iconst (v := 2) d_Mo_isTerm_246 rfl ?_
                          refine g_icmp_eq (tgt := 261) d_Mo_isTerm_247 (by decide) (fun h247 => ?_) (fun h247 => ?_)
                          · rw [if_neg (fun z => z.2 h247)] at hQ
                            have hF := hQ Z hR rfl
                            refine g_iconst (v := 0) d_Mo_isTerm_261 rfl ?_
                            refine g_zret d_Mo_isTerm_262 ?_ ?_
                            · first | rfl | exact zb_nar _ | exact zb_narc (by assumption)
                            · exact hF
                          · rw [if_pos ⟨h242, h247⟩] at hQ
                            refine g_aload_nq d_Mo_isTerm_250 rfl 1 rfl ?_
                            refine g_callV d_Mo_isTerm_251 k_Mo_isDigitNext l_Mo_161 i_Mo_isDigitNext rfl p_Mo_isDigitNext hm (by rfl) (by rfl) (Nat.le_of_ble_eq_true rfl) (by decide) (C_Mo_isDigitNext hR hL hw.1 hw.2.2 hq (fun Z1 hR1 B1 => ⟨_, rfl, ?_⟩))
                            first | refine g_if_eqB (tgt := 261) d_Mo_isTerm_254 (by decide) (fun h254 => ?_) (fun h254 => ?_) | refine g_if_eq (tgt := 261) d_Mo_isTerm_254 (by decide) (fun h254 => ?_) (fun h254 => ?_)
                            · have hF := hQ Z1 hR1 B1
                              rw [zb_f h254] at hF
                              refine g_iconst (v := 0) d_Mo_isTerm_261 rfl ?_
                              refine g_zret d_Mo_isTerm_262 ?_ ?_
                              · first | rfl | exact zb_nar _ | exact zb_narc (by assumption)
                              · exact hF
                            · have hF := hQ Z1 hR1 B1
                              rw [zb_t h254] at hF
                              refine g_iconst (v := 1) d_Mo_isTerm_257 rfl ?_
                              refine g_goto (tgt := 262) d_Mo_isTerm_258 (by decide) ?_
                              refine g_zret d_Mo_isTerm_262 ?_ ?_
                              · first | rfl | exact zb_nar _ | exact zb_narc (by assumption)
                              · exact hF
                      · rw [lg_cmp_eq] at h217
                        rw [if_pos h217] at hQ
                        refine g_aload_nq d_Mo_isTerm_220 rfl 1 rfl ?_
                        refine g_iconst (v := 5) d_Mo_isTerm_221 rfl ?_
                        refine g_iconst (v := 0) d_Mo_isTerm_222 rfl ?_
                        refine g_callV d_Mo_isTerm_223 k_Mo_put l_Mo_141 i_Mo_put rfl p_Mo_put hm (by rfl) (by rfl) (Nat.le_of_ble_eq_true rfl) (by decide) (C_Mo_put hR hq.1 (by have := hq.2.1; omega) hq.2.2 (fun Z1 hR1 B1 => ⟨_, rfl, ?_⟩))
                        refine g_goto (tgt := 263) d_Mo_isTerm_226 (by decide) ?_
                        refine g_iconst (v := 1) d_Mo_isTerm_263 rfl ?_
                        refine g_zret d_Mo_isTerm_264 ?_ ?_
                        · first | rfl | exact zb_nar _ | exact zb_narc (by assumption)
                        · exact hQ Z1 hR1 B1
                    · rw [lg_cmp_eq] at h186
                      refine g_iload_n d_Mo_isTerm_189 rfl 2 rfl ?_
                      first | refine g_if_eqB (tgt := 202) d_Mo_isTerm_190 (by decide) (fun h190 => ?_) (fun h190 => ?_) | refine g_if_eq (tgt := 202) d_Mo_isTerm_190 (by decide) (fun h190 => ?_) (fun h190 => ?_)
                      · rw [if_neg (fun z => z.2 h190)] at hQ
                        refine g_lload_n d_Mo_isTerm_202 rfl 0 rfl ?_
                        refine g_bipush (v := 115) d_Mo_isTerm_203 rfl ?_
                        refine g_bipush (v := 104) d_Mo_isTerm_205 rfl ?_
                        refine g_bipush (v := 101) d_Mo_isTerm_207 rfl ?_
                        refine g_bipush (v := 101) d_Mo_isTerm_209 rfl ?_
                        refine g_bipush (v := 116) d_Mo_isTerm_211 rfl ?_
                        refine g_callS d_Mo_isTerm_213 k_Mo_word l_Mo_157 s_Mo_word (by rfl) (by rfl) (Nat.le_of_ble_eq_true rfl) (by decide) (C_Mo_word ⟨_, rfl, ?_⟩)
                        refine g_lcmp d_Mo_isTerm_216 ?_
                        refine g_if_ne (tgt := 229) d_Mo_isTerm_217 (by decide) (fun h217 => ?_) (fun h217 => ?_)
                        · rw [lg_cmp_eq] at h217
                          rw [if_neg (h217)] at hQ
                          refine g_lload_n d_Mo_isTerm_229 rfl 0 rfl ?_
                          refine g_bipush (v := 97) d_Mo_isTerm_230 rfl ?_
                          refine g_bipush (v := 110) d_Mo_isTerm_232 rfl ?_
                          refine g_bipush (v := 121) d_Mo_isTerm_234 rfl ?_
                          refine g_iconst (v := 0) d_Mo_isTerm_236 rfl ?_
                          refine g_iconst (v := 0) d_Mo_isTerm_237 rfl ?_
                          refine g_callS d_Mo_isTerm_238 k_Mo_word l_Mo_157 s_Mo_word (by rfl) (by rfl) (Nat.le_of_ble_eq_true rfl) (by decide) (C_Mo_word ⟨_, rfl, ?_⟩)
                          refine g_lcmp d_Mo_isTerm_241 ?_
                          refine g_if_ne (tgt := 261) d_Mo_isTerm_242 (by decide) (fun h242 => ?_) (fun h242 => ?_)
                          · rw [lg_cmp_eq] at h242
                            rw [if_neg (fun z => h242 z.1)] at hQ
                            have hF := hQ Z hR rfl
                            refine g_iconst (v := 0) d_Mo_isTerm_261 rfl ?_
                            refine g_zret d_Mo_isTerm_262 ?_ ?_
                            · first | rfl | exact zb_nar _ | exact zb_narc (by assumption)
                            · exact hF
                          · rw [lg_cmp_eq] at h242
                            refine g_iload_n d_Mo_isTerm_245 rfl 2 rfl ?_
                            refine g_iconst (v := 2) d_Mo_isTerm_246 rfl ?_
                            refine g_icmp_eq (tgt := 261) d_Mo_isTerm_247 (by decide) (fun h247 => ?_) (fun h247 => ?_)
                            · rw [if_neg (fun z => z.2 h247)] at hQ
                              have hF := hQ Z hR rfl
                              refine g_iconst (v := 0) d_Mo_isTerm_261 rfl ?_
                              refine g_zret d_Mo_isTerm_262 ?_ ?_
                              · first | rfl | exact zb_nar _ | exact zb_narc (by assumption)
                              · exact hF
                            · rw [if_pos ⟨h242, h247⟩] at hQ
                              refine g_aload_nq d_Mo_isTerm_250 rfl 1 rfl ?_
                              refine g_callV d_Mo_isTerm_251 k_Mo_isDigitNext l_Mo_161 i_Mo_isDigitNext rfl p_Mo_isDigitNext hm (by rfl) (by rfl) (Nat.le_of_ble_eq_true rfl) (by decide) (C_Mo_isDigitNext hR hL hw.1 hw.2.2 hq (fun Z1 hR1 B1 => ⟨_, rfl, ?_⟩))
                              first | refine g_if_eqB (tgt := 261) d_Mo_isTerm_254 (by decide) (fun h254 => ?_) (fun h254 => ?_) | refine g_if_eq (tgt := 261) d_Mo_isTerm_254 (by decide) (fun h254 => ?_) (fun h254 => ?_)
                              · have hF := hQ Z1 hR1 B1
                                rw [zb_f h254] at hF
                                refine g_iconst (v := 0) d_Mo_isTerm_261 rfl ?_
                                refine g_zret d_Mo_isTerm_262 ?_ ?_
                                · first | rfl | exact zb_nar _ | exact zb_narc (by assumption)
                                · exact hF
                              · have hF := hQ Z1 hR1 B1
                                rw [zb_t h254] at hF
                                refine g_iconst (v := 1) d_Mo_isTerm_257 rfl ?_
                                refine g_goto (tgt := 262) d_Mo_isTerm_258 (by decide) ?_
                                refine g_zret d_Mo_isTerm_262 ?_ ?_
                                · first | rfl | exact zb_nar _ | exact zb_narc (by assumption)
                                · exact hF
                        · rw [lg_cmp_eq] at h217
                          rw [if_pos h217] at hQ
                          refine g_aload_nq d_Mo_isTerm_220 rfl 1 rfl ?_
                          refine g_iconst (v := 5) d_Mo_isTerm_221 rfl ?_
                          refine g_iconst (v := 0) d_Mo_isTerm_222 rfl ?_
                          refine g_callV d_Mo_isTerm_223 k_Mo_put l_Mo_141 i_Mo_put rfl p_Mo_put hm (by rfl) (by rfl) (Nat.le_of_ble_eq_true rfl) (by decide) (C_Mo_put hR hq.1 (by have := hq.2.1; omega) hq.2.2 (fun Z1 hR1 B1 => ⟨_, rfl, ?_⟩))
                          refine g_goto (tgt := 263) d_Mo_isTerm_226 (by decide) ?_
                          refine g_iconst (v := 1) d_Mo_isTerm_263 rfl ?_
                          refine g_zret d_Mo_isTerm_264 ?_ ?_
                          · first | rfl | exact zb_nar _ | exact zb_narc (by assumption)
                          · exact hQ Z1 hR1 B1
                      · rw [if_pos ⟨h186, h190⟩] at hQ
                        refine g_aload_nq d_Mo_isTerm_193 rfl 1 rfl ?_
                        refine g_iconst (v := 4) d_Mo_isTerm_194 rfl ?_
                        refine g_iconst (v := 0) d_Mo_isTerm_195 rfl ?_
                        refine g_callV d_Mo_isTerm_196 k_Mo_put l_Mo_141 i_Mo_put rfl p_Mo_put hm (by rfl) (by rfl) (Nat.le_of_ble_eq_true rfl) (by decide) (C_Mo_put hR hq.1 (by have := hq.2.1; omega) hq.2.2 (fun Z1 hR1 B1 => ⟨_, rfl, ?_⟩))
                        refine g_goto (tgt := 263) d_Mo_isTerm_199 (by decide) ?_
                        refine g_iconst (v := 1) d_Mo_isTerm_263 rfl ?_
                        refine g_zret d_Mo_isTerm_264 ?_ ?_
                        · first | rfl | exact zb_nar _ | exact zb_narc (by assumption)
                        · exact hQ Z1 hR1 B1
                  · rw [if_pos ⟨h155, h160⟩] at hQ
                    refine g_aload_nq d_Mo_isTerm_163 rfl 1 rfl ?_
                    refine g_iconst (v := 3) d_Mo_isTerm_164 rfl ?_
                    refine g_iconst (v := 0) d_Mo_isTerm_165 rfl ?_
                    refine g_callV d_Mo_isTerm_166 k_Mo_put l_Mo_141 i_Mo_put rfl p_Mo_put hm (by rfl) (by rfl) (Nat.le_of_ble_eq_true rfl) (by decide) (C_Mo_put hR hq.1 (by have := hq.2.1; omega) hq.2.2 (fun Z1 hR1 B1 => ⟨_, rfl, ?_⟩))
                    refine g_goto (tgt := 263) d_Mo_isTerm_169 (by decide) ?_
                    refine g_iconst (v := 1) d_Mo_isTerm_263 rfl ?_
                    refine g_zret d_Mo_isTerm_264 ?_ ?_
                    · first | rfl | exact zb_nar _ | exact zb_narc (by assumption)
                    · exact hQ Z1 hR1 B1
              · rw [lg_cmp_eq] at h124
                refine g_iload_n d_Mo_isTerm_127 rfl 2 rfl ?_
                refine g_iconst (v := 2) d_Mo_isTerm_128 rfl ?_
                refine g_icmp_eq (tgt := 141) d_Mo_isTerm_129 (by decide) (fun h129 => ?_) (fun h129 => ?_)
                · rw [if_neg (fun z => z.2 h129)] at hQ
                  refine g_lload_n d_Mo_isTerm_141 rfl 0 rfl ?_
                  refine g_bipush (v := 107) d_Mo_isTerm_142 rfl ?_
                  refine g_bipush (v := 105) d_Mo_isTerm_144 rfl ?_
                  refine g_bipush (v := 110) d_Mo_isTerm_146 rfl ?_
                  refine g_bipush (v := 100) d_Mo_isTerm_148 rfl ?_
                  refine g_iconst (v := 0) d_Mo_isTerm_150 rfl ?_
                  refine g_callS d_Mo_isTerm_151 k_Mo_word l_Mo_157 s_Mo_word (by rfl) (by rfl) (Nat.le_of_ble_eq_true rfl) (by decide) (C_Mo_word ⟨_, rfl, ?_⟩)
                  refine g_lcmp d_Mo_isTerm_154 ?_
                  refine g_if_ne (tgt := 172) d_Mo_isTerm_155 (by decide) (fun h155 => ?_) (fun h155 => ?_)
                  · rw [lg_cmp_eq] at h155
                    rw [if_neg (fun z => h155 z.1)] at hQ
                    refine g_lload_n d_Mo_isTerm_172 rfl 0 rfl ?_
                    refine g_bipush (v := 110) d_Mo_isTerm_173 rfl ?_
                    refine g_bipush (v := 97) d_Mo_isTerm_175 rfl ?_
                    refine g_bipush (v := 109) d_Mo_isTerm_177 rfl ?_
                    refine g_bipush (v := 101) d_Mo_isTerm_179 rfl ?_
                    refine g_iconst (v := 0) d_Mo_isTerm_181 rfl ?_
                    refine g_callS d_Mo_isTerm_182 k_Mo_word l_Mo_157 s_Mo_word (by rfl) (by rfl) (Nat.le_of_ble_eq_true rfl) (by decide) (C_Mo_word ⟨_, rfl, ?_⟩)
                    refine g_lcmp d_Mo_isTerm_185 ?_
                    refine g_if_ne (tgt := 202) d_Mo_isTerm_186 (by decide) (fun h186 => ?_) (fun h186 => ?_)
                    · rw [lg_cmp_eq] at h186
                      rw [if_neg (fun z => h186 z.1)] at hQ
                      refine g_lload_n d_Mo_isTerm_202 rfl 0 rfl ?_
                      refine g_bipush (v := 115) d_Mo_isTerm_203 rfl ?_
                      refine g_bipush (v := 104) d_Mo_isTerm_205 rfl ?_
                      refine g_bipush (v := 101) d_Mo_isTerm_207 rfl ?_
                      refine g_bipush (v := 101) d_Mo_isTerm_209 rfl ?_
                      refine g_bipush (v := 116) d_Mo_isTerm_211 rfl ?_
                      refine g_callS d_Mo_isTerm_213 k_Mo_word l_Mo_157 s_Mo_word (by rfl) (by rfl) (Nat.le_of_ble_eq_true rfl) (by decide) (C_Mo_word ⟨_, rfl, ?_⟩)
                      refine g_lcmp d_Mo_isTerm_216 ?_
                      refine g_if_ne (tgt := 229) d_Mo_isTerm_217 (by decide) (fun h217 => ?_) (fun h217 => ?_)
                      · rw [lg_cmp_eq] at h217
                        rw [if_neg (h217)] at hQ
                        refine g_lload_n d_Mo_isTerm_229 rfl 0 rfl ?_
                        refine g_bipush (v := 97) d_Mo_isTerm_230 rfl ?_
                        refine g_bipush (v := 110) d_Mo_isTerm_232 rfl ?_
                        refine g_bipush (v := 121) d_Mo_isTerm_234 rfl ?_
                        refine g_iconst (v := 0) d_Mo_isTerm_236 rfl ?_
                        refine g_iconst (v := 0) d_Mo_isTerm_237 rfl ?_
                        refine g_callS d_Mo_isTerm_238 k_Mo_word l_Mo_157 s_Mo_word (by rfl) (by rfl) (Nat.le_of_ble_eq_true rfl) (by decide) (C_Mo_word ⟨_, rfl, ?_⟩)
                        refine g_lcmp d_Mo_isTerm_241 ?_
                        refine g_if_ne (tgt := 261) d_Mo_isTerm_242 (by decide) (fun h242 => ?_) (fun h242 => ?_)
                        · rw [lg_cmp_eq] at h242
                          rw [if_neg (fun z => h242 z.1)] at hQ
                          have hF := hQ Z hR rfl
                          refine g_iconst (v := 0) d_Mo_isTerm_261 rfl ?_
                          refine g_zret d_Mo_isTerm_262 ?_ ?_
                          · first | rfl | exact zb_nar _ | exact zb_narc (by assumption)
                          · exact hF
                        · rw [lg_cmp_eq] at h242
                          refine g_iload_n d_Mo_isTerm_245 rfl 2 rfl ?_
                          refine g_iconst (v := 2) d_Mo_isTerm_246 rfl ?_
                          refine g_icmp_eq (tgt := 261) d_Mo_isTerm_247 (by decide) (fun h247 => ?_) (fun h247 => ?_)
                          · rw [if_neg (fun z => z.2 h247)] at hQ
                            have hF := hQ Z hR rfl
                            refine g_iconst (v := 0) d_Mo_isTerm_261 rfl ?_
                            refine g_zret d_Mo_isTerm_262 ?_ ?_
                            · first | rfl | exact zb_nar _ | exact zb_narc (by assumption)
                            · exact hF
                          · rw [if_pos ⟨h242, h247⟩] at hQ
                            refine g_aload_nq d_Mo_isTerm_250 rfl 1 rfl ?_
                            refine g_callV d_Mo_isTerm_251 k_Mo_isDigitNext l_Mo_161 i_Mo_isDigitNext rfl p_Mo_isDigitNext hm (by rfl) (by rfl) (Nat.le_of_ble_eq_true rfl) (by decide) (C_Mo_isDigitNext hR hL hw.1 hw.2.2 hq (fun Z1 hR1 B1 => ⟨_, rfl, ?_⟩))
                            first | refine g_if_eqB (tgt := 261) d_Mo_isTerm_254 (by decide) (fun h254 => ?_) (fun h254 => ?_) | refine g_if_eq (tgt := 261) d_Mo_isTerm_254 (by decide) (fun h254 => ?_) (fun h254 => ?_)
                            · have hF := hQ Z1 hR1 B1
                              rw [zb_f h254] at hF
                              refine g_iconst (v := 0) d_Mo_isTerm_261 rfl ?_
                              refine g_zret d_Mo_isTerm_262 ?_ ?_
                              · first | rfl | exact zb_nar _ | exact zb_narc (by assumption)
                              · exact hF
                            · have hF := hQ Z1 hR1 B1
                              rw [zb_t h254] at hF
                              refine g_iconst (v := 1) d_Mo_isTerm_257 rfl ?_
                              refine g_goto (tgt := 262) d_Mo_isTerm_258 (by decide) ?_
                              refine g_zret d_Mo_isTerm_262 ?_ ?_
                              · first | rfl | exact zb_nar _ | exact zb_narc (by assumption)
                              · exact hF
                      · rw [lg_cmp_eq] at h217
                        rw [if_pos h217] at hQ
                        refine g_aload_nq d_Mo_isTerm_220 rfl 1 rfl ?_
                        refine g_iconst (v := 5) d_Mo_isTerm_221 rfl ?_
                        refine g_iconst (v := 0) d_Mo_isTerm_222 rfl ?_
                        refine g_callV d_Mo_isTerm_223 k_Mo_put l_Mo_141 i_Mo_put rfl p_Mo_put hm (by rfl) (by rfl) (Nat.le_of_ble_eq_true rfl) (by decide) (C_Mo_put hR hq.1 (by have := hq.2.1; omega) hq.2.2 (fun Z1 hR1 B1 => ⟨_, rfl, ?_⟩))
                        refine g_goto (tgt := 263) d_Mo_isTerm_226 (by decide) ?_
                        refine g_iconst (v := 1) d_Mo_isTerm_263 rfl ?_
                        refine g_zret d_Mo_isTerm_264 ?_ ?_
                        · first | rfl | exact zb_nar _ | exact zb_narc (by assumption)
                        · exact hQ Z1 hR1 B1
                    · rw [lg_cmp_eq] at h186
                      refine g_iload_n d_Mo_isTerm_189 rfl 2 rfl ?_
                      first | refine g_if_eqB (tgt := 202) d_Mo_isTerm_190 (by decide) (fun h190 => ?_) (fun h190 => ?_) | refine g_if_eq (tgt := 202) d_Mo_isTerm_190 (by decide) (fun h190 => ?_) (fun h190 => ?_)
                      · rw [if_neg (fun z => z.2 h190)] at hQ
                        refine g_lload_n d_Mo_isTerm_202 rfl 0 rfl ?_
                        refine g_bipush (v := 115) d_Mo_isTerm_203 rfl ?_
                        refine g_bipush (v := 104) d_Mo_isTerm_205 rfl ?_
                        refine g_bipush (v := 101) d_Mo_isTerm_207 rfl ?_
                        refine g_bipush (v := 101) d_Mo_isTerm_209 rfl ?_
                        refine g_bipush (v := 116) d_Mo_isTerm_211 rfl ?_
                        refine g_callS d_Mo_isTerm_213 k_Mo_word l_Mo_157 s_Mo_word (by rfl) (by rfl) (Nat.le_of_ble_eq_true rfl) (by decide) (C_Mo_word ⟨_, rfl, ?_⟩)
                        refine g_lcmp d_Mo_isTerm_216 ?_
                        refine g_if_ne (tgt := 229) d_Mo_isTerm_217 (by decide) (fun h217 => ?_) (fun h217 => ?_)
                        · rw [lg_cmp_eq] at h217
                          rw [if_neg (h217)] at hQ
                          refine g_lload_n d_Mo_isTerm_229 rfl 0 rfl ?_
                          refine g_bipush (v := 97) d_Mo_isTerm_230 rfl ?_
                          refine g_bipush (v := 110) d_Mo_isTerm_232 rfl ?_
                          refine g_bipush (v := 121) d_Mo_isTerm_234 rfl ?_
                          refine g_iconst (v := 0) d_Mo_isTerm_236 rfl ?_
                          refine g_iconst (v := 0) d_Mo_isTerm_237 rfl ?_
                          refine g_callS d_Mo_isTerm_238 k_Mo_word l_Mo_157 s_Mo_word (by rfl) (by rfl) (Nat.le_of_ble_eq_true rfl) (by decide) (C_Mo_word ⟨_, rfl, ?_⟩)
                          refine g_lcmp d_Mo_isTerm_241 ?_
                          refine g_if_ne (tgt := 261) d_Mo_isTerm_242 (by decide) (fun h242 => ?_) (fun h242 => ?_)
                          · rw [lg_cmp_eq] at h242
                            rw [if_neg (fun z => h242 z.1)] at hQ
                            have hF := hQ Z hR rfl
                            refine g_iconst (v := 0) d_Mo_isTerm_261 rfl ?_
                            refine g_zret d_Mo_isTerm_262 ?_ ?_
                            · first | rfl | exact zb_nar _ | exact zb_narc (by assumption)
                            · exact hF
                          · rw [lg_cmp_eq] at h242
                            refine g_iload_n d_Mo_isTerm_245 rfl 2 rfl ?_
                            refine g_iconst (v := 2) d_Mo_isTerm_246 rfl ?_
                            refine g_icmp_eq (tgt := 261) d_Mo_isTerm_247 (by decide) (fun h247 => ?_) (fun h247 => ?_)
                            · rw [if_neg (fun z => z.2 h247)] at hQ
                              have hF := hQ Z hR rfl
                              refine g_iconst (v := 0) d_Mo_isTerm_261 rfl ?_
                              refine g_zret d_Mo_isTerm_262 ?_ ?_
                              · first | rfl | exact zb_nar _ | exact zb_narc (by assumption)
                              · exact hF
                            · rw [if_pos ⟨h242, h247⟩] at hQ
                              refine g_aload_nq d_Mo_isTerm_250 rfl 1 rfl ?_
                              refine g_callV d_Mo_isTerm_251 k_Mo_isDigitNext l_Mo_161 i_Mo_isDigitNext rfl p_Mo_isDigitNext hm (by rfl) (by rfl) (Nat.le_of_ble_eq_true rfl) (by decide) (C_Mo_isDigitNext hR hL hw.1 hw.2.2 hq (fun Z1 hR1 B1 => ⟨_, rfl, ?_⟩))
                              first | refine g_if_eqB (tgt := 261) d_Mo_isTerm_254 (by decide) (fun h254 => ?_) (fun h254 => ?_) | refine g_if_eq (tgt := 261) d_Mo_isTerm_254 (by decide) (fun h254 => ?_) (fun h254 => ?_)
                              · have hF := hQ Z1 hR1 B1
                                rw [zb_f h254] at hF
                                refine g_iconst (v := 0) d_Mo_isTerm_261 rfl ?_
                                refine g_zret d_Mo_isTerm_262 ?_ ?_
                                · first | rfl | exact zb_nar _ | exact zb_narc (by assumption)
                                · exact hF
                              · have hF := hQ Z1 hR1 B1
                                rw [zb_t h254] at hF
                                refine g_iconst (v := 1) d_Mo_isTerm_257 rfl ?_
                                refine g_goto (tgt := 262) d_Mo_isTerm_258 (by decide) ?_
                                refine g_zret d_Mo_isTerm_262 ?_ ?_
                                · first | rfl | exact zb_nar _ | exact zb_narc (by assumption)
                                · exact hF
                        · rw [lg_cmp_eq] at h217
                          rw [if_pos h217] at hQ
                          refine g_aload_nq d_Mo_isTerm_220 rfl 1 rfl ?_
                          refine g_iconst (v := 5) d_Mo_isTerm_221 rfl ?_
                          refine g_iconst (v := 0) d_Mo_isTerm_222 rfl ?_
                          refine g_callV d_Mo_isTerm_223 k_Mo_put l_Mo_141 i_Mo_put rfl p_Mo_put hm (by rfl) (by rfl) (Nat.le_of_ble_eq_true rfl) (by decide) (C_Mo_put hR hq.1 (by have := hq.2.1; omega) hq.2.2 (fun Z1 hR1 B1 => ⟨_, rfl, ?_⟩))
                          refine g_goto (tgt := 263) d_Mo_isTerm_226 (by decide) ?_
                          refine g_iconst (v := 1) d_Mo_isTerm_263 rfl ?_
                          refine g_zret d_Mo_isTerm_264 ?_ ?_
                          · first | rfl | exact zb_nar _ | exact zb_narc (by assumption)
                          · exact hQ Z1 hR1 B1
                      · rw [if_pos ⟨h186, h190⟩] at hQ
                        refine g_aload_nq d_Mo_isTerm_193 rfl 1 rfl ?_
                        refine g_iconst (v := 4) d_Mo_isTerm_194 rfl ?_
                        refine g_iconst (v := 0) d_Mo_isTerm_195 rfl ?_
                        refine g_callV d_Mo_isTerm_196 k_Mo_put l_Mo_141 i_Mo_put rfl p_Mo_put hm (by rfl) (by rfl) (Nat.le_of_ble_eq_true rfl) (by decide) (C_Mo_put hR hq.1 (by have := hq.2.1; omega) hq.2.2 (fun Z1 hR1 B1 => ⟨_, rfl, ?_⟩))
                        refine g_goto (tgt := 263) d_Mo_isTerm_199 (by decide) ?_
                        refine g_iconst (v := 1) d_Mo_isTerm_263 rfl ?_
                        refine g_zret d_Mo_isTerm_264 ?_ ?_
                        · first | rfl | exact zb_nar _ | exact zb_narc (by assumption)
                        · exact hQ Z1 hR1 B1
                  · rw [lg_cmp_eq] at h155
                    refine g_iload_n d_Mo_isTerm_158 rfl 2 rfl ?_
                    refine g_iconst (v := 2) d_Mo_isTerm_159 rfl ?_
                    refine g_icmp_ne (tgt := 172) d_Mo_isTerm_160 (by decide) (fun h160 => ?_) (fun h160 => ?_)
                    · rw [if_neg (fun z => h160 z.2)] at hQ
                      refine g_lload_n d_Mo_isTerm_172 rfl 0 rfl ?_
                      refine g_bipush (v := 110) d_Mo_isTerm_173 rfl ?_
                      refine g_bipush (v := 97) d_Mo_isTerm_175 rfl ?_
                      refine g_bipush (v := 109) d_Mo_isTerm_177 rfl ?_
                      refine g_bipush (v := 101) d_Mo_isTerm_179 rfl ?_
                      refine g_iconst (v := 0) d_Mo_isTerm_181 rfl ?_
                      refine g_callS d_Mo_isTerm_182 k_Mo_word l_Mo_157 s_Mo_word (by rfl) (by rfl) (Nat.le_of_ble_eq_true rfl) (by decide) (C_Mo_word ⟨_, rfl, ?_⟩)
                      refine g_lcmp d_Mo_isTerm_185 ?_
                      refine g_if_ne (tgt := 202) d_Mo_isTerm_186 (by decide) (fun h186 => ?_) (fun h186 => ?_)
                      · rw [lg_cmp_eq] at h186
                        rw [if_neg (fun z => h186 z.1)] at hQ
                        refine g_lload_n d_Mo_isTerm_202 rfl 0 rfl ?_
                        refine g_bipush (v := 115) d_Mo_isTerm_203 rfl ?_
                        refine g_bipush (v := 104) d_Mo_isTerm_205 rfl ?_
                        refine g_bipush (v := 101) d_Mo_isTerm_207 rfl ?_
                        refine g_bipush (v := 101) d_Mo_isTerm_209 rfl ?_
                        refine g_bipush (v := 116) d_Mo_isTerm_211 rfl ?_
                        refine g_callS d_Mo_isTerm_213 k_Mo_word l_Mo_157 s_Mo_word (by rfl) (by rfl) (Nat.le_of_ble_eq_true rfl) (by decide) (C_Mo_word ⟨_, rfl, ?_⟩)
                        refine g_lcmp d_Mo_isTerm_216 ?_
                        refine g_if_ne (tgt := 229) d_Mo_isTerm_217 (by decide) (fun h217 => ?_) (fun h217 => ?_)
                        · rw [lg_cmp_eq] at h217
                          rw [if_neg (h217)] at hQ
                          refine g_lload_n d_Mo_isTerm_229 rfl 0 rfl ?_
                          refine g_bipush (v := 97) d_Mo_isTerm_230 rfl ?_
                          refine g_bipush (v := 110) d_Mo_isTerm_232 rfl ?_
                          refine g_bipush (v := 121) d_Mo_isTerm_234 rfl ?_
                          refine g_iconst (v := 0) d_Mo_isTerm_236 rfl ?_
                          refine g_iconst (v := 0) d_Mo_isTerm_237 rfl ?_
                          refine g_callS d_Mo_isTerm_238 k_Mo_word l_Mo_157 s_Mo_word (by rfl) (by rfl) (Nat.le_of_ble_eq_true rfl) (by decide) (C_Mo_word ⟨_, rfl, ?_⟩)
                          refine g_lcmp d_Mo_isTerm_241 ?_
                          refine g_if_ne (tgt := 261) d_Mo_isTerm_242 (by decide) (fun h242 => ?_) (fun h242 => ?_)
                          · rw [lg_cmp_eq] at h242
                            rw [if_neg (fun z => h242 z.1)] at hQ
                            have hF := hQ Z hR rfl
                            refine g_iconst (v := 0) d_Mo_isTerm_261 rfl ?_
                            refine g_zret d_Mo_isTerm_262 ?_ ?_
                            · first | rfl | exact zb_nar _ | exact zb_narc (by assumption)
                            · exact hF
                          · rw [lg_cmp_eq] at h242
                            refine g_iload_n d_Mo_isTerm_245 rfl 2 rfl ?_
                            refine g_iconst (v := 2) d_Mo_isTerm_246 rfl ?_
                            refine g_icmp_eq (tgt := 261) d_Mo_isTerm_247 (by decide) (fun h247 => ?_) (fun h247 => ?_)
                            · rw [if_neg (fun z => z.2 h247)] at hQ
                              have hF := hQ Z hR rfl
                              refine g_iconst (v := 0) d_Mo_isTerm_261 rfl ?_
                              refine g_zret d_Mo_isTerm_262 ?_ ?_
                              · first | rfl | exact zb_nar _ | exact zb_narc (by assumption)
                              · exact hF
                            · rw [if_pos ⟨h242, h247⟩] at hQ
                              refine g_aload_nq d_Mo_isTerm_250 rfl 1 rfl ?_
                              refine g_callV d_Mo_isTerm_251 k_Mo_isDigitNext l_Mo_161 i_Mo_isDigitNext rfl p_Mo_isDigitNext hm (by rfl) (by rfl) (Nat.le_of_ble_eq_true rfl) (by decide) (C_Mo_isDigitNext hR hL hw.1 hw.2.2 hq (fun Z1 hR1 B1 => ⟨_, rfl, ?_⟩))
                              first | refine g_if_eqB (tgt := 261) d_Mo_isTerm_254 (by decide) (fun h254 => ?_) (fun h254 => ?_) | refine g_if_eq (tgt := 261) d_Mo_isTerm_254 (by decide) (fun h254 => ?_) (fun h254 => ?_)
                              · have hF := hQ Z1 hR1 B1
                                rw [zb_f h254] at hF
                                refine g_iconst (v := 0) d_Mo_isTerm_261 rfl ?_
                                refine g_zret d_Mo_isTerm_262 ?_ ?_
                                · first | rfl | exact zb_nar _ | exact zb_narc (by assumption)
                                · exact hF
                              · have hF := hQ Z1 hR1 B1
                                rw [zb_t h254] at hF
                                refine g_iconst (v := 1) d_Mo_isTerm_257 rfl ?_
                                refine g_goto (tgt := 262) d_Mo_isTerm_258 (by decide) ?_
                                refine g_zret d_Mo_isTerm_262 ?_ ?_
                                · first | rfl | exact zb_nar _ | exact zb_narc (by assumption)
                                · exact hF
                        · rw [lg_cmp_eq] at h217
                          rw [if_pos h217] at hQ
                          refine g_aload_nq d_Mo_isTerm_220 rfl 1 rfl ?_
                          refine g_iconst (v := 5) d_Mo_isTerm_221 rfl ?_
                          refine g_iconst (v := 0) d_Mo_isTerm_222 rfl ?_
                          refine g_callV d_Mo_isTerm_223 k_Mo_put l_Mo_141 i_Mo_put rfl p_Mo_put hm (by rfl) (by rfl) (Nat.le_of_ble_eq_true rfl) (by decide) (C_Mo_put hR hq.1 (by have := hq.2.1; omega) hq.2.2 (fun Z1 hR1 B1 => ⟨_, rfl, ?_⟩))
                          refine g_goto (tgt := 263) d_Mo_isTerm_226 (by decide) ?_
                          refine g_iconst (v := 1) d_Mo_isTerm_263 rfl ?_
                          refine g_zret d_Mo_isTerm_264 ?_ ?_
                          · first | rfl | exact zb_nar _ | exact zb_narc (by assumption)
                          · exact hQ Z1 hR1 B1
                      · rw [lg_cmp_eq] at h186
                        refine g_iload_n d_Mo_isTerm_189 rfl 2 rfl ?_
                        first | refine g_if_eqB (tgt := 202) d_Mo_isTerm_190 (by decide) (fun h190 => ?_) (fun h190 => ?_) | refine g_if_eq (tgt := 202) d_Mo_isTerm_190 (by decide) (fun h190 => ?_) (fun h190 => ?_)
                        · rw [if_neg (fun z => z.2 h190)] at hQ
                          refine g_lload_n d_Mo_isTerm_202 rfl 0 rfl ?_
                          refine g_bipush (v := 115) d_Mo_isTerm_203 rfl ?_
                          refine g_bipush (v := 104) d_Mo_isTerm_205 rfl ?_
                          refine g_bipush (v := 101) d_Mo_isTerm_207 rfl ?_
                          refine g_bipush (v := 101) d_Mo_isTerm_209 rfl ?_
                          refine g_bipush (v := 116) d_Mo_isTerm_211 rfl ?_
                          refine g_callS d_Mo_isTerm_213 k_Mo_word l_Mo_157 s_Mo_word (by rfl) (by rfl) (Nat.le_of_ble_eq_true rfl) (by decide) (C_Mo_word ⟨_, rfl, ?_⟩)
                          refine g_lcmp d_Mo_isTerm_216 ?_
                          refine g_if_ne (tgt := 229) d_Mo_isTerm_217 (by decide) (fun h217 => ?_) (fun h217 => ?_)
                          · rw [lg_cmp_eq] at h217
                            rw [if_neg (h217)] at hQ
                            refine g_lload_n d_Mo_isTerm_229 rfl 0 rfl ?_
                            refine g_bipush (v := 97) d_Mo_isTerm_230 rfl ?_
                            refine g_bipush (v := 110) d_Mo_isTerm_232 rfl ?_
                            refine g_bipush (v := 121) d_Mo_isTerm_234 rfl ?_
                            refine g_iconst (v := 0) d_Mo_isTerm_236 rfl ?_
                            refine g_iconst (v := 0) d_Mo_isTerm_237 rfl ?_
                            refine g_callS d_Mo_isTerm_238 k_Mo_word l_Mo_157 s_Mo_word (by rfl) (by rfl) (Nat.le_of_ble_eq_true rfl) (by decide) (C_Mo_word ⟨_, rfl, ?_⟩)
                            refine g_lcmp d_Mo_isTerm_241 ?_
                            refine g_if_ne (tgt := 261) d_Mo_isTerm_242 (by decide) (fun h242 => ?_) (fun h242 => ?_)
                            · rw [lg_cmp_eq] at h242
                              rw [if_neg (fun z => h242 z.1)] at hQ
                              have hF := hQ Z hR rfl
                              refine g_iconst (v := 0) d_Mo_isTerm_261 rfl ?_
                              refine g_zret d_Mo_isTerm_262 ?_ ?_
                              · first | rfl | exact zb_nar _ | exact zb_narc (by assumption)
                              · exact hF
                            · rw [lg_cmp_eq] at h242
                              refine g_iload_n d_Mo_isTerm_245 rfl 2 rfl ?_
                              refine g_iconst (v := 2) d_Mo_isTerm_246 rfl ?_
                              refine g_icmp_eq (tgt := 261) d_Mo_isTerm_247 (by decide) (fun h247 => ?_) (fun h247 => ?_)
                              · rw [if_neg (fun z => z.2 h247)] at hQ
                                have hF := hQ Z hR rfl
                                refine g_iconst (v := 0) d_Mo_isTerm_261 rfl ?_
                                refine g_zret d_Mo_isTerm_262 ?_ ?_
                                · first | rfl | exact zb_nar _ | exact zb_narc (by assumption)
                                · exact hF
                              · rw [if_pos ⟨h242, h247⟩] at hQ
                                refine g_aload_nq d_Mo_isTerm_250 rfl 1 rfl ?_
                                refine g_callV d_Mo_isTerm_251 k_Mo_isDigitNext l_Mo_161 i_Mo_isDigitNext rfl p_Mo_isDigitNext hm (by rfl) (by rfl) (Nat.le_of_ble_eq_true rfl) (by decide) (C_Mo_isDigitNext hR hL hw.1 hw.2.2 hq (fun Z1 hR1 B1 => ⟨_, rfl, ?_⟩))
                                first | refine g_if_eqB (tgt := 261) d_Mo_isTerm_254 (by decide) (fun h254 => ?_) (fun h254 => ?_) | refine g_if_eq (tgt := 261) d_Mo_isTerm_254 (by decide) (fun h254 => ?_) (fun h254 => ?_)
                                · have hF := hQ Z1 hR1 B1
                                  rw [zb_f h254] at hF
                                  refine g_iconst (v := 0) d_Mo_isTerm_261 rfl ?_
                                  refine g_zret d_Mo_isTerm_262 ?_ ?_
                                  · first | rfl | exact zb_nar _ | exact zb_narc (by assumption)
                                  · exact hF
                                · have hF := hQ Z1 hR1 B1
                                  rw [zb_t h254] at hF
                                  refine g_iconst (v := 1) d_Mo_isTerm_257 rfl ?_
                                  refine g_goto (tgt := 262) d_Mo_isTerm_258 (by decide) ?_
                                  refine g_zret d_Mo_isTerm_262 ?_ ?_
                                  · first | rfl | exact zb_nar _ | exact zb_narc (by assumption)
                                  · exact hF
                          · rw [lg_cmp_eq] at h217
                            rw [if_pos h217] at hQ
                            refine g_aload_nq d_Mo_isTerm_220 rfl 1 rfl ?_
                            refine g_iconst (v := 5) d_Mo_isTerm_221 rfl ?_
                            refine g_iconst (v := 0) d_Mo_isTerm_222 rfl ?_
                            refine g_callV d_Mo_isTerm_223 k_Mo_put l_Mo_141 i_Mo_put rfl p_Mo_put hm (by rfl) (by rfl) (Nat.le_of_ble_eq_true rfl) (by decide) (C_Mo_put hR hq.1 (by have := hq.2.1; omega) hq.2.2 (fun Z1 hR1 B1 => ⟨_, rfl, ?_⟩))
                            refine g_goto (tgt := 263) d_Mo_isTerm_226 (by decide) ?_
                            refine g_iconst (v := 1) d_Mo_isTerm_263 rfl ?_
                            refine g_zret d_Mo_isTerm_264 ?_ ?_
                            · first | rfl | exact zb_nar _ | exact zb_narc (by assumption)
                            · exact hQ Z1 hR1 B1
                        · rw [if_pos ⟨h186, h190⟩] at hQ
                          refine g_aload_nq d_Mo_isTerm_193 rfl 1 rfl ?_
                          refine g_iconst (v := 4) d_Mo_isTerm_194 rfl ?_
                          refine g_iconst (v := 0) d_Mo_isTerm_195 rfl ?_
                          refine g_callV d_Mo_isTerm_196 k_Mo_put l_Mo_141 i_Mo_put rfl p_Mo_put hm (by rfl) (by rfl) (Nat.le_of_ble_eq_true rfl) (by decide) (C_Mo_put hR hq.1 (by have := hq.2.1; omega) hq.2.2 (fun Z1 hR1 B1 => ⟨_, rfl, ?_⟩))
                          refine g_goto (tgt := 263) d_Mo_isTerm_199 (by decide) ?_
                          refine g_iconst (v := 1) d_Mo_isTerm_263 rfl ?_
                          refine g_zret d_Mo_isTerm_264 ?_ ?_
                          · first | rfl | exact zb_nar _ | exact zb_narc (by assumption)
                          · exact hQ Z1 hR1 B1
                    · rw [if_pos ⟨h155, h160⟩] at hQ
                      refine g_aload_nq d_Mo_isTerm_163 rfl 1 rfl ?_
                      refine g_iconst (v := 3) d_Mo_isTerm_164 rfl ?_
                      refine g_iconst (v := 0) d_Mo_isTerm_165 rfl ?_
                      refine g_callV d_Mo_isTerm_166 k_Mo_put l_Mo_141 i_Mo_put rfl p_Mo_put hm (by rfl) (by rfl) (Nat.le_of_ble_eq_true rfl) (by decide) (C_Mo_put hR hq.1 (by have := hq.2.1; omega) hq.2.2 (fun Z1 hR1 B1 => ⟨_, rfl, ?_⟩))
                      refine g_goto (tgt := 263) d_Mo_isTerm_169 (by decide) ?_
                      refine g_iconst (v := 1) d_Mo_isTerm_263 rfl ?_
                      refine g_zret d_Mo_isTerm_264 ?_ ?_
                      · first | rfl | exact zb_nar _ | exact zb_narc (by assumption)
                      · exact hQ Z1 hR1 B1
                · rw [if_pos ⟨h124, h129⟩] at hQ
                  refine g_aload_nq d_Mo_isTerm_132 rfl 1 rfl ?_
                  refine g_iconst (v := 2) d_Mo_isTerm_133 rfl ?_
                  refine g_iconst (v := 0) d_Mo_isTerm_134 rfl ?_
                  refine g_callV d_Mo_isTerm_135 k_Mo_put l_Mo_141 i_Mo_put rfl p_Mo_put hm (by rfl) (by rfl) (Nat.le_of_ble_eq_true rfl) (by decide) (C_Mo_put hR hq.1 (by have := hq.2.1; omega) hq.2.2 (fun Z1 hR1 B1 => ⟨_, rfl, ?_⟩))
                  refine g_goto (tgt := 263) d_Mo_isTerm_138 (by decide) ?_
                  refine g_iconst (v := 1) d_Mo_isTerm_263 rfl ?_
                  refine g_zret d_Mo_isTerm_264 ?_ ?_
                  · first | rfl | exact zb_nar _ | exact zb_narc (by assumption)
                  · exact hQ Z1 hR1 B1
            · rw [if_pos ⟨h34, h48, h64, h80, h85⟩] at hQ
              refine g_aload_nq d_Mo_isTerm_88 rfl 1 rfl ?_
              refine g_iconst (v := 1) d_Mo_isTerm_89 rfl ?_
              refine g_aload_nq d_Mo_isTerm_90 rfl 1 rfl ?_
              refine g_get d_Mo_isTerm_91 f_Mo_44_Mo (by assumption) (by first | rfl | assumption) ?_
              refine g_aload_nq d_Mo_isTerm_94 rfl 1 rfl ?_
              refine g_get d_Mo_isTerm_95 f_Mo_125_Mo (by assumption) (by first | rfl | assumption) ?_
              refine g_iconst (v := 1) d_Mo_isTerm_98 rfl ?_
              refine g_iadd d_Mo_isTerm_99 ?_
              rw [nI_1]
              refine g_iald d_Mo_isTerm_100 (by assumption) (vp_in_nI (n := (sN S 27 + 1)) (by omega) (by decide)) ?_
              rw [nI_clamp (by omega)]
              refine g_bipush (v := 48) d_Mo_isTerm_101 rfl ?_
              refine g_isub d_Mo_isTerm_103 ?_
              refine g_callV d_Mo_isTerm_104 k_Mo_put l_Mo_141 i_Mo_put rfl p_Mo_put hm (by rfl) (by rfl) (Nat.le_of_ble_eq_true rfl) (by decide) (C_Mo_put hR hq.1 (by have := hq.2.1; omega) hq.2.2 (fun Z1 hR1 B1 => ⟨_, rfl, ?_⟩))
              refine g_goto (tgt := 263) d_Mo_isTerm_107 (by decide) ?_
              refine g_iconst (v := 1) d_Mo_isTerm_263 rfl ?_
              refine g_zret d_Mo_isTerm_264 ?_ ?_
              · first | rfl | exact zb_nar _ | exact zb_narc (by assumption)
              · exact hQ Z1 hR1 B1
  · rw [mTm, if_pos h9] at hQ
    refine g_aload_nq d_Mo_isTerm_12 rfl 1 rfl ?_
    refine g_iconst (v := 0) d_Mo_isTerm_13 rfl ?_
    refine g_aload_nq d_Mo_isTerm_14 rfl 1 rfl ?_
    refine g_callV d_Mo_isTerm_15 k_Mo_value l_Mo_153 i_Mo_value rfl p_Mo_value hm (by rfl) (by rfl) (Nat.le_of_ble_eq_true rfl) (by decide) (C_Mo_value hR hw.2.1 (Nat.le_trans hw.2.2 hw.1) ⟨_, rfl, ?_⟩)
    refine g_callV d_Mo_isTerm_18 k_Mo_put l_Mo_141 i_Mo_put rfl p_Mo_put hm (by rfl) (by rfl) (Nat.le_of_ble_eq_true rfl) (by decide) (C_Mo_put hR hq.1 (by have := hq.2.1; omega) hq.2.2 (fun Z1 hR1 B1 => ⟨_, rfl, ?_⟩))
    refine g_goto (tgt := 263) d_Mo_isTerm_21 (by decide) ?_
    refine g_iconst (v := 1) d_Mo_isTerm_263 rfl ?_
    refine g_zret d_Mo_isTerm_264 ?_ ?_
    · first | rfl | exact zb_nar _ | exact zb_narc (by assumption)
    · exact hQ Z1 hR1 B1

set_option maxHeartbeats 4000000 in
set_option maxRecDepth 100000 in
theorem J_Mo_takesSign {w : zC} {Z : zZ} {Q : zR → zZ → Prop} {a : Nat} {x : Int32} (k9 : G w y_Mo_takesSign c_Mo_takesSign 3 r_Mo_takesSign (2, 55) Q 22 [(1, .int x), (0, .ref a)] [.int (zb (¬ x < 10 ∧ ¬ 12 < x))] Z) : G w y_Mo_takesSign c_Mo_takesSign 3 r_Mo_takesSign (2, 55) Q 5 [(1, .int x), (0, .ref a)] [] Z := by
  refine g_iload_n d_Mo_takesSign_5 rfl 0 rfl ?_
  refine g_bipush (v := 10) d_Mo_takesSign_6 rfl ?_
  refine g_icmp_lt (tgt := 21) d_Mo_takesSign_8 (by decide) (fun h8 => ?_) (fun h8 => ?_)
  · rw [zb_f (fun z => z.1 h8)] at k9
    refine g_iconst (v := 0) d_Mo_takesSign_21 rfl ?_
    exact k9
  · refine g_iload_n d_Mo_takesSign_11 rfl 0 rfl ?_
    refine g_bipush (v := 12) d_Mo_takesSign_12 rfl ?_
    refine g_icmp_gt (tgt := 21) d_Mo_takesSign_14 (by decide) (fun h14 => ?_) (fun h14 => ?_)
    · rw [zb_f (fun z => z.2 h14)] at k9
      refine g_iconst (v := 0) d_Mo_takesSign_21 rfl ?_
      exact k9
    · rw [zb_t ⟨h8, h14⟩] at k9
      refine g_iconst (v := 1) d_Mo_takesSign_17 rfl ?_
      refine g_goto (tgt := 22) d_Mo_takesSign_18 (by decide) ?_
      exact k9

set_option maxHeartbeats 4000000 in
set_option maxRecDepth 100000 in
theorem C_Mo_takesSign {w : zC} {Z : zZ} {Q : zR → zZ → Prop} {ad : Nat → Nat} {S : ST} (hR : Rep w ad S Z) (hL : ciLive S) (hw : mW S) (hq : mQ S) (ho : 0 < sN S 32 → 0 < sN (mrel 1 (sN S 31) S) 31) (hQ : mkQ w ad Z Q (mSg S)) : Cz w (2, 55) y_Mo_takesSign (Cond.code y_Mo_takesSign c_Mo_takesSign 3 r_Mo_takesSign :: wz) [.ref (ad 600)] Z Q := by
  refine Cz.of (by decide +kernel) (by simp [lg_sl, Value.category]) ?_
  show G _ _ _ _ _ _ _ _ [(0, _)] _ _
  have hm : zhs Z (ad 600) (.inr (10, [.int (sI S 600 0), .ref (ad 701), .int (nI (sN S 20)), .int (nI (sN S 21)), .int (nI (sN S 22)), .ref (ad 705), .ref (ad 706), .ref (ad 707), .ref (ad 708), .ref (ad 709), .ref (ad 710), .ref (ad 711), .int (nI (sN S 23)), .ref (ad 713), .ref (ad 714), .ref (ad 715), .ref (ad 716), .int (nI (sN S 24)), .int (nI (sN S 25)), .ref (ad 719), .ref (ad 720), .ref (ad 721), .ref (ad 722), .ref (ad 723), .ref (ad 724), .int (sI S 600 25), .ref (ad 726), .ref (ad 727), .ref (ad 728), .int (sI S 600 29), .int (nI (sN S 26)), .ref (ad 731), .ref (ad 732), .int (nI (sN S 27)), .int (nI (sN S 28)), .int (nI (sN S 29)), .int (nI (sN S 30)), .ref (ad 737), .int (nI (sN S 31)), .int (nI (sN S 32)), .int (sI S 600 40), .ref (ad 741)])) := hR.m
  refine g_aload_nq d_Mo_takesSign_0 rfl 0 rfl ?_
  refine g_callV d_Mo_takesSign_1 k_Mo_signAt l_Mo_181 i_Mo_signAt rfl p_Mo_signAt hm (by rfl) (by rfl) (Nat.le_of_ble_eq_true rfl) (by decide) (C_Mo_signAt hR hw ⟨_, rfl, ?_⟩)
  rw [mSg] at hQ
  generalize sgR (spR S) = x at hQ ⊢
  refine g_istore_n d_Mo_takesSign_4 rfl (by decide) rfl ?_
  show G _ _ _ _ _ _ _ _ [(1, _), (0, _)] _ _
  refine J_Mo_takesSign ?_
  refine g_istore_n d_Mo_takesSign_22 rfl (by decide) rfl ?_
  show G _ _ _ _ _ _ _ _ [(2, _), (1, _), (0, _)] _ _
  refine g_aload_nq d_Mo_takesSign_23 rfl 2 rfl ?_
  refine g_get d_Mo_takesSign_24 f_Mo_184_Mo (by assumption) (by first | rfl | assumption) ?_
  refine g_iconst (v := 5) d_Mo_takesSign_27 rfl ?_
  refine g_icmp_eq (tgt := 60) d_Mo_takesSign_28 (by decide) (fun h28 => ?_) (fun h28 => ?_)
  · rw [if_neg (fun z => z.1 h28)] at hQ
    refine g_aload_nq d_Mo_takesSign_60 rfl 2 rfl ?_
    refine g_get d_Mo_takesSign_61 f_Mo_184_Mo (by assumption) (by first | rfl | assumption) ?_
    refine g_iconst (v := 2) d_Mo_takesSign_64 rfl ?_
    refine g_icmp_ne (tgt := 102) d_Mo_takesSign_65 (by decide) (fun h65 => ?_) (fun h65 => ?_)
    · rw [if_neg h65] at hQ
      refine g_iload_n d_Mo_takesSign_102 rfl 1 rfl ?_
      refine g_bipush (v := 20) d_Mo_takesSign_103 rfl ?_
      refine g_icmp_eq (tgt := 114) d_Mo_takesSign_105 (by decide) (fun h105 => ?_) (fun h105 => ?_)
      · rw [if_pos (Or.inl h105)] at hQ
        refine g_aload_nq d_Mo_takesSign_114 rfl 2 rfl ?_
        refine g_iload_n d_Mo_takesSign_115 rfl 1 rfl ?_
        refine g_callS d_Mo_takesSign_116 k_Mo_rank l_Mo_137 s_Mo_rank (by rfl) (by rfl) (Nat.le_of_ble_eq_true rfl) (by decide) (C_Mo_rank ⟨_, rfl, ?_⟩)
        refine g_callV d_Mo_takesSign_119 k_Mo_release l_Mo_187 i_Mo_release rfl p_Mo_release hm (by rfl) (by rfl) (Nat.le_of_ble_eq_true rfl) (by decide) (C_Mo_release hR hL hq (fun Z1 hR1 B1 => ⟨_, rfl, ?_⟩))
        have hm : zhs Z1 (ad 600) (.inr (10, [.int (sI (mrel (mrk x) (sN S 31) S) 600 0), .ref (ad 701), .int (nI (sN (mrel (mrk x) (sN S 31) S) 20)), .int (nI (sN (mrel (mrk x) (sN S 31) S) 21)), .int (nI (sN (mrel (mrk x) (sN S 31) S) 22)), .ref (ad 705), .ref (ad 706), .ref (ad 707), .ref (ad 708), .ref (ad 709), .ref (ad 710), .ref (ad 711), .int (nI (sN (mrel (mrk x) (sN S 31) S) 23)), .ref (ad 713), .ref (ad 714), .ref (ad 715), .ref (ad 716), .int (nI (sN (mrel (mrk x) (sN S 31) S) 24)), .int (nI (sN (mrel (mrk x) (sN S 31) S) 25)), .ref (ad 719), .ref (ad 720), .ref (ad 721), .ref (ad 722), .ref (ad 723), .ref (ad 724), .int (sI (mrel (mrk x) (sN S 31) S) 600 25), .ref (ad 726), .ref (ad 727), .ref (ad 728), .int (sI (mrel (mrk x) (sN S 31) S) 600 29), .int (nI (sN (mrel (mrk x) (sN S 31) S) 26)), .ref (ad 731), .ref (ad 732), .int (nI (sN (mrel (mrk x) (sN S 31) S) 27)), .int (nI (sN (mrel (mrk x) (sN S 31) S) 28)), .int (nI (sN (mrel (mrk x) (sN S 31) S) 29)), .int (nI (sN (mrel (mrk x) (sN S 31) S) 30)), .ref (ad 737), .int (nI (sN (mrel (mrk x) (sN S 31) S) 31)), .int (nI (sN (mrel (mrk x) (sN S 31) S) 32)), .int (sI (mrel (mrk x) (sN S 31) S) 600 40), .ref (ad 741)])) := hR1.m
        refine g_aload_nq d_Mo_takesSign_122 rfl 2 rfl ?_
        refine g_iload_n d_Mo_takesSign_123 rfl 1 rfl ?_
        refine g_callV d_Mo_takesSign_124 k_Mo_wait l_Mo_191 i_Mo_wait rfl p_Mo_wait hm (by rfl) (by rfl) (Nat.le_of_ble_eq_true rfl) (by decide) (C_Mo_wait hR1 hL.rel (by have h9 := mrel_31 (x := mrk x) (sN S 31) S rfl; have := hq.2.1; omega) (fun Z2 hR2 B2 => ⟨_, rfl, ?_⟩))
        have hR2 : Rep w ad (mRw S x) Z2 := hR2
        generalize mRw S x = T at *
        have hm : zhs Z2 (ad 600) (.inr (10, [.int (sI T 600 0), .ref (ad 701), .int (nI (sN T 20)), .int (nI (sN T 21)), .int (nI (sN T 22)), .ref (ad 705), .ref (ad 706), .ref (ad 707), .ref (ad 708), .ref (ad 709), .ref (ad 710), .ref (ad 711), .int (nI (sN T 23)), .ref (ad 713), .ref (ad 714), .ref (ad 715), .ref (ad 716), .int (nI (sN T 24)), .int (nI (sN T 25)), .ref (ad 719), .ref (ad 720), .ref (ad 721), .ref (ad 722), .ref (ad 723), .ref (ad 724), .int (sI T 600 25), .ref (ad 726), .ref (ad 727), .ref (ad 728), .int (sI T 600 29), .int (nI (sN T 26)), .ref (ad 731), .ref (ad 732), .int (nI (sN T 27)), .int (nI (sN T 28)), .int (nI (sN T 29)), .int (nI (sN T 30)), .ref (ad 737), .int (nI (sN T 31)), .int (nI (sN T 32)), .int (sI T 600 40), .ref (ad 741)])) := hR2.m
        refine g_aload_nq d_Mo_takesSign_127 rfl 2 rfl ?_
        refine g_iconst (v := 0) d_Mo_takesSign_128 rfl ?_
        refine g_put d_Mo_takesSign_129 w_Mo_184_Mo (by assumption) (by rfl) (by rfl) (by first | exact Nat.le_of_ble_eq_true rfl | omega) ?_
        refine gen_putI (P := fun z => G w y_Mo_takesSign c_Mo_takesSign 3 r_Mo_takesSign (2, 55) Q _ _ _ z) hR2 (i := 600) lv6 c6_40 (fun Z3 e3 hR3 => ?_)
        have hF := hQ Z3 hR3 (by rw [← e3]; exact B2.trans B1)
        refine g_iconst (v := 1) d_Mo_takesSign_132 rfl ?_
        refine g_zret d_Mo_takesSign_133 ?_ ?_
        · first | rfl | exact zb_nar _ | exact zb_narc (by assumption)
        · exact hF
      · refine g_iload_n d_Mo_takesSign_108 rfl 1 rfl ?_
        refine g_bipush (v := 21) d_Mo_takesSign_109 rfl ?_
        refine g_icmp_ne (tgt := 134) d_Mo_takesSign_111 (by decide) (fun h111 => ?_) (fun h111 => ?_)
        · rw [if_neg (fun z => by rcases z with z | z; exact h105 z; exact h111 z)] at hQ
          refine g_aload_nq d_Mo_takesSign_134 rfl 2 rfl ?_
          refine g_callV d_Mo_takesSign_135 k_Mo_spelt l_Mo_145 i_Mo_spelt rfl p_Mo_spelt hm (by rfl) (by rfl) (Nat.le_of_ble_eq_true rfl) (by decide) (C_Mo_spelt hR hw.2.1 (Nat.le_trans hw.2.2 hw.1) ⟨_, rfl, ?_⟩)
          refine g_ldc2 v_Mo_194 d_Mo_takesSign_138 ?_
          refine g_lcmp d_Mo_takesSign_141 ?_
          refine g_if_ne (tgt := 152) d_Mo_takesSign_142 (by decide) (fun h142 => ?_) (fun h142 => ?_)
          · rw [lg_cmp_eq] at h142
            rw [if_neg (fun z => h142 z.1)] at hQ
            have hF := hQ Z hR rfl
            refine g_iconst (v := 0) d_Mo_takesSign_152 rfl ?_
            refine g_zret d_Mo_takesSign_153 ?_ ?_
            · first | rfl | exact zb_nar _ | exact zb_narc (by assumption)
            · exact hF
          · rw [lg_cmp_eq] at h142
            refine g_aload_nq d_Mo_takesSign_145 rfl 2 rfl ?_
            refine g_get d_Mo_takesSign_146 f_Mo_196_Mo (by assumption) (by first | rfl | assumption) ?_
            first | refine g_if_neB (tgt := 154) d_Mo_takesSign_149 (by decide) (fun h149 => ?_) (fun h149 => ?_) | refine g_if_ne (tgt := 154) d_Mo_takesSign_149 (by decide) (fun h149 => ?_) (fun h149 => ?_)
            · rw [if_pos ⟨h142, h149⟩] at hQ
              have hpos : 0 < sN S 32 := Nat.pos_of_ne_zero (fun z => h149 (by rw [z]; rfl))
              have hpo := ho hpos
              refine g_aload_nq d_Mo_takesSign_154 rfl 2 rfl ?_
              refine g_iconst (v := 1) d_Mo_takesSign_155 rfl ?_
              refine g_callV d_Mo_takesSign_156 k_Mo_release l_Mo_187 i_Mo_release rfl p_Mo_release hm (by rfl) (by rfl) (Nat.le_of_ble_eq_true rfl) (by decide) (C_Mo_release hR hL hq (fun Z1 hR1 B1 => ⟨_, rfl, ?_⟩))
              have hm : zhs Z1 (ad 600) (.inr (10, [.int (sI (mrel 1 (sN S 31) S) 600 0), .ref (ad 701), .int (nI (sN (mrel 1 (sN S 31) S) 20)), .int (nI (sN (mrel 1 (sN S 31) S) 21)), .int (nI (sN (mrel 1 (sN S 31) S) 22)), .ref (ad 705), .ref (ad 706), .ref (ad 707), .ref (ad 708), .ref (ad 709), .ref (ad 710), .ref (ad 711), .int (nI (sN (mrel 1 (sN S 31) S) 23)), .ref (ad 713), .ref (ad 714), .ref (ad 715), .ref (ad 716), .int (nI (sN (mrel 1 (sN S 31) S) 24)), .int (nI (sN (mrel 1 (sN S 31) S) 25)), .ref (ad 719), .ref (ad 720), .ref (ad 721), .ref (ad 722), .ref (ad 723), .ref (ad 724), .int (sI (mrel 1 (sN S 31) S) 600 25), .ref (ad 726), .ref (ad 727), .ref (ad 728), .int (sI (mrel 1 (sN S 31) S) 600 29), .int (nI (sN (mrel 1 (sN S 31) S) 26)), .ref (ad 731), .ref (ad 732), .int (nI (sN (mrel 1 (sN S 31) S) 27)), .int (nI (sN (mrel 1 (sN S 31) S) 28)), .int (nI (sN (mrel 1 (sN S 31) S) 29)), .int (nI (sN (mrel 1 (sN S 31) S) 30)), .ref (ad 737), .int (nI (sN (mrel 1 (sN S 31) S) 31)), .int (nI (sN (mrel 1 (sN S 31) S) 32)), .int (sI (mrel 1 (sN S 31) S) 600 40), .ref (ad 741)])) := hR1.m
              have e32 : sN (mrel 1 (sN S 31) S) 32 = sN S 32 := (mrel_R _ S).2 32 (by decide)
              refine g_aload_nq d_Mo_takesSign_159 rfl 2 rfl ?_
              refine g_dup d_Mo_takesSign_160 rfl ?_
              refine g_get d_Mo_takesSign_161 f_Mo_134_Mo (by assumption) (by first | rfl | assumption) ?_
              refine g_iconst (v := 1) d_Mo_takesSign_164 rfl ?_
              refine g_isub d_Mo_takesSign_165 ?_
              rw [show nI (sN (mrel 1 (sN S 31) S) 31) - 1 = nI (sN (mrel 1 (sN S 31) S) 31 - 1) by rw [show sN (mrel 1 (sN S 31) S) 31 = (sN (mrel 1 (sN S 31) S) 31 - 1) + 1 by omega, nI_pred, Nat.add_sub_cancel]]
              refine g_put d_Mo_takesSign_166 w_Mo_134_Mo (by assumption) (by rfl) (by rfl) (by first | exact Nat.le_of_ble_eq_true rfl | omega) ?_
              refine gen_putN (P := fun z => G w y_Mo_takesSign c_Mo_takesSign 3 r_Mo_takesSign (2, 55) Q _ _ _ z) hR1 hL.rel (n := 31) (by decide) c6N_31 (fun Z2 e2 hR2 hL2 => ?_)
              have hm := zhs_put_same' e2 hm
              simp only [List.set] at hm
              refine g_aload_nq d_Mo_takesSign_169 rfl 2 rfl ?_
              refine g_dup d_Mo_takesSign_170 rfl ?_
              refine g_get d_Mo_takesSign_171 f_Mo_196_Mo (by assumption) (by first | rfl | assumption) ?_
              refine g_iconst (v := 1) d_Mo_takesSign_174 rfl ?_
              refine g_isub d_Mo_takesSign_175 ?_
              rw [show nI (sN (mrel 1 (sN S 31) S) 32) - 1 = nI (sN (mrel 1 (sN S 31) S) 32 - 1) by rw [show sN (mrel 1 (sN S 31) S) 32 = (sN (mrel 1 (sN S 31) S) 32 - 1) + 1 by omega, nI_pred, Nat.add_sub_cancel]]
              refine g_put d_Mo_takesSign_176 w_Mo_196_Mo (by assumption) (by rfl) (by rfl) (by first | exact Nat.le_of_ble_eq_true rfl | omega) ?_
              refine gen_putN (P := fun z => G w y_Mo_takesSign c_Mo_takesSign 3 r_Mo_takesSign (2, 55) Q _ _ _ z) hR2 hL2 (n := 32) (by decide) c6N_32 (fun Z3 e3 hR3 hL3 => ?_)
              have hm := zhs_put_same' e3 hm
              simp only [List.set] at hm
              refine g_aload_nq d_Mo_takesSign_179 rfl 2 rfl ?_
              refine g_iconst (v := 5) d_Mo_takesSign_180 rfl ?_
              refine g_put d_Mo_takesSign_181 w_Mo_184_Mo (by assumption) (by rfl) (by rfl) (by first | exact Nat.le_of_ble_eq_true rfl | omega) ?_
              refine gen_putI (P := fun z => G w y_Mo_takesSign c_Mo_takesSign 3 r_Mo_takesSign (2, 55) Q _ _ _ z) hR3 (i := 600) lv6 c6_40 (fun Z4 e4 hR4 => ?_)
              have hF := hQ Z4 hR4 (by rw [← e4, ← e3, ← e2]; exact B1)
              refine g_iconst (v := 1) d_Mo_takesSign_184 rfl ?_
              refine g_zret d_Mo_takesSign_185 ?_ ?_
              · first | rfl | exact zb_nar _ | exact zb_narc (by assumption)
              · exact hF
            · rw [if_neg (fun z => z.2 h149)] at hQ
              have hF := hQ Z hR rfl
              refine g_iconst (v := 0) d_Mo_takesSign_152 rfl ?_
              refine g_zret d_Mo_takesSign_153 ?_ ?_
              · first | rfl | exact zb_nar _ | exact zb_narc (by assumption)
              · exact hF
        · rw [if_pos (Or.inr h111)] at hQ
          refine g_aload_nq d_Mo_takesSign_114 rfl 2 rfl ?_
          refine g_iload_n d_Mo_takesSign_115 rfl 1 rfl ?_
          refine g_callS d_Mo_takesSign_116 k_Mo_rank l_Mo_137 s_Mo_rank (by rfl) (by rfl) (Nat.le_of_ble_eq_true rfl) (by decide) (C_Mo_rank ⟨_, rfl, ?_⟩)
          refine g_callV d_Mo_takesSign_119 k_Mo_release l_Mo_187 i_Mo_release rfl p_Mo_release hm (by rfl) (by rfl) (Nat.le_of_ble_eq_true rfl) (by decide) (C_Mo_release hR hL hq (fun Z1 hR1 B1 => ⟨_, rfl, ?_⟩))
          have hm : zhs Z1 (ad 600) (.inr (10, [.int (sI (mrel (mrk x) (sN S 31) S) 600 0), .ref (ad 701), .int (nI (sN (mrel (mrk x) (sN S 31) S) 20)), .int (nI (sN (mrel (mrk x) (sN S 31) S) 21)), .int (nI (sN (mrel (mrk x) (sN S 31) S) 22)), .ref (ad 705), .ref (ad 706), .ref (ad 707), .ref (ad 708), .ref (ad 709), .ref (ad 710), .ref (ad 711), .int (nI (sN (mrel (mrk x) (sN S 31) S) 23)), .ref (ad 713), .ref (ad 714), .ref (ad 715), .ref (ad 716), .int (nI (sN (mrel (mrk x) (sN S 31) S) 24)), .int (nI (sN (mrel (mrk x) (sN S 31) S) 25)), .ref (ad 719), .ref (ad 720), .ref (ad 721), .ref (ad 722), .ref (ad 723), .ref (ad 724), .int (sI (mrel (mrk x) (sN S 31) S) 600 25), .ref (ad 726), .ref (ad 727), .ref (ad 728), .int (sI (mrel (mrk x) (sN S 31) S) 600 29), .int (nI (sN (mrel (mrk x) (sN S 31) S) 26)), .ref (ad 731), .ref (ad 732), .int (nI (sN (mrel (mrk x) (sN S 31) S) 27)), .int (nI (sN (mrel (mrk x) (sN S 31) S) 28)), .int (nI (sN (mrel (mrk x) (sN S 31) S) 29)), .int (nI (sN (mrel (mrk x) (sN S 31) S) 30)), .ref (ad 737), .int (nI (sN (mrel (mrk x) (sN S 31) S) 31)), .int (nI (sN (mrel (mrk x) (sN S 31) S) 32)), .int (sI (mrel (mrk x) (sN S 31) S) 600 40), .ref (ad 741)])) := hR1.m
          refine g_aload_nq d_Mo_takesSign_122 rfl 2 rfl ?_
          refine g_iload_n d_Mo_takesSign_123 rfl 1 rfl ?_
          refine g_callV d_Mo_takesSign_124 k_Mo_wait l_Mo_191 i_Mo_wait rfl p_Mo_wait hm (by rfl) (by rfl) (Nat.le_of_ble_eq_true rfl) (by decide) (C_Mo_wait hR1 hL.rel (by have h9 := mrel_31 (x := mrk x) (sN S 31) S rfl; have := hq.2.1; omega) (fun Z2 hR2 B2 => ⟨_, rfl, ?_⟩))
          have hR2 : Rep w ad (mRw S x) Z2 := hR2
          generalize mRw S x = T at *
          have hm : zhs Z2 (ad 600) (.inr (10, [.int (sI T 600 0), .ref (ad 701), .int (nI (sN T 20)), .int (nI (sN T 21)), .int (nI (sN T 22)), .ref (ad 705), .ref (ad 706), .ref (ad 707), .ref (ad 708), .ref (ad 709), .ref (ad 710), .ref (ad 711), .int (nI (sN T 23)), .ref (ad 713), .ref (ad 714), .ref (ad 715), .ref (ad 716), .int (nI (sN T 24)), .int (nI (sN T 25)), .ref (ad 719), .ref (ad 720), .ref (ad 721), .ref (ad 722), .ref (ad 723), .ref (ad 724), .int (sI T 600 25), .ref (ad 726), .ref (ad 727), .ref (ad 728), .int (sI T 600 29), .int (nI (sN T 26)), .ref (ad 731), .ref (ad 732), .int (nI (sN T 27)), .int (nI (sN T 28)), .int (nI (sN T 29)), .int (nI (sN T 30)), .ref (ad 737), .int (nI (sN T 31)), .int (nI (sN T 32)), .int (sI T 600 40), .ref (ad 741)])) := hR2.m
          refine g_aload_nq d_Mo_takesSign_127 rfl 2 rfl ?_
          refine g_iconst (v := 0) d_Mo_takesSign_128 rfl ?_
          refine g_put d_Mo_takesSign_129 w_Mo_184_Mo (by assumption) (by rfl) (by rfl) (by first | exact Nat.le_of_ble_eq_true rfl | omega) ?_
          refine gen_putI (P := fun z => G w y_Mo_takesSign c_Mo_takesSign 3 r_Mo_takesSign (2, 55) Q _ _ _ z) hR2 (i := 600) lv6 c6_40 (fun Z3 e3 hR3 => ?_)
          have hF := hQ Z3 hR3 (by rw [← e3]; exact B2.trans B1)
          refine g_iconst (v := 1) d_Mo_takesSign_132 rfl ?_
          refine g_zret d_Mo_takesSign_133 ?_ ?_
          · first | rfl | exact zb_nar _ | exact zb_narc (by assumption)
          · exact hF
    · rw [if_pos h65] at hQ
      refine g_iload_n d_Mo_takesSign_68 rfl 1 rfl ?_
      refine g_bipush (v := 13) d_Mo_takesSign_69 rfl ?_
      refine g_icmp_lt (tgt := 80) d_Mo_takesSign_71 (by decide) (fun h71 => ?_) (fun h71 => ?_)
      · rw [if_pos (Or.inl h71)] at hQ
        have hF := hQ Z hR rfl
        refine g_iconst (v := 0) d_Mo_takesSign_80 rfl ?_
        refine g_zret d_Mo_takesSign_81 ?_ ?_
        · first | rfl | exact zb_nar _ | exact zb_narc (by assumption)
        · exact hF
      · refine g_iload_n d_Mo_takesSign_74 rfl 1 rfl ?_
        refine g_bipush (v := 18) d_Mo_takesSign_75 rfl ?_
        refine g_icmp_le (tgt := 82) d_Mo_takesSign_77 (by decide) (fun h77 => ?_) (fun h77 => ?_)
        · rw [if_neg (fun z => by rcases z with z | z; exact h71 z; exact z h77)] at hQ
          refine g_aload_nq d_Mo_takesSign_82 rfl 2 rfl ?_
          refine g_iload_n d_Mo_takesSign_83 rfl 1 rfl ?_
          refine g_callS d_Mo_takesSign_84 k_Mo_rank l_Mo_137 s_Mo_rank (by rfl) (by rfl) (Nat.le_of_ble_eq_true rfl) (by decide) (C_Mo_rank ⟨_, rfl, ?_⟩)
          refine g_callV d_Mo_takesSign_87 k_Mo_release l_Mo_187 i_Mo_release rfl p_Mo_release hm (by rfl) (by rfl) (Nat.le_of_ble_eq_true rfl) (by decide) (C_Mo_release hR hL hq (fun Z1 hR1 B1 => ⟨_, rfl, ?_⟩))
          have hm : zhs Z1 (ad 600) (.inr (10, [.int (sI (mrel (mrk x) (sN S 31) S) 600 0), .ref (ad 701), .int (nI (sN (mrel (mrk x) (sN S 31) S) 20)), .int (nI (sN (mrel (mrk x) (sN S 31) S) 21)), .int (nI (sN (mrel (mrk x) (sN S 31) S) 22)), .ref (ad 705), .ref (ad 706), .ref (ad 707), .ref (ad 708), .ref (ad 709), .ref (ad 710), .ref (ad 711), .int (nI (sN (mrel (mrk x) (sN S 31) S) 23)), .ref (ad 713), .ref (ad 714), .ref (ad 715), .ref (ad 716), .int (nI (sN (mrel (mrk x) (sN S 31) S) 24)), .int (nI (sN (mrel (mrk x) (sN S 31) S) 25)), .ref (ad 719), .ref (ad 720), .ref (ad 721), .ref (ad 722), .ref (ad 723), .ref (ad 724), .int (sI (mrel (mrk x) (sN S 31) S) 600 25), .ref (ad 726), .ref (ad 727), .ref (ad 728), .int (sI (mrel (mrk x) (sN S 31) S) 600 29), .int (nI (sN (mrel (mrk x) (sN S 31) S) 26)), .ref (ad 731), .ref (ad 732), .int (nI (sN (mrel (mrk x) (sN S 31) S) 27)), .int (nI (sN (mrel (mrk x) (sN S 31) S) 28)), .int (nI (sN (mrel (mrk x) (sN S 31) S) 29)), .int (nI (sN (mrel (mrk x) (sN S 31) S) 30)), .ref (ad 737), .int (nI (sN (mrel (mrk x) (sN S 31) S) 31)), .int (nI (sN (mrel (mrk x) (sN S 31) S) 32)), .int (sI (mrel (mrk x) (sN S 31) S) 600 40), .ref (ad 741)])) := hR1.m
          refine g_aload_nq d_Mo_takesSign_90 rfl 2 rfl ?_
          refine g_iload_n d_Mo_takesSign_91 rfl 1 rfl ?_
          refine g_callV d_Mo_takesSign_92 k_Mo_wait l_Mo_191 i_Mo_wait rfl p_Mo_wait hm (by rfl) (by rfl) (Nat.le_of_ble_eq_true rfl) (by decide) (C_Mo_wait hR1 hL.rel (by have h9 := mrel_31 (x := mrk x) (sN S 31) S rfl; have := hq.2.1; omega) (fun Z2 hR2 B2 => ⟨_, rfl, ?_⟩))
          have hR2 : Rep w ad (mRw S x) Z2 := hR2
          generalize mRw S x = T at *
          have hm : zhs Z2 (ad 600) (.inr (10, [.int (sI T 600 0), .ref (ad 701), .int (nI (sN T 20)), .int (nI (sN T 21)), .int (nI (sN T 22)), .ref (ad 705), .ref (ad 706), .ref (ad 707), .ref (ad 708), .ref (ad 709), .ref (ad 710), .ref (ad 711), .int (nI (sN T 23)), .ref (ad 713), .ref (ad 714), .ref (ad 715), .ref (ad 716), .int (nI (sN T 24)), .int (nI (sN T 25)), .ref (ad 719), .ref (ad 720), .ref (ad 721), .ref (ad 722), .ref (ad 723), .ref (ad 724), .int (sI T 600 25), .ref (ad 726), .ref (ad 727), .ref (ad 728), .int (sI T 600 29), .int (nI (sN T 26)), .ref (ad 731), .ref (ad 732), .int (nI (sN T 27)), .int (nI (sN T 28)), .int (nI (sN T 29)), .int (nI (sN T 30)), .ref (ad 737), .int (nI (sN T 31)), .int (nI (sN T 32)), .int (sI T 600 40), .ref (ad 741)])) := hR2.m
          refine g_aload_nq d_Mo_takesSign_95 rfl 2 rfl ?_
          refine g_iconst (v := 3) d_Mo_takesSign_96 rfl ?_
          refine g_put d_Mo_takesSign_97 w_Mo_184_Mo (by assumption) (by rfl) (by rfl) (by first | exact Nat.le_of_ble_eq_true rfl | omega) ?_
          refine gen_putI (P := fun z => G w y_Mo_takesSign c_Mo_takesSign 3 r_Mo_takesSign (2, 55) Q _ _ _ z) hR2 (i := 600) lv6 c6_40 (fun Z3 e3 hR3 => ?_)
          have hF := hQ Z3 hR3 (by rw [← e3]; exact B2.trans B1)
          refine g_iconst (v := 1) d_Mo_takesSign_100 rfl ?_
          refine g_zret d_Mo_takesSign_101 ?_ ?_
          · first | rfl | exact zb_nar _ | exact zb_narc (by assumption)
          · exact hF
        · rw [if_pos (Or.inr h77)] at hQ
          have hF := hQ Z hR rfl
          refine g_iconst (v := 0) d_Mo_takesSign_80 rfl ?_
          refine g_zret d_Mo_takesSign_81 ?_ ?_
          · first | rfl | exact zb_nar _ | exact zb_narc (by assumption)
          · exact hF
  · refine g_iload_n d_Mo_takesSign_31 rfl 0 rfl ?_
    first | refine g_if_eqB (tgt := 60) d_Mo_takesSign_32 (by decide) (fun h32 => ?_) (fun h32 => ?_) | refine g_if_eq (tgt := 60) d_Mo_takesSign_32 (by decide) (fun h32 => ?_) (fun h32 => ?_)
    · rw [if_neg (fun z => h32 z.2)] at hQ
      refine g_aload_nq d_Mo_takesSign_60 rfl 2 rfl ?_
      refine g_get d_Mo_takesSign_61 f_Mo_184_Mo (by assumption) (by first | rfl | assumption) ?_
      refine g_iconst (v := 2) d_Mo_takesSign_64 rfl ?_
      refine g_icmp_ne (tgt := 102) d_Mo_takesSign_65 (by decide) (fun h65 => ?_) (fun h65 => ?_)
      · rw [if_neg h65] at hQ
        refine g_iload_n d_Mo_takesSign_102 rfl 1 rfl ?_
        refine g_bipush (v := 20) d_Mo_takesSign_103 rfl ?_
        refine g_icmp_eq (tgt := 114) d_Mo_takesSign_105 (by decide) (fun h105 => ?_) (fun h105 => ?_)
        · rw [if_pos (Or.inl h105)] at hQ
          refine g_aload_nq d_Mo_takesSign_114 rfl 2 rfl ?_
          refine g_iload_n d_Mo_takesSign_115 rfl 1 rfl ?_
          refine g_callS d_Mo_takesSign_116 k_Mo_rank l_Mo_137 s_Mo_rank (by rfl) (by rfl) (Nat.le_of_ble_eq_true rfl) (by decide) (C_Mo_rank ⟨_, rfl, ?_⟩)
          refine g_callV d_Mo_takesSign_119 k_Mo_release l_Mo_187 i_Mo_release rfl p_Mo_release hm (by rfl) (by rfl) (Nat.le_of_ble_eq_true rfl) (by decide) (C_Mo_release hR hL hq (fun Z1 hR1 B1 => ⟨_, rfl, ?_⟩))
          have hm : zhs Z1 (ad 600) (.inr (10, [.int (sI (mrel (mrk x) (sN S 31) S) 600 0), .ref (ad 701), .int (nI (sN (mrel (mrk x) (sN S 31) S) 20)), .int (nI (sN (mrel (mrk x) (sN S 31) S) 21)), .int (nI (sN (mrel (mrk x) (sN S 31) S) 22)), .ref (ad 705), .ref (ad 706), .ref (ad 707), .ref (ad 708), .ref (ad 709), .ref (ad 710), .ref (ad 711), .int (nI (sN (mrel (mrk x) (sN S 31) S) 23)), .ref (ad 713), .ref (ad 714), .ref (ad 715), .ref (ad 716), .int (nI (sN (mrel (mrk x) (sN S 31) S) 24)), .int (nI (sN (mrel (mrk x) (sN S 31) S) 25)), .ref (ad 719), .ref (ad 720), .ref (ad 721), .ref (ad 722), .ref (ad 723), .ref (ad 724), .int (sI (mrel (mrk x) (sN S 31) S) 600 25), .ref (ad 726), .ref (ad 727), .ref (ad 728), .int (sI (mrel (mrk x) (sN S 31) S) 600 29), .int (nI (sN (mrel (mrk x) (sN S 31) S) 26)), .ref (ad 731), .ref (ad 732), .int (nI (sN (mrel (mrk x) (sN S 31) S) 27)), .int (nI (sN (mrel (mrk x) (sN S 31) S) 28)), .int (nI (sN (mrel (mrk x) (sN S 31) S) 29)), .int (nI (sN (mrel (mrk x) (sN S 31) S) 30)), .ref (ad 737), .int (nI (sN (mrel (mrk x) (sN S 31) S) 31)), .int (nI (sN (mrel (mrk x) (sN S 31) S) 32)), .int (sI (mrel (mrk x) (sN S 31) S) 600 40), .ref (ad 741)])) := hR1.m
          refine g_aload_nq d_Mo_takesSign_122 rfl 2 rfl ?_
          refine g_iload_n d_Mo_takesSign_123 rfl 1 rfl ?_
          refine g_callV d_Mo_takesSign_124 k_Mo_wait l_Mo_191 i_Mo_wait rfl p_Mo_wait hm (by rfl) (by rfl) (Nat.le_of_ble_eq_true rfl) (by decide) (C_Mo_wait hR1 hL.rel (by have h9 := mrel_31 (x := mrk x) (sN S 31) S rfl; have := hq.2.1; omega) (fun Z2 hR2 B2 => ⟨_, rfl, ?_⟩))
          have hR2 : Rep w ad (mRw S x) Z2 := hR2
          generalize mRw S x = T at *
          have hm : zhs Z2 (ad 600) (.inr (10, [.int (sI T 600 0), .ref (ad 701), .int (nI (sN T 20)), .int (nI (sN T 21)), .int (nI (sN T 22)), .ref (ad 705), .ref (ad 706), .ref (ad 707), .ref (ad 708), .ref (ad 709), .ref (ad 710), .ref (ad 711), .int (nI (sN T 23)), .ref (ad 713), .ref (ad 714), .ref (ad 715), .ref (ad 716), .int (nI (sN T 24)), .int (nI (sN T 25)), .ref (ad 719), .ref (ad 720), .ref (ad 721), .ref (ad 722), .ref (ad 723), .ref (ad 724), .int (sI T 600 25), .ref (ad 726), .ref (ad 727), .ref (ad 728), .int (sI T 600 29), .int (nI (sN T 26)), .ref (ad 731), .ref (ad 732), .int (nI (sN T 27)), .int (nI (sN T 28)), .int (nI (sN T 29)), .int (nI (sN T 30)), .ref (ad 737), .int (nI (sN T 31)), .int (nI (sN T 32)), .int (sI T 600 40), .ref (ad 741)])) := hR2.m
          refine g_aload_nq d_Mo_takesSign_127 rfl 2 rfl ?_
          refine g_iconst (v := 0) d_Mo_takesSign_128 rfl ?_
          refine g_put d_Mo_takesSign_129 w_Mo_184_Mo (by assumption) (by rfl) (by rfl) (by first | exact Nat.le_of_ble_eq_true rfl | omega) ?_
          refine gen_putI (P := fun z => G w y_Mo_takesSign c_Mo_takesSign 3 r_Mo_takesSign (2, 55) Q _ _ _ z) hR2 (i := 600) lv6 c6_40 (fun Z3 e3 hR3 => ?_)
          have hF := hQ Z3 hR3 (by rw [← e3]; exact B2.trans B1)
          refine g_iconst (v := 1) d_Mo_takesSign_132 rfl ?_
          refine g_zret d_Mo_takesSign_133 ?_ ?_
          · first | rfl | exact zb_nar _ | exact zb_narc (by assumption)
          · exact hF
        · refine g_iload_n d_Mo_takesSign_108 rfl 1 rfl ?_
          refine g_bipush (v := 21) d_Mo_takesSign_109 rfl ?_
          refine g_icmp_ne (tgt := 134) d_Mo_takesSign_111 (by decide) (fun h111 => ?_) (fun h111 => ?_)
          · rw [if_neg (fun z => by rcases z with z | z; exact h105 z; exact h111 z)] at hQ
            refine g_aload_nq d_Mo_takesSign_134 rfl 2 rfl ?_
            refine g_callV d_Mo_takesSign_135 k_Mo_spelt l_Mo_145 i_Mo_spelt rfl p_Mo_spelt hm (by rfl) (by rfl) (Nat.le_of_ble_eq_true rfl) (by decide) (C_Mo_spelt hR hw.2.1 (Nat.le_trans hw.2.2 hw.1) ⟨_, rfl, ?_⟩)
            refine g_ldc2 v_Mo_194 d_Mo_takesSign_138 ?_
            refine g_lcmp d_Mo_takesSign_141 ?_
            refine g_if_ne (tgt := 152) d_Mo_takesSign_142 (by decide) (fun h142 => ?_) (fun h142 => ?_)
            · rw [lg_cmp_eq] at h142
              rw [if_neg (fun z => h142 z.1)] at hQ
              have hF := hQ Z hR rfl
              refine g_iconst (v := 0) d_Mo_takesSign_152 rfl ?_
              refine g_zret d_Mo_takesSign_153 ?_ ?_
              · first | rfl | exact zb_nar _ | exact zb_narc (by assumption)
              · exact hF
            · rw [lg_cmp_eq] at h142
              refine g_aload_nq d_Mo_takesSign_145 rfl 2 rfl ?_
              refine g_get d_Mo_takesSign_146 f_Mo_196_Mo (by assumption) (by first | rfl | assumption) ?_
              first | refine g_if_neB (tgt := 154) d_Mo_takesSign_149 (by decide) (fun h149 => ?_) (fun h149 => ?_) | refine g_if_ne (tgt := 154) d_Mo_takesSign_149 (by decide) (fun h149 => ?_) (fun h149 => ?_)
              · rw [if_pos ⟨h142, h149⟩] at hQ
                have hpos : 0 < sN S 32 := Nat.pos_of_ne_zero (fun z => h149 (by rw [z]; rfl))
                have hpo := ho hpos
                refine g_aload_nq d_Mo_takesSign_154 rfl 2 rfl ?_
                refine g_iconst (v := 1) d_Mo_takesSign_155 rfl ?_
                refine g_callV d_Mo_takesSign_156 k_Mo_release l_Mo_187 i_Mo_release rfl p_Mo_release hm (by rfl) (by rfl) (Nat.le_of_ble_eq_true rfl) (by decide) (C_Mo_release hR hL hq (fun Z1 hR1 B1 => ⟨_, rfl, ?_⟩))
                have hm : zhs Z1 (ad 600) (.inr (10, [.int (sI (mrel 1 (sN S 31) S) 600 0), .ref (ad 701), .int (nI (sN (mrel 1 (sN S 31) S) 20)), .int (nI (sN (mrel 1 (sN S 31) S) 21)), .int (nI (sN (mrel 1 (sN S 31) S) 22)), .ref (ad 705), .ref (ad 706), .ref (ad 707), .ref (ad 708), .ref (ad 709), .ref (ad 710), .ref (ad 711), .int (nI (sN (mrel 1 (sN S 31) S) 23)), .ref (ad 713), .ref (ad 714), .ref (ad 715), .ref (ad 716), .int (nI (sN (mrel 1 (sN S 31) S) 24)), .int (nI (sN (mrel 1 (sN S 31) S) 25)), .ref (ad 719), .ref (ad 720), .ref (ad 721), .ref (ad 722), .ref (ad 723), .ref (ad 724), .int (sI (mrel 1 (sN S 31) S) 600 25), .ref (ad 726), .ref (ad 727), .ref (ad 728), .int (sI (mrel 1 (sN S 31) S) 600 29), .int (nI (sN (mrel 1 (sN S 31) S) 26)), .ref (ad 731), .ref (ad 732), .int (nI (sN (mrel 1 (sN S 31) S) 27)), .int (nI (sN (mrel 1 (sN S 31) S) 28)), .int (nI (sN (mrel 1 (sN S 31) S) 29)), .int (nI (sN (mrel 1 (sN S 31) S) 30)), .ref (ad 737), .int (nI (sN (mrel 1 (sN S 31) S) 31)), .int (nI (sN (mrel 1 (sN S 31) S) 32)), .int (sI (mrel 1 (sN S 31) S) 600 40), .ref (ad 741)])) := hR1.m
                have e32 : sN (mrel 1 (sN S 31) S) 32 = sN S 32 := (mrel_R _ S).2 32 (by decide)
                refine g_aload_nq d_Mo_takesSign_159 rfl 2 rfl ?_
                refine g_dup d_Mo_takesSign_160 rfl ?_
                refine g_get d_Mo_takesSign_161 f_Mo_134_Mo (by assumption) (by first | rfl | assumption) ?_
                refine g_iconst (v := 1) d_Mo_takesSign_164 rfl ?_
                refine g_isub d_Mo_takesSign_165 ?_
                rw [show nI (sN (mrel 1 (sN S 31) S) 31) - 1 = nI (sN (mrel 1 (sN S 31) S) 31 - 1) by rw [show sN (mrel 1 (sN S 31) S) 31 = (sN (mrel 1 (sN S 31) S) 31 - 1) + 1 by omega, nI_pred, Nat.add_sub_cancel]]
                refine g_put d_Mo_takesSign_166 w_Mo_134_Mo (by assumption) (by rfl) (by rfl) (by first | exact Nat.le_of_ble_eq_true rfl | omega) ?_
                refine gen_putN (P := fun z => G w y_Mo_takesSign c_Mo_takesSign 3 r_Mo_takesSign (2, 55) Q _ _ _ z) hR1 hL.rel (n := 31) (by decide) c6N_31 (fun Z2 e2 hR2 hL2 => ?_)
                have hm := zhs_put_same' e2 hm
                simp only [List.set] at hm
                refine g_aload_nq d_Mo_takesSign_169 rfl 2 rfl ?_
                refine g_dup d_Mo_takesSign_170 rfl ?_
                refine g_get d_Mo_takesSign_171 f_Mo_196_Mo (by assumption) (by first | rfl | assumption) ?_
                refine g_iconst (v := 1) d_Mo_takesSign_174 rfl ?_
                refine g_isub d_Mo_takesSign_175 ?_
                rw [show nI (sN (mrel 1 (sN S 31) S) 32) - 1 = nI (sN (mrel 1 (sN S 31) S) 32 - 1) by rw [show sN (mrel 1 (sN S 31) S) 32 = (sN (mrel 1 (sN S 31) S) 32 - 1) + 1 by omega, nI_pred, Nat.add_sub_cancel]]
                refine g_put d_Mo_takesSign_176 w_Mo_196_Mo (by assumption) (by rfl) (by rfl) (by first | exact Nat.le_of_ble_eq_true rfl | omega) ?_
                refine gen_putN (P := fun z => G w y_Mo_takesSign c_Mo_takesSign 3 r_Mo_takesSign (2, 55) Q _ _ _ z) hR2 hL2 (n := 32) (by decide) c6N_32 (fun Z3 e3 hR3 hL3 => ?_)
                have hm := zhs_put_same' e3 hm
                simp only [List.set] at hm
                refine g_aload_nq d_Mo_takesSign_179 rfl 2 rfl ?_
                refine g_iconst (v := 5) d_Mo_takesSign_180 rfl ?_
                refine g_put d_Mo_takesSign_181 w_Mo_184_Mo (by assumption) (by rfl) (by rfl) (by first | exact Nat.le_of_ble_eq_true rfl | omega) ?_
                refine gen_putI (P := fun z => G w y_Mo_takesSign c_Mo_takesSign 3 r_Mo_takesSign (2, 55) Q _ _ _ z) hR3 (i := 600) lv6 c6_40 (fun Z4 e4 hR4 => ?_)
                have hF := hQ Z4 hR4 (by rw [← e4, ← e3, ← e2]; exact B1)
                refine g_iconst (v := 1) d_Mo_takesSign_184 rfl ?_
                refine g_zret d_Mo_takesSign_185 ?_ ?_
                · first | rfl | exact zb_nar _ | exact zb_narc (by assumption)
                · exact hF
              · rw [if_neg (fun z => z.2 h149)] at hQ
                have hF := hQ Z hR rfl
                refine g_iconst (v := 0) d_Mo_takesSign_152 rfl ?_
                refine g_zret d_Mo_takesSign_153 ?_ ?_
                · first | rfl | exact zb_nar _ | exact zb_narc (by assumption)
                · exact hF
          · rw [if_pos (Or.inr h111)] at hQ
            refine g_aload_nq d_Mo_takesSign_114 rfl 2 rfl ?_
            refine g_iload_n d_Mo_takesSign_115 rfl 1 rfl ?_
            refine g_callS d_Mo_takesSign_116 k_Mo_rank l_Mo_137 s_Mo_rank (by rfl) (by rfl) (Nat.le_of_ble_eq_true rfl) (by decide) (C_Mo_rank ⟨_, rfl, ?_⟩)
            refine g_callV d_Mo_takesSign_119 k_Mo_release l_Mo_187 i_Mo_release rfl p_Mo_release hm (by rfl) (by rfl) (Nat.le_of_ble_eq_true rfl) (by decide) (C_Mo_release hR hL hq (fun Z1 hR1 B1 => ⟨_, rfl, ?_⟩))
            have hm : zhs Z1 (ad 600) (.inr (10, [.int (sI (mrel (mrk x) (sN S 31) S) 600 0), .ref (ad 701), .int (nI (sN (mrel (mrk x) (sN S 31) S) 20)), .int (nI (sN (mrel (mrk x) (sN S 31) S) 21)), .int (nI (sN (mrel (mrk x) (sN S 31) S) 22)), .ref (ad 705), .ref (ad 706), .ref (ad 707), .ref (ad 708), .ref (ad 709), .ref (ad 710), .ref (ad 711), .int (nI (sN (mrel (mrk x) (sN S 31) S) 23)), .ref (ad 713), .ref (ad 714), .ref (ad 715), .ref (ad 716), .int (nI (sN (mrel (mrk x) (sN S 31) S) 24)), .int (nI (sN (mrel (mrk x) (sN S 31) S) 25)), .ref (ad 719), .ref (ad 720), .ref (ad 721), .ref (ad 722), .ref (ad 723), .ref (ad 724), .int (sI (mrel (mrk x) (sN S 31) S) 600 25), .ref (ad 726), .ref (ad 727), .ref (ad 728), .int (sI (mrel (mrk x) (sN S 31) S) 600 29), .int (nI (sN (mrel (mrk x) (sN S 31) S) 26)), .ref (ad 731), .ref (ad 732), .int (nI (sN (mrel (mrk x) (sN S 31) S) 27)), .int (nI (sN (mrel (mrk x) (sN S 31) S) 28)), .int (nI (sN (mrel (mrk x) (sN S 31) S) 29)), .int (nI (sN (mrel (mrk x) (sN S 31) S) 30)), .ref (ad 737), .int (nI (sN (mrel (mrk x) (sN S 31) S) 31)), .int (nI (sN (mrel (mrk x) (sN S 31) S) 32)), .int (sI (mrel (mrk x) (sN S 31) S) 600 40), .ref (ad 741)])) := hR1.m
            refine g_aload_nq d_Mo_takesSign_122 rfl 2 rfl ?_
            refine g_iload_n d_Mo_takesSign_123 rfl 1 rfl ?_
            refine g_callV d_Mo_takesSign_124 k_Mo_wait l_Mo_191 i_Mo_wait rfl p_Mo_wait hm (by rfl) (by rfl) (Nat.le_of_ble_eq_true rfl) (by decide) (C_Mo_wait hR1 hL.rel (by have h9 := mrel_31 (x := mrk x) (sN S 31) S rfl; have := hq.2.1; omega) (fun Z2 hR2 B2 => ⟨_, rfl, ?_⟩))
            have hR2 : Rep w ad (mRw S x) Z2 := hR2
            generalize mRw S x = T at *
            have hm : zhs Z2 (ad 600) (.inr (10, [.int (sI T 600 0), .ref (ad 701), .int (nI (sN T 20)), .int (nI (sN T 21)), .int (nI (sN T 22)), .ref (ad 705), .ref (ad 706), .ref (ad 707), .ref (ad 708), .ref (ad 709), .ref (ad 710), .ref (ad 711), .int (nI (sN T 23)), .ref (ad 713), .ref (ad 714), .ref (ad 715), .ref (ad 716), .int (nI (sN T 24)), .int (nI (sN T 25)), .ref (ad 719), .ref (ad 720), .ref (ad 721), .ref (ad 722), .ref (ad 723), .ref (ad 724), .int (sI T 600 25), .ref (ad 726), .ref (ad 727), .ref (ad 728), .int (sI T 600 29), .int (nI (sN T 26)), .ref (ad 731), .ref (ad 732), .int (nI (sN T 27)), .int (nI (sN T 28)), .int (nI (sN T 29)), .int (nI (sN T 30)), .ref (ad 737), .int (nI (sN T 31)), .int (nI (sN T 32)), .int (sI T 600 40), .ref (ad 741)])) := hR2.m
            refine g_aload_nq d_Mo_takesSign_127 rfl 2 rfl ?_
            refine g_iconst (v := 0) d_Mo_takesSign_128 rfl ?_
            refine g_put d_Mo_takesSign_129 w_Mo_184_Mo (by assumption) (by rfl) (by rfl) (by first | exact Nat.le_of_ble_eq_true rfl | omega) ?_
            refine gen_putI (P := fun z => G w y_Mo_takesSign c_Mo_takesSign 3 r_Mo_takesSign (2, 55) Q _ _ _ z) hR2 (i := 600) lv6 c6_40 (fun Z3 e3 hR3 => ?_)
            have hF := hQ Z3 hR3 (by rw [← e3]; exact B2.trans B1)
            refine g_iconst (v := 1) d_Mo_takesSign_132 rfl ?_
            refine g_zret d_Mo_takesSign_133 ?_ ?_
            · first | rfl | exact zb_nar _ | exact zb_narc (by assumption)
            · exact hF
      · rw [if_pos h65] at hQ
        refine g_iload_n d_Mo_takesSign_68 rfl 1 rfl ?_
        refine g_bipush (v := 13) d_Mo_takesSign_69 rfl ?_
        refine g_icmp_lt (tgt := 80) d_Mo_takesSign_71 (by decide) (fun h71 => ?_) (fun h71 => ?_)
        · rw [if_pos (Or.inl h71)] at hQ
          have hF := hQ Z hR rfl
          refine g_iconst (v := 0) d_Mo_takesSign_80 rfl ?_
          refine g_zret d_Mo_takesSign_81 ?_ ?_
          · first | rfl | exact zb_nar _ | exact zb_narc (by assumption)
          · exact hF
        · refine g_iload_n d_Mo_takesSign_74 rfl 1 rfl ?_
          refine g_bipush (v := 18) d_Mo_takesSign_75 rfl ?_
          refine g_icmp_le (tgt := 82) d_Mo_takesSign_77 (by decide) (fun h77 => ?_) (fun h77 => ?_)
          · rw [if_neg (fun z => by rcases z with z | z; exact h71 z; exact z h77)] at hQ
            refine g_aload_nq d_Mo_takesSign_82 rfl 2 rfl ?_
            refine g_iload_n d_Mo_takesSign_83 rfl 1 rfl ?_
            refine g_callS d_Mo_takesSign_84 k_Mo_rank l_Mo_137 s_Mo_rank (by rfl) (by rfl) (Nat.le_of_ble_eq_true rfl) (by decide) (C_Mo_rank ⟨_, rfl, ?_⟩)
            refine g_callV d_Mo_takesSign_87 k_Mo_release l_Mo_187 i_Mo_release rfl p_Mo_release hm (by rfl) (by rfl) (Nat.le_of_ble_eq_true rfl) (by decide) (C_Mo_release hR hL hq (fun Z1 hR1 B1 => ⟨_, rfl, ?_⟩))
            have hm : zhs Z1 (ad 600) (.inr (10, [.int (sI (mrel (mrk x) (sN S 31) S) 600 0), .ref (ad 701), .int (nI (sN (mrel (mrk x) (sN S 31) S) 20)), .int (nI (sN (mrel (mrk x) (sN S 31) S) 21)), .int (nI (sN (mrel (mrk x) (sN S 31) S) 22)), .ref (ad 705), .ref (ad 706), .ref (ad 707), .ref (ad 708), .ref (ad 709), .ref (ad 710), .ref (ad 711), .int (nI (sN (mrel (mrk x) (sN S 31) S) 23)), .ref (ad 713), .ref (ad 714), .ref (ad 715), .ref (ad 716), .int (nI (sN (mrel (mrk x) (sN S 31) S) 24)), .int (nI (sN (mrel (mrk x) (sN S 31) S) 25)), .ref (ad 719), .ref (ad 720), .ref (ad 721), .ref (ad 722), .ref (ad 723), .ref (ad 724), .int (sI (mrel (mrk x) (sN S 31) S) 600 25), .ref (ad 726), .ref (ad 727), .ref (ad 728), .int (sI (mrel (mrk x) (sN S 31) S) 600 29), .int (nI (sN (mrel (mrk x) (sN S 31) S) 26)), .ref (ad 731), .ref (ad 732), .int (nI (sN (mrel (mrk x) (sN S 31) S) 27)), .int (nI (sN (mrel (mrk x) (sN S 31) S) 28)), .int (nI (sN (mrel (mrk x) (sN S 31) S) 29)), .int (nI (sN (mrel (mrk x) (sN S 31) S) 30)), .ref (ad 737), .int (nI (sN (mrel (mrk x) (sN S 31) S) 31)), .int (nI (sN (mrel (mrk x) (sN S 31) S) 32)), .int (sI (mrel (mrk x) (sN S 31) S) 600 40), .ref (ad 741)])) := hR1.m
            refine g_aload_nq d_Mo_takesSign_90 rfl 2 rfl ?_
            refine g_iload_n d_Mo_takesSign_91 rfl 1 rfl ?_
            refine g_callV d_Mo_takesSign_92 k_Mo_wait l_Mo_191 i_Mo_wait rfl p_Mo_wait hm (by rfl) (by rfl) (Nat.le_of_ble_eq_true rfl) (by decide) (C_Mo_wait hR1 hL.rel (by have h9 := mrel_31 (x := mrk x) (sN S 31) S rfl; have := hq.2.1; omega) (fun Z2 hR2 B2 => ⟨_, rfl, ?_⟩))
            have hR2 : Rep w ad (mRw S x) Z2 := hR2
            generalize mRw S x = T at *
            have hm : zhs Z2 (ad 600) (.inr (10, [.int (sI T 600 0), .ref (ad 701), .int (nI (sN T 20)), .int (nI (sN T 21)), .int (nI (sN T 22)), .ref (ad 705), .ref (ad 706), .ref (ad 707), .ref (ad 708), .ref (ad 709), .ref (ad 710), .ref (ad 711), .int (nI (sN T 23)), .ref (ad 713), .ref (ad 714), .ref (ad 715), .ref (ad 716), .int (nI (sN T 24)), .int (nI (sN T 25)), .ref (ad 719), .ref (ad 720), .ref (ad 721), .ref (ad 722), .ref (ad 723), .ref (ad 724), .int (sI T 600 25), .ref (ad 726), .ref (ad 727), .ref (ad 728), .int (sI T 600 29), .int (nI (sN T 26)), .ref (ad 731), .ref (ad 732), .int (nI (sN T 27)), .int (nI (sN T 28)), .int (nI (sN T 29)), .int (nI (sN T 30)), .ref (ad 737), .int (nI (sN T 31)), .int (nI (sN T 32)), .int (sI T 600 40), .ref (ad 741)])) := hR2.m
            refine g_aload_nq d_Mo_takesSign_95 rfl 2 rfl ?_
            refine g_iconst (v := 3) d_Mo_takesSign_96 rfl ?_
            refine g_put d_Mo_takesSign_97 w_Mo_184_Mo (by assumption) (by rfl) (by rfl) (by first | exact Nat.le_of_ble_eq_true rfl | omega) ?_
            refine gen_putI (P := fun z => G w y_Mo_takesSign c_Mo_takesSign 3 r_Mo_takesSign (2, 55) Q _ _ _ z) hR2 (i := 600) lv6 c6_40 (fun Z3 e3 hR3 => ?_)
            have hF := hQ Z3 hR3 (by rw [← e3]; exact B2.trans B1)
            refine g_iconst (v := 1) d_Mo_takesSign_100 rfl ?_
            refine g_zret d_Mo_takesSign_101 ?_ ?_
            · first | rfl | exact zb_nar _ | exact zb_narc (by assumption)
            · exact hF
          · rw [if_pos (Or.inr h77)] at hQ
            have hF := hQ Z hR rfl
            refine g_iconst (v := 0) d_Mo_takesSign_80 rfl ?_
            refine g_zret d_Mo_takesSign_81 ?_ ?_
            · first | rfl | exact zb_nar _ | exact zb_narc (by assumption)
            · exact hF
    · rw [if_pos ⟨h28, h32⟩] at hQ
      refine g_aload_nq d_Mo_takesSign_35 rfl 2 rfl ?_
      refine g_iload_n d_Mo_takesSign_36 rfl 1 rfl ?_
      refine g_callS d_Mo_takesSign_37 k_Mo_rank l_Mo_137 s_Mo_rank (by rfl) (by rfl) (Nat.le_of_ble_eq_true rfl) (by decide) (C_Mo_rank ⟨_, rfl, ?_⟩)
      refine g_callV d_Mo_takesSign_40 k_Mo_release l_Mo_187 i_Mo_release rfl p_Mo_release hm (by rfl) (by rfl) (Nat.le_of_ble_eq_true rfl) (by decide) (C_Mo_release hR hL hq (fun Z1 hR1 B1 => ⟨_, rfl, ?_⟩))
      have hm : zhs Z1 (ad 600) (.inr (10, [.int (sI (mrel (mrk x) (sN S 31) S) 600 0), .ref (ad 701), .int (nI (sN (mrel (mrk x) (sN S 31) S) 20)), .int (nI (sN (mrel (mrk x) (sN S 31) S) 21)), .int (nI (sN (mrel (mrk x) (sN S 31) S) 22)), .ref (ad 705), .ref (ad 706), .ref (ad 707), .ref (ad 708), .ref (ad 709), .ref (ad 710), .ref (ad 711), .int (nI (sN (mrel (mrk x) (sN S 31) S) 23)), .ref (ad 713), .ref (ad 714), .ref (ad 715), .ref (ad 716), .int (nI (sN (mrel (mrk x) (sN S 31) S) 24)), .int (nI (sN (mrel (mrk x) (sN S 31) S) 25)), .ref (ad 719), .ref (ad 720), .ref (ad 721), .ref (ad 722), .ref (ad 723), .ref (ad 724), .int (sI (mrel (mrk x) (sN S 31) S) 600 25), .ref (ad 726), .ref (ad 727), .ref (ad 728), .int (sI (mrel (mrk x) (sN S 31) S) 600 29), .int (nI (sN (mrel (mrk x) (sN S 31) S) 26)), .ref (ad 731), .ref (ad 732), .int (nI (sN (mrel (mrk x) (sN S 31) S) 27)), .int (nI (sN (mrel (mrk x) (sN S 31) S) 28)), .int (nI (sN (mrel (mrk x) (sN S 31) S) 29)), .int (nI (sN (mrel (mrk x) (sN S 31) S) 30)), .ref (ad 737), .int (nI (sN (mrel (mrk x) (sN S 31) S) 31)), .int (nI (sN (mrel (mrk x) (sN S 31) S) 32)), .int (sI (mrel (mrk x) (sN S 31) S) 600 40), .ref (ad 741)])) := hR1.m
      refine g_aload_nq d_Mo_takesSign_43 rfl 2 rfl ?_
      refine g_iload_n d_Mo_takesSign_44 rfl 1 rfl ?_
      refine g_callV d_Mo_takesSign_45 k_Mo_wait l_Mo_191 i_Mo_wait rfl p_Mo_wait hm (by rfl) (by rfl) (Nat.le_of_ble_eq_true rfl) (by decide) (C_Mo_wait hR1 hL.rel (by have h9 := mrel_31 (x := mrk x) (sN S 31) S rfl; have := hq.2.1; omega) (fun Z2 hR2 B2 => ⟨_, rfl, ?_⟩))
      have hR2 : Rep w ad (mRw S x) Z2 := hR2
      generalize mRw S x = T at *
      have hm : zhs Z2 (ad 600) (.inr (10, [.int (sI T 600 0), .ref (ad 701), .int (nI (sN T 20)), .int (nI (sN T 21)), .int (nI (sN T 22)), .ref (ad 705), .ref (ad 706), .ref (ad 707), .ref (ad 708), .ref (ad 709), .ref (ad 710), .ref (ad 711), .int (nI (sN T 23)), .ref (ad 713), .ref (ad 714), .ref (ad 715), .ref (ad 716), .int (nI (sN T 24)), .int (nI (sN T 25)), .ref (ad 719), .ref (ad 720), .ref (ad 721), .ref (ad 722), .ref (ad 723), .ref (ad 724), .int (sI T 600 25), .ref (ad 726), .ref (ad 727), .ref (ad 728), .int (sI T 600 29), .int (nI (sN T 26)), .ref (ad 731), .ref (ad 732), .int (nI (sN T 27)), .int (nI (sN T 28)), .int (nI (sN T 29)), .int (nI (sN T 30)), .ref (ad 737), .int (nI (sN T 31)), .int (nI (sN T 32)), .int (sI T 600 40), .ref (ad 741)])) := hR2.m
      refine g_aload_nq d_Mo_takesSign_48 rfl 2 rfl ?_
      refine g_dup d_Mo_takesSign_49 rfl ?_
      refine g_get d_Mo_takesSign_50 f_Mo_184_Mo (by assumption) (by first | rfl | assumption) ?_
      refine g_iconst (v := 1) d_Mo_takesSign_53 rfl ?_
      refine g_isub d_Mo_takesSign_54 ?_
      refine g_put d_Mo_takesSign_55 w_Mo_184_Mo (by assumption) (by rfl) (by rfl) (by first | exact Nat.le_of_ble_eq_true rfl | omega) ?_
      refine gen_putI (P := fun z => G w y_Mo_takesSign c_Mo_takesSign 3 r_Mo_takesSign (2, 55) Q _ _ _ z) hR2 (i := 600) lv6 c6_40 (fun Z3 e3 hR3 => ?_)
      have hF := hQ Z3 hR3 (by rw [← e3]; exact B2.trans B1)
      refine g_iconst (v := 1) d_Mo_takesSign_58 rfl ?_
      refine g_zret d_Mo_takesSign_59 ?_ ?_
      · first | rfl | exact zb_nar _ | exact zb_narc (by assumption)
      · exact hF
