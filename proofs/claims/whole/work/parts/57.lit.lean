/-! The methods of a literal -/
theorem g_callVS {w : zC} {y : MethodName} {cc : ByteArray} {nL : Nat} {rt : Option FieldType} {d : Nat × Nat} {Post : zR → zZ → Prop} {pc : Nat} {lv : List (Nat × Value)} {rest : List Value} {Z : zZ} {adK adV : Nat → Nat} (hK : zLit w adK adV) {i k : Nat} {own tx : String} {byt : List Int32} (hi : zLi[i]? = some (own, k, tx, byt)) {d' : Nat × Nat} {y' : MethodName} {cc' : ByteArray} {nL' n idx : Nat} {rt' : Option FieldType} {As st : List Value} (hdg : decode cc pc = .ok (.invokevirtual idx, 3)) (hy : zCall y' cc' nL' rt' n) (hlink : Cond.methodLink y.cls idx y' ∈ wz) (hinst : Cond.instanceMethod y' ∈ wz) (hsel : Cond.selects "java/lang/String" y' y' ∈ wz) (hst : st = As.reverse ++ .ref (adK i) :: rest) (hn : As.length = n) (hsum : (rest.map fun v => v.category).sum ≤ 8) (hd : d'.1 + 1 ≤ d.1 ∧ 19 + nL' + d'.2 ≤ d.2)
    (hC : Cz w d' y' (Cond.code y' cc' nL' rt' :: wz) (.ref (adK i) :: As) Z (zK w y cc nL rt d Post (pc + 3) lv rest)) : G w y cc nL rt d Post pc lv st Z :=
  fun p e R s m args below meth c H locs cells slots ls hx hw hl => by
    intro T hT X
    have hts := hx.2.2.2.2.1
    obtain ⟨cell, g1, g2, g3, -⟩ := ((hK _ _ hw.2.2.1).1 i _ _ _ _ hi).2.1.kept hw.2.2.2.2.2.2.1.2.1
    obtain ⟨v, vm₁, B, hW₁, X', ⟨Z', L, ⟨v', hv', hk⟩, h1, h2, h3, h4, hL, hc9, hn9⟩, st9⟩ := callV X hx.1 (C := "java/lang/String") (bytes := cc') (maxL := nL') (ret := rt') hx.2.2.2.1 (hts _ hlink) (hts _ hinst) (hts _ hsel) (hts _ hy.1) ⟨hy.2.2.1, hy.2.2.2.1⟩ (zBack hd hts hw hy hC) (b := adK i) (by rw [hT]; exact g1) g2 g3 (g := F0 m pc ls st) rfl (hl.1.trans hx.2.2.1.symm) (argsL := As) (rest := rest)
      (fun sig h => by have h5 := hy.2.2.2.2; rw [h] at h5; exact hn.trans (Option.some.inj h5).symm) hst (lv_room hsum) (by rw [hx.2.1]; exact hdg) (fun vm₁ hW₁ => ⟨rfl, hw.2.2.2.2.2.2.2.1, hw.2.2.2.2.2.2.2.2.1, zPre_at hw hT hW₁⟩)
    cases hv'
    obtain ⟨t, a1, b1⟩ := hk p e R s m args below meth c B.U.heap B.locs B.cells B.slots ls hx (hw.back hT h1 h2 h3 h4 hL hc9 hn9) hl B.U rfl X'
    exact ⟨t, st9 t a1, b1⟩

theorem zLi_asc : ∀ r ∈ zLi, r.2.2.2.length ≤ 60 ∧ ∀ b ∈ r.2.2.2, ((b &&& 255).toUInt32 % 65536).toInt32 = b ∧ narrow .char (.int b) = .int b := by decide +kernel
theorem zLi_len {i k : Nat} {own tx : String} {byt : List Int32} (hi : zLi[i]? = some (own, k, tx, byt)) : byt.length ≤ 60 := (zLi_asc _ (List.mem_of_getElem? hi)).1
set_option maxHeartbeats 4000000 in
set_option maxRecDepth 100000 in
theorem C_jS_coder {w : zC} {Z : zZ} {Q : zR → zZ → Prop} {adK adV : Nat → Nat} (hK : zLit w adK adV) {i k : Nat} {own tx : String} {byt : List Int32} (hi : zLi[i]? = some (own, k, tx, byt)) (hQ : Q (.inl (some (.int 0))) Z) : Cz w (0, 0) y_jS_coder (Cond.code y_jS_coder c_jS_coder 1 r_jS_coder :: wz) [.ref (adK i)] Z Q := by
  refine Cz.ofF (by decide +kernel) (by simp [lg_sl, Value.category]) ?_
  show G _ _ _ _ _ _ _ _ [(0, _)] _ _
  refine g_scst hK x_jS_38 d_jS_coder_0 ?_
  first | refine g_if_eqB (tgt := 13) d_jS_coder_3 (by decide) (fun h3 => ?_) (fun h3 => ?_) | refine g_if_eq (tgt := 13) d_jS_coder_3 (by decide) (fun h3 => ?_) (fun h3 => ?_)
  · exact absurd h3 (by decide)
  · refine g_aload_nq d_jS_coder_6 rfl 0 rfl ?_
    refine g_scod hK hi x_jS_15 d_jS_coder_7 ?_
    refine g_goto (tgt := 14) d_jS_coder_10 (by decide) ?_
    refine g_zret d_jS_coder_14 ?_ ?_
    · first | rfl | exact zb_nar _ | exact zb_narc (by assumption)
    · exact hQ

set_option maxHeartbeats 4000000 in
set_option maxRecDepth 100000 in
theorem C_jS_isLatin1 {w : zC} {Z : zZ} {Q : zR → zZ → Prop} {adK adV : Nat → Nat} (hK : zLit w adK adV) {i k : Nat} {own tx : String} {byt : List Int32} (hi : zLi[i]? = some (own, k, tx, byt)) (hQ : Q (.inl (some (.int 1))) Z) : Cz w (0, 0) y_jS_isLatin1 (Cond.code y_jS_isLatin1 c_jS_isLatin1 1 r_jS_isLatin1 :: wz) [.ref (adK i)] Z Q := by
  refine Cz.ofF (by decide +kernel) (by simp [lg_sl, Value.category]) ?_
  show G _ _ _ _ _ _ _ _ [(0, _)] _ _
  refine g_scst hK x_jS_38 d_jS_isLatin1_0 ?_
  first | refine g_if_eqB (tgt := 17) d_jS_isLatin1_3 (by decide) (fun h3 => ?_) (fun h3 => ?_) | refine g_if_eq (tgt := 17) d_jS_isLatin1_3 (by decide) (fun h3 => ?_) (fun h3 => ?_)
  · exact absurd h3 (by decide)
  · refine g_aload_nq d_jS_isLatin1_6 rfl 0 rfl ?_
    refine g_scod hK hi x_jS_15 d_jS_isLatin1_7 ?_
    first | refine g_if_neB (tgt := 17) d_jS_isLatin1_10 (by decide) (fun h10 => ?_) (fun h10 => ?_) | refine g_if_ne (tgt := 17) d_jS_isLatin1_10 (by decide) (fun h10 => ?_) (fun h10 => ?_)
    · exact absurd rfl h10
    · refine g_iconst (v := 1) d_jS_isLatin1_13 rfl ?_
      refine g_goto (tgt := 18) d_jS_isLatin1_14 (by decide) ?_
      refine g_zret d_jS_isLatin1_18 ?_ ?_
      · first | rfl | exact zb_nar _ | exact zb_narc (by assumption)
      · exact hQ

set_option maxHeartbeats 4000000 in
set_option maxRecDepth 100000 in
theorem C_jS_length {w : zC} {Z : zZ} {Q : zR → zZ → Prop} {adK adV : Nat → Nat} (hK : zLit w adK adV) {i k : Nat} {own tx : String} {byt : List Int32} (hi : zLi[i]? = some (own, k, tx, byt)) (hQ : Q (.inl (some (.int (nI byt.length)))) Z) : Cz w (1, 20) y_jS_length (Cond.code y_jS_length c_jS_length 1 r_jS_length :: wz) [.ref (adK i)] Z Q := by
  refine Cz.ofF (by decide +kernel) (by simp [lg_sl, Value.category]) ?_
  show G _ _ _ _ _ _ _ _ [(0, _)] _ _
  refine g_aload_nq d_jS_length_0 rfl 0 rfl ?_
  refine g_sval hK hi x_jS_9 d_jS_length_1 ?_
  refine g_slen hK hi d_jS_length_4 ?_
  refine g_aload_nq d_jS_length_5 rfl 0 rfl ?_
  refine g_callVS hK hi d_jS_length_6 k_jS_coder l_jS_335 i_jS_coder q_jS_jS_coder_jS (by rfl) (by rfl) (Nat.le_of_ble_eq_true rfl) (by decide) (C_jS_coder hK hi ⟨_, rfl, ?_⟩)
  refine g_ishr d_jS_length_9 ?_
  rw [show ((0 : Int32) &&& 31) = 0 from rfl, Int32.shiftRight_zero]
  refine g_iret d_jS_length_10 ?_
  exact hQ

set_option maxHeartbeats 4000000 in
set_option maxRecDepth 100000 in
theorem C_jP_checkIndexN {w : zC} {Z : zZ} {Q : zR → zZ → Prop} {i j o : Nat} (h1' : i < j) (h2 : j < 2 ^ 31) (hQ : Q (.inl (some (.int (nI i)))) Z) : Cz w (0, 0) y_jP_checkIndex (Cond.code y_jP_checkIndex c_jP_checkIndex 3 r_jP_checkIndex :: wz) [.int (nI i), .int (nI j), .null] Z Q := by
  refine Cz.ofF (by decide +kernel) (by simp [lg_sl, Value.category]) ?_
  show G _ _ _ _ _ _ _ _ [(0, _), (1, _), (2, _)] _ _
  refine g_iload_n d_jP_checkIndex_0 rfl 0 rfl ?_
  refine g_if_lt (tgt := 9) d_jP_checkIndex_1 (by decide) (fun h1 => ?_) (fun h1 => ?_)
  · exact absurd h1 (Int32.not_lt.mpr (nI_le (a := 0) (Nat.zero_le i) (by omega)))
  · refine g_iload_n d_jP_checkIndex_4 rfl 0 rfl ?_
    refine g_iload_n d_jP_checkIndex_5 rfl 1 rfl ?_
    refine g_icmp_lt (tgt := 16) d_jP_checkIndex_6 (by decide) (fun h6 => ?_) (fun h6 => ?_)
    · refine g_iload_n d_jP_checkIndex_16 rfl 0 rfl ?_
      refine g_iret d_jP_checkIndex_17 ?_
      exact hQ
    · exact absurd (nI_lt h1' h2) h6

set_option maxHeartbeats 4000000 in
set_option maxRecDepth 100000 in
theorem C_jP_checkIndexR {w : zC} {Z : zZ} {Q : zR → zZ → Prop} {i j o : Nat} (h1' : i < j) (h2 : j < 2 ^ 31) (hQ : Q (.inl (some (.int (nI i)))) Z) : Cz w (0, 0) y_jP_checkIndex (Cond.code y_jP_checkIndex c_jP_checkIndex 3 r_jP_checkIndex :: wz) [.int (nI i), .int (nI j), .ref o] Z Q := by
  refine Cz.ofF (by decide +kernel) (by simp [lg_sl, Value.category]) ?_
  show G _ _ _ _ _ _ _ _ [(0, _), (1, _), (2, _)] _ _
  refine g_iload_n d_jP_checkIndex_0 rfl 0 rfl ?_
  refine g_if_lt (tgt := 9) d_jP_checkIndex_1 (by decide) (fun h1 => ?_) (fun h1 => ?_)
  · exact absurd h1 (Int32.not_lt.mpr (nI_le (a := 0) (Nat.zero_le i) (by omega)))
  · refine g_iload_n d_jP_checkIndex_4 rfl 0 rfl ?_
    refine g_iload_n d_jP_checkIndex_5 rfl 1 rfl ?_
    refine g_icmp_lt (tgt := 16) d_jP_checkIndex_6 (by decide) (fun h6 => ?_) (fun h6 => ?_)
    · refine g_iload_n d_jP_checkIndex_16 rfl 0 rfl ?_
      refine g_iret d_jP_checkIndex_17 ?_
      exact hQ
    · exact absurd (nI_lt h1' h2) h6

theorem C_jP_checkIndex {w : zC} {Z : zZ} {Q : zR → zZ → Prop} {o : Option Nat} {i j : Nat} (h1 : i < j) (h2 : j < 2 ^ 31) (hQ : Q (.inl (some (.int (nI i)))) Z) : Cz w (0, 0) y_jP_checkIndex (Cond.code y_jP_checkIndex c_jP_checkIndex 3 r_jP_checkIndex :: wz) [.int (nI i), .int (nI j), va_rf o] Z Q := by
  cases o with
  | none => exact C_jP_checkIndexN (o := 0) h1 h2 hQ
  | some o => exact C_jP_checkIndexR h1 h2 hQ

set_option maxHeartbeats 4000000 in
set_option maxRecDepth 100000 in
theorem C_jS_checkIndex {w : zC} {Z : zZ} {Q : zR → zZ → Prop} {adK adV : Nat → Nat} (hK : zLit w adK adV) {i j : Nat} (h1 : i < j) (h2 : j < 2 ^ 31) (hQ : Q (.inl none) Z) : Cz w (1, 22) y_jS_checkIndex (Cond.code y_jS_checkIndex c_jS_checkIndex 2 r_jS_checkIndex :: wz) [.int (nI i), .int (nI j)] Z Q := by
  refine Cz.ofF (by decide +kernel) (by simp [lg_sl, Value.category]) ?_
  show G _ _ _ _ _ _ _ _ [(0, _), (1, _)] _ _
  refine g_iload_n d_jS_checkIndex_0 rfl 0 rfl ?_
  refine g_iload_n d_jS_checkIndex_1 rfl 1 rfl ?_
  refine g_sfmt hK x_jS_1053 d_jS_checkIndex_2 (fun o => ?_)
  refine g_callS d_jS_checkIndex_5 k_jP_checkIndex l_jS_1059 s_jP_checkIndex (by rfl) (by rfl) (Nat.le_of_ble_eq_true rfl) (by decide) (C_jP_checkIndex h1 h2 ⟨_, rfl, ?_⟩)
  refine g_pop d_jS_checkIndex_8 rfl ?_
  refine g_vret d_jS_checkIndex_9 ?_
  exact hQ

set_option maxHeartbeats 4000000 in
set_option maxRecDepth 100000 in
theorem C_jL_charAt {w : zC} {Z : zZ} {Q : zR → zZ → Prop} {adK adV : Nat → Nat} (hK : zLit w adK adV) {i k : Nat} {own tx : String} {byt : List Int32} (hi : zLi[i]? = some (own, k, tx, byt)) {x : Nat} (hx : x < byt.length) (hQ : Q (.inl (some (.int (byt.getD x 0)))) Z) : Cz w (2, 43) y_jL_charAt (Cond.code y_jL_charAt c_jL_charAt 2 r_jL_charAt :: wz) [.ref (adV i), .int (nI x)] Z Q := by
  refine Cz.ofF (by decide +kernel) (by simp [lg_sl, Value.category]) ?_
  show G _ _ _ _ _ _ _ _ [(0, _), (1, _)] _ _
  refine g_iload_n d_jL_charAt_0 rfl 1 rfl ?_
  refine g_aload_nq d_jL_charAt_1 rfl 0 rfl ?_
  refine g_slen hK hi d_jL_charAt_2 ?_
  refine g_callS d_jL_charAt_3 k_jS_checkIndex l_jL_9 s_jS_checkIndex (by rfl) (by rfl) (Nat.le_of_ble_eq_true rfl) (by decide) (C_jS_checkIndex hK hx (by have := zLi_len hi; omega) ⟨_, rfl, ?_⟩)
  refine g_aload_nq d_jL_charAt_6 rfl 0 rfl ?_
  refine g_iload_n d_jL_charAt_7 rfl 1 rfl ?_
  refine g_sbyt hK hi (vp_in_nI hx (by have := zLi_len hi; omega)) d_jL_charAt_8 ?_
  rw [nI_clamp (by have := zLi_len hi; omega)]
  have hA := (zLi_asc _ (List.mem_of_getElem? hi)).2 (byt.getD x 0) (by rw [List.getD_eq_getElem?_getD, List.getElem?_eq_getElem hx]; exact List.getElem_mem hx)
  refine g_sipush (v := 255) d_jL_charAt_9 rfl ?_
  refine g_iand d_jL_charAt_12 ?_
  refine g_i2c d_jL_charAt_13 hA.1 ?_
  refine g_zret d_jL_charAt_14 ?_ ?_
  · exact hA.2
  · exact hQ

set_option maxHeartbeats 4000000 in
set_option maxRecDepth 100000 in
theorem C_jS_charAt {w : zC} {Z : zZ} {Q : zR → zZ → Prop} {adK adV : Nat → Nat} (hK : zLit w adK adV) {i k : Nat} {own tx : String} {byt : List Int32} (hi : zLi[i]? = some (own, k, tx, byt)) {x : Nat} (hx : x < byt.length) (hQ : Q (.inl (some (.int (byt.getD x 0)))) Z) : Cz w (3, 64) y_jS_charAt (Cond.code y_jS_charAt c_jS_charAt 2 r_jS_charAt :: wz) [.ref (adK i), .int (nI x)] Z Q := by
  refine Cz.ofF (by decide +kernel) (by simp [lg_sl, Value.category]) ?_
  show G _ _ _ _ _ _ _ _ [(0, _), (1, _)] _ _
  refine g_aload_nq d_jS_charAt_0 rfl 0 rfl ?_
  refine g_callVS hK hi d_jS_charAt_1 k_jS_isLatin1 l_jS_492 i_jS_isLatin1 q_jS_jS_isLatin1_jS (by rfl) (by rfl) (Nat.le_of_ble_eq_true rfl) (by decide) (C_jS_isLatin1 hK hi ⟨_, rfl, ?_⟩)
  first | refine g_if_eqB (tgt := 16) d_jS_charAt_4 (by decide) (fun h4 => ?_) (fun h4 => ?_) | refine g_if_eq (tgt := 16) d_jS_charAt_4 (by decide) (fun h4 => ?_) (fun h4 => ?_)
  · exact absurd h4 (by decide)
  · refine g_aload_nq d_jS_charAt_7 rfl 0 rfl ?_
    refine g_sval hK hi x_jS_9 d_jS_charAt_8 ?_
    refine g_iload_n d_jS_charAt_11 rfl 1 rfl ?_
    refine g_callS d_jS_charAt_12 k_jL_charAt l_jS_495 s_jL_charAt (by rfl) (by rfl) (Nat.le_of_ble_eq_true rfl) (by decide) (C_jL_charAt hK hi hx ⟨_, rfl, ?_⟩)
    refine g_zret d_jS_charAt_15 ?_ ?_
    · exact ((zLi_asc _ (List.mem_of_getElem? hi)).2 (byt.getD x 0) (by rw [List.getD_eq_getElem?_getD, List.getElem?_eq_getElem hx]; exact List.getElem_mem hx)).2
    · exact hQ
