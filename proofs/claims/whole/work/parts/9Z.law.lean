/-! the law: its script, its comparisons -/
def zScr (w : zC) (b L : Nat) (xs : Nat → Int32) : Prop := ∀ U H, w.2.2.2.2 U H → va_X b L xs U H ∧ b < H.size ∧ ¬ w.2.2.1 b
theorem g_xlen {w : zC} {y : MethodName} {cc : ByteArray} {nL : Nat} {rt : Option FieldType} {d : Nat × Nat} {Post : zR → zZ → Prop} {pc : Nat} {lv : List (Nat × Value)} {rest : List Value} {Z : zZ} {b L : Nat} {xs : Nat → Int32} (hs : zScr w b L xs) (hdg : decode cc pc = .ok (.arraylength, 1)) (k1 : G w y cc nL rt d Post (pc + 1) lv (.int (nI L) :: rest) Z) : G w y cc nL rt d Post pc lv (.ref b :: rest) Z :=
  fun p e R s m args below meth c H locs cells slots ls hx hw hl => va_slen hx.1 hx.2.1 (hs _ _ hw.2.2.1).1 (hs _ _ hw.2.2.1).2.1 (hs _ _ hw.2.2.1).2.2 hw.2.2.2.2.2.2.1 hdg (k1 p e R s m args below meth c H locs cells slots ls hx hw hl)
theorem g_xld {w : zC} {y : MethodName} {cc : ByteArray} {nL : Nat} {rt : Option FieldType} {d : Nat × Nat} {Post : zR → zZ → Prop} {pc : Nat} {lv : List (Nat × Value)} {rest : List Value} {Z : zZ} {b L : Nat} {xs : Nat → Int32} (hs : zScr w b L xs) {i : Nat} (hi : i < L) (hL : L ≤ 3072) (hdg : decode cc pc = .ok (.iaload, 1)) (k1 : G w y cc nL rt d Post (pc + 1) lv (.int (xs i) :: rest) Z) : G w y cc nL rt d Post pc lv (.int (nI i) :: .ref b :: rest) Z :=
  fun p e R s m args below meth c H locs cells slots ls hx hw hl => va_sld hx.1 hx.2.1 (hs _ _ hw.2.2.1).1 (hs _ _ hw.2.2.1).2.1 (hs _ _ hw.2.2.1).2.2 hw.2.2.2.2.2.2.1 (nI_in hi (by omega)) hdg (by rw [nI_clamp (by omega)]; exact k1 p e R s m args below meth c H locs cells slots ls hx hw hl)
theorem g_scr {w : zC} {y : MethodName} {cc : ByteArray} {nL : Nat} {rt : Option FieldType} {d : Nat × Nat} {Post : zR → zZ → Prop} {pc : Nat} {lv : List (Nat × Value)} {rest : List Value} {Z : zZ} {b L n k : Nat} {xs : Nat → Int32} (hs : zScr w b L xs) (hn : 6 * n + 6 ≤ L) (hL : L ≤ 3072) (hk : k < 6) (h1 : decode cc pc = .ok (.iadd, 1)) (h2 : decode cc (pc + 1) = .ok (.iaload, 1)) (k1 : G w y cc nL rt d Post (pc + 1 + 1) lv (.int (xs (6 * n + k)) :: rest) Z) : G w y cc nL rt d Post pc lv (.int (nI k) :: .int (nI (6 * n)) :: .ref b :: rest) Z := by
  refine g_iadd h1 ?_
  rw [nI_add]
  exact g_xld hs (by omega) hL h2 k1
theorem bA {S S' : ST} {Z Z' : zZ} {k : Nat} (h : bAll S Z (3 * (k + 1)) (164 * (k + 1))) (h4 : ∀ m, 4 ≤ m → m ≤ 6 → sN S' m = sN S m) (hc : Z.2.2.1 ≤ Z'.2.2.1 + 3) (hs : Z.2.2.2 ≤ Z'.2.2.2 + 164) : bAll S' Z' (3 * k) (164 * k) := by
  unfold bAll at *
  rw [h4 4 (by omega) (by omega), h4 5 (by omega) (by omega), h4 6 (by omega) (by omega)]
  omega
theorem bP {S : ST} {Z : zZ} {k : Nat} (h : bAll S Z (3 * (k + 1)) (164 * (k + 1))) : 3 ≤ Z.2.2.1 ∧ 164 ≤ Z.2.2.2 := by
  unfold bAll at h
  omega
theorem zE {Z Z' : zZ} (h : Z'.2.2 = Z.2.2) : Z.2.2.1 ≤ Z'.2.2.1 + 3 ∧ Z.2.2.2 ≤ Z'.2.2.2 + 164 := by
  rw [h]
  omega
theorem zP {Z Z' : zZ} (h : Z'.2.2 = (zpay Z 1 6).2.2) : Z.2.2.1 ≤ Z'.2.2.1 + 3 ∧ Z.2.2.2 ≤ Z'.2.2.2 + 164 := by
  have h1 : Z'.2.2.1 = Z.2.2.1 - 1 := by rw [h]; rfl
  have h2 : Z'.2.2.2 = Z.2.2.2 - 6 := by rw [h]; rfl
  omega
theorem mInv.cg {S S' : ST} (h : mInv S) (h9 : sI S' 709 = sI S 709) (h10 : sI S' 710 = sI S 710) (h11 : sI S' 711 = sI S 711) (hN : ∀ m, 20 ≤ m → m ≤ 26 → sN S' m = sN S m) : mInv S' := by
  unfold mInv
  rw [h9, h10, h11, hN 20 (by omega) (by omega), hN 21 (by omega) (by omega), hN 22 (by omega) (by omega), hN 23 (by omega) (by omega), hN 26 (by omega) (by omega)]
  exact h

theorem Tl_table {w : zC} {Post : zR → zZ → Prop} {Z : zZ} {ad : Nat → Nat} {S : ST} {k5 : Int32} {c : Prop} [Decidable c] {v4 v1 v0 : Value} (hR : Rep w ad S Z) (h5 : sI S 600 0 = k5) (ho : k5 = 0 → sJ S 57 0 = zl c) (kont : G w x code 7 ret (14, 510) Post 1217 [(4, v4), (3, .ref (ad 57)), (2, .ref (ad 600)), (1, v1), (0, v0)] [] Z) : G w x code 7 ret (14, 510) Post 171 [(5, .int k5), (4, v4), (3, .ref (ad 57)), (2, .ref (ad 600)), (1, v1), (0, v0)] [.int (zb c)] Z := by
  refine g_istore d_La_law_171 (by decide) rfl ?_
  show G _ _ _ _ _ _ _ _ [(6, _), (5, _), (4, _), (3, _), (2, _), (1, _), (0, _)] _ _
  refine g_aload_nq d_La_law_173 rfl 4 rfl ?_
  refine g_callV d_La_law_174 k_Mo_thrown l_La_71 i_Mo_thrown rfl q_Mo_Mo_thrown_Mo hR.m (by rfl) (by rfl) (Nat.le_of_ble_eq_true rfl) (by decide) (C_Mo_thrown hR ⟨_, rfl, ?_⟩)
  rw [h5]
  refine g_iload d_La_law_177 1 rfl ?_
  refine g_icmp_eq (tgt := 184) d_La_law_179 (by decide) (fun _ => ?_) (fun h9 => absurd rfl h9)
  refine g_iload d_La_law_184 1 rfl ?_
  refine g_if_ne (tgt := 208) d_La_law_186 (by decide) (fun _ => ?_) (fun h0 => ?_)
  · refine g_goto (tgt := 1217) d_La_law_208 (by decide) ?_
    exact g_sub [2, 3, 4, 5, 6] rfl kont
  refine g_aload_nq d_La_law_189 rfl 3 rfl ?_
  refine g_iconst (v := 0) d_La_law_190 rfl ?_
  refine g_lald d_La_law_191 hR.out (nI_in (c := 0) (N := 1) (by omega) (by omega)) ?_
  show G _ _ _ _ _ _ _ _ _ (.long (sJ S 57 0) :: _) _
  rw [ho h0]
  refine g_iload d_La_law_192 0 rfl ?_
  refine g_if_eqB (tgt := 201) d_La_law_194 (by decide) (fun hc => ?_) (fun hc => ?_)
  · refine g_lconst (v := 0) d_La_law_201 rfl ?_
    refine g_lcmp d_La_law_202 ?_
    refine g_if_eq (tgt := 208) d_La_law_203 (by decide) (fun _ => ?_) (fun h9 => absurd (by rw [lg_cmp_eq]; exact if_neg hc) h9)
    refine g_goto (tgt := 1217) d_La_law_208 (by decide) ?_
    exact g_sub [2, 3, 4, 5, 6] rfl kont
  · refine g_lconst (v := 1) d_La_law_197 rfl ?_
    refine g_goto (tgt := 202) d_La_law_198 (by decide) ?_
    refine g_lcmp d_La_law_202 ?_
    refine g_if_eq (tgt := 208) d_La_law_203 (by decide) (fun _ => ?_) (fun h9 => absurd (by rw [lg_cmp_eq]; exact if_pos hc) h9)
    refine g_goto (tgt := 1217) d_La_law_208 (by decide) ?_
    exact g_sub [2, 3, 4, 5, 6] rfl kont
theorem Tl_part {w : zC} {Post : zR → zZ → Prop} {Z : zZ} {ad : Nat → Nat} {S : ST} {k5 : Int32} {u : Int32} {v4 v1 v0 : Value} (hR : Rep w ad S Z) (h5 : sI S 600 0 = k5) (ho : k5 = 0 → sJ S 57 0 = u.toInt64) (kont : G w x code 7 ret (14, 510) Post 1217 [(4, v4), (3, .ref (ad 57)), (2, .ref (ad 600)), (1, v1), (0, v0)] [] Z) : G w x code 7 ret (14, 510) Post 234 [(5, .int k5), (4, v4), (3, .ref (ad 57)), (2, .ref (ad 600)), (1, v1), (0, v0)] [.int u] Z := by
  refine g_istore d_La_law_234 (by decide) rfl ?_
  show G _ _ _ _ _ _ _ _ [(6, _), (5, _), (4, _), (3, _), (2, _), (1, _), (0, _)] _ _
  refine g_aload_nq d_La_law_236 rfl 4 rfl ?_
  refine g_callV d_La_law_237 k_Mo_thrown l_La_71 i_Mo_thrown rfl q_Mo_Mo_thrown_Mo hR.m (by rfl) (by rfl) (Nat.le_of_ble_eq_true rfl) (by decide) (C_Mo_thrown hR ⟨_, rfl, ?_⟩)
  rw [h5]
  refine g_iload d_La_law_240 1 rfl ?_
  refine g_icmp_eq (tgt := 247) d_La_law_242 (by decide) (fun _ => ?_) (fun h9 => absurd rfl h9)
  refine g_iload d_La_law_247 1 rfl ?_
  refine g_if_ne (tgt := 264) d_La_law_249 (by decide) (fun _ => ?_) (fun h0 => ?_)
  · refine g_goto (tgt := 1217) d_La_law_264 (by decide) ?_
    exact g_sub [2, 3, 4, 5, 6] rfl kont
  refine g_aload_nq d_La_law_252 rfl 3 rfl ?_
  refine g_iconst (v := 0) d_La_law_253 rfl ?_
  refine g_lald d_La_law_254 hR.out (nI_in (c := 0) (N := 1) (by omega) (by omega)) ?_
  show G _ _ _ _ _ _ _ _ _ (.long (sJ S 57 0) :: _) _
  rw [ho h0]
  refine g_iload d_La_law_255 0 rfl ?_
  refine g_i2l d_La_law_257 rfl ?_
  refine g_lcmp d_La_law_258 ?_
  refine g_if_eq (tgt := 264) d_La_law_259 (by decide) (fun _ => ?_) (fun h9 => absurd (by rw [lg_cmp_eq]) h9)
  refine g_goto (tgt := 1217) d_La_law_264 (by decide) ?_
  exact g_sub [2, 3, 4, 5, 6] rfl kont
theorem Tl_net {w : zC} {Post : zR → zZ → Prop} {Z : zZ} {ad : Nat → Nat} {S : ST} {k5 : Int32} {u : Int32} {v4 v1 v0 : Value} (hR : Rep w ad S Z) (h5 : sI S 600 0 = k5) (ho : k5 = 0 → sJ S 57 0 = u.toInt64) (kont : G w x code 7 ret (14, 510) Post 1217 [(4, v4), (3, .ref (ad 57)), (2, .ref (ad 600)), (1, v1), (0, v0)] [] Z) : G w x code 7 ret (14, 510) Post 302 [(5, .int k5), (4, v4), (3, .ref (ad 57)), (2, .ref (ad 600)), (1, v1), (0, v0)] [.int u] Z := by
  refine g_istore d_La_law_302 (by decide) rfl ?_
  show G _ _ _ _ _ _ _ _ [(6, _), (5, _), (4, _), (3, _), (2, _), (1, _), (0, _)] _ _
  refine g_aload_nq d_La_law_304 rfl 4 rfl ?_
  refine g_callV d_La_law_305 k_Mo_thrown l_La_71 i_Mo_thrown rfl q_Mo_Mo_thrown_Mo hR.m (by rfl) (by rfl) (Nat.le_of_ble_eq_true rfl) (by decide) (C_Mo_thrown hR ⟨_, rfl, ?_⟩)
  rw [h5]
  refine g_iload d_La_law_308 1 rfl ?_
  refine g_icmp_eq (tgt := 315) d_La_law_310 (by decide) (fun _ => ?_) (fun h9 => absurd rfl h9)
  refine g_iload d_La_law_315 1 rfl ?_
  refine g_if_ne (tgt := 332) d_La_law_317 (by decide) (fun _ => ?_) (fun h0 => ?_)
  · refine g_goto (tgt := 1217) d_La_law_332 (by decide) ?_
    exact g_sub [2, 3, 4, 5, 6] rfl kont
  refine g_aload_nq d_La_law_320 rfl 3 rfl ?_
  refine g_iconst (v := 0) d_La_law_321 rfl ?_
  refine g_lald d_La_law_322 hR.out (nI_in (c := 0) (N := 1) (by omega) (by omega)) ?_
  show G _ _ _ _ _ _ _ _ _ (.long (sJ S 57 0) :: _) _
  rw [ho h0]
  refine g_iload d_La_law_323 0 rfl ?_
  refine g_i2l d_La_law_325 rfl ?_
  refine g_lcmp d_La_law_326 ?_
  refine g_if_eq (tgt := 332) d_La_law_327 (by decide) (fun _ => ?_) (fun h9 => absurd (by rw [lg_cmp_eq]) h9)
  refine g_goto (tgt := 1217) d_La_law_332 (by decide) ?_
  exact g_sub [2, 3, 4, 5, 6] rfl kont
theorem Tl_pin {w : zC} {Post : zR → zZ → Prop} {Z : zZ} {ad : Nat → Nat} {S : ST} {k5 : Int32} {u : Int32} {v4 v1 v0 : Value} (hR : Rep w ad S Z) (h5 : sI S 600 0 = k5) (ho : k5 = 0 → sJ S 57 0 = u.toInt64) (kont : G w x code 7 ret (14, 510) Post 1217 [(4, v4), (3, .ref (ad 57)), (2, .ref (ad 600)), (1, v1), (0, v0)] [] Z) : G w x code 7 ret (14, 510) Post 382 [(5, .int k5), (4, v4), (3, .ref (ad 57)), (2, .ref (ad 600)), (1, v1), (0, v0)] [.int u] Z := by
  refine g_istore d_La_law_382 (by decide) rfl ?_
  show G _ _ _ _ _ _ _ _ [(6, _), (5, _), (4, _), (3, _), (2, _), (1, _), (0, _)] _ _
  refine g_aload_nq d_La_law_384 rfl 4 rfl ?_
  refine g_callV d_La_law_385 k_Mo_thrown l_La_71 i_Mo_thrown rfl q_Mo_Mo_thrown_Mo hR.m (by rfl) (by rfl) (Nat.le_of_ble_eq_true rfl) (by decide) (C_Mo_thrown hR ⟨_, rfl, ?_⟩)
  rw [h5]
  refine g_iload d_La_law_388 1 rfl ?_
  refine g_icmp_eq (tgt := 395) d_La_law_390 (by decide) (fun _ => ?_) (fun h9 => absurd rfl h9)
  refine g_iload d_La_law_395 1 rfl ?_
  refine g_if_ne (tgt := 412) d_La_law_397 (by decide) (fun _ => ?_) (fun h0 => ?_)
  · refine g_goto (tgt := 1217) d_La_law_412 (by decide) ?_
    exact g_sub [2, 3, 4, 5, 6] rfl kont
  refine g_aload_nq d_La_law_400 rfl 3 rfl ?_
  refine g_iconst (v := 0) d_La_law_401 rfl ?_
  refine g_lald d_La_law_402 hR.out (nI_in (c := 0) (N := 1) (by omega) (by omega)) ?_
  show G _ _ _ _ _ _ _ _ _ (.long (sJ S 57 0) :: _) _
  rw [ho h0]
  refine g_iload d_La_law_403 0 rfl ?_
  refine g_i2l d_La_law_405 rfl ?_
  refine g_lcmp d_La_law_406 ?_
  refine g_if_eq (tgt := 412) d_La_law_407 (by decide) (fun _ => ?_) (fun h9 => absurd (by rw [lg_cmp_eq]) h9)
  refine g_goto (tgt := 1217) d_La_law_412 (by decide) ?_
  exact g_sub [2, 3, 4, 5, 6] rfl kont
theorem Tl_join {w : zC} {Post : zR → zZ → Prop} {Z : zZ} {ad : Nat → Nat} {S : ST} {k5 : Int32} {c : Prop} [Decidable c] {v4 v1 v0 : Value} (hR : Rep w ad S Z) (h5 : sI S 600 0 = k5) (ho : k5 = 0 → sJ S 57 0 = zl c) (kont : G w x code 7 ret (14, 510) Post 1217 [(4, v4), (3, .ref (ad 57)), (2, .ref (ad 600)), (1, v1), (0, v0)] [] Z) : G w x code 7 ret (14, 510) Post 450 [(5, .int k5), (4, v4), (3, .ref (ad 57)), (2, .ref (ad 600)), (1, v1), (0, v0)] [.int (zb c)] Z := by
  refine g_istore d_La_law_450 (by decide) rfl ?_
  show G _ _ _ _ _ _ _ _ [(6, _), (5, _), (4, _), (3, _), (2, _), (1, _), (0, _)] _ _
  refine g_aload_nq d_La_law_452 rfl 4 rfl ?_
  refine g_callV d_La_law_453 k_Mo_thrown l_La_71 i_Mo_thrown rfl q_Mo_Mo_thrown_Mo hR.m (by rfl) (by rfl) (Nat.le_of_ble_eq_true rfl) (by decide) (C_Mo_thrown hR ⟨_, rfl, ?_⟩)
  rw [h5]
  refine g_iload d_La_law_456 1 rfl ?_
  refine g_icmp_eq (tgt := 463) d_La_law_458 (by decide) (fun _ => ?_) (fun h9 => absurd rfl h9)
  refine g_iload d_La_law_463 1 rfl ?_
  refine g_if_ne (tgt := 487) d_La_law_465 (by decide) (fun _ => ?_) (fun h0 => ?_)
  · refine g_goto (tgt := 1217) d_La_law_487 (by decide) ?_
    exact g_sub [2, 3, 4, 5, 6] rfl kont
  refine g_aload_nq d_La_law_468 rfl 3 rfl ?_
  refine g_iconst (v := 0) d_La_law_469 rfl ?_
  refine g_lald d_La_law_470 hR.out (nI_in (c := 0) (N := 1) (by omega) (by omega)) ?_
  show G _ _ _ _ _ _ _ _ _ (.long (sJ S 57 0) :: _) _
  rw [ho h0]
  refine g_iload d_La_law_471 0 rfl ?_
  refine g_if_eqB (tgt := 480) d_La_law_473 (by decide) (fun hc => ?_) (fun hc => ?_)
  · refine g_lconst (v := 0) d_La_law_480 rfl ?_
    refine g_lcmp d_La_law_481 ?_
    refine g_if_eq (tgt := 487) d_La_law_482 (by decide) (fun _ => ?_) (fun h9 => absurd (by rw [lg_cmp_eq]; exact if_neg hc) h9)
    refine g_goto (tgt := 1217) d_La_law_487 (by decide) ?_
    exact g_sub [2, 3, 4, 5, 6] rfl kont
  · refine g_lconst (v := 1) d_La_law_476 rfl ?_
    refine g_goto (tgt := 481) d_La_law_477 (by decide) ?_
    refine g_lcmp d_La_law_481 ?_
    refine g_if_eq (tgt := 487) d_La_law_482 (by decide) (fun _ => ?_) (fun h9 => absurd (by rw [lg_cmp_eq]; exact if_pos hc) h9)
    refine g_goto (tgt := 1217) d_La_law_487 (by decide) ?_
    exact g_sub [2, 3, 4, 5, 6] rfl kont
theorem Tl_field {w : zC} {Post : zR → zZ → Prop} {Z : zZ} {ad : Nat → Nat} {S : ST} {k5 : Int32} {c : Prop} [Decidable c] {v4 v1 v0 : Value} (hR : Rep w ad S Z) (h5 : sI S 600 0 = k5) (ho : k5 = 0 → sJ S 57 0 = zl c) (kont : G w x code 7 ret (14, 510) Post 1217 [(4, v4), (3, .ref (ad 57)), (2, .ref (ad 600)), (1, v1), (0, v0)] [] Z) : G w x code 7 ret (14, 510) Post 569 [(5, .int k5), (4, v4), (3, .ref (ad 57)), (2, .ref (ad 600)), (1, v1), (0, v0)] [.int (zb c)] Z := by
  refine g_istore d_La_law_569 (by decide) rfl ?_
  show G _ _ _ _ _ _ _ _ [(6, _), (5, _), (4, _), (3, _), (2, _), (1, _), (0, _)] _ _
  refine g_aload_nq d_La_law_571 rfl 4 rfl ?_
  refine g_callV d_La_law_572 k_Mo_thrown l_La_71 i_Mo_thrown rfl q_Mo_Mo_thrown_Mo hR.m (by rfl) (by rfl) (Nat.le_of_ble_eq_true rfl) (by decide) (C_Mo_thrown hR ⟨_, rfl, ?_⟩)
  rw [h5]
  refine g_iload d_La_law_575 1 rfl ?_
  refine g_icmp_eq (tgt := 582) d_La_law_577 (by decide) (fun _ => ?_) (fun h9 => absurd rfl h9)
  refine g_iload d_La_law_582 1 rfl ?_
  refine g_if_ne (tgt := 606) d_La_law_584 (by decide) (fun _ => ?_) (fun h0 => ?_)
  · refine g_goto (tgt := 1217) d_La_law_606 (by decide) ?_
    exact g_sub [2, 3, 4, 5, 6] rfl kont
  refine g_aload_nq d_La_law_587 rfl 3 rfl ?_
  refine g_iconst (v := 0) d_La_law_588 rfl ?_
  refine g_lald d_La_law_589 hR.out (nI_in (c := 0) (N := 1) (by omega) (by omega)) ?_
  show G _ _ _ _ _ _ _ _ _ (.long (sJ S 57 0) :: _) _
  rw [ho h0]
  refine g_iload d_La_law_590 0 rfl ?_
  refine g_if_eqB (tgt := 599) d_La_law_592 (by decide) (fun hc => ?_) (fun hc => ?_)
  · refine g_lconst (v := 0) d_La_law_599 rfl ?_
    refine g_lcmp d_La_law_600 ?_
    refine g_if_eq (tgt := 606) d_La_law_601 (by decide) (fun _ => ?_) (fun h9 => absurd (by rw [lg_cmp_eq]; exact if_neg hc) h9)
    refine g_goto (tgt := 1217) d_La_law_606 (by decide) ?_
    exact g_sub [2, 3, 4, 5, 6] rfl kont
  · refine g_lconst (v := 1) d_La_law_595 rfl ?_
    refine g_goto (tgt := 600) d_La_law_596 (by decide) ?_
    refine g_lcmp d_La_law_600 ?_
    refine g_if_eq (tgt := 606) d_La_law_601 (by decide) (fun _ => ?_) (fun h9 => absurd (by rw [lg_cmp_eq]; exact if_pos hc) h9)
    refine g_goto (tgt := 1217) d_La_law_606 (by decide) ?_
    exact g_sub [2, 3, 4, 5, 6] rfl kont
theorem Tl_end {w : zC} {Post : zR → zZ → Prop} {Z : zZ} {ad : Nat → Nat} {S : ST} {k5 : Int32} {c : Prop} [Decidable c] {v4 v1 v0 : Value} (hR : Rep w ad S Z) (h5 : sI S 600 0 = k5) (ho : k5 = 0 → sJ S 57 0 = zl c) (kont : G w x code 7 ret (14, 510) Post 1217 [(4, v4), (3, .ref (ad 57)), (2, .ref (ad 600)), (1, v1), (0, v0)] [] Z) : G w x code 7 ret (14, 510) Post 720 [(5, .int k5), (4, v4), (3, .ref (ad 57)), (2, .ref (ad 600)), (1, v1), (0, v0)] [.int (zb c)] Z := by
  refine g_istore d_La_law_720 (by decide) rfl ?_
  show G _ _ _ _ _ _ _ _ [(6, _), (5, _), (4, _), (3, _), (2, _), (1, _), (0, _)] _ _
  refine g_aload_nq d_La_law_722 rfl 4 rfl ?_
  refine g_callV d_La_law_723 k_Mo_thrown l_La_71 i_Mo_thrown rfl q_Mo_Mo_thrown_Mo hR.m (by rfl) (by rfl) (Nat.le_of_ble_eq_true rfl) (by decide) (C_Mo_thrown hR ⟨_, rfl, ?_⟩)
  rw [h5]
  refine g_iload d_La_law_726 1 rfl ?_
  refine g_icmp_eq (tgt := 733) d_La_law_728 (by decide) (fun _ => ?_) (fun h9 => absurd rfl h9)
  refine g_iload d_La_law_733 1 rfl ?_
  refine g_if_ne (tgt := 757) d_La_law_735 (by decide) (fun _ => ?_) (fun h0 => ?_)
  · refine g_goto (tgt := 1217) d_La_law_757 (by decide) ?_
    exact g_sub [2, 3, 4, 5, 6] rfl kont
  refine g_aload_nq d_La_law_738 rfl 3 rfl ?_
  refine g_iconst (v := 0) d_La_law_739 rfl ?_
  refine g_lald d_La_law_740 hR.out (nI_in (c := 0) (N := 1) (by omega) (by omega)) ?_
  show G _ _ _ _ _ _ _ _ _ (.long (sJ S 57 0) :: _) _
  rw [ho h0]
  refine g_iload d_La_law_741 0 rfl ?_
  refine g_if_eqB (tgt := 750) d_La_law_743 (by decide) (fun hc => ?_) (fun hc => ?_)
  · refine g_lconst (v := 0) d_La_law_750 rfl ?_
    refine g_lcmp d_La_law_751 ?_
    refine g_if_eq (tgt := 757) d_La_law_752 (by decide) (fun _ => ?_) (fun h9 => absurd (by rw [lg_cmp_eq]; exact if_neg hc) h9)
    refine g_goto (tgt := 1217) d_La_law_757 (by decide) ?_
    exact g_sub [2, 3, 4, 5, 6] rfl kont
  · refine g_lconst (v := 1) d_La_law_746 rfl ?_
    refine g_goto (tgt := 751) d_La_law_747 (by decide) ?_
    refine g_lcmp d_La_law_751 ?_
    refine g_if_eq (tgt := 757) d_La_law_752 (by decide) (fun _ => ?_) (fun h9 => absurd (by rw [lg_cmp_eq]; exact if_pos hc) h9)
    refine g_goto (tgt := 1217) d_La_law_757 (by decide) ?_
    exact g_sub [2, 3, 4, 5, 6] rfl kont
theorem Tl_rule {w : zC} {Post : zR → zZ → Prop} {Z : zZ} {ad : Nat → Nat} {S : ST} {k5 : Int32} {u : Int32} {v4 v1 v0 : Value} (hR : Rep w ad S Z) (h5 : sI S 600 0 = k5) (ho : k5 = 0 → sJ S 57 0 = u.toInt64) (kont : G w x code 7 ret (14, 510) Post 1217 [(4, v4), (3, .ref (ad 57)), (2, .ref (ad 600)), (1, v1), (0, v0)] [] Z) : G w x code 7 ret (14, 510) Post 796 [(5, .int k5), (4, v4), (3, .ref (ad 57)), (2, .ref (ad 600)), (1, v1), (0, v0)] [.int u] Z := by
  refine g_istore d_La_law_796 (by decide) rfl ?_
  show G _ _ _ _ _ _ _ _ [(6, _), (5, _), (4, _), (3, _), (2, _), (1, _), (0, _)] _ _
  refine g_aload_nq d_La_law_798 rfl 4 rfl ?_
  refine g_callV d_La_law_799 k_Mo_thrown l_La_71 i_Mo_thrown rfl q_Mo_Mo_thrown_Mo hR.m (by rfl) (by rfl) (Nat.le_of_ble_eq_true rfl) (by decide) (C_Mo_thrown hR ⟨_, rfl, ?_⟩)
  rw [h5]
  refine g_iload d_La_law_802 1 rfl ?_
  refine g_icmp_eq (tgt := 809) d_La_law_804 (by decide) (fun _ => ?_) (fun h9 => absurd rfl h9)
  refine g_iload d_La_law_809 1 rfl ?_
  refine g_if_ne (tgt := 826) d_La_law_811 (by decide) (fun _ => ?_) (fun h0 => ?_)
  · refine g_goto (tgt := 1217) d_La_law_826 (by decide) ?_
    exact g_sub [2, 3, 4, 5, 6] rfl kont
  refine g_aload_nq d_La_law_814 rfl 3 rfl ?_
  refine g_iconst (v := 0) d_La_law_815 rfl ?_
  refine g_lald d_La_law_816 hR.out (nI_in (c := 0) (N := 1) (by omega) (by omega)) ?_
  show G _ _ _ _ _ _ _ _ _ (.long (sJ S 57 0) :: _) _
  rw [ho h0]
  refine g_iload d_La_law_817 0 rfl ?_
  refine g_i2l d_La_law_819 rfl ?_
  refine g_lcmp d_La_law_820 ?_
  refine g_if_eq (tgt := 826) d_La_law_821 (by decide) (fun _ => ?_) (fun h9 => absurd (by rw [lg_cmp_eq]) h9)
  refine g_goto (tgt := 1217) d_La_law_826 (by decide) ?_
  exact g_sub [2, 3, 4, 5, 6] rfl kont
theorem Tl_off {w : zC} {Post : zR → zZ → Prop} {Z : zZ} {ad : Nat → Nat} {S : ST} {k5 : Int32} {c : Prop} [Decidable c] {v4 v1 v0 : Value} (hR : Rep w ad S Z) (h5 : sI S 600 0 = k5) (ho : k5 = 0 → sJ S 57 0 = zl c) (kont : G w x code 7 ret (14, 510) Post 1217 [(4, v4), (3, .ref (ad 57)), (2, .ref (ad 600)), (1, v1), (0, v0)] [] Z) : G w x code 7 ret (14, 510) Post 880 [(5, .int k5), (4, v4), (3, .ref (ad 57)), (2, .ref (ad 600)), (1, v1), (0, v0)] [.int (zb c)] Z := by
  refine g_istore d_La_law_880 (by decide) rfl ?_
  show G _ _ _ _ _ _ _ _ [(6, _), (5, _), (4, _), (3, _), (2, _), (1, _), (0, _)] _ _
  refine g_aload_nq d_La_law_882 rfl 4 rfl ?_
  refine g_callV d_La_law_883 k_Mo_thrown l_La_71 i_Mo_thrown rfl q_Mo_Mo_thrown_Mo hR.m (by rfl) (by rfl) (Nat.le_of_ble_eq_true rfl) (by decide) (C_Mo_thrown hR ⟨_, rfl, ?_⟩)
  rw [h5]
  refine g_iload d_La_law_886 1 rfl ?_
  refine g_icmp_eq (tgt := 893) d_La_law_888 (by decide) (fun _ => ?_) (fun h9 => absurd rfl h9)
  refine g_iload d_La_law_893 1 rfl ?_
  refine g_if_ne (tgt := 917) d_La_law_895 (by decide) (fun _ => ?_) (fun h0 => ?_)
  · refine g_goto (tgt := 1217) d_La_law_917 (by decide) ?_
    exact g_sub [2, 3, 4, 5, 6] rfl kont
  refine g_aload_nq d_La_law_898 rfl 3 rfl ?_
  refine g_iconst (v := 0) d_La_law_899 rfl ?_
  refine g_lald d_La_law_900 hR.out (nI_in (c := 0) (N := 1) (by omega) (by omega)) ?_
  show G _ _ _ _ _ _ _ _ _ (.long (sJ S 57 0) :: _) _
  rw [ho h0]
  refine g_iload d_La_law_901 0 rfl ?_
  refine g_if_eqB (tgt := 910) d_La_law_903 (by decide) (fun hc => ?_) (fun hc => ?_)
  · refine g_lconst (v := 0) d_La_law_910 rfl ?_
    refine g_lcmp d_La_law_911 ?_
    refine g_if_eq (tgt := 917) d_La_law_912 (by decide) (fun _ => ?_) (fun h9 => absurd (by rw [lg_cmp_eq]; exact if_neg hc) h9)
    refine g_goto (tgt := 1217) d_La_law_917 (by decide) ?_
    exact g_sub [2, 3, 4, 5, 6] rfl kont
  · refine g_lconst (v := 1) d_La_law_906 rfl ?_
    refine g_goto (tgt := 911) d_La_law_907 (by decide) ?_
    refine g_lcmp d_La_law_911 ?_
    refine g_if_eq (tgt := 917) d_La_law_912 (by decide) (fun _ => ?_) (fun h9 => absurd (by rw [lg_cmp_eq]; exact if_pos hc) h9)
    refine g_goto (tgt := 1217) d_La_law_917 (by decide) ?_
    exact g_sub [2, 3, 4, 5, 6] rfl kont
theorem Tl_remark {w : zC} {Post : zR → zZ → Prop} {Z : zZ} {ad : Nat → Nat} {S : ST} {k5 : Int32} {u : Int32} {v4 v1 v0 : Value} (hR : Rep w ad S Z) (h5 : sI S 600 0 = k5) (ho : k5 = 0 → sJ S 57 0 = u.toInt64) (kont : G w x code 7 ret (14, 510) Post 1217 [(4, v4), (3, .ref (ad 57)), (2, .ref (ad 600)), (1, v1), (0, v0)] [] Z) : G w x code 7 ret (14, 510) Post 968 [(5, .int k5), (4, v4), (3, .ref (ad 57)), (2, .ref (ad 600)), (1, v1), (0, v0)] [.int u] Z := by
  refine g_istore d_La_law_968 (by decide) rfl ?_
  show G _ _ _ _ _ _ _ _ [(6, _), (5, _), (4, _), (3, _), (2, _), (1, _), (0, _)] _ _
  refine g_aload_nq d_La_law_970 rfl 4 rfl ?_
  refine g_callV d_La_law_971 k_Mo_thrown l_La_71 i_Mo_thrown rfl q_Mo_Mo_thrown_Mo hR.m (by rfl) (by rfl) (Nat.le_of_ble_eq_true rfl) (by decide) (C_Mo_thrown hR ⟨_, rfl, ?_⟩)
  rw [h5]
  refine g_iload d_La_law_974 1 rfl ?_
  refine g_icmp_eq (tgt := 981) d_La_law_976 (by decide) (fun _ => ?_) (fun h9 => absurd rfl h9)
  refine g_iload d_La_law_981 1 rfl ?_
  refine g_if_ne (tgt := 998) d_La_law_983 (by decide) (fun _ => ?_) (fun h0 => ?_)
  · refine g_goto (tgt := 1217) d_La_law_998 (by decide) ?_
    exact g_sub [2, 3, 4, 5, 6] rfl kont
  refine g_aload_nq d_La_law_986 rfl 3 rfl ?_
  refine g_iconst (v := 0) d_La_law_987 rfl ?_
  refine g_lald d_La_law_988 hR.out (nI_in (c := 0) (N := 1) (by omega) (by omega)) ?_
  show G _ _ _ _ _ _ _ _ _ (.long (sJ S 57 0) :: _) _
  rw [ho h0]
  refine g_iload d_La_law_989 0 rfl ?_
  refine g_i2l d_La_law_991 rfl ?_
  refine g_lcmp d_La_law_992 ?_
  refine g_if_eq (tgt := 998) d_La_law_993 (by decide) (fun _ => ?_) (fun h9 => absurd (by rw [lg_cmp_eq]) h9)
  refine g_goto (tgt := 1217) d_La_law_998 (by decide) ?_
  exact g_sub [2, 3, 4, 5, 6] rfl kont
theorem Tl_closed {w : zC} {Post : zR → zZ → Prop} {Z : zZ} {ad : Nat → Nat} {S : ST} {k5 : Int32} {u : Int32} {v4 v1 v0 : Value} (hR : Rep w ad S Z) (h5 : sI S 600 0 = k5) (ho : k5 = 0 → sJ S 57 0 = u.toInt64) (kont : G w x code 7 ret (14, 510) Post 1217 [(4, v4), (3, .ref (ad 57)), (2, .ref (ad 600)), (1, v1), (0, v0)] [] Z) : G w x code 7 ret (14, 510) Post 1036 [(5, .int k5), (4, v4), (3, .ref (ad 57)), (2, .ref (ad 600)), (1, v1), (0, v0)] [.int u] Z := by
  refine g_istore d_La_law_1036 (by decide) rfl ?_
  show G _ _ _ _ _ _ _ _ [(6, _), (5, _), (4, _), (3, _), (2, _), (1, _), (0, _)] _ _
  refine g_aload_nq d_La_law_1038 rfl 4 rfl ?_
  refine g_callV d_La_law_1039 k_Mo_thrown l_La_71 i_Mo_thrown rfl q_Mo_Mo_thrown_Mo hR.m (by rfl) (by rfl) (Nat.le_of_ble_eq_true rfl) (by decide) (C_Mo_thrown hR ⟨_, rfl, ?_⟩)
  rw [h5]
  refine g_iload d_La_law_1042 1 rfl ?_
  refine g_icmp_eq (tgt := 1049) d_La_law_1044 (by decide) (fun _ => ?_) (fun h9 => absurd rfl h9)
  refine g_iload d_La_law_1049 1 rfl ?_
  refine g_if_ne (tgt := 1066) d_La_law_1051 (by decide) (fun _ => ?_) (fun h0 => ?_)
  · refine g_goto (tgt := 1217) d_La_law_1066 (by decide) ?_
    exact g_sub [2, 3, 4, 5, 6] rfl kont
  refine g_aload_nq d_La_law_1054 rfl 3 rfl ?_
  refine g_iconst (v := 0) d_La_law_1055 rfl ?_
  refine g_lald d_La_law_1056 hR.out (nI_in (c := 0) (N := 1) (by omega) (by omega)) ?_
  show G _ _ _ _ _ _ _ _ _ (.long (sJ S 57 0) :: _) _
  rw [ho h0]
  refine g_iload d_La_law_1057 0 rfl ?_
  refine g_i2l d_La_law_1059 rfl ?_
  refine g_lcmp d_La_law_1060 ?_
  refine g_if_eq (tgt := 1066) d_La_law_1061 (by decide) (fun _ => ?_) (fun h9 => absurd (by rw [lg_cmp_eq]) h9)
  refine g_goto (tgt := 1217) d_La_law_1066 (by decide) ?_
  exact g_sub [2, 3, 4, 5, 6] rfl kont
theorem Tl_waive {w : zC} {Post : zR → zZ → Prop} {Z : zZ} {ad : Nat → Nat} {S : ST} {k5 : Int32} {c : Prop} [Decidable c] {v4 v1 v0 : Value} (hR : Rep w ad S Z) (h5 : sI S 600 0 = k5) (ho : k5 = 0 → sJ S 57 0 = zl c) (kont : G w x code 7 ret (14, 510) Post 1217 [(4, v4), (3, .ref (ad 57)), (2, .ref (ad 600)), (1, v1), (0, v0)] [] Z) : G w x code 7 ret (14, 510) Post 1128 [(5, .int k5), (4, v4), (3, .ref (ad 57)), (2, .ref (ad 600)), (1, v1), (0, v0)] [.int (zb c)] Z := by
  refine g_istore d_La_law_1128 (by decide) rfl ?_
  show G _ _ _ _ _ _ _ _ [(6, _), (5, _), (4, _), (3, _), (2, _), (1, _), (0, _)] _ _
  refine g_aload_nq d_La_law_1130 rfl 4 rfl ?_
  refine g_callV d_La_law_1131 k_Mo_thrown l_La_71 i_Mo_thrown rfl q_Mo_Mo_thrown_Mo hR.m (by rfl) (by rfl) (Nat.le_of_ble_eq_true rfl) (by decide) (C_Mo_thrown hR ⟨_, rfl, ?_⟩)
  rw [h5]
  refine g_iload d_La_law_1134 1 rfl ?_
  refine g_icmp_eq (tgt := 1141) d_La_law_1136 (by decide) (fun _ => ?_) (fun h9 => absurd rfl h9)
  refine g_iload d_La_law_1141 1 rfl ?_
  refine g_if_ne (tgt := 1165) d_La_law_1143 (by decide) (fun _ => ?_) (fun h0 => ?_)
  · refine g_goto (tgt := 1217) d_La_law_1165 (by decide) ?_
    exact g_sub [2, 3, 4, 5, 6] rfl kont
  refine g_aload_nq d_La_law_1146 rfl 3 rfl ?_
  refine g_iconst (v := 0) d_La_law_1147 rfl ?_
  refine g_lald d_La_law_1148 hR.out (nI_in (c := 0) (N := 1) (by omega) (by omega)) ?_
  show G _ _ _ _ _ _ _ _ _ (.long (sJ S 57 0) :: _) _
  rw [ho h0]
  refine g_iload d_La_law_1149 0 rfl ?_
  refine g_if_eqB (tgt := 1158) d_La_law_1151 (by decide) (fun hc => ?_) (fun hc => ?_)
  · refine g_lconst (v := 0) d_La_law_1158 rfl ?_
    refine g_lcmp d_La_law_1159 ?_
    refine g_if_eq (tgt := 1165) d_La_law_1160 (by decide) (fun _ => ?_) (fun h9 => absurd (by rw [lg_cmp_eq]; exact if_neg hc) h9)
    refine g_goto (tgt := 1217) d_La_law_1165 (by decide) ?_
    exact g_sub [2, 3, 4, 5, 6] rfl kont
  · refine g_lconst (v := 1) d_La_law_1154 rfl ?_
    refine g_goto (tgt := 1159) d_La_law_1155 (by decide) ?_
    refine g_lcmp d_La_law_1159 ?_
    refine g_if_eq (tgt := 1165) d_La_law_1160 (by decide) (fun _ => ?_) (fun h9 => absurd (by rw [lg_cmp_eq]; exact if_pos hc) h9)
    refine g_goto (tgt := 1217) d_La_law_1165 (by decide) ?_
    exact g_sub [2, 3, 4, 5, 6] rfl kont
