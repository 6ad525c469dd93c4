/-! The String literals -/
def zLi : List (String × Nat × String × List Int32) := [
  ("PinKindChecks", 70, "no such kind", [110, 111, 32, 115, 117, 99, 104, 32, 107, 105, 110, 100]),
  ("PinKindChecks", 77, "no verdict", [110, 111, 32, 118, 101, 114, 100, 105, 99, 116]),
  ("PinKindChecks", 84, "no such sheet", [110, 111, 32, 115, 117, 99, 104, 32, 115, 104, 101, 101, 116]),
  ("PinKindChecks", 90, "no name", [110, 111, 32, 110, 97, 109, 101]),
  ("PinKindChecks", 104, "no such part or net", [110, 111, 32, 115, 117, 99, 104, 32, 112, 97, 114, 116, 32, 111, 114, 32, 110, 101, 116]),
  ("PinKindChecks", 106, "no kind", [110, 111, 32, 107, 105, 110, 100]),
  ("PinKindChecks", 120, "no such pin or net", [110, 111, 32, 115, 117, 99, 104, 32, 112, 105, 110, 32, 111, 114, 32, 110, 101, 116]),
  ("PinKindChecks", 128, "no such part or field", [110, 111, 32, 115, 117, 99, 104, 32, 112, 97, 114, 116, 32, 111, 114, 32, 102, 105, 101, 108, 100]),
  ("PinKindChecks", 136, "no such net", [110, 111, 32, 115, 117, 99, 104, 32, 110, 101, 116]),
  ("PinKindChecks", 147, "no more rules can be told", [110, 111, 32, 109, 111, 114, 101, 32, 114, 117, 108, 101, 115, 32, 99, 97, 110, 32, 98, 101, 32, 116, 111, 108, 100]),
  ("PinKindChecks$RuleReader", 116, "part", [112, 97, 114, 116]),
  ("PinKindChecks$RuleReader", 122, "net", [110, 101, 116]),
  ("PinKindChecks$RuleReader", 124, "pin", [112, 105, 110]),
  ("PinKindChecks$RuleReader", 126, "warn", [119, 97, 114, 110]),
  ("PinKindChecks$RuleReader", 128, "error", [101, 114, 114, 111, 114]),
  ("PinKindChecks$RuleReader", 130, "not", [110, 111, 116]),
  ("PinKindChecks$RuleReader", 135, "(", [40]),
  ("PinKindChecks$RuleReader", 148, "any", [97, 110, 121]),
  ("PinKindChecks$RuleReader", 172, "sheet", [115, 104, 101, 101, 116]),
  ("PinKindChecks$RuleReader", 174, "pins", [112, 105, 110, 115]),
  ("PinKindChecks$RuleReader", 176, "kind", [107, 105, 110, 100]),
  ("PinKindChecks$RuleReader", 178, "name", [110, 97, 109, 101]),
  ("PinKindChecks$RuleReader", 200, "or", [111, 114]),
  ("PinKindChecks$RuleReader", 202, "and", [97, 110, 100]),
  ("PinKindChecks$RuleReader", 204, "<=", [60, 61]),
  ("PinKindChecks$RuleReader", 206, ">=", [62, 61]),
  ("PinKindChecks$RuleReader", 137, ")", [41]),
  ("PinKindChecks", 167, "no such rule", [110, 111, 32, 115, 117, 99, 104, 32, 114, 117, 108, 101]),
  ("PinKindChecks", 190, "no such remark or part of it", [110, 111, 32, 115, 117, 99, 104, 32, 114, 101, 109, 97, 114, 107, 32, 111, 114, 32, 112, 97, 114, 116, 32, 111, 102, 32, 105, 116]),
  ("PinKindChecks", 207, "no such closed remark or part of it", [110, 111, 32, 115, 117, 99, 104, 32, 99, 108, 111, 115, 101, 100, 32, 114, 101, 109, 97, 114, 107, 32, 111, 114, 32, 112, 97, 114, 116, 32, 111, 102, 32, 105, 116]),
  ("PinKindChecks", 213, "no such rule, kind or thing", [110, 111, 32, 115, 117, 99, 104, 32, 114, 117, 108, 101, 44, 32, 107, 105, 110, 100, 32, 111, 114, 32, 116, 104, 105, 110, 103]),
  ("PinKindChecks", 215, "no reason", [110, 111, 32, 114, 101, 97, 115, 111, 110])]
def zKS (adK adV : Nat → Nat) (A : Nat → Prop) (U : State) (H : Heap) : Prop :=
  (∀ (i : Nat) (own : String) (k : Nat) (tx : String) (byt : List Int32), zLi[i]? = some (own, k, tx, byt) → vk_R own k tx (adK i) U ∧ va_O "java/lang/String" (adK i) A U H ∧ va_OF "java/lang/String" "coder" "B" (.int 0) (adK i) A U H ∧ va_OF "java/lang/String" "value" "[B" (.ref (adV i)) (adK i) A U H ∧ va_T .byte (adV i) byt.length (fun j => .int (byt.getD j 0)) A U H) ∧
  va_Z "java/lang/String" "COMPACT_STRINGS" "Z" (.int 1) A U H ∧ va_Zq "jdk/internal/util/Preconditions" "SIOOBE_FORMATTER" "Ljava/util/function/BiFunction;" A U H
theorem zKS.keep {adK adV : Nat → Nat} {A : Nat → Prop} {U U' : State} {H H' : Heap} (hW : U.WarmedH U'.vm) (hq : ∀ q : Nat, q < H.size → ¬ A q → H'[q]? = H[q]?) (h : zKS adK adV A U H) : zKS adK adV A U' H' := by
  refine ⟨fun i own k tx byt hi => ?_, (va_Z.moved hW.alike h.2.1).kept hq, (va_Zq.moved hW.alike h.2.2).kept hq⟩
  obtain ⟨a, b, c, d, e⟩ := h.1 i own k tx byt hi
  exact ⟨a.warm hW, (va_O.moved hW.alike b).kept hq, (va_OF.moved hW.alike c).kept hq, (va_OF.moved hW.alike d).kept hq, (va_T.moved hW.alike e).kept hq⟩
def zLit (w : zC) (adK adV : Nat → Nat) : Prop := ∀ U H, w.2.2.2.2 U H → zKS adK adV w.2.2.1 U H
theorem g_ldcS {w : zC} {y : MethodName} {cc : ByteArray} {nL : Nat} {rt : Option FieldType} {d : Nat × Nat} {Post : zR → zZ → Prop} {pc : Nat} {lv : List (Nat × Value)} {rest : List Value} {Z : zZ} {adK adV : Nat → Nat} (hK : zLit w adK adV) {i index : Nat} {tx : String} {byt : List Int32} (hi : zLi[i]? = some (y.cls, index, tx, byt)) (hdg : decode cc pc = .ok (.ldc index, 2)) (k1 : G w y cc nL rt d Post (pc + 2) lv (.ref (adK i) :: rest) Z) : G w y cc nL rt d Post pc lv rest Z :=
  fun p e R s m args below meth c H locs cells slots ls hx hw hl => va_ldcS hx.1 hx.2.1 hx.2.2.2.1 ((hK _ _ hw.2.2.1).1 i _ _ _ _ hi).1 hdg (k1 p e R s m args below meth c H locs cells slots ls hx hw hl)
theorem g_sval {w : zC} {y : MethodName} {cc : ByteArray} {nL : Nat} {rt : Option FieldType} {d : Nat × Nat} {Post : zR → zZ → Prop} {pc : Nat} {lv : List (Nat × Value)} {rest : List Value} {Z : zZ} {adK adV : Nat → Nat} (hK : zLit w adK adV) {i index k : Nat} {own tx : String} {byt : List Int32} (hi : zLi[i]? = some (own, k, tx, byt)) (hlink : Cond.fieldLink y.cls index "java/lang/String" "value" "[B" ∈ wz) (hdg : decode cc pc = .ok (.getfield index, 3)) (k1 : G w y cc nL rt d Post (pc + 3) lv (.ref (adV i) :: rest) Z) : G w y cc nL rt d Post pc lv (.ref (adK i) :: rest) Z :=
  fun p e R s m args below meth c H locs cells slots ls hx hw hl => vk_getf hx.1 hx.2.1 ((hK _ _ hw.2.2.1).1 i _ _ _ _ hi).2.2.2.1 hw.2.2.2.2.2.2.1 hx.2.2.2.1 (hx.2.2.2.2.1 _ hlink) (fun _ h => h) hdg (k1 p e R s m args below meth c H locs cells slots ls hx hw hl)
theorem g_scod {w : zC} {y : MethodName} {cc : ByteArray} {nL : Nat} {rt : Option FieldType} {d : Nat × Nat} {Post : zR → zZ → Prop} {pc : Nat} {lv : List (Nat × Value)} {rest : List Value} {Z : zZ} {adK adV : Nat → Nat} (hK : zLit w adK adV) {i index k : Nat} {own tx : String} {byt : List Int32} (hi : zLi[i]? = some (own, k, tx, byt)) (hlink : Cond.fieldLink y.cls index "java/lang/String" "coder" "B" ∈ wz) (hdg : decode cc pc = .ok (.getfield index, 3)) (k1 : G w y cc nL rt d Post (pc + 3) lv (.int 0 :: rest) Z) : G w y cc nL rt d Post pc lv (.ref (adK i) :: rest) Z :=
  fun p e R s m args below meth c H locs cells slots ls hx hw hl => vk_getf hx.1 hx.2.1 ((hK _ _ hw.2.2.1).1 i _ _ _ _ hi).2.2.1 hw.2.2.2.2.2.2.1 hx.2.2.2.1 (hx.2.2.2.2.1 _ hlink) (fun _ h => h) hdg (k1 p e R s m args below meth c H locs cells slots ls hx hw hl)
theorem g_slen {w : zC} {y : MethodName} {cc : ByteArray} {nL : Nat} {rt : Option FieldType} {d : Nat × Nat} {Post : zR → zZ → Prop} {pc : Nat} {lv : List (Nat × Value)} {rest : List Value} {Z : zZ} {adK adV : Nat → Nat} (hK : zLit w adK adV) {i k : Nat} {own tx : String} {byt : List Int32} (hi : zLi[i]? = some (own, k, tx, byt)) (hdg : decode cc pc = .ok (.arraylength, 1)) (k1 : G w y cc nL rt d Post (pc + 1) lv (.int (nI byt.length) :: rest) Z) : G w y cc nL rt d Post pc lv (.ref (adV i) :: rest) Z :=
  fun p e R s m args below meth c H locs cells slots ls hx hw hl => va_tlen hx.1 hx.2.1 ((hK _ _ hw.2.2.1).1 i _ _ _ _ hi).2.2.2.2 hw.2.2.2.2.2.2.1 rfl hdg (k1 p e R s m args below meth c H locs cells slots ls hx hw hl)
theorem g_sbyt {w : zC} {y : MethodName} {cc : ByteArray} {nL : Nat} {rt : Option FieldType} {d : Nat × Nat} {Post : zR → zZ → Prop} {pc : Nat} {lv : List (Nat × Value)} {rest : List Value} {Z : zZ} {adK adV : Nat → Nat} (hK : zLit w adK adV) {i k : Nat} {own tx : String} {byt : List Int32} {x : Int32} (hi : zLi[i]? = some (own, k, tx, byt)) (hin : vp_in x byt.length) (hdg : decode cc pc = .ok (.baload, 1)) (k1 : G w y cc nL rt d Post (pc + 1) lv (.int (byt.getD x.toNatClampNeg 0) :: rest) Z) : G w y cc nL rt d Post pc lv (.int x :: .ref (adV i) :: rest) Z :=
  fun p e R s m args below meth c H locs cells slots ls hx hw hl => va_tb hx.1 hx.2.1 ((hK _ _ hw.2.2.1).1 i _ _ _ _ hi).2.2.2.2 hw.2.2.2.2.2.2.1 hin rfl hdg (k1 p e R s m args below meth c H locs cells slots ls hx hw hl)
theorem g_scst {w : zC} {y : MethodName} {cc : ByteArray} {nL : Nat} {rt : Option FieldType} {d : Nat × Nat} {Post : zR → zZ → Prop} {pc : Nat} {lv : List (Nat × Value)} {rest : List Value} {Z : zZ} {adK adV : Nat → Nat} (hK : zLit w adK adV) {index : Nat} (hlink : Cond.fieldLink y.cls index "java/lang/String" "COMPACT_STRINGS" "Z" ∈ wz) (hdg : decode cc pc = .ok (.getstatic index, 3)) (k1 : G w y cc nL rt d Post (pc + 3) lv (.int 1 :: rest) Z) : G w y cc nL rt d Post pc lv rest Z :=
  fun p e R s m args below meth c H locs cells slots ls hx hw hl => va_gets hx.1 hx.2.1 (hK _ _ hw.2.2.1).2.1 hw.2.2.2.2.2.2.1 hx.2.2.2.1 (hx.2.2.2.2.1 _ hlink) (fun _ h => h) hdg (k1 p e R s m args below meth c H locs cells slots ls hx hw hl)
theorem g_sfmt {w : zC} {y : MethodName} {cc : ByteArray} {nL : Nat} {rt : Option FieldType} {d : Nat × Nat} {Post : zR → zZ → Prop} {pc : Nat} {lv : List (Nat × Value)} {rest : List Value} {Z : zZ} {adK adV : Nat → Nat} (hK : zLit w adK adV) {index : Nat} (hlink : Cond.fieldLink y.cls index "jdk/internal/util/Preconditions" "SIOOBE_FORMATTER" "Ljava/util/function/BiFunction;" ∈ wz) (hdg : decode cc pc = .ok (.getstatic index, 3)) (k1 : ∀ o : Option Nat, G w y cc nL rt d Post (pc + 3) lv (va_rf o :: rest) Z) : G w y cc nL rt d Post pc lv rest Z :=
  fun p e R s m args below meth c H locs cells slots ls hx hw hl => by
    rcases (hK _ _ hw.2.2.1).2.2 with h9 | ⟨t, h9⟩
    · exact va_gets hx.1 hx.2.1 h9 hw.2.2.2.2.2.2.1 hx.2.2.2.1 (hx.2.2.2.2.1 _ hlink) (fun _ h => h) hdg (k1 none p e R s m args below meth c H locs cells slots ls hx hw hl)
    · exact va_gets hx.1 hx.2.1 h9 hw.2.2.2.2.2.2.1 hx.2.2.2.1 (hx.2.2.2.2.1 _ hlink) (fun _ h => h) hdg (k1 (some t) p e R s m args below meth c H locs cells slots ls hx hw hl)
