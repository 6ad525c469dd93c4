/-! What the reader takes: the pure side, and the words without a term -/
theorem zl_0 : zLi[0]? = some ("PinKindChecks", 70, "no such kind", [110, 111, 32, 115, 117, 99, 104, 32, 107, 105, 110, 100]) := rfl
theorem zl_1 : zLi[1]? = some ("PinKindChecks", 77, "no verdict", [110, 111, 32, 118, 101, 114, 100, 105, 99, 116]) := rfl
theorem zl_2 : zLi[2]? = some ("PinKindChecks", 84, "no such sheet", [110, 111, 32, 115, 117, 99, 104, 32, 115, 104, 101, 101, 116]) := rfl
theorem zl_3 : zLi[3]? = some ("PinKindChecks", 90, "no name", [110, 111, 32, 110, 97, 109, 101]) := rfl
theorem zl_4 : zLi[4]? = some ("PinKindChecks", 104, "no such part or net", [110, 111, 32, 115, 117, 99, 104, 32, 112, 97, 114, 116, 32, 111, 114, 32, 110, 101, 116]) := rfl
theorem zl_5 : zLi[5]? = some ("PinKindChecks", 106, "no kind", [110, 111, 32, 107, 105, 110, 100]) := rfl
theorem zl_6 : zLi[6]? = some ("PinKindChecks", 120, "no such pin or net", [110, 111, 32, 115, 117, 99, 104, 32, 112, 105, 110, 32, 111, 114, 32, 110, 101, 116]) := rfl
theorem zl_7 : zLi[7]? = some ("PinKindChecks", 128, "no such part or field", [110, 111, 32, 115, 117, 99, 104, 32, 112, 97, 114, 116, 32, 111, 114, 32, 102, 105, 101, 108, 100]) := rfl
theorem zl_8 : zLi[8]? = some ("PinKindChecks", 136, "no such net", [110, 111, 32, 115, 117, 99, 104, 32, 110, 101, 116]) := rfl
theorem zl_9 : zLi[9]? = some ("PinKindChecks", 147, "no more rules can be told", [110, 111, 32, 109, 111, 114, 101, 32, 114, 117, 108, 101, 115, 32, 99, 97, 110, 32, 98, 101, 32, 116, 111, 108, 100]) := rfl
theorem zl_10 : zLi[10]? = some ("PinKindChecks$RuleReader", 116, "part", [112, 97, 114, 116]) := rfl
theorem zl_11 : zLi[11]? = some ("PinKindChecks$RuleReader", 122, "net", [110, 101, 116]) := rfl
theorem zl_12 : zLi[12]? = some ("PinKindChecks$RuleReader", 124, "pin", [112, 105, 110]) := rfl
theorem zl_13 : zLi[13]? = some ("PinKindChecks$RuleReader", 126, "warn", [119, 97, 114, 110]) := rfl
theorem zl_14 : zLi[14]? = some ("PinKindChecks$RuleReader", 128, "error", [101, 114, 114, 111, 114]) := rfl
theorem zl_15 : zLi[15]? = some ("PinKindChecks$RuleReader", 130, "not", [110, 111, 116]) := rfl
theorem zl_16 : zLi[16]? = some ("PinKindChecks$RuleReader", 135, "(", [40]) := rfl
theorem zl_17 : zLi[17]? = some ("PinKindChecks$RuleReader", 148, "any", [97, 110, 121]) := rfl
theorem zl_18 : zLi[18]? = some ("PinKindChecks$RuleReader", 172, "sheet", [115, 104, 101, 101, 116]) := rfl
theorem zl_19 : zLi[19]? = some ("PinKindChecks$RuleReader", 174, "pins", [112, 105, 110, 115]) := rfl
theorem zl_20 : zLi[20]? = some ("PinKindChecks$RuleReader", 176, "kind", [107, 105, 110, 100]) := rfl
theorem zl_21 : zLi[21]? = some ("PinKindChecks$RuleReader", 178, "name", [110, 97, 109, 101]) := rfl
theorem zl_22 : zLi[22]? = some ("PinKindChecks$RuleReader", 200, "or", [111, 114]) := rfl
theorem zl_23 : zLi[23]? = some ("PinKindChecks$RuleReader", 202, "and", [97, 110, 100]) := rfl
theorem zl_24 : zLi[24]? = some ("PinKindChecks$RuleReader", 204, "<=", [60, 61]) := rfl
theorem zl_25 : zLi[25]? = some ("PinKindChecks$RuleReader", 206, ">=", [62, 61]) := rfl
theorem zl_26 : zLi[26]? = some ("PinKindChecks$RuleReader", 137, ")", [41]) := rfl
theorem zl_27 : zLi[27]? = some ("PinKindChecks", 167, "no such rule", [110, 111, 32, 115, 117, 99, 104, 32, 114, 117, 108, 101]) := rfl
theorem zl_28 : zLi[28]? = some ("PinKindChecks", 190, "no such remark or part of it", [110, 111, 32, 115, 117, 99, 104, 32, 114, 101, 109, 97, 114, 107, 32, 111, 114, 32, 112, 97, 114, 116, 32, 111, 102, 32, 105, 116]) := rfl
theorem zl_29 : zLi[29]? = some ("PinKindChecks", 207, "no such closed remark or part of it", [110, 111, 32, 115, 117, 99, 104, 32, 99, 108, 111, 115, 101, 100, 32, 114, 101, 109, 97, 114, 107, 32, 111, 114, 32, 112, 97, 114, 116, 32, 111, 102, 32, 105, 116]) := rfl
theorem zl_30 : zLi[30]? = some ("PinKindChecks", 213, "no such rule, kind or thing", [110, 111, 32, 115, 117, 99, 104, 32, 114, 117, 108, 101, 44, 32, 107, 105, 110, 100, 32, 111, 114, 32, 116, 104, 105, 110, 103]) := rfl
theorem zl_31 : zLi[31]? = some ("PinKindChecks", 215, "no reason", [110, 111, 32, 114, 101, 97, 115, 111, 110]) := rfl
def w3 (S : ST) (k : Nat) (x : Int32) : ST := wI S 3 (va_up (sI S 3) k x)
def rdI (S : ST) : Prop := sN S 9 ≤ 160 ∧ sN S 10 ≤ sN S 11 ∧ sN S 11 ≤ sN S 9 ∧ (∀ k, narrow .char (.int (sI S 16 k)) = .int (sI S 16 k)) ∧ ciLive S ∧ sN S 12 ≤ 80 ∧ sN S 13 ≤ 80 ∧ sN S 14 ≤ 80 ∧ sN S 15 ≤ 8
theorem Rep.put3 {w : zC} {ad : Nat → Nat} {S : ST} {Z : zZ} (h : Rep w ad S Z) (k : Nat) (x : Int32) : Rep w ad (w3 S k x) (zput Z (ad 3) (.inr (3, [.ref (ad 17), .ref (ad 18), .ref (ad 19), .ref (ad 2), .int (nI (sN S 12)), .int (nI (sN S 13)), .int (nI (sN S 14)), .int (va_up (sI S 3) k x 7), .int (nI (sN S 15)), .int (va_up (sI S 3) k x 9), .int (va_up (sI S 3) k x 10), .int (va_up (sI S 3) k x 11)]))) :=
  h.putI (i := 3) (f := va_up (sI S 3) k x) (Or.inl (by decide)) (by
    rw [cell_K (by decide)]
    show (.inr (3, [.ref (ad 17), .ref (ad 18), .ref (ad 19), .ref (ad 2), .int (nI (sN S 12)), .int (nI (sN S 13)), .int (nI (sN S 14)), .int (va_up S.1 3 (va_up (sI S 3) k x) 3 7), .int (nI (sN S 15)), .int (va_up S.1 3 (va_up (sI S 3) k x) 3 9), .int (va_up S.1 3 (va_up (sI S 3) k x) 3 10), .int (va_up S.1 3 (va_up (sI S 3) k x) 3 11)]) : va_E) = _
    rw [va_up_self])
def tkQ (w : zC) (ad : Nat → Nat) (S : ST) (Z : zZ) (Q : zR → zZ → Prop) (r : Option ST) : Prop := ∀ Z', Rep w ad (r.getD S) Z' → Z'.2.2 = Z.2.2 → Q (.inl (some (.int (zb (r.isSome = true))))) Z'
theorem is_none {r : Option ST} (h : ¬ r.isSome = true) : r = none := by cases r with
  | none => rfl
  | some _ => exact absurd rfl h
abbrev bhc (S : ST) : Prop := sI S 3 7 = 6 ∨ (sI S 3 7 = 5 ∧ ¬ sI S 3 9 = 0)
def wl (S : ST) : Int32 := nI (sN S 11 - sN S 10)
def ltW (S : ST) (i : Nat) : Int32 := if sN S 10 + i < sN S 11 then sI S 16 (sN S 10 + i) else 32
def offO (S : ST) (x : Int32) : ST := if sN S 13 < 80 then wN (wI S 19 (upd (sI S 19) (sN S 13) x)) 13 (sN S 13 + 1) else S
def trm (S : ST) (x y : Int32) : ST := w3 (putO S x y) 7 5
def tSub (S : ST) : Option ST := if wdIs (sI S 16) (sN S 10) (sN S 11) [112, 97, 114, 116] then some (w3 (w3 S 10 0) 7 1) else if wdIs (sI S 16) (sN S 10) (sN S 11) [110, 101, 116] then some (w3 (w3 S 10 1) 7 1) else if wdIs (sI S 16) (sN S 10) (sN S 11) [112, 105, 110] then some (w3 (w3 S 10 2) 7 1) else none
def tWei (S : ST) : Option ST := if wdIs (sI S 16) (sN S 10) (sN S 11) [119, 97, 114, 110] then some (w3 (w3 S 11 1) 7 2) else if wdIs (sI S 16) (sN S 10) (sN S 11) [101, 114, 114, 111, 114] then some (w3 (w3 S 11 2) 7 2) else none
def tNot (S : ST) : Option ST := if wdIs (sI S 16) (sN S 10) (sN S 11) [110, 111, 116] then some (offO S 3) else none
def tOpn (S : ST) : Option ST := if wdIs (sI S 16) (sN S 10) (sN S 11) [40] ∧ sN S 15 < 8 then some (offO (wN S 15 (sN S 15 + 1)) 0) else none
def tCls (S : ST) : Option ST := if wdIs (sI S 16) (sN S 10) (sN S 11) [41] ∧ 0 < sN S 15 ∧ bhc S then some (w3 (wN (podF 1 (sN S 13) (wN S 15 (sN S 15 - 1))) 13 (sN (podF 1 (sN S 13) (wN S 15 (sN S 15 - 1))) 13 - 1)) 7 6) else none
def numF (S : ST) : Nat → Nat → Int32 → Option Int32
  | 0, _, v => some v
  | n + 1, i, v => if dgt (ltW S i) = -1 then none else numF S n (i + 1) (v * 10 + dgt (ltW S i))
def tNum (S : ST) : Option ST := if wl S ≤ 9 then (numF S (sN S 11 - sN S 10) 0 0).map (trm S 13) else none
def tFld (S : ST) : Option ST := if ¬ sI S 3 10 = 1 ∧ wl S = 2 ∧ ltW S 0 = 102 ∧ ¬ dgt (ltW S 1) < 0 ∧ ¬ 8 ≤ dgt (ltW S 1) then some (trm S 14 (dgt (ltW S 1))) else none
def tKnd (S : ST) : Option ST := if wl S = 1 ∧ ¬ dgt (ltW S 0) = -1 then some (trm S 19 (dgt (ltW S 0))) else none
def plT (S : ST) : Int32 := if wdIs (sI S 16) (sN S 10) (sN S 11) [115, 104, 101, 101, 116] then 18 else if ¬ sI S 3 10 = 2 ∧ wdIs (sI S 16) (sN S 10) (sN S 11) [112, 105, 110, 115] then 15 else if sI S 3 10 = 2 ∧ wdIs (sI S 16) (sN S 10) (sN S 11) [107, 105, 110, 100] then 16 else if ¬ sI S 3 10 = 0 ∧ wdIs (sI S 16) (sN S 10) (sN S 11) [110, 97, 109, 101] then 17 else -1
def tTrm (S : ST) : Option ST := (tNum S).or ((tFld S).or (if ¬ sI S 3 10 = 2 ∧ wdIs (sI S 16) (sN S 10) (sN S 11) [97, 110, 121] then some (w3 S 7 4) else if plT S = -1 then none else some (trm S (plT S) 0)))
def opL (x : Int32) : Int32 := if x = 35 then 5 else if x = 42 then 12 else if x = 43 then 10 else if x = 45 then 11 else if x = 60 then 6 else if x = 61 then 4 else if x = 62 then 7 else -1
def opW (S : ST) : Int32 := if wl S = 1 then opL (ltW S 0) else if wdIs (sI S 16) (sN S 10) (sN S 11) [111, 114] then 1 else if wdIs (sI S 16) (sN S 10) (sN S 11) [97, 110, 100] then 2 else if wdIs (sI S 16) (sN S 10) (sN S 11) [60, 61] then 8 else if wdIs (sI S 16) (sN S 10) (sN S 11) [62, 61] then 9 else -1
def opS (S : ST) (x : Int32) : Option ST := if (x = 1 ∨ x = 2) ∧ bhc S then some (w3 (w3 S 9 0) 7 2) else if (¬ x < 4 ∧ ¬ 9 < x) ∧ sI S 3 7 = 5 ∧ sI S 3 9 = 0 then some (w3 (w3 S 9 1) 7 3) else if (¬ x < 10 ∧ ¬ 12 < x) ∧ sI S 3 7 = 5 then some (w3 S 7 3) else none
def tOp (S : ST) : Option ST := (opS S (opW S)).map fun S1 => offO (podF (opW S) (sN S1 13) S1) (opW S)
def tWd (S : ST) : Option ST := if sI S 3 7 = 0 then tSub S else if sI S 3 7 = 1 then tWei S else if sI S 3 7 = 2 then (tNot S).or ((tOpn S).or (tTrm S)) else if sI S 3 7 = 3 then tTrm S else if sI S 3 7 = 4 then tKnd S else (tOp S).or (tCls S)
set_option maxHeartbeats 4000000 in
set_option maxRecDepth 100000 in
theorem C_Rd_takeSubject {w : zC} {Z : zZ} {Q : zR → zZ → Prop} {ad : Nat → Nat} {S : ST} (hR : Rep w ad S Z) {adK adV : Nat → Nat} (hK : zLit w adK adV) (hI : rdI S) (hQ : tkQ w ad S Z Q (tSub S)) : Cz w (5, 107) y_Rd_takeSubject (Cond.code y_Rd_takeSubject c_Rd_takeSubject 1 r_Rd_takeSubject :: wz) [.ref (ad 3)] Z Q := by
  refine Cz.of (by decide +kernel) (by simp [lg_sl, Value.category]) ?_
  show G _ _ _ _ _ _ _ _ [(0, _)] _ _
  have h3 : zhs Z (ad 3) (.inr (3, [.ref (ad 17), .ref (ad 18), .ref (ad 19), .ref (ad 2), .int (nI (sN S 12)), .int (nI (sN S 13)), .int (nI (sN S 14)), .int (sI S 3 7), .int (nI (sN S 15)), .int (sI S 3 9), .int (sI S 3 10), .int (sI S 3 11)])) := hR.k 3 (by decide)
  have h2 : zhs Z (ad 2) (.inr (2, [.ref (ad 16), .int (nI (sN S 9)), .int (nI (sN S 10)), .int (nI (sN S 11))])) := hR.k 2 (by decide)
  have h16 : zhs Z (ad 16) (xc w 160 (sI S 16)) := hR.k 16 (by decide)
  refine g_aload_nq d_Rd_takeSubject_0 rfl 0 rfl ?_
  refine g_get d_Rd_takeSubject_1 f_Rd_24_Rd (by assumption) (by first | rfl | assumption) ?_
  refine g_ldcS hK zl_10 d_Rd_takeSubject_4 ?_
  refine g_callV d_Rd_takeSubject_6 k_Tx_wordIs l_Rd_118 i_Tx_wordIs rfl q_Tx_Tx_wordIs_Tx h2 (by rfl) (by rfl) (Nat.le_of_ble_eq_true rfl) (by decide) (C_Tx_wordIs h2 h16 hI.1 hI.2.1 hI.2.2.1 hI.2.2.2.1 hK zl_10 ⟨_, rfl, ?_⟩)
  first | refine g_if_eqB (tgt := 20) d_Rd_takeSubject_9 (by decide) (fun h9 => ?_) (fun h9 => ?_) | refine g_if_eq (tgt := 20) d_Rd_takeSubject_9 (by decide) (fun h9 => ?_) (fun h9 => ?_)
  · rw [tSub, if_neg h9] at hQ
    refine g_aload_nq d_Rd_takeSubject_20 rfl 0 rfl ?_
    refine g_get d_Rd_takeSubject_21 f_Rd_24_Rd (by assumption) (by first | rfl | assumption) ?_
    refine g_ldcS hK zl_11 d_Rd_takeSubject_24 ?_
    refine g_callV d_Rd_takeSubject_26 k_Tx_wordIs l_Rd_118 i_Tx_wordIs rfl q_Tx_Tx_wordIs_Tx h2 (by rfl) (by rfl) (Nat.le_of_ble_eq_true rfl) (by decide) (C_Tx_wordIs h2 h16 hI.1 hI.2.1 hI.2.2.1 hI.2.2.2.1 hK zl_11 ⟨_, rfl, ?_⟩)
    first | refine g_if_eqB (tgt := 40) d_Rd_takeSubject_29 (by decide) (fun h29 => ?_) (fun h29 => ?_) | refine g_if_eq (tgt := 40) d_Rd_takeSubject_29 (by decide) (fun h29 => ?_) (fun h29 => ?_)
    · rw [if_neg h29] at hQ
      refine g_aload_nq d_Rd_takeSubject_40 rfl 0 rfl ?_
      refine g_get d_Rd_takeSubject_41 f_Rd_24_Rd (by assumption) (by first | rfl | assumption) ?_
      refine g_ldcS hK zl_12 d_Rd_takeSubject_44 ?_
      refine g_callV d_Rd_takeSubject_46 k_Tx_wordIs l_Rd_118 i_Tx_wordIs rfl q_Tx_Tx_wordIs_Tx h2 (by rfl) (by rfl) (Nat.le_of_ble_eq_true rfl) (by decide) (C_Tx_wordIs h2 h16 hI.1 hI.2.1 hI.2.2.1 hI.2.2.2.1 hK zl_12 ⟨_, rfl, ?_⟩)
      first | refine g_if_eqB (tgt := 60) d_Rd_takeSubject_49 (by decide) (fun h49 => ?_) (fun h49 => ?_) | refine g_if_eq (tgt := 60) d_Rd_takeSubject_49 (by decide) (fun h49 => ?_) (fun h49 => ?_)
      · rw [if_neg h49] at hQ
        refine g_iconst (v := 0) d_Rd_takeSubject_60 rfl ?_
        refine g_zret d_Rd_takeSubject_61 ?_ ?_
        · first | rfl | exact zb_nar _ | exact zb_narc (by assumption)
        · exact hQ Z hR rfl
      · rw [if_pos h49] at hQ
        refine g_aload_nq d_Rd_takeSubject_52 rfl 0 rfl ?_
        refine g_iconst (v := 2) d_Rd_takeSubject_53 rfl ?_
        refine g_put d_Rd_takeSubject_54 w_Rd_48_Rd (by assumption) (by first | rfl | exact zb_nar _) (by first | rfl | exact zb_fit _ | exact zrf_fit _) (by first | exact Nat.le_of_ble_eq_true rfl | omega) ?_
        have hR1 := hR.put3 10 (2)
        generalize e1 : zput _ _ _ = Z1
        have hR1 : Rep w ad (w3 S 10 (2)) Z1 := by rw [← e1]; exact hR1
        have B1 : Z1.2.2 = Z.2.2 := by rw [← e1]; rfl
        generalize f1 : w3 S 10 (2) = S1 at hR1 hQ
        have h3 : zhs Z1 (ad 3) (.inr (3, [.ref (ad 17), .ref (ad 18), .ref (ad 19), .ref (ad 2), .int (nI (sN S1 12)), .int (nI (sN S1 13)), .int (nI (sN S1 14)), .int (sI S1 3 7), .int (nI (sN S1 15)), .int (sI S1 3 9), .int (sI S1 3 10), .int (sI S1 3 11)])) := hR1.k 3 (by decide)
        refine g_goto (tgt := 62) d_Rd_takeSubject_57 (by decide) ?_
        refine g_aload_nq d_Rd_takeSubject_62 rfl 0 rfl ?_
        refine g_iconst (v := 1) d_Rd_takeSubject_63 rfl ?_
        refine g_put d_Rd_takeSubject_64 w_Rd_38_Rd (by assumption) (by first | rfl | exact zb_nar _) (by first | rfl | exact zb_fit _ | exact zrf_fit _) (by first | exact Nat.le_of_ble_eq_true rfl | omega) ?_
        have hR2 := hR1.put3 7 (1)
        generalize e2 : zput _ _ _ = Z2
        have hR2 : Rep w ad (w3 S1 7 (1)) Z2 := by rw [← e2]; exact hR2
        have B2 : Z2.2.2 = Z1.2.2 := by rw [← e2]; rfl
        generalize f2 : w3 S1 7 (1) = S2 at hR2 hQ
        have h3 : zhs Z2 (ad 3) (.inr (3, [.ref (ad 17), .ref (ad 18), .ref (ad 19), .ref (ad 2), .int (nI (sN S2 12)), .int (nI (sN S2 13)), .int (nI (sN S2 14)), .int (sI S2 3 7), .int (nI (sN S2 15)), .int (sI S2 3 9), .int (sI S2 3 10), .int (sI S2 3 11)])) := hR2.k 3 (by decide)
        refine g_iconst (v := 1) d_Rd_takeSubject_67 rfl ?_
        refine g_zret d_Rd_takeSubject_68 ?_ ?_
        · first | rfl | exact zb_nar _ | exact zb_narc (by assumption)
        · exact hQ Z2 hR2 (B2.trans B1)
    · rw [if_pos h29] at hQ
      refine g_aload_nq d_Rd_takeSubject_32 rfl 0 rfl ?_
      refine g_iconst (v := 1) d_Rd_takeSubject_33 rfl ?_
      refine g_put d_Rd_takeSubject_34 w_Rd_48_Rd (by assumption) (by first | rfl | exact zb_nar _) (by first | rfl | exact zb_fit _ | exact zrf_fit _) (by first | exact Nat.le_of_ble_eq_true rfl | omega) ?_
      have hR1 := hR.put3 10 (1)
      generalize e1 : zput _ _ _ = Z1
      have hR1 : Rep w ad (w3 S 10 (1)) Z1 := by rw [← e1]; exact hR1
      have B1 : Z1.2.2 = Z.2.2 := by rw [← e1]; rfl
      generalize f1 : w3 S 10 (1) = S1 at hR1 hQ
      have h3 : zhs Z1 (ad 3) (.inr (3, [.ref (ad 17), .ref (ad 18), .ref (ad 19), .ref (ad 2), .int (nI (sN S1 12)), .int (nI (sN S1 13)), .int (nI (sN S1 14)), .int (sI S1 3 7), .int (nI (sN S1 15)), .int (sI S1 3 9), .int (sI S1 3 10), .int (sI S1 3 11)])) := hR1.k 3 (by decide)
      refine g_goto (tgt := 62) d_Rd_takeSubject_37 (by decide) ?_
      refine g_aload_nq d_Rd_takeSubject_62 rfl 0 rfl ?_
      refine g_iconst (v := 1) d_Rd_takeSubject_63 rfl ?_
      refine g_put d_Rd_takeSubject_64 w_Rd_38_Rd (by assumption) (by first | rfl | exact zb_nar _) (by first | rfl | exact zb_fit _ | exact zrf_fit _) (by first | exact Nat.le_of_ble_eq_true rfl | omega) ?_
      have hR2 := hR1.put3 7 (1)
      generalize e2 : zput _ _ _ = Z2
      have hR2 : Rep w ad (w3 S1 7 (1)) Z2 := by rw [← e2]; exact hR2
      have B2 : Z2.2.2 = Z1.2.2 := by rw [← e2]; rfl
      generalize f2 : w3 S1 7 (1) = S2 at hR2 hQ
      have h3 : zhs Z2 (ad 3) (.inr (3, [.ref (ad 17), .ref (ad 18), .ref (ad 19), .ref (ad 2), .int (nI (sN S2 12)), .int (nI (sN S2 13)), .int (nI (sN S2 14)), .int (sI S2 3 7), .int (nI (sN S2 15)), .int (sI S2 3 9), .int (sI S2 3 10), .int (sI S2 3 11)])) := hR2.k 3 (by decide)
      refine g_iconst (v := 1) d_Rd_takeSubject_67 rfl ?_
      refine g_zret d_Rd_takeSubject_68 ?_ ?_
      · first | rfl | exact zb_nar _ | exact zb_narc (by assumption)
      · exact hQ Z2 hR2 (B2.trans B1)
  · rw [tSub, if_pos h9] at hQ
    refine g_aload_nq d_Rd_takeSubject_12 rfl 0 rfl ?_
    refine g_iconst (v := 0) d_Rd_takeSubject_13 rfl ?_
    refine g_put d_Rd_takeSubject_14 w_Rd_48_Rd (by assumption) (by first | rfl | exact zb_nar _) (by first | rfl | exact zb_fit _ | exact zrf_fit _) (by first | exact Nat.le_of_ble_eq_true rfl | omega) ?_
    have hR1 := hR.put3 10 (0)
    generalize e1 : zput _ _ _ = Z1
    have hR1 : Rep w ad (w3 S 10 (0)) Z1 := by rw [← e1]; exact hR1
    have B1 : Z1.2.2 = Z.2.2 := by rw [← e1]; rfl
    generalize f1 : w3 S 10 (0) = S1 at hR1 hQ
    have h3 : zhs Z1 (ad 3) (.inr (3, [.ref (ad 17), .ref (ad 18), .ref (ad 19), .ref (ad 2), .int (nI (sN S1 12)), .int (nI (sN S1 13)), .int (nI (sN S1 14)), .int (sI S1 3 7), .int (nI (sN S1 15)), .int (sI S1 3 9), .int (sI S1 3 10), .int (sI S1 3 11)])) := hR1.k 3 (by decide)
    refine g_goto (tgt := 62) d_Rd_takeSubject_17 (by decide) ?_
    refine g_aload_nq d_Rd_takeSubject_62 rfl 0 rfl ?_
    refine g_iconst (v := 1) d_Rd_takeSubject_63 rfl ?_
    refine g_put d_Rd_takeSubject_64 w_Rd_38_Rd (by assumption) (by first | rfl | exact zb_nar _) (by first | rfl | exact zb_fit _ | exact zrf_fit _) (by first | exact Nat.le_of_ble_eq_true rfl | omega) ?_
    have hR2 := hR1.put3 7 (1)
    generalize e2 : zput _ _ _ = Z2
    have hR2 : Rep w ad (w3 S1 7 (1)) Z2 := by rw [← e2]; exact hR2
    have B2 : Z2.2.2 = Z1.2.2 := by rw [← e2]; rfl
    generalize f2 : w3 S1 7 (1) = S2 at hR2 hQ
    have h3 : zhs Z2 (ad 3) (.inr (3, [.ref (ad 17), .ref (ad 18), .ref (ad 19), .ref (ad 2), .int (nI (sN S2 12)), .int (nI (sN S2 13)), .int (nI (sN S2 14)), .int (sI S2 3 7), .int (nI (sN S2 15)), .int (sI S2 3 9), .int (sI S2 3 10), .int (sI S2 3 11)])) := hR2.k 3 (by decide)
    refine g_iconst (v := 1) d_Rd_takeSubject_67 rfl ?_
    refine g_zret d_Rd_takeSubject_68 ?_ ?_
    · first | rfl | exact zb_nar _ | exact zb_narc (by assumption)
    · exact hQ Z2 hR2 (B2.trans B1)

set_option maxHeartbeats 4000000 in
set_option maxRecDepth 100000 in
theorem C_Rd_takeWeight {w : zC} {Z : zZ} {Q : zR → zZ → Prop} {ad : Nat → Nat} {S : ST} (hR : Rep w ad S Z) {adK adV : Nat → Nat} (hK : zLit w adK adV) (hI : rdI S) (hQ : tkQ w ad S Z Q (tWei S)) : Cz w (5, 107) y_Rd_takeWeight (Cond.code y_Rd_takeWeight c_Rd_takeWeight 1 r_Rd_takeWeight :: wz) [.ref (ad 3)] Z Q := by
  refine Cz.of (by decide +kernel) (by simp [lg_sl, Value.category]) ?_
  show G _ _ _ _ _ _ _ _ [(0, _)] _ _
  have h3 : zhs Z (ad 3) (.inr (3, [.ref (ad 17), .ref (ad 18), .ref (ad 19), .ref (ad 2), .int (nI (sN S 12)), .int (nI (sN S 13)), .int (nI (sN S 14)), .int (sI S 3 7), .int (nI (sN S 15)), .int (sI S 3 9), .int (sI S 3 10), .int (sI S 3 11)])) := hR.k 3 (by decide)
  have h2 : zhs Z (ad 2) (.inr (2, [.ref (ad 16), .int (nI (sN S 9)), .int (nI (sN S 10)), .int (nI (sN S 11))])) := hR.k 2 (by decide)
  have h16 : zhs Z (ad 16) (xc w 160 (sI S 16)) := hR.k 16 (by decide)
  refine g_aload_nq d_Rd_takeWeight_0 rfl 0 rfl ?_
  refine g_get d_Rd_takeWeight_1 f_Rd_24_Rd (by assumption) (by first | rfl | assumption) ?_
  refine g_ldcS hK zl_13 d_Rd_takeWeight_4 ?_
  refine g_callV d_Rd_takeWeight_6 k_Tx_wordIs l_Rd_118 i_Tx_wordIs rfl q_Tx_Tx_wordIs_Tx h2 (by rfl) (by rfl) (Nat.le_of_ble_eq_true rfl) (by decide) (C_Tx_wordIs h2 h16 hI.1 hI.2.1 hI.2.2.1 hI.2.2.2.1 hK zl_13 ⟨_, rfl, ?_⟩)
  first | refine g_if_eqB (tgt := 20) d_Rd_takeWeight_9 (by decide) (fun h9 => ?_) (fun h9 => ?_) | refine g_if_eq (tgt := 20) d_Rd_takeWeight_9 (by decide) (fun h9 => ?_) (fun h9 => ?_)
  · rw [tWei, if_neg h9] at hQ
    refine g_aload_nq d_Rd_takeWeight_20 rfl 0 rfl ?_
    refine g_get d_Rd_takeWeight_21 f_Rd_24_Rd (by assumption) (by first | rfl | assumption) ?_
    refine g_ldcS hK zl_14 d_Rd_takeWeight_24 ?_
    refine g_callV d_Rd_takeWeight_26 k_Tx_wordIs l_Rd_118 i_Tx_wordIs rfl q_Tx_Tx_wordIs_Tx h2 (by rfl) (by rfl) (Nat.le_of_ble_eq_true rfl) (by decide) (C_Tx_wordIs h2 h16 hI.1 hI.2.1 hI.2.2.1 hI.2.2.2.1 hK zl_14 ⟨_, rfl, ?_⟩)
    first | refine g_if_eqB (tgt := 40) d_Rd_takeWeight_29 (by decide) (fun h29 => ?_) (fun h29 => ?_) | refine g_if_eq (tgt := 40) d_Rd_takeWeight_29 (by decide) (fun h29 => ?_) (fun h29 => ?_)
    · rw [if_neg h29] at hQ
      refine g_iconst (v := 0) d_Rd_takeWeight_40 rfl ?_
      refine g_zret d_Rd_takeWeight_41 ?_ ?_
      · first | rfl | exact zb_nar _ | exact zb_narc (by assumption)
      · exact hQ Z hR rfl
    · rw [if_pos h29] at hQ
      refine g_aload_nq d_Rd_takeWeight_32 rfl 0 rfl ?_
      refine g_iconst (v := 2) d_Rd_takeWeight_33 rfl ?_
      refine g_put d_Rd_takeWeight_34 w_Rd_51_Rd (by assumption) (by first | rfl | exact zb_nar _) (by first | rfl | exact zb_fit _ | exact zrf_fit _) (by first | exact Nat.le_of_ble_eq_true rfl | omega) ?_
      have hR1 := hR.put3 11 (2)
      generalize e1 : zput _ _ _ = Z1
      have hR1 : Rep w ad (w3 S 11 (2)) Z1 := by rw [← e1]; exact hR1
      have B1 : Z1.2.2 = Z.2.2 := by rw [← e1]; rfl
      generalize f1 : w3 S 11 (2) = S1 at hR1 hQ
      have h3 : zhs Z1 (ad 3) (.inr (3, [.ref (ad 17), .ref (ad 18), .ref (ad 19), .ref (ad 2), .int (nI (sN S1 12)), .int (nI (sN S1 13)), .int (nI (sN S1 14)), .int (sI S1 3 7), .int (nI (sN S1 15)), .int (sI S1 3 9), .int (sI S1 3 10), .int (sI S1 3 11)])) := hR1.k 3 (by decide)
      refine g_goto (tgt := 42) d_Rd_takeWeight_37 (by decide) ?_
      refine g_aload_nq d_Rd_takeWeight_42 rfl 0 rfl ?_
      refine g_iconst (v := 2) d_Rd_takeWeight_43 rfl ?_
      refine g_put d_Rd_takeWeight_44 w_Rd_38_Rd (by assumption) (by first | rfl | exact zb_nar _) (by first | rfl | exact zb_fit _ | exact zrf_fit _) (by first | exact Nat.le_of_ble_eq_true rfl | omega) ?_
      have hR2 := hR1.put3 7 (2)
      generalize e2 : zput _ _ _ = Z2
      have hR2 : Rep w ad (w3 S1 7 (2)) Z2 := by rw [← e2]; exact hR2
      have B2 : Z2.2.2 = Z1.2.2 := by rw [← e2]; rfl
      generalize f2 : w3 S1 7 (2) = S2 at hR2 hQ
      have h3 : zhs Z2 (ad 3) (.inr (3, [.ref (ad 17), .ref (ad 18), .ref (ad 19), .ref (ad 2), .int (nI (sN S2 12)), .int (nI (sN S2 13)), .int (nI (sN S2 14)), .int (sI S2 3 7), .int (nI (sN S2 15)), .int (sI S2 3 9), .int (sI S2 3 10), .int (sI S2 3 11)])) := hR2.k 3 (by decide)
      refine g_iconst (v := 1) d_Rd_takeWeight_47 rfl ?_
      refine g_zret d_Rd_takeWeight_48 ?_ ?_
      · first | rfl | exact zb_nar _ | exact zb_narc (by assumption)
      · exact hQ Z2 hR2 (B2.trans B1)
  · rw [tWei, if_pos h9] at hQ
    refine g_aload_nq d_Rd_takeWeight_12 rfl 0 rfl ?_
    refine g_iconst (v := 1) d_Rd_takeWeight_13 rfl ?_
    refine g_put d_Rd_takeWeight_14 w_Rd_51_Rd (by assumption) (by first | rfl | exact zb_nar _) (by first | rfl | exact zb_fit _ | exact zrf_fit _) (by first | exact Nat.le_of_ble_eq_true rfl | omega) ?_
    have hR1 := hR.put3 11 (1)
    generalize e1 : zput _ _ _ = Z1
    have hR1 : Rep w ad (w3 S 11 (1)) Z1 := by rw [← e1]; exact hR1
    have B1 : Z1.2.2 = Z.2.2 := by rw [← e1]; rfl
    generalize f1 : w3 S 11 (1) = S1 at hR1 hQ
    have h3 : zhs Z1 (ad 3) (.inr (3, [.ref (ad 17), .ref (ad 18), .ref (ad 19), .ref (ad 2), .int (nI (sN S1 12)), .int (nI (sN S1 13)), .int (nI (sN S1 14)), .int (sI S1 3 7), .int (nI (sN S1 15)), .int (sI S1 3 9), .int (sI S1 3 10), .int (sI S1 3 11)])) := hR1.k 3 (by decide)
    refine g_goto (tgt := 42) d_Rd_takeWeight_17 (by decide) ?_
    refine g_aload_nq d_Rd_takeWeight_42 rfl 0 rfl ?_
    refine g_iconst (v := 2) d_Rd_takeWeight_43 rfl ?_
    refine g_put d_Rd_takeWeight_44 w_Rd_38_Rd (by assumption) (by first | rfl | exact zb_nar _) (by first | rfl | exact zb_fit _ | exact zrf_fit _) (by first | exact Nat.le_of_ble_eq_true rfl | omega) ?_
    have hR2 := hR1.put3 7 (2)
    generalize e2 : zput _ _ _ = Z2
    have hR2 : Rep w ad (w3 S1 7 (2)) Z2 := by rw [← e2]; exact hR2
    have B2 : Z2.2.2 = Z1.2.2 := by rw [← e2]; rfl
    generalize f2 : w3 S1 7 (2) = S2 at hR2 hQ
    have h3 : zhs Z2 (ad 3) (.inr (3, [.ref (ad 17), .ref (ad 18), .ref (ad 19), .ref (ad 2), .int (nI (sN S2 12)), .int (nI (sN S2 13)), .int (nI (sN S2 14)), .int (sI S2 3 7), .int (nI (sN S2 15)), .int (sI S2 3 9), .int (sI S2 3 10), .int (sI S2 3 11)])) := hR2.k 3 (by decide)
    refine g_iconst (v := 1) d_Rd_takeWeight_47 rfl ?_
    refine g_zret d_Rd_takeWeight_48 ?_ ?_
    · first | rfl | exact zb_nar _ | exact zb_narc (by assumption)
    · exact hQ Z2 hR2 (B2.trans B1)
