/-! more rules: System.arraycopy over int arrays; new cells written at once -/
theorem z_acs : Cond.static arraycopyName ∈ wz := wz_at 417 (by decide +kernel) rfl
theorem z_acn : Cond.native arraycopyName ∈ wz := wz_at 418 (by decide +kernel) rfl
theorem z_aci : Cond.initialized "java/lang/System" ∈ wz := wz_at 26 (by decide +kernel) rfl
section GM
variable {w : zC} {y : MethodName} {cc : ByteArray} {nL : Nat} {rt : Option FieldType} {d : Nat × Nat} {Post : zR → zZ → Prop} {pc : Nat} {lv : List (Nat × Value)} {rest : List Value} {Z : zZ}
theorem g_acopy {idx a0 a n0 n1 : Nat} {f g : Nat → Int32} {sp dp n : Int32} (hdg : decode cc pc = .ok (.invokestatic idx, 3)) (hlink : Cond.methodLink y.cls idx arraycopyName ∈ wz) (h0 : zhs Z a0 (.inl (w.2.2.2.1 0, n0, .inl f))) (h1 : zhs Z a (.inl (w.2.2.2.1 0, n1, .inl g))) (p1 : ¬ sp < 0) (p2 : ¬ dp < 0) (p3 : ¬ n < 0) (p4 : sp.toNatClampNeg + n.toNatClampNeg ≤ n0) (p5 : dp.toNatClampNeg + n.toNatClampNeg ≤ n1) (hd : 1 ≤ d.1 ∧ 26 ≤ d.2) (hsum : (rest.map fun v => v.category).sum ≤ 8)
    (k1 : G w y cc nL rt d Post (pc + 3) lv rest (zput Z a (.inl (w.2.2.2.1 0, n1, .inl (va_cpy f g sp.toNatClampNeg dp.toNatClampNeg n.toNatClampNeg))))) : G w y cc nL rt d Post pc lv (.int n :: .int dp :: .ref a :: .int sp :: .ref a0 :: rest) Z :=
  fun p e R s m args below meth c H locs cells slots ls hx hw hl => by
    obtain ⟨-, -, -, -, -, -, -, -, -, b3, b4⟩ := id hw
    obtain ⟨q0, hq0⟩ := zpos h0
    obtain ⟨q1, hq1⟩ := zpos h1
    have e1 : nativeFrameWords "java/lang/System" "arraycopy" 5 = 7 := by decide +kernel
    refine va_copyi (D := w.2.1) hx.1 hx.2.1 (hx.2.2.1.trans hl.1.symm) hx.2.2.2.1 (hx.2.2.2.2.1 _ hlink) (hx.2.2.2.2.1 _ z_acn) (hx.2.2.2.2.1 _ z_acs) (hx.2.2.2.2.1 _ z_aci) hw.2.1.1 hw.2.2.2.2.1 hw.2.2.2.2.2.1 hw.2.2.2.2.2.2.1 q0 q1 0 0 hq0 hq1 rfl rfl rfl p1 p2 p3 p4 p5 (fun _ _ => rfl) (by omega) (by rw [e1]; omega) hdg (fun H1 locs1 hP hD hS => ?_)
    rw [zset hw.2.2.2.2.2.1 h1 hq1] at hP hD
    exact k1 p e R s m args below meth c H1 locs1 cells slots ls hx (hw.put hP hD hS rfl rfl) hl
end GM
theorem znew_put {Z : zZ} {q n : Nat} {e e' : va_E} : zput (znew Z q e n) q e' = znew Z q e' n := by
  have h : va_up (va_up Z.2.1 q e) q e' = va_up Z.2.1 q e' := by
    funext j
    by_cases hj : j = q
    · simp [va_up, hj]
    · simp [va_up, hj]
  show (Z.1 ++ [q], va_up (va_up Z.2.1 q e) q e', Z.2.2.1 - 1, Z.2.2.2 - n) = (Z.1 ++ [q], va_up Z.2.1 q e', Z.2.2.1 - 1, Z.2.2.2 - n)
  rw [h]
theorem zput_comm {Z : zZ} {a b : Nat} {e e' : va_E} (h : a ≠ b) : zput (zput Z a e) b e' = zput (zput Z b e') a e := by
  have h1 : va_up (va_up Z.2.1 a e) b e' = va_up (va_up Z.2.1 b e') a e := by
    funext j
    by_cases hj : j = a
    · subst hj; simp [va_up, h]
    · by_cases hk : j = b
      · subst hk; simp [va_up, hj]
      · simp [va_up, hj, hk]
  show (Z.1, va_up (va_up Z.2.1 a e) b e', Z.2.2.1, Z.2.2.2) = (Z.1, va_up (va_up Z.2.1 b e') a e, Z.2.2.1, Z.2.2.2)
  rw [h1]
theorem zhs_new_same' {Z Z' : zZ} {q n : Nat} {e : va_E} (h : znew Z q e n = Z') : zhs Z' q e := by rw [← h]; exact zhs_new_same
theorem zhs_new_old' {Z Z' : zZ} {q n b : Nat} {e e' : va_E} (h : znew Z q e n = Z') (h0 : zhs Z b e') (hq : q ∉ Z.1) : zhs Z' b e' := by rw [← h]; exact zhs_new_old h0 hq
theorem zhs_put_same' {Z Z' : zZ} {a : Nat} {e e' : va_E} (h : zput Z a e' = Z') (h0 : zhs Z a e) : zhs Z' a e' := by rw [← h]; exact zhs_put_same h0
theorem zhs_put_ne' {Z Z' : zZ} {a b : Nat} {e e' : va_E} (h : zput Z a e' = Z') (h0 : zhs Z b e) (hne : b ≠ a) : zhs Z' b e := by rw [← h]; exact zhs_put_ne h0 hne
theorem Cz.ofF {w : zC} {d : Nat × Nat} {y : MethodName} {cc : ByteArray} {nL : Nat} {rt : Option FieldType} {As : List Value} {Z : zZ} {Post : zR → zZ → Prop}
    (hy : plainFor y = true) (hn : (lg_sl As).length ≤ nL) (h : G w y cc nL rt d Post 0 (lv_args 0 As) [] Z) (hz : zEx y = [] := by decide +kernel) : Cz w d y (Cond.code y cc nL rt :: wz) As Z Post := by
  refine MetFree.of_bodySF (code := cc) (maxLocals := nL) (ret := rt) hy ?_ ?_
  · intro args s m h hn
    obtain ⟨meth, c, h1, h2, h3, h4, h5, h6, -, -⟩ := Cond.code_spec hn (atoms_spec (ws := Cond.code y cc nL rt :: wz) h _ List.mem_cons_self)
    exact ⟨meth, c, h1, h2, h3, h4, h5, h6⟩
  · intro p e s m args below meth c s₁ B hml hP _
    obtain ⟨rfl, hst, hK, hS, hA, hPl, hD⟩ := hP
    have hh0 : s₁.heap = s.heap := by rw [B.state]; rfl
    have hts := atoms_spec (ws := Cond.code y cc nL rt :: wz) B.pre
    have X9 := Stand.of_body B
    have hE : c.exceptionTable.toList.map (fun h => (h.startPc, h.endPc, h.handlerPc, h.catchType)) = zEx y := by
      obtain ⟨meth9, c9, q1, q2, -, -, -, -, q7, -⟩ := Cond.code_spec B.named (hts _ List.mem_cons_self)
      cases Option.some.inj (X9.method.symm.trans q1)
      cases Option.some.inj (X9.code.symm.trans q2)
      have h0 : c.exceptionTable = #[] := by simpa using q7
      rw [h0, hz]
      rfl
    have K := h p e (zrm d Z) s m As.toArray below meth c s.heap [] 0 0 _
      ⟨B.exec, B.bytes, hml, findClass_of_methodNamed B.named, fun v hv => hts v (List.mem_cons_of_mem _ hv), B.returns, B.notSynchronized, fun _ => (name_of_methodNamed B.named B.method).1, hE⟩
      ⟨hst, hK, hS, hA, hPl, hD, va_S.rf, by simp [zrm], by simp [zrm], Nat.le_refl _, Nat.le_refl _⟩ (lv_entry As hn)
    rw [← lg_entry_eq] at K
    obtain ⟨t, a1, o, b1, b2, b3⟩ := K s₁ hh0 X9
    exact ⟨t, o, a1, b1, b2, b3⟩
/-! numbers as the machine has them -/
theorem vin_of {k : Int32} {N : Nat} (h0 : ¬ k < 0) (h : ¬ nI N ≤ k) (hN : N < 2 ^ 31) : vp_in k N := by
  rw [vp_in_iff]
  rw [Int32.lt_iff_toInt_lt, Int32.toInt_zero] at h0
  rw [Int32.le_iff_toInt_le, nI_toInt hN] at h
  omega
theorem vin_le {k : Int32} {c N : Nat} (h : ¬ nI c ≤ k) (hc : c ≤ N) (hN : N < 2 ^ 31) : ¬ nI N ≤ k := by
  rw [Int32.le_iff_toInt_le, nI_toInt (by omega)] at h
  rw [Int32.le_iff_toInt_le, nI_toInt hN]
  omega
/-- the place of the first of n entries from i on that is x, or -1 -/
def fndF (f : Nat → Int32) (x : Int32) : Nat → Nat → Int32
  | 0, _ => -1
  | n + 1, i => if f i = x then nI i else fndF f x n (i + 1)
