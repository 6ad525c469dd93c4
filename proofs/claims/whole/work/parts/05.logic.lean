/-! THE LOGIC. A world is a pool of cells (addresses, what each holds, cells left, slots left). G is a judgement at a frame: from here the method ends as Post says. Cz is a method's contract in the same words. A rule an instruction, a rule a call: goal first. -/
abbrev zZ : Type := List Nat × (Nat → va_E) × Nat × Nat
def zhs (Z : zZ) (a : Nat) (e : va_E) : Prop := a ∈ Z.1 ∧ Z.2.1 a = e
def zput (Z : zZ) (a : Nat) (e : va_E) : zZ := (Z.1, va_up Z.2.1 a e, Z.2.2.1, Z.2.2.2)
def znew (Z : zZ) (q : Nat) (e : va_E) (n : Nat) : zZ := (Z.1 ++ [q], va_up Z.2.1 q e, Z.2.2.1 - 1, Z.2.2.2 - n)
def zpay (Z : zZ) (k n : Nat) : zZ := (Z.1, Z.2.1, Z.2.2.1 - k, Z.2.2.2 - n)
abbrev zpl (Z : zZ) : va_W := va_pl Z.1 Z.2.1
/-- what stays the same for the whole run: the launch, the classes' numbers, which cells are new since the law began, the array classes, what is known of the cells that were there before -/
abbrev zC : Type := Launch × va_G × (Nat → Prop) × (Nat → ClassId) × (State → Heap → Prop)
/-- what is known of the old cells stays known when none of them changes -/
def zSt (w : zC) : Prop := ∀ (U U' : State) (H H' : Heap), U.WarmedH U'.vm → (∀ q : Nat, q < H.size → ¬ w.2.2.1 q → H'[q]? = H[q]?) → w.2.2.2.2 U H → w.2.2.2.2 U' H'
def zNw (s : State) : Prop := (∀ v ∈ wn, va_Nw v s) ∧ ∀ q ∈ wnc, va_Nc q.1 q.2 s
theorem zNw.warm {s U : State} (hW : s.WarmedH U.vm) (h : zNw s) : zNw U := by
  refine ⟨fun v hv => ?_, fun q hq => va_Nc.moved hW.alike (h.2 q hq)⟩
  have h1 := h.1 v hv
  have h2 := (List.mem_filter.mp hv).2
  cases v <;> first | (rename_i ty; cases ty <;> first | exact va_AO.moved hW.alike h1 | (simp [isNw] at h2; done)) | exact va_Nw.warmM hW h1 | exact va_Nw.warmD hW h1 | exact va_Nw.warmC hW h1 | (simp [isNw] at h2)
def zKn (w : zC) (s : State) : Prop := va_K w.2.1 vwCl (zTys w.2.2.2.1) s ∧ zNw s
theorem zKn.warm {w : zC} {s U : State} (hW : s.WarmedH U.vm) (h : zKn w s) : zKn w U := ⟨va_K.moved hW.alike h.1, h.2.warm hW⟩
/-- d: the frames and the locals' words that a method and its callees ask for -/
def zrm (d : Nat × Nat) (Z : zZ) : Room := { frames := d.1, cells := Z.2.2.1, slots := Z.2.2.2, locals := d.2 }
def zPre (w : zC) (Z : zZ) (s : State) : Prop :=
  zSt w ∧ zKn w s ∧ w.2.2.2.2 s s.heap ∧ (∀ q : Nat, s.heap.size ≤ q → w.2.2.1 q) ∧ va_P w.2.1 vwCl (zpl Z) s.heap ∧ va_D w.2.2.1 (zpl Z)
abbrev zR : Type := Option Value ⊕ String
def zOut (r : zR) (o : Outcome) (t : State) : Prop := match r with
  | .inl v => o = .returned v
  | .inr E => ∃ (x : Addr) (cell : Cell), o = .threw x ∧ t.heap[x]? = some cell ∧ cell.vm.isStatics = false ∧ t.vm.findClass E = some cell.cls
def zAft (w : zC) (bc bs : Nat) (Z : zZ) (s t : State) : Prop :=
  va_P w.2.1 vwCl (zpl Z) t.heap ∧ va_D w.2.2.1 (zpl Z) ∧ va_F w.2.2.1 s t ∧
  ∃ (L : List Loc) (k n : Nat), (s.WarmedH t.vm ∧ s.sameButNew ({ t with vm := s.vm } : State) L k n) ∧ (∀ q ∈ L, w.2.2.1 q.base) ∧ k + Z.2.2.1 ≤ bc ∧ n + Z.2.2.2 ≤ bs
def zQ (w : zC) (R : Room) (Post : zR → zZ → Prop) (below : List Frame) (s : State) : State → Prop := fun t =>
  ∃ o, t.status = .running ∧ Ended t below o ∧ ∃ (r : zR) (Z : zZ), Post r Z ∧ zOut r o t ∧ zAft w R.cells R.slots Z s t
def Cz (w : zC) (d : Nat × Nat) (y : MethodName) (ws : List Cond) (As : List Value) (Z : zZ) (Post : zR → zZ → Prop) : Prop :=
  MetFree w.1 y (headSpec ws (zrm d Z)) (fun a s => a = As.toArray ∧ zPre w Z s) (fun _ _ _ _ _ => True) (fun _ s o t => ∃ (r : zR) (Z' : zZ), Post r Z' ∧ zOut r o t ∧ zAft w Z.2.2.1 Z.2.2.2 Z' s t)
/-- the method that is walked -/
def zX (y : MethodName) (cc : ByteArray) (nL : Nat) (rt : Option FieldType) (p : Program) (s : State) (m : MethodId) (args : Array Value) (meth : Method) (c : Code) : Prop :=
  p.tables.exec = Jvm.exec ∧ c.code = cc ∧ c.maxLocals = nL ∧ s.vm.findClass y.cls = some m.cls ∧ (∀ v ∈ wz, v.before args s = true) ∧ meth.sig.returnType = rt ∧ meth.locks = false ∧ (y.name = "<init>" → meth.name = y.name) ∧ c.exceptionTable.toList.map (fun h => (h.startPc, h.endPc, h.handlerPc, h.catchType)) = zEx y
/-- the world at a point of the walk -/
def zW (w : zC) (d : Nat × Nat) (Z : zZ) (R : Room) (s : State) (H : Heap) (locs : List Loc) (cells slots : Nat) : Prop :=
  zSt w ∧ zKn w s ∧ w.2.2.2.2 s s.heap ∧ (∀ q : Nat, s.heap.size ≤ q → w.2.2.1 q) ∧ va_P w.2.1 vwCl (zpl Z) H ∧ va_D w.2.2.1 (zpl Z) ∧ va_S w.2.2.1 s.heap H locs ∧
  cells + Z.2.2.1 ≤ R.cells ∧ slots + Z.2.2.2 ≤ R.slots ∧ d.1 ≤ R.frames ∧ d.2 ≤ R.locals
def G (w : zC) (y : MethodName) (cc : ByteArray) (nL : Nat) (rt : Option FieldType) (d : Nat × Nat) (Post : zR → zZ → Prop) (pc : Nat) (lv : List (Nat × Value)) (st : List Value) (Z : zZ) : Prop :=
  ∀ (p : Program) (e : Env) (R : Room) (s : State) (m : MethodId) (args : Array Value) (below : List Frame) (meth : Method) (c : Code) (H : Heap) (locs : List Loc) (cells slots : Nat) (ls : Array Slot),
    zX y cc nL rt p s m args meth c → zW w d Z R s H locs cells slots → lv_has ls nL lv →
    W p w.1 e R s m args below meth c H locs cells slots (zQ w R Post below s) (F0 m pc ls st)
theorem W_mono {p : Program} {l : Launch} {e : Env} {R : Room} {s : State} {m : MethodId} {args : Array Value} {below : List Frame} {meth : Method} {c : Code} {H : Heap} {locs : List Loc} {cells slots : Nat} {Q Q' : State → Prop} {g : JFrame}
    (h : ∀ t, Q t → Q' t) (k : W p l e R s m args below meth c H locs cells slots Q g) : W p l e R s m args below meth c H locs cells slots Q' g := fun T hT X => by
  obtain ⟨t, a, b⟩ := k T hT X
  exact ⟨t, a, h t b⟩
theorem zhs_put_same {Z : zZ} {a : Nat} {e e' : va_E} (h : zhs Z a e) : zhs (zput Z a e') a e' := ⟨h.1, va_up_self _ _ _⟩
theorem zhs_put_ne {Z : zZ} {a b : Nat} {e e' : va_E} (h : zhs Z b e) (hne : b ≠ a) : zhs (zput Z a e') b e := ⟨h.1, by show va_up _ _ _ _ = _; rw [va_up_ne _ _ hne]; exact h.2⟩
theorem zhs_new_same {Z : zZ} {q : Nat} {e : va_E} {n : Nat} : zhs (znew Z q e n) q e := ⟨List.mem_append_right _ (List.mem_singleton.mpr rfl), va_up_self _ _ _⟩
theorem zhs_new_old {Z : zZ} {q b : Nat} {e e' : va_E} {n : Nat} (h : zhs Z b e) (hq : q ∉ Z.1) : zhs (znew Z q e' n) b e := ⟨List.mem_append_left _ h.1, by
  show va_up _ _ _ _ = _
  rw [va_up_ne _ _ (fun z => hq (by rw [← z]; exact h.1))]
  exact h.2⟩
theorem zhs_ne {Z : zZ} {a b : Nat} {e e' : va_E} (h : zhs Z a e) (h' : zhs Z b e') (hne : e ≠ e') : a ≠ b := fun z => hne (by rw [← h.2, ← h'.2, z])
theorem zhs_inj {Z : zZ} {a : Nat} {e e' : va_E} (h : zhs Z a e) (h' : zhs Z a e') : e = e' := h.2.symm.trans h'.2
theorem zhs_fresh {Z : zZ} {a q : Nat} {e : va_E} (h : zhs Z a e) (hq : q ∉ Z.1) : a ≠ q := fun z => hq (by rw [← z]; exact h.1)
theorem zput_put {Z : zZ} {a : Nat} {e e' : va_E} : zput (zput Z a e) a e' = zput Z a e' := by
  show (Z.1, va_up (va_up Z.2.1 a e) a e', Z.2.2.1, Z.2.2.2) = (Z.1, va_up Z.2.1 a e', Z.2.2.1, Z.2.2.2)
  have h : va_up (va_up Z.2.1 a e) a e' = va_up Z.2.1 a e' := by
    funext j
    by_cases hj : j = a
    · simp [va_up, hj]
    · simp [va_up, hj]
  rw [h]
theorem zput_self {Z : zZ} {a : Nat} {e : va_E} (h : zhs Z a e) : zput Z a e = Z := by
  have h1 : va_up Z.2.1 a e = Z.2.1 := by
    funext j
    by_cases hj : j = a
    · rw [hj, va_up_self]; exact h.2.symm
    · rw [va_up_ne _ _ hj]
  show (Z.1, va_up Z.2.1 a e, Z.2.2.1, Z.2.2.2) = Z
  rw [h1]
/-- the place of a cell in the pool's list -/
theorem zpos {Z : zZ} {a : Nat} {e : va_E} (h : zhs Z a e) : ∃ k : Nat, (zpl Z)[k]? = some (a, e) := by
  obtain ⟨k, hk⟩ := va_pl_get (X := []) (f := Z.2.1) h.1
  rw [h.2] at hk
  exact ⟨k, hk⟩
theorem zset {A : Nat → Prop} {Z : zZ} {a k : Nat} {e e' : va_E} (hD : va_D A (zpl Z)) (h : zhs Z a e) (hk : (zpl Z)[k]? = some (a, e)) : (zpl Z).set k (a, e') = zpl (zput Z a e') := by
  have := va_pl_set (X := []) (e := e') hD h.1 (by rw [h.2]; exact hk)
  exact this
theorem zfresh {A : Nat → Prop} {Z : zZ} {q : Nat} {e : va_E} (hD : va_D A (zpl Z ++ [(q, e)])) : q ∉ Z.1 := by
  intro h
  obtain ⟨k, hk⟩ := zpos (Z := Z) (a := q) ⟨h, rfl⟩
  have hl : k < (zpl Z).length := (List.getElem?_eq_some_iff.mp hk).1
  have h1 : (zpl Z ++ [(q, e)])[k]? = some (q, Z.2.1 q) := by rw [List.getElem?_append_left hl]; exact hk
  have h2 : (zpl Z ++ [(q, e)])[(zpl Z).length]? = some (q, e) := by simp
  have := hD.1 _ _ _ _ h1 h2 rfl
  omega
theorem zpush {Z : zZ} {q : Nat} {e : va_E} {n : Nat} (h : q ∉ Z.1) : zpl Z ++ [(q, e)] = zpl (znew Z q e n) := va_pl_push h
/-- from a walk of its body to a method's contract -/
theorem Cz.of {w : zC} {d : Nat × Nat} {y : MethodName} {cc : ByteArray} {nL : Nat} {rt : Option FieldType} {As : List Value} {Z : zZ} {Post : zR → zZ → Prop}
    (hy : plainName y.cls = true) (hn : (lg_sl As).length ≤ nL) (h : G w y cc nL rt d Post 0 (lv_args 0 As) [] Z) (hz : zEx y = [] := by decide +kernel) : Cz w d y (Cond.code y cc nL rt :: wz) As Z Post := by
  refine MetFree.of_bodyS (code := cc) (maxLocals := nL) (ret := rt) hy ?_ ?_
  · intro args s m h hn
    obtain ⟨meth, c, h1, h2, h3, h4, h5, h6, -, -⟩ := Cond.code_spec hn (atoms_spec (ws := Cond.code y cc nL rt :: wz) h _ List.mem_cons_self)
    exact ⟨meth, c, h1, h2, h3, h4, h5, h6⟩
  · intro p e s m args below meth c s₁ B hml hP _
    obtain ⟨rfl, hst, hK, hS, hA, hPl, hD⟩ := hP
    have hh0 : s₁.heap = s.heap := by rw [B.state]; rfl
    have hts := atoms_spec (ws := Cond.code y cc nL rt :: wz) B.pre
    have X9 := Stand.of_body B
    have hE : c.exceptionTable.toList.map (fun h => (h.startPc, h.endPc, h.handlerPc, h.catchType)) = zEx y := by
      obtain ⟨meth9, c9, q1, q2, -, -, -, -, q7, -⟩ := Cond.code_spec B.named (hts _ List.mem_cons_self)
      cases Option.some.inj (X9.method.symm.trans q1)
      cases Option.some.inj (X9.code.symm.trans q2)
      have h0 : c.exceptionTable = #[] := by simpa using q7
      rw [h0, hz]
      rfl
    have K := h p e (zrm d Z) s m As.toArray below meth c s.heap [] 0 0 _
      ⟨B.exec, B.bytes, hml, findClass_of_methodNamed B.named, fun v hv => hts v (List.mem_cons_of_mem _ hv), B.returns, B.notSynchronized, fun _ => (name_of_methodNamed B.named B.method).1, hE⟩
      ⟨hst, hK, hS, hA, hPl, hD, va_S.rf, by simp [zrm], by simp [zrm], Nat.le_refl _, Nat.le_refl _⟩ (lv_entry As hn)
    rw [← lg_entry_eq] at K
    obtain ⟨t, a1, o, b1, b2, b3⟩ := K s₁ hh0 X9
    exact ⟨t, o, a1, b1, b2, b3⟩
section GR
variable {w : zC} {y : MethodName} {cc : ByteArray} {nL : Nat} {rt : Option FieldType} {d : Nat × Nat} {Post : zR → zZ → Prop} {pc : Nat} {lv : List (Nat × Value)} {rest : List Value} {Z : zZ}
/-- at a return: the end of W, in the words of zQ -/
theorem zEnd {R : Room} {s : State} {args : Array Value} {below : List Frame} {H : Heap} {locs : List Loc} {cells slots : Nat} {ov : Option Value}
    (hw : zW w d Z R s H locs cells slots) (hp : Post (.inl ov) Z) (t : State) (h : MQ below (fun _ _ o u => o = .returned ov ∧ u.heap = H) args s cells slots w.2.2.1 t) : zQ w R Post below s t := by
  obtain ⟨o, h1, h2, ⟨rfl, hh⟩, L, hF, hL⟩ := h
  obtain ⟨-, -, -, -, hP, hD, hS, hc, hs, -, -⟩ := hw
  refine ⟨_, h1, h2, .inl ov, Z, hp, rfl, by rw [hh]; exact hP, hD, hS.F hh, L, cells, slots, hF.2, hL, hc, hs⟩
theorem g_iret {v : Int32} (hdg : decode cc pc = .ok (.ireturn, 1)) (hp : Post (.inl (some (.int v))) Z) (hrt : rt = some .int := by rfl) : G w y cc nL rt d Post pc lv [.int v] Z :=
  fun p e R s m args below meth c H locs cells slots ls hx hw hl => W_mono (zEnd hw hp) (W.iret hx.1 hx.2.1 (hx.2.2.2.2.2.1.trans hrt) (fun t ht _ => ⟨rfl, ht⟩) hw.2.2.2.2.2.2.1.2.2 hdg hx.2.2.2.2.2.2.1)
theorem g_zret {v : Int32} {ty : FieldType} (hdg : decode cc pc = .ok (.ireturn, 1)) (hn : narrow ty (.int v) = .int v) (hp : Post (.inl (some (.int v))) Z) (hrt : rt = some ty := by rfl) : G w y cc nL rt d Post pc lv [.int v] Z :=
  fun p e R s m args below meth c H locs cells slots ls hx hw hl => W_mono (zEnd hw hp) (W.zret hx.1 hx.2.1 (hx.2.2.2.2.2.1.trans hrt) hn (fun t ht _ => ⟨rfl, ht⟩) hw.2.2.2.2.2.2.1.2.2 hdg hx.2.2.2.2.2.2.1)
theorem g_lret {v : Int64} (hdg : decode cc pc = .ok (.lreturn, 1)) (hp : Post (.inl (some (.long v))) Z) (hrt : rt = some .long := by rfl) : G w y cc nL rt d Post pc lv [.long v] Z :=
  fun p e R s m args below meth c H locs cells slots ls hx hw hl => W_mono (zEnd hw hp) (W.lret hx.1 hx.2.1 (hx.2.2.2.2.2.1.trans hrt) (fun t ht _ => ⟨rfl, ht⟩) hw.2.2.2.2.2.2.1.2.2 hdg hx.2.2.2.2.2.2.1)
theorem g_vret (hdg : decode cc pc = .ok (.return_, 1)) (hp : Post (.inl none) Z) (hrt : rt = none := by rfl) : G w y cc nL rt d Post pc lv [] Z :=
  fun p e R s m args below meth c H locs cells slots ls hx hw hl => W_mono (zEnd hw hp) (W.vret hx.1 hx.2.1 (hx.2.2.2.2.2.1.trans hrt) (fun t ht _ => ⟨rfl, ht⟩) hw.2.2.2.2.2.2.1.2.2 hdg hx.2.2.2.2.2.2.1)
theorem g_aret {v : Value} {ty : FieldType} (hdg : decode cc pc = .ok (.areturn, 1)) (hp : Post (.inl (some v)) Z) (hv : v = .null ∨ ∃ a, v = .ref a := by first | exact Or.inr ⟨_, rfl⟩ | exact Or.inl rfl | exact va_rf_or _) (hrt : rt = some ty := by rfl) (hty : (∃ n, ty = .object n) ∨ ∃ t, ty = .array t := by first | exact Or.inl ⟨_, rfl⟩ | exact Or.inr ⟨_, rfl⟩) : G w y cc nL rt d Post pc lv [v] Z :=
  fun p e R s m args below meth c H locs cells slots ls hx hw hl => W_mono (zEnd hw hp) (W.aret hx.1 hx.2.1 (hx.2.2.2.2.2.1.trans hrt) hty hv (fun t ht _ => ⟨rfl, ht⟩) hw.2.2.2.2.2.2.1.2.2 hdg hx.2.2.2.2.2.2.1)
theorem g_iconst {n : Int} {v : Int32} (hdg : decode cc pc = .ok (.iconst n, 1)) (hv : Int32.ofInt n = v) (k1 : G w y cc nL rt d Post (pc + 1) lv (.int v :: rest) Z) : G w y cc nL rt d Post pc lv (rest) Z :=
  fun p e R s m args below meth c H locs cells slots ls hx hw hl => lv_iconst hx.1 hx.2.1 hdg hv (k1 p e R s m args below meth c H locs cells slots ls hx hw hl)
theorem g_bipush {n : Int} {v : Int32} (hdg : decode cc pc = .ok (.bipush n, 2)) (hv : (Int8.ofInt n).toInt32 = v) (k1 : G w y cc nL rt d Post (pc + 2) lv (.int v :: rest) Z) : G w y cc nL rt d Post pc lv (rest) Z :=
  fun p e R s m args below meth c H locs cells slots ls hx hw hl => lv_bipush hx.1 hx.2.1 hdg hv (k1 p e R s m args below meth c H locs cells slots ls hx hw hl)
theorem g_sipush {n : Int} {v : Int32} (hdg : decode cc pc = .ok (.sipush n, 3)) (hv : (Int16.ofInt n).toInt32 = v) (k1 : G w y cc nL rt d Post (pc + 3) lv (.int v :: rest) Z) : G w y cc nL rt d Post pc lv (rest) Z :=
  fun p e R s m args below meth c H locs cells slots ls hx hw hl => lv_sipush hx.1 hx.2.1 hdg hv (k1 p e R s m args below meth c H locs cells slots ls hx hw hl)
theorem g_lconst {n : Fin 2} {v : Int64} (hdg : decode cc pc = .ok (.lconst n, 1)) (hv : Int64.ofNat (n : Nat) = v) (k1 : G w y cc nL rt d Post (pc + 1) lv (.long v :: rest) Z) : G w y cc nL rt d Post pc lv (rest) Z :=
  fun p e R s m args below meth c H locs cells slots ls hx hw hl => lv_lconst hx.1 hx.2.1 hdg hv (k1 p e R s m args below meth c H locs cells slots ls hx hw hl)
theorem g_iadd {x z9 : Int32} (hdg : decode cc pc = .ok (.iadd, 1)) (k1 : G w y cc nL rt d Post (pc + 1) lv (.int (x + z9) :: rest) Z) : G w y cc nL rt d Post pc lv (.int z9 :: .int x :: rest) Z :=
  fun p e R s m args below meth c H locs cells slots ls hx hw hl => lv_iadd hx.1 hx.2.1 hdg (k1 p e R s m args below meth c H locs cells slots ls hx hw hl)
theorem g_isub {x z9 : Int32} (hdg : decode cc pc = .ok (.isub, 1)) (k1 : G w y cc nL rt d Post (pc + 1) lv (.int (x - z9) :: rest) Z) : G w y cc nL rt d Post pc lv (.int z9 :: .int x :: rest) Z :=
  fun p e R s m args below meth c H locs cells slots ls hx hw hl => lv_isub hx.1 hx.2.1 hdg (k1 p e R s m args below meth c H locs cells slots ls hx hw hl)
theorem g_imul {x z9 : Int32} (hdg : decode cc pc = .ok (.imul, 1)) (k1 : G w y cc nL rt d Post (pc + 1) lv (.int (x * z9) :: rest) Z) : G w y cc nL rt d Post pc lv (.int z9 :: .int x :: rest) Z :=
  fun p e R s m args below meth c H locs cells slots ls hx hw hl => lv_imul hx.1 hx.2.1 hdg (k1 p e R s m args below meth c H locs cells slots ls hx hw hl)
theorem g_iand {x z9 : Int32} (hdg : decode cc pc = .ok (.iand, 1)) (k1 : G w y cc nL rt d Post (pc + 1) lv (.int (x &&& z9) :: rest) Z) : G w y cc nL rt d Post pc lv (.int z9 :: .int x :: rest) Z :=
  fun p e R s m args below meth c H locs cells slots ls hx hw hl => lv_iand hx.1 hx.2.1 hdg (k1 p e R s m args below meth c H locs cells slots ls hx hw hl)
theorem g_ior {x z9 : Int32} (hdg : decode cc pc = .ok (.ior, 1)) (k1 : G w y cc nL rt d Post (pc + 1) lv (.int (x ||| z9) :: rest) Z) : G w y cc nL rt d Post pc lv (.int z9 :: .int x :: rest) Z :=
  fun p e R s m args below meth c H locs cells slots ls hx hw hl => lv_ior hx.1 hx.2.1 hdg (k1 p e R s m args below meth c H locs cells slots ls hx hw hl)
theorem g_ixor {x z9 : Int32} (hdg : decode cc pc = .ok (.ixor, 1)) (k1 : G w y cc nL rt d Post (pc + 1) lv (.int (x ^^^ z9) :: rest) Z) : G w y cc nL rt d Post pc lv (.int z9 :: .int x :: rest) Z :=
  fun p e R s m args below meth c H locs cells slots ls hx hw hl => lv_ixor hx.1 hx.2.1 hdg (k1 p e R s m args below meth c H locs cells slots ls hx hw hl)
theorem g_idiv {x z9 : Int32} (hdg : decode cc pc = .ok (.idiv, 1)) (hne : ¬ z9 = 0) (k1 : G w y cc nL rt d Post (pc + 1) lv (.int (x / z9) :: rest) Z) : G w y cc nL rt d Post pc lv (.int z9 :: .int x :: rest) Z :=
  fun p e R s m args below meth c H locs cells slots ls hx hw hl => lv_idiv hx.1 hx.2.1 hdg hne (k1 p e R s m args below meth c H locs cells slots ls hx hw hl)
theorem g_irem {x z9 : Int32} (hdg : decode cc pc = .ok (.irem, 1)) (hne : ¬ z9 = 0) (k1 : G w y cc nL rt d Post (pc + 1) lv (.int (x - x / z9 * z9) :: rest) Z) : G w y cc nL rt d Post pc lv (.int z9 :: .int x :: rest) Z :=
  fun p e R s m args below meth c H locs cells slots ls hx hw hl => lv_irem hx.1 hx.2.1 hdg hne (k1 p e R s m args below meth c H locs cells slots ls hx hw hl)
theorem g_ineg {x : Int32} (hdg : decode cc pc = .ok (.ineg, 1)) (k1 : G w y cc nL rt d Post (pc + 1) lv (.int (-x) :: rest) Z) : G w y cc nL rt d Post pc lv (.int x :: rest) Z :=
  fun p e R s m args below meth c H locs cells slots ls hx hw hl => lv_ineg hx.1 hx.2.1 hdg (k1 p e R s m args below meth c H locs cells slots ls hx hw hl)
theorem g_ladd {x z9 : Int64} (hdg : decode cc pc = .ok (.ladd, 1)) (k1 : G w y cc nL rt d Post (pc + 1) lv (.long (x + z9) :: rest) Z) : G w y cc nL rt d Post pc lv (.long z9 :: .long x :: rest) Z :=
  fun p e R s m args below meth c H locs cells slots ls hx hw hl => lv_ladd hx.1 hx.2.1 hdg (k1 p e R s m args below meth c H locs cells slots ls hx hw hl)
theorem g_lsub {x z9 : Int64} (hdg : decode cc pc = .ok (.lsub, 1)) (k1 : G w y cc nL rt d Post (pc + 1) lv (.long (x - z9) :: rest) Z) : G w y cc nL rt d Post pc lv (.long z9 :: .long x :: rest) Z :=
  fun p e R s m args below meth c H locs cells slots ls hx hw hl => lv_lsub hx.1 hx.2.1 hdg (k1 p e R s m args below meth c H locs cells slots ls hx hw hl)
theorem g_lmul {x z9 : Int64} (hdg : decode cc pc = .ok (.lmul, 1)) (k1 : G w y cc nL rt d Post (pc + 1) lv (.long (x * z9) :: rest) Z) : G w y cc nL rt d Post pc lv (.long z9 :: .long x :: rest) Z :=
  fun p e R s m args below meth c H locs cells slots ls hx hw hl => lv_lmul hx.1 hx.2.1 hdg (k1 p e R s m args below meth c H locs cells slots ls hx hw hl)
theorem g_land {x z9 : Int64} (hdg : decode cc pc = .ok (.land, 1)) (k1 : G w y cc nL rt d Post (pc + 1) lv (.long (x &&& z9) :: rest) Z) : G w y cc nL rt d Post pc lv (.long z9 :: .long x :: rest) Z :=
  fun p e R s m args below meth c H locs cells slots ls hx hw hl => lv_land hx.1 hx.2.1 hdg (k1 p e R s m args below meth c H locs cells slots ls hx hw hl)
theorem g_lor {x z9 : Int64} (hdg : decode cc pc = .ok (.lor, 1)) (k1 : G w y cc nL rt d Post (pc + 1) lv (.long (x ||| z9) :: rest) Z) : G w y cc nL rt d Post pc lv (.long z9 :: .long x :: rest) Z :=
  fun p e R s m args below meth c H locs cells slots ls hx hw hl => lv_lor hx.1 hx.2.1 hdg (k1 p e R s m args below meth c H locs cells slots ls hx hw hl)
theorem g_lxor {x z9 : Int64} (hdg : decode cc pc = .ok (.lxor, 1)) (k1 : G w y cc nL rt d Post (pc + 1) lv (.long (x ^^^ z9) :: rest) Z) : G w y cc nL rt d Post pc lv (.long z9 :: .long x :: rest) Z :=
  fun p e R s m args below meth c H locs cells slots ls hx hw hl => lv_lxor hx.1 hx.2.1 hdg (k1 p e R s m args below meth c H locs cells slots ls hx hw hl)
theorem g_ldiv {x z9 : Int64} (hdg : decode cc pc = .ok (.ldiv, 1)) (hne : ¬ z9 = 0) (k1 : G w y cc nL rt d Post (pc + 1) lv (.long (x / z9) :: rest) Z) : G w y cc nL rt d Post pc lv (.long z9 :: .long x :: rest) Z :=
  fun p e R s m args below meth c H locs cells slots ls hx hw hl => lv_ldiv hx.1 hx.2.1 hdg hne (k1 p e R s m args below meth c H locs cells slots ls hx hw hl)
theorem g_lrem {x z9 : Int64} (hdg : decode cc pc = .ok (.lrem, 1)) (hne : ¬ z9 = 0) (k1 : G w y cc nL rt d Post (pc + 1) lv (.long (x - x / z9 * z9) :: rest) Z) : G w y cc nL rt d Post pc lv (.long z9 :: .long x :: rest) Z :=
  fun p e R s m args below meth c H locs cells slots ls hx hw hl => lv_lrem hx.1 hx.2.1 hdg hne (k1 p e R s m args below meth c H locs cells slots ls hx hw hl)
theorem g_lneg {x : Int64} (hdg : decode cc pc = .ok (.lneg, 1)) (k1 : G w y cc nL rt d Post (pc + 1) lv (.long (-x) :: rest) Z) : G w y cc nL rt d Post pc lv (.long x :: rest) Z :=
  fun p e R s m args below meth c H locs cells slots ls hx hw hl => lv_lneg hx.1 hx.2.1 hdg (k1 p e R s m args below meth c H locs cells slots ls hx hw hl)
theorem g_ishl {x z9 : Int32} (hdg : decode cc pc = .ok (.ishl, 1)) (k1 : G w y cc nL rt d Post (pc + 1) lv (.int (x <<< (z9 &&& 31)) :: rest) Z) : G w y cc nL rt d Post pc lv (.int z9 :: .int x :: rest) Z :=
  fun p e R s m args below meth c H locs cells slots ls hx hw hl => lv_ishl hx.1 hx.2.1 hdg (k1 p e R s m args below meth c H locs cells slots ls hx hw hl)
theorem g_ishr {x z9 : Int32} (hdg : decode cc pc = .ok (.ishr, 1)) (k1 : G w y cc nL rt d Post (pc + 1) lv (.int (x >>> (z9 &&& 31)) :: rest) Z) : G w y cc nL rt d Post pc lv (.int z9 :: .int x :: rest) Z :=
  fun p e R s m args below meth c H locs cells slots ls hx hw hl => lv_ishr hx.1 hx.2.1 hdg (k1 p e R s m args below meth c H locs cells slots ls hx hw hl)
theorem g_i2l {x : Int32} {v : Int64} (hdg : decode cc pc = .ok (.i2l, 1)) (hv : x.toInt64 = v) (k1 : G w y cc nL rt d Post (pc + 1) lv (.long v :: rest) Z) : G w y cc nL rt d Post pc lv (.int x :: rest) Z :=
  fun p e R s m args below meth c H locs cells slots ls hx hw hl => lv_i2l hx.1 hx.2.1 hdg hv (k1 p e R s m args below meth c H locs cells slots ls hx hw hl)
theorem g_l2i {x : Int64} {v : Int32} (hdg : decode cc pc = .ok (.l2i, 1)) (hv : x.toInt32 = v) (k1 : G w y cc nL rt d Post (pc + 1) lv (.int v :: rest) Z) : G w y cc nL rt d Post pc lv (.long x :: rest) Z :=
  fun p e R s m args below meth c H locs cells slots ls hx hw hl => lv_l2i hx.1 hx.2.1 hdg hv (k1 p e R s m args below meth c H locs cells slots ls hx hw hl)
theorem g_i2b {x : Int32} {v : Int32} (hdg : decode cc pc = .ok (.i2b, 1)) (hv : x.toInt8.toInt32 = v) (k1 : G w y cc nL rt d Post (pc + 1) lv (.int v :: rest) Z) : G w y cc nL rt d Post pc lv (.int x :: rest) Z :=
  fun p e R s m args below meth c H locs cells slots ls hx hw hl => lv_i2b hx.1 hx.2.1 hdg hv (k1 p e R s m args below meth c H locs cells slots ls hx hw hl)
theorem g_i2s {x : Int32} {v : Int32} (hdg : decode cc pc = .ok (.i2s, 1)) (hv : x.toInt16.toInt32 = v) (k1 : G w y cc nL rt d Post (pc + 1) lv (.int v :: rest) Z) : G w y cc nL rt d Post pc lv (.int x :: rest) Z :=
  fun p e R s m args below meth c H locs cells slots ls hx hw hl => lv_i2s hx.1 hx.2.1 hdg hv (k1 p e R s m args below meth c H locs cells slots ls hx hw hl)
theorem g_i2c {x : Int32} {v : Int32} (hdg : decode cc pc = .ok (.i2c, 1)) (hv : (x.toUInt32 % 65536).toInt32 = v) (k1 : G w y cc nL rt d Post (pc + 1) lv (.int v :: rest) Z) : G w y cc nL rt d Post pc lv (.int x :: rest) Z :=
  fun p e R s m args below meth c H locs cells slots ls hx hw hl => lv_i2c hx.1 hx.2.1 hdg hv (k1 p e R s m args below meth c H locs cells slots ls hx hw hl)
theorem g_iushr {x z9 v : Int32} (hdg : decode cc pc = .ok (.iushr, 1)) (hv : (x.toUInt32 >>> (z9.toUInt32 &&& Int32.toUInt32 31)).toInt32 = v) (k1 : G w y cc nL rt d Post (pc + 1) lv (.int v :: rest) Z) : G w y cc nL rt d Post pc lv (.int z9 :: .int x :: rest) Z :=
  fun p e R s m args below meth c H locs cells slots ls hx hw hl => lv_iushr hx.1 hx.2.1 hdg hv (k1 p e R s m args below meth c H locs cells slots ls hx hw hl)
theorem g_lushr {x v : Int64} {z9 : Int32} (hdg : decode cc pc = .ok (.lushr, 1)) (hv : (x.toUInt64 >>> (z9.toInt64.toUInt64 &&& Int64.toUInt64 63)).toInt64 = v) (k1 : G w y cc nL rt d Post (pc + 1) lv (.long v :: rest) Z) : G w y cc nL rt d Post pc lv (.int z9 :: .long x :: rest) Z :=
  fun p e R s m args below meth c H locs cells slots ls hx hw hl => lv_lushr hx.1 hx.2.1 hdg hv (k1 p e R s m args below meth c H locs cells slots ls hx hw hl)
theorem g_lshl {x v : Int64} {z9 : Int32} (hdg : decode cc pc = .ok (.lshl, 1)) (hv : x <<< (z9.toInt64 &&& 63) = v) (k1 : G w y cc nL rt d Post (pc + 1) lv (.long v :: rest) Z) : G w y cc nL rt d Post pc lv (.int z9 :: .long x :: rest) Z :=
  fun p e R s m args below meth c H locs cells slots ls hx hw hl => lv_lshl hx.1 hx.2.1 hdg hv (k1 p e R s m args below meth c H locs cells slots ls hx hw hl)
theorem g_lshr {x v : Int64} {z9 : Int32} (hdg : decode cc pc = .ok (.lshr, 1)) (hv : x >>> (z9.toInt64 &&& 63) = v) (k1 : G w y cc nL rt d Post (pc + 1) lv (.long v :: rest) Z) : G w y cc nL rt d Post pc lv (.int z9 :: .long x :: rest) Z :=
  fun p e R s m args below meth c H locs cells slots ls hx hw hl => lv_lshr hx.1 hx.2.1 hdg hv (k1 p e R s m args below meth c H locs cells slots ls hx hw hl)
theorem g_dup {va : Value} (hdg : decode cc pc = .ok (.dup, 1)) (hva : va.category = 1) (k1 : G w y cc nL rt d Post (pc + 1) lv (va :: va :: rest) Z) : G w y cc nL rt d Post pc lv (va :: rest) Z :=
  fun p e R s m args below meth c H locs cells slots ls hx hw hl => lv_dup hx.1 hx.2.1 hdg hva (k1 p e R s m args below meth c H locs cells slots ls hx hw hl)
theorem g_pop {va : Value} (hdg : decode cc pc = .ok (.pop, 1)) (hva : va.category = 1) (k1 : G w y cc nL rt d Post (pc + 1) lv (rest) Z) : G w y cc nL rt d Post pc lv (va :: rest) Z :=
  fun p e R s m args below meth c H locs cells slots ls hx hw hl => lv_pop hx.1 hx.2.1 hdg hva (k1 p e R s m args below meth c H locs cells slots ls hx hw hl)
theorem g_dup_x1 {va vb : Value} (hdg : decode cc pc = .ok (.dup_x1, 1)) (hva : va.category = 1) (hvb : vb.category = 1) (k1 : G w y cc nL rt d Post (pc + 1) lv (va :: vb :: va :: rest) Z) : G w y cc nL rt d Post pc lv (va :: vb :: rest) Z :=
  fun p e R s m args below meth c H locs cells slots ls hx hw hl => lv_dup_x1 hx.1 hx.2.1 hdg hva hvb (k1 p e R s m args below meth c H locs cells slots ls hx hw hl)
theorem g_dup_x2 {va vb vd : Value} (hdg : decode cc pc = .ok (.dup_x2, 1)) (hva : va.category = 1) (hvb : vb.category = 1) (hvd : vd.category = 1) (k1 : G w y cc nL rt d Post (pc + 1) lv (va :: vb :: vd :: va :: rest) Z) : G w y cc nL rt d Post pc lv (va :: vb :: vd :: rest) Z :=
  fun p e R s m args below meth c H locs cells slots ls hx hw hl => lv_dup_x2 hx.1 hx.2.1 hdg hva hvb hvd (k1 p e R s m args below meth c H locs cells slots ls hx hw hl)
theorem g_dup2_11 {va vb : Value} (hdg : decode cc pc = .ok (.dup2, 1)) (hva : va.category = 1) (hvb : vb.category = 1) (k1 : G w y cc nL rt d Post (pc + 1) lv (va :: vb :: va :: vb :: rest) Z) : G w y cc nL rt d Post pc lv (va :: vb :: rest) Z :=
  fun p e R s m args below meth c H locs cells slots ls hx hw hl => lv_dup2_11 hx.1 hx.2.1 hdg hva hvb (k1 p e R s m args below meth c H locs cells slots ls hx hw hl)
theorem g_dup2_2 {va : Value} (hdg : decode cc pc = .ok (.dup2, 1)) (hva : va.category = 2) (k1 : G w y cc nL rt d Post (pc + 1) lv (va :: va :: rest) Z) : G w y cc nL rt d Post pc lv (va :: rest) Z :=
  fun p e R s m args below meth c H locs cells slots ls hx hw hl => lv_dup2_2 hx.1 hx.2.1 hdg hva (k1 p e R s m args below meth c H locs cells slots ls hx hw hl)
theorem g_pop2_2 {va : Value} (hdg : decode cc pc = .ok (.pop2, 1)) (hva : va.category = 2) (k1 : G w y cc nL rt d Post (pc + 1) lv (rest) Z) : G w y cc nL rt d Post pc lv (va :: rest) Z :=
  fun p e R s m args below meth c H locs cells slots ls hx hw hl => lv_pop2_2 hx.1 hx.2.1 hdg hva (k1 p e R s m args below meth c H locs cells slots ls hx hw hl)
theorem g_pop2_11 {va vb : Value} (hdg : decode cc pc = .ok (.pop2, 1)) (hva : va.category = 1) (hvb : vb.category = 1) (k1 : G w y cc nL rt d Post (pc + 1) lv (rest) Z) : G w y cc nL rt d Post pc lv (va :: vb :: rest) Z :=
  fun p e R s m args below meth c H locs cells slots ls hx hw hl => lv_pop2_11 hx.1 hx.2.1 hdg hva hvb (k1 p e R s m args below meth c H locs cells slots ls hx hw hl)
theorem g_if_eq {x : Int32} {off : Int} {tgt : Nat} (hdg : decode cc pc = .ok (.ifCond .eq off, 3)) (ht : (pc : Int) + off = (tgt : Int)) (kt1 : x = 0 → G w y cc nL rt d Post tgt lv rest Z) (kf1 : ¬ x = 0 → G w y cc nL rt d Post (pc + 3) lv rest Z) : G w y cc nL rt d Post pc lv (.int x :: rest) Z :=
  fun p e R s m args below meth c H locs cells slots ls hx hw hl => lv_if_eq hx.1 hx.2.1 hdg ht (fun h9 => kt1 h9 p e R s m args below meth c H locs cells slots ls hx hw hl) (fun h9 => kf1 h9 p e R s m args below meth c H locs cells slots ls hx hw hl)
theorem g_if_ne {x : Int32} {off : Int} {tgt : Nat} (hdg : decode cc pc = .ok (.ifCond .ne off, 3)) (ht : (pc : Int) + off = (tgt : Int)) (kt1 : ¬ x = 0 → G w y cc nL rt d Post tgt lv rest Z) (kf1 : x = 0 → G w y cc nL rt d Post (pc + 3) lv rest Z) : G w y cc nL rt d Post pc lv (.int x :: rest) Z :=
  fun p e R s m args below meth c H locs cells slots ls hx hw hl => lv_if_ne hx.1 hx.2.1 hdg ht (fun h9 => kt1 h9 p e R s m args below meth c H locs cells slots ls hx hw hl) (fun h9 => kf1 h9 p e R s m args below meth c H locs cells slots ls hx hw hl)
theorem g_if_lt {x : Int32} {off : Int} {tgt : Nat} (hdg : decode cc pc = .ok (.ifCond .lt off, 3)) (ht : (pc : Int) + off = (tgt : Int)) (kt1 : x < 0 → G w y cc nL rt d Post tgt lv rest Z) (kf1 : ¬ x < 0 → G w y cc nL rt d Post (pc + 3) lv rest Z) : G w y cc nL rt d Post pc lv (.int x :: rest) Z :=
  fun p e R s m args below meth c H locs cells slots ls hx hw hl => lv_if_lt hx.1 hx.2.1 hdg ht (fun h9 => kt1 h9 p e R s m args below meth c H locs cells slots ls hx hw hl) (fun h9 => kf1 h9 p e R s m args below meth c H locs cells slots ls hx hw hl)
theorem g_if_ge {x : Int32} {off : Int} {tgt : Nat} (hdg : decode cc pc = .ok (.ifCond .ge off, 3)) (ht : (pc : Int) + off = (tgt : Int)) (kt1 : 0 ≤ x → G w y cc nL rt d Post tgt lv rest Z) (kf1 : ¬ 0 ≤ x → G w y cc nL rt d Post (pc + 3) lv rest Z) : G w y cc nL rt d Post pc lv (.int x :: rest) Z :=
  fun p e R s m args below meth c H locs cells slots ls hx hw hl => lv_if_ge hx.1 hx.2.1 hdg ht (fun h9 => kt1 h9 p e R s m args below meth c H locs cells slots ls hx hw hl) (fun h9 => kf1 h9 p e R s m args below meth c H locs cells slots ls hx hw hl)
theorem g_if_gt {x : Int32} {off : Int} {tgt : Nat} (hdg : decode cc pc = .ok (.ifCond .gt off, 3)) (ht : (pc : Int) + off = (tgt : Int)) (kt1 : 0 < x → G w y cc nL rt d Post tgt lv rest Z) (kf1 : ¬ 0 < x → G w y cc nL rt d Post (pc + 3) lv rest Z) : G w y cc nL rt d Post pc lv (.int x :: rest) Z :=
  fun p e R s m args below meth c H locs cells slots ls hx hw hl => lv_if_gt hx.1 hx.2.1 hdg ht (fun h9 => kt1 h9 p e R s m args below meth c H locs cells slots ls hx hw hl) (fun h9 => kf1 h9 p e R s m args below meth c H locs cells slots ls hx hw hl)
theorem g_if_le {x : Int32} {off : Int} {tgt : Nat} (hdg : decode cc pc = .ok (.ifCond .le off, 3)) (ht : (pc : Int) + off = (tgt : Int)) (kt1 : x ≤ 0 → G w y cc nL rt d Post tgt lv rest Z) (kf1 : ¬ x ≤ 0 → G w y cc nL rt d Post (pc + 3) lv rest Z) : G w y cc nL rt d Post pc lv (.int x :: rest) Z :=
  fun p e R s m args below meth c H locs cells slots ls hx hw hl => lv_if_le hx.1 hx.2.1 hdg ht (fun h9 => kt1 h9 p e R s m args below meth c H locs cells slots ls hx hw hl) (fun h9 => kf1 h9 p e R s m args below meth c H locs cells slots ls hx hw hl)
theorem g_icmp_eq {x z9 : Int32} {off : Int} {tgt : Nat} (hdg : decode cc pc = .ok (.if_icmp .eq off, 3)) (ht : (pc : Int) + off = (tgt : Int)) (kt1 : x = z9 → G w y cc nL rt d Post tgt lv rest Z) (kf1 : ¬ x = z9 → G w y cc nL rt d Post (pc + 3) lv rest Z) : G w y cc nL rt d Post pc lv (.int z9 :: .int x :: rest) Z :=
  fun p e R s m args below meth c H locs cells slots ls hx hw hl => lv_icmp_eq hx.1 hx.2.1 hdg ht (fun h9 => kt1 h9 p e R s m args below meth c H locs cells slots ls hx hw hl) (fun h9 => kf1 h9 p e R s m args below meth c H locs cells slots ls hx hw hl)
theorem g_icmp_ne {x z9 : Int32} {off : Int} {tgt : Nat} (hdg : decode cc pc = .ok (.if_icmp .ne off, 3)) (ht : (pc : Int) + off = (tgt : Int)) (kt1 : ¬ x = z9 → G w y cc nL rt d Post tgt lv rest Z) (kf1 : x = z9 → G w y cc nL rt d Post (pc + 3) lv rest Z) : G w y cc nL rt d Post pc lv (.int z9 :: .int x :: rest) Z :=
  fun p e R s m args below meth c H locs cells slots ls hx hw hl => lv_icmp_ne hx.1 hx.2.1 hdg ht (fun h9 => kt1 h9 p e R s m args below meth c H locs cells slots ls hx hw hl) (fun h9 => kf1 h9 p e R s m args below meth c H locs cells slots ls hx hw hl)
theorem g_icmp_lt {x z9 : Int32} {off : Int} {tgt : Nat} (hdg : decode cc pc = .ok (.if_icmp .lt off, 3)) (ht : (pc : Int) + off = (tgt : Int)) (kt1 : x < z9 → G w y cc nL rt d Post tgt lv rest Z) (kf1 : ¬ x < z9 → G w y cc nL rt d Post (pc + 3) lv rest Z) : G w y cc nL rt d Post pc lv (.int z9 :: .int x :: rest) Z :=
  fun p e R s m args below meth c H locs cells slots ls hx hw hl => lv_icmp_lt hx.1 hx.2.1 hdg ht (fun h9 => kt1 h9 p e R s m args below meth c H locs cells slots ls hx hw hl) (fun h9 => kf1 h9 p e R s m args below meth c H locs cells slots ls hx hw hl)
theorem g_icmp_ge {x z9 : Int32} {off : Int} {tgt : Nat} (hdg : decode cc pc = .ok (.if_icmp .ge off, 3)) (ht : (pc : Int) + off = (tgt : Int)) (kt1 : z9 ≤ x → G w y cc nL rt d Post tgt lv rest Z) (kf1 : ¬ z9 ≤ x → G w y cc nL rt d Post (pc + 3) lv rest Z) : G w y cc nL rt d Post pc lv (.int z9 :: .int x :: rest) Z :=
  fun p e R s m args below meth c H locs cells slots ls hx hw hl => lv_icmp_ge hx.1 hx.2.1 hdg ht (fun h9 => kt1 h9 p e R s m args below meth c H locs cells slots ls hx hw hl) (fun h9 => kf1 h9 p e R s m args below meth c H locs cells slots ls hx hw hl)
theorem g_icmp_gt {x z9 : Int32} {off : Int} {tgt : Nat} (hdg : decode cc pc = .ok (.if_icmp .gt off, 3)) (ht : (pc : Int) + off = (tgt : Int)) (kt1 : z9 < x → G w y cc nL rt d Post tgt lv rest Z) (kf1 : ¬ z9 < x → G w y cc nL rt d Post (pc + 3) lv rest Z) : G w y cc nL rt d Post pc lv (.int z9 :: .int x :: rest) Z :=
  fun p e R s m args below meth c H locs cells slots ls hx hw hl => lv_icmp_gt hx.1 hx.2.1 hdg ht (fun h9 => kt1 h9 p e R s m args below meth c H locs cells slots ls hx hw hl) (fun h9 => kf1 h9 p e R s m args below meth c H locs cells slots ls hx hw hl)
theorem g_icmp_le {x z9 : Int32} {off : Int} {tgt : Nat} (hdg : decode cc pc = .ok (.if_icmp .le off, 3)) (ht : (pc : Int) + off = (tgt : Int)) (kt1 : x ≤ z9 → G w y cc nL rt d Post tgt lv rest Z) (kf1 : ¬ x ≤ z9 → G w y cc nL rt d Post (pc + 3) lv rest Z) : G w y cc nL rt d Post pc lv (.int z9 :: .int x :: rest) Z :=
  fun p e R s m args below meth c H locs cells slots ls hx hw hl => lv_icmp_le hx.1 hx.2.1 hdg ht (fun h9 => kt1 h9 p e R s m args below meth c H locs cells slots ls hx hw hl) (fun h9 => kf1 h9 p e R s m args below meth c H locs cells slots ls hx hw hl)
theorem g_goto {off : Int} {tgt : Nat} (hdg : decode cc pc = .ok (.goto off, 3)) (ht : (pc : Int) + off = (tgt : Int)) (k1 : G w y cc nL rt d Post tgt lv rest Z) : G w y cc nL rt d Post pc lv rest Z :=
  fun p e R s m args below meth c H locs cells slots ls hx hw hl => lv_goto hx.1 hx.2.1 hdg ht (k1 p e R s m args below meth c H locs cells slots ls hx hw hl)
theorem g_ifnonnull {x : Nat} {off : Int} {tgt : Nat} (hdg : decode cc pc = .ok (.ifnonnull off, 3)) (ht : (pc : Int) + off = (tgt : Int)) (k1 : G w y cc nL rt d Post tgt lv rest Z) : G w y cc nL rt d Post pc lv (.ref x :: rest) Z :=
  fun p e R s m args below meth c H locs cells slots ls hx hw hl => lv_ifnonnull hx.1 hx.2.1 hdg ht (k1 p e R s m args below meth c H locs cells slots ls hx hw hl)
theorem g_ifnull {x : Nat} {off : Int} (hdg : decode cc pc = .ok (.ifnull off, 3)) (k1 : G w y cc nL rt d Post (pc + 3) lv rest Z) : G w y cc nL rt d Post pc lv (.ref x :: rest) Z :=
  fun p e R s m args below meth c H locs cells slots ls hx hw hl => lv_ifnull hx.1 hx.2.1 hdg (k1 p e R s m args below meth c H locs cells slots ls hx hw hl)
theorem g_null (hdg : decode cc pc = .ok (.aconst_null, 1)) (k1 : G w y cc nL rt d Post (pc + 1) lv (.null :: rest) Z) : G w y cc nL rt d Post pc lv rest Z :=
  fun p e R s m args below meth c H locs cells slots ls hx hw hl => lv_null hx.1 hx.2.1 hdg (k1 p e R s m args below meth c H locs cells slots ls hx hw hl)
theorem g_ifnullN {off : Int} {tgt : Nat} (hdg : decode cc pc = .ok (.ifnull off, 3)) (ht : (pc : Int) + off = (tgt : Int)) (k1 : G w y cc nL rt d Post tgt lv rest Z) : G w y cc nL rt d Post pc lv (.null :: rest) Z :=
  fun p e R s m args below meth c H locs cells slots ls hx hw hl => lv_ifnullN hx.1 hx.2.1 hdg ht (k1 p e R s m args below meth c H locs cells slots ls hx hw hl)
theorem g_ifnonnullN {off : Int} (hdg : decode cc pc = .ok (.ifnonnull off, 3)) (k1 : G w y cc nL rt d Post (pc + 3) lv rest Z) : G w y cc nL rt d Post pc lv (.null :: rest) Z :=
  fun p e R s m args below meth c H locs cells slots ls hx hw hl => lv_ifnonnullN hx.1 hx.2.1 hdg (k1 p e R s m args below meth c H locs cells slots ls hx hw hl)
theorem g_lookup {dflt : Int} {ps : Array (Int × Int)} {len : Nat} {x : Int32} {off : Int} {tgt : Nat} (hdg : decode cc pc = .ok (.lookupswitch dflt ps, len)) (hp : (ps.toList.zip (ps.toList.drop 1)).all (fun (a, next) => a.1 < next.1) = true) (ho : Op.lookupswitch.offset ps.toList dflt x.toInt = off) (ht : (pc : Int) + off = (tgt : Int)) (k1 : G w y cc nL rt d Post tgt lv rest Z) : G w y cc nL rt d Post pc lv (.int x :: rest) Z :=
  fun p e R s m args below meth c H locs cells slots ls hx hw hl => lv_lookup hx.1 hx.2.1 hdg hp ho ht (k1 p e R s m args below meth c H locs cells slots ls hx hw hl)
theorem g_tableOut {dflt lo hi : Int} {offs : Array Int} {len : Nat} {x : Int32} {tgt : Nat} (hdg : decode cc pc = .ok (.tableswitch dflt lo hi offs, len)) (h : x.toInt < lo ∨ hi < x.toInt) (ht : (pc : Int) + dflt = (tgt : Int)) (k1 : G w y cc nL rt d Post tgt lv rest Z) : G w y cc nL rt d Post pc lv (.int x :: rest) Z :=
  fun p e R s m args below meth c H locs cells slots ls hx hw hl => lv_tableOut hx.1 hx.2.1 hdg h ht (k1 p e R s m args below meth c H locs cells slots ls hx hw hl)
theorem g_tableIn {dflt lo hi : Int} {offs : Array Int} {len : Nat} {x : Int32} {off : Int} {tgt : Nat} (hdg : decode cc pc = .ok (.tableswitch dflt lo hi offs, len)) (h1 : ¬ x.toInt < lo) (h2 : ¬ hi < x.toInt) (ho : offs[(x.toInt - lo).toNat]? = some off) (ht : (pc : Int) + off = (tgt : Int)) (k1 : G w y cc nL rt d Post tgt lv rest Z) : G w y cc nL rt d Post pc lv (.int x :: rest) Z :=
  fun p e R s m args below meth c H locs cells slots ls hx hw hl => lv_tableIn hx.1 hx.2.1 hdg h1 h2 ho ht (k1 p e R s m args below meth c H locs cells slots ls hx hw hl)
theorem g_acmp_eq {rx ry : Option Nat} {off : Int} {tgt : Nat} (hdg : decode cc pc = .ok (.if_acmp .eq off, 3)) (ht : (pc : Int) + off = (tgt : Int)) (kt1 : rx = ry → G w y cc nL rt d Post tgt lv rest Z) (kf1 : ¬ rx = ry → G w y cc nL rt d Post (pc + 3) lv rest Z) : G w y cc nL rt d Post pc lv (va_rf ry :: va_rf rx :: rest) Z :=
  fun p e R s m args below meth c H locs cells slots ls hx hw hl => lv_acmp_eq hx.1 hx.2.1 hdg ht (fun h9 => kt1 h9 p e R s m args below meth c H locs cells slots ls hx hw hl) (fun h9 => kf1 h9 p e R s m args below meth c H locs cells slots ls hx hw hl)
theorem g_acmp_ne {rx ry : Option Nat} {off : Int} {tgt : Nat} (hdg : decode cc pc = .ok (.if_acmp .ne off, 3)) (ht : (pc : Int) + off = (tgt : Int)) (kt1 : ¬ rx = ry → G w y cc nL rt d Post tgt lv rest Z) (kf1 : rx = ry → G w y cc nL rt d Post (pc + 3) lv rest Z) : G w y cc nL rt d Post pc lv (va_rf ry :: va_rf rx :: rest) Z :=
  fun p e R s m args below meth c H locs cells slots ls hx hw hl => lv_acmp_ne hx.1 hx.2.1 hdg ht (fun h9 => kt1 h9 p e R s m args below meth c H locs cells slots ls hx hw hl) (fun h9 => kf1 h9 p e R s m args below meth c H locs cells slots ls hx hw hl)
theorem g_iload_n {k : Fin 4} {i : Nat} {x : Int32} (hdg : decode cc pc = .ok (.iload_n k, 1)) (hi : (k : Nat) = i) (n : Nat) (hk : lv[n]? = some (i, .int x)) (k1 : G w y cc nL rt d Post (pc + 1) lv (.int x :: rest) Z) : G w y cc nL rt d Post pc lv (rest) Z :=
  fun p e R s m args below meth c H locs cells slots ls hx hw hl => lv_iload_n hx.1 hx.2.1 hdg hi (lv_at hl n hk) (k1 p e R s m args below meth c H locs cells slots ls hx hw hl)
theorem g_iload {i : Nat} {x : Int32} (hdg : decode cc pc = .ok (.iload i, 2)) (n : Nat) (hk : lv[n]? = some (i, .int x)) (k1 : G w y cc nL rt d Post (pc + 2) lv (.int x :: rest) Z) : G w y cc nL rt d Post pc lv (rest) Z :=
  fun p e R s m args below meth c H locs cells slots ls hx hw hl => lv_iload hx.1 hx.2.1 hdg (lv_at hl n hk) (k1 p e R s m args below meth c H locs cells slots ls hx hw hl)
theorem g_lload_n {k : Fin 4} {i : Nat} {x : Int64} (hdg : decode cc pc = .ok (.lload_n k, 1)) (hi : (k : Nat) = i) (n : Nat) (hk : lv[n]? = some (i, .long x)) (k1 : G w y cc nL rt d Post (pc + 1) lv (.long x :: rest) Z) : G w y cc nL rt d Post pc lv (rest) Z :=
  fun p e R s m args below meth c H locs cells slots ls hx hw hl => lv_lload_n hx.1 hx.2.1 hdg hi (lv_at hl n hk) (k1 p e R s m args below meth c H locs cells slots ls hx hw hl)
theorem g_lload {i : Nat} {x : Int64} (hdg : decode cc pc = .ok (.lload i, 2)) (n : Nat) (hk : lv[n]? = some (i, .long x)) (k1 : G w y cc nL rt d Post (pc + 2) lv (.long x :: rest) Z) : G w y cc nL rt d Post pc lv (rest) Z :=
  fun p e R s m args below meth c H locs cells slots ls hx hw hl => lv_lload hx.1 hx.2.1 hdg (lv_at hl n hk) (k1 p e R s m args below meth c H locs cells slots ls hx hw hl)
theorem g_aload_n {k : Fin 4} {i : Nat} {x : Nat} (hdg : decode cc pc = .ok (.aload_n k, 1)) (hi : (k : Nat) = i) (n : Nat) (hk : lv[n]? = some (i, .ref x)) (k1 : G w y cc nL rt d Post (pc + 1) lv (.ref x :: rest) Z) : G w y cc nL rt d Post pc lv (rest) Z :=
  fun p e R s m args below meth c H locs cells slots ls hx hw hl => lv_aload_n hx.1 hx.2.1 hdg hi (lv_at hl n hk) (k1 p e R s m args below meth c H locs cells slots ls hx hw hl)
theorem g_aload {i : Nat} {x : Nat} (hdg : decode cc pc = .ok (.aload i, 2)) (n : Nat) (hk : lv[n]? = some (i, .ref x)) (k1 : G w y cc nL rt d Post (pc + 2) lv (.ref x :: rest) Z) : G w y cc nL rt d Post pc lv (rest) Z :=
  fun p e R s m args below meth c H locs cells slots ls hx hw hl => lv_aload hx.1 hx.2.1 hdg (lv_at hl n hk) (k1 p e R s m args below meth c H locs cells slots ls hx hw hl)
theorem g_aload_nN {k : Fin 4} {i : Nat} (hdg : decode cc pc = .ok (.aload_n k, 1)) (hi : (k : Nat) = i) (n : Nat) (hk : lv[n]? = some (i, .null)) (k1 : G w y cc nL rt d Post (pc + 1) lv (.null :: rest) Z) : G w y cc nL rt d Post pc lv (rest) Z :=
  fun p e R s m args below meth c H locs cells slots ls hx hw hl => lv_aload_nN hx.1 hx.2.1 hdg hi (lv_at hl n hk) (k1 p e R s m args below meth c H locs cells slots ls hx hw hl)
theorem g_aloadN {i : Nat} (hdg : decode cc pc = .ok (.aload i, 2)) (n : Nat) (hk : lv[n]? = some (i, .null)) (k1 : G w y cc nL rt d Post (pc + 2) lv (.null :: rest) Z) : G w y cc nL rt d Post pc lv (rest) Z :=
  fun p e R s m args below meth c H locs cells slots ls hx hw hl => lv_aloadN hx.1 hx.2.1 hdg (lv_at hl n hk) (k1 p e R s m args below meth c H locs cells slots ls hx hw hl)
theorem g_istore_n {k : Fin 4} {i : Nat} {x : Int32} {lv' : List (Nat × Value)} (hdg : decode cc pc = .ok (.istore_n k, 1)) (hi : (k : Nat) = i) (hn : i < nL) (hlv : (i, Value.int x) :: lv.filter (fun q => !(q.1 == i) && !(q.1 + 1 == i && q.2.category == 2)) = lv') (kk : G w y cc nL rt d Post (pc + 1) lv' rest Z) : G w y cc nL rt d Post pc lv (.int x :: rest) Z :=
  fun p e R s m args below meth c H locs cells slots ls hx hw hl => lv_istore_n hx.1 hx.2.1 hdg hi hl hn hlv (fun ls' hl' => kk p e R s m args below meth c H locs cells slots ls' hx hw hl')
theorem g_istore {i : Nat} {x : Int32} {lv' : List (Nat × Value)} (hdg : decode cc pc = .ok (.istore i, 2)) (hn : i < nL) (hlv : (i, Value.int x) :: lv.filter (fun q => !(q.1 == i) && !(q.1 + 1 == i && q.2.category == 2)) = lv') (kk : G w y cc nL rt d Post (pc + 2) lv' rest Z) : G w y cc nL rt d Post pc lv (.int x :: rest) Z :=
  fun p e R s m args below meth c H locs cells slots ls hx hw hl => lv_istore hx.1 hx.2.1 hdg hl hn hlv (fun ls' hl' => kk p e R s m args below meth c H locs cells slots ls' hx hw hl')
theorem g_lstore_n {k : Fin 4} {i : Nat} {x : Int64} {lv' : List (Nat × Value)} (hdg : decode cc pc = .ok (.lstore_n k, 1)) (hi : (k : Nat) = i) (hn : i + 1 < nL) (hlv : (i, Value.long x) :: lv.filter (fun q => !(q.1 == i) && (!(q.1 == i + 1) && !(q.1 + 1 == i && q.2.category == 2))) = lv') (kk : G w y cc nL rt d Post (pc + 1) lv' rest Z) : G w y cc nL rt d Post pc lv (.long x :: rest) Z :=
  fun p e R s m args below meth c H locs cells slots ls hx hw hl => lv_lstore_n hx.1 hx.2.1 hdg hi hl hn hlv (fun ls' hl' => kk p e R s m args below meth c H locs cells slots ls' hx hw hl')
theorem g_lstore {i : Nat} {x : Int64} {lv' : List (Nat × Value)} (hdg : decode cc pc = .ok (.lstore i, 2)) (hn : i + 1 < nL) (hlv : (i, Value.long x) :: lv.filter (fun q => !(q.1 == i) && (!(q.1 == i + 1) && !(q.1 + 1 == i && q.2.category == 2))) = lv') (kk : G w y cc nL rt d Post (pc + 2) lv' rest Z) : G w y cc nL rt d Post pc lv (.long x :: rest) Z :=
  fun p e R s m args below meth c H locs cells slots ls hx hw hl => lv_lstore hx.1 hx.2.1 hdg hl hn hlv (fun ls' hl' => kk p e R s m args below meth c H locs cells slots ls' hx hw hl')
theorem g_astore_n {k : Fin 4} {i : Nat} {x : Nat} {lv' : List (Nat × Value)} (hdg : decode cc pc = .ok (.astore_n k, 1)) (hi : (k : Nat) = i) (hn : i < nL) (hlv : (i, Value.ref x) :: lv.filter (fun q => !(q.1 == i) && !(q.1 + 1 == i && q.2.category == 2)) = lv') (kk : G w y cc nL rt d Post (pc + 1) lv' rest Z) : G w y cc nL rt d Post pc lv (.ref x :: rest) Z :=
  fun p e R s m args below meth c H locs cells slots ls hx hw hl => lv_astore_n hx.1 hx.2.1 hdg hi hl hn hlv (fun ls' hl' => kk p e R s m args below meth c H locs cells slots ls' hx hw hl')
theorem g_astore {i : Nat} {x : Nat} {lv' : List (Nat × Value)} (hdg : decode cc pc = .ok (.astore i, 2)) (hn : i < nL) (hlv : (i, Value.ref x) :: lv.filter (fun q => !(q.1 == i) && !(q.1 + 1 == i && q.2.category == 2)) = lv') (kk : G w y cc nL rt d Post (pc + 2) lv' rest Z) : G w y cc nL rt d Post pc lv (.ref x :: rest) Z :=
  fun p e R s m args below meth c H locs cells slots ls hx hw hl => lv_astore hx.1 hx.2.1 hdg hl hn hlv (fun ls' hl' => kk p e R s m args below meth c H locs cells slots ls' hx hw hl')
theorem g_astore_nN {k : Fin 4} {i : Nat} {lv' : List (Nat × Value)} (hdg : decode cc pc = .ok (.astore_n k, 1)) (hi : (k : Nat) = i) (hn : i < nL) (hlv : (i, Value.null) :: lv.filter (fun q => !(q.1 == i) && !(q.1 + 1 == i && q.2.category == 2)) = lv') (kk : G w y cc nL rt d Post (pc + 1) lv' rest Z) : G w y cc nL rt d Post pc lv (.null :: rest) Z :=
  fun p e R s m args below meth c H locs cells slots ls hx hw hl => lv_astore_nN hx.1 hx.2.1 hdg hi hl hn hlv (fun ls' hl' => kk p e R s m args below meth c H locs cells slots ls' hx hw hl')
theorem g_astoreN {i : Nat} {lv' : List (Nat × Value)} (hdg : decode cc pc = .ok (.astore i, 2)) (hn : i < nL) (hlv : (i, Value.null) :: lv.filter (fun q => !(q.1 == i) && !(q.1 + 1 == i && q.2.category == 2)) = lv') (kk : G w y cc nL rt d Post (pc + 2) lv' rest Z) : G w y cc nL rt d Post pc lv (.null :: rest) Z :=
  fun p e R s m args below meth c H locs cells slots ls hx hw hl => lv_astoreN hx.1 hx.2.1 hdg hl hn hlv (fun ls' hl' => kk p e R s m args below meth c H locs cells slots ls' hx hw hl')
theorem g_iinc {i k : Nat} {n : Int} {x v : Int32} {lv' : List (Nat × Value)} (hdg : decode cc pc = .ok (.iinc i n, 3)) (hk : lv[k]? = some (i, .int x)) (hv : x + Int32.ofInt n = v) (hn : i < nL) (hlv : (i, Value.int v) :: lv.filter (fun q => !(q.1 == i) && !(q.1 + 1 == i && q.2.category == 2)) = lv') (kk : G w y cc nL rt d Post (pc + 3) lv' rest Z) : G w y cc nL rt d Post pc lv rest Z :=
  fun p e R s m args below meth c H locs cells slots ls hx hw hl => lv_iinc hx.1 hx.2.1 hdg hl hk hv hn hlv (fun ls' hl' => kk p e R s m args below meth c H locs cells slots ls' hx hw hl')
theorem g_castN {index : Nat} (hdg : decode cc pc = .ok (.checkcast index, 3)) (k1 : G w y cc nL rt d Post (pc + 3) lv (.null :: rest) Z) : G w y cc nL rt d Post pc lv (.null :: rest) Z :=
  fun p e R s m args below meth c H locs cells slots ls hx hw hl => lv_castN hx.1 hx.2.1 hdg (k1 p e R s m args below meth c H locs cells slots ls hx hw hl)
theorem g_instN {index : Nat} (hdg : decode cc pc = .ok (.instanceof index, 3)) (k1 : G w y cc nL rt d Post (pc + 3) lv (.int 0 :: rest) Z) : G w y cc nL rt d Post pc lv (.null :: rest) Z :=
  fun p e R s m args below meth c H locs cells slots ls hx hw hl => lv_instN hx.1 hx.2.1 hdg (k1 p e R s m args below meth c H locs cells slots ls hx hw hl)
theorem g_ldc {index : Nat} {v : Int32} (hconst : (Jvm.Cond.constant y.cls index v) ∈ wz) (hdg : decode cc pc = .ok (.ldc index, 2)) (k1 : G w y cc nL rt d Post (pc + 2) lv (.int v :: rest) Z) : G w y cc nL rt d Post pc lv rest Z :=
  fun p e R s m args below meth c H locs cells slots ls hx hw hl => lv_ldc hx.1 hx.2.1 hx.2.2.2.1 (hx.2.2.2.2.1 _ hconst) hdg (k1 p e R s m args below meth c H locs cells slots ls hx hw hl)
theorem g_ldc2 {index : Nat} {v : Int64} (hconst : (Jvm.Cond.constantLong y.cls index v) ∈ wz) (hdg : decode cc pc = .ok (.ldc2_w index, 3)) (k1 : G w y cc nL rt d Post (pc + 3) lv (.long v :: rest) Z) : G w y cc nL rt d Post pc lv rest Z :=
  fun p e R s m args below meth c H locs cells slots ls hx hw hl => lv_ldc2 hx.1 hx.2.1 hx.2.2.2.1 (hx.2.2.2.2.1 _ hconst) hdg (k1 p e R s m args below meth c H locs cells slots ls hx hw hl)
theorem g_lcmp {x z9 : Int64} (hdg : decode cc pc = .ok (.lcmp, 1)) (k1 : G w y cc nL rt d Post (pc + 1) lv (.int (lg_cmp x z9) :: rest) Z) : G w y cc nL rt d Post pc lv (.long z9 :: .long x :: rest) Z :=
  fun p e R s m args below meth c H locs cells slots ls hx hw hl => W.lcmp hx.1 hx.2.1 hdg (k1 p e R s m args below meth c H locs cells slots ls hx hw hl)
/-- a reference, null or not, from and to a local -/
theorem g_aload_nq {k : Fin 4} {i : Nat} {v : Value} (hdg : decode cc pc = .ok (.aload_n k, 1)) (hi : (k : Nat) = i) (n : Nat) (hk : lv[n]? = some (i, v)) (k1 : G w y cc nL rt d Post (pc + 1) lv (v :: rest) Z) (hv : v = .null ∨ ∃ a, v = .ref a := by first | exact Or.inr ⟨_, rfl⟩ | exact Or.inl rfl | exact va_rf_or _) : G w y cc nL rt d Post pc lv rest Z := by
  rcases hv with rfl | ⟨a, rfl⟩
  · exact g_aload_nN hdg hi n hk k1
  · exact g_aload_n hdg hi n hk k1
theorem g_aloadq {i : Nat} {v : Value} (hdg : decode cc pc = .ok (.aload i, 2)) (n : Nat) (hk : lv[n]? = some (i, v)) (k1 : G w y cc nL rt d Post (pc + 2) lv (v :: rest) Z) (hv : v = .null ∨ ∃ a, v = .ref a := by first | exact Or.inr ⟨_, rfl⟩ | exact Or.inl rfl | exact va_rf_or _) : G w y cc nL rt d Post pc lv rest Z := by
  rcases hv with rfl | ⟨a, rfl⟩
  · exact g_aloadN hdg n hk k1
  · exact g_aload hdg n hk k1
theorem g_astore_nq {k : Fin 4} {i : Nat} {v : Value} {lv' : List (Nat × Value)} (hdg : decode cc pc = .ok (.astore_n k, 1)) (hi : (k : Nat) = i) (hn : i < nL) (hlv : (i, v) :: lv.filter (fun q => !(q.1 == i) && !(q.1 + 1 == i && q.2.category == 2)) = lv') (kk : G w y cc nL rt d Post (pc + 1) lv' rest Z) (hv : v = .null ∨ ∃ a, v = .ref a := by first | exact Or.inr ⟨_, rfl⟩ | exact Or.inl rfl | exact va_rf_or _) : G w y cc nL rt d Post pc lv (v :: rest) Z := by
  rcases hv with rfl | ⟨a, rfl⟩
  · exact g_astore_nN hdg hi hn hlv kk
  · exact g_astore_n hdg hi hn hlv kk
theorem g_astoreq {i : Nat} {v : Value} {lv' : List (Nat × Value)} (hdg : decode cc pc = .ok (.astore i, 2)) (hn : i < nL) (hlv : (i, v) :: lv.filter (fun q => !(q.1 == i) && !(q.1 + 1 == i && q.2.category == 2)) = lv') (kk : G w y cc nL rt d Post (pc + 2) lv' rest Z) (hv : v = .null ∨ ∃ a, v = .ref a := by first | exact Or.inr ⟨_, rfl⟩ | exact Or.inl rfl | exact va_rf_or _) : G w y cc nL rt d Post pc lv (v :: rest) Z := by
  rcases hv with rfl | ⟨a, rfl⟩
  · exact g_astoreN hdg hn hlv kk
  · exact g_astore hdg hn hlv kk
theorem g_ifnullq {r : Option Nat} {off : Int} {tgt : Nat} (hdg : decode cc pc = .ok (.ifnull off, 3)) (ht : (pc : Int) + off = (tgt : Int)) (kt1 : r = none → G w y cc nL rt d Post tgt lv rest Z) (kf1 : ∀ a, r = some a → G w y cc nL rt d Post (pc + 3) lv rest Z) : G w y cc nL rt d Post pc lv (va_rf r :: rest) Z := by
  cases r with
  | none => exact g_ifnullN hdg ht (kt1 rfl)
  | some a => exact g_ifnull hdg (kf1 a rfl)
theorem g_ifnonnullq {r : Option Nat} {off : Int} {tgt : Nat} (hdg : decode cc pc = .ok (.ifnonnull off, 3)) (ht : (pc : Int) + off = (tgt : Int)) (kt1 : ∀ a, r = some a → G w y cc nL rt d Post tgt lv rest Z) (kf1 : r = none → G w y cc nL rt d Post (pc + 3) lv rest Z) : G w y cc nL rt d Post pc lv (va_rf r :: rest) Z := by
  cases r with
  | none => exact g_ifnonnullN hdg (kf1 rfl)
  | some a => exact g_ifnonnull hdg ht (kt1 a rfl)
theorem g_get {idx ci k a : Nat} {fs : List Value} {v : Value} (hdg : decode cc pc = .ok (.getfield idx, 3)) (F : zF y.cls idx ci k) (h : zhs Z a (.inr (ci, fs))) (hv : fs[k]? = some v) (k1 : G w y cc nL rt d Post (pc + 3) lv (v :: rest) Z) : G w y cc nL rt d Post pc lv (.ref a :: rest) Z :=
  fun p e R s m args below meth c H locs cells slots ls hx hw hl => by
    obtain ⟨C, T, N, hc, hk, hin, hlink⟩ := F
    obtain ⟨q0, hq⟩ := zpos h
    exact va_get (D := w.2.1) hx.1 hx.2.1 hx.2.2.2.2.1 hin hx.2.2.2.1 hw.2.1.1 hw.2.2.2.2.1 q0 hq hc k hk (hx.2.2.2.2.1 _ hlink) (fun _ h9 => h9) hv hdg (k1 p e R s m args below meth c H locs cells slots ls hx hw hl)
theorem zW.put {Z' : zZ} {R : Room} {s : State} {H H1 : Heap} {locs locs1 : List Loc} {cells slots : Nat} (hw : zW w d Z R s H locs cells slots) (hP : va_P w.2.1 vwCl (zpl Z') H1) (hD : va_D w.2.2.1 (zpl Z')) (hS : va_S w.2.2.1 s.heap H1 locs1) (h1 : Z'.2.2.1 = Z.2.2.1) (h2 : Z'.2.2.2 = Z.2.2.2) : zW w d Z' R s H1 locs1 cells slots := by
  obtain ⟨a1, a2, a3, a4, -, -, -, b1, b2, b3, b4⟩ := hw
  exact ⟨a1, a2, a3, a4, hP, hD, hS, by rw [h1]; exact b1, by rw [h2]; exact b2, b3, b4⟩
theorem g_put {idx ci k a : Nat} {fs : List Value} {v : Value} {ty : FieldType} (hdg : decode cc pc = .ok (.putfield idx, 3)) (F : zFp y.cls idx ci k ty false) (h : zhs Z a (.inr (ci, fs))) (hn : narrow ty v = v) (hfit : fits ty v = true) (hl9 : k < fs.length) (k1 : G w y cc nL rt d Post (pc + 3) lv rest (zput Z a (.inr (ci, fs.set k v)))) : G w y cc nL rt d Post pc lv (v :: .ref a :: rest) Z :=
  fun p e R s m args below meth c H locs cells slots ls hx hw hl => by
    obtain ⟨C, T, N, ty0, hc, hk, hin, hlink, hty, hnm, hfin, hd, -⟩ := F
    obtain ⟨q0, hq⟩ := zpos h
    refine va_put (D := w.2.1) hx.1 hx.2.1 hx.2.2.2.2.1 hin ty0 hty hnm hx.2.2.2.1 hw.2.1.1 hw.2.2.2.2.1 hw.2.2.2.2.2.1 hw.2.2.2.2.2.2.1 q0 hq hc k hk (hx.2.2.2.2.1 _ hlink) (fun _ h9 => h9) hfin hd hn hfit hl9 hdg (fun H1 locs1 hP hD hS => ?_)
    rw [zset hw.2.2.2.2.2.1 h hq] at hP hD
    exact k1 p e R s m args below meth c H1 locs1 cells slots ls hx (hw.put hP hD hS rfl rfl) hl
theorem g_putF {idx ci k a : Nat} {fs : List Value} {v : Value} {ty : FieldType} (hdg : decode cc pc = .ok (.putfield idx, 3)) (F : zFp y.cls idx ci k ty true) (hy : y.name = "<init>") (h : zhs Z a (.inr (ci, fs))) (hn : narrow ty v = v) (hfit : fits ty v = true) (hl9 : k < fs.length) (k1 : G w y cc nL rt d Post (pc + 3) lv rest (zput Z a (.inr (ci, fs.set k v)))) : G w y cc nL rt d Post pc lv (v :: .ref a :: rest) Z :=
  fun p e R s m args below meth c H locs cells slots ls hx hw hl => by
    obtain ⟨C, T, N, ty0, hc, hk, hin, hlink, hty, hnm, hfin, hd, hdecl⟩ := F
    obtain ⟨q0, hq⟩ := zpos h
    refine va_putF (D := w.2.1) hx.1 hx.2.1 hx.2.2.2.2.1 hin ty0 hty hnm hx.2.2.2.1 hw.2.1.1 hw.2.2.2.2.1 hw.2.2.2.2.2.1 hw.2.2.2.2.2.2.1 q0 hq hc k hk (hx.2.2.2.2.1 _ hlink) (fun _ h9 => h9) hfin ((hx.2.2.2.2.2.2.2.1 hy).trans hy) (hdecl rfl) hd hn hfit hl9 hdg (fun H1 locs1 hP hD hS => ?_)
    rw [zset hw.2.2.2.2.2.1 h hq] at hP hD
    exact k1 p e R s m args below meth c H1 locs1 cells slots ls hx (hw.put hP hD hS rfl rfl) hl
theorem g_iald {a n : Nat} {f : Nat → Int32} {i : Int32} (hdg : decode cc pc = .ok (.iaload, 1)) (h : zhs Z a (.inl (w.2.2.2.1 0, n, .inl f))) (hin : vp_in i n) (k1 : G w y cc nL rt d Post (pc + 1) lv (.int (f i.toNatClampNeg) :: rest) Z) : G w y cc nL rt d Post pc lv (.int i :: .ref a :: rest) Z :=
  fun p e R s m args below meth c H locs cells slots ls hx hw hl => by
    obtain ⟨q0, hq⟩ := zpos h
    exact va_iald (D := w.2.1) hx.1 hx.2.1 hw.2.1.1 hw.2.2.2.2.1 q0 0 hq rfl hin hdg (k1 p e R s m args below meth c H locs cells slots ls hx hw hl)
theorem g_lald {a n : Nat} {f : Nat → Int64} {i : Int32} (hdg : decode cc pc = .ok (.laload, 1)) (h : zhs Z a (.inl (w.2.2.2.1 1, n, .inr (.inl f)))) (hin : vp_in i n) (k1 : G w y cc nL rt d Post (pc + 1) lv (.long (f i.toNatClampNeg) :: rest) Z) : G w y cc nL rt d Post pc lv (.int i :: .ref a :: rest) Z :=
  fun p e R s m args below meth c H locs cells slots ls hx hw hl => by
    obtain ⟨q0, hq⟩ := zpos h
    exact va_lald (D := w.2.1) hx.1 hx.2.1 hw.2.1.1 hw.2.2.2.2.1 q0 1 hq rfl hin hdg (k1 p e R s m args below meth c H locs cells slots ls hx hw hl)
theorem g_zald {a n : Nat} {f : Nat → Int32} {i : Int32} (hdg : decode cc pc = .ok (.baload, 1)) (h : zhs Z a (.inl (w.2.2.2.1 2, n, .inl f))) (hin : vp_in i n) (k1 : G w y cc nL rt d Post (pc + 1) lv (.int (f i.toNatClampNeg) :: rest) Z) : G w y cc nL rt d Post pc lv (.int i :: .ref a :: rest) Z :=
  fun p e R s m args below meth c H locs cells slots ls hx hw hl => by
    obtain ⟨q0, hq⟩ := zpos h
    exact va_zald (D := w.2.1) hx.1 hx.2.1 hw.2.1.1 hw.2.2.2.2.1 q0 2 hq rfl hin hdg (k1 p e R s m args below meth c H locs cells slots ls hx hw hl)
theorem g_cald {a n : Nat} {f : Nat → Int32} {i : Int32} (hdg : decode cc pc = .ok (.caload, 1)) (h : zhs Z a (.inl (w.2.2.2.1 3, n, .inl f))) (hin : vp_in i n) (k1 : G w y cc nL rt d Post (pc + 1) lv (.int (f i.toNatClampNeg) :: rest) Z) : G w y cc nL rt d Post pc lv (.int i :: .ref a :: rest) Z :=
  fun p e R s m args below meth c H locs cells slots ls hx hw hl => by
    obtain ⟨q0, hq⟩ := zpos h
    exact va_cald (D := w.2.1) hx.1 hx.2.1 hw.2.1.1 hw.2.2.2.2.1 q0 3 hq rfl hin hdg (k1 p e R s m args below meth c H locs cells slots ls hx hw hl)
theorem g_iast {a n : Nat} {f : Nat → Int32} {i : Int32} {x : Int32} (hdg : decode cc pc = .ok (.iastore, 1)) (h : zhs Z a (.inl (w.2.2.2.1 0, n, .inl f))) (hin : vp_in i n) (k1 : G w y cc nL rt d Post (pc + 1) lv rest (zput Z a (.inl (w.2.2.2.1 0, n, .inl (upd f i.toNatClampNeg x))))) : G w y cc nL rt d Post pc lv (.int x :: .int i :: .ref a :: rest) Z :=
  fun p e R s m args below meth c H locs cells slots ls hx hw hl => by
    obtain ⟨q0, hq⟩ := zpos h
    refine va_iast (D := w.2.1) hx.1 hx.2.1 hw.2.1.1 hw.2.2.2.2.1 hw.2.2.2.2.2.1 hw.2.2.2.2.2.2.1 q0 0 hq rfl hin hdg (fun H1 locs1 hP hD hS => ?_)
    rw [zset hw.2.2.2.2.2.1 h hq] at hP hD
    exact k1 p e R s m args below meth c H1 locs1 cells slots ls hx (hw.put hP hD hS rfl rfl) hl
theorem g_last {a n : Nat} {f : Nat → Int64} {i : Int32} {x : Int64} (hdg : decode cc pc = .ok (.lastore, 1)) (h : zhs Z a (.inl (w.2.2.2.1 1, n, .inr (.inl f)))) (hin : vp_in i n) (k1 : G w y cc nL rt d Post (pc + 1) lv rest (zput Z a (.inl (w.2.2.2.1 1, n, .inr (.inl (vp_updL f i.toNatClampNeg x)))))) : G w y cc nL rt d Post pc lv (.long x :: .int i :: .ref a :: rest) Z :=
  fun p e R s m args below meth c H locs cells slots ls hx hw hl => by
    obtain ⟨q0, hq⟩ := zpos h
    refine va_last (D := w.2.1) hx.1 hx.2.1 hw.2.1.1 hw.2.2.2.2.1 hw.2.2.2.2.2.1 hw.2.2.2.2.2.2.1 q0 1 hq rfl hin hdg (fun H1 locs1 hP hD hS => ?_)
    rw [zset hw.2.2.2.2.2.1 h hq] at hP hD
    exact k1 p e R s m args below meth c H1 locs1 cells slots ls hx (hw.put hP hD hS rfl rfl) hl
theorem g_zast {a n : Nat} {f : Nat → Int32} {i : Int32} {x : Int32} (hdg : decode cc pc = .ok (.bastore, 1)) (h : zhs Z a (.inl (w.2.2.2.1 2, n, .inl f))) (hin : vp_in i n) (k1 : G w y cc nL rt d Post (pc + 1) lv rest (zput Z a (.inl (w.2.2.2.1 2, n, .inl (upd f i.toNatClampNeg (vp_nar .boolean x)))))) : G w y cc nL rt d Post pc lv (.int x :: .int i :: .ref a :: rest) Z :=
  fun p e R s m args below meth c H locs cells slots ls hx hw hl => by
    obtain ⟨q0, hq⟩ := zpos h
    refine va_zast (D := w.2.1) hx.1 hx.2.1 hw.2.1.1 hw.2.2.2.2.1 hw.2.2.2.2.2.1 hw.2.2.2.2.2.2.1 q0 2 hq rfl hin hdg (fun H1 locs1 hP hD hS => ?_)
    rw [zset hw.2.2.2.2.2.1 h hq] at hP hD
    exact k1 p e R s m args below meth c H1 locs1 cells slots ls hx (hw.put hP hD hS rfl rfl) hl
theorem g_cast {a n : Nat} {f : Nat → Int32} {i : Int32} {x : Int32} (hdg : decode cc pc = .ok (.castore, 1)) (h : zhs Z a (.inl (w.2.2.2.1 3, n, .inl f))) (hin : vp_in i n) (k1 : G w y cc nL rt d Post (pc + 1) lv rest (zput Z a (.inl (w.2.2.2.1 3, n, .inl (upd f i.toNatClampNeg (vp_nar .char x)))))) : G w y cc nL rt d Post pc lv (.int x :: .int i :: .ref a :: rest) Z :=
  fun p e R s m args below meth c H locs cells slots ls hx hw hl => by
    obtain ⟨q0, hq⟩ := zpos h
    refine va_cast (D := w.2.1) hx.1 hx.2.1 hw.2.1.1 hw.2.2.2.2.1 hw.2.2.2.2.2.1 hw.2.2.2.2.2.2.1 q0 3 hq rfl hin hdg (fun H1 locs1 hP hD hS => ?_)
    rw [zset hw.2.2.2.2.2.1 h hq] at hP hD
    exact k1 p e R s m args below meth c H1 locs1 cells slots ls hx (hw.put hP hD hS rfl rfl) hl
theorem g_alen {a n : Nat} {cA : ClassId} {u : (Nat → Int32) ⊕ (Nat → Int64) ⊕ (Nat → UInt32) ⊕ (Nat → UInt64) ⊕ (Nat → Option Nat)} {ty : FieldType} (hdg : decode cc pc = .ok (.arraylength, 1)) (t : Nat) (h : zhs Z a (.inl (cA, n, u))) (ht : (zTys w.2.2.2.1)[t]? = some (cA, ty)) (k1 : G w y cc nL rt d Post (pc + 1) lv (.int (nI n) :: rest) Z) : G w y cc nL rt d Post pc lv (.ref a :: rest) Z :=
  fun p e R s m args below meth c H locs cells slots ls hx hw hl => by
    obtain ⟨q0, hq⟩ := zpos h
    exact va_alen (D := w.2.1) hx.1 hx.2.1 hw.2.1.1 hw.2.2.2.2.1 q0 t hq ht rfl hdg (k1 p e R s m args below meth c H locs cells slots ls hx hw hl)
/-- rows of references: those of the class E (place t of zTys) -/
theorem g_aald {a n : Nat} {cA : ClassId} {E : String} {f : Nat → Option Nat} {i : Int32} (hdg : decode cc pc = .ok (.aaload, 1)) (t : Nat) (h : zhs Z a (.inl (cA, n, .inr (.inr (.inr (.inr f)))))) (ht : (zTys w.2.2.2.1)[t]? = some (cA, .object E)) (hin : vp_in i n) (k1 : G w y cc nL rt d Post (pc + 1) lv (va_rf (f i.toNatClampNeg) :: rest) Z) : G w y cc nL rt d Post pc lv (.int i :: .ref a :: rest) Z :=
  fun p e R s m args below meth c H locs cells slots ls hx hw hl => by
    obtain ⟨q0, hq⟩ := zpos h
    exact va_aldq (D := w.2.1) hx.1 hx.2.1 hw.2.1.1 hw.2.2.2.2.1 q0 t hq ht hin hdg (k1 p e R s m args below meth c H locs cells slots ls hx hw hl)
theorem zAny {R : Room} {s : State} {args : Array Value} {H : Heap} {locs : List Loc} {cells slots v ci : Nat} {vs : List Value} {E : String} (hts : ∀ v ∈ wz, v.before args s = true) (hw : zW w d Z R s H locs cells slots) (hv : zhs Z v (.inr (ci, vs))) (hE : zAs ci E) : va_Any E s H v := by
  obtain ⟨r, hr, hE⟩ := hE
  obtain ⟨q0, hq⟩ := zpos hv
  refine va_rAny hw.2.1.1 hw.2.2.2.2.1 hq hr (fun comp c0 h1 h2 => ?_)
  rcases hE with rfl | hE
  · cases h1.symm.trans h2
    exact va_asg _ _
  · obtain ⟨c1, t1, f1, f2, f3⟩ := Cond.castable_spec (va_Nw.use (A := args) rfl (hw.2.1.2.1 _ hE))
    cases h1.symm.trans f2
    cases h2.symm.trans f1
    exact f3
theorem g_aast {a n v ci : Nat} {cA : ClassId} {E : String} {vs : List Value} {f : Nat → Option Nat} {i : Int32} (hdg : decode cc pc = .ok (.aastore, 1)) (t : Nat) (h : zhs Z a (.inl (cA, n, .inr (.inr (.inr (.inr f)))))) (ht : (zTys w.2.2.2.1)[t]? = some (cA, .object E)) (hv : zhs Z v (.inr (ci, vs))) (hE : zAs ci E) (hin : vp_in i n) (k1 : G w y cc nL rt d Post (pc + 1) lv rest (zput Z a (.inl (cA, n, .inr (.inr (.inr (.inr (va_up f i.toNatClampNeg (some v))))))))) : G w y cc nL rt d Post pc lv (.ref v :: .int i :: .ref a :: rest) Z :=
  fun p e R s m args below meth c H locs cells slots ls hx hw hl => by
    obtain ⟨q0, hq⟩ := zpos h
    refine va_astqM (D := w.2.1) hx.1 hx.2.1 hw.2.1.1 hw.2.2.2.2.1 hw.2.2.2.2.2.1 hw.2.2.2.2.2.2.1 q0 t hq ht (zAny hx.2.2.2.2.1 hw hv hE) hin hdg (fun H1 locs1 hP hD hS => ?_)
    rw [zset hw.2.2.2.2.2.1 h hq] at hP hD
    exact k1 p e R s m args below meth c H1 locs1 cells slots ls hx (hw.put hP hD hS rfl rfl) hl
theorem g_aastN {a n : Nat} {cA : ClassId} {E : String} {f : Nat → Option Nat} {i : Int32} (hdg : decode cc pc = .ok (.aastore, 1)) (t : Nat) (h : zhs Z a (.inl (cA, n, .inr (.inr (.inr (.inr f)))))) (ht : (zTys w.2.2.2.1)[t]? = some (cA, .object E)) (hin : vp_in i n) (k1 : G w y cc nL rt d Post (pc + 1) lv rest (zput Z a (.inl (cA, n, .inr (.inr (.inr (.inr (va_up f i.toNatClampNeg none)))))))) : G w y cc nL rt d Post pc lv (.null :: .int i :: .ref a :: rest) Z :=
  fun p e R s m args below meth c H locs cells slots ls hx hw hl => by
    obtain ⟨q0, hq⟩ := zpos h
    refine va_astqN (D := w.2.1) hx.1 hx.2.1 hw.2.1.1 hw.2.2.2.2.1 hw.2.2.2.2.2.1 hw.2.2.2.2.2.2.1 q0 t hq ht hin hdg (fun H1 locs1 hP hD hS => ?_)
    rw [zset hw.2.2.2.2.2.1 h hq] at hP hD
    exact k1 p e R s m args below meth c H1 locs1 cells slots ls hx (hw.put hP hD hS rfl rfl) hl
theorem zW.new {q n : Nat} {e : va_E} {R : Room} {s : State} {H H1 : Heap} {locs : List Loc} {cells slots : Nat} (hw : zW w d Z R s H locs cells slots) (h1 : 1 ≤ Z.2.2.1) (h2 : n ≤ Z.2.2.2) (hP : va_P w.2.1 vwCl (zpl Z ++ [(q, e)]) H1) (hD : va_D w.2.2.1 (zpl Z ++ [(q, e)])) (hS : va_S w.2.2.1 s.heap H1 locs) : q ∉ Z.1 ∧ zW w d (znew Z q e n) R s H1 locs (cells + 1) (slots + n) := by
  have hq := zfresh hD
  obtain ⟨a1, a2, a3, a4, -, -, -, b1, b2, b3, b4⟩ := hw
  rw [zpush (n := n) hq] at hP hD
  exact ⟨hq, a1, a2, a3, a4, hP, hD, hS, by show cells + 1 + (Z.2.2.1 - 1) ≤ _; omega, by show slots + n + (Z.2.2.2 - n) ≤ _; omega, b3, b4⟩
theorem g_new {idx ci N : Nat} {fs : List Value} (hdg : decode cc pc = .ok (.new idx, 3)) (Nw : zN y.cls idx ci N fs) (h1 : 1 ≤ Z.2.2.1) (h2 : N ≤ Z.2.2.2) (k1 : ∀ q, q ∉ Z.1 → G w y cc nL rt d Post (pc + 3) lv (.ref q :: rest) (znew Z q (.inr (ci, fs)) N)) : G w y cc nL rt d Post pc lv rest Z :=
  fun p e R s m args below meth c H locs cells slots ls hx hw hl => by
    obtain ⟨C, T, ty, hc, hin, hty, hcl, hinst, hini, hfs⟩ := Nw
    have b1 := hw.2.2.2.2.2.2.2.1
    have b2 := hw.2.2.2.2.2.2.2.2.1
    refine va_new (D := w.2.1) hx.1 hx.2.1 hx.2.2.2.2.1 hin ty hty hx.2.2.2.1 (hx.2.2.2.2.1 _ hcl) (hx.2.2.2.2.1 _ hinst) (hx.2.2.2.2.1 _ hini) hw.2.1.1 hw.2.2.2.2.1 hw.2.2.2.2.2.1 hw.2.2.2.2.2.2.1 hw.2.2.2.1 hc hfs (by omega) (by omega) hdg (fun q H1 hP hD hS => ?_)
    obtain ⟨hq, hw'⟩ := hw.new h1 h2 hP hD hS
    exact k1 q hq p e R s m args below meth c H1 locs (cells + 1) (slots + N) ls hx hw' hl
theorem g_newi {n : Int32} {N : Nat} {at9 : ArrayType} (hdg : decode cc pc = .ok (.newarray at9, 2)) (hat : newarray.typeOf at9 = .int) (hcl : Cond.arrayClass .int ∈ wz) (hn : n = nI N) (hN : N ≤ 60000) (h1 : 1 ≤ Z.2.2.1) (h2 : N ≤ Z.2.2.2) (k1 : ∀ q, q ∉ Z.1 → G w y cc nL rt d Post (pc + 2) lv (.ref q :: rest) (znew Z q (.inl (w.2.2.2.1 0, N, .inl (fun _ => 0))) N)) : G w y cc nL rt d Post pc lv (.int n :: rest) Z :=
  fun p e R s m args below meth c H locs cells slots ls hx hw hl => by
    have b1 := hw.2.2.2.2.2.2.2.1
    have b2 := hw.2.2.2.2.2.2.2.2.1
    subst hn
    refine va_newa (D := w.2.1) (a0 := (N, .inl (fun _ => 0))) hx.1 hx.2.1 (by rw [hat]; exact hx.2.2.2.2.1 _ hcl) hat hw.2.1.1 hw.2.2.2.2.1 hw.2.2.2.2.2.1 hw.2.2.2.2.2.2.1 hw.2.2.2.1 (fun cA => rfl) (nI_pos (by omega)) (nI_clamp (by omega)) (by show N * 4 ≤ _; omega) (by omega) (by omega) hdg (fun q cA H1 hK hP hD hS => ?_)
    have e1 : s.vm.findClass ("[" ++ (FieldType.int).toString) = some cA := (hK.2 (zTys w.2.2.2.1).length (cA, .int) (by simp)).2
    have e2 : s.vm.findClass ("[" ++ (FieldType.int).toString) = some (w.2.2.2.1 0) := (hw.2.1.1.2 0 (w.2.2.2.1 0, .int) rfl).2
    cases e1.symm.trans e2
    obtain ⟨hq, hw'⟩ := hw.new h1 h2 hP hD hS
    exact k1 q hq p e R s m args below meth c H1 locs (cells + 1) (slots + N) ls hx hw' hl
theorem g_newl {n : Int32} {N : Nat} {at9 : ArrayType} (hdg : decode cc pc = .ok (.newarray at9, 2)) (hat : newarray.typeOf at9 = .long) (hcl : Cond.arrayClass .long ∈ wz) (hn : n = nI N) (hN : N ≤ 60000) (h1 : 1 ≤ Z.2.2.1) (h2 : N ≤ Z.2.2.2) (k1 : ∀ q, q ∉ Z.1 → G w y cc nL rt d Post (pc + 2) lv (.ref q :: rest) (znew Z q (.inl (w.2.2.2.1 1, N, .inr <| .inl (fun _ => 0))) N)) : G w y cc nL rt d Post pc lv (.int n :: rest) Z :=
  fun p e R s m args below meth c H locs cells slots ls hx hw hl => by
    have b1 := hw.2.2.2.2.2.2.2.1
    have b2 := hw.2.2.2.2.2.2.2.2.1
    subst hn
    refine va_newa (D := w.2.1) (a0 := (N, .inr <| .inl (fun _ => 0))) hx.1 hx.2.1 (by rw [hat]; exact hx.2.2.2.2.1 _ hcl) hat hw.2.1.1 hw.2.2.2.2.1 hw.2.2.2.2.2.1 hw.2.2.2.2.2.2.1 hw.2.2.2.1 (fun cA => rfl) (nI_pos (by omega)) (nI_clamp (by omega)) (by show N * 8 ≤ _; omega) (by omega) (by omega) hdg (fun q cA H1 hK hP hD hS => ?_)
    have e1 : s.vm.findClass ("[" ++ (FieldType.long).toString) = some cA := (hK.2 (zTys w.2.2.2.1).length (cA, .long) (by simp)).2
    have e2 : s.vm.findClass ("[" ++ (FieldType.long).toString) = some (w.2.2.2.1 1) := (hw.2.1.1.2 1 (w.2.2.2.1 1, .long) rfl).2
    cases e1.symm.trans e2
    obtain ⟨hq, hw'⟩ := hw.new h1 h2 hP hD hS
    exact k1 q hq p e R s m args below meth c H1 locs (cells + 1) (slots + N) ls hx hw' hl
theorem g_newz {n : Int32} {N : Nat} {at9 : ArrayType} (hdg : decode cc pc = .ok (.newarray at9, 2)) (hat : newarray.typeOf at9 = .boolean) (hcl : Cond.arrayClass .boolean ∈ wz) (hn : n = nI N) (hN : N ≤ 60000) (h1 : 1 ≤ Z.2.2.1) (h2 : N ≤ Z.2.2.2) (k1 : ∀ q, q ∉ Z.1 → G w y cc nL rt d Post (pc + 2) lv (.ref q :: rest) (znew Z q (.inl (w.2.2.2.1 2, N, .inl (fun _ => 0))) N)) : G w y cc nL rt d Post pc lv (.int n :: rest) Z :=
  fun p e R s m args below meth c H locs cells slots ls hx hw hl => by
    have b1 := hw.2.2.2.2.2.2.2.1
    have b2 := hw.2.2.2.2.2.2.2.2.1
    subst hn
    refine va_newa (D := w.2.1) (a0 := (N, .inl (fun _ => 0))) hx.1 hx.2.1 (by rw [hat]; exact hx.2.2.2.2.1 _ hcl) hat hw.2.1.1 hw.2.2.2.2.1 hw.2.2.2.2.2.1 hw.2.2.2.2.2.2.1 hw.2.2.2.1 (fun cA => rfl) (nI_pos (by omega)) (nI_clamp (by omega)) (by show N * 1 ≤ _; omega) (by omega) (by omega) hdg (fun q cA H1 hK hP hD hS => ?_)
    have e1 : s.vm.findClass ("[" ++ (FieldType.boolean).toString) = some cA := (hK.2 (zTys w.2.2.2.1).length (cA, .boolean) (by simp)).2
    have e2 : s.vm.findClass ("[" ++ (FieldType.boolean).toString) = some (w.2.2.2.1 2) := (hw.2.1.1.2 2 (w.2.2.2.1 2, .boolean) rfl).2
    cases e1.symm.trans e2
    obtain ⟨hq, hw'⟩ := hw.new h1 h2 hP hD hS
    exact k1 q hq p e R s m args below meth c H1 locs (cells + 1) (slots + N) ls hx hw' hl
theorem g_newc {n : Int32} {N : Nat} {at9 : ArrayType} (hdg : decode cc pc = .ok (.newarray at9, 2)) (hat : newarray.typeOf at9 = .char) (hcl : Cond.arrayClass .char ∈ wz) (hn : n = nI N) (hN : N ≤ 60000) (h1 : 1 ≤ Z.2.2.1) (h2 : N ≤ Z.2.2.2) (k1 : ∀ q, q ∉ Z.1 → G w y cc nL rt d Post (pc + 2) lv (.ref q :: rest) (znew Z q (.inl (w.2.2.2.1 3, N, .inl (fun _ => 0))) N)) : G w y cc nL rt d Post pc lv (.int n :: rest) Z :=
  fun p e R s m args below meth c H locs cells slots ls hx hw hl => by
    have b1 := hw.2.2.2.2.2.2.2.1
    have b2 := hw.2.2.2.2.2.2.2.2.1
    subst hn
    refine va_newa (D := w.2.1) (a0 := (N, .inl (fun _ => 0))) hx.1 hx.2.1 (by rw [hat]; exact hx.2.2.2.2.1 _ hcl) hat hw.2.1.1 hw.2.2.2.2.1 hw.2.2.2.2.2.1 hw.2.2.2.2.2.2.1 hw.2.2.2.1 (fun cA => rfl) (nI_pos (by omega)) (nI_clamp (by omega)) (by show N * 2 ≤ _; omega) (by omega) (by omega) hdg (fun q cA H1 hK hP hD hS => ?_)
    have e1 : s.vm.findClass ("[" ++ (FieldType.char).toString) = some cA := (hK.2 (zTys w.2.2.2.1).length (cA, .char) (by simp)).2
    have e2 : s.vm.findClass ("[" ++ (FieldType.char).toString) = some (w.2.2.2.1 3) := (hw.2.1.1.2 3 (w.2.2.2.1 3, .char) rfl).2
    cases e1.symm.trans e2
    obtain ⟨hq, hw'⟩ := hw.new h1 h2 hP hD hS
    exact k1 q hq p e R s m args below meth c H1 locs (cells + 1) (slots + N) ls hx hw' hl
theorem g_anew {n : Int32} {N idx : Nat} {E : String} (hdg : decode cc pc = .ok (.anewarray idx, 3)) (t : Nat) (ht : (zTys w.2.2.2.1)[t]? = some (w.2.2.2.1 t, .object E)) (hcl : Cond.classLink y.cls idx E ∈ wz) (hov : Cond.arrayOver (.object E) ∈ wn) (hn : n = nI N) (hN : N ≤ 60000) (h1 : 1 ≤ Z.2.2.1) (h2 : N ≤ Z.2.2.2) (k1 : ∀ q, q ∉ Z.1 → G w y cc nL rt d Post (pc + 3) lv (.ref q :: rest) (znew Z q (.inl (w.2.2.2.1 t, N, .inr (.inr (.inr (.inr (fun _ => none)))))) N)) : G w y cc nL rt d Post pc lv (.int n :: rest) Z :=
  fun p e R s m args below meth c H locs cells slots ls hx hw hl => by
    have b1 := hw.2.2.2.2.2.2.2.1
    have b2 := hw.2.2.2.2.2.2.2.2.1
    subst hn
    refine va_newq (D := w.2.1) hx.1 hx.2.1 hx.2.2.2.1 (hx.2.2.2.2.1 _ hcl) (va_AO.of (hw.2.1.2.1 _ hov)) hw.2.1.1 hw.2.2.2.2.1 hw.2.2.2.2.2.1 hw.2.2.2.2.2.2.1 hw.2.2.2.1 (nI_pos (by omega)) (nI_clamp (by omega)) (by omega) (by omega) (by omega) hdg (fun q cA H1 hK hP hD hS => ?_)
    obtain ⟨kA, comp, -, -, -, e1⟩ := (hK.2 (zTys w.2.2.2.1).length (cA, .object E) (by simp)).2
    obtain ⟨kA2, comp2, -, -, -, e2⟩ := (hw.2.1.1.2 t (w.2.2.2.1 t, .object E) ht).2
    cases e1.symm.trans e2
    obtain ⟨hq, hw'⟩ := hw.new h1 h2 hP hD hS
    exact k1 q hq p e R s m args below meth c H1 locs (cells + 1) (slots + N) ls hx hw' hl
/-- the world at a callee's entry -/
theorem zPre_at {R : Room} {s T : State} {H : Heap} {locs : List Loc} {cells slots : Nat} {vm₁ : Vm} (hw : zW w d Z R s H locs cells slots) (hT : T.heap = H) (hW : s.WarmedH vm₁) : zPre w Z (T.setVm vm₁) := by
  obtain ⟨a1, a2, a3, a4, a5, a6, a7, -, -, -, -⟩ := hw
  refine ⟨a1, zKn.warm (U := T.setVm vm₁) hW a2, a1 s (T.setVm vm₁) s.heap T.heap hW ?_ a3, ?_, ?_, a6⟩
  · intro q h1 h2
    rw [hT]
    exact a7.2.1 q h1 h2
  · intro q h
    have h1 : T.heap.size ≤ q := h
    rw [hT] at h1
    exact a4 q (Nat.le_trans a7.1 h1)
  · show va_P w.2.1 vwCl (zpl Z) T.heap
    rw [hT]
    exact a5
def zPreP (w : zC) (R : Room) (As : List Value) (Z : zZ) : Pt → Array Value → Prop := fun A a => a = As.toArray ∧ A.cells + Z.2.2.1 ≤ R.cells ∧ A.slots + Z.2.2.2 ≤ R.slots ∧ zPre w Z A.U
def zPostP (w : zC) (Z : zZ) (Post : zR → zZ → Prop) : Pt → Array Value → Option Value → Pt → Prop := fun A _ v B =>
  ∃ (Z' : zZ) (L : List Loc), Post (.inl v) Z' ∧ va_P w.2.1 vwCl (zpl Z') B.U.heap ∧ va_D w.2.2.1 (zpl Z') ∧ (A.U.heap.size ≤ B.U.heap.size ∧ ∀ q : Nat, q < A.U.heap.size → ¬ w.2.2.1 q → B.U.heap[q]? = A.U.heap[q]?) ∧
    B.locs = A.locs ++ L ∧ (∀ q ∈ L, w.2.2.1 q.base) ∧ B.cells + Z'.2.2.1 ≤ A.cells + Z.2.2.1 ∧ B.slots + Z'.2.2.2 ≤ A.slots + Z.2.2.2
theorem cz_back {d' : Nat × Nat} {y' : MethodName} {ws : List Cond} {As : List Value} {Post' : zR → zZ → Prop} {R : Room} {p : Program} {e : Env} {below : List Frame} {s : State} {sargs : Array Value} {bytes : ByteArray} {maxL : Nat} {ret : Option FieldType}
    (hC : Cz w d' y' ws As Z Post') (hnt : ∀ r Z', Post' r Z' → ∃ v, r = .inl v) (hws : ∀ v ∈ ws, ∀ (a' : Array Value) (U : State), s.WarmedH U.vm → v.before a' U = true) (hcode : Cond.code y' bytes maxL ret ∈ ws)
    (hini : ∀ (a' : Array Value) (U : State), s.WarmedH U.vm → (Cond.initialized y'.cls).before a' U = true) (hfr : d'.1 + 1 ≤ R.frames) (hlo : 8 + (maxL + 11) + d'.2 ≤ R.locals) :
    Back w.1 R p e below s sargs y' 3 8 (zPreP w R As Z) (zPostP w Z Post') := by
  refine Back.of_free (S := headSpec ws (zrm d' Z)) (bytes := bytes) (maxL := maxL) (ret := ret)
    (E := fun _ st o t L k n => ∃ (r : zR) (Z' : zZ), Post' r Z' ∧ zOut r o t ∧ va_P w.2.1 vwCl (zpl Z') t.heap ∧ va_D w.2.2.1 (zpl Z') ∧ va_F w.2.2.1 st t ∧ (∀ q ∈ L, w.2.2.1 q.base) ∧ k + Z'.2.2.1 ≤ Z.2.2.1 ∧ n + Z'.2.2.2 ≤ Z.2.2.2) hC hfr hlo ?_ ?_ (fun _ _ _ _ _ _ _ _ _ => trivial) ?_ ?_
  · intro m meth c A a X hp
    exact ⟨atoms_intro fun v hv => hws v hv _ _ X.warmed, hws _ hcode _ _ X.warmed, hini _ _ X.warmed, hp.2.1, hp.2.2.1⟩
  · intro m meth c A a g mk X hp
    obtain ⟨rfl, -, -, a1, a2, a3, a4, a5, a6⟩ := hp
    exact ⟨rfl, a1, zKn.warm (U := A.U.calling g mk As.toArray) (State.WarmedH.refl A.U) a2, a1 A.U (A.U.calling g mk As.toArray) A.U.heap A.U.heap (State.WarmedH.refl A.U) (fun _ _ _ => rfl) a3, a4, a5, a6⟩
  · intro a st o t ⟨r, Z', hp, ho, h1, h2, h3, L, k, n, hS, hL, hk, hn⟩
    obtain ⟨v, rfl⟩ := hnt _ _ hp
    exact ⟨L, k, n, ⟨⟨v, ho⟩, hS.1, hS.2⟩, .inl v, Z', hp, ho, h1, h2, h3, hL, hk, hn⟩
  · intro m meth c A a g mk v t L k n X hp hq hF ⟨r, Z', hp', ho, h1, h2, h3, hL, hk, hn⟩
    obtain ⟨v', rfl⟩ := hnt _ _ hp'
    cases ho
    exact ⟨Z', L, hp', h1, h2, h3, rfl, hL, by show A.cells + k + _ ≤ _; omega, by show A.slots + n + _ ≤ _; omega⟩
/-- behind a call -/
theorem zW.back {Z' : zZ} {R : Room} {s T : State} {H : Heap} {locs L : List Loc} {cells slots : Nat} {vm₁ : Vm} {B : Pt} (hw : zW w d Z R s H locs cells slots) (hT : T.heap = H)
    (h1 : va_P w.2.1 vwCl (zpl Z') B.U.heap) (h2 : va_D w.2.2.1 (zpl Z')) (h3 : (T.setVm vm₁).heap.size ≤ B.U.heap.size ∧ ∀ q : Nat, q < (T.setVm vm₁).heap.size → ¬ w.2.2.1 q → B.U.heap[q]? = (T.setVm vm₁).heap[q]?) (h4 : B.locs = locs ++ L) (hL : ∀ q ∈ L, w.2.2.1 q.base) (hk : B.cells + Z'.2.2.1 ≤ cells + Z.2.2.1) (hn : B.slots + Z'.2.2.2 ≤ slots + Z.2.2.2) : zW w d Z' R s B.U.heap B.locs B.cells B.slots := by
  obtain ⟨a1, a2, a3, a4, -, -, a7, b1, b2, b3, b4⟩ := hw
  have hT' : (T.setVm vm₁).heap = H := hT
  rw [hT'] at h3
  refine ⟨a1, a2, a3, a4, h1, h2, ⟨Nat.le_trans a7.1 h3.1, fun q g1 g2 => ?_, fun q hq => ?_⟩, by omega, by omega, b3, b4⟩
  · rw [h3.2 q (Nat.lt_of_lt_of_le g1 a7.1) g2]
    exact a7.2.1 q g1 g2
  · rw [h4] at hq
    rcases List.mem_append.mp hq with h | h
    · exact a7.2.2 q h
    · exact hL q h
theorem wz_good {s : State} {args : Array Value} (hts : ∀ v ∈ wz, v.before args s = true) : ∀ v ∈ wz, ∀ (a' : Array Value) (U : State), s.WarmedH U.vm → v.before a' U = true :=
  fun v hv a' U hW => word_at hW (good_of_word (List.mem_filter.mp hv).2) (hts v hv)
theorem wz_goodc {s : State} {args : Array Value} {c0 : Cond} (hts : ∀ v ∈ wz, v.before args s = true) (h0 : c0 ∈ wz) : ∀ v ∈ c0 :: wz, ∀ (a' : Array Value) (U : State), s.WarmedH U.vm → v.before a' U = true := by
  intro v hv
  rcases List.mem_cons.mp hv with rfl | hv
  · exact wz_good hts _ h0
  · exact wz_good hts _ hv
/-- the continuation behind a call -/
abbrev zK (w : zC) (y : MethodName) (cc : ByteArray) (nL : Nat) (rt : Option FieldType) (d : Nat × Nat) (Post : zR → zZ → Prop) (pc : Nat) (lv : List (Nat × Value)) (rest : List Value) : zR → zZ → Prop := fun r Z' => ∃ v, r = .inl v ∧ G w y cc nL rt d Post pc lv (v.toList ++ rest) Z'
theorem zBack {y' : MethodName} {cc' : ByteArray} {nL' n : Nat} {rt' : Option FieldType} {As : List Value} {R : Room} {p : Program} {e : Env} {below : List Frame} {s : State} {args : Array Value} {H : Heap} {locs : List Loc} {cells slots : Nat} {pc' : Nat}
    {d' : Nat × Nat} (hd : d'.1 + 1 ≤ d.1 ∧ 19 + nL' + d'.2 ≤ d.2) (hts : ∀ v ∈ wz, v.before args s = true) (hw : zW w d Z R s H locs cells slots) (hy : zCall y' cc' nL' rt' n) (hC : Cz w d' y' (Cond.code y' cc' nL' rt' :: wz) As Z (zK w y cc nL rt d Post pc' lv rest)) :
    Back w.1 R p e below s args y' 3 8 (zPreP w R As Z) (zPostP w Z (zK w y cc nL rt d Post pc' lv rest)) := by
  obtain ⟨-, -, -, -, -, -, -, -, -, b3, b4⟩ := hw
  exact cz_back (bytes := cc') (maxL := nL') (ret := rt') hC (fun r Z' h => ⟨h.choose, h.choose_spec.1⟩) (wz_goodc hts hy.1) List.mem_cons_self (fun a' U hW => wz_good hts _ hy.2.1 a' U hW) (by omega) (by omega)
theorem g_callS {d' : Nat × Nat} {y' : MethodName} {cc' : ByteArray} {nL' n idx : Nat} {rt' : Option FieldType} {As st : List Value} (hdg : decode cc pc = .ok (.invokestatic idx, 3)) (hy : zCall y' cc' nL' rt' n) (hlink : Cond.methodLink y.cls idx y' ∈ wz) (hstat : Cond.static y' ∈ wz) (hst : st = As.reverse ++ rest) (hn : As.length = n) (hsum : (rest.map fun v => v.category).sum ≤ 8) (hd : d'.1 + 1 ≤ d.1 ∧ 19 + nL' + d'.2 ≤ d.2)
    (hC : Cz w d' y' (Cond.code y' cc' nL' rt' :: wz) As Z (zK w y cc nL rt d Post (pc + 3) lv rest)) : G w y cc nL rt d Post pc lv st Z :=
  fun p e R s m args below meth c H locs cells slots ls hx hw hl => by
    intro T hT X
    have hts := hx.2.2.2.2.1
    obtain ⟨v, vm₁, B, hW₁, X', ⟨Z', L, ⟨v', hv', hk⟩, h1, h2, h3, h4, hL, hc9, hn9⟩, st9⟩ := callS X hx.1 (bytes := cc') (maxL := nL') (ret := rt') hx.2.2.2.1 (hts _ hlink) (hts _ hstat) (hts _ hy.2.1) (hts _ hy.1) ⟨hy.2.2.1, hy.2.2.2.1⟩ (zBack hd hts hw hy hC) (g := F0 m pc ls st) rfl (hl.1.trans hx.2.2.1.symm) (argsL := As) (rest := rest)
      (fun sig h => by have h5 := hy.2.2.2.2; rw [h] at h5; exact hn.trans (Option.some.inj h5).symm) hst (lv_room hsum) (by rw [hx.2.1]; exact hdg) (fun vm₁ hW₁ => ⟨rfl, hw.2.2.2.2.2.2.2.1, hw.2.2.2.2.2.2.2.2.1, zPre_at hw hT hW₁⟩)
    cases hv'
    obtain ⟨t, a1, b1⟩ := hk p e R s m args below meth c B.U.heap B.locs B.cells B.slots ls hx (hw.back hT h1 h2 h3 h4 hL hc9 hn9) hl B.U rfl X'
    exact ⟨t, st9 t a1, b1⟩
theorem g_callI {d' : Nat × Nat} {y' : MethodName} {cc' : ByteArray} {nL' n idx a : Nat} {As st : List Value} (hdg : decode cc pc = .ok (.invokespecial idx, 3)) (hy : zCall y' cc' nL' none n) (hy1 : y'.name = "<init>") (hlink : Cond.methodLink y.cls idx y' ∈ wz) (hinst : Cond.instanceMethod y' ∈ wz) (hst : st = As.reverse ++ .ref a :: rest) (hn : As.length = n) (hsum : (rest.map fun v => v.category).sum ≤ 8) (hd : d'.1 + 1 ≤ d.1 ∧ 19 + nL' + d'.2 ≤ d.2)
    (hC : Cz w d' y' (Cond.code y' cc' nL' none :: wz) (.ref a :: As) Z (zK w y cc nL rt d Post (pc + 3) lv rest)) : G w y cc nL rt d Post pc lv st Z :=
  fun p e R s m args below meth c H locs cells slots ls hx hw hl => by
    intro T hT X
    have hts := hx.2.2.2.2.1
    obtain ⟨v, vm₁, B, hW₁, X', ⟨Z', L, ⟨v', hv', hk⟩, h1, h2, h3, h4, hL, hc9, hn9⟩, st9⟩ := callI X hx.1 (bytes := cc') (maxL := nL') hx.2.2.2.1 hy1 (hts _ hlink) (hts _ hinst) (hts _ hy.1) ⟨hy.2.2.1, hy.2.2.2.1⟩ (zBack hd hts hw hy hC) (g := F0 m pc ls st) rfl (hl.1.trans hx.2.2.1.symm) (a := a) (argsL := As) (rest := rest)
      (fun sig h => by have h5 := hy.2.2.2.2; rw [h] at h5; exact hn.trans (Option.some.inj h5).symm) hst (lv_room hsum) (by rw [hx.2.1]; exact hdg) (fun vm₁ hW₁ => ⟨rfl, hw.2.2.2.2.2.2.2.1, hw.2.2.2.2.2.2.2.2.1, zPre_at hw hT hW₁⟩)
    cases hv'
    obtain ⟨t, a1, b1⟩ := hk p e R s m args below meth c B.U.heap B.locs B.cells B.slots ls hx (hw.back hT h1 h2 h3 h4 hL hc9 hn9) hl B.U rfl X'
    exact ⟨t, st9 t a1, b1⟩
theorem g_callV {d' : Nat × Nat} {y' : MethodName} {cc' : ByteArray} {nL' n idx a ci : Nat} {rt' : Option FieldType} {r : vw_C} {fs As st : List Value} (hdg : decode cc pc = .ok (.invokevirtual idx, 3)) (hy : zCall y' cc' nL' rt' n) (hlink : Cond.methodLink y.cls idx y' ∈ wz) (hinst : Cond.instanceMethod y' ∈ wz) (hci : vwCl[ci]? = some r) (hsel : Cond.selects r.1 y' y' ∈ wz) (h : zhs Z a (.inr (ci, fs))) (hst : st = As.reverse ++ .ref a :: rest) (hn : As.length = n) (hsum : (rest.map fun v => v.category).sum ≤ 8) (hd : d'.1 + 1 ≤ d.1 ∧ 19 + nL' + d'.2 ≤ d.2)
    (hC : Cz w d' y' (Cond.code y' cc' nL' rt' :: wz) (.ref a :: As) Z (zK w y cc nL rt d Post (pc + 3) lv rest)) : G w y cc nL rt d Post pc lv st Z :=
  fun p e R s m args below meth c H locs cells slots ls hx hw hl => by
    intro T hT X
    have hts := hx.2.2.2.2.1
    obtain ⟨q0, hq⟩ := zpos h
    obtain ⟨cell, g1, g2, g3⟩ := va_recv hw.2.1.1 hw.2.2.2.2.1 hci hq
    obtain ⟨v, vm₁, B, hW₁, X', ⟨Z', L, ⟨v', hv', hk⟩, h1, h2, h3, h4, hL, hc9, hn9⟩, st9⟩ := callV X hx.1 (C := r.1) (bytes := cc') (maxL := nL') (ret := rt') hx.2.2.2.1 (hts _ hlink) (hts _ hinst) (hts _ hsel) (hts _ hy.1) ⟨hy.2.2.1, hy.2.2.2.1⟩ (zBack hd hts hw hy hC) (b := a) (by rw [hT]; exact g1) g2 g3 (g := F0 m pc ls st) rfl (hl.1.trans hx.2.2.1.symm) (argsL := As) (rest := rest)
      (fun sig h => by have h5 := hy.2.2.2.2; rw [h] at h5; exact hn.trans (Option.some.inj h5).symm) hst (lv_room hsum) (by rw [hx.2.1]; exact hdg) (fun vm₁ hW₁ => ⟨rfl, hw.2.2.2.2.2.2.2.1, hw.2.2.2.2.2.2.2.2.1, zPre_at hw hT hW₁⟩)
    cases hv'
    obtain ⟨t, a1, b1⟩ := hk p e R s m args below meth c B.U.heap B.locs B.cells B.slots ls hx (hw.back hT h1 h2 h3 h4 hL hc9 hn9) hl B.U rfl X'
    exact ⟨t, st9 t a1, b1⟩
theorem g_callSN {host : String} {d' : Nat × Nat} {y' : MethodName} {cc' : ByteArray} {nL' n idx : Nat} {rt' : Option FieldType} {As st : List Value} (hdg : decode cc pc = .ok (.invokestatic idx, 3)) (hy : zCall y' cc' nL' rt' n) (hlink : Cond.methodLinkNest y.cls idx y' host ∈ wn) (hstat : Cond.static y' ∈ wz) (hst : st = As.reverse ++ rest) (hn : As.length = n) (hsum : (rest.map fun v => v.category).sum ≤ 8) (hd : d'.1 + 1 ≤ d.1 ∧ 19 + nL' + d'.2 ≤ d.2)
    (hC : Cz w d' y' (Cond.code y' cc' nL' rt' :: wz) As Z (zK w y cc nL rt d Post (pc + 3) lv rest)) : G w y cc nL rt d Post pc lv st Z :=
  fun p e R s m args below meth c H locs cells slots ls hx hw hl => by
    intro T hT X
    have hts := hx.2.2.2.2.1
    obtain ⟨v, vm₁, B, hW₁, X', ⟨Z', L, ⟨v', hv', hk⟩, h1, h2, h3, h4, hL, hc9, hn9⟩, st9⟩ := va_callSN X hx.1 (bytes := cc') (maxL := nL') (ret := rt') hx.2.2.2.1 (va_Nw.use rfl (hw.2.1.2.1 _ hlink)) (hts _ hstat) (hts _ hy.2.1) (hts _ hy.1) ⟨hy.2.2.1, hy.2.2.2.1⟩ (zBack hd hts hw hy hC) (g := F0 m pc ls st) rfl (hl.1.trans hx.2.2.1.symm) (argsL := As) (rest := rest)
      (fun sig h => by have h5 := hy.2.2.2.2; rw [h] at h5; exact hn.trans (Option.some.inj h5).symm) hst (lv_room hsum) (by rw [hx.2.1]; exact hdg) (fun vm₁ hW₁ => ⟨rfl, hw.2.2.2.2.2.2.2.1, hw.2.2.2.2.2.2.2.2.1, zPre_at hw hT hW₁⟩)
    cases hv'
    obtain ⟨t, a1, b1⟩ := hk p e R s m args below meth c B.U.heap B.locs B.cells B.slots ls hx (hw.back hT h1 h2 h3 h4 hL hc9 hn9) hl B.U rfl X'
    exact ⟨t, st9 t a1, b1⟩
theorem g_callIN {host : String} {d' : Nat × Nat} {y' : MethodName} {cc' : ByteArray} {nL' n idx a : Nat} {As st : List Value} (hdg : decode cc pc = .ok (.invokespecial idx, 3)) (hy : zCall y' cc' nL' none n) (hy1 : y'.name = "<init>") (hlink : Cond.methodLinkNest y.cls idx y' host ∈ wn) (hinst : Cond.instanceMethod y' ∈ wz) (hst : st = As.reverse ++ .ref a :: rest) (hn : As.length = n) (hsum : (rest.map fun v => v.category).sum ≤ 8) (hd : d'.1 + 1 ≤ d.1 ∧ 19 + nL' + d'.2 ≤ d.2)
    (hC : Cz w d' y' (Cond.code y' cc' nL' none :: wz) (.ref a :: As) Z (zK w y cc nL rt d Post (pc + 3) lv rest)) : G w y cc nL rt d Post pc lv st Z :=
  fun p e R s m args below meth c H locs cells slots ls hx hw hl => by
    intro T hT X
    have hts := hx.2.2.2.2.1
    obtain ⟨v, vm₁, B, hW₁, X', ⟨Z', L, ⟨v', hv', hk⟩, h1, h2, h3, h4, hL, hc9, hn9⟩, st9⟩ := va_callIN X hx.1 (bytes := cc') (maxL := nL') hx.2.2.2.1 hy1 (va_Nw.use rfl (hw.2.1.2.1 _ hlink)) (hts _ hinst) (hts _ hy.1) ⟨hy.2.2.1, hy.2.2.2.1⟩ (zBack hd hts hw hy hC) (g := F0 m pc ls st) rfl (hl.1.trans hx.2.2.1.symm) (a := a) (argsL := As) (rest := rest)
      (fun sig h => by have h5 := hy.2.2.2.2; rw [h] at h5; exact hn.trans (Option.some.inj h5).symm) hst (lv_room hsum) (by rw [hx.2.1]; exact hdg) (fun vm₁ hW₁ => ⟨rfl, hw.2.2.2.2.2.2.2.1, hw.2.2.2.2.2.2.2.2.1, zPre_at hw hT hW₁⟩)
    cases hv'
    obtain ⟨t, a1, b1⟩ := hk p e R s m args below meth c B.U.heap B.locs B.cells B.slots ls hx (hw.back hT h1 h2 h3 h4 hL hc9 hn9) hl B.U rfl X'
    exact ⟨t, st9 t a1, b1⟩
theorem zDecl.at {x : MethodName} {s : State} {args : Array Value} (hts : ∀ v ∈ wz, v.before args s = true) (hn : zNw s) (h : zDecl x) : va_Decl s x := by
  rcases h with h | ⟨h1, b, m, r, h2⟩
  · exact va_Decl.abs (hn.1 _ h)
  · exact va_Decl.of (hts _ h1) (hts _ h2)
/-- the method is named by the class x.cls, declared in owner, and what the receiver's class has is y' -/
theorem g_callU {owner : String} {x : MethodName} {d' : Nat × Nat} {y' : MethodName} {cc' : ByteArray} {nL' n idx a ci : Nat} {rt' : Option FieldType} {r : vw_C} {fs As st : List Value} (hdg : decode cc pc = .ok (.invokevirtual idx, 3)) (hy : zCall y' cc' nL' rt' n) (hlink : Cond.methodLink y.cls idx x ∈ wz) (hsame : Cond.sameMethod x.cls owner x.name x.desc ∈ wz) (hdecl : zDecl ⟨owner, x.name, x.desc⟩) (howner : owner ≠ "java/lang/invoke/MethodHandle" ∧ owner ≠ "java/lang/invoke/VarHandle") (hxy : x.desc = y'.desc) (hinst : Cond.instanceMethod y' ∈ wz) (hci : vwCl[ci]? = some r) (hsel : Cond.selects r.1 x y' ∈ wz) (h : zhs Z a (.inr (ci, fs))) (hst : st = As.reverse ++ .ref a :: rest) (hn : As.length = n) (hsum : (rest.map fun v => v.category).sum ≤ 8) (hd : d'.1 + 1 ≤ d.1 ∧ 19 + nL' + d'.2 ≤ d.2)
    (hC : Cz w d' y' (Cond.code y' cc' nL' rt' :: wz) (.ref a :: As) Z (zK w y cc nL rt d Post (pc + 3) lv rest)) : G w y cc nL rt d Post pc lv st Z :=
  fun p e R s m args below meth c H locs cells slots ls hx hw hl => by
    intro T hT X
    have hts := hx.2.2.2.2.1
    obtain ⟨q0, hq⟩ := zpos h
    obtain ⟨cell, g1, g2, g3⟩ := va_recv hw.2.1.1 hw.2.2.2.2.1 hci hq
    obtain ⟨v, vm₁, B, hW₁, X', ⟨Z', L, ⟨v', hv', hk⟩, h1, h2, h3, h4, hL, hc9, hn9⟩, st9⟩ := va_callVU X hx.1 (C := r.1) (owner := owner) (x := x) (bytes := cc') (maxL := nL') (ret := rt') hx.2.2.2.1 (hts _ hlink) (hts _ hsame) (zDecl.at hts hw.2.1.2 hdecl) howner (hts _ hsel) (hts _ hinst) (hts _ hy.1) (zBack hd hts hw hy hC) (b := a) (by rw [hT]; exact g1) g2 g3 (g := F0 m pc ls st) rfl (hl.1.trans hx.2.2.1.symm) (argsL := As) (rest := rest)
      (fun sig h => by have h5 := hy.2.2.2.2; rw [← hxy, h] at h5; exact hn.trans (Option.some.inj h5).symm) hst (lv_room hsum) (by rw [hx.2.1]; exact hdg) (fun vm₁ hW₁ => ⟨rfl, hw.2.2.2.2.2.2.2.1, hw.2.2.2.2.2.2.2.2.1, zPre_at hw hT hW₁⟩)
    cases hv'
    obtain ⟨t, a1, b1⟩ := hk p e R s m args below meth c B.U.heap B.locs B.cells B.slots ls hx (hw.back hT h1 h2 h3 h4 hL hc9 hn9) hl B.U rfl X'
    exact ⟨t, st9 t a1, b1⟩
/-- a truth value as the machine has it -/
def zb (c : Prop) [Decidable c] : Int32 := if c then 1 else 0
theorem zb_t {c : Prop} [Decidable c] (h : c) : zb c = 1 := if_pos h
theorem zb_f {c : Prop} [Decidable c] (h : ¬ c) : zb c = 0 := if_neg h
theorem zb_0 {c : Prop} [Decidable c] : zb c = 0 ↔ ¬ c := by
  by_cases h : c
  · simp [zb, h]
  · simp [zb, h]
theorem zb_1 {c : Prop} [Decidable c] : zb c = 1 ↔ c := by
  by_cases h : c
  · simp [zb, h]
  · simp [zb, h]
theorem zb_congr {c e : Prop} [Decidable c] [Decidable e] (h : c ↔ e) : zb c = zb e := by
  by_cases hc : c
  · rw [zb_t hc, zb_t (h.mp hc)]
  · rw [zb_f hc, zb_f (fun z => hc (h.mpr z))]
theorem zb_nar (c : Prop) [Decidable c] : narrow .boolean (.int (zb c)) = .int (zb c) := by
  by_cases h : c
  · rw [zb_t h]; rfl
  · rw [zb_f h]; rfl
theorem zb_fit (c : Prop) [Decidable c] : fits .boolean (.int (zb c)) = true := by
  by_cases h : c
  · rw [zb_t h]; rfl
  · rw [zb_f h]; rfl
theorem zb_vnar (c : Prop) [Decidable c] : vp_nar .boolean (zb c) = zb c := by
  by_cases h : c
  · rw [zb_t h]; rfl
  · rw [zb_f h]; rfl
theorem g_if_eqB {c : Prop} [Decidable c] {off : Int} {tgt : Nat} (hdg : decode cc pc = .ok (.ifCond .eq off, 3)) (ht : (pc : Int) + off = (tgt : Int)) (kt1 : ¬ c → G w y cc nL rt d Post tgt lv rest Z) (kf1 : c → G w y cc nL rt d Post (pc + 3) lv rest Z) : G w y cc nL rt d Post pc lv (.int (zb c) :: rest) Z :=
  g_if_eq hdg ht (fun h => kt1 (zb_0.mp h)) (fun h => kf1 (by by_cases hc : c; exact hc; exact absurd (zb_f hc) h))
theorem g_if_neB {c : Prop} [Decidable c] {off : Int} {tgt : Nat} (hdg : decode cc pc = .ok (.ifCond .ne off, 3)) (ht : (pc : Int) + off = (tgt : Int)) (kt1 : c → G w y cc nL rt d Post tgt lv rest Z) (kf1 : ¬ c → G w y cc nL rt d Post (pc + 3) lv rest Z) : G w y cc nL rt d Post pc lv (.int (zb c) :: rest) Z :=
  g_if_ne hdg ht (fun h => kt1 (by by_cases hc : c; exact hc; exact absurd (zb_f hc) h)) (fun h => kf1 (zb_0.mp h))
/-- Object's constructor -/
theorem g_objI {idx a : Nat} (hdg : decode cc pc = .ok (.invokespecial idx, 3)) (hlink : Cond.methodLink y.cls idx Lib.objectInit ∈ wz) (hd : 1 ≤ d.1 ∧ 20 ≤ d.2) (hsum : (rest.map fun v => v.category).sum ≤ 8) (k1 : G w y cc nL rt d Post (pc + 3) lv rest Z) : G w y cc nL rt d Post pc lv (.ref a :: rest) Z :=
  fun p e R s m args below meth c H locs cells slots ls hx hw hl => by
    obtain ⟨-, -, -, -, -, -, -, -, -, b3, b4⟩ := id hw
    refine W.objInit hx.1 hx.2.1 hx.2.2.2.1 (hx.2.2.2.2.1 _ hlink) (hx.2.2.2.2.1 _ z_oi) (hx.2.2.2.2.1 _ z_oc) (g := F0 m pc ls (.ref a :: rest)) rfl (hl.1.trans hx.2.2.1.symm) rfl hdg (by omega) (by show 2 * 0 + _ + 12 ≤ _; omega) ?_
    exact k1 p e R s m args below meth c H locs cells slots ls hx hw hl
theorem g_instY {idx a ci : Nat} {nm : String} {r : vw_C} {fs : List Value} (hdg : decode cc pc = .ok (.instanceof idx, 3)) (hlink : Cond.classLink y.cls idx nm ∈ wz) (h : zhs Z a (.inr (ci, fs))) (hci : vwCl[ci]? = some r) (hc : Cond.castable r.1 nm ∈ wn) (k1 : G w y cc nL rt d Post (pc + 3) lv (.int 1 :: rest) Z) : G w y cc nL rt d Post pc lv (.ref a :: rest) Z :=
  fun p e R s m args below meth c H locs cells slots ls hx hw hl => by
    obtain ⟨q0, hq⟩ := zpos h
    exact va_instY hx.1 hx.2.1 hx.2.2.2.1 (hx.2.2.2.2.1 _ hlink) (hw.2.1.2.1 _ hc) (va_recv hw.2.1.1 hw.2.2.2.2.1 hci hq) hdg (k1 p e R s m args below meth c H locs cells slots ls hx hw hl)
theorem g_instNo {idx a ci : Nat} {nm : String} {r : vw_C} {fs : List Value} (hdg : decode cc pc = .ok (.instanceof idx, 3)) (hlink : Cond.classLink y.cls idx nm ∈ wz) (h : zhs Z a (.inr (ci, fs))) (hci : vwCl[ci]? = some r) (hc : (r.1, nm) ∈ wnc) (k1 : G w y cc nL rt d Post (pc + 3) lv (.int 0 :: rest) Z) : G w y cc nL rt d Post pc lv (.ref a :: rest) Z :=
  fun p e R s m args below meth c H locs cells slots ls hx hw hl => by
    obtain ⟨q0, hq⟩ := zpos h
    exact va_instNo hx.1 hx.2.1 hx.2.2.2.1 (hx.2.2.2.2.1 _ hlink) (hw.2.1.2.2 _ hc) (va_recv hw.2.1.1 hw.2.2.2.2.1 hci hq) hdg (k1 p e R s m args below meth c H locs cells slots ls hx hw hl)
/-- a contract that promises more -/
theorem Cz.mono {d : Nat × Nat} {y : MethodName} {ws : List Cond} {As : List Value} {Z : zZ} {P P' : zR → zZ → Prop} (h : Cz w d y ws As Z P) (hp : ∀ r Z', P r Z' → P' r Z') : Cz w d y ws As Z P' := by
  intro p e ha hc hk s m args below hf happ hpre hK
  obtain ⟨n, o, h1, h2, h3, r, Z', hq, h4, h5⟩ := h p e ha hc hk s m args below hf happ hpre hK
  exact ⟨n, o, h1, h2, h3, r, Z', hp r Z' hq, h4, h5⟩
end GR
