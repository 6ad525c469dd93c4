/-! Catching, and methods with handlers -/
def zPostT (w : zC) (Z : zZ) (E : String) (PT : zZ → Prop) : Pt → Array Value → Addr → Pt → Prop := fun A _ x B =>
  ∃ (Z' : zZ) (L : List Loc), PT Z' ∧ (∃ cell : Cell, B.U.heap[x]? = some cell ∧ cell.vm.isStatics = false ∧ B.U.vm.findClass E = some cell.cls) ∧ va_P w.2.1 vwCl (zpl Z') B.U.heap ∧ va_D w.2.2.1 (zpl Z') ∧ (A.U.heap.size ≤ B.U.heap.size ∧ ∀ q : Nat, q < A.U.heap.size → ¬ w.2.2.1 q → B.U.heap[q]? = A.U.heap[q]?) ∧
    B.locs = A.locs ++ L ∧ (∀ q ∈ L, w.2.2.1 q.base) ∧ B.cells + Z'.2.2.1 ≤ A.cells + Z.2.2.1 ∧ B.slots + Z'.2.2.2 ≤ A.slots + Z.2.2.2
/-- a throwing call, from the callee's contract -/
theorem cz_backT {w : zC} {Z : zZ} {E : String} {PT : zZ → Prop} {d' : Nat × Nat} {y' : MethodName} {ws : List Cond} {As : List Value} {Post' : zR → zZ → Prop} {R : Room} {p : Program} {e : Env} {below : List Frame} {s : State} {sargs : Array Value} {bytes : ByteArray} {maxL : Nat} {ret : Option FieldType}
    (hC : Cz w d' y' ws As Z Post') (hnt : ∀ r Z', Post' r Z' → r = .inr E ∧ PT Z') (hws : ∀ v ∈ ws, ∀ (a' : Array Value) (U : State), s.WarmedH U.vm → v.before a' U = true) (hcode : Cond.code y' bytes maxL ret ∈ ws)
    (hini : ∀ (a' : Array Value) (U : State), s.WarmedH U.vm → (Cond.initialized y'.cls).before a' U = true) (hfr : d'.1 + 1 ≤ R.frames) (hlo : 8 + (maxL + 11) + d'.2 ≤ R.locals)
    {m : MethodId} {meth : Method} {c : Code} {T : State} {Ls : List Loc} {c0 s0 : Nat} {g : JFrame} {ig : Instr} {mk : MethodId} (X : Stand p w.1 e R s m sargs below meth c T Ls c0 s0) (hg : g.method = m) (hsz : g.locals.size = c.maxLocals) (hdg : decode c.code g.pc = .ok (ig, 3)) (hW8 : 2 * g.monitorRoom + (g.stack.map fun v => v.category).sum ≤ 8) (hn : T.methodNamed? y' = some mk) (hp : zPreP w R As Z ⟨T, Ls, c0, s0⟩ As.toArray) :
    ∃ (x : Addr) (B : Pt), Stand p w.1 e R s m sargs below meth c B.U B.locs B.cells B.slots ∧ zPostT w Z E PT ⟨T, Ls, c0, s0⟩ As.toArray x B ∧ Steps p.tables e below (doInvoke e (T.setTop g) [] mk As.toArray).1 ((B.U.setTop g).pushFrame (.throwing x)) := by
  obtain ⟨-, hc1, hs1, a1, a2, a3, a4, a5, a6⟩ := hp
  have hA : At T g.method c below := by rw [hg]; exact X.here
  obtain ⟨k', hk', -⟩ := className_of_methodNamed hn
  obtain ⟨mY, cY, hmY, hcY, -, hlY, -, -, -, -⟩ := Cond.code_spec hn (hws _ hcode As.toArray T X.warmed)
  have happ : (headSpec ws (zrm d' Z)).appliesLoose y' e.platform (T.calling g mk As.toArray) = true :=
    Spec.appliesLoose_calling (g := g) hA hdg hn hk' (Cond.initialized_spec (findClass_of_methodNamed hn) hk' (hini As.toArray T X.warmed))
      (X.room_calling (g := g) (R' := zrm d' Z) hsz hmY hcY hfr (by have : (zrm d' Z).locals = d'.2 := rfl
                                                                    omega) hc1 hs1) (atoms_intro fun v hv => hws v hv _ _ X.warmed)
  obtain ⟨g0, hg0⟩ := X.frames_eq
  have hfr9 : (T.setTop g).frames = .java g :: below := by rw [State.frames_setTop' g hA.top, hg0]; rfl
  obtain ⟨o, t, come, -, hend, r, Z', hP, ho, h1, h2, h3, L, k, n, hS, hL, hk, hn9⟩ := Steps.callFree hC p X.admits X.cas X.clock (acts := []) (s := T.setTop g) (mid := [.java g]) (by rw [hfr9]; rfl) happ
    ⟨rfl, a1, zKn.warm (U := T.calling g mk As.toArray) (State.WarmedH.refl T) a2, a1 T (T.calling g mk As.toArray) T.heap T.heap (State.WarmedH.refl T) (fun _ _ _ => rfl) a3, a4, a5, a6⟩ trivial
  obtain ⟨rfl, hPT⟩ := hnt _ _ hP
  obtain ⟨x, cell, e1, e2, e3, e4⟩ := ho
  subst e1
  rw [hfr9] at hend
  obtain ⟨T', X', -, -, ht⟩ := X.outOfThrown hg hend hS.1 hS.2
  have hh : t.heap = T'.heap := by rw [ht]; exact Stand.throwing_heap _ _ _
  have hv : t.vm = T'.vm := by rw [ht]; exact Stand.throwing_vm _ _ _
  rw [hh] at e2 h1
  rw [hv] at e4
  refine ⟨x, ⟨T', Ls ++ L, c0 + k, s0 + n⟩, X', ⟨Z', L, hPT, ⟨cell, e2, e3, e4⟩, h1, h2, ?_, rfl, hL, by show c0 + k + _ ≤ c0 + _; omega, by show s0 + n + _ ≤ s0 + _; omega⟩, ?_⟩
  · have h9 := h3
    unfold va_F at h9
    rw [hh] at h9
    exact h9
  · rw [← ht]; exact come
def mkE (q : Nat × Nat × Nat × Nat) : ExceptionTableEntry := ⟨q.1, q.2.1, q.2.2.1, q.2.2.2⟩
/-- one row of the table whose class is known, met on the way -/
theorem z_row {Q : Handler → Pre} {E : CtlPost} {e : Env} {dd : Bool} {acts : List Action} {S : State} {f : JFrame} {a : Addr} {x : ExceptionTableEntry} {t : List ExceptionTableEntry} {c : ClassId} {cell : Cell} (hx : covers x f.pc = true) (h0 : x.catchType ≠ 0) (hl : S.vm.ClassLinks e.platform f.method.cls x.catchType c) (hcell : S.heap[a]? = some cell) (hobj : ∀ k, cell.vm ≠ .statics k) {k1 k2 : Class} (hk1 : S.vm.classes[cell.cls]? = some k1) (hk2 : S.vm.classes[c]? = some k2) :
    wp (findHandler.go f a (x :: t)) Q E e dd acts S ↔ if S.vm.assignable cell.cls c = true then Q (.found x.handlerPc) dd acts (S.setVm (S.vm.noted f.method.cls x.catchType (.cls c))) else wp (findHandler.go f a t) Q E e dd acts (S.setVm (S.vm.noted f.method.cls x.catchType (.cls c))) := by
  have hal := (Vm.Alike.refl S.vm).noted f.method.cls x.catchType (.cls c)
  obtain ⟨j1, hj1, -⟩ := hal.2.2 _ _ hk1
  obtain ⟨j2, hj2, -⟩ := hal.2.2 _ _ hk2
  obtain ⟨h1, h2⟩ := (resolveClass_links e.toSetting hl).op (op := VmOp.resolveClass f.method.cls x.catchType) rfl
  simp only [covers] at hx
  have hasg : (S.vm.noted f.method.cls x.catchType (.cls c)).assignable cell.cls c = S.vm.assignable cell.cls c := by rw [hal.assignable]
  cases hf : S.vm.assignable cell.cls c <;> rw [hf] at hasg <;> simp [findHandler.go, hx, h0, h1, h2, hcell, hobj, hj1, hj2, hasg, VmOp.dirties, VmOp.acts]
/-- the rows before are passed, the row x takes it -/
theorem z_rows {e : Env} {S0 : State} {f : JFrame} {a : Addr} {cell : Cell} (hobj : ∀ k, cell.vm ≠ .statics k) {k1 : Class} (hk1 : S0.vm.classes[cell.cls]? = some k1) {x : ExceptionTableEntry} {t : List ExceptionTableEntry} (hx : covers x f.pc = true) (h0 : x.catchType ≠ 0) {cx : ClassId} (hlx : S0.vm.ClassLinks e.platform f.method.cls x.catchType cx) (hfit : S0.vm.assignable cell.cls cx = true)
    (pre : List ExceptionTableEntry) (hpre : ∀ q ∈ pre, q.catchType ≠ 0 ∧ ∃ c', S0.vm.ClassLinks e.platform f.method.cls q.catchType c' ∧ S0.vm.assignable cell.cls c' = false) :
    ∀ S : State, S0.WarmedH S.vm → S.heap[a]? = some cell → ∃ vm', S0.WarmedH vm' ∧ ∀ (Q : Handler → Pre) (E : CtlPost) (dd : Bool) (acts : List Action), wp (findHandler.go f a (pre ++ x :: t)) Q E e dd acts S ↔ Q (.found x.handlerPc) dd acts (S.setVm vm') := by
  induction pre with
  | nil =>
    intro S hW hc
    obtain ⟨dk, -, -, kt, hd, -, -, -, -, hkt, -, hopen⟩ := hlx.here
    obtain ⟨j1, hj1, -⟩ := hW.alike.2.2 _ _ hk1
    obtain ⟨j2, hj2, -⟩ := hW.alike.2.2 _ _ hkt
    refine ⟨S.vm.noted f.method.cls x.catchType (.cls cx), hW.noted hd hopen (State.rightAt_cls hlx), fun Q E dd acts => ?_⟩
    have h9 := z_row (Q := Q) (E := E) (dd := dd) (acts := acts) (t := t) hx h0 (hW.classLinks hlx) hc hobj hj1 hj2
    rw [hW.alike.assignable, hfit, if_pos rfl] at h9
    exact h9
  | cons q qs ih =>
    intro S hW hc
    obtain ⟨q0, cq, hlq, hno⟩ := hpre q List.mem_cons_self
    have ih9 := ih fun z hz => hpre z (List.mem_cons_of_mem _ hz)
    cases hv : covers q f.pc with
    | false =>
      obtain ⟨vm', g1, g2⟩ := ih9 S hW hc
      exact ⟨vm', g1, fun Q E dd acts => (W.findHandler_go_skip hv).trans (g2 Q E dd acts)⟩
    | true =>
      obtain ⟨dk, -, -, kt, hd, -, -, -, -, hkt, -, hopen⟩ := hlq.here
      obtain ⟨j1, hj1, -⟩ := hW.alike.2.2 _ _ hk1
      obtain ⟨j2, hj2, -⟩ := hW.alike.2.2 _ _ hkt
      obtain ⟨vm', g1, g2⟩ := ih9 (S.setVm (S.vm.noted f.method.cls q.catchType (.cls cq))) (hW.noted hd hopen (State.rightAt_cls hlq)) hc
      refine ⟨vm', g1, fun Q E dd acts => ?_⟩
      have h9 := z_row (Q := Q) (E := E) (dd := dd) (acts := acts) (t := qs ++ x :: t) hv q0 (hW.classLinks hlq) hc hobj hj1 hj2
      rw [hW.alike.assignable, hno, if_neg (by decide)] at h9
      exact h9.trans (g2 Q E dd acts)
/-- the step into the handler -/
theorem z_step {tb : Tables} {e : Env} {S target : State} {g : JFrame} {c : Code} {below : List Frame} {a : Addr} (h : At S g.method c below) {pc : Nat} {vm' : Vm} (hf : ∀ (Q : Handler → Pre) (E : CtlPost) (dd : Bool) (acts : List Action), wp (findHandler g a) Q E e dd acts ((S.setTop g).pushFrame (.throwing a)) ↔ Q (.found pc) dd acts (((S.setTop g).pushFrame (.throwing a)).setVm vm'))
    (hrest : Steps tb e below ((S.setVm vm').setTop { g with pc := pc, stack := [.ref a] }) target) : Steps tb e below ((S.setTop g).pushFrame (.throwing a)) target := by
  obtain ⟨h1, h2⟩ := h.throwing a
  refine Steps.head h1 h2 ?_
  rw [stepThread_throwing (frames_entered h.top _)]
  obtain ⟨g0, hg0⟩ := Option.isSome_iff_exists.mp h.top
  obtain ⟨fs, hfs⟩ := State.topJava?_eq_some.mp hg0
  have key : (stepThrowing e ((S.setTop g).pushFrame (.throwing a)) a (.java g :: S.frames.tail)).Is ((((S.setTop g).pushFrame (.throwing a)).setVm vm').setFrames (.java { g with pc := pc, stack := [.ref a] } :: S.frames.tail)) [] := by
    simp only [stepThrowing, searchFrame, vmDo]
    generalize hr : Sem.go _ e false [] ((S.setTop g).pushFrame (.throwing a)) = res
    obtain ⟨as, rfl, ha⟩ := Sem.eq_ok_of hr (a := Handler.found pc) (s' := ((S.setTop g).pushFrame (.throwing a)).setVm vm') (acts' := []) (by simp [hf _ _ _ _])
    exact ⟨rfl, ha⟩
  rw [key.1]
  have hfs' : (S.setVm vm').frames = .java g0 :: fs := hfs
  rw [State.setTop_of_frames _ hfs'] at hrest
  have e9 : (((S.setTop g).pushFrame (.throwing a)).setVm vm').setFrames (.java { g with pc := pc, stack := [.ref a] } :: S.frames.tail) = (S.setVm vm').setFrames (.java { g with pc := pc, stack := [.ref a] } :: fs) := by
    rw [hfs, State.setTop_of_frames _ hfs, State.pushFrame, State.setFrames_setFrames]
    show ((S.setVm vm').setFrames _).setFrames _ = _
    rw [State.setFrames_setFrames]
    rfl
  rw [e9]
  exact hrest
/-- a call that throws E, caught by the row (a0, b0, hpc, ct) behind rows that are passed -/
theorem g_callVX {w : zC} {y : MethodName} {cc : ByteArray} {nL : Nat} {rt : Option FieldType} {d : Nat × Nat} {Post : zR → zZ → Prop} {pc : Nat} {lv : List (Nat × Value)} {rest : List Value} {Z : zZ} {E : String} {hpc : Nat} {pre post : List (Nat × Nat × Nat × Nat)} {a0 b0 ct : Nat} (hex : zEx y = pre ++ (a0, b0, hpc, ct) :: post) (hpre : ∀ q ∈ pre, q.2.2.2 ≠ 0 ∧ ∃ T : String, Cond.classLink y.cls q.2.2.2 T ∈ wz ∧ (E, T) ∈ wnc) (hcov : covers (mkE (a0, b0, hpc, ct)) pc = true) (hct : ct ≠ 0) (hcl : Cond.classLink y.cls ct E ∈ wz)
    {d' : Nat × Nat} {y' : MethodName} {cc' : ByteArray} {nL' n idx a ci : Nat} {rt' : Option FieldType} {r : vw_C} {fs As st : List Value} (hdg : decode cc pc = .ok (.invokevirtual idx, 3)) (hy : zCall y' cc' nL' rt' n) (hlink : Cond.methodLink y.cls idx y' ∈ wz) (hinst : Cond.instanceMethod y' ∈ wz) (hci : vwCl[ci]? = some r) (hsel : Cond.selects r.1 y' y' ∈ wz) (h : zhs Z a (.inr (ci, fs))) (hst : st = As.reverse ++ .ref a :: rest) (hn : As.length = n) (hsum : (rest.map fun v => v.category).sum ≤ 8) (hd : d'.1 + 1 ≤ d.1 ∧ 19 + nL' + d'.2 ≤ d.2)
    (hC : Cz w d' y' (Cond.code y' cc' nL' rt' :: wz) (.ref a :: As) Z (fun r Z' => r = .inr E ∧ ∀ x, G w y cc nL rt d Post hpc lv [.ref x] Z')) : G w y cc nL rt d Post pc lv st Z :=
  fun p e R s m args below meth c H locs cells slots ls hx hw hl => by
    intro T hT X
    have hts := hx.2.2.2.2.1
    obtain ⟨q0, hq⟩ := zpos h
    obtain ⟨cell, g1, g2, g3⟩ := va_recv hw.2.1.1 hw.2.2.2.2.1 hci hq
    obtain ⟨mk, methM, hnamed, hmethM, hstM, habM⟩ := Cond.instanceMethod_spec (hts _ hinst)
    obtain ⟨methM', cM, hmethM', -, -, -, -, -, -, hsigM⟩ := Cond.code_spec hnamed (hts _ hy.1)
    cases hmethM.symm.trans hmethM'
    obtain ⟨c2, r2, m2, q1, q2, q3, q4, kP, hkP, hkPi⟩ := Cond.selects_spec (hts _ hsel)
    cases g3.symm.trans q1
    cases (State.methodFound?_of_named hnamed ⟨hy.2.2.1, hy.2.2.2.1⟩).symm.trans q2
    cases hnamed.symm.trans q3
    have hselP : selectMethod e.platform s.vm cell.cls mk = .method mk := by rw [Launch.admits_selectMethod X.admits]; exact q4
    have hpl : e.platform.magicAccessors = ({} : Platform).magicAccessors := by rw [X.admits.platform]
    obtain ⟨vm₁, X₁, hstep₁⟩ := X.invokevirtual hx.1 hx.2.2.2.1 (hts _ hlink) hnamed hmethM hstM hkP hkPi ⟨hy.2.2.1, hy.2.2.2.1⟩ (a := a) (cell := cell) (by rw [hT]; exact g1) (fun z h9 => by rw [h9] at g2; cases g2) hselP hmethM habM hkP hkPi (g := F0 m pc ls st) rfl (argsL := As) (rest := rest)
      (by have h5 := hy.2.2.2.2; rw [hsigM] at h5; exact hn.trans (Option.some.inj h5).symm) hst (by rw [hx.2.1]; exact hdg)
    obtain ⟨v, B, X', ⟨Z', L, hk, ⟨ce, k1, k2, k3⟩, h1, h2, h3, h4, hL, hc9, hn9⟩, hsteps⟩ := cz_backT (w := w) (Z := Z) (E := E) (PT := fun Z' => ∀ x, G w y cc nL rt d Post hpc lv [.ref x] Z') (R := R) (p := p) (e := e) (below := below) (s := s) (sargs := args) (bytes := cc') (maxL := nL') (ret := rt') hC (fun r Z' h9 => h9) (wz_goodc hts hy.1) List.mem_cons_self (fun a' U hW => wz_good hts _ hy.2.1 a' U hW) (by have := hw.2.2.2.2.2.2.2.2.2.1; omega) (by have := hw.2.2.2.2.2.2.2.2.2.2; omega)
      (T := T.setVm vm₁) (Ls := locs) (c0 := cells) (s0 := slots) (g := { F0 m pc ls st with stack := rest }) (ig := .invokevirtual idx) (mk := mk) X₁ rfl (hl.1.trans hx.2.2.1.symm) (by rw [hx.2.1]; exact hdg) (lv_room hsum) (X₁.named hnamed) ⟨rfl, hw.2.2.2.2.2.2.2.1, hw.2.2.2.2.2.2.2.2.1, zPre_at hw hT X₁.warmed⟩
    have hE : s.vm.findClass E = some ce.cls := by rw [← X'.warmed.alike.findClass]; exact k3
    obtain ⟨cx, hcx, hlx⟩ := Cond.classLink_spec hx.2.2.2.1 (hts _ hcl) e.platform hpl
    cases hE.symm.trans hcx
    obtain ⟨kx, hkx⟩ := Vm.classAt_of_findClass hE
    have htab : c.exceptionTable.toList = pre.map mkE ++ mkE (a0, b0, hpc, ct) :: post.map mkE := by
      have e1 : c.exceptionTable.toList = (c.exceptionTable.toList.map (fun h => (h.startPc, h.endPc, h.handlerPc, h.catchType))).map mkE := by
        rw [List.map_map]
        exact (List.map_id _).symm
      rw [e1, hx.2.2.2.2.2.2.2.2, hex, List.map_append, List.map_cons]
    obtain ⟨vm', hW', hgo⟩ := z_rows (e := e) (S0 := s) (f := { F0 m pc ls st with stack := rest }) (a := v) (cell := ce) (VmData.ne_statics_of k2) hkx (x := mkE (a0, b0, hpc, ct)) (t := post.map mkE) hcov hct hlx (va_asg _ _) (pre.map mkE) (fun y9 hy9 => by
      obtain ⟨q, hq9, rfl⟩ := List.mem_map.mp hy9
      obtain ⟨z0, T9, z1, z2⟩ := hpre q hq9
      obtain ⟨c', hc', hcl9⟩ := Cond.classLink_spec hx.2.2.2.1 (hts _ z1) e.platform hpl
      obtain ⟨c1, t1, f1, f2, f3⟩ := hw.2.1.2.2 _ z2
      cases hE.symm.trans f1
      cases hc'.symm.trans f2
      exact ⟨z0, c', hcl9, f3⟩) ((B.U.setTop { F0 m pc ls st with stack := rest }).pushFrame (.throwing v)) (by rw [Stand.throwing_vm]; exact X'.warmed) (by rw [Stand.throwing_heap]; exact k1)
    have XV := X'.noted hW'
    obtain ⟨t, a1, b1⟩ := hk v p e R s m args below meth c B.U.heap B.locs B.cells B.slots ls hx (hw.back hT h1 h2 h3 h4 hL hc9 hn9) hl (B.U.setVm vm') rfl XV
    exact ⟨t, hstep₁ _ fun acts => by rw [doInvoke_state]; exact hsteps.trans (z_step (S := B.U) X'.here (fun Q E dd acts => by rw [W.findHandler_eq (code := c) (by rw [Stand.throwing_vm]; exact X'.method') X'.code, htab]; exact hgo Q E dd acts) a1), b1⟩
/-! methods with handlers, and their calls -/
theorem Cz.ofW {w : zC} {d : Nat × Nat} {y : MethodName} {cc : ByteArray} {nL : Nat} {rt : Option FieldType} {hs : List (Nat × Nat × Nat × Nat)} {As : List Value} {Z : zZ} {Post : zR → zZ → Prop}
    (hy : plainName y.cls = true) (hn : (lg_sl As).length ≤ nL) (h : G w y cc nL rt d Post 0 (lv_args 0 As) [] Z) (hz : zEx y = hs := by decide +kernel) : Cz w d y (Cond.codeWith y cc nL rt hs :: wz) As Z Post := by
  refine MetFree.of_bodyS (code := cc) (maxLocals := nL) (ret := rt) hy ?_ ?_
  · intro args s m h hn
    obtain ⟨m', meth, c, h0, h1, h2, h3, h4, -, h5, h6, -⟩ := Cond.codeWith_spec (atoms_spec (ws := Cond.codeWith y cc nL rt hs :: wz) h _ List.mem_cons_self)
    cases hn.symm.trans h0
    exact ⟨meth, c, h1, h2, h3, h4, h5, h6⟩
  · intro p e s m args below meth c s₁ B hml hP _
    obtain ⟨rfl, hst, hK, hS, hA, hPl, hD⟩ := hP
    have hh0 : s₁.heap = s.heap := by rw [B.state]; rfl
    have hts := atoms_spec (ws := Cond.codeWith y cc nL rt hs :: wz) B.pre
    have X9 := Stand.of_body B
    have hE : c.exceptionTable.toList.map (fun h => (h.startPc, h.endPc, h.handlerPc, h.catchType)) = zEx y := by
      obtain ⟨m9, meth9, c9, q0, q1, q2, -, -, q5, -, -, -⟩ := Cond.codeWith_spec (hts _ List.mem_cons_self)
      cases B.named.symm.trans q0
      cases Option.some.inj (X9.method.symm.trans q1)
      cases Option.some.inj (X9.code.symm.trans q2)
      rw [hz]
      exact q5
    have K := h p e (zrm d Z) s m As.toArray below meth c s.heap [] 0 0 _
      ⟨B.exec, B.bytes, hml, findClass_of_methodNamed B.named, fun v hv => hts v (List.mem_cons_of_mem _ hv), B.returns, B.notSynchronized, fun _ => (name_of_methodNamed B.named B.method).1, hE⟩
      ⟨hst, hK, hS, hA, hPl, hD, va_S.rf, by simp [zrm], by simp [zrm], Nat.le_refl _, Nat.le_refl _⟩ (lv_entry As hn)
    rw [← lg_entry_eq] at K
    obtain ⟨t, a1, o, b1, b2, b3⟩ := K s₁ hh0 X9
    exact ⟨t, o, a1, b1, b2, b3⟩
def zCallW (y' : MethodName) (cc' : ByteArray) (nL' : Nat) (rt' : Option FieldType) (hs : List (Nat × Nat × Nat × Nat)) (n : Nat) : Prop := Cond.codeWith y' cc' nL' rt' hs ∈ wz ∧ Cond.initialized y'.cls ∈ wz ∧ y'.cls ≠ "java/lang/invoke/MethodHandle" ∧ y'.cls ≠ "java/lang/invoke/VarHandle" ∧ (parseMethodDescriptor y'.desc).map (fun d => d.parameters.length) = some n
theorem cz_backW {w : zC} {Z : zZ} {hs : List (Nat × Nat × Nat × Nat)} {d' : Nat × Nat} {y' : MethodName} {ws : List Cond} {As : List Value} {Post' : zR → zZ → Prop} {R : Room} {p : Program} {e : Env} {below : List Frame} {s : State} {sargs : Array Value} {bytes : ByteArray} {maxL : Nat} {ret : Option FieldType}
    (hC : Cz w d' y' ws As Z Post') (hnt : ∀ r Z', Post' r Z' → ∃ v, r = .inl v) (hws : ∀ v ∈ ws, ∀ (a' : Array Value) (U : State), s.WarmedH U.vm → v.before a' U = true) (hcode : Cond.codeWith y' bytes maxL ret hs ∈ ws)
    (hini : ∀ (a' : Array Value) (U : State), s.WarmedH U.vm → (Cond.initialized y'.cls).before a' U = true) (hfr : d'.1 + 1 ≤ R.frames) (hlo : 8 + (maxL + 11) + d'.2 ≤ R.locals) :
    Jvm.Free.Back w.1 R p e below s sargs y' 3 8 (zPreP w R As Z) (zPostP w Z Post') := by
  refine Jvm.Free.Back.of_freeWith (handlers := hs) (S := headSpec ws (zrm d' Z)) (bytes := bytes) (maxL := maxL) (ret := ret)
    (E := fun _ st o t L k n => ∃ (r : zR) (Z' : zZ), Post' r Z' ∧ zOut r o t ∧ va_P w.2.1 vwCl (zpl Z') t.heap ∧ va_D w.2.2.1 (zpl Z') ∧ va_F w.2.2.1 st t ∧ (∀ q ∈ L, w.2.2.1 q.base) ∧ k + Z'.2.2.1 ≤ Z.2.2.1 ∧ n + Z'.2.2.2 ≤ Z.2.2.2) hC hfr hlo ?_ ?_ (fun _ _ _ _ _ _ _ _ _ => trivial) ?_ ?_
  · intro m meth c A a X hp
    exact ⟨atoms_intro fun v hv => hws v hv _ _ X.warmed, hws _ hcode _ _ X.warmed, hini _ _ X.warmed, hp.2.1, hp.2.2.1⟩
  · intro m meth c A a g mk X hp
    obtain ⟨rfl, -, -, a1, a2, a3, a4, a5, a6⟩ := hp
    exact ⟨rfl, a1, zKn.warm (U := A.U.calling g mk As.toArray) (State.WarmedH.refl A.U) a2, a1 A.U (A.U.calling g mk As.toArray) A.U.heap A.U.heap (State.WarmedH.refl A.U) (fun _ _ _ => rfl) a3, a4, a5, a6⟩
  · intro a st o t ⟨r, Z', hp, ho, h1, h2, h3, L, k, n, hS, hL, hk, hn⟩
    obtain ⟨v, rfl⟩ := hnt _ _ hp
    exact ⟨L, k, n, ⟨⟨v, ho⟩, hS.1, hS.2⟩, .inl v, Z', hp, ho, h1, h2, h3, hL, hk, hn⟩
  · intro m meth c A a g mk v t L k n X hp hq hF ⟨r, Z', hp', ho, h1, h2, h3, hL, hk, hn⟩
    obtain ⟨v', rfl⟩ := hnt _ _ hp'
    cases ho
    exact ⟨Z', L, hp', h1, h2, h3, rfl, hL, by show A.cells + k + _ ≤ _; omega, by show A.slots + n + _ ≤ _; omega⟩
theorem g_callSW {w : zC} {y : MethodName} {cc : ByteArray} {nL : Nat} {rt : Option FieldType} {d : Nat × Nat} {Post : zR → zZ → Prop} {pc : Nat} {lv : List (Nat × Value)} {rest : List Value} {Z : zZ} {d' : Nat × Nat} {y' : MethodName} {cc' : ByteArray} {nL' n idx : Nat} {rt' : Option FieldType} {hs : List (Nat × Nat × Nat × Nat)} {As st : List Value} (hdg : decode cc pc = .ok (.invokestatic idx, 3)) (hy : zCallW y' cc' nL' rt' hs n) (hlink : Cond.methodLink y.cls idx y' ∈ wz) (hstat : Cond.static y' ∈ wz) (hst : st = As.reverse ++ rest) (hn : As.length = n) (hsum : (rest.map fun v => v.category).sum ≤ 8) (hd : d'.1 + 1 ≤ d.1 ∧ 19 + nL' + d'.2 ≤ d.2)
    (hC : Cz w d' y' (Cond.codeWith y' cc' nL' rt' hs :: wz) As Z (zK w y cc nL rt d Post (pc + 3) lv rest)) : G w y cc nL rt d Post pc lv st Z :=
  fun p e R s m args below meth c H locs cells slots ls hx hw hl => by
    intro T hT X
    have hts := hx.2.2.2.2.1
    obtain ⟨mk, methM, cM, hnamed, hmethM, -, -, -, -, -, -, hsigM⟩ := Cond.codeWith_spec (hts _ hy.1)
    have hstatic : methM.isStatic = true := Cond.static_spec hnamed hmethM (hts _ hstat)
    obtain ⟨kP, hkP, -⟩ := className_of_methodNamed hnamed
    have hinitP : kP.init = .initialized := Cond.initialized_spec (findClass_of_methodNamed hnamed) hkP (hts _ hy.2.1)
    obtain ⟨vm₁, X₁, hstep₁⟩ := X.invokestatic hx.1 hx.2.2.2.1 (hts _ hlink) hnamed hmethM hstatic hkP hinitP ⟨hy.2.2.1, hy.2.2.2.1⟩ (g := F0 m pc ls st) rfl (argsL := As) (rest := rest) (by have h5 := hy.2.2.2.2; rw [hsigM] at h5; exact hn.trans (Option.some.inj h5).symm) hst (by rw [hx.2.1]; exact hdg)
    have hBT := cz_backW (w := w) (Z := Z) (R := R) (p := p) (e := e) (below := below) (s := s) (sargs := args) (bytes := cc') (maxL := nL') (ret := rt') (hs := hs) hC (fun r Z' h9 => ⟨h9.choose, h9.choose_spec.1⟩) (wz_goodc hts hy.1) List.mem_cons_self (fun a' U hW => wz_good hts _ hy.2.1 a' U hW) (by have := hw.2.2.2.2.2.2.2.2.2.1; omega) (by have := hw.2.2.2.2.2.2.2.2.2.2; omega)
    obtain ⟨v, B, X', ⟨Z', L, ⟨v', hv', hk⟩, h1, h2, h3, h4, hL, hc9, hn9⟩, hsteps⟩ := hBT m meth c ⟨T.setVm vm₁, locs, cells, slots⟩ { F0 m pc ls st with stack := rest } (.invokestatic idx) mk As.toArray X₁ rfl (hl.1.trans hx.2.2.1.symm) (by rw [hx.2.1]; exact hdg) (lv_room hsum) (X₁.named hnamed) ⟨rfl, hw.2.2.2.2.2.2.2.1, hw.2.2.2.2.2.2.2.2.1, zPre_at hw hT X₁.warmed⟩
    cases hv'
    obtain ⟨t, a1, b1⟩ := hk p e R s m args below meth c B.U.heap B.locs B.cells B.slots ls hx (hw.back hT h1 h2 h3 h4 hL hc9 hn9) hl B.U rfl X'
    exact ⟨t, hstep₁ _ fun acts => by rw [doInvoke_state]; exact hsteps.trans a1, b1⟩
