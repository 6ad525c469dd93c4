/-- the words that every method of this claim gets: those of lw_tbl that a callee may carry on -/
def wz : List Cond := lw_tbl.filter goodWord
theorem wz_tbl : ∀ w ∈ wz, w ∈ lw_tbl := fun _ h => (List.mem_filter.mp h).1
theorem wz_at {c : Cond} (i : Nat) (h : tables_1[i]? = some c) (hg : goodWord c = true) : c ∈ wz := List.mem_filter.mpr ⟨List.mem_append_right _ (List.mem_of_getElem? h), hg⟩
theorem wz_priv {y : MethodName} {n : Nat} (i : Nat) (h : lw_privs[i]? = some (y, n)) : Cond.selects y.cls y y ∈ wz := List.mem_filter.mpr ⟨List.mem_append_left _ (List.mem_map.mpr ⟨(y, n), List.mem_of_getElem? h, rfl⟩), rfl⟩
theorem wz_all (ws : List Cond) (ps : List Nat) (h : ws = ps.filterMap (fun i => tables_1[i]?)) (hg : ws.all goodWord = true) : ∀ v ∈ ws, v ∈ wz := by
  intro v hv
  have h1 := List.all_eq_true.mp hg v hv
  rw [h] at hv
  obtain ⟨i, -, hi⟩ := List.mem_filterMap.mp hv
  exact wz_at i hi h1
theorem z_oi : Cond.instanceMethod Lib.objectInit ∈ wz := wz_at 33 (by decide +kernel) rfl
theorem z_oc : Cond.code Lib.objectInit ⟨#[0xb1]⟩ 1 none ∈ wz := wz_at 34 (by decide +kernel) rfl
/-- words that a callee keeps by rows of their own: private members of nest mates, what is declared, what may be cast -/
def isNw : Cond → Bool
  | .methodLinkNest .. => true
  | .declares .. => true
  | .castable .. => true
  | .arrayOver (.object _) => true
  | _ => false
def wn : List Cond := lw_tbl.filter isNw
theorem wn_at {c : Cond} (i : Nat) (h : tables_1[i]? = some c) (hg : isNw c = true) : c ∈ wn := List.mem_filter.mpr ⟨List.mem_append_right _ (List.mem_of_getElem? h), hg⟩
/-- an instanceof that fails -/
def wnc : List (String × String) := [("PinKindChecks$Part", "PinKindChecks$Net"), ("PinKindChecks$Part", "PinKindChecks$Pin"), ("PinKindChecks$Net", "PinKindChecks$Part"), ("PinKindChecks$Net", "PinKindChecks$Pin"), ("PinKindChecks$Pin", "PinKindChecks$Part"), ("PinKindChecks$Pin", "PinKindChecks$Net"), ("java/lang/IllegalArgumentException", "java/lang/IndexOutOfBoundsException")]
/-- a field of a class of the table, and the entry of a pool that names it -/
def zF (own : String) (idx ci k : Nat) : Prop := ∃ (C : String) (T : u_T) (N : Nat), vwCl[ci]? = some (C, T, N) ∧ k < N ∧ (∀ v ∈ u_ws C T N, v ∈ wz) ∧ Cond.fieldLink own idx (T k).1 (T k).2.1 (T k).2.2.1 ∈ wz
def zFp (own : String) (idx ci k : Nat) (ty : FieldType) (fin : Bool) : Prop := ∃ (C : String) (T : u_T) (N : Nat) (ty0 : Nat → FieldType), vwCl[ci]? = some (C, T, N) ∧ k < N ∧ (∀ v ∈ u_ws C T N, v ∈ wz) ∧ Cond.fieldLink own idx (T k).1 (T k).2.1 (T k).2.2.1 ∈ wz ∧
  (∀ k, k < N → parseFieldDescriptor (T k).2.2.1 = some (ty0 k)) ∧ (∀ a, a < N → ∀ b, b < N → a ≠ b → (T a).2.1 ≠ (T b).2.1) ∧ (T k).2.2.2 = fin ∧ parseFieldDescriptor (T k).2.2.1 = some ty ∧ (fin = true → (T k).1 = own)
/-- an object of the class ci may lie in a row of E -/
def zAs (ci : Nat) (E : String) : Prop := ∃ r : vw_C, vwCl[ci]? = some r ∧ (r.1 = E ∨ Cond.castable r.1 E ∈ wn)
/-- a new object -/
def zN (own : String) (idx ci N : Nat) (fs : List Value) : Prop := ∃ (C : String) (T : u_T) (ty : Nat → FieldType), vwCl[ci]? = some (C, T, N) ∧ (∀ v ∈ u_ws C T N, v ∈ wz) ∧ (∀ k, k < N → parseFieldDescriptor (T k).2.2.1 = some (ty k)) ∧ Cond.classLink own idx C ∈ wz ∧ Cond.instantiable C N ∈ wz ∧ Cond.initialized C ∈ wz ∧ (∀ j, j < N → defaultValue (ty j) = vp_V fs j)
/-- what every call asks of the callee's words: its code, its class -/
def zCall (y' : MethodName) (cc' : ByteArray) (nL' : Nat) (rt' : Option FieldType) (n : Nat) : Prop := Cond.code y' cc' nL' rt' ∈ wz ∧ Cond.initialized y'.cls ∈ wz ∧ y'.cls ≠ "java/lang/invoke/MethodHandle" ∧ y'.cls ≠ "java/lang/invoke/VarHandle" ∧ (parseMethodDescriptor y'.desc).map (fun d => d.parameters.length) = some n
def zDecl (x : MethodName) : Prop := Cond.declares x ∈ wn ∨ (Cond.instanceMethod x ∈ wz ∧ ∃ b m r, Cond.code x b m r ∈ wz)
/-- the handlers of a method: only the law has such -/
def zExL : List (String × List (Nat × Nat × Nat × Nat)) := [("table", [(0, 19, 22, 13), (0, 19, 26, 15)]), ("part", [(0, 9, 12, 13)]), ("net", [(0, 10, 13, 13), (0, 10, 17, 15)]), ("pin", [(0, 12, 15, 13), (0, 12, 19, 15)]), ("join", [(0, 17, 20, 13)]), ("field", [(0, 19, 22, 13)]), ("end", [(0, 20, 23, 13)]), ("rule", [(0, 8, 11, 45)]), ("off", [(0, 17, 20, 13)]), ("remark", [(0, 10, 13, 13)]), ("closed", [(0, 10, 13, 13)]), ("waive", [(0, 21, 24, 13), (0, 21, 28, 15)])]
def zEx (y : MethodName) : List (Nat × Nat × Nat × Nat) := if y.cls = "PinKindChecksLaw" then ((zExL.find? (fun q => q.1 == y.name)).map (fun q => q.2)).getD [] else []
