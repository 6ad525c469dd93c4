/-! The rule of a throw -/
/-- the walk begun anew where it stands: nothing written yet -/
theorem zRe {p : Program} {l : Launch} {e : Env} {R : Room} {s : State} {m : MethodId} {args : Array Value} {below : List Frame} {meth : Method} {c : Code} {T : State} {locs : List Loc} {cells slots : Nat}
    (X : Stand p l e R s m args below meth c T locs cells slots) (hc : cells ≤ R.cells) (hs : slots ≤ R.slots) :
    ∃ s' : State, s'.vm = T.vm ∧ s'.heap = T.heap ∧ Stand p l e { R with cells := R.cells - cells, slots := R.slots - slots } s' m args below meth c T [] 0 0 ∧
      ∀ (U : State) (k n : Nat), s'.WarmedH U.vm → s'.sameButNew ({ U with vm := s'.vm } : State) [] k n → s.WarmedH U.vm ∧ s.sameButNew ({ U with vm := s.vm } : State) locs (cells + k) (slots + n) := by
  obtain ⟨q1, q2, q3, q4, q5, q6⟩ := X.same
  refine ⟨({ s with heap := T.heap, slotsUsed := T.slotsUsed } : State).setVm T.vm, rfl, rfl, ⟨X.admits, X.cas, X.clock, X.frames, ?_, ?_, X.method', X.code, X.here, X.tail, State.WarmedH.refl _, X.limits, X.bytes, ?_⟩, ?_⟩
  · have hr := X.room
    have hb := X.book
    have hl : (({ s with heap := T.heap, slotsUsed := T.slotsUsed } : State).setVm T.vm).localsInUse = s.localsInUse := by
      have hf := X.frames
      have hf' : (({ s with heap := T.heap, slotsUsed := T.slotsUsed } : State).setVm T.vm).frames = .invoking m args :: below := hf
      unfold State.localsInUse
      rw [hf, hf']
      show _ + ((((T.vm.method? m).bind (·.code)).map (·.maxLocals)).getD 0 + 11) = _ + ((((s.vm.method? m).bind (·.code)).map (·.maxLocals)).getD 0 + 11)
      rw [X.method, X.method']
    unfold State.hasRoom at hr ⊢
    rw [hl]
    simp only [Bool.and_eq_true, decide_eq_true_eq] at hr ⊢
    obtain ⟨⟨⟨⟨r1, r2⟩, r3⟩, r4⟩, r5⟩ := hr
    refine ⟨⟨⟨⟨r1, r2⟩, ?_⟩, ?_⟩, hb⟩
    · have g3 : T.heap.size ≤ s.heap.size + cells := q3
      show T.heap.size + (R.cells - cells) ≤ _
      omega
    · have g4 : T.slotsUsed = s.slotsUsed + ((T.heap.toList.drop s.heap.size).map (·.slots.size)).sum := q4
      have g5 : ((T.heap.toList.drop s.heap.size).map (·.slots.size)).sum ≤ slots := q5
      show T.slotsUsed + (R.slots - slots) ≤ _
      omega
  · have hh := X.hears
    have ha : ∀ g, T.vm.method? g = s.vm.method? g := fun g => X.warmed.alike.method? g
    cases below with
    | nil =>
      simp only [State.hears] at hh ⊢
      show (T.vm.method? m).any _ = true
      rw [ha]; exact hh
    | cons f r =>
      have hcc : ∀ g, (({ s with heap := T.heap, slotsUsed := T.slotsUsed } : State).setVm T.vm).code? g = s.code? g := fun g => (State.code?_setVm (s := ({ s with heap := T.heap, slotsUsed := T.slotsUsed } : State)) X.warmed.alike g).trans rfl
      cases f <;> simp only [State.hears] at hh ⊢ <;> first | (rw [hcc]; exact hh) | (show (T.vm.method? m).any _ = true; rw [ha]; exact hh)
  · refine ⟨?_, Nat.le_refl _, Nat.le_refl _, ?_, ?_, fun a c h => ⟨c, h, rfl, rfl, fun _ _ => rfl⟩⟩
    · exact congrArg (fun u : State => u.setVm T.vm) q1
    · show T.slotsUsed = T.slotsUsed + ((T.heap.toList.drop T.heap.size).map (·.slots.size)).sum
      rw [List.drop_eq_nil_of_le (by simp)]
      rfl
    · show ((T.heap.toList.drop T.heap.size).map (·.slots.size)).sum ≤ 0
      rw [List.drop_eq_nil_of_le (by simp)]
      exact Nat.le_refl _
  · intro U k n hW hS
    have hW' : T.WarmedH U.vm := hW
    refine ⟨State.WarmedH.trans X.warmed hW', ?_⟩
    obtain ⟨p1, p2, p3, p4, p5, p6⟩ := hS
    have hB : T.sameButNew ({ U with vm := T.vm } : State) [] k n := by
      refine ⟨?_, p2, p3, p4, p5, p6⟩
      have hT : T = ({ s.setFrames T.frames with heap := T.heap, slotsUsed := T.slotsUsed } : State).setVm T.vm := by
        have := congrArg (fun u : State => u.setVm T.vm) q1
        exact this
      have e1 : T.setFrames U.frames = (({ s with heap := T.heap, slotsUsed := T.slotsUsed } : State).setVm T.vm).setFrames U.frames := by
        have h9 : T.setFrames U.frames = (((({ s with heap := T.heap, slotsUsed := T.slotsUsed } : State).setVm T.vm)).setFrames T.frames).setFrames U.frames := congrArg (fun u : State => u.setFrames U.frames) hT
        rw [h9, State.setFrames_setFrames]
      refine p1.trans ?_
      rw [show ({ T.setFrames ({ U with vm := T.vm } : State).frames with heap := ({ U with vm := T.vm } : State).heap, slotsUsed := ({ U with vm := T.vm } : State).slotsUsed } : State) = { (({ s with heap := T.heap, slotsUsed := T.slotsUsed } : State).setVm T.vm).setFrames U.frames with heap := U.heap, slotsUsed := U.slotsUsed } by rw [← e1]; rfl]
      rfl
    have h9 := X.same.trans (hB.setVm s.vm)
    rw [List.append_nil] at h9
    exact h9
