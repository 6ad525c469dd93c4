/-! The rule of a throw -/
theorem same_nil {s U : State} {k n : Nat} (h : s.sameButNew U [] k n) : ∀ q : Nat, q < s.heap.size → U.heap[q]? = s.heap[q]? := by
  intro q hq
  obtain ⟨c, hc⟩ : ∃ c, s.heap[q]? = some c := ⟨_, Array.getElem?_eq_getElem hq⟩
  obtain ⟨c', h1, h2, h3, h4⟩ := h.2.2.2.2.2 q c hc
  have e1 : c'.slots = c.slots := Array.ext_getElem? fun i => h4 i (by simp)
  rw [h1, hc, h2, e1]
theorem g_thr {w : zC} {y : MethodName} {cc : ByteArray} {nL : Nat} {rt : Option FieldType} {d : Nat × Nat} {Post : zR → zZ → Prop} {pc : Nat} {lv : List (Nat × Value)} {Z : zZ} {adK adV : Nat → Nat} (hK : zLit w adK adV) (hT9 : zThr w) {E tx : String} {i idx il ic : Nat} {byt : List Int32} (hi : zLi[i]? = some (y.cls, il, tx, byt)) (hE : Bundle.fit E = true)
    (hat : ∀ a ∈ Bundle.ownAtoms y.cls ic E zUp, zHas a) (hcl : Cond.classLink y.cls idx E ∈ wz) (hini : Cond.initialized E ∈ wz) (d0 : decode cc pc = .ok (.new idx, 3)) (d3 : decode cc (pc + 3) = .ok (.dup, 1)) (d4 : decode cc (pc + 4) = .ok (.ldc il, 2)) (d6 : decode cc (pc + 6) = .ok (.invokespecial ic, 3)) (d9 : decode cc (pc + 9) = .ok (.athrow, 1))
    (hz : zEx y = []) (h1 : 1 ≤ Z.2.2.1) (h2 : 6 ≤ Z.2.2.2) (hd : 6 ≤ d.1 ∧ 90 ≤ d.2) (hp : Post (.inr E) (zpay Z 1 6)) : G w y cc nL rt d Post pc lv [] Z :=
  fun p e R s m args below meth c H locs cells slots ls hx hw hl => by
    intro T hT X
    obtain ⟨w1, w2, w3, w4, w5, w6, w7, w8, w9, w10, w11⟩ := hw
    obtain ⟨s', hv, hh, X', back⟩ := zRe X (by omega) (by omega)
    have hW : s.WarmedH s'.vm := by rw [hv]; exact X.warmed
    have hts : ∀ v ∈ wz, v.before args s' = true := fun v hv9 => wz_good hx.2.2.2.2.1 v hv9 args s' hW
    have hP5 : w.2.2.2.2 s' s'.heap := w1 s s' s.heap s'.heap hW (fun q g1 g2 => by rw [hh, hT]; exact w7.2.1 q g1 g2) w3
    have hown : s'.vm.findClass y.cls = some m.cls := by rw [hW.alike.findClass]; exact hx.2.2.2.1
    have hat' : ∀ a ∈ Bundle.ownAtoms y.cls ic E zUp, a.before args s' = true := fun a ha => by
      rcases hat a ha with h | h | h
      · exact hts a h
      · exact va_Nw.use h.2 ((zNw.warm hW w2.2).1 a h.1 : va_Nw a s')
      · exact (hT9.2 _ _ hP5).all a h
    have htr : e.platform.stackTraces = false := by rw [X.admits.platform]; exact hT9.1
    obtain ⟨vm₁, cX, kX, hfX, hkX, -, -, X₁, st1⟩ := X'.newCold hx.1 (own := y.cls) (C := E) (index := idx) (n := 6) hown (hts _ hcl) (hat' (.instantiable E 6) (by simp [Bundle.ownAtoms])) (hts _ hini) (g := F0 m pc ls []) rfl (by rw [hx.2.1]; exact d0) (by show 0 + 1 ≤ R.cells - cells; omega) (by show 0 + 6 ≤ R.slots - slots; omega)
    have hcellA : ((T.setVm vm₁).pushCell { cls := cX, slots := kX.instanceTypes.map defaultValue, vm := .none }).heap[T.heap.size]? = some (freshCell cX kX) := State.heap_pushCell_size _ _
    generalize ((T.setVm vm₁).pushCell { cls := cX, slots := kX.instanceTypes.map defaultValue, vm := .none }) = T1 at X₁ st1 hcellA
    have hZ := ((hK _ _ hP5).1 i _ _ _ _ hi).1
    have hout : ∀ x ∈ c.exceptionTable.toList, covers x (pc + 6 + 3) = false := fun x hx9 => by
      have h9 := hx.2.2.2.2.2.2.2.2
      rw [hz, List.map_eq_nil_iff] at h9
      rw [h9] at hx9
      cases hx9
    obtain ⟨U, hsteps, hrun, hend, hWU, hsame, ce, hce, K⟩ := X₁.ctorThrowS hx.1 htr (own := y.cls) (cls := E) (names := zUp) (ic := ic) hown hE (by decide +kernel) hat' (fun x hx9 => by cases hx9) hfX hkX hcellA (by rw [hh]; exact Nat.le_refl _) (msg := .ref (adK i)) rfl
      (g := F0 m (pc + 6) ls [.ref (adK i), .ref T.heap.size, .ref T.heap.size]) rfl (hl.1.trans hx.2.2.1.symm) rfl rfl (rest := []) rfl (by rw [hx.2.1]; exact d6) (by rw [hx.2.1]; exact d9) hout (by show 2 + 3 < R.frames; omega) (by show 2 * 0 + (1 + 0) + (13 * (2 + 1) + 42) ≤ R.locals; omega) hx.2.2.2.2.2.2.1
    obtain ⟨B1, B2⟩ := back U 1 6 hWU hsame
    have hold := same_nil hsame
    have hsz : s'.heap.size ≤ U.heap.size := hsame.2.1
    rw [hh] at hold hsz
    refine ⟨U, ?_, .threw T.heap.size, hrun, hend, .inr E, zpay Z 1 6, hp, ⟨_, ce, rfl, hce, by rw [K.vm]; rfl, ?_⟩, ?_, w6, ?_, locs, cells + 1, slots + 6, ⟨B1, B2⟩, w7.2.2, by show cells + 1 + (Z.2.2.1 - 1) ≤ _; omega, by show slots + 6 + (Z.2.2.2 - 6) ≤ _; omega⟩
    · refine st1 _ ?_
      show Steps p.tables e below (T1.setTop (F0 m (pc + 3) ls [.ref T.heap.size])) _
      jvm_step X₁.here [X₁.here.top, hx.1, hx.2.1, d3, Value.category]
      exact X₁.ldcString hx.1 (own := y.cls) (text := tx) (index := il) (a := adK i) hown hZ.1 hZ.2 (g := F0 m (pc + 4) ls [.ref T.heap.size, .ref T.heap.size]) rfl (by rw [hx.2.1]; exact d4) _ hsteps
    · rw [hWU.alike.findClass]; exact K.cls
    · show va_P w.2.1 vwCl (zpl Z) U.heap
      refine va_P.kept (H := H) w5 (fun k q hk => ?_)
      rw [← hT]
      exact hold _ (by rw [hT]; exact (w5 k q hk).lt)
    · refine ⟨Nat.le_trans w7.1 (by rw [← hT]; exact hsz), fun q g1 g2 => ?_⟩
      rw [hold q (by rw [hT]; exact Nat.lt_of_lt_of_le g1 w7.1), hT]
      exact w7.2.1 q g1 g2
