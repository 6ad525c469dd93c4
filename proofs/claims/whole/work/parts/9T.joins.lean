/-! each call leaves both states alike: a pin, a join -/
theorem cN_I {S : ST} {b d : Nat} {x : Int32} {m : Nat} (h1 : m ≠ 220 + 2 * b) (h2 : m ≠ 221 + 2 * b) : sI (cntN S b d x) m = sI S m := by
  unfold cntN
  rw [wIo h1, wIo h2]
theorem cN_1 {S : ST} {b d : Nat} {x : Int32} : sI (cntN S b d x) (221 + 2 * b) = upd (sI S (221 + 2 * b)) d (sI S (221 + 2 * b) d + x) := by
  unfold cntN
  rw [wIo (by omega), wIs]
theorem cN_0 {S : ST} {b d : Nat} {x : Int32} : sI (cntN S b d x) (220 + 2 * b) = va_up (sI S (220 + 2 * b)) 3 (sI S (220 + 2 * b) 3 + x) := by
  unfold cntN
  rw [wIs]
theorem cP_I {S : ST} {b d : Nat} {x : Int32} {m : Nat} (h1 : m ≠ 100 + 3 * b) (h2 : m ≠ 101 + 3 * b) : sI (cntP S b d x) m = sI S m := by
  unfold cntP
  rw [wIo h1, wIo h2]
theorem cP_1 {S : ST} {b d : Nat} {x : Int32} : sI (cntP S b d x) (101 + 3 * b) = upd (sI S (101 + 3 * b)) d (sI S (101 + 3 * b) d + x) := by
  unfold cntP
  rw [wIo (by omega), wIs]
theorem cP_0 {S : ST} {b d : Nat} {x : Int32} : sI (cntP S b d x) (100 + 3 * b) = va_up (sI S (100 + 3 * b)) 3 (sI S (100 + 3 * b) 3 + x) := by
  unfold cntP
  rw [wIs]
theorem cO_N {S : ST} {o : Option Nat} {d : Nat} {x : Int32} : sN (cntO S o d x) = sN S ∧ sJ (cntO S o d x) = sJ S ∧ sR (cntO S o d x) = sR S := by
  cases o <;> exact ⟨rfl, rfl, rfl⟩
theorem cO_I {S : ST} {o : Option Nat} {d : Nat} {x : Int32} {m : Nat} (h : ∀ b, o = some b → m ≠ 220 + 2 * b ∧ m ≠ 221 + 2 * b) : sI (cntO S o d x) m = sI S m := by
  cases o with
  | none => rfl
  | some b => exact cN_I (h b rfl).1 (h b rfl).2
theorem si_pin {n p k d : Nat} {S : ST} {o : Option Nat} {v : Int64} {y : Int32} (h : Sim n S) (h160 : sN S 2 < 160) (hk : k < sN S 0) (hd : d < 10) (ho : ∀ b, o = some b → b < sN S 1) (hy : y = oI o) (T : ST) (hT0 : T = outS (pinS (pinB (cntO (cntP S k d 1) o d 1) k d (sI S (100 + 3 * k) 0) o) p) v) (hp : p = insP (ordP (pinB (cntO (cntP S k d 1) o d 1) k d (sI S (100 + 3 * k) 0) o)) ((sI S (100 + 3 * k) 0 * 3 + 2) * 160 + nI (sN S 2)) (sN (pinB (cntO (cntP S k d 1) o d 1) k d (sI S (100 + 3 * k) 0) o) 0 + sN (pinB (cntO (cntP S k d 1) o d 1) k d (sI S (100 + 3 * k) 0) o) 1 + sN (pinB (cntO (cntP S k d 1) o d 1) k d (sI S (100 + 3 * k) 0) o) 2)) : Sim n (wN (wI (wI (wI (thS T 0) 709 (upd (sI T 709) (sN T 22) (nI k))) 710 (upd (sI T 710) (sN T 22) y)) 711 (upd (sI T 711) (sN T 22) (nI d))) 22 (sN T 22 + 1)) ∧ sN T 22 = sN S 2 := by
  subst hy
  have hg := h.1
  have c3 := hg.1.1.2.2.1
  have hb := hg.1.2.1
  unfold bdS at hb
  obtain ⟨cn1, cn2, cn3⟩ := cO_N (S := cntP S k d 1) (o := o) (d := d) (x := 1)
  have pcN : sN (cntP S k d 1) = sN S := rfl
  rw [pcN] at cn1
  have cI : ∀ m, m ≠ 100 + 3 * k → m ≠ 101 + 3 * k → (∀ b, o = some b → m ≠ 220 + 2 * b ∧ m ≠ 221 + 2 * b) → sI (cntO (cntP S k d 1) o d 1) m = sI S m := fun m a b c => by rw [cO_I c, cP_I a b]
  have c101 : sI (cntO (cntP S k d 1) o d 1) (101 + 3 * k) = upd (sI S (101 + 3 * k)) d (sI S (101 + 3 * k) d + 1) := by
    rw [cO_I (fun b hb => by have := ho b hb; omega), cP_1]
  have c100 : sI (cntO (cntP S k d 1) o d 1) (100 + 3 * k) = va_up (sI S (100 + 3 * k)) 3 (sI S (100 + 3 * k) 3 + 1) := by
    rw [cO_I (fun b hb => by have := ho b hb; omega), cP_0]
  have cb : ∀ b, o = some b → sI (cntO (cntP S k d 1) o d 1) (221 + 2 * b) = upd (sI S (221 + 2 * b)) d (sI S (221 + 2 * b) d + 1) ∧ sI (cntO (cntP S k d 1) o d 1) (220 + 2 * b) = va_up (sI S (220 + 2 * b)) 3 (sI S (220 + 2 * b) 3 + 1) := fun b e => by
    subst e
    have := ho b rfl
    show sI (cntN (cntP S k d 1) b d 1) (221 + 2 * b) = _ ∧ sI (cntN (cntP S k d 1) b d 1) (220 + 2 * b) = _
    rw [cN_1, cN_0, cP_I (by omega) (by omega), cP_I (by omega) (by omega)]
    exact ⟨rfl, rfl⟩
  generalize cntO (cntP S k d 1) o d 1 = C at *
  have bN : ∀ m, m ≠ 2000 + sN S 2 → sN (pinB C k d (sI S (100 + 3 * k) 0) o) m = sN S m := fun m hm => by
    show va_up C.2.2.2 (2000 + sN C 2) k m = _
    rw [cn1, va_up_ne _ _ hm]
    show sN C m = _
    rw [cn1]
  have bN2 : sN (pinB C k d (sI S (100 + 3 * k) 0) o) (2000 + sN S 2) = k := by
    show va_up C.2.2.2 (2000 + sN C 2) k _ = _
    rw [cn1, va_up_self]
  have bI : ∀ m, m ≠ 300 + sN S 2 → sI (pinB C k d (sI S (100 + 3 * k) 0) o) m = sI C m := fun m hm => by
    show va_up C.1 (300 + sN C 2) _ m = _
    rw [cn1, va_up_ne _ _ hm]
  have bIn : sI (pinB C k d (sI S (100 + 3 * k) 0) o) (300 + sN S 2) = fun j => if j = 0 then sI S (100 + 3 * k) 0 else if j = 3 then nI d else 0 := by
    show va_up C.1 (300 + sN C 2) _ _ = _
    rw [cn1, va_up_self]
  have bR : ∀ m, m ≠ 300 + sN S 2 → sR (pinB C k d (sI S (100 + 3 * k) 0) o) m = sR S m := fun m hm => by
    show va_up C.2.2.1 (300 + sN C 2) _ m = _
    rw [cn1, va_up_ne _ _ hm]
    exact congrFun cn3 m
  have bRn : sR (pinB C k d (sI S (100 + 3 * k) 0) o) (300 + sN S 2) = fun _ => o := by
    show va_up C.2.2.1 (300 + sN C 2) _ _ = _
    rw [cn1, va_up_self]
  have bJ : ∀ m, sJ (pinB C k d (sI S (100 + 3 * k) 0) o) m = sJ S m := fun m => congrFun cn2 m
  generalize pinB C k d (sI S (100 + 3 * k) 0) o = B at *
  rw [bN 0 (by omega), bN 1 (by omega), bN 2 (by omega)] at hp
  have eI : ∀ m, sI T m = sI B m := fun m => by rw [hT0]; rfl
  have eR : ∀ m, sR T m = sR B m := fun m => by rw [hT0]; rfl
  have eJ : ∀ m, m ≠ 57 → sJ T m = sJ S m := fun m hm => by
    rw [hT0, outJ hm]
    exact bJ m
  have eN : ∀ m, m ≠ 2 → m ≠ 2000 + sN S 2 → (m < 1000 ∨ 2000 ≤ m) → sN T m = sN S m := fun m a b c => by
    rw [hT0]
    show insN B 2 p (300 + sN B 2) m = _
    rw [insN_o a c, bN m b]
  have eN2 : sN T 2 = sN S 2 + 1 := by
    rw [hT0]
    show insN B 2 p (300 + sN B 2) 2 = _
    rw [insN_c, bN 2 (by omega)]
  have eNk : sN T (2000 + sN S 2) = k := by
    rw [hT0]
    show insN B 2 p (300 + sN B 2) (2000 + sN S 2) = _
    rw [insN_o (by omega) (by omega), bN2]
  have eO : ∀ j, j < 1000 → sN T (1000 + j) = va_up (shf (fun m => sN S (1000 + m)) (sN S 0 + sN S 1 + sN S 2) p) p (300 + sN S 2) j := fun j hj => by
    rw [hT0]
    show insN B 2 p (300 + sN B 2) (1000 + j) = _
    rw [insN_k (by decide) hj, bN 0 (by omega), bN 1 (by omega), bN 2 (by omega)]
    have ef : ∀ j, j < 1000 → va_up (shf (fun m => sN B (1000 + m)) (sN S 0 + sN S 1 + sN S 2) p) p (300 + sN S 2) j = va_up (shf (fun m => sN S (1000 + m)) (sN S 0 + sN S 1 + sN S 2) p) p (300 + sN S 2) j := fun j hj => by
      unfold va_up shf
      split
      · rfl
      · split
        · exact bN (1000 + (j - 1)) (by omega)
        · exact bN (1000 + j) (by omega)
    exact ef j hj
  have e22 : sN T 22 = sN S 2 := by rw [eN 22 (by omega) (by omega) (by omega)]; exact c3
  refine ⟨?_, e22⟩
  rw [e22]
  have eord : ∀ j, j < sN S 0 + sN S 1 + sN S 2 → ordP B j = ordP S j := fun j hj => by
    obtain ⟨c, q, ht, e⟩ := hg.2.2.2.2.2.2.2.1.1 j hj
    have hbd := tid_bd hg.1.2.1 ht
    obtain ⟨h1, h2, h3⟩ := ht.bd hg.1.2.1
    obtain ⟨x1, x2⟩ := tcq h1 ⟨h2, h3⟩
    unfold ordP
    rw [bN (1000 + j) (by omega), e, x1, x2]
    unfold plc
    have : sI B (tid c q) 0 = sI S (tid c q) 0 := by
      rcases ht with ⟨rfl, hq⟩ | ⟨rfl, hq⟩ | ⟨rfl, hq⟩
      · show sI B (100 + 3 * q) 0 = sI S (100 + 3 * q) 0
        rw [bI _ (by omega)]
        by_cases z : q = k
        · subst z; rw [c100, va_up_ne _ _ (by decide)]
        · rw [cI _ (by omega) (by omega) (fun b hb => by have := ho b hb; omega)]
      · show sI B (220 + 2 * q) 0 = sI S (220 + 2 * q) 0
        rw [bI _ (by omega)]
        by_cases z : o = some q
        · rw [(cb q z).2, va_up_ne _ _ (by decide)]
        · rw [cI _ (by omega) (by omega) (fun b hb => ⟨fun w => z (by rw [hb]; congr 1; omega), by omega⟩)]
      · show sI B (300 + q) 0 = sI S (300 + q) 0
        rw [bI _ (by omega), cI _ (by omega) (by omega) (fun b hb => by have := ho b hb; omega)]
    rw [this]
  have fI : ∀ m, m ≠ 600 → m ≠ 709 → m ≠ 710 → m ≠ 711 → m ≠ 300 + sN S 2 → m ≠ 100 + 3 * k → m ≠ 101 + 3 * k → (∀ b, o = some b → m ≠ 220 + 2 * b ∧ m ≠ 221 + 2 * b) → sI (wN (wI (wI (wI (thS T 0) 709 (upd (sI T 709) (sN S 2) (nI k))) 710 (upd (sI T 710) (sN S 2) (oI o))) 711 (upd (sI T 711) (sN S 2) (nI d))) 22 (sN S 2 + 1)) m = sI S m := fun m a1 a2 a3 a4 a5 a6 a7 a8 => by
    rw [wNI, wIo a4, wIo a3, wIo a2, thI a1, eI, bI m a5, cI m a6 a7 a8]
  have fL : ∀ m, 100 ≤ m → m < 460 → sI (wN (wI (wI (wI (thS T 0) 709 (upd (sI T 709) (sN S 2) (nI k))) 710 (upd (sI T 710) (sN S 2) (oI o))) 711 (upd (sI T 711) (sN S 2) (nI d))) 22 (sN S 2 + 1)) m = sI B m := fun m a1 a2 => by
    rw [wNI, wIo (by omega), wIo (by omega), wIo (by omega), thI (by omega), eI]
  have fN : ∀ m, m ≠ 2 → m ≠ 22 → m ≠ 2000 + sN S 2 → (m < 1000 ∨ 2000 ≤ m) → sN (wN (wI (wI (wI (thS T 0) 709 (upd (sI T 709) (sN S 2) (nI k))) 710 (upd (sI T 710) (sN S 2) (oI o))) 711 (upd (sI T 711) (sN S 2) (nI d))) 22 (sN S 2 + 1)) m = sN S m := fun m a b c e => by
    rw [wN_ne b]
    exact eN m a c e
  have b709 : ∀ m, 709 ≤ m → m ≤ 711 → sI T m = sI S m := fun m a b => by
    rw [eI, bI m (by omega), cI m (by omega) (by omega) (fun b hb => by have := ho b hb; omega)]
  have hT : gT (wN (wI (wI (wI (thS T 0) 709 (upd (sI T 709) (sN S 2) (nI k))) 710 (upd (sI T 710) (sN S 2) (oI o))) 711 (upd (sI T 711) (sN S 2) (nI d))) 22 (sN S 2 + 1)) := by
    refine hg.pin (n := sN S 2) (k0 := k) (d := d) (p := p) (o := o) (pl := ordP B) rfl h160 hk hd ho fI ?_ ?_ (fun b e => ?_) ?_ ?_ ?_ ?_ (fun m a => eJ m a) (fun m a => ?_) ?_ fN ?_ ?_ ?_ (fun j hj => ?_) hp eord
    · rw [fL _ (by omega) (by omega), bI _ (by omega), c101]
    · rw [fL _ (by omega) (by omega), bI _ (by omega), c100]
    · have := ho b e
      rw [fL _ (by omega) (by omega), bI _ (by omega), fL _ (by omega) (by omega), bI _ (by omega)]
      exact cb b e
    · rw [fL _ (by omega) (by omega), bIn]
    · rw [wNI, wIo (by decide), wIo (by decide), wIs, b709 709 (by omega) (by omega)]
    · rw [wNI, wIo (by decide), wIs, b709 710 (by omega) (by omega)]
    · rw [wNI, wIs, b709 711 (by omega) (by omega)]
    · show sR T m = _
      rw [eR, bR m a]
    · show sR T (300 + sN S 2) = _
      rw [eR, bRn]
    · rw [wN_ne (by decide)]
      exact eN2
    · rw [wN_self]
    · rw [wN_ne (by omega)]
      exact eNk
    · rw [wN_ne (by omega)]
      exact eO j hj
  refine h.things hT (fun c q ht => ?_) (fun m hm => ?_) (fun j hj => ?_) (fun m a b c e => fN m (by omega) (by omega) (by omega) (by omega))
  · have hbd := tid_bd hg.1.2.1 ht
    refine ⟨?_, ?_⟩
    · rcases ht with ⟨e, hq⟩ | ⟨e, hq⟩ | ⟨e, hq⟩
      · refine Or.inl ⟨e, ?_⟩
        rw [fN 0 (by omega) (by omega) (by omega) (by omega)]; exact hq
      · refine Or.inr (Or.inl ⟨e, ?_⟩)
        rw [fN 1 (by omega) (by omega) (by omega) (by omega)]; exact hq
      · refine Or.inr (Or.inr ⟨e, ?_⟩)
        rw [wN_ne (by decide)]
        show q < sN T 2
        rw [eN2]; omega
    · have : sI (wN (wI (wI (wI (thS T 0) 709 (upd (sI T 709) (sN S 2) (nI k))) 710 (upd (sI T 710) (sN S 2) (oI o))) 711 (upd (sI T 711) (sN S 2) (nI d))) 22 (sN S 2 + 1)) (tid c q) 0 = sI S (tid c q) 0 := by
        rw [fL _ hbd.1 hbd.2]
        rcases ht with ⟨rfl, hq⟩ | ⟨rfl, hq⟩ | ⟨rfl, hq⟩
        · show sI B (100 + 3 * q) 0 = sI S (100 + 3 * q) 0
          rw [bI _ (by omega)]
          by_cases z : q = k
          · subst z; rw [c100, va_up_ne _ _ (by decide)]
          · rw [cI _ (by omega) (by omega) (fun b hb => by have := ho b hb; omega)]
        · show sI B (220 + 2 * q) 0 = sI S (220 + 2 * q) 0
          rw [bI _ (by omega)]
          by_cases z : o = some q
          · rw [(cb q z).2, va_up_ne _ _ (by decide)]
          · rw [cI _ (by omega) (by omega) (fun b hb => ⟨fun w => z (by rw [hb]; congr 1; omega), by omega⟩)]
        · show sI B (300 + q) 0 = sI S (300 + q) 0
          rw [bI _ (by omega), cI _ (by omega) (by omega) (fun b hb => by have := ho b hb; omega)]
      unfold plN shN
      rw [this]
  · by_cases e : m = 600
    · omega
    · exact fI m e (by omega) (by omega) (by omega) (by omega) (by omega) (by omega) (fun b hb => by have := ho b hb; omega)
  · rw [wNI, wIo (by decide), wIo (by decide), wIo (by decide), th6 hj, eI, bI 600 (by omega), cI 600 (by omega) (by omega) (fun b hb => by have := ho b hb; omega)]
theorem si_join {n k d : Nat} {S : ST} {o : Option Nat} {v : Int64} (h : Sim n S) (hk : k < sN S 2) (hd : sI S (300 + k) 3 = nI d) (hd10 : d < 10) (ho : ∀ b, o = some b → b < sN S 1) (hne : ¬ sR S (300 + k) 4 = o) : Sim n (wI (thS (outS (joinS S k d o) v) 0) 710 (upd (sI (outS (joinS S k d o) v) 710) k (oI o))) := by
  have hg := h.1
  have hb := hg.1.2.1
  unfold bdS at hb
  have hro : ∀ b, sR S (300 + k) 4 = some b → b < sN S 1 := (hg.2.2.2.2.2.2.2.2.2.1 k hk).2.2
  have jI' : ∀ m, (m < 220 ∨ 300 ≤ m) → sI (outS (joinS S k d o) v) m = sI S m := fun m hm => by
    show sI (cntO (cntO S (sR S (300 + k) 4) d (-1)) o d 1) m = _
    rw [cO_I (fun b hb => by have := ho b hb; omega), cO_I (fun b hb => by have := hro b hb; omega)]
  have jN : sN (outS (joinS S k d o) v) = sN S := by
    show sN (cntO (cntO S (sR S (300 + k) 4) d (-1)) o d 1) = _
    rw [cO_N.1, cO_N.1]
  have jJ : ∀ m, m ≠ 57 → sJ (outS (joinS S k d o) v) m = sJ S m := fun m hm => by
    rw [outJ hm]
    show sJ (cntO (cntO S (sR S (300 + k) 4) d (-1)) o d 1) m = _
    rw [cO_N.2.1, cO_N.2.1]
  have jR : ∀ m, m ≠ 300 + k → sR (outS (joinS S k d o) v) m = sR S m := fun m hm => by
    show va_up (cntO (cntO S (sR S (300 + k) 4) d (-1)) o d 1).2.2.1 (300 + k) _ m = _
    rw [va_up_ne _ _ hm]
    show sR (cntO (cntO S (sR S (300 + k) 4) d (-1)) o d 1) m = _
    rw [cO_N.2.2, cO_N.2.2]
  have jRk : sR (outS (joinS S k d o) v) (300 + k) 4 = o := by
    show va_up (cntO (cntO S (sR S (300 + k) 4) d (-1)) o d 1).2.2.1 (300 + k) (va_up (sR S (300 + k)) 4 o) (300 + k) 4 = _
    rw [va_up_self, va_up_self]
  have jC : ∀ m, m < sN S 1 → (∀ e, sI (outS (joinS S k d o) v) (221 + 2 * m) e + (if sR S (300 + k) 4 = some m ∧ e = d then 1 else 0) = sI S (221 + 2 * m) e + (if o = some m ∧ e = d then 1 else 0)) ∧ (sI (outS (joinS S k d o) v) (220 + 2 * m) 3 + (if sR S (300 + k) 4 = some m then 1 else 0) = sI S (220 + 2 * m) 3 + (if o = some m then 1 else 0)) ∧ ∀ j, j ≠ 3 → sI (outS (joinS S k d o) v) (220 + 2 * m) j = sI S (220 + 2 * m) j := by
    intro m hm
    show (∀ e, sI (cntO (cntO S (sR S (300 + k) 4) d (-1)) o d 1) (221 + 2 * m) e + (if sR S (300 + k) 4 = some m ∧ e = d then 1 else 0) = sI S (221 + 2 * m) e + (if o = some m ∧ e = d then 1 else 0)) ∧ (sI (cntO (cntO S (sR S (300 + k) 4) d (-1)) o d 1) (220 + 2 * m) 3 + (if sR S (300 + k) 4 = some m then 1 else 0) = sI S (220 + 2 * m) 3 + (if o = some m then 1 else 0)) ∧ ∀ j, j ≠ 3 → sI (cntO (cntO S (sR S (300 + k) 4) d (-1)) o d 1) (220 + 2 * m) j = sI S (220 + 2 * m) j
    generalize sR S (300 + k) 4 = r at *
    have nb : ∀ (q : Option Nat), ¬ q = some m → ∀ b, q = some b → (221 + 2 * m ≠ 220 + 2 * b ∧ 221 + 2 * m ≠ 221 + 2 * b) ∧ (220 + 2 * m ≠ 220 + 2 * b ∧ 220 + 2 * m ≠ 221 + 2 * b) := fun q hq b hb => by
      have : b ≠ m := fun z => hq (by rw [hb, z])
      omega
    by_cases e1 : r = some m
    · have e2 : ¬ o = some m := fun z => hne (by rw [e1, z])
      subst e1
      rw [cO_I (fun b hb => (nb o e2 b hb).1), cO_I (fun b hb => (nb o e2 b hb).2)]
      show (∀ e, sI (cntN S m d (-1)) (221 + 2 * m) e + _ = _) ∧ (sI (cntN S m d (-1)) (220 + 2 * m) 3 + _ = _) ∧ ∀ j, j ≠ 3 → sI (cntN S m d (-1)) (220 + 2 * m) j = _
      rw [cN_1, cN_0]
      refine ⟨fun e => ?_, ?_, fun j hj => va_up_ne _ _ hj⟩
      · by_cases z : e = d
        · subst z
          rw [show upd (sI S (221 + 2 * m)) e (sI S (221 + 2 * m) e + -1) e = sI S (221 + 2 * m) e + -1 from if_pos rfl, if_pos ⟨rfl, rfl⟩, if_neg (fun y => e2 y.1), Int32.add_assoc]
          rfl
        · rw [show upd (sI S (221 + 2 * m)) d (sI S (221 + 2 * m) d + -1) e = sI S (221 + 2 * m) e from if_neg z, if_neg (fun y => z y.2), if_neg (fun y => z y.2)]
      · rw [va_up_self, if_pos rfl, if_neg e2, Int32.add_assoc]
        rfl
    · by_cases e2 : o = some m
      · subst e2
        show (∀ e, sI (cntN (cntO S r d (-1)) m d 1) (221 + 2 * m) e + _ = _) ∧ (sI (cntN (cntO S r d (-1)) m d 1) (220 + 2 * m) 3 + _ = _) ∧ ∀ j, j ≠ 3 → sI (cntN (cntO S r d (-1)) m d 1) (220 + 2 * m) j = _
        rw [cN_1, cN_0, cO_I (fun b hb => (nb r e1 b hb).1), cO_I (fun b hb => (nb r e1 b hb).2)]
        refine ⟨fun e => ?_, ?_, fun j hj => va_up_ne _ _ hj⟩
        · by_cases z : e = d
          · subst z
            rw [show upd (sI S (221 + 2 * m)) e (sI S (221 + 2 * m) e + 1) e = sI S (221 + 2 * m) e + 1 from if_pos rfl, if_neg (fun y => e1 y.1), if_pos ⟨rfl, rfl⟩, Int32.add_zero]
          · rw [show upd (sI S (221 + 2 * m)) d (sI S (221 + 2 * m) d + 1) e = sI S (221 + 2 * m) e from if_neg z, if_neg (fun y => z y.2), if_neg (fun y => z y.2)]
        · rw [va_up_self, if_neg e1, if_pos rfl, Int32.add_zero]
      · rw [cO_I (fun b hb => (nb o e2 b hb).1), cO_I (fun b hb => (nb r e1 b hb).1), cO_I (fun b hb => (nb o e2 b hb).2), cO_I (fun b hb => (nb r e1 b hb).2)]
        refine ⟨fun e => ?_, ?_, fun j _ => rfl⟩
        · rw [if_neg (fun y => e1 y.1), if_neg (fun y => e2 y.1)]
        · rw [if_neg e1, if_neg e2]
  generalize outS (joinS S k d o) v = T at *
  have fI : ∀ m, (m < 220 ∨ 300 ≤ m) → m ≠ 600 → m ≠ 710 → sI (wI (thS T 0) 710 (upd (sI T 710) k (oI o))) m = sI S m := fun m a b c => by
    rw [wIo c, thI b, jI' m a]
  have fC : ∀ m, m < 300 → sI (wI (thS T 0) 710 (upd (sI T 710) k (oI o))) m = sI T m := fun m a => by
    rw [wIo (by omega), thI (by omega)]
  have fN : ∀ m, sN (wI (thS T 0) 710 (upd (sI T 710) k (oI o))) m = sN S m := fun m => congrFun jN m
  refine h.things (hg.join (k0 := k) (d := d) (o := o) hk hd hd10 ho fI ?_ (fun m hm => ?_) (fun m hm => jJ m hm) (fun m hm => jR m hm) jRk fN) (fun c q ht => ⟨(tok_cg (fun m _ => fN m)).mpr ht, ?_⟩) (fun m hm => ?_) (fun j hj => ?_) (fun m _ _ _ _ => fN m)
  · rw [wIs, jI' 710 (by omega)]
  · rw [fC _ (by omega), fC _ (by omega)]
    exact jC m hm
  · have : sI (wI (thS T 0) 710 (upd (sI T 710) k (oI o))) (tid c q) 0 = sI S (tid c q) 0 := by
      rcases ht with ⟨rfl, hq⟩ | ⟨rfl, hq⟩ | ⟨rfl, hq⟩
      · show sI (wI (thS T 0) 710 (upd (sI T 710) k (oI o))) (100 + 3 * q) 0 = sI S (100 + 3 * q) 0
        rw [fI _ (by omega) (by omega) (by omega)]
      · show sI (wI (thS T 0) 710 (upd (sI T 710) k (oI o))) (220 + 2 * q) 0 = sI S (220 + 2 * q) 0
        rw [fC _ (by omega)]
        exact (jC q hq).2.2 0 (by decide)
      · show sI (wI (thS T 0) 710 (upd (sI T 710) k (oI o))) (300 + q) 0 = sI S (300 + q) 0
        rw [fI _ (by omega) (by omega) (by omega)]
    unfold plN shN
    rw [this]
  · by_cases e : m = 600
    · omega
    · exact fI m (by omega) e (by omega)
  · rw [wIo (by decide), th6 hj, jI' 600 (by omega)]
