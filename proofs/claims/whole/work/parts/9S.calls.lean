/-! each call leaves both states alike: what touches the things -/
theorem thI {S : ST} {x : Int32} {m : Nat} (h : m ≠ 600) : sI (thS S x) m = sI S m := wIo h
theorem th6 {S : ST} {x : Int32} {k : Nat} (h : k ≠ 0) : sI (thS S x) 600 k = sI S 600 k := by
  unfold thS
  rw [wIs, va_up_ne _ _ h]
theorem th0 {S : ST} {x : Int32} : sI (thS S x) 600 0 = x := by
  unfold thS
  rw [wIs, va_up_self]
theorem wJs' {S : ST} {i : Nat} {f : Nat → Int64} : sJ (wJ S i f) i = f := va_up_self _ _ _
theorem wJI {S : ST} {i m : Nat} {f : Nat → Int64} : sI (wJ S i f) m = sI S m := rfl
theorem wNJ {S : ST} {i v m : Nat} : sJ (wN S i v) m = sJ S m := rfl
theorem wIJ {S : ST} {i m : Nat} {f : Nat → Int32} : sJ (wI S i f) m = sJ S m := rfl
theorem thJ {S : ST} {x : Int32} {m : Nat} : sJ (thS S x) m = sJ S m := rfl
theorem outJ {S : ST} {v : Int64} {m : Nat} (h : m ≠ 57) : sJ (outS S v) m = sJ S m := va_up_ne _ _ h
theorem out57 {S : ST} {v : Int64} : sJ (outS S v) 57 0 = v := by
  unfold outS
  rw [wJs']
  exact if_pos rfl
theorem wJs {S : ST} {i : Nat} {f : Nat → Int64} : sJ (wJ S i f) i = f := va_up_self _ _ _
theorem wJo {S : ST} {i j : Nat} {f : Nat → Int64} (h : j ≠ i) : sJ (wJ S i f) j = sJ S j := va_up_ne _ _ h
theorem si_th {n : Nat} {S : ST} {x : Int32} (h : Sim n S) : Sim n (thS S x) := h.same (fun _ hm => thI hm) (fun _ hk => th6 hk) (fun _ _ => rfl) (fun _ => rfl) (fun _ => rfl)
theorem si_out {n : Nat} {S : ST} {v : Int64} (h : Sim n S) : Sim n (outS S v) := h.same (fun _ _ => rfl) (fun _ _ => rfl) (fun _ hm => outJ hm) (fun _ => rfl) (fun _ => rfl)
theorem si_part {n p : Nat} {S : ST} {x : Int32} {v : Int64} (h : Sim n S) (h40 : sN S 0 < 40) (hx : ∃ s, s < 16 ∧ x = nI s) (hp : p = insP (ordP S) ((x * 3 + 0) * 160 + nI (sN S 0)) (sN S 0 + sN S 1 + sN S 2)) : Sim n (wN (wJ (wI (thS (outS (partS S p x) v) 0) 705 (upd (sI (outS (partS S p x) v) 705) (sN (outS (partS S p x) v) 20) x)) 706 (zf8 (sJ (outS (partS S p x) v) 706) (8 * sN (outS (partS S p x) v) 20) 8 0)) 20 (sN (outS (partS S p x) v) 20 + 1)) := by
  have hg := h.1
  have c1 := hg.1.1.1
  have hb := hg.1.2.1
  unfold bdS at hb
  have pI : ∀ m, m ≠ 100 + 3 * sN S 0 → m ≠ 101 + 3 * sN S 0 → sI (outS (partS S p x) v) m = sI S m := fun m a b => by
    show va_up (va_up S.1 (100 + 3 * sN S 0) _) (101 + 3 * sN S 0) _ m = _
    rw [va_up_ne _ _ b, va_up_ne _ _ a]
  have pN : ∀ m, m ≠ 0 → (m < 1000 ∨ 2000 ≤ m) → sN (outS (partS S p x) v) m = sN S m := fun m a b => insN_o a b
  have e20 : sN (outS (partS S p x) v) 20 = sN S 0 := by rw [pN 20 (by decide) (by decide)]; exact c1
  have fI : ∀ m, m ≠ 600 → m ≠ 705 → m ≠ 100 + 3 * sN S 0 → m ≠ 101 + 3 * sN S 0 → sI (wN (wJ (wI (thS (outS (partS S p x) v) 0) 705 (upd (sI (outS (partS S p x) v) 705) (sN (outS (partS S p x) v) 20) x)) 706 (zf8 (sJ (outS (partS S p x) v) 706) (8 * sN (outS (partS S p x) v) 20) 8 0)) 20 (sN (outS (partS S p x) v) 20 + 1)) m = sI S m := fun m a b c d => by
    rw [wNI, wJI, wIo b, thI a, pI m c d]
  have fN : ∀ m, m ≠ 0 → m ≠ 20 → (m < 1000 ∨ 2000 ≤ m) → sN (wN (wJ (wI (thS (outS (partS S p x) v) 0) 705 (upd (sI (outS (partS S p x) v) 705) (sN (outS (partS S p x) v) 20) x)) 706 (zf8 (sJ (outS (partS S p x) v) 706) (8 * sN (outS (partS S p x) v) 20) 8 0)) 20 (sN (outS (partS S p x) v) 20 + 1)) m = sN S m := fun m a b c => by
    rw [wN_ne b]
    exact pN m a c
  have hT : gT (wN (wJ (wI (thS (outS (partS S p x) v) 0) 705 (upd (sI (outS (partS S p x) v) 705) (sN (outS (partS S p x) v) 20) x)) 706 (zf8 (sJ (outS (partS S p x) v) 706) (8 * sN (outS (partS S p x) v) 20) 8 0)) 20 (sN (outS (partS S p x) v) 20 + 1)) := by
    refine hg.part (n := sN S 0) (p := p) (x := x) rfl h40 hx fI ?_ ?_ ?_ (fun m a b c => ?_) ?_ ?_ (fun _ => rfl) fN ?_ ?_ (fun k hk => ?_) hp
    · rw [wNI, wJI, wIs, pI 705 (by omega) (by omega), e20]
    · rw [wNI, wJI, wIo (by omega), thI (by omega)]
      show va_up (va_up S.1 (100 + 3 * sN S 0) _) (101 + 3 * sN S 0) _ (100 + 3 * sN S 0) = _
      rw [va_up_ne _ _ (by omega), va_up_self]
    · rw [wNI, wJI, wIo (by omega), thI (by omega)]
      show va_up (va_up S.1 (100 + 3 * sN S 0) _) (101 + 3 * sN S 0) _ (101 + 3 * sN S 0) = _
      rw [va_up_self]
    · rw [wNJ, wJo b, wIJ, thJ, outJ a]
      show va_up S.2.1 (102 + 3 * sN S 0) _ m = _
      rw [va_up_ne _ _ c]
    · rw [wNJ, wJs, e20, outJ (by decide)]
      show zf8 (va_up S.2.1 (102 + 3 * sN S 0) _ 706) _ 8 0 = _
      rw [va_up_ne _ _ (by omega)]
    · rw [wNJ, wJo (by omega), wIJ, thJ, outJ (by omega)]
      show va_up S.2.1 (102 + 3 * sN S 0) _ (102 + 3 * sN S 0) = _
      rw [va_up_self]
    · rw [wN_ne (by decide)]
      exact insN_c (S := S) (c := 0) (p := p) (nid := 100 + 3 * sN S 0)
    · rw [wN_self, e20]
    · rw [wN_ne (by omega)]
      exact insN_k (by decide) hk
  refine h.things hT (fun c q ht => ?_) (fun m hm => ?_) (fun k hk => ?_) (fun m a b c d => fN m (by omega) (by omega) (by omega))
  · refine ⟨?_, ?_⟩
    · rcases ht with ⟨e, hq⟩ | ⟨e, hq⟩ | ⟨e, hq⟩
      · refine Or.inl ⟨e, ?_⟩
        rw [wN_ne (by decide)]
        show q < insN S 0 p (100 + 3 * sN S 0) 0
        rw [insN_c]; omega
      · refine Or.inr (Or.inl ⟨e, ?_⟩)
        rw [fN 1 (by decide) (by decide) (by decide)]; exact hq
      · refine Or.inr (Or.inr ⟨e, ?_⟩)
        rw [fN 2 (by decide) (by decide) (by decide)]; exact hq
    · have hbd := tid_bd hg.1.2.1 ht
      have hne : tid c q ≠ 100 + 3 * sN S 0 ∧ tid c q ≠ 101 + 3 * sN S 0 := by
        rcases ht with ⟨rfl, hq⟩ | ⟨rfl, hq⟩ | ⟨rfl, hq⟩
        · show 100 + 3 * q ≠ _ ∧ 100 + 3 * q ≠ _
          omega
        · show 220 + 2 * q ≠ _ ∧ 220 + 2 * q ≠ _
          omega
        · show 300 + q ≠ _ ∧ 300 + q ≠ _
          omega
      unfold plN shN
      rw [fI (tid c q) (by omega) (by omega) hne.1 hne.2]
  · by_cases e : m = 600
    · omega
    · exact fI m e (by omega) (by omega) (by omega)
  · rw [wNI, wJI, wIo (by decide), th6 hk, pI 600 (by omega) (by omega)]
theorem si_net {n p : Nat} {S : ST} {x y : Int32} {v : Int64} (h : Sim n S) (h40 : sN S 1 < 40) (hx : ∃ s, s < 16 ∧ x = nI s) (hp : p = insP (ordP S) ((x * 3 + 1) * 160 + nI (sN S 1)) (sN S 0 + sN S 1 + sN S 2)) : Sim n (wN (wI (wI (thS (outS (netS S p x y) v) 0) 707 (upd (sI (outS (netS S p x y) v) 707) (sN (outS (netS S p x y) v) 21) x)) 708 (upd (sI (outS (netS S p x y) v) 708) (sN (outS (netS S p x y) v) 21) y)) 21 (sN (outS (netS S p x y) v) 21 + 1)) := by
  have hg := h.1
  have c1 := hg.1.1.2.1
  have hb := hg.1.2.1
  unfold bdS at hb
  have pI : ∀ m, m ≠ 220 + 2 * sN S 1 → m ≠ 221 + 2 * sN S 1 → sI (outS (netS S p x y) v) m = sI S m := fun m a b => by
    show va_up (va_up S.1 (220 + 2 * sN S 1) _) (221 + 2 * sN S 1) _ m = _
    rw [va_up_ne _ _ b, va_up_ne _ _ a]
  have pN : ∀ m, m ≠ 1 → (m < 1000 ∨ 2000 ≤ m) → sN (outS (netS S p x y) v) m = sN S m := fun m a b => insN_o a b
  have e20 : sN (outS (netS S p x y) v) 21 = sN S 1 := by rw [pN 21 (by decide) (by decide)]; exact c1
  have fI : ∀ m, m ≠ 600 → m ≠ 707 → m ≠ 708 → m ≠ 220 + 2 * sN S 1 → m ≠ 221 + 2 * sN S 1 → sI (wN (wI (wI (thS (outS (netS S p x y) v) 0) 707 (upd (sI (outS (netS S p x y) v) 707) (sN (outS (netS S p x y) v) 21) x)) 708 (upd (sI (outS (netS S p x y) v) 708) (sN (outS (netS S p x y) v) 21) y)) 21 (sN (outS (netS S p x y) v) 21 + 1)) m = sI S m := fun m a b b' c d => by
    rw [wNI, wIo b', wIo b, thI a, pI m c d]
  have fN : ∀ m, m ≠ 1 → m ≠ 21 → (m < 1000 ∨ 2000 ≤ m) → sN (wN (wI (wI (thS (outS (netS S p x y) v) 0) 707 (upd (sI (outS (netS S p x y) v) 707) (sN (outS (netS S p x y) v) 21) x)) 708 (upd (sI (outS (netS S p x y) v) 708) (sN (outS (netS S p x y) v) 21) y)) 21 (sN (outS (netS S p x y) v) 21 + 1)) m = sN S m := fun m a b c => by
    rw [wN_ne b]
    exact pN m a c
  have hT : gT (wN (wI (wI (thS (outS (netS S p x y) v) 0) 707 (upd (sI (outS (netS S p x y) v) 707) (sN (outS (netS S p x y) v) 21) x)) 708 (upd (sI (outS (netS S p x y) v) 708) (sN (outS (netS S p x y) v) 21) y)) 21 (sN (outS (netS S p x y) v) 21 + 1)) := by
    refine hg.net (n := sN S 1) (p := p) (x := x) (y := y) rfl h40 hx fI ?_ ?_ ?_ ?_ (fun m a => ?_) (fun _ => rfl) fN ?_ ?_ (fun k hk => ?_) hp
    · rw [wNI, wIo (by decide), wIs, pI 707 (by omega) (by omega), e20]
    · rw [wNI, wIs, pI 708 (by omega) (by omega), e20]
    · rw [wNI, wIo (by omega), wIo (by omega), thI (by omega)]
      show va_up (va_up S.1 (220 + 2 * sN S 1) _) (221 + 2 * sN S 1) _ (220 + 2 * sN S 1) = _
      rw [va_up_ne _ _ (by omega), va_up_self]
    · rw [wNI, wIo (by omega), wIo (by omega), thI (by omega)]
      show va_up (va_up S.1 (220 + 2 * sN S 1) _) (221 + 2 * sN S 1) _ (221 + 2 * sN S 1) = _
      rw [va_up_self]
    · show sJ (outS (netS S p x y) v) m = _
      rw [outJ a]
      rfl
    · rw [wN_ne (by decide)]
      exact insN_c (S := S) (c := 1) (p := p) (nid := 220 + 2 * sN S 1)
    · rw [wN_self, e20]
    · rw [wN_ne (by omega)]
      exact insN_k (by decide) hk
  refine h.things hT (fun c q ht => ?_) (fun m hm => ?_) (fun k hk => ?_) (fun m a b c d => fN m (by omega) (by omega) (by omega))
  · refine ⟨?_, ?_⟩
    · rcases ht with ⟨e, hq⟩ | ⟨e, hq⟩ | ⟨e, hq⟩
      · refine Or.inl ⟨e, ?_⟩
        rw [fN 0 (by decide) (by decide) (by decide)]; exact hq
      · refine Or.inr (Or.inl ⟨e, ?_⟩)
        rw [wN_ne (by decide)]
        show q < insN S 1 p (220 + 2 * sN S 1) 1
        rw [insN_c]; omega
      · refine Or.inr (Or.inr ⟨e, ?_⟩)
        rw [fN 2 (by decide) (by decide) (by decide)]; exact hq
    · have hbd := tid_bd hg.1.2.1 ht
      have hne : tid c q ≠ 220 + 2 * sN S 1 ∧ tid c q ≠ 221 + 2 * sN S 1 := by
        rcases ht with ⟨rfl, hq⟩ | ⟨rfl, hq⟩ | ⟨rfl, hq⟩
        · show 100 + 3 * q ≠ _ ∧ 100 + 3 * q ≠ _
          omega
        · show 220 + 2 * q ≠ _ ∧ 220 + 2 * q ≠ _
          omega
        · show 300 + q ≠ _ ∧ 300 + q ≠ _
          omega
      unfold plN shN
      rw [fI (tid c q) (by omega) (by omega) (by omega) hne.1 hne.2]
  · by_cases e : m = 600
    · omega
    · exact fI m e (by omega) (by omega) (by omega) (by omega)
  · rw [wNI, wIo (by decide), wIo (by decide), th6 hk, pI 600 (by omega) (by omega)]
theorem si_field {n k j : Nat} {S : ST} {v u : Int64} (h : Sim n S) (hk : k < sN S 0) (hj : j < 8) : Sim n (wJ (thS (outS (wJ S (102 + 3 * k) (vp_updL (sJ S (102 + 3 * k)) j v)) u) 0) 706 (vp_updL (sJ (outS (wJ S (102 + 3 * k) (vp_updL (sJ S (102 + 3 * k)) j v)) u) 706) (8 * k + j) v)) := by
  have hg := h.1
  have hb := hg.1.2.1
  unfold bdS at hb
  refine h.things (hg.field (k0 := k) (j0 := j) (v := v) hk hj (fun m hm => thI hm) (fun m a b c => ?_) (fun i => ?_) (fun i => ?_) (fun _ => rfl) (fun _ => rfl)) (same_hk hg.1.2.1 (fun m a b => ?_) (fun _ _ => rfl)) (fun m hm => ?_) (fun m hm => th6 hm) (fun _ _ _ _ _ => rfl)
  · rw [wJo b, thJ, outJ a, wJo c]
  · rw [wJs, outJ (by decide), wJo (by omega)]
    rfl
  · rw [wJo (by omega), thJ, outJ (by omega), wJs]
    rfl
  · rw [wJI, thI (by omega)]
    rfl
  · rw [wJI, thI (by omega)]
    rfl
theorem si_end {n k : Nat} {S : ST} {y z u : Int64} (h : Sim n S) (hk : k < sN S 1) (h100 : sN S 7 < 100) : Sim n (wN (wJ (wJ (wI (thS (outS (wN (wI S (220 + 2 * k) (va_up (sI S (220 + 2 * k)) 5 (endF S k y z))) 7 (sN S 7 + 1)) u) 0) 713 (upd (sI (outS (wN (wI S (220 + 2 * k) (va_up (sI S (220 + 2 * k)) 5 (endF S k y z))) 7 (sN S 7 + 1)) u) 713) (sN (outS (wN (wI S (220 + 2 * k) (va_up (sI S (220 + 2 * k)) 5 (endF S k y z))) 7 (sN S 7 + 1)) u) 23) (nI k))) 714 (vp_updL (sJ (outS (wN (wI S (220 + 2 * k) (va_up (sI S (220 + 2 * k)) 5 (endF S k y z))) 7 (sN S 7 + 1)) u) 714) (sN (outS (wN (wI S (220 + 2 * k) (va_up (sI S (220 + 2 * k)) 5 (endF S k y z))) 7 (sN S 7 + 1)) u) 23) y)) 715 (vp_updL (sJ (outS (wN (wI S (220 + 2 * k) (va_up (sI S (220 + 2 * k)) 5 (endF S k y z))) 7 (sN S 7 + 1)) u) 715) (sN (outS (wN (wI S (220 + 2 * k) (va_up (sI S (220 + 2 * k)) 5 (endF S k y z))) 7 (sN S 7 + 1)) u) 23) z)) 23 (sN (outS (wN (wI S (220 + 2 * k) (va_up (sI S (220 + 2 * k)) 5 (endF S k y z))) 7 (sN S 7 + 1)) u) 23 + 1)) := by
  have hg := h.1
  have hb := hg.1.2.1
  have c4 := hg.1.1.2.2.2
  unfold bdS at hb
  have eI : ∀ m, m ≠ 220 + 2 * k → sI (outS (wN (wI S (220 + 2 * k) (va_up (sI S (220 + 2 * k)) 5 (endF S k y z))) 7 (sN S 7 + 1)) u) m = sI S m := fun m hm => wIo hm
  have eIk : sI (outS (wN (wI S (220 + 2 * k) (va_up (sI S (220 + 2 * k)) 5 (endF S k y z))) 7 (sN S 7 + 1)) u) (220 + 2 * k) = va_up (sI S (220 + 2 * k)) 5 (endF S k y z) := wIs
  have eJ : ∀ m, m ≠ 57 → sJ (outS (wN (wI S (220 + 2 * k) (va_up (sI S (220 + 2 * k)) 5 (endF S k y z))) 7 (sN S 7 + 1)) u) m = sJ S m := fun m hm => outJ hm
  have eN : ∀ m, m ≠ 7 → sN (outS (wN (wI S (220 + 2 * k) (va_up (sI S (220 + 2 * k)) 5 (endF S k y z))) 7 (sN S 7 + 1)) u) m = sN S m := fun m hm => wN_ne hm
  have eN7 : sN (outS (wN (wI S (220 + 2 * k) (va_up (sI S (220 + 2 * k)) 5 (endF S k y z))) 7 (sN S 7 + 1)) u) 7 = sN S 7 + 1 := wN_self (S := wI S (220 + 2 * k) (va_up (sI S (220 + 2 * k)) 5 (endF S k y z)))
  have eR : ∀ m, sR (outS (wN (wI S (220 + 2 * k) (va_up (sI S (220 + 2 * k)) 5 (endF S k y z))) 7 (sN S 7 + 1)) u) m = sR S m := fun _ => rfl
  generalize outS (wN (wI S (220 + 2 * k) (va_up (sI S (220 + 2 * k)) 5 (endF S k y z))) 7 (sN S 7 + 1)) u = T at *
  rw [eN 23 (by decide), c4]
  have fI : ∀ m, m ≠ 600 → m ≠ 713 → m ≠ 220 + 2 * k → sI (wN (wJ (wJ (wI (thS T 0) 713 (upd (sI T 713) (sN S 7) (nI k))) 714 (vp_updL (sJ T 714) (sN S 7) y)) 715 (vp_updL (sJ T 715) (sN S 7) z)) 23 (sN S 7 + 1)) m = sI S m := fun m a b c => by
    rw [wNI, wJI, wJI, wIo b, thI a, eI m c]
  have fN : ∀ m, m ≠ 7 → m ≠ 23 → sN (wN (wJ (wJ (wI (thS T 0) 713 (upd (sI T 713) (sN S 7) (nI k))) 714 (vp_updL (sJ T 714) (sN S 7) y)) 715 (vp_updL (sJ T 715) (sN S 7) z)) 23 (sN S 7 + 1)) m = sN S m := fun m a b => by
    rw [wN_ne b]
    exact eN m a
  refine h.things (hg.end (k0 := k) (y := y) (z := z) hk h100 fI ?_ ?_ (fun m a b c => ?_) ?_ ?_ (fun m => eR m) fN ?_ ?_) (same_hk hg.1.2.1 (fun m a b => ?_) (fun m hm => fN m (by omega) (by omega))) (fun m hm => ?_) (fun m hm => ?_) (fun m a b c d => fN m (by omega) (by omega))
  · rw [wNI, wJI, wJI, wIs, eI 713 (by omega)]
  · rw [wNI, wJI, wJI, wIo (by omega), thI (by omega), eIk]
  · rw [wNJ, wJo c, wJo b]
    exact eJ m a
  · rw [wNJ, wJo (by decide), wJs, eJ 714 (by decide)]
  · rw [wNJ, wJs, eJ 715 (by decide)]
  · rw [wN_ne (by decide)]
    exact eN7
  · rw [wN_self]
  · by_cases e : m = 220 + 2 * k
    · subst e
      rw [wNI, wJI, wJI, wIo (by omega), thI (by omega), eIk, va_up_ne _ _ (by decide)]
    · rw [fI m (by omega) (by omega) e]
  · by_cases e : m = 600
    · omega
    · exact fI m e (by omega) (by omega)
  · rw [wNI, wJI, wJI, wIo (by decide), th6 hm, eI 600 (by omega)]
