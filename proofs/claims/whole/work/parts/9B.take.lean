/-! one word taken, class and reference -/
def txR (C M : ST) : Prop := sN C 9 = sN M 24 ∧ sN C 9 ≤ 160 ∧ ∀ j, j < sN C 9 → sI M 716 j = sI C 16 j ∧ ltr (sI C 16 j)
def sbOK (C M : ST) (r : Nat) : Prop := sI M 719 r = sI C 3 10 ∧ sI M 720 r = sI C 3 11 ∧ (sI C 3 10 = 0 ∨ sI C 3 10 = 1 ∨ sI C 3 10 = 2) ∧ (sI C 3 11 = 1 ∨ sI C 3 11 = 2)
def tyT (C : ST) (t : List Bool) : Prop := tyR (sI C 3 10) (sI C 17) (sI C 18) (sN C 12) t
def stW (C M : ST) (b : Bool) (t : List Bool) : Prop := sI C 3 9 = (if b then 1 else 0) ∧ (b = true → sI M 600 40 = 3) ∧ (b = false → sI M 600 40 = 0 ∨ sI M 600 40 = 1) ∧ arF (sI C 19) b (sN C 13) t
def stA (C M : ST) (b : Bool) (t : List Bool) : Prop := sI C 3 9 = (if b then 1 else 0) ∧ sI M 600 40 = (if b then 4 else 2) ∧ ∃ u, t = false :: u ∧ arF (sI C 19) b (sN C 13) u
def stT (C M : ST) : Prop := ∃ t, tyT C t ∧ ((sI C 3 7 = 2 ∧ sI C 3 9 = 0 ∧ sI M 600 40 = 0 ∧ cndF (sI C 19) (sN C 13) t) ∨ (sI C 3 7 = 3 ∧ ¬ sI M 600 40 = 0 ∧ ∃ b, stW C M b t) ∨ (sI C 3 7 = 5 ∧ ∃ b, stA C M b t) ∨ (sI C 3 7 = 6 ∧ sI M 600 40 = 5 ∧ ∃ u, t = true :: u ∧ cndF (sI C 19) (sN C 13) u))
def fC (C C2 : ST) : Prop := sI C2 16 = sI C 16 ∧ sN C2 9 = sN C 9 ∧ sN C2 11 = sN C 11 ∧ sN C2 14 = sN C 14 ∧ sI C2 3 10 = sI C 3 10 ∧ sI C2 3 11 = sI C 3 11 ∧ sN C2 12 + sN C2 13 ≤ sN C 12 + sN C 13 + 1
def fM (M M2 : ST) : Prop := sI M2 716 = sI M 716 ∧ sN M2 24 = sN M 24 ∧ sN M2 28 = sN M 28 ∧ sN M2 29 = sN M 29 ∧ sI M2 719 = sI M 719 ∧ sI M2 720 = sI M 720
def tkS (C M C2 M2 : ST) (r : Nat) : Prop := cdR C2 M2 r 0 ∧ sN C2 15 = sN M2 32 ∧ sN C2 15 ≤ 8 ∧ stT C2 M2 ∧ fC C C2 ∧ fM M M2
theorem w3s {S : ST} {k : Nat} {x : Int32} : sI (w3 S k x) 3 k = x := by
  unfold w3
  rw [wIs]
  exact va_up_self _ _ _
theorem w3o {S : ST} {k j : Nat} {x : Int32} (h : j ≠ k) : sI (w3 S k x) 3 j = sI S 3 j := by
  unfold w3
  rw [wIs]
  exact va_up_ne _ _ h
theorem w3i {S : ST} {k m : Nat} {x : Int32} (h : m ≠ 3) : sI (w3 S k x) m = sI S m := wIo h
theorem w3n {S : ST} {k : Nat} {x : Int32} : sN (w3 S k x) = sN S := rfl
theorem w6s {S : ST} {k : Nat} {x : Int32} : sI (w6 S k x) 600 k = x := by
  unfold w6
  rw [wIs]
  exact va_up_self _ _ _
theorem w6n {S : ST} {k : Nat} {x : Int32} : sN (w6 S k x) = sN S := rfl
theorem cdR.w {C M : ST} {r k i j : Nat} {x y : Int32} (h : cdR C M r k) : cdR (w3 C i x) (w6 M j y) r k := h.N rfl rfl (fun m hm => w3i (by omega)) rfl rfl (fun m hm => w6_I (by omega))
theorem put_tk {C M : ST} {r : Nat} {b : Bool} {t : List Bool} {x y z : Int32} (hc : cdR C M r 1) (h15 : sN C 15 = sN M 32 ∧ sN C 15 ≤ 8) (hy : tyT C t) (hw : stW C M b t) (ht : tmOK (sI C 3 10) x y) (hz : z = if 2 ≤ sI (mput M (cm x) y) 600 40 then 4 else 2) : tkS C M (trm C x y) (w6 (mput M (cm x) y) 40 z) r := by
  obtain ⟨p1, p2, p3, p4, p5⟩ := putO_st (C := C) (x := x) (y := y) (by have := hc.2.2.2.2.2.2; omega)
  obtain ⟨q1, q2, q3, q4, q5, q6⟩ := mput_st (x := cm x) (y := y) hc.2.1 (by have := hc.2.2.2.2.2.2; have := hc.1; omega)
  obtain ⟨g1, g2, g3, g4⟩ := hw
  have e3 : sI (putO C x y) 3 = sI C 3 := p4 3 (by decide) (by decide)
  unfold trm
  refine ⟨(hc.put x y).w, ?_, ?_, ⟨false :: t, ?_, Or.inr (Or.inr (Or.inl ⟨w3s, b, ?_, ?_, t, rfl, ?_⟩))⟩, ?_, ?_⟩
  · rw [w3n, w6n, q6, p5 15 (by decide)]; exact h15.1
  · rw [w3n, p5 15 (by decide)]; exact h15.2
  · unfold tyT
    rw [w3o (by decide), w3i (by decide), w3i (by decide), w3n, e3, p1, p2, p3]
    exact tyR_put hy (Or.inl ⟨ht, rfl⟩)
  · rw [w3o (by decide), e3]; exact g1
  · rw [w6s, hz, q5 600 (by decide) (by decide) (by decide)]
    cases b with
    | true => rw [g2 rfl]; decide
    | false =>
      rcases g3 rfl with e | e
      · rw [e]; decide
      · rw [e]; decide
  · rw [w3i (by decide), w3n, p4 19 (by decide) (by decide), p5 13 (by decide)]
    exact g4
  · refine ⟨by rw [w3i (by decide), p4 16 (by decide) (by decide)], by rw [w3n, p5 9 (by decide)], by rw [w3n, p5 11 (by decide)], by rw [w3n, p5 14 (by decide)], by rw [w3o (by decide), e3], by rw [w3o (by decide), e3], by rw [w3n, p3, p5 13 (by decide)]; omega⟩
  · exact ⟨by rw [w6_I (by decide), q5 716 (by decide) (by decide) (by decide)], by rw [w6n, q6], by rw [w6n, q6], by rw [w6n, q6], by rw [w6_I (by decide), q5 719 (by decide) (by decide) (by decide)], by rw [w6_I (by decide), q5 720 (by decide) (by decide) (by decide)]⟩
theorem mwai_st {M : ST} {x : Int32} : sI (mwai M x) 737 = upd (sI M 737) (sN M 31) x ∧ (∀ m, m ≠ 737 → sI (mwai M x) m = sI M m) ∧ sN (mwai M x) 31 = sN M 31 + 1 ∧ ∀ m, m ≠ 31 → sN (mwai M x) m = sN M m := by
  unfold mwai
  exact ⟨by rw [wNI, wIs], fun m hm => by rw [wNI, wIo hm], wN_self, fun m hm => wN_ne hm⟩
theorem cnd_off {f : Nat → Int32} {n : Nat} {t : List Bool} {x : Int32} (h : cndF f n t) (hx : x = 0 ∨ x = 3) : cndF (upd f n x) (n + 1) t := by
  refine Or.inl ⟨?_, cndF_cg (fun j hj => ?_) h⟩
  · rw [show upd f n x n = x from if_pos rfl]; exact hx
  · exact (if_neg (by omega)).symm
theorem cnd_jo {f : Nat → Int32} {n : Nat} {t : List Bool} {x : Int32} (h : cndF f n t) (hx : x = 1 ∨ x = 2) : cndF (upd f n x) (n + 1) (true :: t) := by
  refine Or.inr ⟨?_, t, rfl, cndF_cg (fun j hj => ?_) h⟩
  · rw [show upd f n x n = x from if_pos rfl]; exact hx
  · exact (if_neg (by omega)).symm
theorem ar_sg {f : Nat → Int32} {n : Nat} {t : List Bool} {x : Int32} (h : cndF f n t) (hx : ¬ x < 4 ∧ ¬ 9 < x) : arF (upd f n x) true (n + 1) (false :: t) := by
  refine Or.inr (Or.inl ⟨?_, rfl, t, rfl, cndF_cg (fun j hj => ?_) h⟩)
  · rw [show upd f n x n = x from if_pos rfl]; exact hx
  · exact (if_neg (by omega)).symm
theorem ar_ar {f : Nat → Int32} {n : Nat} {t : List Bool} {x : Int32} {b : Bool} (h : arF f b n t) (hx : ¬ x < 10 ∧ ¬ 12 < x) : arF (upd f n x) b (n + 1) (false :: t) := by
  refine Or.inl ⟨?_, t, rfl, arF_cg (fun j hj => ?_) h⟩
  · rw [show upd f n x n = x from if_pos rfl]; exact hx
  · exact (if_neg (by omega)).symm
theorem not_tk {C M : ST} {r : Nat} {t : List Bool} (hc : cdR C M r 1) (h15 : sN C 15 = sN M 32 ∧ sN C 15 ≤ 8) (hy : tyT C t) (h7 : sI C 3 7 = 2 ∧ sI C 3 9 = 0 ∧ sI M 600 40 = 0 ∧ cndF (sI C 19) (sN C 13) t) : tkS C M (offO C 3) (mwai M 19) r := by
  obtain ⟨p1, p2, p3, p4⟩ := offO_st (C := C) (x := 3) (by have := hc.2.2.2.2.2.2; omega)
  obtain ⟨q1, q2, q3, q4⟩ := mwai_st (M := M) (x := 19)
  have e3 : sI (offO C 3) 3 = sI C 3 := p3 3 (by decide)
  refine ⟨hc.off (d := 3) (by decide), ?_, ?_, ⟨t, ?_, Or.inl ⟨?_, ?_, ?_, ?_⟩⟩, ?_, ?_⟩
  · rw [p4 15 (by decide), q4 32 (by decide)]; exact h15.1
  · rw [p4 15 (by decide)]; exact h15.2
  · unfold tyT
    rw [e3, p3 17 (by decide), p3 18 (by decide), p4 12 (by decide)]
    exact hy
  · rw [e3]; exact h7.1
  · rw [e3]; exact h7.2.1
  · rw [q2 600 (by decide)]; exact h7.2.2.1
  · rw [p1, p2]
    exact cnd_off h7.2.2.2 (Or.inr rfl)
  · exact ⟨p3 16 (by decide), p4 9 (by decide), p4 11 (by decide), p4 14 (by decide), by rw [e3], by rw [e3], by rw [p2, p4 12 (by decide)]; omega⟩
  · exact ⟨q2 716 (by decide), q4 24 (by decide), q4 28 (by decide), q4 29 (by decide), q2 719 (by decide), q2 720 (by decide)⟩
theorem opn_tk {C M : ST} {r : Nat} {t : List Bool} (hc : cdR C M r 1) (h15 : sN C 15 = sN M 32 ∧ sN C 15 < 8) (hy : tyT C t) (h7 : sI C 3 7 = 2 ∧ sI C 3 9 = 0 ∧ sI M 600 40 = 0 ∧ cndF (sI C 19) (sN C 13) t) : tkS C M (offO (wN C 15 (sN C 15 + 1)) 0) (wN (mwai M 22) 32 (sN (mwai M 22) 32 + 1)) r := by
  have e13 : sN (wN C 15 (sN C 15 + 1)) 13 = sN C 13 := wN_ne (by decide)
  obtain ⟨p1, p2, p3, p4⟩ := offO_st (C := wN C 15 (sN C 15 + 1)) (x := 0) (by have := hc.2.2.2.2.2.2; omega)
  obtain ⟨q1, q2, q3, q4⟩ := mwai_st (M := M) (x := 22)
  have e3 : sI (offO (wN C 15 (sN C 15 + 1)) 0) 3 = sI C 3 := p3 3 (by decide)
  have hc' : cdR (wN C 15 (sN C 15 + 1)) M r 1 := hc.N (wN_ne (by decide)) (wN_ne (by decide)) (fun _ _ => rfl) rfl rfl (fun _ _ => rfl)
  refine ⟨(hc'.off (d := 0) (by decide)).N rfl rfl (fun _ _ => rfl) (wN_ne (by decide)) (wN_ne (by decide)) (fun _ _ => rfl), ?_, ?_, ⟨t, ?_, Or.inl ⟨?_, ?_, ?_, ?_⟩⟩, ?_, ?_⟩
  · rw [p4 15 (by decide), wN_self, wN_self, q4 32 (by decide)]; omega
  · rw [p4 15 (by decide), wN_self]; omega
  · unfold tyT
    rw [e3, p3 17 (by decide), p3 18 (by decide), p4 12 (by decide), wN_ne (by decide)]
    exact hy
  · rw [e3]; exact h7.1
  · rw [e3]; exact h7.2.1
  · rw [wNI, q2 600 (by decide)]; exact h7.2.2.1
  · rw [p1, p2, e13]
    exact cnd_off h7.2.2.2 (Or.inl rfl)
  · exact ⟨p3 16 (by decide), (p4 9 (by decide)).trans (wN_ne (by decide)), (p4 11 (by decide)).trans (wN_ne (by decide)), (p4 14 (by decide)).trans (wN_ne (by decide)), by rw [e3], by rw [e3], by rw [p2, p4 12 (by decide), e13, wN_ne (by decide)]; omega⟩
  · exact ⟨q2 716 (by decide), (wN_ne (by decide)).trans (q4 24 (by decide)), (wN_ne (by decide)).trans (q4 28 (by decide)), (wN_ne (by decide)).trans (q4 29 (by decide)), q2 719 (by decide), q2 720 (by decide)⟩
