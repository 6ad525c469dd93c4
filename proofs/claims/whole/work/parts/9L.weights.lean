/-! weights: class and reference -/
theorem ev1i {s x y : Int32} {v : Int32 → Int32 → Int64} {t u : List Bool} {l : List Int64} (ht : ty1 s x y t u) (hl : l.length = t.length) (h80 : l.length < 80) : ∃ l' : List Int64, l'.length = u.length ∧ l'.length ≤ l.length + 1 ∧ ∀ f, stk f l → (stp v x y l.length f).1 = l'.length ∧ stk (stp v x y l.length f).2 l' := by
  have bin : ∀ (b a : Int64) (m : List Int64), x < 13 → ¬ x = 3 → ∀ f, stk f (b :: a :: m) → (stp v x y (b :: a :: m).length f).1 = (wo x a b :: m).length ∧ stk (stp v x y (b :: a :: m).length f).2 (wo x a b :: m) := by
    intro b a m e3 e4 f hs
    obtain ⟨q1, q2⟩ := stk_tail hs
    obtain ⟨q3, q4⟩ := stk_tail q1
    refine ⟨?_, ?_⟩
    · unfold stp
      rw [if_pos e3, if_neg e4, if_neg (by simp)]
      rfl
    · unfold stp
      rw [if_pos e3, if_neg e4, if_neg (by simp)]
      show stk (vp_updL f ((b :: a :: m).length - 2) (wo x (f ((b :: a :: m).length - 2)) (f ((b :: a :: m).length - 1)))) _
      simp only [List.length_cons, Nat.add_sub_cancel] at q2 q4 ⊢
      rw [show m.length + 1 + 1 - 2 = m.length by omega, q2, q4]
      exact stk_top q3 _ _ rfl
  rcases ht with ⟨h1, rfl⟩ | ⟨rfl, r, rfl, rfl⟩ | ⟨h1, r, rfl, rfl⟩ | ⟨h1, r, rfl, rfl⟩ | ⟨h1, r, rfl, rfl⟩
  · obtain ⟨h2, h3, h4⟩ := tmOK_cm h1
    refine ⟨(if x = 13 then y.toInt64 else v x y) :: l, by simp [hl], by simp, fun f hs => ⟨?_, ?_⟩⟩
    · unfold stp
      rw [if_neg h2, if_pos h80]
      rfl
    · unfold stp
      rw [if_neg h2, if_pos h80]
      exact stk_push hs _
  · match l, hl with
    | a :: m, hl =>
      refine ⟨tl (a = 0) :: m, by simpa using hl, by simp, fun f hs => ⟨?_, ?_⟩⟩
      · unfold stp
        rw [if_pos (by decide), if_pos rfl, if_neg (by simp)]
        rfl
      · unfold stp
        rw [if_pos (by decide), if_pos rfl, if_neg (by simp)]
        obtain ⟨q1, q2⟩ := stk_tail hs
        show stk (vp_updL f ((a :: m).length - 1) (tl (f ((a :: m).length - 1) = 0))) _
        simp only [List.length_cons, Nat.add_sub_cancel, q2]
        exact stk_top q1 _ _ rfl
  · match l, hl with
    | b :: a :: m, hl =>
      have e : x < 13 ∧ ¬ x = 3 := by rcases h1 with rfl | rfl <;> decide
      exact ⟨wo x a b :: m, by simp at hl ⊢; omega, by simp, bin b a m e.1 e.2⟩
  · match l, hl with
    | b :: a :: m, hl =>
      have e := (wo_sg h1 a b).2.2.1
      exact ⟨wo x a b :: m, by simp at hl ⊢; omega, by simp, bin b a m e.1 e.2⟩
  · match l, hl with
    | b :: a :: m, hl =>
      have e := (wo_ar h1 a b).2.1
      exact ⟨wo x a b :: m, by simp at hl ⊢; omega, by simp, bin b a m e.1 e.2⟩
theorem evI {s : Int32} {v : Int32 → Int32 → Int64} {cs xs : Nat → Int32} : ∀ (n : Nat) (u : List Bool), tyR s cs xs n u → n ≤ 80 → ∃ l : List Int64, l.length = u.length ∧ l.length ≤ n ∧ ∀ f, (evl v cs xs n 0 (0, f)).1 = l.length ∧ stk (evl v cs xs n 0 (0, f)).2 l
  | 0, u, h, _ => by
    rw [h]
    exact ⟨[], rfl, by simp, fun f => ⟨rfl, fun j hj => by simp at hj⟩⟩
  | n + 1, u, h, hn => by
    obtain ⟨t, h1, h2⟩ := h
    obtain ⟨l, a1, a2, a3⟩ := evI (v := v) n t h1 (by omega)
    obtain ⟨l', b1, b2, b3⟩ := ev1i (v := v) h2 a1 (by omega)
    refine ⟨l', b1, by omega, fun f => ?_⟩
    rw [evl_snoc, (a3 f).1, Nat.zero_add]
    exact b3 _ (a3 f).2
/-- told rules, class and reference -/
def tldR (S : ST) (r : Nat) : Prop := sI S 719 r = sI S (460 + 3 * r) 0 ∧ sI S 720 r = sI S (460 + 3 * r) 1 ∧ (sI S (460 + 3 * r) 0 = 0 ∨ sI S (460 + 3 * r) 0 = 1 ∨ sI S (460 + 3 * r) 0 = 2) ∧ (sI S (460 + 3 * r) 1 = 1 ∨ sI S (460 + 3 * r) 1 = 2) ∧ sI S 721 r = nI (sN S (3000 + r)) ∧ (∀ i, i < sN S (3000 + r) → sI S 722 (90 * r + i) = cm (sI S (461 + 3 * r) i) ∧ sI S 723 (90 * r + i) = sI S (462 + 3 * r) i) ∧ tyR (sI S (460 + 3 * r) 0) (sI S (461 + 3 * r)) (sI S (462 + 3 * r)) (sN S (3000 + r)) [true]
def wfR (S : ST) (r : Nat) : Prop := sN S (3000 + r) ≤ 80 ∧ (sN S (3000 + r) = 0 ∨ ∃ s, tyR s (sI S (461 + 3 * r)) (sI S (462 + 3 * r)) (sN S (3000 + r)) [true])
def gD (S : ST) : Prop := sN S 25 = sN S 3 ∧ sN S 3 ≤ 20 ∧ (∀ r, r < sN S 3 → tldR S r) ∧ (∀ r, r < 20 → wfR S r) ∧ ∀ r, 20 ≤ r → sN S (3000 + r) = 0
theorem eqT_10 {S : ST} (f : Nat → Int64) : eqT S (wJ S 10 f) := ⟨fun _ _ => rfl, fun m hm => va_up_ne _ _ (by omega), fun _ _ => rfl, fun _ _ => rfl⟩
theorem gD.ind {S : ST} (h : gD S) : ciInd S := by
  intro f c k p
  have e := eqT_10 (S := S) f
  unfold wgt
  by_cases hp : p < 7
  · rw [if_pos hp, if_pos hp, nbw_congr e, pbw_congr e]
  · rw [if_neg hp, if_neg hp]
    show (if sI S (460 + 3 * (p - 7)) 0 = nI c then (if (evr (wJ S 10 f) c k (p - 7)).1 = 1 ∧ ¬ (evr (wJ S 10 f) c k (p - 7)).2 0 = 0 then sI S (460 + 3 * (p - 7)) 1 else 0) else 0) = _
    have hev : ((evr (wJ S 10 f) c k (p - 7)).1 = 1 ∧ ¬ (evr (wJ S 10 f) c k (p - 7)).2 0 = 0) ↔ ((evr S c k (p - 7)).1 = 1 ∧ ¬ (evr S c k (p - 7)).2 0 = 0) := by
      unfold evr
      rw [tv_congr e]
      show ((evl (tv S c k) (sI S (461 + 3 * (p - 7))) (sI S (462 + 3 * (p - 7))) (sN S (3000 + (p - 7))) 0 (0, sJ (wJ S 10 f) 10)).1 = 1 ∧ ¬ (evl (tv S c k) (sI S (461 + 3 * (p - 7))) (sI S (462 + 3 * (p - 7))) (sN S (3000 + (p - 7))) 0 (0, sJ (wJ S 10 f) 10)).2 0 = 0) ↔ _
      by_cases h0 : sN S (3000 + (p - 7)) = 0
      · rw [h0]
        exact ⟨fun z => absurd (show (0 : Nat) = 1 from z.1) (by decide), fun z => absurd (show (0 : Nat) = 1 from z.1) (by decide)⟩
      · have hr : p - 7 < 20 := Decidable.byContradiction fun z => h0 (h.2.2.2.2 _ (by omega))
        obtain ⟨hn, hw⟩ := h.2.2.2.1 _ hr
        rcases hw with hw | ⟨s, hw⟩
        · exact absurd hw h0
        · obtain ⟨l, a1, a2, a3⟩ := evI (v := tv S c k) _ _ hw hn
          rw [(a3 _).1, (a3 _).1, (a3 (sJ (wJ S 10 f) 10)).2 0 (by rw [a1]; decide), (a3 (sJ S 10)).2 0 (by rw [a1]; decide)]
    simp only [hev]
theorem ci_in10 {f : Nat → Int32} {d : Nat} (hd : d < 10) : in10 f (nI d) = (f d).toInt64 := by
  unfold in10
  rw [if_pos ⟨nI_pos (by omega), nI_ge hd (by omega)⟩, nI_clamp (by omega)]
theorem tm_val {S : ST} (h : gT S) {c q : Nat} (ht : tok S c q) : ∀ x y, tmOK (nI c) x y → (if x = 13 then y.toInt64 else tv S c q x y) = tmR S (cm x) y (nI c) q := by
  have hsh := shR_eq h ht
  obtain ⟨⟨⟨c1, c2, c3, c4⟩, hb, c5⟩, hP, hNn, hQ, hKp, hKn, hG, hO, hS, hPi, hM⟩ := h
  unfold bdS at hb
  intro x y hx
  rcases hx with rfl | rfl | ⟨rfl, h1, h2, h3⟩ | ⟨rfl, h1⟩ | ⟨rfl, h1⟩ | ⟨rfl, h1⟩ | ⟨rfl, h1, d, hd, rfl⟩
  · rw [if_pos rfl, show cm 13 = 0 by decide]
    unfold tmR
    rw [if_pos rfl]
  · rw [if_neg (by decide), show cm 18 = 5 by decide]
    unfold tmR
    rw [if_neg (by decide), if_neg (by decide), if_neg (by decide), if_neg (by decide), if_neg (by decide), if_pos rfl, hsh]
    unfold tv
    rcases ht with ⟨rfl, hq⟩ | ⟨rfl, hq⟩ | ⟨rfl, hq⟩
    · rw [if_pos rfl]; unfold pv; rw [if_neg (by decide), if_pos rfl]; rfl
    · rw [if_neg (by decide), if_pos rfl]; unfold nv; rw [if_neg (by decide), if_pos rfl]; rfl
    · rw [if_neg (by decide), if_neg (by decide)]; unfold qv; rw [if_neg (by decide), if_neg (by decide), if_neg (by decide), if_pos rfl]; rfl
  · rw [if_neg (by decide), show cm 14 = 1 by decide]
    unfold tmR
    rw [if_neg (by decide), if_pos rfl]
    obtain ⟨j, hj, rfl⟩ := nI_of h2
    have h8 : j < 8 := by
      rw [show (8 : Int32) = nI 8 from rfl, nI_leI (by omega) hj] at h3
      omega
    rw [nI_clamp hj]
    unfold tv ptO
    have hfa : ∀ k, fAt S k (nI j) = sJ S (102 + 3 * k) j := fun k => by
      unfold fAt
      rw [if_pos ⟨h2, by rw [nI_leI (by omega) hj]; omega⟩, nI_clamp hj]
    rcases ht with ⟨rfl, hq⟩ | ⟨rfl, hq⟩ | ⟨rfl, hq⟩
    · rw [if_pos rfl, if_pos (show nI 0 = 0 from rfl)]
      unfold pv
      rw [if_neg (by decide), if_neg (by decide), if_neg (by decide), if_pos rfl, hfa]
      exact ((hP q hq).2 j h8).symm
    · exact absurd rfl h1
    · rw [if_neg (by decide), if_neg (by decide), if_neg (show ¬ nI 2 = 0 by decide)]
      unfold qv
      rw [if_pos rfl, hfa, (hQ q hq).2.1, nI_clamp (by have := (hPi q hq).2.1; omega)]
      exact ((hP _ (hPi q hq).2.1).2 j h8).symm
  · rw [if_neg (by decide), show cm 15 = 2 by decide]
    unfold tmR
    rw [if_neg (by decide), if_neg (by decide), if_pos rfl, c3]
    unfold tv
    rcases ht with ⟨rfl, hq⟩ | ⟨rfl, hq⟩ | ⟨rfl, hq⟩
    · rw [if_pos rfl]
      unfold pv
      rw [if_pos rfl, (hKp q hq).2]
      rfl
    · rw [if_neg (by decide), if_pos rfl]
      unfold nv
      rw [if_pos rfl, (hKn q hq).2]
      rfl
    · exact absurd rfl h1
  · rw [if_neg (by decide), show cm 16 = 3 by decide]
    unfold tmR
    rw [if_neg (by decide), if_neg (by decide), if_neg (by decide), if_pos rfl]
    unfold tv
    rcases ht with ⟨rfl, hq⟩ | ⟨rfl, hq⟩ | ⟨rfl, hq⟩
    · exact absurd h1 (by decide)
    · exact absurd h1 (by decide)
    · rw [if_neg (by decide), if_neg (by decide)]
      unfold qv
      rw [if_neg (by decide), if_pos rfl, (hQ q hq).1]
  · rw [if_neg (by decide), show cm 17 = 4 by decide]
    unfold tmR
    rw [if_neg (by decide), if_neg (by decide), if_neg (by decide), if_neg (by decide), if_pos rfl]
    unfold tv
    rcases ht with ⟨rfl, hq⟩ | ⟨rfl, hq⟩ | ⟨rfl, hq⟩
    · exact absurd rfl h1
    · rw [if_neg (by decide), if_pos rfl, if_pos (show nI 1 = 1 from rfl)]
      unfold nv
      rw [if_neg (by decide), if_neg (by decide), if_neg (by decide), if_pos rfl, (hNn q hq).2]
    · rw [if_neg (by decide), if_neg (by decide), if_neg (show ¬ nI 2 = 1 by decide)]
      unfold qv
      rw [if_neg (by decide), if_neg (by decide), if_pos rfl, (hQ q hq).2.2.1]
      have hl := (hPi q hq).2.2
      cases ho : sR S (300 + q) 4 with
      | none => exact (if_pos rfl).symm
      | some a =>
        have ha := hl a ho
        show (sI S (220 + 2 * a) 4).toInt64 = if nI a = -1 then -1 else (sI S 708 (nI a).toNatClampNeg).toInt64
        rw [if_neg (nI_m1 (by omega)), nI_clamp (by omega), (hNn a ha).2]
  · rw [if_neg (by decide), show cm 19 = 6 by decide]
    unfold tmR
    rw [if_neg (by decide), if_neg (by decide), if_neg (by decide), if_neg (by decide), if_neg (by decide), if_neg (by decide), c3]
    unfold tv
    rcases ht with ⟨rfl, hq⟩ | ⟨rfl, hq⟩ | ⟨rfl, hq⟩
    · rw [if_pos rfl]
      unfold pv
      rw [if_neg (by decide), if_neg (by decide), if_pos rfl, ci_in10 hd, (hKp q hq).1 d hd]
      rfl
    · rw [if_neg (by decide), if_pos rfl]
      unfold nv
      rw [if_neg (by decide), if_neg (by decide), if_pos rfl, ci_in10 hd, (hKn q hq).1 d hd]
      rfl
    · exact absurd rfl h1
theorem told_val {S : ST} (h : gT S) (hd : gD S) {r c q : Nat} (hr : r < sN S 3) (ht : tok S c q) (hs : sI S (460 + 3 * r) 0 = nI c) : ∃ v, rpR S (nI c) q (sN S (3000 + r)) (90 * r) [] = some [v] ∧ tvR S r (nI c) q = v ∧ (evr S c q r).1 = 1 ∧ (evr S c q r).2 0 = v ∧ sN S (3000 + r) ≤ 80 := by
  obtain ⟨t1, t2, t3, t4, t5, t6, t7⟩ := hd.2.2.1 r hr
  have hn := (hd.2.2.2.1 r (by have := hd.2.1; omega)).1
  rw [hs] at t7
  obtain ⟨l, a1, a2, a3, a4, a5⟩ := evN (S := S) (k := q) (b := 90 * r) (v := tv S c q) (f := sJ S 10) _ _ t7 hn t6 (tm_val h ht)
  have hl := okT_len a1
  match l, hl with
  | [v], _ =>
    refine ⟨v, a2, ?_, a3, ?_, hn⟩
    · unfold tvR
      rw [t5, nI_clamp (by omega), a2]
    · have := a4 0 (by simp)
      exact this
theorem wv_pos {S : ST} {p : Nat} : ∀ n, 0 ≤ wvR S p n
  | 0 => by show (0 : Int32) ≤ 0; decide
  | n + 1 => by
    unfold wvR
    split
    · exact wv_pos n
    · rename_i h
      have h1 := wv_pos (S := S) (p := p) n
      rw [Int32.le_iff_toInt_le] at h h1 ⊢
      omega
theorem wv_eq {S : ST} (h : gT S) (hT : ∀ i, i < 100 → sI S 701 i = sI S 11 i) {p : Nat} (hp : p < sN S 2) (hne : ¬ sR S (300 + p) 4 = none) : ∀ n, n ≤ p → wvF S p n = wvR S p n
  | 0, _ => rfl
  | n + 1, hn => by
    obtain ⟨⟨⟨c1, c2, c3, c4⟩, hb, c5⟩, hP, hNn, hQ, hKp, hKn, hG, hO, hS, hPi, hM⟩ := id h
    unfold bdS at hb
    have ih := wv_eq h hT hp hne n (by omega)
    have hp0 := wv_pos (S := S) (p := p) n
    obtain ⟨⟨dp, hdp, edp⟩, -, lp⟩ := hPi p hp
    obtain ⟨⟨dn, hdn, edn⟩, -, ln⟩ := hPi n (by omega)
    have e1 : ¬ sI S 710 p = -1 := by
      rw [(hQ p hp).2.2.1]
      cases ho : sR S (300 + p) 4 with
      | none => exact absurd ho hne
      | some a =>
        have := lp a ho
        exact nI_m1 (by omega)
    have e2 : sI S 710 n = sI S 710 p ↔ sR S (300 + n) 4 = sR S (300 + p) 4 := by
      rw [(hQ p hp).2.2.1, (hQ n (by omega)).2.2.1]
      cases ho : sR S (300 + p) 4 with
      | none => exact absurd ho hne
      | some a =>
        have := lp a ho
        exact oI_inj (by omega) (fun b hb => by have := ln b hb; omega)
    unfold wvF wvR
    by_cases e : sR S (300 + n) 4 = sR S (300 + p) 4
    · have ei : sI S 701 (10 * (sI S 711 p).toNatClampNeg + (sI S 711 n).toNatClampNeg) = sI S 11 ((sI S (300 + p) 3).toNatClampNeg * 10 + (sI S (300 + n) 3).toNatClampNeg) := by
        rw [(hQ p hp).1, (hQ n (by omega)).1, edp, edn, nI_clamp (by omega), nI_clamp (by omega), hT _ (by omega), Nat.mul_comm 10 dp]
      have ev : wvV S p n = sI S 11 ((sI S (300 + p) 3).toNatClampNeg * 10 + (sI S (300 + n) 3).toNatClampNeg) := by
        unfold wvV
        rw [if_pos ⟨e1, e2.mpr e⟩, ei]
      rw [if_pos e, ev, ih]
      by_cases hlt : wvR S p n < sI S 11 ((sI S (300 + p) 3).toNatClampNeg * 10 + (sI S (300 + n) 3).toNatClampNeg)
      · rw [if_pos hlt, if_neg (Int32.not_le.mpr hlt)]
      · rw [if_neg hlt, if_pos (Int32.not_lt.mp hlt)]
    · have ev : wvV S p n = 0 := by
        unfold wvV
        rw [if_neg (fun z => e (e2.mp z.2))]
      rw [if_neg e, ev, if_pos hp0, ih]
theorem wv_none {S : ST} {p : Nat} (h : sI S 710 p = -1) : ∀ n, wvR S p n = 0
  | 0 => rfl
  | n + 1 => by
    have ev : wvV S p n = 0 := by
      unfold wvV
      rw [if_neg (fun z => z.1 h)]
    unfold wvR
    rw [wv_none h n, ev, if_pos (by decide)]
/-- found, class and reference -/
theorem wgt_eq {S : ST} (h : gT S) (hd : gD S) (hT : ∀ i, i < 100 → sI S 701 i = sI S 11 i) {c q r : Nat} (ht : tok S c q) (hr : r < 7 + sN S 3) : fnR S r (nI c) q = wgt S c q r ∧ 0 ≤ wgt S c q r := by
  obtain ⟨⟨⟨c1, c2, c3, c4⟩, hb, c5⟩, hP, hNn, hQ, hKp, hKn, hG, hO, hS, hPi, hM⟩ := id h
  unfold bdS at hb
  have h3 := hd.2.1
  have e02 : (0 : Int32) ≤ 2 := by decide
  have e01 : (0 : Int32) ≤ 1 := by decide
  have e00 : (0 : Int32) ≤ 0 := by decide
  unfold fnR wgt
  by_cases h7 : r < 7
  · rw [if_pos (by rw [show (7 : Int32) = nI 7 from rfl]; exact nI_lt h7 (by omega)), if_pos h7]
    unfold fnB
    rcases ht with ⟨rfl, hq⟩ | ⟨rfl, hq⟩ | ⟨rfl, hq⟩
    · rw [if_neg (show ¬ nI 0 = 2 by decide), if_pos (show nI 0 = 0 from rfl), if_pos rfl]
      exact ⟨rfl, e00⟩
    · rw [if_neg (show ¬ nI 1 = 2 by decide), if_neg (show ¬ nI 1 = 0 by decide), if_neg (show ¬ (1 : Nat) = 0 by decide), if_pos rfl, c3]
      unfold nbw
      obtain ⟨k1, k2⟩ := hKn q hq
      have pb : ∀ t, pcR S 1 (nI q) t (sN S 2) ≤ 160 := fun t => by have := pcR_le (S := S) (s := 1) (k := nI q) (t := t) (sN S 2); omega
      rw [k1 1 (by decide), k1 3 (by decide), k1 4 (by decide), k2]
      rcases (show r = 0 ∨ r = 1 ∨ r = 2 ∨ r = 3 ∨ r = 4 ∨ r = 5 ∨ r = 6 by omega) with rfl | rfl | rfl | rfl | rfl | rfl | rfl
      · exact ⟨rfl, e00⟩
      · exact ⟨rfl, e00⟩
      · rw [if_pos rfl, if_pos (show nI 2 = 2 from rfl)]
        have := pb (nI 1)
        have ee : nI (pcR S 1 (nI q) (nI 1) (sN S 2)) ≤ 1 ↔ nI (pcR S 1 (nI q) (nI 1) (sN S 2)) < 2 := by
          generalize pcR S 1 (nI q) (nI 1) (sN S 2) = g at *
          rw [show (1 : Int32) = nI 1 from rfl, show (2 : Int32) = nI 2 from rfl, nI_leI (by omega) (by omega), nI_ltI (by omega) (by omega)]
          omega
        show (if nI (pcR S 1 (nI q) (nI 1) (sN S 2)) ≤ 1 then (0 : Int32) else 2) = _ ∧ _
        by_cases z : nI (pcR S 1 (nI q) (nI 1) (sN S 2)) < 2
        · rw [if_pos z, if_pos (ee.mpr z)]; exact ⟨rfl, e00⟩
        · rw [if_neg z, if_neg (fun y => z (ee.mp y))]; exact ⟨rfl, e02⟩
      · rw [if_neg (show ¬ (3 : Nat) = 2 by decide), if_pos rfl, if_neg (show ¬ nI 3 = 2 by decide), if_pos (show nI 3 = 3 from rfl)]
        show (if ¬ nI (pcR S 1 (nI q) (nI 3) (sN S 2)) ≤ 0 ∧ nI (pcR S 1 (nI q) (nI 4) (sN S 2)) = 0 then (2 : Int32) else 0) = _ ∧ _
        by_cases z : nI (pcR S 1 (nI q) (nI 3) (sN S 2)) ≤ 0
        · rw [if_pos z, if_neg (fun y => y.1 z)]; exact ⟨rfl, e00⟩
        · rw [if_neg z]
          by_cases z2 : nI (pcR S 1 (nI q) (nI 4) (sN S 2)) = 0
          · rw [if_pos (c := ¬ nI (pcR S 1 (nI q) (nI 3) (sN S 2)) ≤ 0 ∧ nI (pcR S 1 (nI q) (nI 4) (sN S 2)) = 0) ⟨z, z2⟩, if_neg (fun y => y z2)]; exact ⟨rfl, e02⟩
          · rw [if_neg (c := ¬ nI (pcR S 1 (nI q) (nI 3) (sN S 2)) ≤ 0 ∧ nI (pcR S 1 (nI q) (nI 4) (sN S 2)) = 0) (fun y => z2 y.2), if_pos z2]; exact ⟨rfl, e00⟩
      · rw [if_neg (show ¬ (4 : Nat) = 2 by decide), if_neg (show ¬ (4 : Nat) = 3 by decide), if_pos rfl, if_neg (show ¬ nI 4 = 2 by decide), if_neg (show ¬ nI 4 = 3 by decide), if_pos (show nI 4 = 4 from rfl)]
        show (if nI (pcR S 1 (nI q) (-1) (sN S 2)) = 1 then (1 : Int32) else 0) = _ ∧ _
        by_cases z : nI (pcR S 1 (nI q) (-1) (sN S 2)) = 1
        · rw [if_pos z, if_neg (fun y => y z)]; exact ⟨rfl, e01⟩
        · rw [if_neg z, if_pos z]; exact ⟨rfl, e00⟩
      · rw [if_neg (show ¬ (5 : Nat) = 2 by decide), if_neg (show ¬ (5 : Nat) = 3 by decide), if_neg (show ¬ (5 : Nat) = 4 by decide), if_pos rfl, if_neg (show ¬ nI 5 = 2 by decide), if_neg (show ¬ nI 5 = 3 by decide), if_neg (show ¬ nI 5 = 4 by decide), if_pos (show nI 5 = 5 from rfl)]
        have ee : nbR S q q ↔ lnB S q = true := by
          unfold lnB
          rw [List.any_eq_true]
          constructor
          · rintro ⟨j, hj, e⟩
            refine ⟨j, List.mem_range.mpr hj, ?_⟩
            rw [decide_eq_true_eq, ← (hNn j (by omega)).2, ← (hNn q hq).2]
            exact e
          · rintro ⟨j, hj, e⟩
            rw [List.mem_range] at hj
            rw [decide_eq_true_eq, ← (hNn j (by omega)).2, ← (hNn q hq).2] at e
            exact ⟨j, hj, e⟩
        by_cases z : lnB S q = true
        · rw [if_pos (ee.mpr z), if_pos z]; exact ⟨rfl, e02⟩
        · rw [if_neg (fun y => z (ee.mp y)), if_neg z]; exact ⟨rfl, e00⟩
      · rw [if_neg (show ¬ (6 : Nat) = 2 by decide), if_neg (show ¬ (6 : Nat) = 3 by decide), if_neg (show ¬ (6 : Nat) = 4 by decide), if_neg (show ¬ (6 : Nat) = 5 by decide), if_pos rfl, if_neg (show ¬ nI 6 = 2 by decide), if_neg (show ¬ nI 6 = 3 by decide), if_neg (show ¬ nI 6 = 4 by decide), if_neg (show ¬ nI 6 = 5 by decide), if_pos (show nI 6 = 6 from rfl), c4]
        by_cases z : ogR S (nI q) (sN S 7)
        · rw [if_pos z, if_neg (fun y => (hG.1 q hq).mp y z)]; exact ⟨rfl, e01⟩
        · rw [if_neg z, if_pos ((hG.1 q hq).mpr z)]; exact ⟨rfl, e00⟩
    · rw [if_pos (show nI 2 = 2 from rfl), if_neg (show ¬ (2 : Nat) = 0 by decide), if_neg (show ¬ (2 : Nat) = 1 by decide)]
      unfold pbw
      obtain ⟨q1, q2, q3, q4⟩ := hQ q hq
      have lq := (hPi q hq).2.2
      have en : sI S 710 q = -1 ↔ sR S (300 + q) 4 = none := by
        rw [q3]
        cases ho : sR S (300 + q) 4 with
        | none => exact ⟨fun _ => rfl, fun _ => rfl⟩
        | some a =>
          have := lq a ho
          exact ⟨fun z => absurd z (nI_m1 (by omega)), fun z => by cases z⟩
      by_cases r0 : nI r = 0
      · rw [if_pos r0, if_pos r0, q1]
        by_cases z : sR S (300 + q) 4 = none ∧ ¬ sI S (300 + q) 3 = 9
        · rw [if_pos z, if_pos ⟨en.mpr z.1, z.2⟩]; exact ⟨rfl, e02⟩
        · rw [if_neg z, if_neg (fun y => z ⟨en.mp y.1, y.2⟩)]; exact ⟨rfl, e00⟩
      · rw [if_neg r0, if_neg r0]
        by_cases r1 : nI r = 1
        · rw [if_pos r1, if_pos r1]
          by_cases z : sR S (300 + q) 4 = none
          · rw [if_pos z, wv_none (en.mpr z)]; exact ⟨rfl, e00⟩
          · rw [if_neg z, wv_eq h hT hq z q (Nat.le_refl _)]; exact ⟨rfl, wv_pos q⟩
        · rw [if_neg r1, if_neg r1]; exact ⟨rfl, e00⟩
  · rw [if_neg (by rw [show (7 : Int32) = nI 7 from rfl]; exact nI_nlt (by omega) (by omega)), if_neg h7]
    obtain ⟨t1, t2, t3, t4, -⟩ := hd.2.2.1 (r - 7) (by omega)
    rw [t1, t2]
    by_cases z : sI S (460 + 3 * (r - 7)) 0 = nI c
    · obtain ⟨v, v1, v2, v3, v4, v5⟩ := told_val h hd (by omega) ht z
      have w0 : 0 ≤ sI S (460 + 3 * (r - 7)) 1 := by
        rcases t4 with e | e
        · rw [e]; decide
        · rw [e]; decide
      rw [if_pos z, v2, v4]
      by_cases zv : v = 0
      · rw [if_neg (fun y => y.2 zv), if_neg (fun y => y.2 zv)]; exact ⟨rfl, e00⟩
      · rw [if_pos ⟨z, zv⟩, if_pos ⟨v3, zv⟩]; exact ⟨rfl, w0⟩
    · rw [if_neg z, if_neg (fun y => z y.1)]; exact ⟨rfl, e00⟩
