/-! reading, class (C) and reference (M) side by side: codes put out, operators that wait, types -/
def cndF (f : Nat → Int32) : Nat → List Bool → Prop
  | 0, t => t = []
  | n + 1, t => ((f n = 0 ∨ f n = 3) ∧ cndF f n t) ∨ ((f n = 1 ∨ f n = 2) ∧ ∃ u, t = true :: u ∧ cndF f n u)
def arF (f : Nat → Int32) (b : Bool) : Nat → List Bool → Prop
  | 0, t => b = false ∧ t = []
  | n + 1, t => ((¬ f n < 10 ∧ ¬ 12 < f n) ∧ ∃ u, t = false :: u ∧ arF f b n u) ∨ ((¬ f n < 4 ∧ ¬ 9 < f n) ∧ b = true ∧ ∃ u, t = false :: u ∧ cndF f n u) ∨ (b = false ∧ cndF f (n + 1) t)
theorem cndF_cg {f g : Nat → Int32} : ∀ {n : Nat} {t : List Bool}, (∀ j, j < n → f j = g j) → cndF f n t → cndF g n t
  | 0, t, _, h => h
  | n + 1, t, hc, h => by
    unfold cndF at h ⊢
    rw [← hc n (by omega)]
    rcases h with ⟨h1, h2⟩ | ⟨h1, u, h2, h3⟩
    · exact Or.inl ⟨h1, cndF_cg (fun j hj => hc j (by omega)) h2⟩
    · exact Or.inr ⟨h1, u, h2, cndF_cg (fun j hj => hc j (by omega)) h3⟩
theorem arF_cg {f g : Nat → Int32} {b : Bool} : ∀ {n : Nat} {t : List Bool}, (∀ j, j < n → f j = g j) → arF f b n t → arF g b n t
  | 0, t, _, h => h
  | n + 1, t, hc, h => by
    unfold arF at h ⊢
    rw [← hc n (by omega)]
    rcases h with ⟨h1, u, h2, h3⟩ | ⟨h1, h0, u, h2, h3⟩ | ⟨h1, h2⟩
    · exact Or.inl ⟨h1, u, h2, arF_cg (fun j hj => hc j (by omega)) h3⟩
    · exact Or.inr (Or.inl ⟨h1, h0, u, h2, cndF_cg (fun j hj => hc j (by omega)) h3⟩)
    · exact Or.inr (Or.inr ⟨h1, cndF_cg hc h2⟩)
theorem cnd_ar {f : Nat → Int32} : ∀ {n : Nat} {t : List Bool}, cndF f n t → arF f false n t
  | 0, _, h => ⟨rfl, h⟩
  | _ + 1, _, h => Or.inr (Or.inr ⟨rfl, h⟩)
theorem tyR_cg {s : Int32} {cs xs cs' xs' : Nat → Int32} : ∀ {n : Nat} {t : List Bool}, (∀ j, j < n → cs j = cs' j ∧ xs j = xs' j) → tyR s cs xs n t → tyR s cs' xs' n t
  | 0, _, _, h => h
  | n + 1, t, hc, h => by
    obtain ⟨l, h1, h2⟩ := h
    refine ⟨l, tyR_cg (fun j hj => hc j (by omega)) h1, ?_⟩
    rw [← (hc n (by omega)).1, ← (hc n (by omega)).2]
    exact h2
theorem tyR_put {s : Int32} {cs xs : Nat → Int32} {n : Nat} {t u : List Bool} {x y : Int32} (h : tyR s cs xs n t) (h1 : ty1 s x y t u) : tyR s (upd cs n x) (upd xs n y) (n + 1) u := by
  refine ⟨t, tyR_cg (fun j hj => ?_) h, ?_⟩
  · unfold upd
    rw [if_neg (by omega), if_neg (by omega)]
    exact ⟨rfl, rfl⟩
  · unfold upd
    rw [if_pos rfl, if_pos rfl]
    exact h1
/-- stg at the thirteen codes -/
theorem stg_ar {x : Int32} (h : ¬ x < 10 ∧ ¬ 12 < x) : stg x = 10 ∨ stg x = 12 := by
  rcases i32_10_12 h with rfl | rfl | rfl
  · exact Or.inl (by decide)
  · exact Or.inl (by decide)
  · exact Or.inr (by decide)
theorem stg_sg {x : Int32} (h : ¬ x < 4 ∧ ¬ 9 < x) : stg x = 4 := by
  rcases i32_4_9 h with rfl | rfl | rfl | rfl | rfl | rfl <;> decide
theorem wIs {S : ST} {i : Nat} {f : Nat → Int32} : sI (wI S i f) i = f := va_up_self _ _ _
theorem wIo {S : ST} {i j : Nat} {f : Nat → Int32} (h : j ≠ i) : sI (wI S i f) j = sI S j := va_up_ne _ _ h
theorem wNI {S : ST} {n v m : Nat} : sI (wN S n v) m = sI S m := rfl
theorem putO_st {C : ST} {x y : Int32} (h : sN C 12 < 80) : sI (putO C x y) 17 = upd (sI C 17) (sN C 12) x ∧ sI (putO C x y) 18 = upd (sI C 18) (sN C 12) y ∧ sN (putO C x y) 12 = sN C 12 + 1 ∧ (∀ m, m ≠ 17 → m ≠ 18 → sI (putO C x y) m = sI C m) ∧ (∀ m, m ≠ 12 → sN (putO C x y) m = sN C m) := by
  unfold putO
  rw [if_pos h]
  refine ⟨?_, ?_, wN_self, fun m h1 h2 => ?_, fun m h1 => wN_ne h1⟩
  · rw [wNI, wIo (by decide), wIs]
  · rw [wNI, wIs]
  · rw [wNI, wIo h2, wIo h1]
theorem offO_st {C : ST} {x : Int32} (h : sN C 13 < 80) : sI (offO C x) 19 = upd (sI C 19) (sN C 13) x ∧ sN (offO C x) 13 = sN C 13 + 1 ∧ (∀ m, m ≠ 19 → sI (offO C x) m = sI C m) ∧ (∀ m, m ≠ 13 → sN (offO C x) m = sN C m) := by
  unfold offO
  rw [if_pos h]
  exact ⟨by rw [wNI, wIs], wN_self, fun m h1 => by rw [wNI, wIo h1], fun m h1 => wN_ne h1⟩
/-- the class's pops: what stays -/
theorem pod_st {x : Int32} : ∀ (n : Nat) (C : ST), sN C 13 = n → sN C 12 + n ≤ 80 → (∀ m, m ≠ 17 → m ≠ 18 → sI (podF x n C) m = sI C m) ∧ (∀ m, m ≠ 12 → m ≠ 13 → sN (podF x n C) m = sN C m) ∧ sN (podF x n C) 13 ≤ n ∧ sN (podF x n C) 12 + sN (podF x n C) 13 = sN C 12 + n ∧ (sN (podF x n C) 13 = 0 ∨ stg (sI C 19 (sN (podF x n C) 13 - 1)) < stg x)
  | 0, C, h, _ => ⟨fun _ _ _ => rfl, fun _ _ _ => rfl, by show sN C 13 ≤ 0; omega, by show sN C 12 + sN C 13 = _; omega, Or.inl h⟩
  | n + 1, C, h, hb => by
    unfold podF
    split
    · rename_i h1
      refine ⟨fun _ _ _ => rfl, fun _ _ _ => rfl, by omega, by omega, Or.inr ?_⟩
      rw [h]
      exact h1
    · rename_i h1
      have h12 : sN (wN C 13 n) 12 = sN C 12 := wN_ne (by decide)
      obtain ⟨p1, p2, p3, p4, p5⟩ := putO_st (C := wN C 13 n) (x := sI C 19 n) (y := 0) (by omega)
      have e13 : sN (putO (wN C 13 n) (sI C 19 n) 0) 13 = n := by rw [p5 13 (by decide), wN_self]
      obtain ⟨q1, q2, q3, q4, q5⟩ := pod_st (x := x) n (putO (wN C 13 n) (sI C 19 n) 0) e13 (by omega)
      refine ⟨fun m a b => (q1 m a b).trans (p4 m a b), fun m a b => (q2 m a b).trans ((p5 m a).trans (wN_ne b)), by omega, by omega, ?_⟩
      rw [p4 19 (by decide) (by decide)] at q5
      exact q5
/-- what pops of an arithmetic operator or a sign leave on the stack -/
theorem pod_ar {s x : Int32} {b : Bool} (hx : (¬ x < 10 ∧ ¬ 12 < x) ∨ ((¬ x < 4 ∧ ¬ 9 < x) ∧ b = false)) : ∀ (n : Nat) (C : ST) (t : List Bool), sN C 13 = n → sN C 12 + n ≤ 80 → tyR s (sI C 17) (sI C 18) (sN C 12) (false :: t) → arF (sI C 19) b n t → ∃ u, tyR s (sI (podF x n C) 17) (sI (podF x n C) 18) (sN (podF x n C) 12) (false :: u) ∧ arF (sI C 19) b (sN (podF x n C) 13) u
  | 0, C, t, h, _, h1, h2 => ⟨t, h1, by show arF _ _ (sN C 13) t; rw [h]; exact h2⟩
  | n + 1, C, t, h, hb, h1, h2 => by
    have hs : 4 ≤ stg x := by
      rcases hx with hx | ⟨hx, -⟩
      · rcases stg_ar hx with e | e
        · rw [e]; decide
        · rw [e]; decide
      · rw [stg_sg hx]; decide
    unfold podF
    split
    · exact ⟨t, h1, by rw [h]; exact h2⟩
    · rename_i hns
      have h12 : sN (wN C 13 n) 12 = sN C 12 := wN_ne (by decide)
      obtain ⟨p1, p2, p3, p4, p5⟩ := putO_st (C := wN C 13 n) (x := sI C 19 n) (y := 0) (by omega)
      have e13 : sN (putO (wN C 13 n) (sI C 19 n) 0) 13 = n := by rw [p5 13 (by decide), wN_self]
      rcases h2 with ⟨g1, u, rfl, g3⟩ | ⟨g1, g0, -⟩ | ⟨-, g2⟩
      · obtain ⟨v, r1, r2⟩ := pod_ar hx n (putO (wN C 13 n) (sI C 19 n) 0) u e13 (by omega) (by
          rw [p1, p2, p3, h12]
          exact tyR_put h1 (Or.inr (Or.inr (Or.inr (Or.inr ⟨g1, _, rfl, rfl⟩))))) (by rw [p4 19 (by decide) (by decide)]; exact g3)
        refine ⟨v, r1, ?_⟩
        rw [p4 19 (by decide) (by decide)] at r2
        exact r2
      · exfalso
        rw [stg_sg g1] at hns
        rcases hx with hx | ⟨-, hx⟩
        · rcases stg_ar hx with e | e
          · rw [e] at hns; exact hns (by decide)
          · rw [e] at hns; exact hns (by decide)
        · rw [g0] at hx; cases hx
      · exfalso
        have : stg (sI C 19 n) ≤ 3 := by
          rcases g2 with ⟨g | g, -⟩ | ⟨g | g, -⟩
          · rw [g]; decide
          · rw [g]; decide
          · rw [g]; decide
          · rw [g]; decide
        exact hns (Int32.lt_of_le_of_lt this (Int32.lt_of_lt_of_le (by decide) hs))
/-- what pops of and, or, leave -/
theorem pod_cn {s x : Int32} (hx : x = 1 ∨ x = 2) : ∀ (n : Nat) (C : ST), sN C 13 = n → sN C 12 + n ≤ 80 → ((∃ t, tyR s (sI C 17) (sI C 18) (sN C 12) (false :: t) ∧ arF (sI C 19) true n t) ∨ ∃ t, tyR s (sI C 17) (sI C 18) (sN C 12) (true :: t) ∧ cndF (sI C 19) n t) → ∃ u, tyR s (sI (podF x n C) 17) (sI (podF x n C) 18) (sN (podF x n C) 12) (true :: u) ∧ cndF (sI C 19) (sN (podF x n C) 13) u
  | 0, C, h, _, hh => by
    rcases hh with ⟨t, -, h2⟩ | ⟨t, h1, h2⟩
    · exact absurd h2.1 (by decide)
    · exact ⟨t, h1, by show cndF _ (sN C 13) t; rw [h]; exact h2⟩
  | n + 1, C, h, hb, hh => by
    have hs : stg x ≤ 2 ∧ 0 < stg x := by
      rcases hx with rfl | rfl
      · decide
      · decide
    unfold podF
    have h12 : sN (wN C 13 n) 12 = sN C 12 := wN_ne (by decide)
    obtain ⟨p1, p2, p3, p4, p5⟩ := putO_st (C := wN C 13 n) (x := sI C 19 n) (y := 0) (by omega)
    have e13 : sN (putO (wN C 13 n) (sI C 19 n) 0) 13 = n := by rw [p5 13 (by decide), wN_self]
    rcases hh with ⟨t, h1, h2⟩ | ⟨t, h1, h2⟩
    · rcases h2 with ⟨g1, u, rfl, g3⟩ | ⟨g1, g0, u, rfl, g3⟩ | ⟨g0, -⟩
      · rw [if_neg (by
          rcases stg_ar g1 with e | e
          · rw [e]; exact fun z => absurd (Int32.lt_of_lt_of_le z hs.1) (by decide)
          · rw [e]; exact fun z => absurd (Int32.lt_of_lt_of_le z hs.1) (by decide))]
        obtain ⟨v, r1, r2⟩ := pod_cn hx n (putO (wN C 13 n) (sI C 19 n) 0) e13 (by omega) (Or.inl ⟨u, by
          rw [p1, p2, p3, h12]
          exact tyR_put h1 (Or.inr (Or.inr (Or.inr (Or.inr ⟨g1, _, rfl, rfl⟩)))), by rw [p4 19 (by decide) (by decide)]; exact g3⟩)
        refine ⟨v, r1, ?_⟩
        rw [p4 19 (by decide) (by decide)] at r2
        exact r2
      · rw [if_neg (by rw [stg_sg g1]; exact fun z => absurd (Int32.lt_of_lt_of_le z hs.1) (by decide))]
        obtain ⟨v, r1, r2⟩ := pod_cn hx n (putO (wN C 13 n) (sI C 19 n) 0) e13 (by omega) (Or.inr ⟨u, by
          rw [p1, p2, p3, h12]
          exact tyR_put h1 (Or.inr (Or.inr (Or.inr (Or.inl ⟨g1, _, rfl, rfl⟩)))), by rw [p4 19 (by decide) (by decide)]; exact g3⟩)
        refine ⟨v, r1, ?_⟩
        rw [p4 19 (by decide) (by decide)] at r2
        exact r2
      · cases g0
    · split
      · exact ⟨t, h1, by rw [h]; exact h2⟩
      · rename_i hns
        rcases h2 with ⟨g | g, g3⟩ | ⟨g, u, rfl, g3⟩
        · exfalso
          rw [g] at hns
          exact hns hs.2
        · obtain ⟨v, r1, r2⟩ := pod_cn hx n (putO (wN C 13 n) (sI C 19 n) 0) e13 (by omega) (Or.inr ⟨t, by
            rw [p1, p2, p3, h12]
            exact tyR_put h1 (Or.inr (Or.inl ⟨g, _, rfl, rfl⟩)), by rw [p4 19 (by decide) (by decide)]; exact g3⟩)
          refine ⟨v, r1, ?_⟩
          rw [p4 19 (by decide) (by decide)] at r2
          exact r2
        · obtain ⟨v, r1, r2⟩ := pod_cn hx n (putO (wN C 13 n) (sI C 19 n) 0) e13 (by omega) (Or.inr ⟨u, by
            rw [p1, p2, p3, h12]
            exact tyR_put h1 (Or.inr (Or.inr (Or.inl ⟨g, _, rfl, rfl⟩))), by rw [p4 19 (by decide) (by decide)]; exact g3⟩)
          refine ⟨v, r1, ?_⟩
          rw [p4 19 (by decide) (by decide)] at r2
          exact r2
theorem ar_cnd {f : Nat → Int32} : ∀ {n : Nat} {t : List Bool}, arF f false n t → (n = 0 ∨ stg (f (n - 1)) < 4) → cndF f n t
  | 0, _, h, _ => h.2
  | n + 1, t, h, hs => by
    rcases h with ⟨g1, -⟩ | ⟨-, g0, -⟩ | ⟨-, g⟩
    · exfalso
      rcases hs with hs | hs
      · omega
      · rw [Nat.add_sub_cancel] at hs
        rcases stg_ar g1 with e | e
        · rw [e] at hs; exact absurd hs (by decide)
        · rw [e] at hs; exact absurd hs (by decide)
    · cases g0
    · exact g
/-- codes and waiting operators, class and reference -/
def cdR (C M : ST) (r k : Nat) : Prop := sN C 12 = pcn M ∧ sN M 30 = r ∧ sI M 721 r = nI (pcn M) ∧ (∀ i, i < sN C 12 → sI M 722 (90 * r + i) = cm (sI C 17 i) ∧ sI M 723 (90 * r + i) = sI C 18 i) ∧ sN C 13 = sN M 31 ∧ (∀ i, i < sN C 13 → sI M 737 i = cm (sI C 19 i) ∧ ∃ d, d < 13 ∧ sI C 19 i = nI d) ∧ sN C 12 + sN C 13 + k ≤ 80
theorem mput_st {M : ST} {r : Nat} {x y : Int32} (h30 : sN M 30 = r) (hp : pcn M ≤ 100) : pcn (mput M x y) = pcn M + 1 ∧ sI (mput M x y) 721 r = nI (pcn M + 1) ∧ sI (mput M x y) 722 = upd (sI M 722) (90 * r + pcn M) x ∧ sI (mput M x y) 723 = upd (sI M 723) (90 * r + pcn M) y ∧ (∀ m, m ≠ 721 → m ≠ 722 → m ≠ 723 → sI (mput M x y) m = sI M m) ∧ sN (mput M x y) = sN M := by
  subst h30
  have e721 : sI (mput M x y) 721 = upd (sI M 721) (sN M 30) (nI (pcn M + 1)) := wIs
  have e1 : sI (mput M x y) 721 (sN M 30) = nI (pcn M + 1) := by rw [e721]; exact if_pos rfl
  refine ⟨?_, e1, (wIo (by decide)).trans ((wIo (by decide)).trans wIs), (wIo (by decide)).trans wIs, fun m a b c => (wIo a).trans ((wIo c).trans (wIo b)), rfl⟩
  show (sI (mput M x y) 721 (sN M 30)).toNatClampNeg = _
  rw [e1, nI_clamp (by omega)]
theorem cdR.put {C M : ST} {r k : Nat} (h : cdR C M r (k + 1)) (x y : Int32) : cdR (putO C x y) (mput M (cm x) y) r k := by
  obtain ⟨h1, h2, h3, h4, h5, h6, h7⟩ := h
  obtain ⟨p1, p2, p3, p4, p5⟩ := putO_st (C := C) (x := x) (y := y) (by omega)
  obtain ⟨q1, q2, q3, q4, q5, q6⟩ := mput_st (x := cm x) (y := y) h2 (by omega)
  refine ⟨by omega, by rw [q6]; exact h2, by rw [q2, q1], fun i hi => ?_, by rw [p5 13 (by decide), q6]; exact h5, fun i hi => ?_, by rw [p3, p5 13 (by decide)]; omega⟩
  · rw [p1, p2, q3, q4, ← h1]
    unfold upd
    by_cases e : i = sN C 12
    · subst e
      simp
    · rw [if_neg (show ¬ 90 * r + i = 90 * r + sN C 12 by omega), if_neg (show ¬ 90 * r + i = 90 * r + sN C 12 by omega), if_neg e, if_neg e]
      exact h4 i (by omega)
  · rw [p4 19 (by decide) (by decide), q5 737 (by decide) (by decide) (by decide)]
    rw [p5 13 (by decide)] at hi
    exact h6 i hi
theorem cdR.off {C M : ST} {r k d : Nat} (h : cdR C M r (k + 1)) (hd : d < 13) : cdR (offO C (nI d)) (mwai M (cm (nI d))) r k := by
  obtain ⟨h1, h2, h3, h4, h5, h6, h7⟩ := h
  obtain ⟨p1, p2, p3, p4⟩ := offO_st (C := C) (x := nI d) (by omega)
  have e30 : sN (mwai M (cm (nI d))) 30 = sN M 30 := wN_ne (by decide)
  have eI : ∀ m, m ≠ 737 → sI (mwai M (cm (nI d))) m = sI M m := fun m hm => wIo hm
  have ep : pcn (mwai M (cm (nI d))) = pcn M := by
    show (sI (mwai M (cm (nI d))) 721 (sN (mwai M (cm (nI d))) 30)).toNatClampNeg = _
    rw [eI 721 (by decide), e30]
    rfl
  have e737 : sI (mwai M (cm (nI d))) 737 = upd (sI M 737) (sN M 31) (cm (nI d)) := by unfold mwai; rw [wNI, wIs]
  refine ⟨by rw [p4 12 (by decide), ep]; exact h1, by rw [e30]; exact h2, by rw [eI 721 (by decide), ep]; exact h3, fun i hi => ?_, by rw [p2]; show _ = sN (wN _ 31 _) 31; rw [wN_self]; omega, fun i hi => ?_, by rw [p2, p4 12 (by decide)]; omega⟩
  · rw [eI 722 (by decide), eI 723 (by decide), p3 17 (by decide), p3 18 (by decide)]
    rw [p4 12 (by decide)] at hi
    exact h4 i hi
  · rw [e737, p1, ← h5]
    unfold upd
    by_cases e : i = sN C 13
    · rw [if_pos e, if_pos e]
      exact ⟨rfl, d, hd, rfl⟩
    · rw [if_neg e, if_neg e]
      exact h6 i (by omega)
theorem cdR.N {C M C' M' : ST} {r k : Nat} (h : cdR C M r k) (h12 : sN C' 12 = sN C 12) (h13 : sN C' 13 = sN C 13) (hI : ∀ m, m = 17 ∨ m = 18 ∨ m = 19 → sI C' m = sI C m) (h30 : sN M' 30 = sN M 30) (h31 : sN M' 31 = sN M 31) (hJ : ∀ m, m = 721 ∨ m = 722 ∨ m = 723 ∨ m = 737 → sI M' m = sI M m) : cdR C' M' r k := by
  obtain ⟨a1, a2, a3, a4, a5, a6, a7⟩ := h
  have ep : pcn M' = pcn M := by
    show (sI M' 721 (sN M' 30)).toNatClampNeg = _
    rw [hJ 721 (by omega), h30]
    rfl
  refine ⟨by omega, by omega, by rw [hJ 721 (by omega), ep]; exact a3, fun i hi => ?_, by omega, fun i hi => ?_, by omega⟩
  · rw [hJ 722 (by omega), hJ 723 (by omega), hI 17 (by omega), hI 18 (by omega)]
    exact a4 i (by omega)
  · rw [hJ 737 (by omega), hI 19 (by omega)]
    exact a6 i (by omega)
theorem cdR.pod {x y : Int32} {r k : Nat} (hxy : ∀ d, d < 13 → (stg (nI d) < stg x ↔ mrk (cm (nI d)) < y)) : ∀ (n : Nat) (C M : ST), cdR C M r k → sN C 13 = n → cdR (podF x n C) (mrel y n M) r k
  | 0, C, M, h, _ => h
  | n + 1, C, M, h, hn => by
    obtain ⟨h1, h2, h3, h4, h5, h6, h7⟩ := id h
    obtain ⟨e1, d, hd, e2⟩ := h6 n (by omega)
    unfold podF mrel
    rw [e1, e2]
    by_cases hc : stg (nI d) < stg x
    · rw [if_pos hc, if_pos ((hxy d hd).mp hc)]
      exact h
    · rw [if_neg hc, if_neg (fun z => hc ((hxy d hd).mpr z))]
      have h' : cdR (wN C 13 n) (wN M 31 n) r (k + 1) := by
        have ep : pcn (wN M 31 n) = pcn M := by
          show (sI M 721 (sN (wN M 31 n) 30)).toNatClampNeg = _
          rw [wN_ne (by decide)]
          rfl
        refine ⟨by rw [wN_ne (by decide), ep]; exact h1, by rw [wN_ne (by decide)]; exact h2, by rw [ep]; exact h3, fun i hi => h4 i (by rw [wN_ne (by decide)] at hi; exact hi), by rw [wN_self, wN_self], fun i hi => h6 i (by rw [wN_self] at hi; omega), by rw [wN_self, wN_ne (by decide)]; omega⟩
      refine cdR.pod hxy n _ _ (h'.put (nI d) 0) ?_
      have h12 : sN (wN C 13 n) 12 = sN C 12 := wN_ne (by decide)
      rw [(putO_st (C := wN C 13 n) (x := nI d) (y := 0) (by omega)).2.2.2.2 13 (by decide), wN_self]
theorem stg_mrk {x : Int32} (hx : ∃ e, 0 < e ∧ e < 13 ∧ x = nI e) : ∀ d, d < 13 → (stg (nI d) < stg x ↔ mrk (cm (nI d)) < mrk (cm x)) := by
  obtain ⟨e, h0, h1, rfl⟩ := hx
  have key : ∀ e, e < 13 → 0 < e → ∀ d, d < 13 → (stg (nI d) < stg (nI e) ↔ mrk (cm (nI d)) < mrk (cm (nI e))) := by decide +kernel
  exact key e h1 h0
