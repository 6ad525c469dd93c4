/-! told rules: class and reference work out the same -/
def cm (x : Int32) : Int32 := if x = 0 then 22 else if x = 1 then 21 else if x = 2 then 20 else if x = 3 then 19 else if x = 4 then 13 else if x = 5 then 14 else if x = 6 then 15 else if x = 7 then 16 else if x = 8 then 18 else if x = 9 then 17 else if x = 10 then 11 else if x = 11 then 12 else if x = 12 then 10 else if x = 13 then 0 else if x = 14 then 1 else if x = 15 then 2 else if x = 16 then 3 else if x = 17 then 4 else if x = 18 then 5 else 6
def tmOK (s x y : Int32) : Prop := x = 13 ∨ x = 18 ∨ (x = 14 ∧ ¬ s = 1 ∧ ¬ y < 0 ∧ ¬ 8 ≤ y) ∨ (x = 15 ∧ ¬ s = 2) ∨ (x = 16 ∧ s = 2) ∨ (x = 17 ∧ ¬ s = 0) ∨ (x = 19 ∧ ¬ s = 2 ∧ ∃ d, d < 10 ∧ y = nI d)
def ty1 (s x y : Int32) (l m : List Bool) : Prop := (tmOK s x y ∧ m = false :: l) ∨ (x = 3 ∧ ∃ r, l = true :: r ∧ m = true :: r) ∨ ((x = 1 ∨ x = 2) ∧ ∃ r, l = true :: true :: r ∧ m = true :: r) ∨ ((¬ x < 4 ∧ ¬ 9 < x) ∧ ∃ r, l = false :: false :: r ∧ m = true :: r) ∨ ((¬ x < 10 ∧ ¬ 12 < x) ∧ ∃ r, l = false :: false :: r ∧ m = false :: r)
/-- the types on the stack after the first n codes -/
def tyR (s : Int32) (cs xs : Nat → Int32) : Nat → List Bool → Prop
  | 0, l => l = []
  | n + 1, m => ∃ l, tyR s cs xs n l ∧ ty1 s (cs n) (xs n) l m
def okT : List Bool → List Int64 → Prop
  | [], [] => True
  | b :: t, v :: l => (b = true → v = 0 ∨ v = 1) ∧ okT t l
  | _, _ => False
theorem okT_len : ∀ {t : List Bool} {l : List Int64}, okT t l → l.length = t.length
  | [], [], _ => rfl
  | _ :: _, _ :: _, h => by simp [okT_len h.2]
  | [], _ :: _, h => h.elim
  | _ :: _, [], h => h.elim
theorem evl_snoc {v : Int32 → Int32 → Int64} {cs xs : Nat → Int32} : ∀ (n i : Nat) (s : Nat × (Nat → Int64)), evl v cs xs (n + 1) i s = stp v (cs (i + n)) (xs (i + n)) (evl v cs xs n i s).1 (evl v cs xs n i s).2
  | 0, i, s => rfl
  | n + 1, i, s => by
    show evl v cs xs (n + 1) (i + 1) _ = stp v _ _ (evl v cs xs n (i + 1) _).1 (evl v cs xs n (i + 1) _).2
    rw [evl_snoc n (i + 1), show i + 1 + n = i + (n + 1) by omega]
def rpS1 (S : ST) (s : Int32) (k i : Nat) (l : List Int64) : Option (List Int64) := rpR S s k 1 i l
theorem rpR_snoc {S : ST} {s : Int32} {k : Nat} : ∀ (n i : Nat) (l m : List Int64), rpR S s k n i l = some m → rpR S s k (n + 1) i l = rpS1 S s k (i + n) m
  | 0, i, l, m, h => by
    cases h
    rfl
  | n + 1, i, l, m, h => by
    unfold rpR at h ⊢
    split at h
    · rename_i h1
      split at h
      · rename_i h2
        rw [if_pos h1, if_pos h2, rpR_snoc n (i + 1) _ m h, show i + 1 + n = i + (n + 1) by omega]
      · cases h
    · rename_i h1
      rw [if_neg h1]
      split at h
      · rename_i h2
        rw [if_pos h2]
        cases l with
        | nil => cases h
        | cons a r => exact (rpR_snoc n (i + 1) _ m h).trans (by rw [show i + 1 + n = i + (n + 1) by omega])
      · rename_i h2
        rw [if_neg h2]
        match l, h with
        | b :: a :: r, h => exact (rpR_snoc n (i + 1) _ m h).trans (by rw [show i + 1 + n = i + (n + 1) by omega])
theorem i32_4_9 {x : Int32} (h : ¬ x < 4 ∧ ¬ 9 < x) : x = 4 ∨ x = 5 ∨ x = 6 ∨ x = 7 ∨ x = 8 ∨ x = 9 := by
  obtain ⟨h1, h2⟩ := h
  rw [Int32.lt_iff_toInt_lt, show (4 : Int32).toInt = 4 by decide] at h1
  rw [Int32.lt_iff_toInt_lt, show (9 : Int32).toInt = 9 by decide] at h2
  have e : x.toInt = 4 ∨ x.toInt = 5 ∨ x.toInt = 6 ∨ x.toInt = 7 ∨ x.toInt = 8 ∨ x.toInt = 9 := by omega
  rcases e with e | e | e | e | e | e
  · exact Or.inl (Int32.toInt_inj.mp (e.trans (by decide)))
  · exact Or.inr (Or.inl (Int32.toInt_inj.mp (e.trans (by decide))))
  · exact Or.inr (Or.inr (Or.inl (Int32.toInt_inj.mp (e.trans (by decide)))))
  · exact Or.inr (Or.inr (Or.inr (Or.inl (Int32.toInt_inj.mp (e.trans (by decide))))))
  · exact Or.inr (Or.inr (Or.inr (Or.inr (Or.inl (Int32.toInt_inj.mp (e.trans (by decide)))))))
  · exact Or.inr (Or.inr (Or.inr (Or.inr (Or.inr (Int32.toInt_inj.mp (e.trans (by decide)))))))
theorem i32_10_12 {x : Int32} (h : ¬ x < 10 ∧ ¬ 12 < x) : x = 10 ∨ x = 11 ∨ x = 12 := by
  obtain ⟨h1, h2⟩ := h
  rw [Int32.lt_iff_toInt_lt, show (10 : Int32).toInt = 10 by decide] at h1
  rw [Int32.lt_iff_toInt_lt, show (12 : Int32).toInt = 12 by decide] at h2
  have e : x.toInt = 10 ∨ x.toInt = 11 ∨ x.toInt = 12 := by omega
  rcases e with e | e | e
  · exact Or.inl (Int32.toInt_inj.mp (e.trans (by decide)))
  · exact Or.inr (Or.inl (Int32.toInt_inj.mp (e.trans (by decide))))
  · exact Or.inr (Or.inr (Int32.toInt_inj.mp (e.trans (by decide))))
theorem wo_sg {x : Int32} (h : ¬ x < 4 ∧ ¬ 9 < x) (a b : Int64) : wo x a b = rsl (cm x) a b ∧ (wo x a b = 0 ∨ wo x a b = 1) ∧ (x < 13 ∧ ¬ x = 3) ∧ ¬ cm x < 10 ∧ ¬ cm x = 19 := by
  have tz : ∀ (c : Prop) [Decidable c], tl c = zl c := fun c _ => rfl
  have t01 : ∀ (c : Prop) [Decidable c], tl c = 0 ∨ tl c = 1 := fun c _ => by unfold tl; split <;> simp
  rcases i32_4_9 h with rfl | rfl | rfl | rfl | rfl | rfl
  · have e1 : wo 4 a b = tl (a = b) := by simp [wo]
    have e2 : rsl 13 a b = zl (a = b) := by simp [rsl]
    rw [show cm 4 = 13 by decide, e1, e2]
    exact ⟨tz _, t01 _, by decide, by decide, by decide⟩
  · have e1 : wo 5 a b = tl (¬ a = b) := by simp [wo]
    have e2 : rsl 14 a b = zl (¬ a = b) := by simp [rsl]
    rw [show cm 5 = 14 by decide, e1, e2]
    exact ⟨tz _, t01 _, by decide, by decide, by decide⟩
  · have e1 : wo 6 a b = tl (a < b) := by simp [wo]
    have e2 : rsl 15 a b = zl (a < b) := by simp [rsl]
    rw [show cm 6 = 15 by decide, e1, e2]
    exact ⟨tz _, t01 _, by decide, by decide, by decide⟩
  · have e1 : wo 7 a b = tl (b < a) := by simp [wo]
    have e2 : rsl 16 a b = zl (b < a) := by simp [rsl]
    rw [show cm 7 = 16 by decide, e1, e2]
    exact ⟨tz _, t01 _, by decide, by decide, by decide⟩
  · have e1 : wo 8 a b = tl (a ≤ b) := by simp [wo]
    have e2 : rsl 18 a b = zl (a ≤ b) := by simp [rsl]
    rw [show cm 8 = 18 by decide, e1, e2]
    exact ⟨tz _, t01 _, by decide, by decide, by decide⟩
  · have e1 : wo 9 a b = tl (b ≤ a) := by simp [wo]
    have e2 : rsl 17 a b = zl (b ≤ a) := by simp [rsl]
    rw [show cm 9 = 17 by decide, e1, e2]
    exact ⟨tz _, t01 _, by decide, by decide, by decide⟩
theorem wo_ar {x : Int32} (h : ¬ x < 10 ∧ ¬ 12 < x) (a b : Int64) : wo x a b = rsl (cm x) a b ∧ (x < 13 ∧ ¬ x = 3) ∧ ¬ cm x < 10 ∧ ¬ cm x = 19 := by
  rcases i32_10_12 h with rfl | rfl | rfl
  · have e1 : wo 10 a b = a + b := by simp [wo]
    have e2 : rsl 11 a b = a + b := by simp [rsl]
    rw [show cm 10 = 11 by decide, e1, e2]
    exact ⟨rfl, by decide, by decide, by decide⟩
  · have e1 : wo 11 a b = a - b := by simp [wo]
    have e2 : rsl 12 a b = a - b := by simp [rsl]
    rw [show cm 11 = 12 by decide, e1, e2]
    exact ⟨rfl, by decide, by decide, by decide⟩
  · have e1 : wo 12 a b = a * b := by simp [wo]
    have e2 : rsl 10 a b = a * b := by simp [rsl]
    rw [show cm 12 = 10 by decide, e1, e2]
    exact ⟨rfl, by decide, by decide, by decide⟩
theorem wo_jo {x : Int32} (h : x = 1 ∨ x = 2) {a b : Int64} (ha : a = 0 ∨ a = 1) (hb : b = 0 ∨ b = 1) : wo x a b = rsl (cm x) a b ∧ (wo x a b = 0 ∨ wo x a b = 1) ∧ (x < 13 ∧ ¬ x = 3) ∧ ¬ cm x < 10 ∧ ¬ cm x = 19 := by
  rcases h with rfl | rfl
  · rcases ha with rfl | rfl
    · rcases hb with rfl | rfl
      · decide
      · decide
    · rcases hb with rfl | rfl
      · decide
      · decide
  · rcases ha with rfl | rfl
    · rcases hb with rfl | rfl
      · decide
      · decide
    · rcases hb with rfl | rfl
      · decide
      · decide
theorem tmOK_cm {s x y : Int32} (h : tmOK s x y) : ¬ x < 13 ∧ cm x < 10 ∧ (cm x = 1 → ¬ y < 0 ∧ ¬ 8 ≤ y) := by
  rcases h with rfl | rfl | ⟨rfl, -, h⟩ | ⟨rfl, -⟩ | ⟨rfl, -⟩ | ⟨rfl, -⟩ | ⟨rfl, -⟩
  · exact ⟨by decide, by decide, fun z => absurd z (by decide)⟩
  · exact ⟨by decide, by decide, fun z => absurd z (by decide)⟩
  · exact ⟨by decide, by decide, fun _ => h⟩
  · exact ⟨by decide, by decide, fun z => absurd z (by decide)⟩
  · exact ⟨by decide, by decide, fun z => absurd z (by decide)⟩
  · exact ⟨by decide, by decide, fun z => absurd z (by decide)⟩
  · exact ⟨by decide, by decide, fun z => absurd z (by decide)⟩
theorem stk_push {g : Nat → Int64} {l : List Int64} (h : stk g l) (v : Int64) : stk (vp_updL g l.length v) (v :: l) := by
  intro j hj
  unfold vp_updL
  by_cases e : j = l.length
  · subst e
    rw [if_pos rfl]
    simp
  · rw [if_neg e]
    have hj' : j < l.length := by simp at hj; omega
    rw [h j hj', show (v :: l).length - 1 - j = (l.length - 1 - j) + 1 by simp; omega]
    simp
theorem stk_tail {g : Nat → Int64} {l : List Int64} {a : Int64} (h : stk g (a :: l)) : stk g l ∧ g l.length = a := by
  refine ⟨fun j hj => ?_, ?_⟩
  · have h1 := h j (by simp; omega)
    rw [show (a :: l).length - 1 - j = (l.length - 1 - j) + 1 by simp; omega] at h1
    simpa using h1
  · have h1 := h l.length (by simp)
    simpa using h1
theorem stk_top {g : Nat → Int64} {l : List Int64} (h : stk g l) (v : Int64) (n : Nat) (hn : n = l.length) : stk (vp_updL g n v) (v :: l) := by
  subst hn
  exact stk_push h v
/-- one code: the class's stack and the reference's go on alike -/
theorem ev1 {S : ST} {s : Int32} {k i : Nat} {v : Int32 → Int32 → Int64} {x y : Int32} {t u : List Bool} {l : List Int64} {f : Nat → Int64} (ht : ty1 s x y t u) (ho : okT t l) (hs : stk f l) (h80 : l.length < 80) (hc : sI S 722 i = cm x) (hx : sI S 723 i = y) (hv : tmOK s x y → (if x = 13 then y.toInt64 else v x y) = tmR S (cm x) y s k) : ∃ l', okT u l' ∧ rpS1 S s k i l = some l' ∧ (stp v x y l.length f).1 = l'.length ∧ stk (stp v x y l.length f).2 l' ∧ l'.length ≤ l.length + 1 := by
  unfold rpS1
  unfold rpR
  rw [hc, hx]
  rcases ht with ⟨h1, rfl⟩ | ⟨rfl, r, rfl, rfl⟩ | ⟨h1, r, rfl, rfl⟩ | ⟨h1, r, rfl, rfl⟩ | ⟨h1, r, rfl, rfl⟩
  · obtain ⟨h2, h3, h4⟩ := tmOK_cm h1
    refine ⟨tmR S (cm x) y s k :: l, ⟨fun z => (by cases z), ho⟩, ?_, ?_, ?_, by simp⟩
    · rw [if_pos h3, if_pos ⟨by omega, h4⟩]
      rfl
    · unfold stp
      rw [if_neg h2, if_pos h80]
      rfl
    · unfold stp
      rw [if_neg h2, if_pos h80]
      show stk (vp_updL f l.length _) _
      rw [hv h1]
      exact stk_push hs _
  · match l, ho with
    | a :: m, ho =>
      refine ⟨zl (a = 0) :: m, ⟨fun _ => ?_, ho.2⟩, ?_, ?_, ?_, by simp⟩
      · unfold zl; split <;> simp
      · rw [if_neg (by decide), if_pos (by decide)]
        rfl
      · unfold stp
        rw [if_pos (by decide), if_pos rfl, if_neg (by simp)]
        rfl
      · unfold stp
        rw [if_pos (by decide), if_pos rfl, if_neg (by simp)]
        obtain ⟨q1, q2⟩ := stk_tail hs
        show stk (vp_updL f ((a :: m).length - 1) (tl (f ((a :: m).length - 1) = 0))) _
        simp only [List.length_cons, Nat.add_sub_cancel, q2]
        exact stk_top q1 _ _ rfl
  · match l, ho with
    | b :: a :: m, ho =>
      obtain ⟨e1, e2, ⟨e3, e4⟩, e5, e6⟩ := wo_jo h1 (ho.2.1 rfl) (ho.1 rfl)
      obtain ⟨q1, q2⟩ := stk_tail hs
      obtain ⟨q3, q4⟩ := stk_tail q1
      refine ⟨wo x a b :: m, ⟨fun _ => e2, ho.2.2⟩, ?_, ?_, ?_, by simp⟩
      · rw [if_neg e5, if_neg e6, e1]
        rfl
      · unfold stp
        rw [if_pos e3, if_neg e4, if_neg (by simp)]
        rfl
      · unfold stp
        rw [if_pos e3, if_neg e4, if_neg (by simp)]
        show stk (vp_updL f ((b :: a :: m).length - 2) (wo x (f ((b :: a :: m).length - 2)) (f ((b :: a :: m).length - 1)))) _
        simp only [List.length_cons, Nat.add_sub_cancel] at q2 q4 ⊢
        rw [show m.length + 1 + 1 - 2 = m.length by omega, q2, q4]
        exact stk_top q3 _ _ rfl
  · match l, ho with
    | b :: a :: m, ho =>
      obtain ⟨e1, e2, ⟨e3, e4⟩, e5, e6⟩ := wo_sg h1 a b
      obtain ⟨q1, q2⟩ := stk_tail hs
      obtain ⟨q3, q4⟩ := stk_tail q1
      refine ⟨wo x a b :: m, ⟨fun _ => e2, ho.2.2⟩, ?_, ?_, ?_, by simp⟩
      · rw [if_neg e5, if_neg e6, e1]
        rfl
      · unfold stp
        rw [if_pos e3, if_neg e4, if_neg (by simp)]
        rfl
      · unfold stp
        rw [if_pos e3, if_neg e4, if_neg (by simp)]
        show stk (vp_updL f ((b :: a :: m).length - 2) (wo x (f ((b :: a :: m).length - 2)) (f ((b :: a :: m).length - 1)))) _
        simp only [List.length_cons, Nat.add_sub_cancel] at q2 q4 ⊢
        rw [show m.length + 1 + 1 - 2 = m.length by omega, q2, q4]
        exact stk_top q3 _ _ rfl
  · match l, ho with
    | b :: a :: m, ho =>
      obtain ⟨e1, ⟨e3, e4⟩, e5, e6⟩ := wo_ar h1 a b
      obtain ⟨q1, q2⟩ := stk_tail hs
      obtain ⟨q3, q4⟩ := stk_tail q1
      refine ⟨wo x a b :: m, ⟨fun z => (by cases z), ho.2.2⟩, ?_, ?_, ?_, by simp⟩
      · rw [if_neg e5, if_neg e6, e1]
        rfl
      · unfold stp
        rw [if_pos e3, if_neg e4, if_neg (by simp)]
        rfl
      · unfold stp
        rw [if_pos e3, if_neg e4, if_neg (by simp)]
        show stk (vp_updL f ((b :: a :: m).length - 2) (wo x (f ((b :: a :: m).length - 2)) (f ((b :: a :: m).length - 1)))) _
        simp only [List.length_cons, Nat.add_sub_cancel] at q2 q4 ⊢
        rw [show m.length + 1 + 1 - 2 = m.length by omega, q2, q4]
        exact stk_top q3 _ _ rfl
theorem evN {S : ST} {s : Int32} {k b : Nat} {v : Int32 → Int32 → Int64} {cs xs : Nat → Int32} {f : Nat → Int64} : ∀ (n : Nat) (u : List Bool), tyR s cs xs n u → n ≤ 80 → (∀ j, j < n → sI S 722 (b + j) = cm (cs j) ∧ sI S 723 (b + j) = xs j) → (∀ x y, tmOK s x y → (if x = 13 then y.toInt64 else v x y) = tmR S (cm x) y s k) → ∃ l, okT u l ∧ rpR S s k n b [] = some l ∧ (evl v cs xs n 0 (0, f)).1 = l.length ∧ stk (evl v cs xs n 0 (0, f)).2 l ∧ l.length ≤ n
  | 0, u, h, _, _, _ => by
    rw [h]
    exact ⟨[], trivial, rfl, rfl, fun j hj => by simp at hj, by simp⟩
  | n + 1, u, h, hn, hc, hv => by
    obtain ⟨t, h1, h2⟩ := h
    obtain ⟨l, a1, a2, a3, a4, a5⟩ := evN n t h1 (by omega) (fun j hj => hc j (by omega)) hv
    obtain ⟨l', b1, b2, b3, b4, b5⟩ := ev1 (S := S) (k := k) (i := b + n) (v := v) (f := (evl v cs xs n 0 (0, f)).2) h2 a1 a4 (by omega) (hc n (by omega)).1 (hc n (by omega)).2 (hv _ _)
    refine ⟨l', b1, ?_, ?_, ?_, by omega⟩
    · rw [rpR_snoc n b [] l a2]
      exact b2
    · rw [evl_snoc, a3, Nat.zero_add]
      exact b3
    · rw [evl_snoc, a3, Nat.zero_add]
      exact b4
