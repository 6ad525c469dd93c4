/-! The reference: what reading keeps -/
theorem skS_32 {f : Nat → Int32} : ∀ {n i : Nat}, f i = 32 → 0 < n → i + 1 ≤ skS f n i
  | 0, i, _, h => absurd h (by omega)
  | n + 1, i, h, _ => by
    unfold skS
    rw [if_pos h]
    exact skS_le.1
theorem skW_end {f : Nat → Int32} : ∀ {n i : Nat}, skW f n i = i + n ∨ f (skW f n i) = 32
  | 0, i => Or.inl rfl
  | n + 1, i => by
    unfold skW
    split
    · exact Or.inr (by assumption)
    · rcases skW_end (f := f) (n := n) (i := i + 1) with h | h
      · exact Or.inl (by omega)
      · exact Or.inr h
theorem mE_end {S : ST} (h : sN S 28 ≤ sN S 24) : mE S = sN S 24 ∨ sI S 716 (mE S) = 32 := by
  have h1 := skS_le (f := sI S 716) (n := sN S 24 - sN S 28) (i := sN S 28)
  rcases skW_end (f := sI S 716) (n := sN S 24 - mP S) (i := mP S) with h9 | h9
  · left
    unfold mE
    rw [h9]
    unfold mP
    omega
  · exact Or.inr h9
def z0 (f : Nat → Int32) : Nat → Nat
  | 0 => 0
  | n + 1 => z0 f n + if mrk (f n) < 1 then 1 else 0
theorem z0_cg {f g : Nat → Int32} : ∀ {n : Nat}, (∀ j, j < n → f j = g j) → z0 f n = z0 g n
  | 0, _ => rfl
  | n + 1, h => by
    unfold z0
    rw [z0_cg (n := n) (fun j hj => h j (by omega)), h n (by omega)]
/-- what holds while reading rule r, k words being ahead of the signs -/
def jI (S : ST) (r k : Nat) : Prop := (sN S 24 ≤ 160 ∧ sN S 28 ≤ sN S 24 ∧ sN S 30 = r ∧ sI S 721 r = nI (pcn S)) ∧ (pcn S + sN S 31 + k ≤ sN S 29 ∧ 2 * sN S 29 ≤ sN S 28 + 1 ∧ (sN S 29 = 0 ∨ sN S 28 = sN S 24 ∨ sI S 716 (sN S 28) = 32)) ∧ z0 (sI S 737) (sN S 31) = sN S 32
theorem jI.b {S : ST} {r k : Nat} (h : jI S r k) : sN S 29 ≤ 80 := by
  have h1 := h.1.1; have h2 := h.1.2.1; have h3 := h.2.1.2.1
  omega
theorem jI.q {S : ST} {r k : Nat} (h : jI S r k) (hr : r < 20) : mQ S := by
  have h1 := h.b; have h2 := h.2.1.1
  refine ⟨by rw [h.1.2.2.1]; exact hr, by omega, by rw [h.1.2.2.1]; exact h.1.2.2.2⟩
/-- nothing that jI reads but words and place -/
theorem jI.cg {S S' : ST} {r k k' : Nat} (h : jI S r k) (h0 : ∀ m, m = 24 ∨ m = 28 ∨ m = 29 ∨ m = 30 → sN S' m = sN S m) (h1 : sI S' 716 = sI S 716) (h2 : sI S' 721 r = nI (pcn S')) (h3 : pcn S' + sN S' 31 + k' ≤ pcn S + sN S 31 + k) (h4 : z0 (sI S' 737) (sN S' 31) = sN S' 32) : jI S' r k' := by
  unfold jI
  rw [h0 24 (by decide), h0 28 (by decide), h0 29 (by decide), h0 30 (by decide), h1]
  exact ⟨⟨h.1.1, h.1.2.1, h.1.2.2.1, h2⟩, ⟨by have := h.2.1.1; omega, h.2.1.2⟩, h4⟩
theorem jI.put {S : ST} {r k : Nat} {x y : Int32} (h : jI S r (k + 1)) : jI (mput S x y) r k := by
  have hp : pcn S ≤ 90 := by have := h.b; have := h.2.1.1; omega
  have e1 := mput_721 (S := S) (x := x) (y := y) hp
  have e2 := mput_pcn (S := S) (x := x) (y := y) hp
  have e3 : sN (mput S x y) 30 = r := h.1.2.2.1
  rw [e3] at e1
  refine h.cg (fun m _ => rfl) rfl e1 ?_ h.2.2
  rw [e2]
  show pcn S + 1 + sN S 31 + k ≤ _
  omega
theorem jI.wai {S : ST} {r k : Nat} {x : Int32} (h : jI S r (k + 1)) (hx : ¬ mrk x < 1) : jI (mwai S x) r k := by
  refine h.cg (fun m hm => wN_ne (by omega)) rfl h.1.2.2.2 ?_ ?_
  · show pcn S + va_up S.2.2.2 31 (sN S 31 + 1) 31 + k ≤ _
    rw [va_up_self]
    omega
  · show z0 (upd (sI S 737) (sN S 31) x) (va_up S.2.2.2 31 (sN S 31 + 1) 31) = sN S 32
    rw [va_up_self, z0, show upd (sI S 737) (sN S 31) x (sN S 31) = x from if_pos rfl, if_neg hx, ← h.2.2]
    exact z0_cg (fun j hj => if_neg (by omega))
theorem jI.opn {S : ST} {r k : Nat} (h : jI S r (k + 1)) : jI (wN (mwai S 22) 32 (sN (mwai S 22) 32 + 1)) r k := by
  refine h.cg (fun m hm => by rw [wN_ne (by omega)]; exact wN_ne (by omega)) rfl h.1.2.2.2 ?_ ?_
  · rw [wN_ne (by decide)]
    show pcn S + va_up S.2.2.2 31 (sN S 31 + 1) 31 + k ≤ _
    rw [va_up_self]
    omega
  · rw [wN_self, wN_ne (by decide)]
    show z0 (upd (sI S 737) (sN S 31) 22) (va_up S.2.2.2 31 (sN S 31 + 1) 31) = va_up S.2.2.2 31 (sN S 31 + 1) 32 + 1
    rw [va_up_self, va_up_ne _ _ (by decide), z0, show upd (sI S 737) (sN S 31) 22 (sN S 31) = 22 from if_pos rfl, if_pos (by decide)]
    rw [z0_cg (f := upd (sI S 737) (sN S 31) 22) (g := sI S 737) (n := sN S 31) (fun j hj => if_neg (by omega)), h.2.2]
/-- releasing -/
theorem mrel_keep {x : Int32} (hx : 1 ≤ x) : ∀ n S, sN S 31 = n → (sI (mrel x n S) 737 = sI S 737 ∧ sI (mrel x n S) 716 = sI S 716 ∧ sI (mrel x n S) 600 = sI S 600 ∧ sI (mrel x n S) 719 = sI S 719 ∧ sI (mrel x n S) 720 = sI S 720) ∧ z0 (sI S 737) (sN (mrel x n S) 31) = z0 (sI S 737) n ∧ (sN (mrel x n S) 31 = 0 ∨ mrk (sI S 737 (sN (mrel x n S) 31 - 1)) < x)
  | 0, S, h => ⟨⟨rfl, rfl, rfl, rfl, rfl⟩, by rw [mrel, h], Or.inl h⟩
  | n + 1, S, h => by
    unfold mrel
    split
    · next hl => exact ⟨⟨rfl, rfl, rfl, rfl, rfl⟩, by rw [h], Or.inr (by rw [h]; exact hl)⟩
    · next hl =>
      obtain ⟨a, b, c⟩ := mrel_keep hx n (mput (wN S 31 n) (sI S 737 n) 0) (show sN (wN S 31 n) 31 = n from wN_self)
      refine ⟨a, b.trans ?_, c⟩
      show z0 (sI S 737) n = z0 (sI S 737) (n + 1)
      rw [z0, if_neg (fun z => hl (Int32.lt_of_lt_of_le z hx)), Nat.add_zero]
theorem mrel_pc {x : Int32} {r : Nat} : ∀ n S, sN S 31 = n → sN S 30 = r → pcn S + n ≤ 89 → sI S 721 r = nI (pcn S) → pcn (mrel x n S) + sN (mrel x n S) 31 = pcn S + n ∧ sI (mrel x n S) 721 r = nI (pcn (mrel x n S))
  | 0, S, h, _, _, h7 => ⟨by rw [mrel, h], h7⟩
  | n + 1, S, h, h3, hb, h7 => by
    unfold mrel
    split
    · exact ⟨by rw [h], h7⟩
    · have hp : pcn (wN S 31 n) ≤ 90 := by show pcn S ≤ 90; omega
      have e2 := mput_pcn (S := wN S 31 n) (x := sI S 737 n) (y := 0) hp
      have e1 := mput_721 (S := wN S 31 n) (x := sI S 737 n) (y := 0) hp
      have e0 : pcn (wN S 31 n) = pcn S := rfl
      have e3 : sN (mput (wN S 31 n) (sI S 737 n) 0) 30 = r := h3
      rw [e3] at e1
      obtain ⟨a, b⟩ := mrel_pc (x := x) (r := r) n (mput (wN S 31 n) (sI S 737 n) 0) (show sN (wN S 31 n) 31 = n from wN_self) e3 (by omega) e1
      exact ⟨by omega, b⟩
theorem jI.rel {S : ST} {r k : Nat} {x : Int32} (h : jI S r k) (hx : 1 ≤ x) : jI (mrel x (sN S 31) S) r k := by
  have hb : pcn S + sN S 31 ≤ 89 := by have := h.b; have := h.2.1.1; omega
  obtain ⟨a, b, -⟩ := mrel_keep hx (sN S 31) S rfl
  obtain ⟨c, d⟩ := mrel_pc (x := x) (r := r) (sN S 31) S rfl h.1.2.2.1 hb h.1.2.2.2
  refine h.cg (fun m hm => (mrel_R _ S).2 m (by omega)) a.2.1 d (by omega) ?_
  rw [a.1, b, (mrel_R _ S).2 32 (by decide)]
  exact h.2.2
theorem jI.ho {S : ST} {r k : Nat} (h : jI S r k) : 0 < sN S 32 → 0 < sN (mrel 1 (sN S 31) S) 31 := by
  intro h0
  have h1 := (h.rel (x := 1) (by decide)).2.2
  rw [(mrel_R _ S).2 32 (by decide)] at h1
  refine Nat.pos_of_ne_zero fun z => ?_
  rw [z] at h1
  have : (0 : Nat) = sN S 32 := h1
  omega
theorem jI.cls {S : ST} {r k : Nat} (h : jI S r k) (h0 : 0 < sN S 32) : jI (wN (wN (mrel 1 (sN S 31) S) 31 (sN (mrel 1 (sN S 31) S) 31 - 1)) 32 (sN (mrel 1 (sN S 31) S) 32 - 1)) r k := by
  have hp := h.ho h0
  have h1 := h.rel (x := 1) (by decide)
  obtain ⟨a, -, c⟩ := mrel_keep (x := 1) (by decide) (sN S 31) S rfl
  have e32 : sN (mrel 1 (sN S 31) S) 32 = sN S 32 := (mrel_R _ S).2 32 (by decide)
  rw [← a.1] at c
  generalize mrel 1 (sN S 31) S = T at *
  refine h1.cg (fun m hm => by rw [wN_ne (by omega)]; exact wN_ne (by omega)) rfl h1.1.2.2.2 ?_ ?_
  · rw [wN_ne (by decide), wN_self]
    show pcn T + _ + k ≤ _
    omega
  · rw [wN_self, wN_ne (by decide), wN_self]
    show z0 (sI T 737) _ = _
    have h9 := h1.2.2
    rcases c with c | c
    · omega
    · rw [show sN T 31 = (sN T 31 - 1) + 1 by omega, z0, if_pos c] at h9
      omega
theorem jI.nx {S : ST} {r k : Nat} (h : jI S r k) (hlt : mP S < mE S) : jI (mnx S) r (k + 1) ∧ mW (mnx S) ∧ sN (mnx S) 29 = sN S 29 + 1 := by
  have e29 : sN (mnx S) 29 = sN S 29 + 1 := by
    unfold mnx
    rw [if_pos hlt, wN_self]
  have hle := mE_le h.1.2.1
  have hP := skS_le (f := sI S 716) (n := sN S 24 - sN S 28) (i := sN S 28)
  have h24 := h.1.2.1
  refine ⟨⟨⟨by rw [mnx_N (by decide)]; exact h.1.1, by rw [mnx_28, mnx_N (by decide)]; exact hle.2, by rw [mnx_N (by decide)]; exact h.1.2.2.1, by show (mnx S).1 721 r = _; rw [mnx_I.1, pcn_cg (S := S) mnx_I.1 (mnx_N (by decide))]; exact h.1.2.2.2⟩, ⟨?_, ?_, ?_⟩, ?_⟩, mnx_W h.1.1 h.1.2.1, e29⟩
  · rw [pcn_cg (S := S) mnx_I.1 (mnx_N (by decide)), mnx_N (by decide), e29]
    have := h.2.1.1
    omega
  · rw [e29, mnx_28]
    have h6 := h.2.1.2.1
    rcases h.2.1.2.2 with h7 | h7 | h7
    · omega
    · have : mP S = sN S 24 := by unfold mP; omega
      omega
    · by_cases h8 : sN S 28 = sN S 24
      · have : mP S = sN S 24 := by unfold mP; omega
        omega
      · have : sN S 28 + 1 ≤ mP S := skS_32 h7 (by omega)
        omega
  · right
    rw [mnx_28, mnx_N (by decide), show sI (mnx S) 716 = sI S 716 from congrFun mnx_I.1 716]
    exact mE_end h.1.2.1
  · rw [mnx_N (by decide), mnx_N (by decide), show sI (mnx S) 737 = sI S 737 from congrFun mnx_I.1 737]
    exact h.2.2
theorem w6_I {S : ST} {i j : Nat} {x : Int32} (h : i ≠ 600) : sI (w6 S j x) i = sI S i := va_up_ne _ _ h
theorem jI.s6 {S : ST} {r k j : Nat} {x : Int32} (h : jI S r k) : jI (w6 S j x) r k :=
  h.cg (fun _ _ => rfl) (w6_I (by decide)) ((congrFun (w6_I (i := 721) (by decide)) r).trans h.1.2.2.2) (Nat.le_refl _) (by rw [w6_I (by decide)]; exact h.2.2)
theorem sgR_or {v : Int64} : sgR v = -1 ∨ ¬ mrk (sgR v) < 1 := by
  unfold sgR
  repeat' split
  all_goals first | exact Or.inl rfl | exact Or.inr (by decide)
theorem le_of_nlt1 {x : Int32} (h : ¬ x < 1) : 1 ≤ x := Int32.not_lt.mp h
theorem jI.rw' {S : ST} {r k : Nat} {x : Int32} (h : jI S r (k + 1)) (hx : ¬ mrk x < 1) : jI (mRw S x) r k := (h.rel (le_of_nlt1 hx)).wai hx
def jO (S : ST) (r : Nat) (p : ST × Bool) : Prop := p.2 = true → jI p.1 r 0 ∧ sN S 29 ≤ sN p.1 29
theorem jO.no {S T : ST} {r : Nat} : jO S r (T, false) := fun h => absurd h Bool.false_ne_true
theorem jO.put {S : ST} {r : Nat} {x y : Int32} (h : jI S r 1) : jO S r (mput S x y, true) := fun _ => ⟨h.put, Nat.le_refl _⟩
theorem mDn_jI {S : ST} {r : Nat} (h : jI S r 1) : jO S r (mDn S) := by
  unfold mDn
  split
  · next hlt =>
    obtain ⟨a, b, c⟩ := h.nx hlt
    split
    · have h2 : jI (mnx S) r 1 := a.cg (fun _ _ => rfl) rfl a.1.2.2.2 (by omega) a.2.2
      refine fun _ => ⟨h2.put, ?_⟩
      show _ ≤ sN (mnx S) 29
      omega
    · exact jO.no
  · exact jO.no
theorem mTm_jI {S : ST} {r : Nat} {s : Int32} (h : jI S r 1) : jO S r (mTm S s) := by
  unfold mTm
  repeat' split
  all_goals first
    | exact jO.put h
    | exact jO.no
    | exact mDn_jI h
theorem mSg_jI {S : ST} {r : Nat} (h : jI S r 1) : jO S r (mSg S) := by
  have hw : ∀ (x : Int32), sN (mRw S x) 29 = sN S 29 := fun x => (wN_ne (by decide)).trans ((mrel_R _ S).2 29 (by decide))
  have hs := sgR_or (v := spR S)
  unfold mSg
  generalize sgR (spR S) = x at *
  have e0 : x = -1 → ¬ (¬ x < 10 ∧ ¬ 12 < x) := by rintro rfl; decide
  have e1 : x = -1 → x < 13 := by rintro rfl; decide
  have e2 : x = -1 → ¬ (x = 20 ∨ x = 21) := by rintro rfl; decide
  split
  · next hc =>
    have hx : ¬ mrk x < 1 := hs.resolve_left (fun z => e0 z hc.2)
    exact fun _ => ⟨(h.rw' hx).s6, Nat.le_of_eq (hw x).symm⟩
  split
  · split
    · exact jO.no
    · next hc =>
      have hx : ¬ mrk x < 1 := hs.resolve_left (fun z => hc (Or.inl (e1 z)))
      exact fun _ => ⟨(h.rw' hx).s6, Nat.le_of_eq (hw x).symm⟩
  split
  · next hc =>
    have hx : ¬ mrk x < 1 := hs.resolve_left (fun z => e2 z hc)
    exact fun _ => ⟨(h.rw' hx).s6, Nat.le_of_eq (hw x).symm⟩
  split
  · next hc =>
    have h0 : 0 < sN S 32 := Nat.pos_of_ne_zero (fun z => hc.2 (by rw [z]; rfl))
    have h1 : jI S r 0 := h.cg (fun _ _ => rfl) rfl h.1.2.2.2 (by omega) h.2.2
    refine fun _ => ⟨(h1.cls h0).s6, Nat.le_of_eq ?_⟩
    show _ = sN (wN (wN (mrel 1 (sN S 31) S) 31 _) 32 _) 29
    rw [wN_ne (by decide), wN_ne (by decide), (mrel_R _ S).2 29 (by decide)]
  · exact jO.no
theorem mTk_jI {S : ST} {r : Nat} {s : Int32} (h : jI S r 1) : jO S r (mTk S s) := by
  unfold mTk
  split
  · exact mSg_jI h
  split
  · exact fun _ => ⟨h.wai (by decide), Nat.le_of_eq (wN_ne (by decide)).symm⟩
  split
  · split
    · exact jO.no
    · exact fun _ => ⟨h.opn, Nat.le_of_eq (by rw [wN_ne (by decide)]; exact (wN_ne (by decide)).symm)⟩
  split
  · next h9 =>
    obtain ⟨a, b⟩ := mTm_jI h h9
    exact fun _ => ⟨a.s6, b⟩
  · exact jO.no
