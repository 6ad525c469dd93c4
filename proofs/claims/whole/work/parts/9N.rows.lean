/-! the class's run: the list of remarks, and the comparison with the row before -/
def kR (e : RM) : Nat := e.1.toNatClampNeg
theorem one_mem {S : ST} {c q p : Nat} {e : RM} : e ∈ oneR S c q p ↔ (sI S 9 p = 0 ∧ 0 < wgt S c q p) ∧ e = (plc S c q * 27 + nI p, wgt S c q p, sI S 0 11) := by
  unfold oneR
  split
  · rename_i h
    rw [List.mem_singleton]
    exact ⟨fun z => ⟨h, z⟩, fun z => z.2⟩
  · rename_i h
    exact ⟨fun z => by simp at z, fun z => absurd z.1 h⟩
theorem many_mem {S : ST} {c q : Nat} {e : RM} : ∀ (n i : Nat), e ∈ manyR S c q n i ↔ ∃ p, i ≤ p ∧ p < i + n ∧ e ∈ oneR S c q p
  | 0, i => ⟨fun h => by simp [manyR] at h, fun ⟨p, h1, h2, _⟩ => by omega⟩
  | n + 1, i => by
    unfold manyR
    rw [List.mem_append, many_mem n (i + 1)]
    constructor
    · rintro (h | ⟨p, h1, h2, h3⟩)
      · exact ⟨i, by omega, by omega, h⟩
      · exact ⟨p, by omega, by omega, h3⟩
    · rintro ⟨p, h1, h2, h3⟩
      by_cases z : p = i
      · subst z; exact Or.inl h3
      · exact Or.inr ⟨p, by omega, by omega, h3⟩
theorem all_mem' {S : ST} {e : RM} : ∀ (n i : Nat), e ∈ allR S n i ↔ ∃ t, i ≤ t ∧ t < i + n ∧ e ∈ thR S (sN S (1000 + t))
  | 0, i => ⟨fun h => by simp [allR] at h, fun ⟨p, h1, h2, _⟩ => by omega⟩
  | n + 1, i => by
    unfold allR
    rw [List.mem_append, all_mem' n (i + 1)]
    constructor
    · rintro (h | ⟨p, h1, h2, h3⟩)
      · exact ⟨i, by omega, by omega, h⟩
      · exact ⟨p, by omega, by omega, h3⟩
    · rintro ⟨p, h1, h2, h3⟩
      by_cases z : p = i
      · subst z; exact Or.inl h3
      · exact Or.inr ⟨p, by omega, by omega, h3⟩
theorem key_N {S : ST} (hs : ciSh S) {c q p : Nat} (ht : tok S c q) : plc S c q * 27 + nI p = nI (plN S c q * 27 + p) := by
  rw [hs.pl ht, show (27 : Int32) = nI 27 from rfl, nI_mul, nI_add]
theorem all_mem {S : ST} (h : gT S) {e : RM} : e ∈ allR S (sN S 0 + sN S 1 + sN S 2) 0 ↔ ∃ c q p, tok S c q ∧ p < 7 + sN S 3 ∧ sI S 9 p = 0 ∧ 0 < wgt S c q p ∧ e = (nI (plN S c q * 27 + p), wgt S c q p, sI S 0 11) := by
  have hb := h.1.2.1
  have hO := h.2.2.2.2.2.2.2.1
  have hs := h.2.2.2.2.2.2.2.2.1
  rw [all_mem']
  constructor
  · rintro ⟨t, -, ht, he⟩
    obtain ⟨c, q, hc, e1⟩ := hO.1 t (by omega)
    obtain ⟨b1, b2, b3⟩ := hc.bd hb
    obtain ⟨e2, e3⟩ := tcq b1 ⟨b2, b3⟩
    unfold thR at he
    rw [e1, e2, e3, many_mem] at he
    obtain ⟨p, -, hp, he⟩ := he
    obtain ⟨h1, h2⟩ := one_mem.mp he
    exact ⟨c, q, p, hc, by omega, h1.1, h1.2, by rw [h2, key_N hs hc]⟩
  · rintro ⟨c, q, p, hc, hp, h1, h2, he⟩
    obtain ⟨t, ht, e1⟩ := hO.2.1 c q hc
    obtain ⟨b1, b2, b3⟩ := hc.bd hb
    obtain ⟨e2, e3⟩ := tcq b1 ⟨b2, b3⟩
    refine ⟨t, by omega, by omega, ?_⟩
    unfold thR
    rw [e1, e2, e3, many_mem]
    exact ⟨p, by omega, by omega, one_mem.mpr ⟨⟨h1, h2⟩, by rw [he, key_N hs hc]⟩⟩
theorem many_srt {S : ST} (hs : ciSh S) (hb : bdS S) {c q : Nat} (ht : tok S c q) : ∀ (n i : Nat), i + n ≤ 27 → srt (fun x => x) (plN S c q * 27 + i) (plN S c q * 27 + i + n) ((manyR S c q n i).map kR)
  | 0, i, _ => srt_nil
  | n + 1, i, hi => by
    unfold manyR
    rw [List.map_append]
    have h2 := many_srt hs hb ht n (i + 1) (by omega)
    refine srt_app (b := plN S c q * 27 + i + 1) ?_ h2 (by omega) (by omega) (by omega) |> fun z => by
      rw [show plN S c q * 27 + i + (n + 1) = plN S c q * 27 + (i + 1) + n by omega]
      exact z
    have hp := plN_lt hs hb ht
    unfold oneR
    split
    · refine srt_one ?_
      show plN S c q * 27 + i ≤ (plc S c q * 27 + nI i).toNatClampNeg ∧ (plc S c q * 27 + nI i).toNatClampNeg < _
      rw [key_N hs ht, nI_clamp (by omega)]
      omega
    · exact srt_nil
theorem all_srt {S : ST} (h : gT S) (h3 : sN S 3 ≤ 20) : ∀ (n i lo : Nat), i + n = sN S 0 + sN S 1 + sN S 2 → (n = 0 ∨ lo ≤ idN S (sN S (1000 + i)) * 27) → srt (fun x => x) lo (7680 * 27) ((allR S n i).map kR)
  | 0, i, lo, _, _ => srt_nil
  | n + 1, i, lo, hi, hlo => by
    have hb := h.1.2.1
    have hO := h.2.2.2.2.2.2.2.1
    have hs := h.2.2.2.2.2.2.2.2.1
    obtain ⟨c, q, hc, e1⟩ := hO.1 i (by omega)
    obtain ⟨b1, b2, b3⟩ := hc.bd hb
    obtain ⟨e2, e3⟩ := tcq b1 ⟨b2, b3⟩
    have hid := idN_tid hb hc
    have hp := plN_lt hs hb hc
    have h1 := many_srt hs hb hc (7 + sN S 3) 0 (by omega)
    have h2 := all_srt h h3 n (i + 1) ((plN S c q + 1) * 27) (by omega) (by
      by_cases z : n = 0
      · exact Or.inl z
      · right
        have := hO.2.2 i (i + 1) (by omega) (by omega)
        rw [e1, hid] at this
        omega)
    unfold allR
    rw [List.map_append]
    have eth : thR S (sN S (1000 + i)) = manyR S c q (7 + sN S 3) 0 := by
      unfold thR
      rw [e1, e2, e3]
    rw [eth]
    have hlo' : lo ≤ plN S c q * 27 := by
      rcases hlo with z | z
      · omega
      · rw [e1, hid] at z; exact z
    have h1' : srt (fun x => x) lo (plN S c q * 27 + 0 + (7 + sN S 3)) ((manyR S c q (7 + sN S 3) 0).map kR) := ⟨fun x hx => by have := h1.1 x hx; omega, h1.2⟩
    exact srt_app h1' h2 (by omega) (by omega) (by omega)
theorem many_cnt {S : ST} {c q : Nat} {p : RM → Bool} : ∀ (n i : Nat), (manyR S c q n i).countP p = sg (fun t => (oneR S c q (i + t)).countP p) n
  | 0, _ => rfl
  | n + 1, i => by
    unfold manyR
    rw [List.countP_append, many_cnt n (i + 1), show n + 1 = 1 + n by omega, sg_split]
    have e1 : sg (fun t => (oneR S c q (i + t)).countP p) 1 = (oneR S c q i).countP p := by
      show 0 + (oneR S c q (i + 0)).countP p = _
      rw [Nat.zero_add, Nat.add_zero]
    have e3 : sg (fun t => (oneR S c q (i + 1 + t)).countP p) n = sg (fun t => (oneR S c q (i + (1 + t))).countP p) n := sg_cg n (fun t _ => by rw [show i + 1 + t = i + (1 + t) by omega])
    rw [e1, e3]
theorem all_cnt {S : ST} {p : RM → Bool} : ∀ (n i : Nat), (allR S n i).countP p = sg (fun t => (thR S (sN S (1000 + (i + t)))).countP p) n
  | 0, _ => rfl
  | n + 1, i => by
    unfold allR
    rw [List.countP_append, all_cnt n (i + 1), show n + 1 = 1 + n by omega, sg_split]
    have e1 : sg (fun t => (thR S (sN S (1000 + (i + t)))).countP p) 1 = (thR S (sN S (1000 + i))).countP p := by
      show 0 + (thR S (sN S (1000 + (i + 0)))).countP p = _
      rw [Nat.zero_add, Nat.add_zero]
    have e3 : sg (fun t => (thR S (sN S (1000 + (i + 1 + t)))).countP p) n = sg (fun t => (thR S (sN S (1000 + (i + (1 + t))))).countP p) n := sg_cg n (fun t _ => by rw [show i + 1 + t = i + (1 + t) by omega])
    rw [e1, e3]
/-- counted over rules first, then over things by kind and number -/
theorem all_sum {S : ST} (h : gT S) {p : RM → Bool} {F : Nat → Nat → Nat → Nat} (h3 : sN S 3 ≤ 20) (hF : ∀ c q r, tok S c q → r < 27 → F c q r = if r < 7 + sN S 3 then (oneR S c q r).countP p else 0) : (allR S (sN S 0 + sN S 1 + sN S 2) 0).countP p = sg (fun r => sg (fun q => F 0 q r) (sN S 0) + sg (fun q => F 1 q r) (sN S 1) + sg (fun q => F 2 q r) (sN S 2)) 27 := by
  have hb := h.1.2.1
  have key : ∀ c q, tok S c q → (thR S (tid c q)).countP p = sg (fun r => F c q r) 27 := by
    intro c q hc
    obtain ⟨b1, b2, b3⟩ := hc.bd hb
    obtain ⟨e2, e3⟩ := tcq b1 ⟨b2, b3⟩
    unfold thR
    have es : sg (fun r => F c q r) 27 = sg (fun r => F c q r) (7 + sN S 3) + sg (fun i => F c q (7 + sN S 3 + i)) (20 - sN S 3) := by
      rw [← sg_split, show 7 + sN S 3 + (20 - sN S 3) = 27 by omega]
    rw [e2, e3, many_cnt, es]
    have e1 : sg (fun r => F c q r) (7 + sN S 3) = sg (fun t => (oneR S c q (0 + t)).countP p) (7 + sN S 3) := sg_cg _ (fun i hi => by rw [hF c q i hc (by omega), if_pos hi, Nat.zero_add])
    have e4 : sg (fun i => F c q (7 + sN S 3 + i)) (20 - sN S 3) = 0 := by
      rw [sg_cg (g := fun _ => 0) _ (fun i hi => by rw [hF c q _ hc (by omega), if_neg (by omega)])]
      exact sg_zero _
    rw [e1, e4]
    rfl
  rw [all_cnt]
  have e0 : sg (fun t => (thR S (sN S (1000 + (0 + t)))).countP p) (sN S 0 + sN S 1 + sN S 2) = sg (fun t => (thR S (sN S (1000 + t))).countP p) (sN S 0 + sN S 1 + sN S 2) := sg_cg _ (fun t _ => by rw [Nat.zero_add])
  rw [e0, sg_ord h (fun id => (thR S id).countP p)]
  rw [sg_cg (g := fun q => sg (fun r => F 0 q r) 27) (sN S 0) (fun q hq => key 0 q (Or.inl ⟨rfl, hq⟩)), sg_cg (g := fun q => sg (fun r => F 1 q r) 27) (sN S 1) (fun q hq => key 1 q (Or.inr (Or.inl ⟨rfl, hq⟩))), sg_cg (g := fun q => sg (fun r => F 2 q r) 27) (sN S 2) (fun q hq => key 2 q (Or.inr (Or.inr ⟨rfl, hq⟩)))]
  rw [sg_swap (fun q r => F 0 q r) 27 (sN S 0), sg_swap (fun q r => F 1 q r) 27 (sN S 1), sg_swap (fun q r => F 2 q r) 27 (sN S 2), ← sg_add, ← sg_add]
theorem remL_get {S : ST} {j : Nat} {A : List RM} (h : remL S j = A) : sN S (17 + j) = A.length ∧ ∀ i, i < sN S (17 + j) → A[i]? = some (sI S (22 + 3 * j) i, sI S (23 + 3 * j) i, sI S (24 + 3 * j) i) := by
  subst h
  unfold remL
  refine ⟨by simp, fun i hi => ?_⟩
  rw [List.getElem?_map, List.getElem?_range hi]
  rfl
theorem adv_spec {kl : Nat → Int32} {x : Int32} : ∀ (n i : Nat), i ≤ advN kl x n i ∧ advN kl x n i ≤ i + n ∧ (∀ t, i ≤ t → t < advN kl x n i → kl t < x) ∧ (advN kl x n i < i + n → ¬ kl (advN kl x n i) < x)
  | 0, i => ⟨Nat.le_refl _, Nat.le_refl _, fun t h1 h2 => by unfold advN at h2; omega, fun h => by unfold advN at h; omega⟩
  | n + 1, i => by
    unfold advN
    split
    · rename_i h
      obtain ⟨a, b, c, d⟩ := adv_spec (kl := kl) (x := x) n (i + 1)
      refine ⟨by omega, by omega, fun t h1 h2 => ?_, fun h3 => d (by omega)⟩
      by_cases e : t = i
      · rw [e]; exact h
      · exact c t (by omega) h2
    · rename_i h
      exact ⟨Nat.le_refl _, by omega, fun t h1 h2 => by omega, fun _ => h⟩
theorem cmp_spec {kl : Nat → Int32} {nL : Nat} {bk bw bf : Nat → Int32} {nB : Nat} (hL : ∀ x y, x < y → y < nL → kl x < kl y) (hB : ∀ x y, x < y → y < nB → bk x < bk y) : ∀ (n i a : Nat) (s : (Nat → Int32) × List RM), i + n = nB → a ≤ nL → (n = 0 ∨ ∀ x, x < a → kl x < bk i) → (∀ x, x < nL → (∀ b, i ≤ b → b < nB → bk b = kl x → (cmpF kl nL bk bw bf n i a s).1 x = bf b) ∧ ((∀ b, i ≤ b → b < nB → ¬ bk b = kl x) → (cmpF kl nL bk bw bf n i a s).1 x = s.1 x)) ∧ ∃ M : List Nat, (cmpF kl nL bk bw bf n i a s).2 = s.2 ++ M.map (fun b => (bk b, bw b, bf b)) ∧ M.Pairwise (· < ·) ∧ ∀ b, b ∈ M ↔ i ≤ b ∧ b < nB ∧ ∀ x, x < nL → ¬ kl x = bk b
  | 0, i, a, s, hi, _, _ => by
    unfold cmpF
    refine ⟨fun x _ => ⟨fun b h1 h2 => by omega, fun _ => rfl⟩, [], by simp, List.Pairwise.nil, fun b => ⟨fun h => by simp at h, fun h => by omega⟩⟩
  | n + 1, i, a, s, hi, ha, hlt => by
    have hlt' : ∀ x, x < a → kl x < bk i := by
      rcases hlt with z | z
      · omega
      · exact z
    obtain ⟨v1, v2, v3, v4⟩ := adv_spec (kl := kl) (x := bk i) (nL - a) a
    have nle : a + (nL - a) = nL := by omega
    rw [nle] at v2 v4
    have below : ∀ x, x < advN kl (bk i) (nL - a) a → kl x < bk i := by
      intro x hx
      by_cases z : x < a
      · exact hlt' x z
      · exact v3 x (by omega) hx
    have irr : ∀ {x : Int32}, ¬ x < x := Int32.lt_irrefl
    unfold cmpF
    by_cases hm : advN kl (bk i) (nL - a) a < nL ∧ kl (advN kl (bk i) (nL - a) a) = bk i
    · rw [if_pos hm]
      generalize advN kl (bk i) (nL - a) a = a' at *
      obtain ⟨r1, M, r2, r3, r4⟩ := cmp_spec (bw := bw) (bf := bf) hL hB n (i + 1) a' (upd s.1 a' (bf i), s.2) (by omega) (by omega) (by
        by_cases z : n = 0
        · exact Or.inl z
        · right
          intro x hx
          exact Int32.lt_trans (below x hx) (hB i (i + 1) (by omega) (by omega)))
      refine ⟨fun x hx => ⟨fun b h1 h2 h3 => ?_, fun hno => ?_⟩, M, r2, r3, fun b => ?_⟩
      · by_cases e : b = i
        · subst e
          have ex : x = a' := by
            rcases Nat.lt_trichotomy x a' with z | z | z
            · have := below x z; rw [h3] at this; exact absurd this irr
            · exact z
            · have := hL a' x z hx; rw [hm.2, h3] at this; exact absurd this irr
          subst ex
          rw [(r1 x hx).2 (fun b' q1 q2 q3 => by
            have := hB b b' (by omega) q2
            rw [h3, q3] at this
            exact irr this)]
          exact if_pos rfl
        · exact (r1 x hx).1 b (by omega) h2 h3
      · have hxa : x ≠ a' := fun z => hno i (by omega) (by omega) (by rw [z]; exact hm.2.symm)
        rw [(r1 x hx).2 (fun b q1 q2 => hno b (by omega) q2)]
        exact if_neg hxa
      · rw [r4 b]
        constructor
        · rintro ⟨q1, q2, q3⟩
          exact ⟨by omega, q2, q3⟩
        · rintro ⟨q1, q2, q3⟩
          refine ⟨?_, q2, q3⟩
          by_cases z : b = i
          · exact absurd (by rw [z]; exact hm.2) (q3 a' hm.1)
          · omega
    · rw [if_neg hm]
      have hni : ∀ x, x < nL → ¬ kl x = bk i := by
        intro x hx z
        rcases Nat.lt_trichotomy x (advN kl (bk i) (nL - a) a) with y | y | y
        · have := below x y; rw [z] at this; exact irr this
        · exact hm ⟨by omega, by rw [← y]; exact z⟩
        · have h1 := v4 (by omega)
          have h2 := hL _ x y hx
          rw [z] at h2
          exact h1 h2
      generalize advN kl (bk i) (nL - a) a = a' at *
      obtain ⟨r1, M, r2, r3, r4⟩ := cmp_spec (bw := bw) (bf := bf) hL hB n (i + 1) a' (s.1, s.2 ++ [(bk i, bw i, bf i)]) (by omega) (by omega) (by
        by_cases z : n = 0
        · exact Or.inl z
        · right
          intro x hx
          exact Int32.lt_trans (below x hx) (hB i (i + 1) (by omega) (by omega)))
      refine ⟨fun x hx => ⟨fun b h1 h2 h3 => ?_, fun hno => ?_⟩, i :: M, ?_, ?_, fun b => ?_⟩
      · by_cases e : b = i
        · exact absurd (by rw [← e]; exact h3.symm) (hni x hx)
        · exact (r1 x hx).1 b (by omega) h2 h3
      · exact (r1 x hx).2 (fun b q1 q2 => hno b (by omega) q2)
      · rw [r2, List.map_cons, List.append_assoc]
        rfl
      · rw [List.pairwise_cons]
        exact ⟨fun b hb => by have := (r4 b).mp hb; omega, r3⟩
      · rw [List.mem_cons, r4 b]
        constructor
        · rintro (z | ⟨q1, q2, q3⟩)
          · rw [z]; exact ⟨by omega, by omega, hni⟩
          · exact ⟨by omega, q2, q3⟩
        · rintro ⟨q1, q2, q3⟩
          by_cases z : b = i
          · exact Or.inl z
          · exact Or.inr ⟨by omega, q2, q3⟩
theorem opn_sg {S : ST} {j : Nat} : ∀ (n i : Nat), opn S j n i = sg (fun t => if rsn (sI S 20) (sI S 21) (sI S (22 + 3 * j) (i + t)) (sN S 16) = -1 then 1 else 0) n
  | 0, _ => rfl
  | n + 1, i => by
    unfold opn
    rw [opn_sg n (i + 1), show n + 1 = 1 + n by omega, sg_split]
    have e1 : sg (fun t => if rsn (sI S 20) (sI S 21) (sI S (22 + 3 * j) (i + t)) (sN S 16) = -1 then 1 else 0) 1 = if rsn (sI S 20) (sI S 21) (sI S (22 + 3 * j) i) (sN S 16) = -1 then 1 else 0 := by
      show 0 + (if rsn (sI S 20) (sI S 21) (sI S (22 + 3 * j) (i + 0)) (sN S 16) = -1 then 1 else 0) = _
      rw [Nat.zero_add, Nat.add_zero]
    have e3 : sg (fun t => if rsn (sI S 20) (sI S 21) (sI S (22 + 3 * j) (i + 1 + t)) (sN S 16) = -1 then 1 else 0) n = sg (fun t => if rsn (sI S 20) (sI S 21) (sI S (22 + 3 * j) (i + (1 + t))) (sN S 16) = -1 then 1 else 0) n := sg_cg n (fun t _ => by rw [show i + 1 + t = i + (1 + t) by omega])
    rw [e1, e3]
theorem cnt_range {α : Type} {p : α → Bool} {f : Nat → α} : ∀ n, ((List.range n).map f).countP p = sg (fun i => if p (f i) = true then 1 else 0) n
  | 0 => rfl
  | n + 1 => by
    rw [List.range_succ, List.map_append, List.countP_append, cnt_range n]
    show sg _ n + [f n].countP p = sg _ n + (if p (f n) = true then 1 else 0)
    rw [List.countP_singleton]
