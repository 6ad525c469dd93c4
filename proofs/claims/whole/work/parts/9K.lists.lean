/-! remarks in order: the class's rows, the reference's lists -/
def srt (g : Nat → Nat) (a b : Nat) (L : List Nat) : Prop := (∀ x, x ∈ L → a ≤ g x ∧ g x < b) ∧ L.Pairwise (fun x y => g x < g y)
theorem srt_nil {g : Nat → Nat} {a b : Nat} : srt g a b [] := ⟨fun x h => by simp at h, List.Pairwise.nil⟩
theorem srt_one {g : Nat → Nat} {a b x : Nat} (h : a ≤ g x ∧ g x < b) : srt g a b [x] := ⟨fun y hy => by rw [List.mem_singleton] at hy; rw [hy]; exact h, List.pairwise_singleton _ _⟩
theorem srt_app {g : Nat → Nat} {a b c d : Nat} {L M : List Nat} (h1 : srt g a b L) (h2 : srt g c d M) (hbc : b ≤ c) (hab : a ≤ c) (hbd : b ≤ d) : srt g a d (L ++ M) := by
  refine ⟨fun x hx => ?_, ?_⟩
  · rw [List.mem_append] at hx
    rcases hx with hx | hx
    · have := h1.1 x hx; omega
    · have := h2.1 x hx; omega
  · rw [List.pairwise_append]
    refine ⟨h1.2, h2.2, fun x hx y hy => ?_⟩
    have := h1.1 x hx
    have := h2.1 y hy
    omega
theorem srt_uniq : ∀ {l m : List Nat}, l.Pairwise (· < ·) → m.Pairwise (· < ·) → (∀ x, x ∈ l ↔ x ∈ m) → l = m
  | [], [], _, _, _ => rfl
  | [], b :: m, _, _, h => absurd ((h b).mpr (List.mem_cons_self ..)) (by simp)
  | a :: l, [], _, _, h => absurd ((h a).mp (List.mem_cons_self ..)) (by simp)
  | a :: l, b :: m, h1, h2, h => by
    rw [List.pairwise_cons] at h1 h2
    have e : a = b := by
      have x1 := (h a).mp (List.mem_cons_self ..)
      have x2 := (h b).mpr (List.mem_cons_self ..)
      rw [List.mem_cons] at x1 x2
      rcases x1 with x1 | x1
      · exact x1
      · rcases x2 with x2 | x2
        · exact x2.symm
        · have := h1.1 b x2
          have := h2.1 a x1
          omega
    subst e
    congr 1
    refine srt_uniq h1.2 h2.2 fun x => ⟨fun hx => ?_, fun hx => ?_⟩
    · have := (h x).mp (List.mem_cons_of_mem _ hx)
      rw [List.mem_cons] at this
      rcases this with e | e
      · have := h1.1 x hx; omega
      · exact e
    · have := (h x).mpr (List.mem_cons_of_mem _ hx)
      rw [List.mem_cons] at this
      rcases this with e | e
      · have := h2.1 x hx; omega
      · exact e
def oF (c : Nat) : Nat := if c = 0 then 0 else if c = 1 then 40 else 80
def capN (c : Nat) : Nat := if c < 2 then 40 else 160
theorem tI_N {r c q : Nat} (hc : c < 3) : tI r (nI c) q = 240 * r + oF c + q := by
  unfold tI oF
  rcases (show c = 0 ∨ c = 1 ∨ c = 2 by omega) with rfl | rfl | rfl
  · rw [if_pos (show nI 0 = 0 from rfl), if_pos rfl]; omega
  · rw [if_neg (show ¬ nI 1 = 0 by decide), if_pos (show nI 1 = 1 from rfl), if_neg (show ¬ (1 : Nat) = 0 by decide), if_pos rfl]; omega
  · rw [if_neg (show ¬ nI 2 = 0 by decide), if_neg (show ¬ nI 2 = 1 by decide), if_neg (show ¬ (2 : Nat) = 0 by decide), if_neg (show ¬ (2 : Nat) = 1 by decide)]; omega
def kdN (x : Nat) : Nat := if x % 240 < 40 then 0 else if x % 240 < 80 then 1 else 2
def nmN (x : Nat) : Nat := if x % 240 < 40 then x % 240 else if x % 240 < 80 then x % 240 - 40 else x % 240 - 80
theorem tI_dec {r c q : Nat} (hc : c < 3) (hq : q < capN c) : kdN (tI r (nI c) q) = c ∧ nmN (tI r (nI c) q) = q ∧ tI r (nI c) q / 240 = r ∧ (r < 27 → tI r (nI c) q < 6480) := by
  rw [tI_N hc]
  unfold oF capN at *
  rcases (show c = 0 ∨ c = 1 ∨ c = 2 by omega) with rfl | rfl | rfl
  · simp only [if_true] at *
    rw [if_pos (by decide)] at hq
    have e : (240 * r + 0 + q) % 240 = q := by omega
    unfold kdN nmN
    rw [e, if_pos (by omega), if_pos (by omega)]
    omega
  · rw [if_neg (by decide), if_pos rfl]
    rw [if_pos (by decide)] at hq
    have e : (240 * r + 40 + q) % 240 = 40 + q := by omega
    unfold kdN nmN
    rw [e, if_neg (by omega), if_pos (by omega), if_neg (by omega), if_pos (by omega)]
    omega
  · rw [if_neg (by decide), if_neg (by decide)]
    rw [if_neg (by decide)] at hq
    have e : (240 * r + 80 + q) % 240 = 80 + q := by omega
    unfold kdN nmN
    rw [e, if_neg (by omega), if_neg (by omega), if_neg (by omega), if_neg (by omega)]
    omega
def kI (S : ST) (x : Nat) : Nat := plN S (kdN x) (nmN x) * 27 + x / 240
theorem tok.cap {S : ST} (hb : bdS S) {c q : Nat} (h : tok S c q) : q < capN c := by
  obtain ⟨h1, h2, h3⟩ := h.bd hb
  unfold capN
  split
  · exact h3 (by assumption)
  · exact h2
theorem kI_tI {S : ST} (hb : bdS S) {c q r : Nat} (h : tok S c q) : kI S (tI r (nI c) q) = plN S c q * 27 + r := by
  obtain ⟨e1, e2, e3, -⟩ := tI_dec (r := r) h.c3 (h.cap hb)
  unfold kI
  rw [e1, e2, e3]
theorem mny_tok {S : ST} (h : gT S) {c q : Nat} (hc : c < 3) : q < mny S c ↔ tok S c q := by
  obtain ⟨⟨⟨c1, c2, c3, -⟩, -⟩, -⟩ := h
  unfold mny tok
  rcases (show c = 0 ∨ c = 1 ∨ c = 2 by omega) with rfl | rfl | rfl
  · rw [if_pos rfl]; omega
  · rw [if_neg (by decide), if_pos rfl]; omega
  · rw [if_neg (by decide), if_neg (by decide)]; omega
theorem shR_eq {S : ST} (h : gT S) {c q : Nat} (ht : tok S c q) : shR S (nI c) q = sI S (tid c q) 0 := by
  obtain ⟨⟨-, hb, -⟩, hP, hNn, hQ, -, -, -, -, hS, hPi, -⟩ := h
  unfold bdS at hb
  unfold shR ptO
  rcases ht with ⟨rfl, hq⟩ | ⟨rfl, hq⟩ | ⟨rfl, hq⟩
  · rw [if_neg (show ¬ nI 0 = 1 by decide), if_pos (show nI 0 = 0 from rfl)]
    exact (hP q hq).1
  · rw [if_pos (show nI 1 = 1 from rfl)]
    exact (hNn q hq).1
  · rw [if_neg (by decide), if_neg (by decide)]
    obtain ⟨-, e1, -, e2⟩ := hQ q hq
    have hp := (hPi q hq).2.1
    rw [e1, nI_clamp (by omega)]
    show _ = sI S (300 + q) 0
    rw [e2]
    exact (hP _ hp).1
theorem lR_srt {S : ST} {cl : Int32} {c q : Nat} (hb : bdS S) (ht : tok S c q) : ∀ (m r : Nat), srt (kI S) (plN S c q * 27 + r) (plN S c q * 27 + r + m) (lR S cl (nI c) q m r)
  | 0, r => srt_nil
  | m + 1, r => by
    unfold lR
    have h2 := lR_srt (cl := cl) hb ht m (r + 1)
    refine srt_app (b := plN S c q * 27 + r + 1) ?_ h2 (by omega) (by omega) (by omega) |> fun z => by
      rw [show plN S c q * 27 + r + (m + 1) = plN S c q * 27 + (r + 1) + m by omega]
      exact z
    split
    · exact srt_one (by rw [kI_tI hb ht]; omega)
    · exact srt_nil
theorem lR_mem {S : ST} {cl : Int32} {c q x : Nat} : ∀ (m r : Nat), x ∈ lR S cl (nI c) q m r ↔ ∃ p, r ≤ p ∧ p < r + m ∧ isC S cl x ∧ x = tI p (nI c) q
  | 0, r => ⟨fun h => by simp [lR] at h, fun ⟨p, h1, h2, _⟩ => by omega⟩
  | m + 1, r => by
    unfold lR
    rw [List.mem_append, lR_mem m (r + 1)]
    constructor
    · rintro (h | ⟨p, h1, h2, h3⟩)
      · split at h
        · rename_i hi
          rw [List.mem_singleton] at h
          exact ⟨r, by omega, by omega, by rw [h]; exact hi, h⟩
        · simp at h
      · exact ⟨p, by omega, by omega, h3⟩
    · rintro ⟨p, h1, h2, h3, h4⟩
      by_cases e : p = r
      · subst e
        refine Or.inl ?_
        rw [if_pos (by rw [← h4]; exact h3), List.mem_singleton]
        exact h4
      · exact Or.inr ⟨p, by omega, by omega, h3, h4⟩
theorem lJ_srt {S : ST} {cl : Int32} {h c : Nat} (hg : gT S) (hc : c < 3) (hh : h < 16) : ∀ (m j : Nat), j + m ≤ mny S c → srt (kI S) (((h * 3 + c) * 160 + j) * 27) (((h * 3 + c) * 160 + j + m) * 27) (lJ S cl (nI h) (nI c) m j)
  | 0, j, _ => srt_nil
  | m + 1, j, hm => by
    unfold lJ
    have h2 := lJ_srt (cl := cl) hg hc hh m (j + 1) (by omega)
    have ht : tok S c j := (mny_tok hg hc).mp (by omega)
    have hb := hg.1.2.1
    have hs := hg.2.2.2.2.2.2.2.2.1
    refine srt_app (b := ((h * 3 + c) * 160 + (j + 1)) * 27) ?_ h2 (by omega) (by omega) (by omega) |> fun z => by
      rw [show (h * 3 + c) * 160 + j + (m + 1) = (h * 3 + c) * 160 + (j + 1) + m by omega]
      exact z
    split
    · rename_i he
      rw [shR_eq hg ht, (hs.sh ht).2, nI_eq (by have := (hs.sh ht).1; omega) (by omega)] at he
      have h3 := lR_srt (cl := cl) hb ht 27 0
      have ep : plN S c j = (h * 3 + c) * 160 + j := by
        unfold plN
        rw [he]
      rw [ep] at h3
      rw [show ((h * 3 + c) * 160 + (j + 1)) * 27 = ((h * 3 + c) * 160 + j) * 27 + 0 + 27 by omega]
      exact h3
    · exact srt_nil
theorem lJ_mem {S : ST} {cl : Int32} {h c x : Nat} : ∀ (m j : Nat), x ∈ lJ S cl (nI h) (nI c) m j ↔ ∃ q, j ≤ q ∧ q < j + m ∧ shR S (nI c) q = nI h ∧ x ∈ lR S cl (nI c) q 27 0
  | 0, j => ⟨fun h => by simp [lJ] at h, fun ⟨p, h1, h2, _⟩ => by omega⟩
  | m + 1, j => by
    unfold lJ
    rw [List.mem_append, lJ_mem m (j + 1)]
    constructor
    · rintro (h | ⟨p, h1, h2, h3⟩)
      · split at h
        · rename_i hi
          exact ⟨j, by omega, by omega, hi, h⟩
        · simp at h
      · exact ⟨p, by omega, by omega, h3⟩
    · rintro ⟨p, h1, h2, h3, h4⟩
      by_cases e : p = j
      · subst e
        refine Or.inl ?_
        rw [if_pos h3]
        exact h4
      · exact Or.inr ⟨p, by omega, by omega, h3, h4⟩
theorem lS_srt {S : ST} {cl : Int32} {h : Nat} (hg : gT S) (hh : h < 16) : ∀ (m s : Nat), s + m ≤ 3 → srt (kI S) (((h * 3 + s) * 160) * 27) (((h * 3 + s + m) * 160) * 27) (lS S cl (nI h) m s)
  | 0, s, _ => srt_nil
  | m + 1, s, hm => by
    unfold lS
    have h2 := lS_srt (cl := cl) hg hh m (s + 1) (by omega)
    have hb := hg.1.2.1
    have hmn : mny S s ≤ 160 := by
      obtain ⟨⟨c1, c2, c3, -⟩, hb, -⟩ := hg.1
      unfold bdS at hb
      unfold mny
      split
      · omega
      · split <;> omega
    have h1 := lJ_srt (cl := cl) hg (c := s) (by omega) hh (mny S s) 0 (by omega)
    rw [show (h * 3 + s + (m + 1)) = h * 3 + (s + 1) + m by omega]
    exact srt_app (b := ((h * 3 + s) * 160 + 0 + mny S s) * 27) h1 h2 (by omega) (by omega) (by omega)
theorem lS_mem {S : ST} {cl : Int32} {h x : Nat} : ∀ (m s : Nat), x ∈ lS S cl (nI h) m s ↔ ∃ c, s ≤ c ∧ c < s + m ∧ x ∈ lJ S cl (nI h) (nI c) (mny S c) 0
  | 0, s => ⟨fun h => by simp [lS] at h, fun ⟨p, h1, h2, _⟩ => by omega⟩
  | m + 1, s => by
    unfold lS
    rw [List.mem_append, lS_mem m (s + 1)]
    constructor
    · rintro (h | ⟨p, h1, h2, h3⟩)
      · exact ⟨s, by omega, by omega, h⟩
      · exact ⟨p, by omega, by omega, h3⟩
    · rintro ⟨p, h1, h2, h3⟩
      by_cases e : p = s
      · subst e
        exact Or.inl h3
      · exact Or.inr ⟨p, by omega, by omega, h3⟩
theorem lH_srt {S : ST} {cl : Int32} (hg : gT S) : ∀ (m h : Nat), h + m ≤ 16 → srt (kI S) ((h * 3 * 160) * 27) (((h + m) * 3 * 160) * 27) (lH S cl m h)
  | 0, h, _ => srt_nil
  | m + 1, h, hm => by
    unfold lH
    have h2 := lH_srt (cl := cl) hg m (h + 1) (by omega)
    have h1 := lS_srt (cl := cl) hg (h := h) (by omega) 3 0 (by omega)
    rw [show h + (m + 1) = h + 1 + m by omega]
    exact srt_app (b := ((h * 3 + 0 + 3) * 160) * 27) h1 h2 (by omega) (by omega) (by omega) |> fun z => by
      rw [show (h * 3 + 0) * 160 * 27 = h * 3 * 160 * 27 by omega] at z
      exact z
theorem lH_mem' {S : ST} {cl : Int32} {x : Nat} : ∀ (m h : Nat), x ∈ lH S cl m h ↔ ∃ k, h ≤ k ∧ k < h + m ∧ x ∈ lS S cl (nI k) 3 0
  | 0, s => ⟨fun h => by simp [lH] at h, fun ⟨p, h1, h2, _⟩ => by omega⟩
  | m + 1, s => by
    unfold lH
    rw [List.mem_append, lH_mem' m (s + 1)]
    constructor
    · rintro (h | ⟨p, h1, h2, h3⟩)
      · exact ⟨s, by omega, by omega, h⟩
      · exact ⟨p, by omega, by omega, h3⟩
    · rintro ⟨p, h1, h2, h3⟩
      by_cases e : p = s
      · subst e
        exact Or.inl h3
      · exact Or.inr ⟨p, by omega, by omega, h3⟩
theorem lH_mem {S : ST} {cl : Int32} {x : Nat} (hg : gT S) : x ∈ lH S cl 16 0 ↔ ∃ c q r, tok S c q ∧ r < 27 ∧ isC S cl x ∧ x = tI r (nI c) q := by
  have hs := hg.2.2.2.2.2.2.2.2.1
  rw [lH_mem']
  constructor
  · rintro ⟨k, -, hk, h⟩
    rw [lS_mem] at h
    obtain ⟨c, -, hc, h⟩ := h
    rw [lJ_mem] at h
    obtain ⟨q, -, hq, -, h⟩ := h
    rw [lR_mem] at h
    obtain ⟨r, -, hr, h1, h2⟩ := h
    exact ⟨c, q, r, (mny_tok hg (by omega)).mp (by omega), by omega, h1, h2⟩
  · rintro ⟨c, q, r, ht, hr, h1, h2⟩
    refine ⟨shN S c q, by omega, by have := (hs.sh ht).1; omega, ?_⟩
    rw [lS_mem]
    refine ⟨c, by omega, by have := ht.c3; omega, ?_⟩
    rw [lJ_mem]
    refine ⟨q, by omega, by have := (mny_tok hg ht.c3).mpr ht; omega, by rw [shR_eq hg ht]; exact (hs.sh ht).2, ?_⟩
    rw [lR_mem]
    exact ⟨r, by omega, by omega, h1, h2⟩
def rowR (S : ST) (kf : Nat → Int32) (cnt : Nat) (P : Nat → Prop) (E : Nat → Nat → Prop) : Prop := (∀ i, i < cnt → ∃ c q r, tok S c q ∧ r < 27 ∧ kf i = nI (plN S c q * 27 + r) ∧ P (tI r (nI c) q) ∧ E i (tI r (nI c) q)) ∧ (∀ c q r, tok S c q → r < 27 → P (tI r (nI c) q) → ∃ i, i < cnt ∧ kf i = nI (plN S c q * 27 + r)) ∧ ∀ i j, i < j → j < cnt → kf i < kf j
/-- the k-th of the reference's list is the class's k-th -/
theorem rowR.list {S : ST} {kf : Nat → Int32} {cnt : Nat} {P : Nat → Prop} {E : Nat → Nat → Prop} {cl : Int32} (h : rowR S kf cnt P E) (hg : gT S) (hP : ∀ x, x < 6480 → (isC S cl x ↔ P x)) : (lH S cl 16 0).length = cnt ∧ ∀ i, i < cnt → ∃ c q r, tok S c q ∧ r < 27 ∧ kf i = nI (plN S c q * 27 + r) ∧ E i (tI r (nI c) q) ∧ (lH S cl 16 0)[i]? = some (tI r (nI c) q) := by
  have hb := hg.1.2.1
  have hs := hg.2.2.2.2.2.2.2.2.1
  have hcl : ∀ i, i < cnt → ∃ v, v < 2 ^ 31 ∧ kf i = nI v := fun i hi => by
    obtain ⟨c, q, r, ht, hr, e, -⟩ := h.1 i hi
    exact ⟨_, by have := plN_lt hs hb ht; omega, e⟩
  have hlist : (lH S cl 16 0).map (kI S) = (List.range cnt).map (fun i => (kf i).toNatClampNeg) := by
    apply srt_uniq
    · rw [List.pairwise_map]
      exact (lH_srt hg 16 0 (by omega)).2
    · rw [List.pairwise_map]
      refine List.Pairwise.imp_of_mem (R := fun a b => a < b) ?_ List.pairwise_lt_range
      intro a b ha hb' hab
      rw [List.mem_range] at ha hb'
      obtain ⟨v, hv, ev⟩ := hcl a ha
      obtain ⟨w, hw, ew⟩ := hcl b hb'
      have := h.2.2 a b hab hb'
      rw [ev, ew, nI_ltI hv hw] at this
      rw [ev, ew, nI_clamp hv, nI_clamp hw]
      exact this
    · intro x
      rw [List.mem_map, List.mem_map]
      constructor
      · rintro ⟨y, hy, rfl⟩
        obtain ⟨c, q, r, ht, hr, h1, rfl⟩ := (lH_mem hg).mp hy
        obtain ⟨i, hi, e⟩ := h.2.1 c q r ht hr ((hP _ ((tI_dec ht.c3 (ht.cap hb)).2.2.2 hr)).mp h1)
        exact ⟨i, List.mem_range.mpr hi, by rw [e, nI_clamp (by have := plN_lt hs hb ht; omega), kI_tI hb ht]⟩
      · rintro ⟨i, hi, rfl⟩
        rw [List.mem_range] at hi
        obtain ⟨c, q, r, ht, hr, e, h1, -⟩ := h.1 i hi
        exact ⟨tI r (nI c) q, (lH_mem hg).mpr ⟨c, q, r, ht, hr, (hP _ ((tI_dec ht.c3 (ht.cap hb)).2.2.2 hr)).mpr h1, rfl⟩, by rw [e, nI_clamp (by have := plN_lt hs hb ht; omega), kI_tI hb ht]⟩
  have hlen : (lH S cl 16 0).length = cnt := by
    have := congrArg List.length hlist
    simpa using this
  refine ⟨hlen, fun i hi => ?_⟩
  obtain ⟨c, q, r, ht, hr, e, h1, h2⟩ := h.1 i hi
  refine ⟨c, q, r, ht, hr, e, h2, ?_⟩
  have hi' : i < (lH S cl 16 0).length := by omega
  have hx := congrArg (fun l => l[i]?) hlist
  simp only [List.getElem?_map, List.getElem?_eq_getElem hi', List.getElem?_range hi, Option.map_some, Option.some.injEq] at hx
  rw [List.getElem?_eq_getElem hi']
  obtain ⟨c', q', r', ht', hr', -, e'⟩ := (lH_mem hg).mp (List.getElem_mem hi')
  rw [e', kI_tI hb ht', e, nI_clamp (by have := plN_lt hs hb ht; omega)] at hx
  obtain ⟨x1, x2⟩ := plN_inj hb ht' ht (by omega)
  subst x1
  subst x2
  rw [e', show r' = r by omega]
