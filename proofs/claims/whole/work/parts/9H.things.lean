/-! the things, class and reference: what holds, and what leaves it -/
def smP (S : ST) : Prop := ∀ k, k < sN S 0 → sI S 705 k = sI S (100 + 3 * k) 0 ∧ ∀ j, j < 8 → sJ S 706 (8 * k + j) = sJ S (102 + 3 * k) j
def smN (S : ST) : Prop := ∀ k, k < sN S 1 → sI S 707 k = sI S (220 + 2 * k) 0 ∧ sI S 708 k = sI S (220 + 2 * k) 4
def smQ (S : ST) : Prop := ∀ k, k < sN S 2 → sI S 711 k = sI S (300 + k) 3 ∧ sI S 709 k = nI (sN S (2000 + k)) ∧ sI S 710 k = oI (sR S (300 + k) 4) ∧ sI S (300 + k) 0 = sI S (100 + 3 * sN S (2000 + k)) 0
def smKp (S : ST) : Prop := ∀ k, k < sN S 0 → (∀ d, d < 10 → sI S (101 + 3 * k) d = nI (pcR S 0 (nI k) (nI d) (sN S 2))) ∧ sI S (100 + 3 * k) 3 = nI (pcR S 0 (nI k) (-1) (sN S 2))
def smKn (S : ST) : Prop := ∀ k, k < sN S 1 → (∀ d, d < 10 → sI S (221 + 2 * k) d = nI (pcR S 1 (nI k) (nI d) (sN S 2))) ∧ sI S (220 + 2 * k) 3 = nI (pcR S 1 (nI k) (-1) (sN S 2))
def smG (S : ST) : Prop := (∀ k, k < sN S 1 → (sI S (220 + 2 * k) 5 = 0 ↔ ¬ ogR S (nI k) (sN S 7))) ∧ ∀ e, e < sN S 7 → ∃ m, m < sN S 1 ∧ sI S 713 e = nI m
def smC (S : ST) : Prop := (sN S 20 = sN S 0 ∧ sN S 21 = sN S 1 ∧ sN S 22 = sN S 2 ∧ sN S 23 = sN S 7) ∧ bdS S ∧ sN S 7 ≤ 100
def mI3 (S : ST) : Prop := (∀ k, k < 160 → ∃ p, p < 40 ∧ sI S 709 k = nI p) ∧ (∀ k, k < 160 → sI S 710 k = -1 ∨ ∃ n, n < 40 ∧ sI S 710 k = nI n) ∧ ∀ k, k < 160 → ∃ e, e < 10 ∧ sI S 711 k = nI e
def gT (S : ST) : Prop := smC S ∧ smP S ∧ smN S ∧ smQ S ∧ smKp S ∧ smKn S ∧ smG S ∧ smO S ∧ ciSh S ∧ ciPin S ∧ mI3 S
theorem pcR_cgS {S S' : ST} {s k t : Int32} : ∀ (n : Nat), (∀ p, p < n → sI S' 709 p = sI S 709 p ∧ sI S' 710 p = sI S 710 p ∧ sI S' 711 p = sI S 711 p) → pcR S' s k t n = pcR S s k t n
  | 0, _ => rfl
  | n + 1, h => by
    obtain ⟨h1, h2, h3⟩ := h n (by omega)
    unfold pcR
    rw [pcR_cgS n (fun p hp => h p (by omega))]
    congr 1
    simp only [pcC, hasC, h1, h2, h3]
theorem pcR_zero {S : ST} {s k t : Int32} : ∀ (n : Nat), (∀ p, p < n → ¬ hasC S s k p) → pcR S s k t n = 0
  | 0, _ => rfl
  | n + 1, h => by
    unfold pcR
    rw [pcR_zero n (fun p hp => h p (by omega)), if_neg (fun z => h n (by omega) z.1)]
theorem pcR_chg {S S' : ST} {s x t : Int32} {k : Nat} (h : ∀ p, p ≠ k → (pcC S' s x t p ↔ pcC S s x t p)) : ∀ (n : Nat), k < n → pcR S' s x t n + (if pcC S s x t k then 1 else 0) = pcR S s x t n + (if pcC S' s x t k then 1 else 0)
  | 0, hk => by omega
  | n + 1, hk => by
    have low : ∀ m, m ≤ k → pcR S' s x t m = pcR S s x t m := by
      intro m
      induction m with
      | zero => intro _; rfl
      | succ m ih =>
        intro hm
        unfold pcR
        rw [ih (by omega)]
        congr 1
        simp only [h m (by omega)]
    unfold pcR
    by_cases e : k = n
    · subst e
      rw [low k (Nat.le_refl _)]
      omega
    · have := pcR_chg h n (by omega)
      have e2 : (if pcC S' s x t n then 1 else 0) = (if pcC S s x t n then 1 else 0) := by
        simp only [h n (by omega)]
      rw [e2]
      omega
theorem ogR_cg {S S' : ST} {n : Int32} {m : Nat} (h : ∀ j, j < m → sI S' 713 j = sI S 713 j ∧ sJ S' 714 j = sJ S 714 j ∧ sJ S' 715 j = sJ S 715 j) : ogR S' n m ↔ ogR S n m := by
  constructor
  · rintro ⟨j, hj, z⟩
    refine ⟨j, hj, ?_⟩
    obtain ⟨a, b, c⟩ := h j hj
    unfold ogC at *
    rw [a, b, c] at z
    exact z
  · rintro ⟨j, hj, z⟩
    refine ⟨j, hj, ?_⟩
    obtain ⟨a, b, c⟩ := h j hj
    unfold ogC at *
    rw [a, b, c]
    exact z
theorem tok_cg {S S' : ST} (hN : ∀ m, m < 3 → sN S' m = sN S m) {c q : Nat} : tok S' c q ↔ tok S c q := by
  unfold tok
  rw [hN 0 (by decide), hN 1 (by decide), hN 2 (by decide)]
theorem tid_bd {S : ST} (hb : bdS S) {c q : Nat} (h : tok S c q) : 100 ≤ tid c q ∧ tid c q < 460 := by
  unfold bdS at hb
  unfold tid
  rcases h with ⟨rfl, h1⟩ | ⟨rfl, h1⟩ | ⟨rfl, h1⟩
  · rw [if_pos rfl]; omega
  · rw [if_neg (by decide), if_pos rfl]; omega
  · rw [if_neg (by decide), if_neg (by decide)]; omega
theorem smO.cg {S S' : ST} (h : smO S) (hb : bdS S) (hN : ∀ m, m < 3 ∨ (1000 ≤ m ∧ m < 2000) → sN S' m = sN S m) (hI : ∀ c q, tok S c q → sI S' (tid c q) 0 = sI S (tid c q) 0) : smO S' := by
  have n0 := hN 0 (by omega)
  have n1 := hN 1 (by omega)
  have n2 := hN 2 (by omega)
  have hb0 := hb
  unfold bdS at hb0
  obtain ⟨o1, o2, o3⟩ := h
  have hid : ∀ i, i < sN S 0 + sN S 1 + sN S 2 → idN S' (sN S (1000 + i)) = idN S (sN S (1000 + i)) := by
    intro i hi
    obtain ⟨c, q, a, b⟩ := o1 i hi
    have a' : tok S' c q := (tok_cg (fun m hm => hN m (by omega))).mpr a
    have hb' : bdS S' := by unfold bdS; rw [n0, n1, n2]; exact hb0
    rw [b, idN_tid hb a, idN_tid hb' a']
    unfold plN shN
    rw [hI c q a]
  unfold smO
  rw [n0, n1, n2]
  refine ⟨fun i hi => ?_, fun c q hc => ?_, fun i j h1 h2 => ?_⟩
  · rw [hN (1000 + i) (by omega)]
    obtain ⟨c, q, a, b⟩ := o1 i hi
    exact ⟨c, q, (tok_cg (fun m hm => hN m (by omega))).mpr a, b⟩
  · obtain ⟨i, a, b⟩ := o2 c q ((tok_cg (fun m hm => hN m (by omega))).mp hc)
    exact ⟨i, a, by rw [hN (1000 + i) (by omega)]; exact b⟩
  · rw [hN (1000 + i) (by omega), hN (1000 + j) (by omega), hid i (by omega), hid j h2]
    exact o3 i j h1 h2
theorem gT.cg {S S' : ST} (h : gT S) (hI : ∀ m, (100 ≤ m ∧ m < 460) ∨ m = 705 ∨ (707 ≤ m ∧ m ≤ 711) ∨ m = 713 → sI S' m = sI S m) (hJ : ∀ m, (100 ≤ m ∧ m < 460) ∨ m = 706 ∨ m = 714 ∨ m = 715 → sJ S' m = sJ S m) (hR : ∀ m, 300 ≤ m → m < 460 → sR S' m = sR S m) (hN : ∀ m, m < 3 ∨ m = 7 ∨ (20 ≤ m ∧ m ≤ 23) ∨ (1000 ≤ m ∧ m < 3000) → sN S' m = sN S m) : gT S' := by
  obtain ⟨⟨⟨c1, c2, c3, c4⟩, hb, c5⟩, hP, hNn, hQ, hKp, hKn, hG, hO, hS, hPi, hM⟩ := h
  have n0 := hN 0 (by omega)
  have n1 := hN 1 (by omega)
  have n2 := hN 2 (by omega)
  have n7 := hN 7 (by omega)
  have hb0 := hb
  unfold bdS at hb0
  have hpc : ∀ s k t n, pcR S' s k t n = pcR S s k t n := fun s k t n => pcR_cgS n (fun p _ => by rw [hI 709 (by omega), hI 710 (by omega), hI 711 (by omega)]; exact ⟨rfl, rfl, rfl⟩)
  refine ⟨⟨⟨?_, ?_, ?_, ?_⟩, ?_, ?_⟩, fun k hk => ?_, fun k hk => ?_, fun k hk => ?_, fun k hk => ?_, fun k hk => ?_, ⟨fun k hk => ?_, fun e he => ?_⟩, ?_, ⟨fun k hk => ?_, fun k hk => ?_, fun k hk => ?_⟩, fun k hk => ?_, ?_⟩
  · rw [hN 20 (by omega), n0]; exact c1
  · rw [hN 21 (by omega), n1]; exact c2
  · rw [hN 22 (by omega), n2]; exact c3
  · rw [hN 23 (by omega), n7]; exact c4
  · unfold bdS; rw [n0, n1, n2]; exact hb0
  · rw [n7]; exact c5
  · rw [n0] at hk
    rw [hI 705 (by omega), hI (100 + 3 * k) (by omega), hJ 706 (by omega), hJ (102 + 3 * k) (by omega)]
    exact hP k hk
  · rw [n1] at hk
    rw [hI 707 (by omega), hI 708 (by omega), hI (220 + 2 * k) (by omega)]
    exact hNn k hk
  · rw [n2] at hk
    have hp := (hPi k hk).2.1
    rw [hI 709 (by omega), hI 710 (by omega), hI 711 (by omega), hI (300 + k) (by omega), hN (2000 + k) (by omega), hR (300 + k) (by omega) (by omega), hI (100 + 3 * sN S (2000 + k)) (by omega)]
    exact hQ k hk
  · rw [n0] at hk
    rw [hI (101 + 3 * k) (by omega), hI (100 + 3 * k) (by omega), n2]
    simp only [hpc]
    exact hKp k hk
  · rw [n1] at hk
    rw [hI (221 + 2 * k) (by omega), hI (220 + 2 * k) (by omega), n2]
    simp only [hpc]
    exact hKn k hk
  · rw [n1] at hk
    rw [hI (220 + 2 * k) (by omega), n7, ogR_cg (S := S) (fun j _ => by rw [hI 713 (by omega), hJ 714 (by omega), hJ 715 (by omega)]; exact ⟨rfl, rfl, rfl⟩)]
    exact hG.1 k hk
  · rw [n7] at he
    rw [n1, hI 713 (by omega)]
    exact hG.2 e he
  · refine hO.cg hb (fun m hm => hN m (by omega)) (fun c q hc => ?_)
    have := tid_bd hb hc
    rw [hI (tid c q) (by omega)]
  · rw [n0] at hk; rw [hI (100 + 3 * k) (by omega)]; exact hS.1 k hk
  · rw [n1] at hk; rw [hI (220 + 2 * k) (by omega)]; exact hS.2.1 k hk
  · rw [n2] at hk; rw [hI (300 + k) (by omega)]; exact hS.2.2 k hk
  · rw [n2] at hk
    rw [hI (300 + k) (by omega), hN (2000 + k) (by omega), n0, n1, hR (300 + k) (by omega) (by omega)]
    exact hPi k hk
  · unfold mI3
    rw [hI 709 (by omega), hI 710 (by omega), hI 711 (by omega)]
    exact hM
theorem zf8_at {g : Nat → Int64} {b : Nat} : ∀ (m i j : Nat), zf8 g b m i j = if b + i ≤ j ∧ j < b + i + m then 0 else g j
  | 0, i, j => by
    unfold zf8
    rw [if_neg (by omega)]
  | m + 1, i, j => by
    unfold zf8
    have key : ∀ (f : Nat → Int64) (m i : Nat), zf8 f b m i j = if b + i ≤ j ∧ j < b + i + m then 0 else f j := by
      intro f m
      induction m generalizing f with
      | zero => intro i; unfold zf8; rw [if_neg (by omega)]
      | succ m ih =>
        intro i
        unfold zf8
        rw [ih]
        unfold vp_updL
        by_cases e : j = b + i
        · rw [if_neg (by omega), if_pos e, if_pos (by omega)]
        · by_cases e2 : b + (i + 1) ≤ j ∧ j < b + (i + 1) + m
          · rw [if_pos e2, if_pos (by omega)]
          · rw [if_neg e2, if_neg e, if_neg (by omega)]
    rw [key]
    unfold vp_updL
    by_cases e : j = b + i
    · rw [if_neg (by omega), if_pos e, if_pos (by omega)]
    · by_cases e2 : b + (i + 1) ≤ j ∧ j < b + (i + 1) + m
      · rw [if_pos e2, if_pos (by omega)]
      · rw [if_neg e2, if_neg e, if_neg (by omega)]
theorem ordP_N {S : ST} (h : smO S) (hb : bdS S) (hs : ciSh S) {k : Nat} (hk : k < sN S 0 + sN S 1 + sN S 2) : ordP S k = nI (idN S (sN S (1000 + k))) := by
  obtain ⟨c, q, a, b⟩ := h.1 k hk
  obtain ⟨h1, h2, h3⟩ := a.bd hb
  obtain ⟨e1, e2⟩ := tcq h1 ⟨h2, h3⟩
  unfold ordP
  rw [b, e1, e2, hs.pl a, idN_tid hb a]
