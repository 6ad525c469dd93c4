/-! both states side by side: the things -/
def oI (o : Option Nat) : Int32 := match o with
  | none => -1
  | some n => nI n
def shN (S : ST) (c q : Nat) : Nat := (sI S (tid c q) 0).toNatClampNeg
def plN (S : ST) (c q : Nat) : Nat := (shN S c q * 3 + c) * 160 + q
def idN (S : ST) (i : Nat) : Nat := plN S (tc i) (tq i)
theorem nI_mul (a b : Nat) : nI a * nI b = nI (a * b) := (Int32.ofNat_mul a b).symm
theorem tok.c3 {S : ST} {c q : Nat} (h : tok S c q) : c < 3 := by
  rcases h with ⟨h, -⟩ | ⟨h, -⟩ | ⟨h, -⟩ <;> omega
theorem ciSh.sh {S : ST} (h : ciSh S) {c q : Nat} (ht : tok S c q) : shN S c q < 16 ∧ sI S (tid c q) 0 = nI (shN S c q) := by
  have key : ∃ s, s < 16 ∧ sI S (tid c q) 0 = nI s := by
    rcases ht with ⟨rfl, hq⟩ | ⟨rfl, hq⟩ | ⟨rfl, hq⟩
    · exact h.1 q hq
    · exact h.2.1 q hq
    · exact h.2.2 q hq
  obtain ⟨s, hs, e⟩ := key
  have : shN S c q = s := by
    unfold shN
    rw [e, nI_clamp (by omega)]
  rw [this]
  exact ⟨hs, e⟩
theorem ciSh.pl {S : ST} (h : ciSh S) {c q : Nat} (ht : tok S c q) : plc S c q = nI (plN S c q) := by
  unfold plc plN
  rw [(h.sh ht).2, show (3 : Int32) = nI 3 from rfl, nI_mul, nI_add, show (160 : Int32) = nI 160 from rfl, nI_mul, nI_add]
def bdS (S : ST) : Prop := sN S 0 ≤ 40 ∧ sN S 1 ≤ 40 ∧ sN S 2 ≤ 160
theorem tok.bd {S : ST} (hb : bdS S) {c q : Nat} (h : tok S c q) : c < 3 ∧ q < 160 ∧ (c < 2 → q < 40) := by
  unfold bdS at hb
  rcases h with ⟨h, h1⟩ | ⟨h, h1⟩ | ⟨h, h1⟩ <;> omega
theorem tid_inj {c q d p : Nat} (hc : c < 3) (hd : d < 3) (hq : q < 160 ∧ (c < 2 → q < 40)) (hp : p < 160 ∧ (d < 2 → p < 40)) (h : tid c q = tid d p) : c = d ∧ q = p := by
  unfold tid at h
  rcases (show c = 0 ∨ c = 1 ∨ c = 2 by omega) with rfl | rfl | rfl
  · rcases (show d = 0 ∨ d = 1 ∨ d = 2 by omega) with rfl | rfl | rfl <;> simp at h <;> omega
  · rcases (show d = 0 ∨ d = 1 ∨ d = 2 by omega) with rfl | rfl | rfl <;> simp at h <;> omega
  · rcases (show d = 0 ∨ d = 1 ∨ d = 2 by omega) with rfl | rfl | rfl <;> simp at h <;> omega
theorem tcq {c q : Nat} (hc : c < 3) (hq : q < 160 ∧ (c < 2 → q < 40)) : tc (tid c q) = c ∧ tq (tid c q) = q := by
  unfold tid tc tq
  rcases (show c = 0 ∨ c = 1 ∨ c = 2 by omega) with rfl | rfl | rfl
  · simp only [if_true]
    rw [if_pos (by omega), if_pos (by omega)]
    omega
  · simp only [show ¬ (1 : Nat) = 0 by decide, if_false, if_true]
    rw [if_neg (by omega), if_pos (by omega), if_neg (by omega), if_pos (by omega)]
    omega
  · simp only [show ¬ (2 : Nat) = 0 by decide, show ¬ (2 : Nat) = 1 by decide, if_false]
    rw [if_neg (by omega), if_neg (by omega), if_neg (by omega), if_neg (by omega)]
    omega
theorem idN_tid {S : ST} (hb : bdS S) {c q : Nat} (h : tok S c q) : idN S (tid c q) = plN S c q := by
  obtain ⟨h1, h2, h3⟩ := h.bd hb
  obtain ⟨e1, e2⟩ := tcq h1 ⟨h2, h3⟩
  unfold idN
  rw [e1, e2]
theorem plN_lt {S : ST} (hs : ciSh S) (hb : bdS S) {c q : Nat} (h : tok S c q) : plN S c q < 7680 := by
  obtain ⟨h1, h2, h3⟩ := h.bd hb
  have := (hs.sh h).1
  unfold plN
  omega
theorem plN_inj {S : ST} (hb : bdS S) {c q d p : Nat} (h : tok S c q) (h' : tok S d p) (e : plN S c q = plN S d p) : c = d ∧ q = p := by
  obtain ⟨h1, h2, h3⟩ := h.bd hb
  obtain ⟨g1, g2, g3⟩ := h'.bd hb
  unfold plN at e
  omega
def smO (S : ST) : Prop := (∀ i, i < sN S 0 + sN S 1 + sN S 2 → ∃ c q, tok S c q ∧ sN S (1000 + i) = tid c q) ∧ (∀ c q, tok S c q → ∃ i, i < sN S 0 + sN S 1 + sN S 2 ∧ sN S (1000 + i) = tid c q) ∧ ∀ i j, i < j → j < sN S 0 + sN S 1 + sN S 2 → idN S (sN S (1000 + i)) < idN S (sN S (1000 + j))
theorem insP_spec {pl : Nat → Int32} {P : Int32} : ∀ (n : Nat), insP pl P n ≤ n ∧ (∀ k, insP pl P n ≤ k → k < n → P < pl k) ∧ (insP pl P n = 0 ∨ ¬ P < pl (insP pl P n - 1))
  | 0 => ⟨Nat.le_refl _, fun k _ h => by omega, Or.inl rfl⟩
  | n + 1 => by
    unfold insP
    split
    · rename_i h
      obtain ⟨a, b, c⟩ := insP_spec (pl := pl) (P := P) n
      refine ⟨by omega, fun k h1 h2 => ?_, c⟩
      by_cases e : k = n
      · rw [e]; exact h
      · exact b k h1 (by omega)
    · rename_i h
      exact ⟨Nat.le_refl _, fun k h1 h2 => by omega, Or.inr (by rw [Nat.add_sub_cancel]; exact h)⟩
/-- a new thing joins the order -/
theorem smO.ins {S S' : ST} {c n p : Nat} (h : smO S) (hb : bdS S) (hs : ciSh S) (hc : c < 3) (hn : sN S c = n) (hb' : bdS S') (hs' : ciSh S') (hT : sN S' 0 + sN S' 1 + sN S' 2 = sN S 0 + sN S 1 + sN S 2 + 1) (ht : ∀ d q, tok S' d q ↔ tok S d q ∨ (d = c ∧ q = n)) (hpl : ∀ d q, tok S d q → plN S' d q = plN S d q) (hk : ∀ k, k < 1000 → sN S' (1000 + k) = va_up (shf (fun m => sN S (1000 + m)) (sN S 0 + sN S 1 + sN S 2) p) p (tid c n) k) {pl : Nat → Int32} {P : Int32} (hp : p = insP pl P (sN S 0 + sN S 1 + sN S 2)) (epl : ∀ k, k < sN S 0 + sN S 1 + sN S 2 → pl k = nI (idN S (sN S (1000 + k)))) (eP : P = nI (plN S' c n)) : smO S' := by
  obtain ⟨o1, o2, o3⟩ := h
  obtain ⟨i1, i2, i3⟩ := insP_spec (pl := pl) (P := P) (sN S 0 + sN S 1 + sN S 2)
  rw [← hp] at i1 i2 i3
  have hb0 := hb
  unfold bdS at hb0
  have hnew : tok S' c n := (ht c n).mpr (Or.inr ⟨rfl, rfl⟩)
  have hold : ∀ k, k < sN S 0 + sN S 1 + sN S 2 → ∃ d q, tok S d q ∧ sN S (1000 + k) = tid d q ∧ idN S (sN S (1000 + k)) = plN S d q ∧ idN S' (sN S (1000 + k)) = plN S d q := by
    intro k hk'
    obtain ⟨d, q, a, b⟩ := o1 k hk'
    refine ⟨d, q, a, b, by rw [b, idN_tid hb a], ?_⟩
    rw [b, idN_tid hb' ((ht d q).mpr (Or.inl a)), hpl d q a]
  have ePlt := plN_lt hs' hb' hnew
  have eid : idN S' (tid c n) = plN S' c n := idN_tid hb' hnew
  have below : ∀ k, k < p → idN S' (sN S (1000 + k)) < plN S' c n := by
    intro k hkp
    obtain ⟨d, q, a, b, e1, e2⟩ := hold (p - 1) (by omega)
    rcases i3 with z | z
    · omega
    · rw [epl (p - 1) (by omega), e1, eP, nI_ltI (by omega) (by have := plN_lt hs hb a; omega)] at z
      have hne : plN S d q ≠ plN S' c n := by
        intro hz
        rw [← hpl d q a] at hz
        obtain ⟨x1, x2⟩ := plN_inj hb' ((ht d q).mpr (Or.inl a)) hnew hz
        subst x1; subst x2
        rcases a with ⟨y, a⟩ | ⟨y, a⟩ | ⟨y, a⟩
        · subst y; omega
        · subst y; omega
        · subst y; omega
      obtain ⟨d', q', a', b', e1', e2'⟩ := hold k (by omega)
      rw [e2']
      by_cases hkk : k = p - 1
      · rw [← e1', hkk, e1]; omega
      · have := o3 k (p - 1) (by omega) (by omega)
        rw [e1', e1] at this
        omega
  have above : ∀ k, p ≤ k → k < sN S 0 + sN S 1 + sN S 2 → plN S' c n < idN S' (sN S (1000 + k)) := by
    intro k h1 h2
    obtain ⟨d, q, a, b, e1, e2⟩ := hold k h2
    have z := i2 k h1 h2
    rw [epl k h2, e1, eP, nI_ltI (by omega) (by have := plN_lt hs hb a; omega)] at z
    rw [e2]; exact z
  have kold : ∀ i j, i < j → j < sN S 0 + sN S 1 + sN S 2 → idN S' (sN S (1000 + i)) < idN S' (sN S (1000 + j)) := by
    intro i j h1 h2
    obtain ⟨d, q, a, b, e1, e2⟩ := hold i (by omega)
    obtain ⟨d', q', a', b', e1', e2'⟩ := hold j h2
    rw [e2, e2', ← e1, ← e1']
    exact o3 i j h1 h2
  have vlt : ∀ k, k < p → sN S' (1000 + k) = sN S (1000 + k) := fun k h1 => by
    rw [hk k (by omega), va_up_ne _ _ (by omega)]
    unfold shf
    rw [if_neg (by omega)]
  have veq : sN S' (1000 + p) = tid c n := by rw [hk p (by omega), va_up_self]
  have vgt : ∀ k, p < k → k ≤ sN S 0 + sN S 1 + sN S 2 → sN S' (1000 + k) = sN S (1000 + (k - 1)) := fun k h1 h2 => by
    rw [hk k (by omega), va_up_ne _ _ (by omega)]
    unfold shf
    rw [if_pos ⟨h1, h2⟩]
  refine ⟨fun i hi => ?_, fun d q hd => ?_, fun i j hij hj => ?_⟩
  · rw [hT] at hi
    by_cases e : i = p
    · rw [e, veq]; exact ⟨c, n, hnew, rfl⟩
    · by_cases e1 : i < p
      · rw [vlt i e1]
        obtain ⟨d, q, a, b⟩ := o1 i (by omega)
        exact ⟨d, q, (ht d q).mpr (Or.inl a), b⟩
      · rw [vgt i (by omega) (by omega)]
        obtain ⟨d, q, a, b⟩ := o1 (i - 1) (by omega)
        exact ⟨d, q, (ht d q).mpr (Or.inl a), b⟩
  · rw [hT]
    rcases (ht d q).mp hd with a | ⟨rfl, rfl⟩
    · obtain ⟨i, b1, b2⟩ := o2 d q a
      by_cases e1 : i < p
      · exact ⟨i, by omega, by rw [vlt i e1]; exact b2⟩
      · exact ⟨i + 1, by omega, by rw [vgt (i + 1) (by omega) (by omega), Nat.add_sub_cancel]; exact b2⟩
    · exact ⟨p, by omega, veq⟩
  · rw [hT] at hj
    by_cases ej : j = p
    · rw [ej, veq, vlt i (by omega), eid]
      exact below i (by omega)
    · by_cases e1 : j < p
      · rw [vlt i (by omega), vlt j e1]
        exact kold i j hij (by omega)
      · rw [vgt j (by omega) (by omega)]
        by_cases ei : i = p
        · rw [ei, veq, eid]
          exact above (j - 1) (by omega) (by omega)
        · by_cases e2 : i < p
          · rw [vlt i e2]
            exact kold i (j - 1) (by omega) (by omega)
          · rw [vgt i (by omega) (by omega)]
            exact kold (i - 1) (j - 1) (by omega) (by omega)
