/-! what the two sides' contracts ask, out of Sim; the first state -/
theorem Sim.live {n : Nat} {S : ST} (h : Sim n S) : ciLive S := ⟨h.1.2.2.2.2.2.2.2.1.1, fun k hk => (h.1.2.2.2.2.2.2.2.2.2.1 k hk).2⟩
theorem Sim.ci {n : Nat} {S : ST} (h : Sim n S) : ciAll S := ⟨h.1.2.2.2.2.2.2.2.2.1, h.1.2.2.2.2.2.2.2.2.2.1, fun r hr => (h.2.1.2.2.2.1 r (by have := h.2.1.2.1; omega)).1, h.live.ord, h.2.1.ind⟩
theorem Sim.mi {n : Nat} {S : ST} (h : Sim n S) : mInv S := by
  obtain ⟨⟨c1, c2, c3, c4⟩, hb, c5⟩ := h.1.1
  unfold bdS at hb
  have hW := h.2.2.2.2.2.1
  exact ⟨⟨by omega, by omega, by omega, by omega, by have := hW.1; have := hW.2.1; omega⟩, h.1.2.2.2.2.2.2.2.2.2.2⟩
theorem Sim.ok {n : Nat} {S : ST} (h : Sim n S) : ∀ j s k, s < 3 → k < mny S s → j < sN S 25 → sI S 719 j = nI s → rOK S j (nI s) k := by
  intro j s k hs hk hj he
  have hj' : j < sN S 3 := by rw [← h.2.1.1]; exact hj
  obtain ⟨t1, t2, t3, t4, t5, -⟩ := h.2.1.2.2.1 j hj'
  obtain ⟨v, v1, -, -, -, v5⟩ := told_val h.1 h.2.1 hj' ((mny_tok h.1 hs).mp hk) (by rw [← t1]; exact he)
  exact ⟨sN S (3000 + j), v, by omega, t5, v1⟩
def S0 : ST := (fun i j => if i = 0 ∧ j = 11 then 1 else if i = 600 ∧ j = 25 then 1 else if i = 3 ∧ j = 11 then 1 else 0, fun _ _ => 0, fun _ _ => none, fun n => if n = 4 ∨ n = 5 ∨ n = 6 then 32 else if n = 8 then 1 else 0)
theorem S0_I {i j : Nat} (h : i ≠ 0 ∧ i ≠ 600 ∧ i ≠ 3) : sI S0 i j = 0 := by
  show (if i = 0 ∧ j = 11 then (1 : Int32) else if i = 600 ∧ j = 25 then 1 else if i = 3 ∧ j = 11 then 1 else 0) = 0
  rw [if_neg (fun z => h.1 z.1), if_neg (fun z => h.2.1 z.1), if_neg (fun z => h.2.2 z.1)]
theorem S0_N {m : Nat} (h : m ≠ 4 ∧ m ≠ 5 ∧ m ≠ 6 ∧ m ≠ 8) : sN S0 m = 0 := by
  show (if m = 4 ∨ m = 5 ∨ m = 6 then 32 else if m = 8 then 1 else 0) = 0
  rw [if_neg (by omega), if_neg (by omega)]
theorem si_0 : Sim 0 S0 := by
  have nt : ∀ c q, ¬ tok S0 c q := by
    intro c q z
    rcases z with ⟨-, z⟩ | ⟨-, z⟩ | ⟨-, z⟩
    · rw [S0_N (by decide)] at z; omega
    · rw [S0_N (by decide)] at z; omega
    · rw [S0_N (by decide)] at z; omega
  have n8 : sN S0 8 = 1 := rfl
  refine ⟨gT.zero ⟨rfl, rfl, rfl, rfl, rfl, rfl, rfl, rfl⟩ ⟨fun k _ => ⟨0, by decide, S0_I (by decide)⟩, fun k _ => Or.inr ⟨0, by decide, S0_I (by decide)⟩, fun k _ => ⟨0, by decide, S0_I (by decide)⟩⟩, ⟨rfl, by decide, fun r hr => by rw [S0_N (by decide)] at hr; omega, fun r hr => ?_, fun r hr => S0_N (by omega)⟩, fun i hi => ?_, fun i hi => ?_, ⟨⟨rfl, by decide, fun j hj => by rw [S0_N (by decide)] at hj; omega⟩, fun k => Or.inl (S0_I (by decide))⟩, ⟨rfl, by decide, fun i hi => by rw [S0_N (by decide)] at hi; omega, fun i j h1 h2 => by rw [S0_N (by decide)] at h2; omega⟩, ⟨⟨fun t ht => ?_, Or.inl rfl⟩, ⟨fun i hi => ?_, fun c q r ht => absurd ht (nt c q), fun i j h1 h2 => ?_⟩, ⟨fun i hi => ?_, fun c q r ht => absurd ht (nt c q), fun i j h1 h2 => ?_⟩, fun c q r hc hnt hq hr => ⟨S0_I (by decide), S0_I (by decide)⟩, fun x hx => Or.inl (S0_I (by decide)), fun _ => ⟨rfl, rfl⟩⟩, ⟨1, by decide, by decide, rfl, rfl⟩⟩
  · unfold wfR
    rw [S0_N (by omega)]
    exact ⟨by omega, Or.inl rfl⟩
  · rw [S0_I (by decide), S0_I (by decide)]
  · rw [S0_I (by decide), S0_I (by decide)]
    exact ⟨rfl, fun _ => rfl⟩
  · unfold capOK
    rcases (show t = 0 ∨ t = 1 ∨ t = 2 by omega) with rfl | rfl | rfl
    · decide
    · decide
    · decide
  · rw [n8, S0_N (by decide)] at hi; omega
  · rw [n8, S0_N (by decide)] at h2; omega
  · rw [S0_N (by decide)] at hi; omega
  · rw [S0_N (by decide)] at h2; omega
