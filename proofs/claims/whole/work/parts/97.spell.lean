/-! words: the class compares letters, the reference the word as one number -/
theorem skS_cg {f g : Nat → Int32} : ∀ (n i : Nat), (∀ j, i ≤ j → j < i + n → f j = g j) → skS f n i = skS g n i
  | 0, _, _ => rfl
  | n + 1, i, h => by
    unfold skS
    rw [h i (by omega) (by omega), skS_cg n (i + 1) (fun j h1 h2 => h j (by omega) (by omega))]
theorem skW_cg {f g : Nat → Int32} : ∀ (n i : Nat), (∀ j, i ≤ j → j < i + n → f j = g j) → skW f n i = skW g n i
  | 0, _, _ => rfl
  | n + 1, i, h => by
    unfold skW
    rw [h i (by omega) (by omega), skW_cg n (i + 1) (fun j h1 h2 => h j (by omega) (by omega))]
theorem skS_bd {f : Nat → Int32} : ∀ (n i : Nat), i ≤ skS f n i ∧ skS f n i ≤ i + n
  | 0, i => ⟨Nat.le_refl _, Nat.le_refl _⟩
  | n + 1, i => by
    unfold skS
    split
    · have := skS_bd (f := f) n (i + 1)
      omega
    · omega
theorem skW_bd {f : Nat → Int32} : ∀ (n i : Nat), i ≤ skW f n i ∧ skW f n i ≤ i + n
  | 0, i => ⟨Nat.le_refl _, Nat.le_refl _⟩
  | n + 1, i => by
    unfold skW
    split
    · omega
    · have := skW_bd (f := f) n (i + 1)
      omega
theorem skW_ns {f : Nat → Int32} : ∀ (n i j : Nat), i ≤ j → j < skW f n i → ¬ f j = 32
  | 0, i, j, h1, h2 => by
    unfold skW at h2
    omega
  | n + 1, i, j, h1, h2 => by
    unfold skW at h2
    split at h2
    · omega
    · rename_i h3
      by_cases e : j = i
      · rw [e]; exact h3
      · exact skW_ns n (i + 1) j (by omega) h2
def spN (d : Nat → Nat) : Nat → Nat
  | 0 => 0
  | m + 1 => spN d m * 256 + d m
theorem spN_lt {d : Nat → Nat} : ∀ (m : Nat), (∀ j, j < m → d j < 256) → spN d m < 256 ^ m
  | 0, _ => by simp [spN]
  | m + 1, h => by
    have h1 := spN_lt m (fun j hj => h j (by omega))
    have h2 := h m (by omega)
    unfold spN
    rw [Nat.pow_succ]
    omega
theorem spN_inj {d e : Nat → Nat} : ∀ (m n : Nat), (∀ j, j < m → 0 < d j ∧ d j < 256) → (∀ j, j < n → 0 < e j ∧ e j < 256) → spN d m = spN e n → m = n ∧ ∀ j, j < m → d j = e j
  | 0, 0, _, _, _ => ⟨rfl, fun j hj => by omega⟩
  | 0, n + 1, _, h2, h => by
    have := h2 n (by omega)
    simp only [spN] at h
    omega
  | m + 1, 0, h1, _, h => by
    have := h1 m (by omega)
    simp only [spN] at h
    omega
  | m + 1, n + 1, h1, h2, h => by
    have a1 := h1 m (by omega)
    have a2 := h2 n (by omega)
    simp only [spN] at h
    obtain ⟨q1, q2⟩ := spN_inj m n (fun j hj => h1 j (by omega)) (fun j hj => h2 j (by omega)) (by omega)
    refine ⟨by omega, fun j hj => ?_⟩
    by_cases z : j = m
    · subst z; subst q1; omega
    · exact q2 j (by omega)
theorem spF_snoc {f : Nat → Int32} : ∀ (m i : Nat) (v : Int64), spF f (m + 1) i v = sh8 (spF f m i v) ||| (f (i + m)).toInt64
  | 0, i, v => rfl
  | m + 1, i, v => by
    show spF f (m + 1) (i + 1) _ = sh8 (spF f m (i + 1) _) ||| _
    rw [spF_snoc m (i + 1), show i + 1 + m = i + (m + 1) by omega]
theorem sh8_or {a c : Nat} (ha : a < 2 ^ 56) (hc : c < 256) : sh8 (Int64.ofNat a) ||| (nI c).toInt64 = Int64.ofNat (a * 256 + c) := by
  have e8 : ((8 : Int32).toInt64 &&& 63) = 8 := by decide
  have ec : (nI c).toInt64 = Int64.ofNat c := Int64.toInt_inj.mp (by rw [Int32.toInt_toInt64, nI_toInt (by omega), Int64.toInt_ofNat_of_lt (by omega)])
  unfold sh8
  rw [e8, ec]
  apply Int64.toBitVec_inj.mp
  rw [Int64.toBitVec_or, Int64.toBitVec_shiftLeft, Int64.toBitVec_ofNat', Int64.toBitVec_ofNat', Int64.toBitVec_ofNat']
  rw [show (Int64.toBitVec 8).smod 64 = 8#64 by decide]
  apply BitVec.eq_of_toNat_eq
  simp only [BitVec.toNat_or, BitVec.shiftLeft_eq', BitVec.toNat_shiftLeft, BitVec.toNat_ofNat]
  rw [Nat.mod_eq_of_lt (show a < 2 ^ 64 by omega), Nat.mod_eq_of_lt (show c < 2 ^ 64 by omega), Nat.mod_eq_of_lt (show a * 256 + c < 2 ^ 64 by omega)]
  rw [show 8 % 2 ^ 64 = 8 by decide, Nat.mod_eq_of_lt (show a <<< 8 < 2 ^ 64 by rw [Nat.shiftLeft_eq]; omega), ← Nat.shiftLeft_add_eq_or_of_lt (show c < 2 ^ 8 by omega), Nat.shiftLeft_eq]
theorem spF_N {f : Nat → Int32} {d : Nat → Nat} {s : Nat} : ∀ (m : Nat), m ≤ 8 → (∀ j, j < m → d j < 256 ∧ f (s + j) = nI (d j)) → spF f m s 0 = Int64.ofNat (spN d m)
  | 0, _, _ => rfl
  | m + 1, hm, h => by
    have h1 := spN_lt m (fun j hj => (h j (by omega)).1)
    have h3 : 256 ^ m ≤ 256 ^ 7 := Nat.pow_le_pow_right (by omega) (by omega)
    rw [spF_snoc, spF_N m (by omega) (fun j hj => h j (by omega)), (h m (by omega)).2, sh8_or (by omega) (h m (by omega)).1]
    rfl
theorem i64_ofNat_inj {a b : Nat} (ha : a < 2 ^ 64) (hb : b < 2 ^ 64) (h : Int64.ofNat a = Int64.ofNat b) : a = b := by
  have h1 := congrArg (fun x => x.toBitVec.toNat) h
  simp only [Int64.toBitVec_ofNat', BitVec.toNat_ofNat] at h1
  omega
/-- a word of the text, spelt: it is the number of byt exactly if it is byt -/
theorem sp_iff {f : Nat → Int32} {s e : Nat} {byt : List Int32} (hse : s < e) (hf : ∀ j, s ≤ j → j < e → ltr (f j)) (hb : ∀ j, j < byt.length → ∃ d, 0 < d ∧ d < 256 ∧ byt.getD j 0 = nI d) (h8 : byt.length ≤ 8) (h0 : 0 < byt.length) (hl : e - s ≤ 160) (v : Int64) (hv : v = spF (fun j => byt.getD j 0) byt.length 0 0) : (if nI (e - s) ≤ 8 then spF f (e - s) s 0 else 0) = v ↔ wdIs f s e byt := by
  · have hf' : ∀ j, j < e - s → ∃ d, 0 < d ∧ d < 256 ∧ f (s + j) = nI d := by
      intro j hj
      obtain ⟨h1, h2⟩ := hf (s + j) (by omega) (by omega)
      have h3 : ¬ f (s + j) < 0 := fun z => h1 (by
        rw [Int32.lt_iff_toInt_lt] at z ⊢
        rw [show (0 : Int32).toInt = 0 by decide] at z
        rw [show (32 : Int32).toInt = 32 by decide]
        omega)
      obtain ⟨d, hd, ed⟩ := nI_of h3
      rw [ed] at h1 h2
      rw [show (32 : Int32) = nI 32 from rfl, nI_ltI hd (by omega)] at h1
      rw [show (126 : Int32) = nI 126 from rfl, nI_ltI (by omega) hd] at h2
      exact ⟨d, by omega, by omega, ed⟩
    have hd : ∃ d : Nat → Nat, ∀ j, j < e - s → 0 < d j ∧ d j < 256 ∧ f (s + j) = nI (d j) := ⟨fun j => (f (s + j)).toNatClampNeg, fun j hj => by
      obtain ⟨d, h1, h2, h3⟩ := hf' j hj
      show 0 < (f (s + j)).toNatClampNeg ∧ (f (s + j)).toNatClampNeg < 256 ∧ f (s + j) = nI (f (s + j)).toNatClampNeg
      rw [h3, nI_clamp (by omega)]
      exact ⟨h1, h2, rfl⟩⟩
    have hg : ∃ g : Nat → Nat, ∀ j, j < byt.length → 0 < g j ∧ g j < 256 ∧ byt.getD j 0 = nI (g j) := ⟨fun j => (byt.getD j 0).toNatClampNeg, fun j hj => by
      obtain ⟨d, h1, h2, h3⟩ := hb j hj
      show 0 < (byt.getD j 0).toNatClampNeg ∧ (byt.getD j 0).toNatClampNeg < 256 ∧ byt.getD j 0 = nI (byt.getD j 0).toNatClampNeg
      rw [h3, nI_clamp (by omega)]
      exact ⟨h1, h2, rfl⟩⟩
    obtain ⟨d, hd⟩ := hd
    obtain ⟨g, hg⟩ := hg
    have evg : v = Int64.ofNat (spN g byt.length) := by
      rw [hv]
      exact spF_N (s := 0) byt.length h8 (fun j hj => by rw [Nat.zero_add]; exact ⟨(hg j hj).2.1, (hg j hj).2.2⟩)
    have bg := spN_lt byt.length (fun j hj => (hg j hj).2.1)
    have bg8 : 256 ^ byt.length ≤ 256 ^ 8 := Nat.pow_le_pow_right (by omega) h8
    by_cases h9 : e - s ≤ 8
    · rw [if_pos (by rw [show (8 : Int32) = nI 8 from rfl]; exact nI_le h9 (by omega)), evg, spF_N (d := d) (e - s) h9 (fun j hj => ⟨(hd j hj).2.1, (hd j hj).2.2⟩)]
      have bd := spN_lt (e - s) (fun j hj => (hd j hj).2.1)
      have bd8 : 256 ^ (e - s) ≤ 256 ^ 8 := Nat.pow_le_pow_right (by omega) h9
      constructor
      · intro h
        obtain ⟨q1, q2⟩ := spN_inj _ _ (fun j hj => ⟨(hd j hj).1, (hd j hj).2.1⟩) (fun j hj => ⟨(hg j hj).1, (hg j hj).2.1⟩) (i64_ofNat_inj (by omega) (by omega) h)
        exact ⟨q1.symm, fun j hj => by rw [(hg j hj).2.2, (hd j (by omega)).2.2, q2 j (by omega)]⟩
      · intro h
        have : ∀ n, n ≤ byt.length → spN d n = spN g n := by
          intro n
          induction n with
          | zero => intro _; rfl
          | succ n ih =>
            intro hn
            have e1 : d n = g n := by
              have h2 := h.2 n (by omega)
              have h1 := h.1
              rw [(hg n (by omega)).2.2, (hd n (by omega)).2.2, nI_eq (by have := hg n (by omega); omega) (by have := hd n (by omega); omega)] at h2
              exact h2.symm
            unfold spN
            rw [ih (by omega), e1]
        rw [← h.1, this _ (Nat.le_refl _)]
    · rw [if_neg (by rw [show (8 : Int32) = nI 8 from rfl]; exact nI_ge (by omega) (by omega))]
      constructor
      · intro h
        exfalso
        rw [evg] at h
        have h1 := i64_ofNat_inj (a := 0) (by omega) (by omega) h
        obtain ⟨q, -⟩ := spN_inj (d := g) (e := g) 0 byt.length (fun j hj => by omega) (fun j hj => ⟨(hg j hj).1, (hg j hj).2.1⟩) (by rw [← h1]; rfl)
        omega
      · intro h
        exact absurd h.1 (by omega)
