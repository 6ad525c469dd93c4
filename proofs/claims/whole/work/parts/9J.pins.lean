/-! the things: a pin, a join -/
theorem pcR_iff {S S' : ST} {s k t : Int32} : ∀ (n : Nat), (∀ p, p < n → (pcC S' s k t p ↔ pcC S s k t p)) → pcR S' s k t n = pcR S s k t n
  | 0, _ => rfl
  | n + 1, h => by
    unfold pcR
    rw [pcR_iff n (fun p hp => h p (by omega))]
    congr 1
    simp only [h n (by omega)]
theorem i32_cancel {a b c : Int32} (h : a + c = b + c) : a = b := by
  have := congrArg (fun z => z - c) h
  simpa using this
theorem nI_m1 {n : Nat} (h : n < 2 ^ 31) : ¬ nI n = -1 := fun z => nI_pos h (by rw [z]; decide)
theorem oI_inj {o : Option Nat} {m : Nat} (hm : m < 40) (ho : ∀ b, o = some b → b < 40) : oI o = nI m ↔ o = some m := by
  cases o with
  | none => exact ⟨fun z => absurd z.symm (nI_m1 (by omega)), fun z => by cases z⟩
  | some b =>
    have := ho b rfl
    show nI b = nI m ↔ _
    rw [nI_eq (by omega) (by omega)]
    exact ⟨fun z => by rw [z], fun z => by cases z; rfl⟩
theorem gT.pin {S S' : ST} {n k0 d p : Nat} {o : Option Nat} {pl : Nat → Int32} (h : gT S) (hn : sN S 2 = n) (h160 : n < 160) (hk0 : k0 < sN S 0) (hd : d < 10) (ho : ∀ b, o = some b → b < sN S 1) (hI : ∀ m, m ≠ 600 → m ≠ 709 → m ≠ 710 → m ≠ 711 → m ≠ 300 + n → m ≠ 100 + 3 * k0 → m ≠ 101 + 3 * k0 → (∀ b, o = some b → m ≠ 220 + 2 * b ∧ m ≠ 221 + 2 * b) → sI S' m = sI S m) (hc1 : sI S' (101 + 3 * k0) = upd (sI S (101 + 3 * k0)) d (sI S (101 + 3 * k0) d + 1)) (hc0 : sI S' (100 + 3 * k0) = va_up (sI S (100 + 3 * k0)) 3 (sI S (100 + 3 * k0) 3 + 1)) (hcn : ∀ b, o = some b → sI S' (221 + 2 * b) = upd (sI S (221 + 2 * b)) d (sI S (221 + 2 * b) d + 1) ∧ sI S' (220 + 2 * b) = va_up (sI S (220 + 2 * b)) 3 (sI S (220 + 2 * b) 3 + 1)) (hp0 : sI S' (300 + n) = fun j => if j = 0 then sI S (100 + 3 * k0) 0 else if j = 3 then nI d else 0) (h709 : sI S' 709 = upd (sI S 709) n (nI k0)) (h710 : sI S' 710 = upd (sI S 710) n (oI o)) (h711 : sI S' 711 = upd (sI S 711) n (nI d)) (hJ : ∀ m, m ≠ 57 → sJ S' m = sJ S m) (hR : ∀ m, m ≠ 300 + n → sR S' m = sR S m) (hRn : sR S' (300 + n) = fun _ => o) (hN : ∀ m, m ≠ 2 → m ≠ 22 → m ≠ 2000 + n → (m < 1000 ∨ 2000 ≤ m) → sN S' m = sN S m) (hN2 : sN S' 2 = n + 1) (hN22 : sN S' 22 = n + 1) (hN2k : sN S' (2000 + n) = k0) (hO' : ∀ k, k < 1000 → sN S' (1000 + k) = va_up (shf (fun m => sN S (1000 + m)) (sN S 0 + sN S 1 + sN S 2) p) p (300 + n) k) (hp : p = insP pl ((sI S (100 + 3 * k0) 0 * 3 + 2) * 160 + nI n) (sN S 0 + sN S 1 + sN S 2)) (epl : ∀ k, k < sN S 0 + sN S 1 + sN S 2 → pl k = ordP S k) : gT S' := by
  obtain ⟨⟨⟨c1, c2, c3, c4⟩, hb, c5⟩, hP, hNn, hQ, hKp, hKn, hG, hO, hS, hPi, hM⟩ := h
  have n0 := hN 0 (by omega) (by omega) (by omega) (by omega)
  have n1 := hN 1 (by omega) (by omega) (by omega) (by omega)
  have n7 := hN 7 (by omega) (by omega) (by omega) (by omega)
  have hb0 := hb
  unfold bdS at hb0
  have hb' : bdS S' := ⟨by omega, by omega, by omega⟩
  have hhigh : ∀ m, 712 ≤ m → sI S' m = sI S m := fun m hm => hI m (by omega) (by omega) (by omega) (by omega) (by omega) (by omega) (by omega) (fun b hb => by have := ho b hb; omega)
  have h7x : ∀ m, m = 705 ∨ m = 707 ∨ m = 708 → sI S' m = sI S m := fun m hm => hI m (by omega) (by omega) (by omega) (by omega) (by omega) (by omega) (by omega) (fun b hb => by have := ho b hb; omega)
  have ep : ∀ k j, k < 40 → j ≠ 3 → sI S' (100 + 3 * k) j = sI S (100 + 3 * k) j := by
    intro k j hk hj
    by_cases e : k = k0
    · subst e; rw [hc0, va_up_ne _ _ hj]
    · rw [hI (100 + 3 * k) (by omega) (by omega) (by omega) (by omega) (by omega) (by omega) (by omega) (fun b hb => by omega)]
  have en : ∀ k j, k < 40 → j ≠ 3 → sI S' (220 + 2 * k) j = sI S (220 + 2 * k) j := by
    intro k j hk hj
    by_cases e : o = some k
    · rw [(hcn k e).2, va_up_ne _ _ hj]
    · rw [hI (220 + 2 * k) (by omega) (by omega) (by omega) (by omega) (by omega) (by omega) (by omega) (fun b hb => ⟨fun z => e (by rw [hb]; congr 1; omega), by omega⟩)]
  have eq : ∀ k, k < n → sI S' (300 + k) = sI S (300 + k) := fun k hk => hI (300 + k) (by omega) (by omega) (by omega) (by omega) (by omega) (by omega) (by omega) (fun b hb => by have := ho b hb; omega)
  have u709 : ∀ k, k < n → sI S' 709 k = sI S 709 k := fun k hk => by rw [h709]; exact if_neg (by omega)
  have u710 : ∀ k, k < n → sI S' 710 k = sI S 710 k := fun k hk => by rw [h710]; exact if_neg (by omega)
  have u711 : ∀ k, k < n → sI S' 711 k = sI S 711 k := fun k hk => by rw [h711]; exact if_neg (by omega)
  have t709 : sI S' 709 n = nI k0 := by rw [h709]; exact if_pos rfl
  have t710 : sI S' 710 n = oI o := by rw [h710]; exact if_pos rfl
  have t711 : sI S' 711 n = nI d := by rw [h711]; exact if_pos rfl
  have hpc : ∀ s k t, pcR S' s k t (n + 1) = pcR S s k t n + if pcC S' s k t n then 1 else 0 := fun s k t => by
    show pcR S' s k t n + (if pcC S' s k t n then 1 else 0) = _
    rw [pcR_cgS (S := S) n (fun p hp => ⟨u709 p hp, u710 p hp, u711 p hp⟩)]
  have hS' : ciSh S' := by
    refine ⟨fun k hk => ?_, fun k hk => ?_, fun k hk => ?_⟩
    · rw [ep k 0 (by omega) (by decide)]; exact hS.1 k (by omega)
    · rw [en k 0 (by omega) (by decide)]; exact hS.2.1 k (by omega)
    · by_cases e : k = n
      · subst e; rw [hp0]; exact hS.1 k0 hk0
      · rw [eq k (by omega)]; exact hS.2.2 k (by omega)
  have ht : ∀ e q, tok S' e q ↔ tok S e q ∨ (e = 2 ∧ q = n) := by
    intro e q
    unfold tok
    omega
  have hpl : ∀ e q, tok S e q → plN S' e q = plN S e q := by
    intro e q he
    have ee : sI S' (tid e q) 0 = sI S (tid e q) 0 := by
      rcases he with ⟨rfl, he⟩ | ⟨rfl, he⟩ | ⟨rfl, he⟩
      · exact ep q 0 (by omega) (by decide)
      · exact en q 0 (by omega) (by decide)
      · show sI S' (300 + q) 0 = _
        rw [eq q (by omega)]
        rfl
    unfold plN shN
    rw [ee]
  have htn : tok S' 2 n := (ht 2 n).mpr (Or.inr ⟨rfl, rfl⟩)
  have ngd : ∀ e, e < 10 → ¬ nI e < 0 := fun e he => nI_pos (by omega)
  refine ⟨⟨⟨?_, ?_, ?_, ?_⟩, hb', ?_⟩, fun k hk => ?_, fun k hk => ?_, fun k hk => ?_, fun k hk => ?_, fun k hk => ?_, ⟨fun k hk => ?_, fun e he => ?_⟩, ?_, hS', fun k hk => ?_, ?_⟩
  · rw [hN 20 (by omega) (by omega) (by omega) (by omega), n0]; exact c1
  · rw [hN 21 (by omega) (by omega) (by omega) (by omega), n1]; exact c2
  · omega
  · rw [hN 23 (by omega) (by omega) (by omega) (by omega), n7]; exact c4
  · rw [n7]; exact c5
  · rw [n0] at hk
    rw [h7x 705 (by omega), ep k 0 (by omega) (by decide), hJ 706 (by omega), hJ (102 + 3 * k) (by omega)]
    exact hP k hk
  · rw [n1] at hk
    rw [h7x 707 (by omega), h7x 708 (by omega), en k 0 (by omega) (by decide), en k 4 (by omega) (by decide)]
    exact hNn k hk
  · by_cases e : k = n
    · subst e
      rw [t709, t710, t711, hp0, hN2k, hRn, ep k0 0 (by omega) (by decide)]
      exact ⟨rfl, rfl, rfl, rfl⟩
    · have hk' : k < n := by omega
      have hp := (hPi k (by omega)).2.1
      rw [u709 k hk', u710 k hk', u711 k hk', eq k hk', hN (2000 + k) (by omega) (by omega) (by omega) (by omega), hR (300 + k) (by omega), ep (sN S (2000 + k)) 0 (by omega) (by decide)]
      exact hQ k (by omega)
  · rw [n0] at hk
    rw [hN2]
    simp only [hpc]
    obtain ⟨a1, a2⟩ := hKp k hk
    rw [hn] at a1 a2
    by_cases e : k = k0
    · subst e
      refine ⟨fun f hf => ?_, ?_⟩
      · rw [hc1]
        by_cases ef : f = d
        · subst ef
          rw [show upd (sI S (101 + 3 * k)) f (sI S (101 + 3 * k) f + 1) f = sI S (101 + 3 * k) f + 1 from if_pos rfl, if_pos ⟨Or.inl ⟨rfl, t709⟩, Or.inr t711⟩, a1 f hf, nI_1]
        · rw [show upd (sI S (101 + 3 * k)) d (sI S (101 + 3 * k) d + 1) f = sI S (101 + 3 * k) f from if_neg ef, if_neg (fun z => by
            rcases z.2 with q | q
            · exact ngd f hf q
            · rw [t711, nI_eq (by omega) (by omega)] at q; omega), a1 f hf]
          rfl
      · rw [hc0, va_up_self, if_pos ⟨Or.inl ⟨rfl, t709⟩, Or.inl (by decide)⟩, a2, nI_1]
    · have hno : ∀ t, ¬ pcC S' 0 (nI k) t n := fun t z => by
        rcases z.1 with ⟨-, q⟩ | ⟨q, -⟩
        · rw [t709, nI_eq (by omega) (by omega)] at q; omega
        · exact q rfl
      rw [hI (101 + 3 * k) (by omega) (by omega) (by omega) (by omega) (by omega) (by omega) (by omega) (fun b hb => by omega), hI (100 + 3 * k) (by omega) (by omega) (by omega) (by omega) (by omega) (by omega) (by omega) (fun b hb => by omega)]
      refine ⟨fun f hf => ?_, ?_⟩
      · rw [if_neg (hno _)]; exact a1 f hf
      · rw [if_neg (hno _)]; exact a2
  · rw [n1] at hk
    rw [hN2]
    simp only [hpc]
    obtain ⟨a1, a2⟩ := hKn k hk
    rw [hn] at a1 a2
    by_cases e : o = some k
    · have t710' : sI S' 710 n = nI k := by rw [t710, e]; rfl
      refine ⟨fun f hf => ?_, ?_⟩
      · rw [(hcn k e).1]
        by_cases ef : f = d
        · subst ef
          rw [show upd (sI S (221 + 2 * k)) f (sI S (221 + 2 * k) f + 1) f = sI S (221 + 2 * k) f + 1 from if_pos rfl, if_pos ⟨Or.inr ⟨by decide, t710'⟩, Or.inr t711⟩, a1 f hf, nI_1]
        · rw [show upd (sI S (221 + 2 * k)) d (sI S (221 + 2 * k) d + 1) f = sI S (221 + 2 * k) f from if_neg ef, if_neg (fun z => by
            rcases z.2 with q | q
            · exact ngd f hf q
            · rw [t711, nI_eq (by omega) (by omega)] at q; omega), a1 f hf]
          rfl
      · rw [(hcn k e).2, va_up_self, if_pos ⟨Or.inr ⟨by decide, t710'⟩, Or.inl (by decide)⟩, a2, nI_1]
    · have hno : ∀ t, ¬ pcC S' 1 (nI k) t n := fun t z => by
        rcases z.1 with ⟨q, -⟩ | ⟨-, q⟩
        · exact absurd q (by decide)
        · rw [t710, oI_inj (by omega) (fun b hb => by have := ho b hb; omega)] at q
          exact e q
      have hnb : ∀ b, o = some b → (221 + 2 * k ≠ 220 + 2 * b ∧ 221 + 2 * k ≠ 221 + 2 * b) ∧ (220 + 2 * k ≠ 220 + 2 * b ∧ 220 + 2 * k ≠ 221 + 2 * b) := fun b hb => by
        have : b ≠ k := fun z => e (by rw [hb, z])
        omega
      rw [hI (221 + 2 * k) (by omega) (by omega) (by omega) (by omega) (by omega) (by omega) (by omega) (fun b hb => (hnb b hb).1), hI (220 + 2 * k) (by omega) (by omega) (by omega) (by omega) (by omega) (by omega) (by omega) (fun b hb => (hnb b hb).2)]
      refine ⟨fun f hf => ?_, ?_⟩
      · rw [if_neg (hno _)]; exact a1 f hf
      · rw [if_neg (hno _)]; exact a2
  · rw [n1] at hk
    rw [en k 5 (by omega) (by decide), n7, ogR_cg (S := S) (fun j _ => by rw [hhigh 713 (by omega), hJ 714 (by omega), hJ 715 (by omega)]; exact ⟨rfl, rfl, rfl⟩)]
    exact hG.1 k hk
  · rw [n7] at he
    rw [n1, hhigh 713 (by omega)]
    exact hG.2 e he
  · refine hO.ins hb hS (c := 2) (n := n) (p := p) (by decide) hn hb' hS' (by omega) ht hpl hO' hp (fun k hk => (epl k hk).trans (ordP_N hO hb hS hk)) ?_
    rw [← hS'.pl htn]
    show _ = (sI S' (300 + n) 0 * 3 + nI 2) * 160 + nI n
    rw [hp0]
    rfl
  · by_cases e : k = n
    · subst e
      rw [hp0, hN2k, hRn, n0, n1]
      exact ⟨⟨d, hd, rfl⟩, hk0, ho⟩
    · rw [eq k (by omega), hN (2000 + k) (by omega) (by omega) (by omega) (by omega), n0, n1, hR (300 + k) (by omega)]
      exact hPi k (by omega)
  · obtain ⟨m1, m2, m3⟩ := hM
    refine ⟨fun k hk => ?_, fun k hk => ?_, fun k hk => ?_⟩
    · by_cases e : k = n
      · rw [e, t709]; exact ⟨k0, by omega, rfl⟩
      · rw [h709, show upd (sI S 709) n (nI k0) k = sI S 709 k from if_neg e]; exact m1 k hk
    · by_cases e : k = n
      · rw [e, t710]
        cases o with
        | none => exact Or.inl rfl
        | some b => exact Or.inr ⟨b, by have := ho b rfl; omega, rfl⟩
      · rw [h710, show upd (sI S 710) n (oI o) k = sI S 710 k from if_neg e]; exact m2 k hk
    · by_cases e : k = n
      · rw [e, t711]; exact ⟨d, hd, rfl⟩
      · rw [h711, show upd (sI S 711) n (nI d) k = sI S 711 k from if_neg e]; exact m3 k hk
theorem gT.join {S S' : ST} {k0 d : Nat} {o : Option Nat} (h : gT S) (hk0 : k0 < sN S 2) (hd : sI S (300 + k0) 3 = nI d) (hd10 : d < 10) (ho : ∀ b, o = some b → b < sN S 1) (hI : ∀ m, (m < 220 ∨ 300 ≤ m) → m ≠ 600 → m ≠ 710 → sI S' m = sI S m) (h710 : sI S' 710 = upd (sI S 710) k0 (oI o)) (hc : ∀ m, m < sN S 1 → (∀ e, sI S' (221 + 2 * m) e + (if sR S (300 + k0) 4 = some m ∧ e = d then 1 else 0) = sI S (221 + 2 * m) e + (if o = some m ∧ e = d then 1 else 0)) ∧ (sI S' (220 + 2 * m) 3 + (if sR S (300 + k0) 4 = some m then 1 else 0) = sI S (220 + 2 * m) 3 + (if o = some m then 1 else 0)) ∧ ∀ j, j ≠ 3 → sI S' (220 + 2 * m) j = sI S (220 + 2 * m) j) (hJ : ∀ m, m ≠ 57 → sJ S' m = sJ S m) (hR : ∀ m, m ≠ 300 + k0 → sR S' m = sR S m) (hRk : sR S' (300 + k0) 4 = o) (hN : ∀ m, sN S' m = sN S m) : gT S' := by
  obtain ⟨⟨⟨c1, c2, c3, c4⟩, hb, c5⟩, hP, hNn, hQ, hKp, hKn, hG, hO, hS, hPi, hM⟩ := h
  have hb0 := hb
  unfold bdS at hb0
  have e709 : sI S' 709 = sI S 709 := hI 709 (by omega) (by omega) (by omega)
  have e711 : sI S' 711 = sI S 711 := hI 711 (by omega) (by omega) (by omega)
  have t710 : sI S' 710 k0 = oI o := by rw [h710]; exact if_pos rfl
  have u710 : ∀ k, k ≠ k0 → sI S' 710 k = sI S 710 k := fun k hk => by rw [h710]; exact if_neg hk
  have hro : ∀ b, sR S (300 + k0) 4 = some b → b < sN S 1 := (hPi k0 hk0).2.2
  refine ⟨⟨⟨?_, ?_, ?_, ?_⟩, ?_, ?_⟩, fun k hk => ?_, fun k hk => ?_, fun k hk => ?_, fun k hk => ?_, fun k hk => ?_, ⟨fun k hk => ?_, fun e he => ?_⟩, ?_, ⟨fun k hk => ?_, fun k hk => ?_, fun k hk => ?_⟩, fun k hk => ?_, ?_⟩
  · rw [hN, hN]; exact c1
  · rw [hN, hN]; exact c2
  · rw [hN, hN]; exact c3
  · rw [hN, hN]; exact c4
  · unfold bdS; rw [hN, hN, hN]; exact hb0
  · rw [hN]; exact c5
  · rw [hN] at hk
    rw [hI 705 (by omega) (by omega) (by omega), hI (100 + 3 * k) (by omega) (by omega) (by omega), hJ 706 (by omega), hJ (102 + 3 * k) (by omega)]
    exact hP k hk
  · rw [hN] at hk
    rw [hI 707 (by omega) (by omega) (by omega), hI 708 (by omega) (by omega) (by omega), (hc k hk).2.2 0 (by decide), (hc k hk).2.2 4 (by decide)]
    exact hNn k hk
  · rw [hN] at hk
    have hp := (hPi k hk).2.1
    rw [e709, e711, hI (300 + k) (by omega) (by omega) (by omega), hN, hI (100 + 3 * sN S (2000 + k)) (by omega) (by omega) (by omega)]
    obtain ⟨q1, q2, q3, q4⟩ := hQ k hk
    refine ⟨q1, q2, ?_, q4⟩
    by_cases e : k = k0
    · subst e; rw [t710, hRk]
    · rw [u710 k e, hR (300 + k) (by omega)]; exact q3
  · rw [hN] at hk
    rw [hN]
    have hpc : ∀ t, pcR S' 0 (nI k) t (sN S 2) = pcR S 0 (nI k) t (sN S 2) := fun t => pcR_iff _ (fun p hp => by
      unfold pcC hasC
      rw [e709, e711]
      constructor
      · rintro ⟨q | q, r⟩
        · exact ⟨Or.inl q, r⟩
        · exact absurd rfl q.1
      · rintro ⟨q | q, r⟩
        · exact ⟨Or.inl q, r⟩
        · exact absurd rfl q.1)
    rw [hI (101 + 3 * k) (by omega) (by omega) (by omega), hI (100 + 3 * k) (by omega) (by omega) (by omega)]
    simp only [hpc]
    exact hKp k hk
  · rw [hN] at hk
    rw [hN]
    obtain ⟨a1, a2⟩ := hKn k hk
    obtain ⟨b1, b2, -⟩ := hc k hk
    have hch : ∀ t, pcR S' 1 (nI k) t (sN S 2) + (if pcC S 1 (nI k) t k0 then 1 else 0) = pcR S 1 (nI k) t (sN S 2) + (if pcC S' 1 (nI k) t k0 then 1 else 0) := fun t => pcR_chg (fun p hp => by
      unfold pcC hasC
      rw [e709, e711, u710 p hp]) (sN S 2) hk0
    have x710 : sI S 710 k0 = nI k ↔ sR S (300 + k0) 4 = some k := by
      rw [(hQ k0 hk0).2.2.1]
      exact oI_inj (by omega) (fun b hb => by have := hro b hb; omega)
    have y710 : sI S' 710 k0 = nI k ↔ o = some k := by
      rw [t710]
      exact oI_inj (by omega) (fun b hb => by have := ho b hb; omega)
    have x711 : sI S 711 k0 = nI d := by rw [(hQ k0 hk0).1]; exact hd
    have nif : ∀ (c : Prop) [Decidable c], (if c then (1 : Int32) else 0) = nI (if c then 1 else 0) := fun c _ => by split <;> rfl
    refine ⟨fun f hf => ?_, ?_⟩
    · have z1 : pcC S 1 (nI k) (nI f) k0 ↔ (sR S (300 + k0) 4 = some k ∧ f = d) := by
        unfold pcC hasC
        rw [x710, x711, nI_eq (by omega) (by omega)]
        constructor
        · rintro ⟨q, r⟩
          exact ⟨q.elim (fun q => absurd q.1 (by decide)) (fun q => q.2), r.elim (fun r => absurd r (nI_pos (by omega))) (fun r => r.symm)⟩
        · rintro ⟨q, r⟩
          exact ⟨Or.inr ⟨by decide, q⟩, Or.inr r.symm⟩
      have z2 : pcC S' 1 (nI k) (nI f) k0 ↔ (o = some k ∧ f = d) := by
        unfold pcC hasC
        rw [y710, e711, x711, nI_eq (by omega) (by omega)]
        constructor
        · rintro ⟨q, r⟩
          exact ⟨q.elim (fun q => absurd q.1 (by decide)) (fun q => q.2), r.elim (fun r => absurd r (nI_pos (by omega))) (fun r => r.symm)⟩
        · rintro ⟨q, r⟩
          exact ⟨Or.inr ⟨by decide, q⟩, Or.inr r.symm⟩
      have h1 := b1 f
      have h2 := hch (nI f)
      simp only [z1, z2] at h2
      rw [a1 f hf, nif, nif, nI_add, ← h2, ← nI_add] at h1
      exact i32_cancel h1
    · have z1 : pcC S 1 (nI k) (-1) k0 ↔ sR S (300 + k0) 4 = some k := by
        unfold pcC hasC
        rw [x710]
        constructor
        · rintro ⟨q, r⟩
          exact q.elim (fun q => absurd q.1 (by decide)) (fun q => q.2)
        · intro q
          exact ⟨Or.inr ⟨by decide, q⟩, Or.inl (by decide)⟩
      have z2 : pcC S' 1 (nI k) (-1) k0 ↔ o = some k := by
        unfold pcC hasC
        rw [y710]
        constructor
        · rintro ⟨q, r⟩
          exact q.elim (fun q => absurd q.1 (by decide)) (fun q => q.2)
        · intro q
          exact ⟨Or.inr ⟨by decide, q⟩, Or.inl (by decide)⟩
      have h1 := b2
      have h2 := hch (-1)
      simp only [z1, z2] at h2
      rw [a2, nif, nif, nI_add, ← h2, ← nI_add] at h1
      exact i32_cancel h1
  · rw [hN] at hk
    rw [(hc k hk).2.2 5 (by decide), hN, ogR_cg (S := S) (fun j _ => by rw [hI 713 (by omega) (by omega) (by omega), hJ 714 (by omega), hJ 715 (by omega)]; exact ⟨rfl, rfl, rfl⟩)]
    exact hG.1 k hk
  · rw [hN] at he
    rw [hN, hI 713 (by omega) (by omega) (by omega)]
    exact hG.2 e he
  · refine hO.cg hb (fun m hm => hN m) (fun c q hc' => ?_)
    rcases id hc' with ⟨rfl, hq⟩ | ⟨rfl, hq⟩ | ⟨rfl, hq⟩
    · show sI S' (100 + 3 * q) 0 = sI S (100 + 3 * q) 0
      rw [hI (100 + 3 * q) (by omega) (by omega) (by omega)]
    · exact (hc q hq).2.2 0 (by decide)
    · show sI S' (300 + q) 0 = sI S (300 + q) 0
      rw [hI (300 + q) (by omega) (by omega) (by omega)]
  · rw [hN] at hk; rw [hI (100 + 3 * k) (by omega) (by omega) (by omega)]; exact hS.1 k hk
  · rw [hN] at hk; rw [(hc k hk).2.2 0 (by decide)]; exact hS.2.1 k hk
  · rw [hN] at hk; rw [hI (300 + k) (by omega) (by omega) (by omega)]; exact hS.2.2 k hk
  · rw [hN] at hk
    rw [hI (300 + k) (by omega) (by omega) (by omega), hN, hN, hN]
    obtain ⟨q1, q2, q3⟩ := hPi k hk
    refine ⟨q1, q2, ?_⟩
    by_cases e : k = k0
    · subst e; rw [hRk]; exact ho
    · rw [hR (300 + k) (by omega)]; exact q3
  · obtain ⟨m1, m2, m3⟩ := hM
    unfold mI3
    rw [e709, e711]
    refine ⟨m1, fun k hk => ?_, m3⟩
    by_cases e : k = k0
    · rw [e, t710]
      cases o with
      | none => exact Or.inl rfl
      | some b => exact Or.inr ⟨b, by have := ho b rfl; omega, rfl⟩
    · rw [u710 k e]; exact m2 k hk
