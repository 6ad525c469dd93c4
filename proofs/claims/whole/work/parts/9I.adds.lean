/-! the things: a part, a net, a field, an end, none -/
theorem gT.zero {S : ST} (h : sN S 0 = 0 ∧ sN S 1 = 0 ∧ sN S 2 = 0 ∧ sN S 7 = 0 ∧ sN S 20 = 0 ∧ sN S 21 = 0 ∧ sN S 22 = 0 ∧ sN S 23 = 0) (hM : mI3 S) : gT S := by
  obtain ⟨h0, h1, h2, h7, h20, h21, h22, h23⟩ := h
  have nt : ∀ c q, ¬ tok S c q := by
    intro c q z
    rcases z with ⟨-, z⟩ | ⟨-, z⟩ | ⟨-, z⟩ <;> omega
  refine ⟨⟨⟨by omega, by omega, by omega, by omega⟩, ⟨by omega, by omega, by omega⟩, by omega⟩, fun k hk => by omega, fun k hk => by omega, fun k hk => by omega, fun k hk => by omega, fun k hk => by omega, ⟨fun k hk => by omega, fun e he => by omega⟩, ⟨fun i hi => by omega, fun c q hc => absurd hc (nt c q), fun i j _ hj => by omega⟩, ⟨fun k hk => by omega, fun k hk => by omega, fun k hk => by omega⟩, fun k hk => by omega, hM⟩
theorem gT.part {S S' : ST} {n p : Nat} {x : Int32} (h : gT S) (hn : sN S 0 = n) (h40 : n < 40) (hx : ∃ s, s < 16 ∧ x = nI s) (hI : ∀ m, m ≠ 600 → m ≠ 705 → m ≠ 100 + 3 * n → m ≠ 101 + 3 * n → sI S' m = sI S m) (h705 : sI S' 705 = upd (sI S 705) n x) (hp0 : sI S' (100 + 3 * n) = fun j => if j = 0 then x else 0) (hp1 : sI S' (101 + 3 * n) = fun _ => 0) (hJ : ∀ m, m ≠ 57 → m ≠ 706 → m ≠ 102 + 3 * n → sJ S' m = sJ S m) (h706 : sJ S' 706 = zf8 (sJ S 706) (8 * n) 8 0) (hp2 : sJ S' (102 + 3 * n) = fun _ => 0) (hR : ∀ m, sR S' m = sR S m) (hN : ∀ m, m ≠ 0 → m ≠ 20 → (m < 1000 ∨ 2000 ≤ m) → sN S' m = sN S m) (hN0 : sN S' 0 = n + 1) (hN20 : sN S' 20 = n + 1) (hO' : ∀ k, k < 1000 → sN S' (1000 + k) = va_up (shf (fun m => sN S (1000 + m)) (sN S 0 + sN S 1 + sN S 2) p) p (100 + 3 * n) k) (hp : p = insP (ordP S) ((x * 3 + 0) * 160 + nI n) (sN S 0 + sN S 1 + sN S 2)) : gT S' := by
  obtain ⟨⟨⟨c1, c2, c3, c4⟩, hb, c5⟩, hP, hNn, hQ, hKp, hKn, hG, hO, hS, hPi, hM⟩ := h
  obtain ⟨s, hs16, ex⟩ := hx
  have n1 := hN 1 (by omega) (by omega) (by omega)
  have n2 := hN 2 (by omega) (by omega) (by omega)
  have n7 := hN 7 (by omega) (by omega) (by omega)
  have hb0 := hb
  unfold bdS at hb0
  have hpc : ∀ s k t n, pcR S' s k t n = pcR S s k t n := fun s k t n => pcR_cgS n (fun p _ => by rw [hI 709 (by omega) (by omega) (by omega) (by omega), hI 710 (by omega) (by omega) (by omega) (by omega), hI 711 (by omega) (by omega) (by omega) (by omega)]; exact ⟨rfl, rfl, rfl⟩)
  have hb' : bdS S' := ⟨by omega, by omega, by omega⟩
  have hS' : ciSh S' := by
    refine ⟨fun k hk => ?_, fun k hk => ?_, fun k hk => ?_⟩
    · by_cases e : k = n
      · subst e
        rw [hp0]
        exact ⟨s, hs16, ex⟩
      · rw [hI (100 + 3 * k) (by omega) (by omega) (by omega) (by omega)]; exact hS.1 k (by omega)
    · rw [hI (220 + 2 * k) (by omega) (by omega) (by omega) (by omega)]; exact hS.2.1 k (by omega)
    · rw [hI (300 + k) (by omega) (by omega) (by omega) (by omega)]; exact hS.2.2 k (by omega)
  have ht : ∀ d q, tok S' d q ↔ tok S d q ∨ (d = 0 ∧ q = n) := by
    intro d q
    unfold tok
    omega
  have hpl : ∀ d q, tok S d q → plN S' d q = plN S d q := by
    intro d q hd
    have hz := tid_bd hb hd
    have e : sI S' (tid d q) 0 = sI S (tid d q) 0 := by
      rcases hd with ⟨rfl, hd⟩ | ⟨rfl, hd⟩ | ⟨rfl, hd⟩
      · show sI S' (100 + 3 * q) 0 = sI S (100 + 3 * q) 0
        rw [hI (100 + 3 * q) (by omega) (by omega) (by omega) (by omega)]
      · show sI S' (220 + 2 * q) 0 = sI S (220 + 2 * q) 0
        rw [hI (220 + 2 * q) (by omega) (by omega) (by omega) (by omega)]
      · show sI S' (300 + q) 0 = sI S (300 + q) 0
        rw [hI (300 + q) (by omega) (by omega) (by omega) (by omega)]
    unfold plN shN
    rw [e]
  have htn : tok S' 0 n := (ht 0 n).mpr (Or.inr ⟨rfl, rfl⟩)
  refine ⟨⟨⟨?_, ?_, ?_, ?_⟩, hb', ?_⟩, fun k hk => ?_, fun k hk => ?_, fun k hk => ?_, fun k hk => ?_, fun k hk => ?_, ⟨fun k hk => ?_, fun e he => ?_⟩, ?_, hS', fun k hk => ?_, ?_⟩
  · omega
  · rw [hN 21 (by omega) (by omega) (by omega), n1]; exact c2
  · rw [hN 22 (by omega) (by omega) (by omega), n2]; exact c3
  · rw [hN 23 (by omega) (by omega) (by omega), n7]; exact c4
  · rw [n7]; exact c5
  · rw [h705, h706]
    by_cases e : k = n
    · subst e
      rw [hp0, hp2]
      refine ⟨if_pos rfl, fun j hj => ?_⟩
      rw [zf8_at, if_pos (by omega)]
    · rw [hI (100 + 3 * k) (by omega) (by omega) (by omega) (by omega), hJ (102 + 3 * k) (by omega) (by omega) (by omega)]
      refine ⟨(if_neg e).trans (hP k (by omega)).1, fun j hj => ?_⟩
      rw [zf8_at, if_neg (by omega)]
      exact (hP k (by omega)).2 j hj
  · rw [n1] at hk
    rw [hI 707 (by omega) (by omega) (by omega) (by omega), hI 708 (by omega) (by omega) (by omega) (by omega), hI (220 + 2 * k) (by omega) (by omega) (by omega) (by omega)]
    exact hNn k hk
  · rw [n2] at hk
    have hp := (hPi k hk).2.1
    rw [hI 709 (by omega) (by omega) (by omega) (by omega), hI 710 (by omega) (by omega) (by omega) (by omega), hI 711 (by omega) (by omega) (by omega) (by omega), hI (300 + k) (by omega) (by omega) (by omega) (by omega), hN (2000 + k) (by omega) (by omega) (by omega), hR (300 + k), hI (100 + 3 * sN S (2000 + k)) (by omega) (by omega) (by omega) (by omega)]
    exact hQ k hk
  · rw [n2]
    simp only [hpc]
    by_cases e : k = n
    · subst e
      have hz : ∀ t, pcR S 0 (nI k) t (sN S 2) = 0 := fun t => pcR_zero _ (fun p hp z => by
        rcases z with ⟨-, z⟩ | ⟨z, -⟩
        · rw [(hQ p hp).2.1, nI_eq (by have := (hPi p hp).2.1; omega) (by omega)] at z
          have := (hPi p hp).2.1
          omega
        · exact z rfl)
      rw [hp0, hp1]
      simp only [hz]
      exact ⟨fun _ _ => rfl, rfl⟩
    · rw [hI (101 + 3 * k) (by omega) (by omega) (by omega) (by omega), hI (100 + 3 * k) (by omega) (by omega) (by omega) (by omega)]
      exact hKp k (by omega)
  · rw [n1] at hk
    rw [hI (221 + 2 * k) (by omega) (by omega) (by omega) (by omega), hI (220 + 2 * k) (by omega) (by omega) (by omega) (by omega), n2]
    simp only [hpc]
    exact hKn k hk
  · rw [n1] at hk
    rw [hI (220 + 2 * k) (by omega) (by omega) (by omega) (by omega), n7, ogR_cg (S := S) (fun j _ => by rw [hI 713 (by omega) (by omega) (by omega) (by omega), hJ 714 (by omega) (by omega) (by omega), hJ 715 (by omega) (by omega) (by omega)]; exact ⟨rfl, rfl, rfl⟩)]
    exact hG.1 k hk
  · rw [n7] at he
    rw [n1, hI 713 (by omega) (by omega) (by omega) (by omega)]
    exact hG.2 e he
  · refine hO.ins hb hS (c := 0) (n := n) (p := p) (by decide) hn hb' hS' (by omega) ht hpl hO' hp (fun k hk => ordP_N hO hb hS hk) ?_
    rw [← hS'.pl htn]
    show _ = (sI S' (100 + 3 * n) 0 * 3 + nI 0) * 160 + nI n
    rw [hp0]
    rfl
  · rw [n2] at hk
    rw [hI (300 + k) (by omega) (by omega) (by omega) (by omega), hN (2000 + k) (by omega) (by omega) (by omega), hN0, n1, hR (300 + k)]
    obtain ⟨q1, q2, q3⟩ := hPi k hk
    exact ⟨q1, by omega, q3⟩
  · unfold mI3
    rw [hI 709 (by omega) (by omega) (by omega) (by omega), hI 710 (by omega) (by omega) (by omega) (by omega), hI 711 (by omega) (by omega) (by omega) (by omega)]
    exact hM
theorem gT.net {S S' : ST} {n p : Nat} {x y : Int32} (h : gT S) (hn : sN S 1 = n) (h40 : n < 40) (hx : ∃ s, s < 16 ∧ x = nI s) (hI : ∀ m, m ≠ 600 → m ≠ 707 → m ≠ 708 → m ≠ 220 + 2 * n → m ≠ 221 + 2 * n → sI S' m = sI S m) (h707 : sI S' 707 = upd (sI S 707) n x) (h708 : sI S' 708 = upd (sI S 708) n y) (hp0 : sI S' (220 + 2 * n) = fun j => if j = 0 then x else if j = 4 then y else 0) (hp1 : sI S' (221 + 2 * n) = fun _ => 0) (hJ : ∀ m, m ≠ 57 → sJ S' m = sJ S m) (hR : ∀ m, sR S' m = sR S m) (hN : ∀ m, m ≠ 1 → m ≠ 21 → (m < 1000 ∨ 2000 ≤ m) → sN S' m = sN S m) (hN0 : sN S' 1 = n + 1) (hN20 : sN S' 21 = n + 1) (hO' : ∀ k, k < 1000 → sN S' (1000 + k) = va_up (shf (fun m => sN S (1000 + m)) (sN S 0 + sN S 1 + sN S 2) p) p (220 + 2 * n) k) (hp : p = insP (ordP S) ((x * 3 + 1) * 160 + nI n) (sN S 0 + sN S 1 + sN S 2)) : gT S' := by
  obtain ⟨⟨⟨c1, c2, c3, c4⟩, hb, c5⟩, hP, hNn, hQ, hKp, hKn, hG, hO, hS, hPi, hM⟩ := h
  obtain ⟨s, hs16, ex⟩ := hx
  have n0 := hN 0 (by omega) (by omega) (by omega)
  have n2 := hN 2 (by omega) (by omega) (by omega)
  have n7 := hN 7 (by omega) (by omega) (by omega)
  have hb0 := hb
  unfold bdS at hb0
  have hpc : ∀ s k t n, pcR S' s k t n = pcR S s k t n := fun s k t n => pcR_cgS n (fun p _ => by rw [hI 709 (by omega) (by omega) (by omega) (by omega) (by omega), hI 710 (by omega) (by omega) (by omega) (by omega) (by omega), hI 711 (by omega) (by omega) (by omega) (by omega) (by omega)]; exact ⟨rfl, rfl, rfl⟩)
  have hog : ∀ k m, ogR S' k m ↔ ogR S k m := fun k m => ogR_cg (S := S) (fun j _ => by rw [hI 713 (by omega) (by omega) (by omega) (by omega) (by omega), hJ 714 (by omega), hJ 715 (by omega)]; exact ⟨rfl, rfl, rfl⟩)
  have hb' : bdS S' := ⟨by omega, by omega, by omega⟩
  have hS' : ciSh S' := by
    refine ⟨fun k hk => ?_, fun k hk => ?_, fun k hk => ?_⟩
    · rw [hI (100 + 3 * k) (by omega) (by omega) (by omega) (by omega) (by omega)]; exact hS.1 k (by omega)
    · by_cases e : k = n
      · subst e
        rw [hp0]
        exact ⟨s, hs16, ex⟩
      · rw [hI (220 + 2 * k) (by omega) (by omega) (by omega) (by omega) (by omega)]; exact hS.2.1 k (by omega)
    · rw [hI (300 + k) (by omega) (by omega) (by omega) (by omega) (by omega)]; exact hS.2.2 k (by omega)
  have ht : ∀ d q, tok S' d q ↔ tok S d q ∨ (d = 1 ∧ q = n) := by
    intro d q
    unfold tok
    omega
  have hpl : ∀ d q, tok S d q → plN S' d q = plN S d q := by
    intro d q hd
    have e : sI S' (tid d q) 0 = sI S (tid d q) 0 := by
      rcases hd with ⟨rfl, hd⟩ | ⟨rfl, hd⟩ | ⟨rfl, hd⟩
      · show sI S' (100 + 3 * q) 0 = sI S (100 + 3 * q) 0
        rw [hI (100 + 3 * q) (by omega) (by omega) (by omega) (by omega) (by omega)]
      · show sI S' (220 + 2 * q) 0 = sI S (220 + 2 * q) 0
        rw [hI (220 + 2 * q) (by omega) (by omega) (by omega) (by omega) (by omega)]
      · show sI S' (300 + q) 0 = sI S (300 + q) 0
        rw [hI (300 + q) (by omega) (by omega) (by omega) (by omega) (by omega)]
    unfold plN shN
    rw [e]
  have htn : tok S' 1 n := (ht 1 n).mpr (Or.inr ⟨rfl, rfl⟩)
  refine ⟨⟨⟨?_, ?_, ?_, ?_⟩, hb', ?_⟩, fun k hk => ?_, fun k hk => ?_, fun k hk => ?_, fun k hk => ?_, fun k hk => ?_, ⟨fun k hk => ?_, fun e he => ?_⟩, ?_, hS', fun k hk => ?_, ?_⟩
  · rw [hN 20 (by omega) (by omega) (by omega), n0]; exact c1
  · omega
  · rw [hN 22 (by omega) (by omega) (by omega), n2]; exact c3
  · rw [hN 23 (by omega) (by omega) (by omega), n7]; exact c4
  · rw [n7]; exact c5
  · rw [n0] at hk
    rw [hI 705 (by omega) (by omega) (by omega) (by omega) (by omega), hI (100 + 3 * k) (by omega) (by omega) (by omega) (by omega) (by omega), hJ 706 (by omega), hJ (102 + 3 * k) (by omega)]
    exact hP k hk
  · rw [h707, h708]
    by_cases e : k = n
    · subst e
      rw [hp0]
      exact ⟨if_pos rfl, if_pos rfl⟩
    · rw [hI (220 + 2 * k) (by omega) (by omega) (by omega) (by omega) (by omega)]
      exact ⟨(if_neg e).trans (hNn k (by omega)).1, (if_neg e).trans (hNn k (by omega)).2⟩
  · rw [n2] at hk
    have hp := (hPi k hk).2.1
    rw [hI 709 (by omega) (by omega) (by omega) (by omega) (by omega), hI 710 (by omega) (by omega) (by omega) (by omega) (by omega), hI 711 (by omega) (by omega) (by omega) (by omega) (by omega), hI (300 + k) (by omega) (by omega) (by omega) (by omega) (by omega), hN (2000 + k) (by omega) (by omega) (by omega), hR (300 + k), hI (100 + 3 * sN S (2000 + k)) (by omega) (by omega) (by omega) (by omega) (by omega)]
    exact hQ k hk
  · rw [n0] at hk
    rw [hI (101 + 3 * k) (by omega) (by omega) (by omega) (by omega) (by omega), hI (100 + 3 * k) (by omega) (by omega) (by omega) (by omega) (by omega), n2]
    simp only [hpc]
    exact hKp k hk
  · rw [n2]
    simp only [hpc]
    by_cases e : k = n
    · subst e
      have hz : ∀ t, pcR S 1 (nI k) t (sN S 2) = 0 := fun t => pcR_zero _ (fun p hp z => by
        rcases z with ⟨z, -⟩ | ⟨-, z⟩
        · exact absurd z (by decide)
        · rw [(hQ p hp).2.2.1] at z
          have hl := (hPi p hp).2.2
          cases ho : sR S (300 + p) 4 with
          | none =>
            rw [ho] at z
            exact nI_pos (n := k) (by omega) (by rw [← z]; decide)
          | some a =>
            rw [ho] at z
            have := hl a ho
            have z' : nI a = nI k := z
            rw [nI_eq (by omega) (by omega)] at z'
            omega)
      rw [hp0, hp1]
      simp only [hz]
      exact ⟨fun _ _ => rfl, rfl⟩
    · rw [hI (221 + 2 * k) (by omega) (by omega) (by omega) (by omega) (by omega), hI (220 + 2 * k) (by omega) (by omega) (by omega) (by omega) (by omega)]
      exact hKn k (by omega)
  · rw [n7, hog]
    by_cases e : k = n
    · subst e
      rw [hp0]
      refine ⟨fun _ => ?_, fun _ => rfl⟩
      rintro ⟨j, hj, z, -⟩
      obtain ⟨m, hm, em⟩ := hG.2 j hj
      rw [em, nI_eq (by omega) (by omega)] at z
      omega
    · rw [hI (220 + 2 * k) (by omega) (by omega) (by omega) (by omega) (by omega)]
      exact hG.1 k (by omega)
  · rw [n7] at he
    rw [hN0, hI 713 (by omega) (by omega) (by omega) (by omega) (by omega)]
    obtain ⟨m, hm, em⟩ := hG.2 e he
    exact ⟨m, by omega, em⟩
  · refine hO.ins hb hS (c := 1) (n := n) (p := p) (by decide) hn hb' hS' (by omega) ht hpl hO' hp (fun k hk => ordP_N hO hb hS hk) ?_
    rw [← hS'.pl htn]
    show _ = (sI S' (220 + 2 * n) 0 * 3 + nI 1) * 160 + nI n
    rw [hp0]
    rfl
  · rw [n2] at hk
    rw [hI (300 + k) (by omega) (by omega) (by omega) (by omega) (by omega), hN (2000 + k) (by omega) (by omega) (by omega), hN0, n0, hR (300 + k)]
    obtain ⟨q1, q2, q3⟩ := hPi k hk
    exact ⟨q1, by omega, fun a ha => by have := q3 a ha; omega⟩
  · unfold mI3
    rw [hI 709 (by omega) (by omega) (by omega) (by omega) (by omega), hI 710 (by omega) (by omega) (by omega) (by omega) (by omega), hI 711 (by omega) (by omega) (by omega) (by omega) (by omega)]
    exact hM
theorem gT.field {S S' : ST} {k0 j0 : Nat} {v : Int64} (h : gT S) (hk0 : k0 < sN S 0) (hj0 : j0 < 8) (hI : ∀ m, m ≠ 600 → sI S' m = sI S m) (hJ : ∀ m, m ≠ 57 → m ≠ 706 → m ≠ 102 + 3 * k0 → sJ S' m = sJ S m) (h706 : ∀ i, sJ S' 706 i = if i = 8 * k0 + j0 then v else sJ S 706 i) (hp2 : ∀ i, sJ S' (102 + 3 * k0) i = if i = j0 then v else sJ S (102 + 3 * k0) i) (hR : ∀ m, sR S' m = sR S m) (hN : ∀ m, sN S' m = sN S m) : gT S' := by
  obtain ⟨⟨⟨c1, c2, c3, c4⟩, hb, c5⟩, hP, hNn, hQ, hKp, hKn, hG, hO, hS, hPi, hM⟩ := id h
  have hb0 := hb
  unfold bdS at hb0
  have hz : gT (S'.1, S.2.1, S'.2.2.1, S'.2.2.2) := h.cg (fun m hm => hI m (by omega)) (fun m _ => rfl) (fun m _ _ => hR m) (fun m _ => hN m)
  obtain ⟨z1, -, z3, z4, -, -, z7, z8, z9, z10, z11⟩ := hz
  have hpc : ∀ s k t n, pcR S' s k t n = pcR S s k t n := fun s k t n => pcR_cgS n (fun p _ => by rw [hI 709 (by omega), hI 710 (by omega), hI 711 (by omega)]; exact ⟨rfl, rfl, rfl⟩)
  refine ⟨z1, fun k hk => ?_, z3, z4, fun k hk => ?_, fun k hk => ?_, ⟨fun k hk => ?_, z7.2⟩, z8, z9, z10, z11⟩
  · rw [hN 0] at hk
    rw [hI 705 (by decide), hI (100 + 3 * k) (by omega)]
    refine ⟨(hP k hk).1, fun j hj => ?_⟩
    rw [h706]
    by_cases e : k = k0
    · subst e
      rw [hp2]
      by_cases e2 : j = j0
      · rw [if_pos (by omega), if_pos e2]
      · rw [if_neg (by omega), if_neg e2]
        exact (hP k hk).2 j hj
    · rw [if_neg (by omega), hJ (102 + 3 * k) (by omega) (by omega) (by omega)]
      exact (hP k hk).2 j hj
  · rw [hN 0] at hk
    rw [hI (101 + 3 * k) (by omega), hI (100 + 3 * k) (by omega), hN 2]
    simp only [hpc]
    exact hKp k hk
  · rw [hN 1] at hk
    rw [hI (221 + 2 * k) (by omega), hI (220 + 2 * k) (by omega), hN 2]
    simp only [hpc]
    exact hKn k hk
  · rw [hN 1] at hk
    rw [hI (220 + 2 * k) (by omega), hN 7, ogR_cg (S := S) (fun j _ => by rw [hI 713 (by omega), hJ 714 (by omega) (by omega) (by omega), hJ 715 (by omega) (by omega) (by omega)]; exact ⟨rfl, rfl, rfl⟩)]
    exact hG.1 k hk
theorem gT.end {S S' : ST} {k0 : Nat} {y z : Int64} (h : gT S) (hk0 : k0 < sN S 1) (h100 : sN S 7 < 100) (hI : ∀ m, m ≠ 600 → m ≠ 713 → m ≠ 220 + 2 * k0 → sI S' m = sI S m) (h713 : sI S' 713 = upd (sI S 713) (sN S 7) (nI k0)) (hp0 : sI S' (220 + 2 * k0) = va_up (sI S (220 + 2 * k0)) 5 (endF S k0 y z)) (hJ : ∀ m, m ≠ 57 → m ≠ 714 → m ≠ 715 → sJ S' m = sJ S m) (h714 : sJ S' 714 = vp_updL (sJ S 714) (sN S 7) y) (h715 : sJ S' 715 = vp_updL (sJ S 715) (sN S 7) z) (hR : ∀ m, sR S' m = sR S m) (hN : ∀ m, m ≠ 7 → m ≠ 23 → sN S' m = sN S m) (hN7 : sN S' 7 = sN S 7 + 1) (hN23 : sN S' 23 = sN S 7 + 1) : gT S' := by
  obtain ⟨⟨⟨c1, c2, c3, c4⟩, hb, c5⟩, hP, hNn, hQ, hKp, hKn, hG, hO, hS, hPi, hM⟩ := id h
  have hb0 := hb
  unfold bdS at hb0
  have e0 : ∀ k j, j ≠ 5 → sI S' (220 + 2 * k) j = sI S (220 + 2 * k) j ∨ (100 ≤ k) := by
    intro k j hj
    by_cases e : k = k0
    · subst e
      rw [hp0, va_up_ne _ _ hj]
      exact Or.inl rfl
    · by_cases e2 : k < 100
      · rw [hI (220 + 2 * k) (by omega) (by omega) (by omega)]
        exact Or.inl rfl
      · exact Or.inr (by omega)
  have en : ∀ k j, k < 40 → j ≠ 5 → sI S' (220 + 2 * k) j = sI S (220 + 2 * k) j := by
    intro k j hk hj
    rcases e0 k j hj with q | q
    · exact q
    · omega
  have hpc : ∀ s k t n, pcR S' s k t n = pcR S s k t n := fun s k t n => pcR_cgS n (fun p _ => by rw [hI 709 (by omega) (by omega) (by omega), hI 710 (by omega) (by omega) (by omega), hI 711 (by omega) (by omega) (by omega)]; exact ⟨rfl, rfl, rfl⟩)
  have n0 := hN 0 (by omega) (by omega)
  have n1 := hN 1 (by omega) (by omega)
  have n2 := hN 2 (by omega) (by omega)
  refine ⟨⟨⟨?_, ?_, ?_, ?_⟩, ?_, ?_⟩, fun k hk => ?_, fun k hk => ?_, fun k hk => ?_, fun k hk => ?_, fun k hk => ?_, ⟨fun k hk => ?_, fun e he => ?_⟩, ?_, ⟨fun k hk => ?_, fun k hk => ?_, fun k hk => ?_⟩, fun k hk => ?_, ?_⟩
  · rw [hN 20 (by omega) (by omega), n0]; exact c1
  · rw [hN 21 (by omega) (by omega), n1]; exact c2
  · rw [hN 22 (by omega) (by omega), n2]; exact c3
  · omega
  · unfold bdS; rw [n0, n1, n2]; exact hb0
  · omega
  · rw [n0] at hk
    rw [hI 705 (by omega) (by omega) (by omega), hI (100 + 3 * k) (by omega) (by omega) (by omega), hJ 706 (by omega) (by omega) (by omega), hJ (102 + 3 * k) (by omega) (by omega) (by omega)]
    exact hP k hk
  · rw [n1] at hk
    rw [hI 707 (by omega) (by omega) (by omega), hI 708 (by omega) (by omega) (by omega), en k 0 (by omega) (by decide), en k 4 (by omega) (by decide)]
    exact hNn k hk
  · rw [n2] at hk
    have hp := (hPi k hk).2.1
    rw [hI 709 (by omega) (by omega) (by omega), hI 710 (by omega) (by omega) (by omega), hI 711 (by omega) (by omega) (by omega), hI (300 + k) (by omega) (by omega) (by omega), hN (2000 + k) (by omega) (by omega), hR (300 + k), hI (100 + 3 * sN S (2000 + k)) (by omega) (by omega) (by omega)]
    exact hQ k hk
  · rw [n0] at hk
    rw [hI (101 + 3 * k) (by omega) (by omega) (by omega), hI (100 + 3 * k) (by omega) (by omega) (by omega), n2]
    simp only [hpc]
    exact hKp k hk
  · rw [n1] at hk
    rw [hI (221 + 2 * k) (by omega) (by omega) (by omega), en k 3 (by omega) (by decide), n2]
    simp only [hpc]
    exact hKn k hk
  · rw [n1] at hk
    have hcut : ogR S' (nI k) (sN S 7) ↔ ogR S (nI k) (sN S 7) := ogR_cg (S := S) (fun j hj => by
      rw [h713, h714, h715]
      exact ⟨if_neg (by omega), if_neg (by omega), if_neg (by omega)⟩)
    have hsplit : ogR S' (nI k) (sN S 7 + 1) ↔ (ogR S' (nI k) (sN S 7) ∨ ogC S' (nI k) (sN S 7)) := by
      constructor
      · rintro ⟨j, hj, q⟩
        by_cases e : j = sN S 7
        · rw [e] at q; exact Or.inr q
        · exact Or.inl ⟨j, by omega, q⟩
      · rintro (⟨j, hj, q⟩ | q)
        · exact ⟨j, by omega, q⟩
        · exact ⟨sN S 7, by omega, q⟩
    have hlast : ogC S' (nI k) (sN S 7) ↔ (k = k0 ∧ (¬ y - y / 100 * 100 = 0 ∨ ¬ z - z / 100 * 100 = 0)) := by
      unfold ogC
      rw [h713, h714, h715, show upd (sI S 713) (sN S 7) (nI k0) (sN S 7) = nI k0 from if_pos rfl, show vp_updL (sJ S 714) (sN S 7) y (sN S 7) = y from if_pos rfl, show vp_updL (sJ S 715) (sN S 7) z (sN S 7) = z from if_pos rfl, nI_eq (by omega) (by omega)]
      constructor
      · rintro ⟨a, b⟩; exact ⟨a.symm, b⟩
      · rintro ⟨a, b⟩; exact ⟨a.symm, b⟩
    rw [hN7, hsplit, hcut, hlast]
    by_cases e : k = k0
    · subst e
      rw [hp0, va_up_self]
      unfold endF
      by_cases hoff : (¬ y - y / 100 * 100 = 0 ∨ ¬ z - z / 100 * 100 = 0)
      · rw [if_pos hoff]
        exact ⟨fun q => absurd q (by decide), fun q => absurd (Or.inr ⟨rfl, hoff⟩) q⟩
      · rw [if_neg hoff, hG.1 k hk]
        exact ⟨fun q r => r.elim q (fun r => hoff r.2), fun q r => q (Or.inl r)⟩
    · rw [hI (220 + 2 * k) (by omega) (by omega) (by omega), hG.1 k hk]
      exact ⟨fun q r => r.elim q (fun r => e r.1), fun q r => q (Or.inl r)⟩
  · rw [hN7] at he
    rw [n1, h713]
    by_cases e2 : e = sN S 7
    · exact ⟨k0, hk0, if_pos e2⟩
    · obtain ⟨m, hm, em⟩ := hG.2 e (by omega)
      exact ⟨m, hm, (if_neg e2).trans em⟩
  · refine hO.cg hb (fun m hm => hN m (by omega) (by omega)) (fun c q hc => ?_)
    have hbd := tid_bd hb hc
    by_cases e : tid c q = 220 + 2 * k0
    · rw [e]; exact en k0 0 (by omega) (by decide)
    · rw [hI (tid c q) (by omega) (by omega) e]
  · rw [n0] at hk; rw [hI (100 + 3 * k) (by omega) (by omega) (by omega)]; exact hS.1 k hk
  · rw [n1] at hk; rw [en k 0 (by omega) (by decide)]; exact hS.2.1 k hk
  · rw [n2] at hk; rw [hI (300 + k) (by omega) (by omega) (by omega)]; exact hS.2.2 k hk
  · rw [n2] at hk
    rw [hI (300 + k) (by omega) (by omega) (by omega), hN (2000 + k) (by omega) (by omega), n0, n1, hR (300 + k)]
    exact hPi k hk
  · unfold mI3
    rw [hI 709 (by omega) (by omega) (by omega), hI 710 (by omega) (by omega) (by omega), hI 711 (by omega) (by omega) (by omega)]
    exact hM
