/-! each call leaves both states alike: waive; remarks read -/
theorem rsR_cg {S S' : ST} {x : Int32} (h1 : sI S' 731 = sI S 731) (h2 : sI S' 732 = sI S 732) : ∀ n, rsR S' x n = rsR S x n
  | 0 => rfl
  | n + 1 => by
    unfold rsR
    rw [rsR_cg h1 h2 n, h1, h2]
theorem atR_cg {S S' : ST} {x : Int32} (h1 : sI S' 731 = sI S 731) : ∀ n i, atR S' x n i = atR S x n i
  | 0, _ => rfl
  | n + 1, i => by
    unfold atR
    rw [atR_cg h1 n (i + 1), h1]
/-- only the waivers change -/
theorem Sim.wv {n : Nat} {S S' : ST} (h : Sim n S) (hI : ∀ m, m ≠ 600 → m ≠ 20 → m ≠ 21 → m ≠ 731 → m ≠ 732 → sI S' m = sI S m) (h6 : ∀ k, k ≠ 0 → sI S' 600 k = sI S 600 k) (hJ : ∀ m, m ≠ 57 → sJ S' m = sJ S m) (hR : ∀ m, sR S' m = sR S m) (hN : ∀ m, m ≠ 16 → m ≠ 26 → sN S' m = sN S m) (hW : gW S') : Sim n S' := by
  have hk := same_hk (S' := S') h.1.1.2.1 (fun m x1 y => by rw [hI m (by omega) (by omega) (by omega) (by omega) (by omega)]) (fun m hm => hN m (by omega) (by omega))
  exact h.rest (fun m hm => hI m (by omega) (by omega) (by omega) (by omega) (by omega)) (fun m hm => hJ m (by omega)) hR (fun m hm => hN m (by omega) (by omega)) (h.2.1.cg (fun m hm => hI m (by omega) (by omega) (by omega) (by omega) (by omega)) (fun m hm => hN m (by omega) (by omega))) (h.2.2.1.cg (hI 701 (by omega) (by omega) (by omega) (by omega) (by omega)) (hI 11 (by omega) (by omega) (by omega) (by omega) (by omega))) (h.2.2.2.1.cg (hI 724 (by omega) (by omega) (by omega) (by omega) (by omega)) (hI 9 (by omega) (by omega) (by omega) (by omega) (by omega)) (hN 3 (by omega) (by omega))) (h.2.2.2.2.1.cg (hI 716 (by omega) (by omega) (by omega) (by omega) (by omega)) (hI 16 (by omega) (by omega) (by omega) (by omega) (by omega)) (hN 9 (by omega) (by omega)) (hN 24 (by omega) (by omega))) hW (h.2.2.2.2.2.2.1.cg (by unfold bdS; have := h.1.1.2.1; unfold bdS at this; rw [hN 0 (by omega) (by omega), hN 1 (by omega) (by omega), hN 2 (by omega) (by omega)]; exact this) hk (fun m hm => hI m (by omega) (by omega) (by omega) (by omega) (by omega)) (h6 29 (by decide)) (fun m hm => hN m (by omega) (by omega))) (h.2.2.2.2.2.2.2.cg (by rw [hI 0 (by omega) (by omega) (by omega) (by omega) (by omega)]) (h6 25 (by decide)))
theorem wvM_cg {S S' : ST} {x y : Int32} (h1 : sI S' 731 = sI S 731) (h2 : sI S' 732 = sI S 732) (h26 : sN S' 26 = sN S 26) : wvM S' x y = (if rsR S x (sN S 26) = y then none else if y = -1 then some (wI (wI (wN (thS S' 0) 26 (sN S 26 - 1)) 731 (upd (sI S 731) (atR S x (sN S 26) 0) (sI S 731 (sN S 26 - 1)))) 732 (upd (sI S 732) (atR S x (sN S 26) 0) (sI S 732 (sN S 26 - 1)))) else if atR S x (sN S 26) 0 = 50 then none else some (wN (wI (wI (thS S' 0) 731 (upd (sI S 731) (atR S x (sN S 26) 0) x)) 732 (upd (sI S 732) (atR S x (sN S 26) 0) y)) 26 (if atR S x (sN S 26) 0 = sN S 26 then sN S 26 + 1 else sN S 26))) := by
  unfold wvM
  rw [rsR_cg h1 h2, atR_cg h1, h1, h2, h26]
theorem si_waive {n p c k : Nat} {S : ST} {y : Int32} {u : Int64} (h : Sim n S) (hp : p < 27) (ht : tok S c k) (T : ST) (hT : T = outS ((wvS S (plc S c k * 27 + nI p) y).getD S) u) : Sim n ((wvM T (nI (tI p (nI c) k)) y).getD (thS T 0)) ∧ ((wvM T (nI (tI p (nI c) k)) y).isSome = (wvS S (plc S c k * 27 + nI p) y).isSome) := by
  have hg := h.1
  have hb := hg.1.2.1
  have hs := hg.2.2.2.2.2.2.2.2.1
  have hW := h.2.2.2.2.2.1
  rw [key_N hs ht] at hT ⊢
  have h50 := hW.2.1
  have h26 := hW.1
  have htI := fun U : ST => same_hk (S := S) (S' := U) hb
  -- a state that differs from S in the waivers alone
  have fin : ∀ (A : ST), (∀ m, m ≠ 20 → m ≠ 21 → sI A m = sI S m) → (∀ m, sJ A m = sJ S m) → (∀ m, sR A m = sR S m) → (∀ m, m ≠ 16 → sN A m = sN S m) → T = outS A u → (∀ m, m ≠ 20 → m ≠ 21 → sI T m = sI S m) ∧ (∀ m, m ≠ 57 → sJ T m = sJ S m) ∧ (∀ m, sR T m = sR S m) ∧ (∀ m, m ≠ 16 → sN T m = sN S m) ∧ sI T 20 = sI A 20 ∧ sI T 21 = sI A 21 ∧ sN T 16 = sN A 16 := fun A a1 a2 a3 a4 e => by
    subst e
    exact ⟨a1, fun m hm => by rw [outJ hm, a2], a3, a4, rfl, rfl, rfl⟩
  unfold wvS at hT ⊢
  rcases hW.find hs hb ht hp with ⟨q1, q2, q3, q4, q5⟩ | ⟨i, hi, e20, q1, q2, q3, q4⟩
  · rw [q2] at hT ⊢
    by_cases y1 : (-1 : Int32) = y
    · rw [if_pos y1] at hT ⊢
      obtain ⟨t1, t2, t3, t4, -⟩ := fin S (fun _ _ _ => rfl) (fun _ => rfl) (fun _ => rfl) (fun _ _ => rfl) hT
      have hw : wvM T (nI (tI p (nI c) k)) y = none := by
        rw [wvM_cg (S := S) (t1 731 (by decide) (by decide)) (t1 732 (by decide) (by decide)) (t4 26 (by decide)), q3, if_pos y1]
      rw [hw]
      exact ⟨by rw [hT]; exact si_th (si_out h), rfl⟩
    · rw [if_neg y1, q1] at hT ⊢
      by_cases hlt : sN S 16 < 50
      · rw [if_pos hlt] at hT ⊢
        have hT' : T = outS (wN (wI (wI S 20 (upd (sI S 20) (sN S 16) (nI (plN S c k * 27 + p)))) 21 (upd (sI S 21) (sN S 16) y)) 16 (sN S 16 + 1)) u := hT
        obtain ⟨t1, t2, t3, t4, t5, t6, t7⟩ := fin (wN (wI (wI S 20 (upd (sI S 20) (sN S 16) (nI (plN S c k * 27 + p)))) 21 (upd (sI S 21) (sN S 16) y)) 16 (sN S 16 + 1)) (fun m a b => by rw [wNI, wIo b, wIo a]) (fun _ => rfl) (fun _ => rfl) (fun m a => by rw [wN_ne a]; rfl) hT'
        rw [wNI, wIo (by decide), wIs] at t5
        rw [wNI, wIs] at t6
        rw [wN_self] at t7
        have hw : wvM T (nI (tI p (nI c) k)) y = some (wN (wI (wI (thS T 0) 731 (upd (sI S 731) (sN S 16) (nI (tI p (nI c) k)))) 732 (upd (sI S 732) (sN S 16) y)) 26 (sN S 16 + 1)) := by
          rw [wvM_cg (S := S) (t1 731 (by decide) (by decide)) (t1 732 (by decide) (by decide)) (t4 26 (by decide)), q3, if_neg y1, if_neg (fun z => y1 z.symm), q4, if_neg (by omega), h26, if_pos rfl]
        rw [hw]
        refine ⟨?_, rfl⟩
        show Sim n (wN (wI (wI (thS T 0) 731 (upd (sI S 731) (sN S 16) (nI (tI p (nI c) k)))) 732 (upd (sI S 732) (sN S 16) y)) 26 (sN S 16 + 1))
        have fI : ∀ m, m ≠ 600 → m ≠ 20 → m ≠ 21 → m ≠ 731 → m ≠ 732 → sI (wN (wI (wI (thS T 0) 731 (upd (sI S 731) (sN S 16) (nI (tI p (nI c) k)))) 732 (upd (sI S 732) (sN S 16) y)) 26 (sN S 16 + 1)) m = sI S m := fun m a1 a2 a3 a4 a5 => by
          rw [wNI, wIo a5, wIo a4, thI a1, t1 m a2 a3]
        have fN : ∀ m, m ≠ 16 → m ≠ 26 → sN (wN (wI (wI (thS T 0) 731 (upd (sI S 731) (sN S 16) (nI (tI p (nI c) k)))) 732 (upd (sI S 732) (sN S 16) y)) 26 (sN S 16 + 1)) m = sN S m := fun m a b => by
          rw [wN_ne b]
          exact t4 m a
        have f16 : sN (wN (wI (wI (thS T 0) 731 (upd (sI S 731) (sN S 16) (nI (tI p (nI c) k)))) 732 (upd (sI S 732) (sN S 16) y)) 26 (sN S 16 + 1)) 16 = sN S 16 + 1 := by
          rw [wN_ne (by decide)]
          exact t7
        have hk := htI (wN (wI (wI (thS T 0) 731 (upd (sI S 731) (sN S 16) (nI (tI p (nI c) k)))) 732 (upd (sI S 732) (sN S 16) y)) 26 (sN S 16 + 1)) (fun m x1 y => by rw [fI m (by omega) (by omega) (by omega) (by omega) (by omega)]) (fun m hm => fN m (by omega) (by omega))
        refine h.wv fI (fun j hj => by rw [wNI, wIo (by decide), wIo (by decide), th6 hj, t1 600 (by decide) (by decide)]) t2 t3 fN ⟨by rw [f16, wN_self], by rw [f16]; omega, fun j hj => ?_, fun a b h1 h2 => ?_⟩
        · rw [f16] at hj
          rw [wNI, wNI, wNI, wNI, wIo (by decide), wIo (by decide), thI (by decide), t5, wIo (by decide), wIs, wIo (by decide), wIo (by decide), thI (by decide), t6, wIs]
          by_cases e : j = sN S 16
          · subst e
            exact ⟨c, k, p, (hk c k ht).1, hp, by rw [(hk c k ht).2]; exact if_pos rfl, if_pos rfl, (show upd (sI S 21) (sN S 16) y (sN S 16) = y from if_pos rfl).trans (show upd (sI S 732) (sN S 16) y (sN S 16) = y from if_pos rfl).symm⟩
          · rw [show upd (sI S 20) (sN S 16) (nI (plN S c k * 27 + p)) j = sI S 20 j from if_neg e, show upd (sI S 731) (sN S 16) (nI (tI p (nI c) k)) j = sI S 731 j from if_neg e, show upd (sI S 21) (sN S 16) y j = sI S 21 j from if_neg e, show upd (sI S 732) (sN S 16) y j = sI S 732 j from if_neg e]
            obtain ⟨c', q', r', x1, x2, x3, x4, x5⟩ := hW.2.2.1 j (by omega)
            exact ⟨c', q', r', (hk c' q' x1).1, x2, by rw [(hk c' q' x1).2]; exact x3, x4, x5⟩
        · rw [f16] at h2
          rw [wNI, wIo (by decide), wIo (by decide), thI (by decide), t5]
          unfold upd
          rw [if_neg (show ¬ a = sN S 16 by omega)]
          by_cases e : b = sN S 16
          · rw [if_pos e]; exact q5 a (by omega)
          · rw [if_neg e]; exact hW.2.2.2 a b h1 (by omega)
      · rw [if_neg hlt] at hT ⊢
        obtain ⟨t1, t2, t3, t4, -⟩ := fin S (fun _ _ _ => rfl) (fun _ => rfl) (fun _ => rfl) (fun _ _ => rfl) hT
        have hw : wvM T (nI (tI p (nI c) k)) y = none := by
          rw [wvM_cg (S := S) (t1 731 (by decide) (by decide)) (t1 732 (by decide) (by decide)) (t4 26 (by decide)), q3, if_neg y1, if_neg (fun z => y1 z.symm), q4, if_pos (by omega)]
        rw [hw]
        exact ⟨by rw [hT]; exact si_th (si_out h), rfl⟩
  · rw [q2] at hT ⊢
    by_cases y1 : sI S 21 i = y
    · rw [if_pos y1] at hT ⊢
      obtain ⟨t1, t2, t3, t4, -⟩ := fin S (fun _ _ _ => rfl) (fun _ => rfl) (fun _ => rfl) (fun _ _ => rfl) hT
      have hw : wvM T (nI (tI p (nI c) k)) y = none := by
        rw [wvM_cg (S := S) (t1 731 (by decide) (by decide)) (t1 732 (by decide) (by decide)) (t4 26 (by decide)), q3, if_pos y1]
      rw [hw]
      exact ⟨by rw [hT]; exact si_th (si_out h), rfl⟩
    · rw [if_neg y1, q1] at hT ⊢
      by_cases ym : y = -1
      · simp only [ym, if_true] at hT ⊢
        have hT' : T = outS (wN (wI (wI S 20 (upd (sI S 20) i (sI S 20 (sN S 16 - 1)))) 21 (upd (sI S 21) i (sI S 21 (sN S 16 - 1)))) 16 (sN S 16 - 1)) u := hT
        obtain ⟨t1, t2, t3, t4, t5, t6, t7⟩ := fin (wN (wI (wI S 20 (upd (sI S 20) i (sI S 20 (sN S 16 - 1)))) 21 (upd (sI S 21) i (sI S 21 (sN S 16 - 1)))) 16 (sN S 16 - 1)) (fun m a b => by rw [wNI, wIo b, wIo a]) (fun _ => rfl) (fun _ => rfl) (fun m a => by rw [wN_ne a]; rfl) hT'
        rw [wNI, wIo (by decide), wIs] at t5
        rw [wNI, wIs] at t6
        rw [wN_self] at t7
        have hw : wvM T (nI (tI p (nI c) k)) (-1) = some (wI (wI (wN (thS T 0) 26 (sN S 16 - 1)) 731 (upd (sI S 731) i (sI S 731 (sN S 16 - 1)))) 732 (upd (sI S 732) i (sI S 732 (sN S 16 - 1)))) := by
          rw [wvM_cg (S := S) (t1 731 (by decide) (by decide)) (t1 732 (by decide) (by decide)) (t4 26 (by decide)), q3, if_neg (fun z => y1 (by rw [z, ym])), if_pos rfl, q4, h26]
        rw [hw]
        refine ⟨?_, rfl⟩
        show Sim n (wI (wI (wN (thS T 0) 26 (sN S 16 - 1)) 731 (upd (sI S 731) i (sI S 731 (sN S 16 - 1)))) 732 (upd (sI S 732) i (sI S 732 (sN S 16 - 1))))
        have fI : ∀ m, m ≠ 600 → m ≠ 20 → m ≠ 21 → m ≠ 731 → m ≠ 732 → sI (wI (wI (wN (thS T 0) 26 (sN S 16 - 1)) 731 (upd (sI S 731) i (sI S 731 (sN S 16 - 1)))) 732 (upd (sI S 732) i (sI S 732 (sN S 16 - 1)))) m = sI S m := fun m a1 a2 a3 a4 a5 => by
          rw [wIo a5, wIo a4, wNI, thI a1, t1 m a2 a3]
        have fN : ∀ m, m ≠ 16 → m ≠ 26 → sN (wI (wI (wN (thS T 0) 26 (sN S 16 - 1)) 731 (upd (sI S 731) i (sI S 731 (sN S 16 - 1)))) 732 (upd (sI S 732) i (sI S 732 (sN S 16 - 1)))) m = sN S m := fun m a b => by
          show sN (wN (thS T 0) 26 (sN S 16 - 1)) m = _
          rw [wN_ne b]
          exact t4 m a
        have f16 : sN (wI (wI (wN (thS T 0) 26 (sN S 16 - 1)) 731 (upd (sI S 731) i (sI S 731 (sN S 16 - 1)))) 732 (upd (sI S 732) i (sI S 732 (sN S 16 - 1)))) 16 = sN S 16 - 1 := by
          show sN (wN (thS T 0) 26 (sN S 16 - 1)) 16 = _
          rw [wN_ne (by decide)]
          exact t7
        have f26 : sN (wI (wI (wN (thS T 0) 26 (sN S 16 - 1)) 731 (upd (sI S 731) i (sI S 731 (sN S 16 - 1)))) 732 (upd (sI S 732) i (sI S 732 (sN S 16 - 1)))) 26 = sN S 16 - 1 := by
          show sN (wN (thS T 0) 26 (sN S 16 - 1)) 26 = _
          rw [wN_self]
        have hk := htI (wI (wI (wN (thS T 0) 26 (sN S 16 - 1)) 731 (upd (sI S 731) i (sI S 731 (sN S 16 - 1)))) 732 (upd (sI S 732) i (sI S 732 (sN S 16 - 1)))) (fun m x1 y => by rw [fI m (by omega) (by omega) (by omega) (by omega) (by omega)]) (fun m hm => fN m (by omega) (by omega))
        have old : ∀ j, j < sN S 16 → ∃ c' q' r', tok (wI (wI (wN (thS T 0) 26 (sN S 16 - 1)) 731 (upd (sI S 731) i (sI S 731 (sN S 16 - 1)))) 732 (upd (sI S 732) i (sI S 732 (sN S 16 - 1)))) c' q' ∧ r' < 27 ∧ sI S 20 j = nI (plN (wI (wI (wN (thS T 0) 26 (sN S 16 - 1)) 731 (upd (sI S 731) i (sI S 731 (sN S 16 - 1)))) 732 (upd (sI S 732) i (sI S 732 (sN S 16 - 1)))) c' q' * 27 + r') ∧ sI S 731 j = nI (tI r' (nI c') q') ∧ sI S 21 j = sI S 732 j := fun j hj => by
          obtain ⟨c', q', r', x1, x2, x3, x4, x5⟩ := hW.2.2.1 j hj
          exact ⟨c', q', r', (hk c' q' x1).1, x2, by rw [(hk c' q' x1).2]; exact x3, x4, x5⟩
        refine h.wv fI (fun j hj => by rw [wIo (by decide), wIo (by decide), wNI, th6 hj, t1 600 (by decide) (by decide)]) t2 t3 fN ⟨by rw [f16, f26], by rw [f16]; omega, fun j hj => ?_, fun a b h1 h2 => ?_⟩
        · rw [f16] at hj
          rw [wIo (by decide), wIo (by decide), wNI, thI (by decide), t5, wIo (by decide), wIs, wIo (by decide), wIo (by decide), wNI, thI (by decide), t6, wIs]
          by_cases e : j = i
          · subst e
            rw [show upd (sI S 20) j (sI S 20 (sN S 16 - 1)) j = sI S 20 (sN S 16 - 1) from if_pos rfl, show upd (sI S 731) j (sI S 731 (sN S 16 - 1)) j = sI S 731 (sN S 16 - 1) from if_pos rfl, show upd (sI S 21) j (sI S 21 (sN S 16 - 1)) j = sI S 21 (sN S 16 - 1) from if_pos rfl, show upd (sI S 732) j (sI S 732 (sN S 16 - 1)) j = sI S 732 (sN S 16 - 1) from if_pos rfl]
            exact old (sN S 16 - 1) (by omega)
          · rw [show upd (sI S 20) i (sI S 20 (sN S 16 - 1)) j = sI S 20 j from if_neg e, show upd (sI S 731) i (sI S 731 (sN S 16 - 1)) j = sI S 731 j from if_neg e, show upd (sI S 21) i (sI S 21 (sN S 16 - 1)) j = sI S 21 j from if_neg e, show upd (sI S 732) i (sI S 732 (sN S 16 - 1)) j = sI S 732 j from if_neg e]
            exact old j (by omega)
        · rw [f16] at h2
          rw [wIo (by decide), wIo (by decide), wNI, thI (by decide), t5]
          unfold upd
          by_cases e : a = i
          · rw [if_pos e, if_neg (show ¬ b = i by omega)]
            exact fun z => hW.2.2.2 b (sN S 16 - 1) (by omega) (by omega) z.symm
          · rw [if_neg e]
            by_cases e2 : b = i
            · rw [if_pos e2]; exact hW.2.2.2 a (sN S 16 - 1) (by omega) (by omega)
            · rw [if_neg e2]; exact hW.2.2.2 a b h1 (by omega)
      · simp only [ym, if_false] at hT ⊢
        have hT' : T = outS (wI S 21 (upd (sI S 21) i y)) u := hT
        obtain ⟨t1, t2, t3, t4, t5, t6, t7⟩ := fin (wI S 21 (upd (sI S 21) i y)) (fun m a b => by rw [wIo b]) (fun _ => rfl) (fun _ => rfl) (fun _ _ => rfl) hT'
        rw [wIo (by decide)] at t5
        rw [wIs] at t6
        have t16 : sN T 16 = sN S 16 := t7
        have e731 : sI S 731 i = nI (tI p (nI c) k) := (hW.at hs hb ht hp i hi).mp e20
        have hw : wvM T (nI (tI p (nI c) k)) y = some (wN (wI (wI (thS T 0) 731 (upd (sI S 731) i (nI (tI p (nI c) k)))) 732 (upd (sI S 732) i y)) 26 (sN S 16)) := by
          rw [wvM_cg (S := S) (t1 731 (by decide) (by decide)) (t1 732 (by decide) (by decide)) (t4 26 (by decide)), q3, if_neg y1, if_neg ym, q4, if_neg (by omega), h26, if_neg (by omega)]
        rw [hw]
        refine ⟨?_, rfl⟩
        show Sim n (wN (wI (wI (thS T 0) 731 (upd (sI S 731) i (nI (tI p (nI c) k)))) 732 (upd (sI S 732) i y)) 26 (sN S 16))
        have fI : ∀ m, m ≠ 600 → m ≠ 20 → m ≠ 21 → m ≠ 731 → m ≠ 732 → sI (wN (wI (wI (thS T 0) 731 (upd (sI S 731) i (nI (tI p (nI c) k)))) 732 (upd (sI S 732) i y)) 26 (sN S 16)) m = sI S m := fun m a1 a2 a3 a4 a5 => by
          rw [wNI, wIo a5, wIo a4, thI a1, t1 m a2 a3]
        have fN : ∀ m, m ≠ 16 → m ≠ 26 → sN (wN (wI (wI (thS T 0) 731 (upd (sI S 731) i (nI (tI p (nI c) k)))) 732 (upd (sI S 732) i y)) 26 (sN S 16)) m = sN S m := fun m a b => by
          rw [wN_ne b]
          exact t4 m a
        have f16 : sN (wN (wI (wI (thS T 0) 731 (upd (sI S 731) i (nI (tI p (nI c) k)))) 732 (upd (sI S 732) i y)) 26 (sN S 16)) 16 = sN S 16 := by
          rw [wN_ne (by decide)]
          exact t16
        have hk := htI (wN (wI (wI (thS T 0) 731 (upd (sI S 731) i (nI (tI p (nI c) k)))) 732 (upd (sI S 732) i y)) 26 (sN S 16)) (fun m x1 y => by rw [fI m (by omega) (by omega) (by omega) (by omega) (by omega)]) (fun m hm => fN m (by omega) (by omega))
        refine h.wv fI (fun j hj => by rw [wNI, wIo (by decide), wIo (by decide), th6 hj, t1 600 (by decide) (by decide)]) t2 t3 fN ⟨by rw [f16, wN_self], by rw [f16]; omega, fun j hj => ?_, fun a b h1 h2 => ?_⟩
        · rw [f16] at hj
          rw [wNI, wNI, wNI, wNI, wIo (by decide), wIo (by decide), thI (by decide), t5, wIo (by decide), wIs, wIo (by decide), wIo (by decide), thI (by decide), t6, wIs]
          obtain ⟨c', q', r', x1, x2, x3, x4, x5⟩ := hW.2.2.1 j hj
          by_cases e : j = i
          · subst e
            exact ⟨c, k, p, (hk c k ht).1, hp, by rw [(hk c k ht).2]; exact e20, if_pos rfl, (show upd (sI S 21) j y j = y from if_pos rfl).trans (show upd (sI S 732) j y j = y from if_pos rfl).symm⟩
          · rw [show upd (sI S 731) i (nI (tI p (nI c) k)) j = sI S 731 j from if_neg e, show upd (sI S 21) i y j = sI S 21 j from if_neg e, show upd (sI S 732) i y j = sI S 732 j from if_neg e]
            exact ⟨c', q', r', (hk c' q' x1).1, x2, by rw [(hk c' q' x1).2]; exact x3, x4, x5⟩
        · rw [f16] at h2
          rw [wNI, wIo (by decide), wIo (by decide), thI (by decide), t5]
          exact hW.2.2.2 a b h1 h2
