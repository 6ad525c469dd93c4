/-! how many remarks there can be; what the reference finds -/
theorem wR_eq {S : ST} (h : gT S) (hd : gD S) (hT : ∀ i, i < 100 → sI S 701 i = sI S 11 i) (hF : gF S) {c q r : Nat} (ht : tok S c q) (hr : r < 27) : wRr S r (nI c) q = (if r < 7 + sN S 3 ∧ sI S 9 r = 0 then wgt S c q r else 0) ∧ 0 ≤ wRr S r (nI c) q := by
  have h3 := hd.2.1
  have e25 : (¬ nI (7 + sN S 25) ≤ nI r) ↔ r < 7 + sN S 3 := by
    rw [hd.1, nI_leI (by omega) (by omega)]
    omega
  unfold wRr
  rw [(hF r hr).1]
  by_cases z : r < 7 + sN S 3 ∧ sI S 9 r = 0
  · obtain ⟨w1, w2⟩ := wgt_eq h hd hT ht z.1
    rw [if_pos z, if_pos ⟨e25.mpr z.1, z.2⟩, w1]
    exact ⟨rfl, w2⟩
  · rw [if_neg z, if_neg (fun y => z ⟨e25.mp y.1, y.2⟩)]
    exact ⟨rfl, by decide⟩
theorem one_le {S : ST} {c q r : Nat} : (oneR S c q r).countP (fun _ => true) ≤ 1 := by
  unfold oneR
  split <;> simp
theorem one_no {S : ST} {c q r : Nat} {p : RM → Bool} (h : wgt S c q r = 0) : (oneR S c q r).countP p = 0 := by
  unfold oneR
  rw [if_neg (fun z => by rw [h] at z; exact absurd z.2 (by decide))]
  rfl
theorem wgt_kind {S : ST} {c q r : Nat} (hr : r < 7) : (c = 0 → wgt S c q r = 0) ∧ (c = 1 → r < 2 → wgt S c q r = 0) ∧ (c = 2 → 2 ≤ r → wgt S c q r = 0) := by
  unfold wgt
  rw [if_pos hr]
  refine ⟨fun e => by rw [if_pos e], fun e h2 => ?_, fun e h2 => ?_⟩
  · rw [if_neg (by omega), if_pos e]
    unfold nbw
    rcases (show r = 0 ∨ r = 1 by omega) with rfl | rfl
    · rw [if_neg (by decide), if_neg (by decide), if_neg (by decide), if_neg (by decide), if_neg (by decide)]
    · rw [if_neg (by decide), if_neg (by decide), if_neg (by decide), if_neg (by decide), if_neg (by decide)]
  · rw [if_neg (by omega), if_neg (by omega)]
    unfold pbw
    rw [if_neg (fun z => by rw [show (0 : Int32) = nI 0 from rfl, nI_eq (by omega) (by omega)] at z; omega), if_neg (fun z => by rw [show (1 : Int32) = nI 1 from rfl, nI_eq (by omega) (by omega)] at z; omega)]
theorem all_len {S : ST} (h : gT S) (hd : gD S) : (allR S (sN S 0 + sN S 1 + sN S 2) 0).length ≤ 3720 := by
  have h3 := hd.2.1
  have hb := h.1.2.1
  unfold bdS at hb
  rw [← List.countP_true, all_sum h (F := fun c q r => if r < 7 + sN S 3 then (oneR S c q r).countP (fun _ => true) else 0) h3 (fun _ _ _ _ _ => rfl)]
  have key : ∀ r, r < 27 → sg (fun q => if r < 7 + sN S 3 then (oneR S 0 q r).countP (fun _ => true) else 0) (sN S 0) + sg (fun q => if r < 7 + sN S 3 then (oneR S 1 q r).countP (fun _ => true) else 0) (sN S 1) + sg (fun q => if r < 7 + sN S 3 then (oneR S 2 q r).countP (fun _ => true) else 0) (sN S 2) ≤ (if r < 2 then 160 else if r < 7 then 40 else 160) := by
    intro r hr
    have up : ∀ c n, sg (fun q => if r < 7 + sN S 3 then (oneR S c q r).countP (fun _ => true) else 0) n ≤ n := fun c n => by
      have := sg_le (f := fun q => if r < 7 + sN S 3 then (oneR S c q r).countP (fun _ => true) else 0) (b := 1) n (fun i _ => by
        show (if r < 7 + sN S 3 then (oneR S c i r).countP (fun _ => true) else 0) ≤ 1
        split
        · exact one_le
        · omega)
      omega
    have no : ∀ c n, (∀ q, q < n → wgt S c q r = 0) → sg (fun q => if r < 7 + sN S 3 then (oneR S c q r).countP (fun _ => true) else 0) n = 0 := fun c n hz => by
      rw [sg_cg (g := fun _ => 0) n (fun q hq => by
        show (if r < 7 + sN S 3 then (oneR S c q r).countP (fun _ => true) else 0) = 0
        rw [one_no (hz q hq)]
        split <;> rfl)]
      exact sg_zero n
    by_cases h2 : r < 2
    · rw [if_pos h2, no 0 _ (fun q _ => (wgt_kind (by omega)).1 rfl), no 1 _ (fun q _ => (wgt_kind (by omega)).2.1 rfl h2)]
      have := up 2 (sN S 2)
      omega
    · rw [if_neg h2]
      by_cases h7 : r < 7
      · rw [if_pos h7, no 0 _ (fun q _ => (wgt_kind h7).1 rfl), no 2 _ (fun q _ => (wgt_kind h7).2.2 rfl (by omega))]
        have := up 1 (sN S 1)
        omega
      · rw [if_neg h7]
        by_cases hN : r < 7 + sN S 3
        · obtain ⟨t1, t2, t3, -⟩ := hd.2.2.1 (r - 7) (by omega)
          have wz : ∀ c q, ¬ sI S (460 + 3 * (r - 7)) 0 = nI c → wgt S c q r = 0 := fun c q hne => by
            unfold wgt
            rw [if_neg h7, if_neg hne]
          rcases t3 with e | e | e
          · rw [no 1 _ (fun q _ => wz 1 q (by rw [e]; decide)), no 2 _ (fun q _ => wz 2 q (by rw [e]; decide))]
            have := up 0 (sN S 0)
            omega
          · rw [no 0 _ (fun q _ => wz 0 q (by rw [e]; decide)), no 2 _ (fun q _ => wz 2 q (by rw [e]; decide))]
            have := up 1 (sN S 1)
            omega
          · rw [no 0 _ (fun q _ => wz 0 q (by rw [e]; decide)), no 1 _ (fun q _ => wz 1 q (by rw [e]; decide))]
            have := up 2 (sN S 2)
            omega
        · have z : ∀ c n, sg (fun q => if r < 7 + sN S 3 then (oneR S c q r).countP (fun _ => true) else 0) n = 0 := fun c n => by
            rw [sg_cg (g := fun _ => 0) n (fun q _ => by rw [if_neg hN])]
            exact sg_zero n
          rw [z, z, z]
          omega
  refine Nat.le_trans (sg_mono 27 key) ?_
  decide
