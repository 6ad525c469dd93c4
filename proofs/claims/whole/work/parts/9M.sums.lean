/-! sums over things, and the reference's run place by place -/
def sg (f : Nat → Nat) : Nat → Nat
  | 0 => 0
  | n + 1 => sg f n + f n
theorem sg_sum (f : Nat → Nat) : ∀ n, ((List.range n).map f).sum = sg f n
  | 0 => rfl
  | n + 1 => by
    rw [List.range_succ, List.map_append, List.sum_append, sg_sum f n]
    simp [sg]
theorem sg_add (f g : Nat → Nat) : ∀ n, sg (fun i => f i + g i) n = sg f n + sg g n
  | 0 => rfl
  | n + 1 => by
    unfold sg
    rw [sg_add f g n]
    omega
theorem sg_zero : ∀ n, sg (fun _ => 0) n = 0
  | 0 => rfl
  | n + 1 => by
    unfold sg
    rw [sg_zero n]
theorem sg_swap (f : Nat → Nat → Nat) (m : Nat) : ∀ n, sg (fun i => sg (f i) m) n = sg (fun j => sg (fun i => f i j) n) m
  | 0 => (sg_zero m).symm
  | n + 1 => by
    show sg (fun i => sg (f i) m) n + sg (f n) m = _
    rw [sg_swap f m n, ← sg_add]
    rfl
theorem sg_cg {f g : Nat → Nat} : ∀ n, (∀ i, i < n → f i = g i) → sg f n = sg g n
  | 0, _ => rfl
  | n + 1, h => by
    unfold sg
    rw [sg_cg n (fun i hi => h i (by omega)), h n (by omega)]
theorem sg_le {f : Nat → Nat} {b : Nat} : ∀ n, (∀ i, i < n → f i ≤ b) → sg f n ≤ n * b
  | 0, _ => by simp [sg]
  | n + 1, h => by
    unfold sg
    have h1 := sg_le n (fun i hi => h i (by omega))
    have h2 := h n (by omega)
    rw [Nat.succ_mul]
    omega
theorem sg_mono {f g : Nat → Nat} : ∀ n, (∀ i, i < n → f i ≤ g i) → sg f n ≤ sg g n
  | 0, _ => Nat.le_refl _
  | n + 1, h => by
    unfold sg
    have h1 := sg_mono n (fun i hi => h i (by omega))
    have h2 := h n (by omega)
    omega
theorem sg_split (f : Nat → Nat) (n : Nat) : ∀ m, sg f (n + m) = sg f n + sg (fun i => f (n + i)) m
  | 0 => rfl
  | m + 1 => by
    show sg f (n + m) + f (n + m) = _
    rw [sg_split f n m]
    show _ = sg f n + (sg (fun i => f (n + i)) m + f (n + m))
    omega
/-- all things in the class's order, and by kind and number -/
theorem sg_ord {S : ST} (h : gT S) (H : Nat → Nat) : sg (fun i => H (sN S (1000 + i))) (sN S 0 + sN S 1 + sN S 2) = sg (fun q => H (tid 0 q)) (sN S 0) + sg (fun q => H (tid 1 q)) (sN S 1) + sg (fun q => H (tid 2 q)) (sN S 2) := by
  have hb := h.1.2.1
  have hO := h.2.2.2.2.2.2.2.1
  have hb0 := hb
  unfold bdS at hb0
  have t0 : ∀ q, tid 0 q = 100 + 3 * q := fun q => if_pos rfl
  have t1 : ∀ q, tid 1 q = 220 + 2 * q := fun q => rfl
  have t2 : ∀ q, tid 2 q = 300 + q := fun q => rfl
  have hperm : ((List.range (sN S 0 + sN S 1 + sN S 2)).map (fun i => sN S (1000 + i))).Perm ((List.range (sN S 0)).map (tid 0) ++ (List.range (sN S 1)).map (tid 1) ++ (List.range (sN S 2)).map (tid 2)) := by
    rw [List.perm_ext_iff_of_nodup]
    · intro x
      simp only [List.mem_append, List.mem_map, List.mem_range]
      constructor
      · rintro ⟨i, hi, rfl⟩
        obtain ⟨c, q, ht, e⟩ := hO.1 i hi
        rw [e]
        rcases ht with ⟨rfl, hq⟩ | ⟨rfl, hq⟩ | ⟨rfl, hq⟩
        · exact Or.inl (Or.inl ⟨q, hq, rfl⟩)
        · exact Or.inl (Or.inr ⟨q, hq, rfl⟩)
        · exact Or.inr ⟨q, hq, rfl⟩
      · rintro ((⟨q, hq, rfl⟩ | ⟨q, hq, rfl⟩) | ⟨q, hq, rfl⟩)
        · exact hO.2.1 0 q (Or.inl ⟨rfl, hq⟩)
        · exact hO.2.1 1 q (Or.inr (Or.inl ⟨rfl, hq⟩))
        · exact hO.2.1 2 q (Or.inr (Or.inr ⟨rfl, hq⟩))
    · rw [List.nodup_iff_pairwise_ne, List.pairwise_map]
      refine List.Pairwise.imp_of_mem (R := fun a b => a < b) ?_ List.pairwise_lt_range
      intro a b ha hb' hab z
      rw [List.mem_range] at ha hb'
      have := hO.2.2 a b hab hb'
      rw [z] at this
      omega
    · rw [List.nodup_append, List.nodup_append]
      refine ⟨⟨?_, ?_, ?_⟩, ?_, ?_⟩
      · rw [List.nodup_iff_pairwise_ne, List.pairwise_map]
        refine List.Pairwise.imp (fun {a b} hab => ?_) List.pairwise_lt_range
        rw [t0, t0]; omega
      · rw [List.nodup_iff_pairwise_ne, List.pairwise_map]
        refine List.Pairwise.imp (fun {a b} hab => ?_) List.pairwise_lt_range
        rw [t1, t1]; omega
      · intro x hx y hy
        rw [List.mem_map] at hx hy
        obtain ⟨a, ha, rfl⟩ := hx
        obtain ⟨b, hb', rfl⟩ := hy
        rw [List.mem_range] at ha hb'
        rw [t0, t1]; omega
      · rw [List.nodup_iff_pairwise_ne, List.pairwise_map]
        refine List.Pairwise.imp (fun {a b} hab => ?_) List.pairwise_lt_range
        rw [t2, t2]; omega
      · intro x hx y hy
        rw [List.mem_append, List.mem_map, List.mem_map] at hx
        rw [List.mem_map] at hy
        obtain ⟨b, hb', rfl⟩ := hy
        rw [List.mem_range] at hb'
        rcases hx with ⟨a, ha, rfl⟩ | ⟨a, ha, rfl⟩
        · rw [List.mem_range] at ha; rw [t0, t2]; omega
        · rw [List.mem_range] at ha; rw [t1, t2]; omega
  have hs := (hperm.map H).sum_nat
  simp only [List.map_append, List.sum_append, List.map_map] at hs
  have e : ∀ (f : Nat → Nat) n, ((List.range n).map (H ∘ f)).sum = sg (fun q => H (f q)) n := fun f n => sg_sum _ n
  rw [e, e, e, e] at hs
  exact hs
/-- the reference's run, place by place -/
theorem tI_inj {r c q r' c' q' : Nat} (hc : c < 3) (hq : q < capN c) (hc' : c' < 3) (hq' : q' < capN c') (h : tI r (nI c) q = tI r' (nI c') q') : r = r' ∧ c = c' ∧ q = q' := by
  obtain ⟨a1, a2, a3, -⟩ := tI_dec (r := r) hc hq
  obtain ⟨b1, b2, b3, -⟩ := tI_dec (r := r') hc' hq'
  rw [h] at a1 a2 a3
  omega
theorem rnK_miss {S : ST} {bf : Nat → Int32} {r : Nat} {s : Int32} {x : Nat} : ∀ (m k : Nat) (t : TR), (∀ q, k ≤ q → q < k + m → x ≠ tI r s q) → (rnK S bf r s m k t).1 x = t.1 x ∧ (rnK S bf r s m k t).2.1 x = t.2.1 x
  | 0, _, _, _ => ⟨rfl, rfl⟩
  | m + 1, k, t, h => by
    obtain ⟨a, b⟩ := rnK_miss m (k + 1) (rn1 S bf r s k t) (fun q h1 h2 => h q (by omega) (by omega))
    unfold rnK
    rw [a, b]
    exact ⟨if_neg (h k (by omega) (by omega)), if_neg (h k (by omega) (by omega))⟩
theorem rnK_hit {S : ST} {bf : Nat → Int32} {r c : Nat} (hc : c < 3) {q : Nat} : ∀ (m k : Nat) (t : TR), k ≤ q → q < k + m → (rnK S bf r (nI c) m k t).1 (tI r (nI c) q) = nwV S bf (wRr S r (nI c) q) (tI r (nI c) q) ∧ (rnK S bf r (nI c) m k t).2.1 (tI r (nI c) q) = wRr S r (nI c) q
  | 0, k, _, h1, h2 => by omega
  | m + 1, k, t, h1, h2 => by
    unfold rnK
    by_cases e : q = k
    · subst e
      obtain ⟨a, b⟩ := rnK_miss (S := S) (bf := bf) (r := r) (s := nI c) (x := tI r (nI c) q) m (q + 1) (rn1 S bf r (nI c) q t) (fun p h3 h4 z => by
        rw [tI_N hc, tI_N hc] at z
        omega)
      rw [a, b]
      exact ⟨if_pos rfl, if_pos rfl⟩
    · exact rnK_hit hc m (k + 1) _ (by omega) (by omega)
theorem rnK_cnt {S : ST} {bf : Nat → Int32} {r : Nat} {s : Int32} : ∀ (m k : Nat) (t : TR), (rnK S bf r s m k t).2.2 = t.2.2 + sg (fun i => if opC S (wRr S r s (k + i)) (tI r s (k + i)) then 1 else 0) m
  | 0, _, _ => rfl
  | m + 1, k, t => by
    unfold rnK
    rw [rnK_cnt m (k + 1)]
    show t.2.2 + (if opC S (wRr S r s k) (tI r s k) then 1 else 0) + _ = _
    rw [show m + 1 = 1 + m by omega, sg_split]
    have e1 : sg (fun i => if opC S (wRr S r s (k + i)) (tI r s (k + i)) then 1 else 0) 1 = if opC S (wRr S r s k) (tI r s k) then 1 else 0 := by
      show 0 + (if opC S (wRr S r s (k + 0)) (tI r s (k + 0)) then 1 else 0) = _
      rw [Nat.zero_add, Nat.add_zero]
    rw [e1, Nat.add_assoc]
    congr 2
    refine sg_cg m (fun i _ => ?_)
    rw [show k + 1 + i = k + (1 + i) by omega]
theorem rnS_miss {S : ST} {bf : Nat → Int32} {r x : Nat} : ∀ (m s : Nat) (t : TR), (∀ c q, s ≤ c → c < s + m → q < mny S c → x ≠ tI r (nI c) q) → (rnS S bf r m s t).1 x = t.1 x ∧ (rnS S bf r m s t).2.1 x = t.2.1 x
  | 0, _, _, _ => ⟨rfl, rfl⟩
  | m + 1, s, t, h => by
    obtain ⟨a, b⟩ := rnS_miss m (s + 1) (rnK S bf r (nI s) (mny S s) 0 t) (fun c q h1 h2 h3 => h c q (by omega) (by omega) h3)
    obtain ⟨a', b'⟩ := rnK_miss (S := S) (bf := bf) (r := r) (s := nI s) (x := x) (mny S s) 0 t (fun q h1 h2 => h s q (by omega) (by omega) (by omega))
    unfold rnS
    rw [a, b, a', b']
    exact ⟨rfl, rfl⟩
theorem rnS_hit {S : ST} {bf : Nat → Int32} {r c q : Nat} (hm : ∀ c, c < 3 → mny S c ≤ capN c) (hq : q < mny S c) : ∀ (m s : Nat) (t : TR), s + m ≤ 3 → s ≤ c → c < s + m → (rnS S bf r m s t).1 (tI r (nI c) q) = nwV S bf (wRr S r (nI c) q) (tI r (nI c) q) ∧ (rnS S bf r m s t).2.1 (tI r (nI c) q) = wRr S r (nI c) q
  | 0, s, _, _, h1, h2 => by omega
  | m + 1, s, t, h3, h1, h2 => by
    unfold rnS
    have hc : c < 3 := by omega
    have hcap := hm c hc
    by_cases e : c = s
    · subst e
      obtain ⟨a, b⟩ := rnS_miss (S := S) (bf := bf) (r := r) (x := tI r (nI c) q) m (c + 1) (rnK S bf r (nI c) (mny S c) 0 t) (fun c' q' h4 h5 h6 z => by
        have := tI_inj hc (by omega) (by omega) (by have := hm c' (by omega); omega) z
        omega)
      rw [a, b]
      exact rnK_hit hc (mny S c) 0 t (by omega) (by omega)
    · exact rnS_hit hm hq m (s + 1) _ (by omega) (by omega) (by omega)
theorem rnS_cnt {S : ST} {bf : Nat → Int32} {r : Nat} : ∀ (m s : Nat) (t : TR), (rnS S bf r m s t).2.2 = t.2.2 + sg (fun i => sg (fun k => if opC S (wRr S r (nI (s + i)) k) (tI r (nI (s + i)) k) then 1 else 0) (mny S (s + i))) m
  | 0, _, _ => rfl
  | m + 1, s, t => by
    unfold rnS
    rw [rnS_cnt m (s + 1), rnK_cnt, show m + 1 = 1 + m by omega, sg_split]
    have e1 : sg (fun i => sg (fun k => if opC S (wRr S r (nI (s + i)) k) (tI r (nI (s + i)) k) then 1 else 0) (mny S (s + i))) 1 = sg (fun k => if opC S (wRr S r (nI s) k) (tI r (nI s) k) then 1 else 0) (mny S s) := by
      show 0 + sg _ (mny S (s + 0)) = _
      rw [Nat.zero_add]
      rfl
    rw [e1, Nat.add_assoc]
    have e2 : sg (fun i => if opC S (wRr S r (nI s) (0 + i)) (tI r (nI s) (0 + i)) then 1 else 0) (mny S s) = sg (fun k => if opC S (wRr S r (nI s) k) (tI r (nI s) k) then 1 else 0) (mny S s) := sg_cg _ (fun i _ => by rw [Nat.zero_add])
    rw [e2]
    congr 2
    refine sg_cg m (fun i _ => ?_)
    rw [show s + 1 + i = s + (1 + i) by omega]
theorem rnR_miss {S : ST} {bf : Nat → Int32} {x : Nat} : ∀ (m r : Nat) (t : TR), (∀ p c q, r ≤ p → p < r + m → c < 3 → q < mny S c → x ≠ tI p (nI c) q) → (rnR S bf m r t).1 x = t.1 x ∧ (rnR S bf m r t).2.1 x = t.2.1 x
  | 0, _, _, _ => ⟨rfl, rfl⟩
  | m + 1, r, t, h => by
    obtain ⟨a, b⟩ := rnR_miss m (r + 1) (rnS S bf r 3 0 t) (fun p c q h1 h2 h3 => h p c q (by omega) (by omega) h3)
    obtain ⟨a', b'⟩ := rnS_miss (S := S) (bf := bf) (r := r) (x := x) 3 0 t (fun c q h1 h2 => h r c q (by omega) (by omega) (by omega))
    unfold rnR
    rw [a, b, a', b']
    exact ⟨rfl, rfl⟩
theorem rnR_hit {S : ST} {bf : Nat → Int32} {p c q : Nat} (hm : ∀ c, c < 3 → mny S c ≤ capN c) (hc : c < 3) (hq : q < mny S c) : ∀ (m r : Nat) (t : TR), r ≤ p → p < r + m → (rnR S bf m r t).1 (tI p (nI c) q) = nwV S bf (wRr S p (nI c) q) (tI p (nI c) q) ∧ (rnR S bf m r t).2.1 (tI p (nI c) q) = wRr S p (nI c) q
  | 0, r, _, h1, h2 => by omega
  | m + 1, r, t, h1, h2 => by
    unfold rnR
    have hcap := hm c hc
    by_cases e : p = r
    · subst e
      obtain ⟨a, b⟩ := rnR_miss (S := S) (bf := bf) (x := tI p (nI c) q) m (p + 1) (rnS S bf p 3 0 t) (fun p' c' q' h4 h5 h6 h7 z => by
        have := tI_inj hc (by omega) h6 (by have := hm c' h6; omega) z
        omega)
      rw [a, b]
      exact rnS_hit hm hq 3 0 t (by omega) (by omega) (by omega)
    · exact rnR_hit hm hc hq m (r + 1) _ (by omega) (by omega)
def rF (S : ST) (p : Nat) : Nat := sg (fun c => sg (fun k => if opC S (wRr S p (nI c) k) (tI p (nI c) k) then 1 else 0) (mny S c)) 3
theorem rnS_cnt3 {S : ST} {bf : Nat → Int32} {r : Nat} {t : TR} : (rnS S bf r 3 0 t).2.2 = t.2.2 + rF S r := by
  rw [rnS_cnt]
  refine congrArg (fun z => t.2.2 + z) ?_
  exact sg_cg 3 (fun i _ => by rw [Nat.zero_add])
theorem rnR_cnt {S : ST} {bf : Nat → Int32} : ∀ (m r : Nat) (t : TR), (rnR S bf m r t).2.2 = t.2.2 + sg (fun j => rF S (r + j)) m
  | 0, _, _ => rfl
  | m + 1, r, t => by
    unfold rnR
    rw [rnR_cnt m (r + 1), rnS_cnt3, show m + 1 = 1 + m by omega, sg_split]
    have e1 : sg (fun j => rF S (r + j)) 1 = rF S r := by
      show 0 + rF S (r + 0) = _
      rw [Nat.zero_add, Nat.add_zero]
    have e3 : sg (fun j => rF S (r + 1 + j)) m = sg (fun i => rF S (r + (1 + i))) m := sg_cg m (fun i _ => by rw [show r + 1 + i = r + (1 + i) by omega])
    rw [e1, e3, Nat.add_assoc]
