/-! The reference: what it counts and reads -/
def mInv (S : ST) : Prop := (sN S 20 ≤ 40 ∧ sN S 21 ≤ 40 ∧ sN S 22 ≤ 160 ∧ sN S 23 ≤ 100 ∧ sN S 26 ≤ 50) ∧ (∀ k, k < 160 → ∃ p, p < 40 ∧ sI S 709 k = nI p) ∧ (∀ k, k < 160 → sI S 710 k = -1 ∨ ∃ n, n < 40 ∧ sI S 710 k = nI n) ∧ ∀ k, k < 160 → ∃ e, e < 10 ∧ sI S 711 k = nI e
abbrev hasC (S : ST) (s k : Int32) (p : Nat) : Prop := (s = 0 ∧ sI S 709 p = k) ∨ (¬ s = 0 ∧ sI S 710 p = k)
abbrev pcC (S : ST) (s k t : Int32) (p : Nat) : Prop := hasC S s k p ∧ (t < 0 ∨ sI S 711 p = t)
def pcR (S : ST) (s k t : Int32) : Nat → Nat
  | 0 => 0
  | p + 1 => pcR S s k t p + (if pcC S s k t p then 1 else 0)
theorem pcR_le {S : ST} {s k t : Int32} : ∀ n, pcR S s k t n ≤ n
  | 0 => Nat.le_refl _
  | n + 1 => by have := pcR_le (S := S) (s := s) (k := k) (t := t) n; unfold pcR; split <;> omega
theorem pcR_step {S : ST} {s k t : Int32} {p : Nat} : nI (pcR S s k t p) + zb (pcC S s k t p) = nI (pcR S s k t (p + 1)) := by
  rw [pcR]
  by_cases h : pcC S s k t p
  · rw [zb_t h, if_pos h]; exact nI_1 _
  · rw [zb_f h, if_neg h]; exact Int32.add_zero _
def rsR (S : ST) (x : Int32) : Nat → Int32
  | 0 => -1
  | n + 1 => if sI S 731 n = x then sI S 732 n else rsR S x n
def ptO (S : ST) (s : Int32) (k : Nat) : Nat := if s = 0 then k else (sI S 709 k).toNatClampNeg
def shR (S : ST) (s : Int32) (k : Nat) : Int32 := if s = 1 then sI S 707 k else sI S 705 (ptO S s k)
def wvV (S : ST) (p q : Nat) : Int32 := if ¬ sI S 710 p = -1 ∧ sI S 710 q = sI S 710 p then sI S 701 (10 * (sI S 711 p).toNatClampNeg + (sI S 711 q).toNatClampNeg) else 0
def wvR (S : ST) (p : Nat) : Nat → Int32
  | 0 => 0
  | q + 1 => if wvV S p q ≤ wvR S p q then wvR S p q else wvV S p q
abbrev nbR (S : ST) (n m : Nat) : Prop := ∃ j, j < m ∧ sI S 708 j = sI S 708 n
abbrev ogC (S : ST) (n : Int32) (j : Nat) : Prop := sI S 713 j = n ∧ (¬ sJ S 714 j - sJ S 714 j / 100 * 100 = 0 ∨ ¬ sJ S 715 j - sJ S 715 j / 100 * 100 = 0)
abbrev ogR (S : ST) (n : Int32) (m : Nat) : Prop := ∃ j, j < m ∧ ogC S n j
theorem ex_step {P : Nat → Prop} {m : Nat} : (∃ j, j < m + 1 ∧ P j) ↔ (∃ j, j < m ∧ P j) ∨ P m := by
  constructor
  · rintro ⟨j, h1, h2⟩
    rcases Nat.lt_succ_iff_lt_or_eq.mp h1 with h | rfl
    · exact Or.inl ⟨j, h, h2⟩
    · exact Or.inr h2
  · rintro (⟨j, h1, h2⟩ | h)
    · exact ⟨j, by omega, h2⟩
    · exact ⟨m, by omega, h⟩
def tmR (S : ST) (g x s : Int32) (k : Nat) : Int64 :=
  if g = 0 then x.toInt64 else if g = 1 then sJ S 706 (8 * ptO S s k + x.toNatClampNeg) else if g = 2 then (nI (pcR S s (nI k) (-1) (sN S 22))).toInt64 else if g = 3 then (sI S 711 k).toInt64
  else if g = 4 then (if s = 1 then (sI S 708 k).toInt64 else if sI S 710 k = -1 then -1 else (sI S 708 (sI S 710 k).toNatClampNeg).toInt64)
  else if g = 5 then (shR S s k).toInt64 else (nI (pcR S s (nI k) x (sN S 22))).toInt64
set_option maxHeartbeats 4000000 in
set_option maxRecDepth 100000 in
theorem C_Mo_partOf {w : zC} {Z : zZ} {Q : zR → zZ → Prop} {ad : Nat → Nat} {S : ST} (hR : Rep w ad S Z) (hI : mInv S) {s : Int32} {k : Nat} (hk : k < 160) (hQ : Q (.inl (some (.int (nI (ptO S s k))))) Z) : Cz w (0, 0) y_Mo_partOf (Cond.code y_Mo_partOf c_Mo_partOf 3 r_Mo_partOf :: wz) [.ref (ad 600), .int s, .int (nI k)] Z Q := by
  refine Cz.of (by decide +kernel) (by simp [lg_sl, Value.category]) ?_
  show G _ _ _ _ _ _ _ _ [(0, _), (1, _), (2, _)] _ _
  have hm : zhs Z (ad 600) (.inr (10, [.int (sI S 600 0), .ref (ad 701), .int (nI (sN S 20)), .int (nI (sN S 21)), .int (nI (sN S 22)), .ref (ad 705), .ref (ad 706), .ref (ad 707), .ref (ad 708), .ref (ad 709), .ref (ad 710), .ref (ad 711), .int (nI (sN S 23)), .ref (ad 713), .ref (ad 714), .ref (ad 715), .ref (ad 716), .int (nI (sN S 24)), .int (nI (sN S 25)), .ref (ad 719), .ref (ad 720), .ref (ad 721), .ref (ad 722), .ref (ad 723), .ref (ad 724), .int (sI S 600 25), .ref (ad 726), .ref (ad 727), .ref (ad 728), .int (sI S 600 29), .int (nI (sN S 26)), .ref (ad 731), .ref (ad 732), .int (nI (sN S 27)), .int (nI (sN S 28)), .int (nI (sN S 29)), .int (nI (sN S 30)), .ref (ad 737), .int (nI (sN S 31)), .int (nI (sN S 32)), .int (sI S 600 40), .ref (ad 741)])) := hR.m
  have m709 : zhs Z (ad 709) (xi w 160 (sI S 709)) := hR.ma 709 (by decide)
  have J : ∀ i j, mL i → mL j → i ≠ j → ad i ≠ ad j := fun i j hi hj hne => hR.inj (lvL hi) (lvL hj) hne
  obtain ⟨Z0, hZ0⟩ : ∃ Z0, Z0 = Z := ⟨_, rfl⟩
  have hB : Z.2.2 = Z0.2.2 := by rw [hZ0]
  refine g_iload_n d_Mo_partOf_0 rfl 1 rfl ?_
  first | refine g_if_neB (tgt := 8) d_Mo_partOf_1 (by decide) (fun h1 => ?_) (fun h1 => ?_) | refine g_if_ne (tgt := 8) d_Mo_partOf_1 (by decide) (fun h1 => ?_) (fun h1 => ?_)
  · obtain ⟨p, hp, ep⟩ := hI.2.1 k hk
    have e9 : sI S 709 k = nI (ptO S s k) := by unfold ptO; rw [if_neg h1, ep, nI_clamp (by omega)]
    rw [← e9] at hQ
    refine g_aload_nq d_Mo_partOf_8 rfl 0 rfl ?_
    refine g_get d_Mo_partOf_9 f_Mo_26_Mo (by assumption) (by first | rfl | assumption) ?_
    refine g_iload_n d_Mo_partOf_12 rfl 2 rfl ?_
    refine g_iald d_Mo_partOf_13 (by assumption) (vp_in_nI hk (by decide)) ?_
    rw [nI_clamp (by omega)]
    refine g_iret d_Mo_partOf_14 ?_
    exact hQ
  · have e9 : nI k = nI (ptO S s k) := by unfold ptO; rw [if_pos h1]
    rw [← e9] at hQ
    refine g_iload_n d_Mo_partOf_4 rfl 2 rfl ?_
    refine g_goto (tgt := 14) d_Mo_partOf_5 (by decide) ?_
    refine g_iret d_Mo_partOf_14 ?_
    exact hQ

theorem ptO_lt {S : ST} {s : Int32} {k : Nat} (hI : mInv S) (hk : k < 160) (hs : s = 2 ∨ k < 40) : ptO S s k < 40 := by
  unfold ptO
  split
  · rename_i h
    rcases hs with rfl | hs
    · exact absurd h (by decide)
    · exact hs
  · obtain ⟨p, hp, ep⟩ := hI.2.1 k hk
    rw [ep, nI_clamp (by omega)]
    exact hp

set_option maxHeartbeats 4000000 in
set_option maxRecDepth 100000 in
theorem C_Mo_sheetOf {w : zC} {Z : zZ} {Q : zR → zZ → Prop} {ad : Nat → Nat} {S : ST} (hR : Rep w ad S Z) (hI : mInv S) {s : Int32} {k : Nat} (hk : k < 160) (hs : s = 2 ∨ k < 40) (hQ : Q (.inl (some (.int (shR S s k)))) Z) : Cz w (1, 30) y_Mo_sheetOf (Cond.code y_Mo_sheetOf c_Mo_sheetOf 3 r_Mo_sheetOf :: wz) [.ref (ad 600), .int s, .int (nI k)] Z Q := by
  refine Cz.of (by decide +kernel) (by simp [lg_sl, Value.category]) ?_
  show G _ _ _ _ _ _ _ _ [(0, _), (1, _), (2, _)] _ _
  have hm : zhs Z (ad 600) (.inr (10, [.int (sI S 600 0), .ref (ad 701), .int (nI (sN S 20)), .int (nI (sN S 21)), .int (nI (sN S 22)), .ref (ad 705), .ref (ad 706), .ref (ad 707), .ref (ad 708), .ref (ad 709), .ref (ad 710), .ref (ad 711), .int (nI (sN S 23)), .ref (ad 713), .ref (ad 714), .ref (ad 715), .ref (ad 716), .int (nI (sN S 24)), .int (nI (sN S 25)), .ref (ad 719), .ref (ad 720), .ref (ad 721), .ref (ad 722), .ref (ad 723), .ref (ad 724), .int (sI S 600 25), .ref (ad 726), .ref (ad 727), .ref (ad 728), .int (sI S 600 29), .int (nI (sN S 26)), .ref (ad 731), .ref (ad 732), .int (nI (sN S 27)), .int (nI (sN S 28)), .int (nI (sN S 29)), .int (nI (sN S 30)), .ref (ad 737), .int (nI (sN S 31)), .int (nI (sN S 32)), .int (sI S 600 40), .ref (ad 741)])) := hR.m
  have m705 : zhs Z (ad 705) (xi w 40 (sI S 705)) := hR.ma 705 (by decide)
  have m707 : zhs Z (ad 707) (xi w 40 (sI S 707)) := hR.ma 707 (by decide)
  have J : ∀ i j, mL i → mL j → i ≠ j → ad i ≠ ad j := fun i j hi hj hne => hR.inj (lvL hi) (lvL hj) hne
  obtain ⟨Z0, hZ0⟩ : ∃ Z0, Z0 = Z := ⟨_, rfl⟩
  have hB : Z.2.2 = Z0.2.2 := by rw [hZ0]
  refine g_iload_n d_Mo_sheetOf_0 rfl 1 rfl ?_
  refine g_iconst (v := 1) d_Mo_sheetOf_1 rfl ?_
  refine g_icmp_ne (tgt := 14) d_Mo_sheetOf_2 (by decide) (fun h2 => ?_) (fun h2 => ?_)
  · have h40 := ptO_lt hI hk hs
    rw [shR, if_neg h2] at hQ
    refine g_aload_nq d_Mo_sheetOf_14 rfl 0 rfl ?_
    refine g_get d_Mo_sheetOf_15 f_Mo_13_Mo (by assumption) (by first | rfl | assumption) ?_
    refine g_aload_nq d_Mo_sheetOf_18 rfl 0 rfl ?_
    refine g_iload_n d_Mo_sheetOf_19 rfl 1 rfl ?_
    refine g_iload_n d_Mo_sheetOf_20 rfl 2 rfl ?_
    refine g_callV d_Mo_sheetOf_21 k_Mo_partOf l_Mo_216 i_Mo_partOf rfl p_Mo_partOf hm (by rfl) (by rfl) (Nat.le_of_ble_eq_true rfl) (by decide) (C_Mo_partOf hR hI hk ⟨_, rfl, ?_⟩)
    refine g_iald d_Mo_sheetOf_24 (by assumption) (vp_in_nI h40 (by decide)) ?_
    rw [nI_clamp (by omega)]
    refine g_iret d_Mo_sheetOf_25 ?_
    exact hQ
  · have h40 : k < 40 := by rcases hs with rfl | hs; exact absurd h2 (by decide); exact hs
    rw [shR, if_pos h2] at hQ
    refine g_aload_nq d_Mo_sheetOf_5 rfl 0 rfl ?_
    refine g_get d_Mo_sheetOf_6 f_Mo_20_Mo (by assumption) (by first | rfl | assumption) ?_
    refine g_iload_n d_Mo_sheetOf_9 rfl 2 rfl ?_
    refine g_iald d_Mo_sheetOf_10 (by assumption) (vp_in_nI h40 (by decide)) ?_
    rw [nI_clamp (by omega)]
    refine g_goto (tgt := 25) d_Mo_sheetOf_11 (by decide) ?_
    refine g_iret d_Mo_sheetOf_25 ?_
    exact hQ

set_option maxHeartbeats 4000000 in
set_option maxRecDepth 100000 in
theorem J1_Mo_pinsOf {w : zC} {Z : zZ} {Q : zR → zZ → Prop} {ad : Nat → Nat} {S : ST} (hR : Rep w ad S Z) {p : Nat} {n s x t : Int32} (hp : p < 160) (k9 : G w y_Mo_pinsOf c_Mo_pinsOf 7 r_Mo_pinsOf (0, 0) Q 54 [(5, .int (nI p)), (4, .int n), (0, .ref (ad 600)), (1, .int s), (2, .int x), (3, .int t)] [.int (zb (hasC S s x p))] Z) : G w y_Mo_pinsOf c_Mo_pinsOf 7 r_Mo_pinsOf (0, 0) Q 15 [(5, .int (nI p)), (4, .int n), (0, .ref (ad 600)), (1, .int s), (2, .int x), (3, .int t)] [] Z := by
  have hm : zhs Z (ad 600) (.inr (10, [.int (sI S 600 0), .ref (ad 701), .int (nI (sN S 20)), .int (nI (sN S 21)), .int (nI (sN S 22)), .ref (ad 705), .ref (ad 706), .ref (ad 707), .ref (ad 708), .ref (ad 709), .ref (ad 710), .ref (ad 711), .int (nI (sN S 23)), .ref (ad 713), .ref (ad 714), .ref (ad 715), .ref (ad 716), .int (nI (sN S 24)), .int (nI (sN S 25)), .ref (ad 719), .ref (ad 720), .ref (ad 721), .ref (ad 722), .ref (ad 723), .ref (ad 724), .int (sI S 600 25), .ref (ad 726), .ref (ad 727), .ref (ad 728), .int (sI S 600 29), .int (nI (sN S 26)), .ref (ad 731), .ref (ad 732), .int (nI (sN S 27)), .int (nI (sN S 28)), .int (nI (sN S 29)), .int (nI (sN S 30)), .ref (ad 737), .int (nI (sN S 31)), .int (nI (sN S 32)), .int (sI S 600 40), .ref (ad 741)])) := hR.m
  have m709 : zhs Z (ad 709) (xi w 160 (sI S 709)) := hR.ma 709 (by decide)
  have m710 : zhs Z (ad 710) (xi w 160 (sI S 710)) := hR.ma 710 (by decide)
  have J : ∀ i j, mL i → mL j → i ≠ j → ad i ≠ ad j := fun i j hi hj hne => hR.inj (lvL hi) (lvL hj) hne
  obtain ⟨Z0, hZ0⟩ : ∃ Z0, Z0 = Z := ⟨_, rfl⟩
  have hB : Z.2.2 = Z0.2.2 := by rw [hZ0]
  refine g_iload_n d_Mo_pinsOf_15 rfl 3 rfl ?_
  first | refine g_if_neB (tgt := 38) d_Mo_pinsOf_16 (by decide) (fun h16 => ?_) (fun h16 => ?_) | refine g_if_ne (tgt := 38) d_Mo_pinsOf_16 (by decide) (fun h16 => ?_) (fun h16 => ?_)
  · refine g_aload_nq d_Mo_pinsOf_38 rfl 2 rfl ?_
    refine g_get d_Mo_pinsOf_39 f_Mo_29_Mo (by assumption) (by first | rfl | assumption) ?_
    refine g_iload d_Mo_pinsOf_42 0 rfl ?_
    refine g_iald d_Mo_pinsOf_44 (by assumption) (vp_in_nI (n := p) (by omega) (by decide)) ?_
    rw [nI_clamp (by omega)]
    refine g_iload_n d_Mo_pinsOf_45 rfl 4 rfl ?_
    refine g_icmp_ne (tgt := 53) d_Mo_pinsOf_46 (by decide) (fun h46 => ?_) (fun h46 => ?_)
    · rw [zb_f (show ¬ hasC S s x p from fun z => by rcases z with z | z; exact h16 z.1; exact h46 z.2)] at k9
      refine g_iconst (v := 0) d_Mo_pinsOf_53 rfl ?_
      exact k9
    · rw [zb_t (show hasC S s x p from Or.inr ⟨h16, h46⟩)] at k9
      refine g_iconst (v := 1) d_Mo_pinsOf_49 rfl ?_
      refine g_goto (tgt := 54) d_Mo_pinsOf_50 (by decide) ?_
      exact k9
  · refine g_aload_nq d_Mo_pinsOf_19 rfl 2 rfl ?_
    refine g_get d_Mo_pinsOf_20 f_Mo_26_Mo (by assumption) (by first | rfl | assumption) ?_
    refine g_iload d_Mo_pinsOf_23 0 rfl ?_
    refine g_iald d_Mo_pinsOf_25 (by assumption) (vp_in_nI (n := p) (by omega) (by decide)) ?_
    rw [nI_clamp (by omega)]
    refine g_iload_n d_Mo_pinsOf_26 rfl 4 rfl ?_
    refine g_icmp_ne (tgt := 34) d_Mo_pinsOf_27 (by decide) (fun h27 => ?_) (fun h27 => ?_)
    · rw [zb_f (show ¬ hasC S s x p from fun z => by rcases z with z | z; exact h27 z.2; exact z.1 h16)] at k9
      refine g_iconst (v := 0) d_Mo_pinsOf_34 rfl ?_
      refine g_goto (tgt := 54) d_Mo_pinsOf_35 (by decide) ?_
      exact k9
    · rw [zb_t (show hasC S s x p from Or.inl ⟨h16, h27⟩)] at k9
      refine g_iconst (v := 1) d_Mo_pinsOf_30 rfl ?_
      refine g_goto (tgt := 54) d_Mo_pinsOf_31 (by decide) ?_
      exact k9

set_option maxHeartbeats 4000000 in
set_option maxRecDepth 100000 in
theorem J2_Mo_pinsOf {w : zC} {Z : zZ} {Q : zR → zZ → Prop} {ad : Nat → Nat} {S : ST} (hR : Rep w ad S Z) {p : Nat} {n s x t : Int32} (hp : p < 160) (k9 : G w y_Mo_pinsOf c_Mo_pinsOf 7 r_Mo_pinsOf (0, 0) Q 83 [(6, .int (zb (hasC S s x p))), (5, .int (nI p)), (4, .int n), (0, .ref (ad 600)), (1, .int s), (2, .int x), (3, .int t)] [.int (zb (pcC S s x t p)), .int n] Z) : G w y_Mo_pinsOf c_Mo_pinsOf 7 r_Mo_pinsOf (0, 0) Q 58 [(6, .int (zb (hasC S s x p))), (5, .int (nI p)), (4, .int n), (0, .ref (ad 600)), (1, .int s), (2, .int x), (3, .int t)] [.int n] Z := by
  have hm : zhs Z (ad 600) (.inr (10, [.int (sI S 600 0), .ref (ad 701), .int (nI (sN S 20)), .int (nI (sN S 21)), .int (nI (sN S 22)), .ref (ad 705), .ref (ad 706), .ref (ad 707), .ref (ad 708), .ref (ad 709), .ref (ad 710), .ref (ad 711), .int (nI (sN S 23)), .ref (ad 713), .ref (ad 714), .ref (ad 715), .ref (ad 716), .int (nI (sN S 24)), .int (nI (sN S 25)), .ref (ad 719), .ref (ad 720), .ref (ad 721), .ref (ad 722), .ref (ad 723), .ref (ad 724), .int (sI S 600 25), .ref (ad 726), .ref (ad 727), .ref (ad 728), .int (sI S 600 29), .int (nI (sN S 26)), .ref (ad 731), .ref (ad 732), .int (nI (sN S 27)), .int (nI (sN S 28)), .int (nI (sN S 29)), .int (nI (sN S 30)), .ref (ad 737), .int (nI (sN S 31)), .int (nI (sN S 32)), .int (sI S 600 40), .ref (ad 741)])) := hR.m
  have m711 : zhs Z (ad 711) (xi w 160 (sI S 711)) := hR.ma 711 (by decide)
  have J : ∀ i j, mL i → mL j → i ≠ j → ad i ≠ ad j := fun i j hi hj hne => hR.inj (lvL hi) (lvL hj) hne
  obtain ⟨Z0, hZ0⟩ : ∃ Z0, Z0 = Z := ⟨_, rfl⟩
  have hB : Z.2.2 = Z0.2.2 := by rw [hZ0]
  refine g_iload d_Mo_pinsOf_58 0 rfl ?_
  first | refine g_if_eqB (tgt := 82) d_Mo_pinsOf_60 (by decide) (fun h60 => ?_) (fun h60 => ?_) | refine g_if_eq (tgt := 82) d_Mo_pinsOf_60 (by decide) (fun h60 => ?_) (fun h60 => ?_)
  · rw [zb_f (show ¬ pcC S s x t p from fun z => h60 z.1)] at k9
    refine g_iconst (v := 0) d_Mo_pinsOf_82 rfl ?_
    exact k9
  · refine g_iload_n d_Mo_pinsOf_63 rfl 6 rfl ?_
    refine g_if_lt (tgt := 78) d_Mo_pinsOf_64 (by decide) (fun h64 => ?_) (fun h64 => ?_)
    · rw [zb_t (show pcC S s x t p from ⟨h60, Or.inl h64⟩)] at k9
      refine g_iconst (v := 1) d_Mo_pinsOf_78 rfl ?_
      refine g_goto (tgt := 83) d_Mo_pinsOf_79 (by decide) ?_
      exact k9
    · refine g_aload_nq d_Mo_pinsOf_67 rfl 3 rfl ?_
      refine g_get d_Mo_pinsOf_68 f_Mo_32_Mo (by assumption) (by first | rfl | assumption) ?_
      refine g_iload d_Mo_pinsOf_71 1 rfl ?_
      refine g_iald d_Mo_pinsOf_73 (by assumption) (vp_in_nI (n := p) (by omega) (by decide)) ?_
      rw [nI_clamp (by omega)]
      refine g_iload_n d_Mo_pinsOf_74 rfl 6 rfl ?_
      refine g_icmp_ne (tgt := 82) d_Mo_pinsOf_75 (by decide) (fun h75 => ?_) (fun h75 => ?_)
      · rw [zb_f (show ¬ pcC S s x t p from fun z => by rcases z.2 with z | z; exact h64 z; exact h75 z)] at k9
        refine g_iconst (v := 0) d_Mo_pinsOf_82 rfl ?_
        exact k9
      · rw [zb_t (show pcC S s x t p from ⟨h60, Or.inr h75⟩)] at k9
        refine g_iconst (v := 1) d_Mo_pinsOf_78 rfl ?_
        refine g_goto (tgt := 83) d_Mo_pinsOf_79 (by decide) ?_
        exact k9

set_option maxHeartbeats 4000000 in
set_option maxRecDepth 100000 in
theorem L_Mo_pinsOf {w : zC} {Z : zZ} {Q : zR → zZ → Prop} {ad : Nat → Nat} {S : ST} (hR : Rep w ad S Z) (hI : mInv S) {s x t : Int32} (hQ : Q (.inl (some (.int (nI (pcR S s x t (sN S 22)))))) Z) (m : Nat) : ∀ p, p + m = sN S 22 → G w y_Mo_pinsOf c_Mo_pinsOf 7 r_Mo_pinsOf (0, 0) Q 6 [(5, .int (nI p)), (4, .int (nI (pcR S s x t p))), (0, .ref (ad 600)), (1, .int s), (2, .int x), (3, .int t)] [] Z := by
  have hm : zhs Z (ad 600) (.inr (10, [.int (sI S 600 0), .ref (ad 701), .int (nI (sN S 20)), .int (nI (sN S 21)), .int (nI (sN S 22)), .ref (ad 705), .ref (ad 706), .ref (ad 707), .ref (ad 708), .ref (ad 709), .ref (ad 710), .ref (ad 711), .int (nI (sN S 23)), .ref (ad 713), .ref (ad 714), .ref (ad 715), .ref (ad 716), .int (nI (sN S 24)), .int (nI (sN S 25)), .ref (ad 719), .ref (ad 720), .ref (ad 721), .ref (ad 722), .ref (ad 723), .ref (ad 724), .int (sI S 600 25), .ref (ad 726), .ref (ad 727), .ref (ad 728), .int (sI S 600 29), .int (nI (sN S 26)), .ref (ad 731), .ref (ad 732), .int (nI (sN S 27)), .int (nI (sN S 28)), .int (nI (sN S 29)), .int (nI (sN S 30)), .ref (ad 737), .int (nI (sN S 31)), .int (nI (sN S 32)), .int (sI S 600 40), .ref (ad 741)])) := hR.m
  have J : ∀ i j, mL i → mL j → i ≠ j → ad i ≠ ad j := fun i j hi hj hne => hR.inj (lvL hi) (lvL hj) hne
  obtain ⟨Z0, hZ0⟩ : ∃ Z0, Z0 = Z := ⟨_, rfl⟩
  have hB : Z.2.2 = Z0.2.2 := by rw [hZ0]
  have h160 := hI.1.2.2.1
  induction m with
  | zero =>
    intro p hp
    refine g_iload d_Mo_pinsOf_6 0 rfl ?_
    refine g_aload_nq d_Mo_pinsOf_8 rfl 2 rfl ?_
    refine g_get d_Mo_pinsOf_9 f_Mo_113_Mo (by assumption) (by first | rfl | assumption) ?_
    refine g_icmp_ge (tgt := 92) d_Mo_pinsOf_12 (by decide) (fun h12 => ?_) (fun h12 => ?_)
    · rw [show p = sN S 22 by omega]
      refine g_iload d_Mo_pinsOf_92 1 rfl ?_
      refine g_iret d_Mo_pinsOf_94 ?_
      exact hQ
    · exact absurd (nI_le (by omega) (by omega)) h12
  | succ m ih =>
    intro p hp
    refine g_iload d_Mo_pinsOf_6 0 rfl ?_
    refine g_aload_nq d_Mo_pinsOf_8 rfl 2 rfl ?_
    refine g_get d_Mo_pinsOf_9 f_Mo_113_Mo (by assumption) (by first | rfl | assumption) ?_
    refine g_icmp_ge (tgt := 92) d_Mo_pinsOf_12 (by decide) (fun h12 => ?_) (fun h12 => ?_)
    · exact absurd h12 (nI_ge (by omega) (by omega))
    · refine J1_Mo_pinsOf hR (by omega) ?_
      refine g_istore d_Mo_pinsOf_54 (by decide) rfl ?_
      show G _ _ _ _ _ _ _ _ [(6, _), (5, _), (4, _), (0, _), (1, _), (2, _), (3, _)] _ _
      refine g_iload d_Mo_pinsOf_56 2 rfl ?_
      refine J2_Mo_pinsOf hR (by omega) ?_
      refine g_iadd d_Mo_pinsOf_83 ?_
      rw [pcR_step]
      refine g_istore d_Mo_pinsOf_84 (by decide) rfl ?_
      show G _ _ _ _ _ _ _ _ [(4, _), (6, _), (5, _), (0, _), (1, _), (2, _), (3, _)] _ _
      refine g_iinc (k := 2) d_Mo_pinsOf_86 rfl (nI_1 p) (by decide) rfl ?_
      refine g_goto (tgt := 6) d_Mo_pinsOf_89 (by decide) ?_
      refine g_sub [0, 1, 3, 4, 5, 6] rfl (ih (p + 1) (by omega))

set_option maxHeartbeats 4000000 in
set_option maxRecDepth 100000 in
theorem C_Mo_pinsOf {w : zC} {Z : zZ} {Q : zR → zZ → Prop} {ad : Nat → Nat} {S : ST} (hR : Rep w ad S Z) (hI : mInv S) {s x t : Int32} (hQ : Q (.inl (some (.int (nI (pcR S s x t (sN S 22)))))) Z) : Cz w (0, 0) y_Mo_pinsOf (Cond.code y_Mo_pinsOf c_Mo_pinsOf 7 r_Mo_pinsOf :: wz) [.ref (ad 600), .int s, .int x, .int t] Z Q := by
  refine Cz.of (by decide +kernel) (by simp [lg_sl, Value.category]) ?_
  show G _ _ _ _ _ _ _ _ [(0, _), (1, _), (2, _), (3, _)] _ _
  refine g_iconst (v := 0) d_Mo_pinsOf_0 rfl ?_
  refine g_istore d_Mo_pinsOf_1 (by decide) rfl ?_
  show G _ _ _ _ _ _ _ _ [(4, _), (0, _), (1, _), (2, _), (3, _)] _ _
  refine g_iconst (v := 0) d_Mo_pinsOf_3 rfl ?_
  refine g_istore d_Mo_pinsOf_4 (by decide) rfl ?_
  show G _ _ _ _ _ _ _ _ [(5, _), (4, _), (0, _), (1, _), (2, _), (3, _)] _ _
  exact L_Mo_pinsOf hR hI hQ (sN S 22) 0 (by omega)

set_option maxHeartbeats 4000000 in
set_option maxRecDepth 100000 in
theorem L_Mo_reason {w : zC} {Z : zZ} {Q : zR → zZ → Prop} {ad : Nat → Nat} {S : ST} (hR : Rep w ad S Z) (hI : mInv S) {x : Int32} (hQ : Q (.inl (some (.int (rsR S x (sN S 26))))) Z) (m : Nat) : ∀ i, i + m = sN S 26 → G w y_Mo_reason c_Mo_reason 4 r_Mo_reason (0, 0) Q 4 [(3, .int (nI i)), (2, .int (rsR S x i)), (0, .ref (ad 600)), (1, .int x)] [] Z := by
  have hm : zhs Z (ad 600) (.inr (10, [.int (sI S 600 0), .ref (ad 701), .int (nI (sN S 20)), .int (nI (sN S 21)), .int (nI (sN S 22)), .ref (ad 705), .ref (ad 706), .ref (ad 707), .ref (ad 708), .ref (ad 709), .ref (ad 710), .ref (ad 711), .int (nI (sN S 23)), .ref (ad 713), .ref (ad 714), .ref (ad 715), .ref (ad 716), .int (nI (sN S 24)), .int (nI (sN S 25)), .ref (ad 719), .ref (ad 720), .ref (ad 721), .ref (ad 722), .ref (ad 723), .ref (ad 724), .int (sI S 600 25), .ref (ad 726), .ref (ad 727), .ref (ad 728), .int (sI S 600 29), .int (nI (sN S 26)), .ref (ad 731), .ref (ad 732), .int (nI (sN S 27)), .int (nI (sN S 28)), .int (nI (sN S 29)), .int (nI (sN S 30)), .ref (ad 737), .int (nI (sN S 31)), .int (nI (sN S 32)), .int (sI S 600 40), .ref (ad 741)])) := hR.m
  have m731 : zhs Z (ad 731) (xi w 50 (sI S 731)) := hR.ma 731 (by decide)
  have m732 : zhs Z (ad 732) (xi w 50 (sI S 732)) := hR.ma 732 (by decide)
  have J : ∀ i j, mL i → mL j → i ≠ j → ad i ≠ ad j := fun i j hi hj hne => hR.inj (lvL hi) (lvL hj) hne
  obtain ⟨Z0, hZ0⟩ : ∃ Z0, Z0 = Z := ⟨_, rfl⟩
  have hB : Z.2.2 = Z0.2.2 := by rw [hZ0]
  have h50 := hI.1.2.2.2.2
  induction m with
  | zero =>
    intro i hi
    refine g_iload_n d_Mo_reason_4 rfl 0 rfl ?_
    refine g_aload_nq d_Mo_reason_5 rfl 2 rfl ?_
    refine g_get d_Mo_reason_6 f_Mo_268_Mo (by assumption) (by first | rfl | assumption) ?_
    refine g_icmp_ge (tgt := 39) d_Mo_reason_9 (by decide) (fun h9 => ?_) (fun h9 => ?_)
    · rw [show i = sN S 26 by omega]
      refine g_iload_n d_Mo_reason_39 rfl 1 rfl ?_
      refine g_iret d_Mo_reason_40 ?_
      exact hQ
    · exact absurd (nI_le (by omega) (by omega)) h9
  | succ m ih =>
    intro i hi
    refine g_iload_n d_Mo_reason_4 rfl 0 rfl ?_
    refine g_aload_nq d_Mo_reason_5 rfl 2 rfl ?_
    refine g_get d_Mo_reason_6 f_Mo_268_Mo (by assumption) (by first | rfl | assumption) ?_
    refine g_icmp_ge (tgt := 39) d_Mo_reason_9 (by decide) (fun h9 => ?_) (fun h9 => ?_)
    · exact absurd h9 (nI_ge (by omega) (by omega))
    · refine g_aload_nq d_Mo_reason_12 rfl 2 rfl ?_
      refine g_get d_Mo_reason_13 f_Mo_79_Mo (by assumption) (by first | rfl | assumption) ?_
      refine g_iload_n d_Mo_reason_16 rfl 0 rfl ?_
      refine g_iald d_Mo_reason_17 (by assumption) (vp_in_nI (n := i) (by omega) (by decide)) ?_
      rw [nI_clamp (by omega)]
      refine g_iload_n d_Mo_reason_18 rfl 3 rfl ?_
      refine g_icmp_ne (tgt := 31) d_Mo_reason_19 (by decide) (fun h19 => ?_) (fun h19 => ?_)
      · refine g_iload_n d_Mo_reason_31 rfl 1 rfl ?_
        refine g_istore_n d_Mo_reason_32 rfl (by decide) rfl ?_
        show G _ _ _ _ _ _ _ _ [(2, _), (3, _), (0, _), (1, _)] _ _
        refine g_iinc (k := 1) d_Mo_reason_33 rfl (nI_1 i) (by decide) rfl ?_
        refine g_goto (tgt := 4) d_Mo_reason_36 (by decide) ?_
        have hi1 := ih (i + 1) (by omega)
        rw [rsR, if_neg h19] at hi1
        exact hi1
      · refine g_aload_nq d_Mo_reason_22 rfl 2 rfl ?_
        refine g_get d_Mo_reason_23 f_Mo_82_Mo (by assumption) (by first | rfl | assumption) ?_
        refine g_iload_n d_Mo_reason_26 rfl 0 rfl ?_
        refine g_iald d_Mo_reason_27 (by assumption) (vp_in_nI (n := i) (by omega) (by decide)) ?_
        rw [nI_clamp (by omega)]
        refine g_goto (tgt := 32) d_Mo_reason_28 (by decide) ?_
        refine g_istore_n d_Mo_reason_32 rfl (by decide) rfl ?_
        show G _ _ _ _ _ _ _ _ [(2, _), (3, _), (0, _), (1, _)] _ _
        refine g_iinc (k := 1) d_Mo_reason_33 rfl (nI_1 i) (by decide) rfl ?_
        refine g_goto (tgt := 4) d_Mo_reason_36 (by decide) ?_
        have hi1 := ih (i + 1) (by omega)
        rw [rsR, if_pos h19] at hi1
        exact hi1

set_option maxHeartbeats 4000000 in
set_option maxRecDepth 100000 in
theorem C_Mo_reason {w : zC} {Z : zZ} {Q : zR → zZ → Prop} {ad : Nat → Nat} {S : ST} (hR : Rep w ad S Z) (hI : mInv S) {x : Int32} (hQ : Q (.inl (some (.int (rsR S x (sN S 26))))) Z) : Cz w (0, 0) y_Mo_reason (Cond.code y_Mo_reason c_Mo_reason 4 r_Mo_reason :: wz) [.ref (ad 600), .int x] Z Q := by
  refine Cz.of (by decide +kernel) (by simp [lg_sl, Value.category]) ?_
  show G _ _ _ _ _ _ _ _ [(0, _), (1, _)] _ _
  refine g_iconst (v := (-1)) d_Mo_reason_0 rfl ?_
  refine g_istore_n d_Mo_reason_1 rfl (by decide) rfl ?_
  show G _ _ _ _ _ _ _ _ [(2, _), (0, _), (1, _)] _ _
  refine g_iconst (v := 0) d_Mo_reason_2 rfl ?_
  refine g_istore_n d_Mo_reason_3 rfl (by decide) rfl ?_
  show G _ _ _ _ _ _ _ _ [(3, _), (2, _), (0, _), (1, _)] _ _
  exact L_Mo_reason hR hI hQ (sN S 26) 0 (by omega)
