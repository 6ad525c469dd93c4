/-! The reference: run -/
abbrev TR : Type := (Nat → Int32) × (Nat → Int32) × Nat
def rS (S : ST) (bf : Nat → Int32) (t : TR) (g : Nat → Int64) : ST := (fun i => if i = 726 then t.1 else if i = 727 then t.2.1 else if i = 728 then bf else (thS S 0).1 i, va_up S.2.1 741 g, S.2.2.1, S.2.2.2)
theorem rS_726 {S : ST} {bf : Nat → Int32} {t : TR} {g : Nat → Int64} {a : Nat → Int32} : wI (rS S bf t g) 726 a = rS S bf (a, t.2.1, t.2.2) g := by
  show (va_up _ 726 a, _, _, _) = (_, _, _, _)
  congr 1
  funext i
  unfold va_up
  show (if i = 726 then a else (if i = 726 then t.1 else if i = 727 then t.2.1 else if i = 728 then bf else (thS S 0).1 i)) = (if i = 726 then a else if i = 727 then t.2.1 else if i = 728 then bf else (thS S 0).1 i)
  by_cases h : i = 726
  · rw [if_pos h, if_pos h]
  · rw [if_neg h, if_neg h, if_neg h]
theorem rS_727 {S : ST} {bf : Nat → Int32} {t : TR} {g : Nat → Int64} {a : Nat → Int32} : wI (rS S bf t g) 727 a = rS S bf (t.1, a, t.2.2) g := by
  show (va_up _ 727 a, _, _, _) = (_, _, _, _)
  congr 1
  funext i
  unfold va_up
  show (if i = 727 then a else (if i = 726 then t.1 else if i = 727 then t.2.1 else if i = 728 then bf else (thS S 0).1 i)) = (if i = 726 then t.1 else if i = 727 then a else if i = 728 then bf else (thS S 0).1 i)
  by_cases h : i = 727
  · rw [if_pos h, h, if_neg (by decide), if_pos rfl]
  · rw [if_neg h, if_neg h]
    by_cases h2 : i = 726
    · rw [if_pos h2, if_pos h2]
    · rw [if_neg h2, if_neg h2, if_neg h]
theorem rS_741 {S : ST} {bf : Nat → Int32} {t : TR} {g f : Nat → Int64} : wJ (rS S bf t g) 741 f = rS S bf t f := by
  show (_, va_up (va_up S.2.1 741 g) 741 f, _, _) = (_, va_up S.2.1 741 f, _, _)
  congr 2
  funext j
  unfold va_up
  split <;> rfl
/-- the same but for now, weights, before, the object and the row of numbers -/
def eqF (S S' : ST) : Prop := (∀ i, i ≠ 600 → i ≠ 726 → i ≠ 727 → i ≠ 728 → sI S' i = sI S i) ∧ (∀ i, i ≠ 741 → sJ S' i = sJ S i) ∧ sN S' = sN S
theorem rS_eq {S : ST} {bf : Nat → Int32} {t : TR} {g : Nat → Int64} : eqF S (rS S bf t g) := by
  refine ⟨fun i h0 h1 h2 h3 => ?_, fun i h => va_up_ne _ _ h, rfl⟩
  show (if i = 726 then t.1 else if i = 727 then t.2.1 else if i = 728 then bf else (thS S 0).1 i) = S.1 i
  rw [if_neg h1, if_neg h2, if_neg h3]
  exact va_up_ne _ _ h0
theorem pcR_eq {S S' : ST} (h : eqF S S') {s k t : Int32} : ∀ n, pcR S' s k t n = pcR S s k t n
  | 0 => rfl
  | n + 1 => by
    unfold pcR
    rw [pcR_eq h n]
    unfold pcC hasC
    rw [h.1 709 (by decide) (by decide) (by decide) (by decide), h.1 710 (by decide) (by decide) (by decide) (by decide), h.1 711 (by decide) (by decide) (by decide) (by decide)]
theorem ptO_eq {S S' : ST} (h : eqF S S') {s : Int32} {k : Nat} : ptO S' s k = ptO S s k := by
  unfold ptO
  rw [h.1 709 (by decide) (by decide) (by decide) (by decide)]
theorem tmR_eq {S S' : ST} (h : eqF S S') {g x s : Int32} {k : Nat} : tmR S' g x s k = tmR S g x s k := by
  unfold tmR shR
  rw [ptO_eq h, pcR_eq h, pcR_eq h, h.2.2, h.2.1 706 (by decide), h.1 711 (by decide) (by decide) (by decide) (by decide), h.1 708 (by decide) (by decide) (by decide) (by decide), h.1 710 (by decide) (by decide) (by decide) (by decide), h.1 707 (by decide) (by decide) (by decide) (by decide), h.1 705 (by decide) (by decide) (by decide) (by decide)]
theorem rpR_eq {S S' : ST} (h : eqF S S') {s : Int32} {k : Nat} : ∀ m i l, rpR S' s k m i l = rpR S s k m i l := by
  have e1 := h.1 722 (by decide) (by decide) (by decide) (by decide)
  have e2 := h.1 723 (by decide) (by decide) (by decide) (by decide)
  intro m
  induction m with
  | zero => intro i l; rfl
  | succ m ih =>
    intro i l
    by_cases c1 : sI S 722 i < 10
    · rw [rpR_t (S := S) c1, rpR_t (S := S') (by rw [e1]; exact c1), e1, e2, tmR_eq h, ih]
    · have c1' : ¬ sI S' 722 i < 10 := by rw [e1]; exact c1
      rcases l with _ | ⟨b, l⟩
      · rw [rpR_n0 c1, rpR_n0 c1']
      · by_cases c2 : sI S 722 i = 19
        · rw [rpR_n c1 c2, rpR_n c1' (by rw [e1]; exact c2), ih]
        · have c2' : ¬ sI S' 722 i = 19 := by rw [e1]; exact c2
          rcases l with _ | ⟨a, l⟩
          · rw [rpR_b1 c1 c2, rpR_b1 c1' c2']
          · rw [rpR_b c1 c2, rpR_b c1' c2', e1, ih]
theorem wvR_eq {S S' : ST} (h : eqF S S') {p : Nat} : ∀ q, wvR S' p q = wvR S p q
  | 0 => rfl
  | q + 1 => by
    unfold wvR
    rw [wvR_eq h q]
    unfold wvV
    rw [h.1 710 (by decide) (by decide) (by decide) (by decide), h.1 711 (by decide) (by decide) (by decide) (by decide), h.1 701 (by decide) (by decide) (by decide) (by decide)]
theorem rsR_eq {S S' : ST} (h : eqF S S') {x : Int32} : ∀ n, rsR S' x n = rsR S x n
  | 0 => rfl
  | n + 1 => by
    unfold rsR
    rw [rsR_eq h n, h.1 731 (by decide) (by decide) (by decide) (by decide), h.1 732 (by decide) (by decide) (by decide) (by decide)]
theorem fnR_eq {S S' : ST} (h : eqF S S') {r k : Nat} {s : Int32} : fnR S' r s k = fnR S r s k := by
  have e : ∀ i, i ∈ [708, 710, 711, 713, 719, 720, 721] → sI S' i = sI S i := fun i hi => by
    simp only [List.mem_cons, List.not_mem_nil, or_false] at hi
    exact h.1 i (by omega) (by omega) (by omega) (by omega)
  unfold fnR fnB tvR nbR ogR ogC
  rw [wvR_eq h, pcR_eq h, pcR_eq h, pcR_eq h, pcR_eq h, rpR_eq h]
  simp only [e 708 (by decide), e 710 (by decide), e 711 (by decide), e 713 (by decide), e 719 (by decide), e 720 (by decide), e 721 (by decide), h.2.1 714 (by decide), h.2.1 715 (by decide), h.2.2]
theorem rOK.eq {S S' : ST} (h : eqF S S') {j k : Nat} {s : Int32} (hr : rOK S j s k) : rOK S' j s k := by
  obtain ⟨c, v, h1, h2, h3⟩ := hr
  exact ⟨c, v, h1, by rw [h.1 721 (by decide) (by decide) (by decide) (by decide)]; exact h2, by rw [rpR_eq h]; exact h3⟩
theorem mInv.eq {S S' : ST} (h : eqF S S') (hI : mInv S) : mInv S' := by
  unfold mInv
  rw [h.2.2, h.1 709 (by decide) (by decide) (by decide) (by decide), h.1 710 (by decide) (by decide) (by decide) (by decide), h.1 711 (by decide) (by decide) (by decide) (by decide)]
  exact hI
def tI (r : Nat) (s : Int32) (k : Nat) : Nat := 240 * r + (if s = 0 then k else if s = 1 then 40 + k else 80 + k)
def mny (S : ST) (s : Nat) : Nat := if s = 0 then sN S 20 else if s = 1 then sN S 21 else sN S 22
def wRr (S : ST) (r : Nat) (s : Int32) (k : Nat) : Int32 := if ¬ nI (7 + sN S 25) ≤ nI r ∧ sI S 724 r = 0 then fnR S r s k else 0
def nwV (S : ST) (bf : Nat → Int32) (x : Int32) (i : Nat) : Int32 := if x = 0 then 0 else if bf i ≤ 0 then sI S 600 25 else bf i
abbrev opC (S : ST) (x : Int32) (i : Nat) : Prop := ¬ x ≤ 0 ∧ rsR S (nI i) (sN S 26) = -1
def rn1 (S : ST) (bf : Nat → Int32) (r : Nat) (s : Int32) (k : Nat) (t : TR) : TR := (upd t.1 (tI r s k) (nwV S bf (wRr S r s k) (tI r s k)), upd t.2.1 (tI r s k) (wRr S r s k), t.2.2 + (if opC S (wRr S r s k) (tI r s k) then 1 else 0))
def rnK (S : ST) (bf : Nat → Int32) (r : Nat) (s : Int32) : Nat → Nat → TR → TR
  | 0, _, t => t
  | m + 1, k, t => rnK S bf r s m (k + 1) (rn1 S bf r s k t)
def rnS (S : ST) (bf : Nat → Int32) (r : Nat) : Nat → Nat → TR → TR
  | 0, _, t => t
  | m + 1, s, t => rnS S bf r m (s + 1) (rnK S bf r (nI s) (mny S s) 0 t)
def rnR (S : ST) (bf : Nat → Int32) : Nat → Nat → TR → TR
  | 0, _, t => t
  | m + 1, r, t => rnR S bf m (r + 1) (rnS S bf r 3 0 t)
def mixF (f g : Nat → Int32) (n : Nat) : Nat → Int32 := fun j => if j < n then g j else f j
theorem mix_step {f g : Nat → Int32} {n : Nat} : upd (mixF f g n) n (g n) = mixF f g (n + 1) := by
  funext j
  show (if j = n then g n else if j < n then g j else f j) = (if j < n + 1 then g j else f j)
  by_cases h : j = n
  · rw [if_pos h, if_pos (by omega), h]
  · rw [if_neg h]
    by_cases h2 : j < n
    · rw [if_pos h2, if_pos (by omega)]
    · rw [if_neg h2, if_neg (by omega)]
theorem mny_nI {S : ST} {s : Nat} (hs : s < 3) : (if nI s = 0 then nI (sN S 20) else if nI s = 1 then nI (sN S 21) else nI (sN S 22)) = nI (mny S s) := by
  rcases (show s = 0 ∨ s = 1 ∨ s = 2 by omega) with rfl | rfl | rfl <;> rfl
theorem mny_le {S : ST} {s : Nat} (hI : mInv S) (hs : s < 3) : mny S s ≤ 160 ∧ (if s = 2 then True else mny S s ≤ 40) := by
  obtain ⟨⟨a, b, c, -⟩, -⟩ := hI
  rcases (show s = 0 ∨ s = 1 ∨ s = 2 by omega) with rfl | rfl | rfl
  · exact ⟨Nat.le_trans (show sN S 20 ≤ 40 from a) (by decide), a⟩
  · exact ⟨Nat.le_trans (show sN S 21 ≤ 40 from b) (by decide), b⟩
  · exact ⟨c, trivial⟩
theorem tI_lt {r s k : Nat} (hr : r < 27) (hs : s < 3) (hk1 : k < 160) (hk2 : if s = 2 then True else k < 40) : tI r (nI s) k < 6480 ∧ 240 * r + (if nI s = 0 then k else if nI s = 1 then 40 + k else 80 + k) = tI r (nI s) k := by
  refine ⟨?_, rfl⟩
  unfold tI
  rcases (show s = 0 ∨ s = 1 ∨ s = 2 by omega) with rfl | rfl | rfl
  · have h2 : k < 40 := hk2
    rw [if_pos (by decide)]; omega
  · have h2 : k < 40 := hk2
    rw [if_neg (by decide), if_pos (by decide)]; omega
  · rw [if_neg (by decide), if_neg (by decide)]; omega
theorem th_nI {s k : Nat} (hs : s < 3) : (if nI s = 0 then nI k else if nI s = 1 then 40 + nI k else 80 + nI k) = nI (if nI s = 0 then k else if nI s = 1 then 40 + k else 80 + k) := by
  rcases (show s = 0 ∨ s = 1 ∨ s = 2 by omega) with rfl | rfl | rfl
  · rfl
  · rw [if_neg (by decide), if_pos (by decide), if_neg (by decide), if_pos (by decide)]; exact nI_add 40 k
  · rw [if_neg (by decide), if_neg (by decide), if_neg (by decide), if_neg (by decide)]; exact nI_add 80 k
set_option maxHeartbeats 4000000 in
set_option maxRecDepth 100000 in
theorem Ja_Mo_run {w : zC} {Z : zZ} {Q : zR → zZ → Prop} {ad : Nat → Nat} {S : ST} {bf : Nat → Int32} {t : TR} {g : Nat → Int64} (hR : Rep w ad (rS S bf t g) Z) (hI : mInv S) (hw : ∀ j s k, s < 3 → k < mny S s → j < sN S 25 → sI S 719 j = nI s → rOK S j (nI s) k) {i k s r : Nat} {n : Int32} (h25 : sN S 25 ≤ 20) (hr : r < 27) (hs : s < 3) (hk : k < mny S s) (hk1 : k < 160) (hk2 : if s = 2 then True else k < 40) (k9 : ∀ Z' g', Rep w ad (rS S bf t g') Z' → Z'.2.2 = Z.2.2 → G w y_Mo_run c_Mo_run 7 r_Mo_run (5, 142) Q 108 [(5, .int (nI i)), (4, .int (nI k)), (3, .int (nI s)), (2, .int (nI r)), (1, .int n), (0, .ref (ad 600))] [.int (wRr S r (nI s) k)] Z') : G w y_Mo_run c_Mo_run 7 r_Mo_run (5, 142) Q 76 [(5, .int (nI i)), (4, .int (nI k)), (3, .int (nI s)), (2, .int (nI r)), (1, .int n), (0, .ref (ad 600))] [] Z := by
  have hm : zhs Z (ad 600) (.inr (10, [.int (sI (thS S 0) 600 0), .ref (ad 701), .int (nI (sN (thS S 0) 20)), .int (nI (sN (thS S 0) 21)), .int (nI (sN (thS S 0) 22)), .ref (ad 705), .ref (ad 706), .ref (ad 707), .ref (ad 708), .ref (ad 709), .ref (ad 710), .ref (ad 711), .int (nI (sN (thS S 0) 23)), .ref (ad 713), .ref (ad 714), .ref (ad 715), .ref (ad 716), .int (nI (sN (thS S 0) 24)), .int (nI (sN (thS S 0) 25)), .ref (ad 719), .ref (ad 720), .ref (ad 721), .ref (ad 722), .ref (ad 723), .ref (ad 724), .int (sI (thS S 0) 600 25), .ref (ad 726), .ref (ad 727), .ref (ad 728), .int (sI (thS S 0) 600 29), .int (nI (sN (thS S 0) 26)), .ref (ad 731), .ref (ad 732), .int (nI (sN (thS S 0) 27)), .int (nI (sN (thS S 0) 28)), .int (nI (sN (thS S 0) 29)), .int (nI (sN (thS S 0) 30)), .ref (ad 737), .int (nI (sN (thS S 0) 31)), .int (nI (sN (thS S 0) 32)), .int (sI (thS S 0) 600 40), .ref (ad 741)])) := hR.m
  have m724 : zhs Z (ad 724) (xz w 27 (sI S 724)) := hR.ma 724 (by decide)
  refine g_iload_n d_Mo_run_76 rfl 3 rfl ?_
  refine g_bipush (v := 7) d_Mo_run_77 rfl ?_
  refine g_aload_nq d_Mo_run_79 rfl 5 rfl ?_
  refine g_get d_Mo_run_80 f_Mo_210_Mo (by assumption) (by first | rfl | assumption) ?_
  refine g_iadd d_Mo_run_83 ?_
  rw [show (7 : Int32) = nI 7 from rfl, nI_add]
  refine g_icmp_ge (tgt := 107) d_Mo_run_84 (by decide) (fun h84 => ?_) (fun h84 => ?_)
  · have hw0 : wRr S r (nI s) k = 0 := if_neg (fun z => z.1 h84)
    have hF := k9 Z g hR rfl
    rw [hw0] at hF
    refine g_iconst (v := 0) d_Mo_run_107 rfl ?_
    exact hF
  · refine g_aload_nq d_Mo_run_87 rfl 5 rfl ?_
    refine g_get d_Mo_run_88 f_Mo_62_Mo (by assumption) (by first | rfl | assumption) ?_
    refine g_iload_n d_Mo_run_91 rfl 3 rfl ?_
    refine g_zald d_Mo_run_92 (by assumption) (vp_in_nI (n := r) (by omega) (by decide)) ?_
    rw [nI_clamp (by omega)]
    first | refine g_if_neB (tgt := 107) d_Mo_run_93 (by decide) (fun h93 => ?_) (fun h93 => ?_) | refine g_if_ne (tgt := 107) d_Mo_run_93 (by decide) (fun h93 => ?_) (fun h93 => ?_)
    · have hw0 : wRr S r (nI s) k = 0 := if_neg (fun z => h93 z.2)
      have hF := k9 Z g hR rfl
      rw [hw0] at hF
      refine g_iconst (v := 0) d_Mo_run_107 rfl ?_
      exact hF
    · have hw0 : wRr S r (nI s) k = fnR S r (nI s) k := if_pos ⟨h84, h93⟩
      refine g_aload_nq d_Mo_run_96 rfl 5 rfl ?_
      refine g_iload_n d_Mo_run_97 rfl 3 rfl ?_
      refine g_iload_n d_Mo_run_98 rfl 2 rfl ?_
      refine g_iload d_Mo_run_99 1 rfl ?_
      refine g_callV d_Mo_run_101 k_Mo_found l_Mo_258 i_Mo_found rfl p_Mo_found hm (by rfl) (by rfl) (Nat.le_of_ble_eq_true rfl) (by decide) (C_Mo_found hR (hI.eq rS_eq) hr (by omega) (by rcases (show s = 0 ∨ s = 1 ∨ s = 2 by omega) with rfl | rfl | rfl; exact Or.inr hk2; exact Or.inr hk2; exact Or.inl rfl) (fun h7 hsub => rOK.eq rS_eq (hw (r - 7) s k hs hk (by have : r < 7 + sN S 25 := Nat.not_le.mp (fun z => h84 (nI_le z (by omega))); omega) (by rw [← (rS_eq (S := S) (bf := bf) (t := t) (g := g)).1 719 (by decide) (by decide) (by decide) (by decide)]; exact hsub))) (fun Z1 g1 r1 b1 => ⟨_, rfl, ?_⟩))
      rw [fnR_eq rS_eq, ← hw0]
      rw [rS_741] at r1
      have hF := k9 Z1 g1 r1 b1
      refine g_goto (tgt := 108) d_Mo_run_104 (by decide) ?_
      exact hF

set_option maxHeartbeats 4000000 in
set_option maxRecDepth 100000 in
theorem Jb_Mo_run {w : zC} {Z : zZ} {Q : zR → zZ → Prop} {ad : Nat → Nat} {S : ST} {bf : Nat → Int32} {t : TR} {g : Nat → Int64} (hR : Rep w ad (rS S bf t g) Z) {i k s r : Nat} {n x : Int32} (hi : i < 6480) (k9 : G w y_Mo_run c_Mo_run 7 r_Mo_run (5, 142) Q 149 [(6, .int x), (5, .int (nI i)), (4, .int (nI k)), (3, .int (nI s)), (2, .int (nI r)), (1, .int n), (0, .ref (ad 600))] [.int (nwV S bf x i), .int (nI i), .ref (ad 726)] Z) : G w y_Mo_run c_Mo_run 7 r_Mo_run (5, 142) Q 116 [(6, .int x), (5, .int (nI i)), (4, .int (nI k)), (3, .int (nI s)), (2, .int (nI r)), (1, .int n), (0, .ref (ad 600))] [.int (nI i), .ref (ad 726)] Z := by
  have hm : zhs Z (ad 600) (.inr (10, [.int (sI (thS S 0) 600 0), .ref (ad 701), .int (nI (sN (thS S 0) 20)), .int (nI (sN (thS S 0) 21)), .int (nI (sN (thS S 0) 22)), .ref (ad 705), .ref (ad 706), .ref (ad 707), .ref (ad 708), .ref (ad 709), .ref (ad 710), .ref (ad 711), .int (nI (sN (thS S 0) 23)), .ref (ad 713), .ref (ad 714), .ref (ad 715), .ref (ad 716), .int (nI (sN (thS S 0) 24)), .int (nI (sN (thS S 0) 25)), .ref (ad 719), .ref (ad 720), .ref (ad 721), .ref (ad 722), .ref (ad 723), .ref (ad 724), .int (sI (thS S 0) 600 25), .ref (ad 726), .ref (ad 727), .ref (ad 728), .int (sI (thS S 0) 600 29), .int (nI (sN (thS S 0) 26)), .ref (ad 731), .ref (ad 732), .int (nI (sN (thS S 0) 27)), .int (nI (sN (thS S 0) 28)), .int (nI (sN (thS S 0) 29)), .int (nI (sN (thS S 0) 30)), .ref (ad 737), .int (nI (sN (thS S 0) 31)), .int (nI (sN (thS S 0) 32)), .int (sI (thS S 0) 600 40), .ref (ad 741)])) := hR.m
  have m728 : zhs Z (ad 728) (xi w 6480 (bf)) := hR.ma 728 (by decide)
  refine g_iload d_Mo_run_116 0 rfl ?_
  first | refine g_if_neB (tgt := 125) d_Mo_run_118 (by decide) (fun h118 => ?_) (fun h118 => ?_) | refine g_if_ne (tgt := 125) d_Mo_run_118 (by decide) (fun h118 => ?_) (fun h118 => ?_)
  · rw [nwV, if_neg h118] at k9
    refine g_aload_nq d_Mo_run_125 rfl 6 rfl ?_
    refine g_get d_Mo_run_126 f_Mo_76_Mo (by assumption) (by first | rfl | assumption) ?_
    refine g_iload d_Mo_run_129 1 rfl ?_
    refine g_iald d_Mo_run_131 (by assumption) (vp_in_nI (n := i) (by omega) (by decide)) ?_
    rw [nI_clamp (by omega)]
    refine g_if_le (tgt := 145) d_Mo_run_132 (by decide) (fun h132 => ?_) (fun h132 => ?_)
    · rw [if_pos h132] at k9
      refine g_aload_nq d_Mo_run_145 rfl 6 rfl ?_
      refine g_get d_Mo_run_146 f_Mo_66_Mo (by assumption) (by first | rfl | assumption) ?_
      exact k9
    · rw [if_neg h132] at k9
      refine g_aload_nq d_Mo_run_135 rfl 6 rfl ?_
      refine g_get d_Mo_run_136 f_Mo_76_Mo (by assumption) (by first | rfl | assumption) ?_
      refine g_iload d_Mo_run_139 1 rfl ?_
      refine g_iald d_Mo_run_141 (by assumption) (vp_in_nI (n := i) (by omega) (by decide)) ?_
      rw [nI_clamp (by omega)]
      refine g_goto (tgt := 149) d_Mo_run_142 (by decide) ?_
      exact k9
  · rw [nwV, if_pos h118] at k9
    refine g_iconst (v := 0) d_Mo_run_121 rfl ?_
    refine g_goto (tgt := 149) d_Mo_run_122 (by decide) ?_
    exact k9

set_option maxHeartbeats 4000000 in
set_option maxRecDepth 100000 in
theorem Jc_Mo_run {w : zC} {Z : zZ} {Q : zR → zZ → Prop} {ad : Nat → Nat} {S : ST} {bf : Nat → Int32} {t : TR} {g : Nat → Int64} (hR : Rep w ad (rS S bf t g) Z) (hI : mInv S) {i k s r : Nat} {n x : Int32} (k9 : G w y_Mo_run c_Mo_run 7 r_Mo_run (5, 142) Q 180 [(6, .int x), (5, .int (nI i)), (4, .int (nI k)), (3, .int (nI s)), (2, .int (nI r)), (1, .int n), (0, .ref (ad 600))] [.int (zb (opC S x i)), .int n] Z) : G w y_Mo_run c_Mo_run 7 r_Mo_run (5, 142) Q 160 [(6, .int x), (5, .int (nI i)), (4, .int (nI k)), (3, .int (nI s)), (2, .int (nI r)), (1, .int n), (0, .ref (ad 600))] [.int n] Z := by
  have hm : zhs Z (ad 600) (.inr (10, [.int (sI (thS S 0) 600 0), .ref (ad 701), .int (nI (sN (thS S 0) 20)), .int (nI (sN (thS S 0) 21)), .int (nI (sN (thS S 0) 22)), .ref (ad 705), .ref (ad 706), .ref (ad 707), .ref (ad 708), .ref (ad 709), .ref (ad 710), .ref (ad 711), .int (nI (sN (thS S 0) 23)), .ref (ad 713), .ref (ad 714), .ref (ad 715), .ref (ad 716), .int (nI (sN (thS S 0) 24)), .int (nI (sN (thS S 0) 25)), .ref (ad 719), .ref (ad 720), .ref (ad 721), .ref (ad 722), .ref (ad 723), .ref (ad 724), .int (sI (thS S 0) 600 25), .ref (ad 726), .ref (ad 727), .ref (ad 728), .int (sI (thS S 0) 600 29), .int (nI (sN (thS S 0) 26)), .ref (ad 731), .ref (ad 732), .int (nI (sN (thS S 0) 27)), .int (nI (sN (thS S 0) 28)), .int (nI (sN (thS S 0) 29)), .int (nI (sN (thS S 0) 30)), .ref (ad 737), .int (nI (sN (thS S 0) 31)), .int (nI (sN (thS S 0) 32)), .int (sI (thS S 0) 600 40), .ref (ad 741)])) := hR.m
  refine g_iload d_Mo_run_160 0 rfl ?_
  refine g_if_le (tgt := 179) d_Mo_run_162 (by decide) (fun h162 => ?_) (fun h162 => ?_)
  · rw [zb_f (show ¬ opC S x i from fun z => z.1 h162)] at k9
    refine g_iconst (v := 0) d_Mo_run_179 rfl ?_
    exact k9
  · refine g_aload_nq d_Mo_run_165 rfl 6 rfl ?_
    refine g_iload d_Mo_run_166 1 rfl ?_
    refine g_callV d_Mo_run_168 k_Mo_reason l_Mo_261 i_Mo_reason rfl p_Mo_reason hm (by rfl) (by rfl) (Nat.le_of_ble_eq_true rfl) (by decide) (C_Mo_reason hR (hI.eq rS_eq) ⟨_, rfl, ?_⟩)
    rw [rsR_eq rS_eq, show sN (rS S bf t g) 26 = sN S 26 from rfl]
    refine g_iconst (v := (-1)) d_Mo_run_171 rfl ?_
    refine g_icmp_ne (tgt := 179) d_Mo_run_172 (by decide) (fun h172 => ?_) (fun h172 => ?_)
    · rw [zb_f (show ¬ opC S x i from fun z => h172 z.2)] at k9
      refine g_iconst (v := 0) d_Mo_run_179 rfl ?_
      exact k9
    · rw [zb_t (show opC S x i from ⟨h162, h172⟩)] at k9
      refine g_iconst (v := 1) d_Mo_run_175 rfl ?_
      refine g_goto (tgt := 180) d_Mo_run_176 (by decide) ?_
      exact k9

set_option maxHeartbeats 4000000 in
set_option maxRecDepth 100000 in
theorem LK_Mo_run {w : zC} {Q : zR → zZ → Prop} {ad : Nat → Nat} {S : ST} {bf : Nat → Int32} (hI : mInv S) (hw : ∀ j s k, s < 3 → k < mny S s → j < sN S 25 → sI S 719 j = nI s → rOK S j (nI s) k) {s r : Nat} (h25 : sN S 25 ≤ 20) (hr : r < 27) (hs : s < 3) (m : Nat) : ∀ k t g Z, k + m = mny S s → Rep w ad (rS S bf t g) Z → (∀ Z' g', Rep w ad (rS S bf (rnK S bf r (nI s) m k t) g') Z' → Z'.2.2 = Z.2.2 → G w y_Mo_run c_Mo_run 7 r_Mo_run (5, 142) Q 188 [(4, .int (nI (mny S s))), (3, .int (nI s)), (2, .int (nI r)), (1, .int (nI (rnK S bf r (nI s) m k t).2.2)), (0, .ref (ad 600))] [] Z') → G w y_Mo_run c_Mo_run 7 r_Mo_run (5, 142) Q 52 [(4, .int (nI k)), (3, .int (nI s)), (2, .int (nI r)), (1, .int (nI t.2.2)), (0, .ref (ad 600))] [] Z := by
  have hml := mny_le hI hs
  induction m with
  | zero =>
    intro k t g Z hkm hR hk9
    have hm : zhs Z (ad 600) (.inr (10, [.int (sI (thS S 0) 600 0), .ref (ad 701), .int (nI (sN (thS S 0) 20)), .int (nI (sN (thS S 0) 21)), .int (nI (sN (thS S 0) 22)), .ref (ad 705), .ref (ad 706), .ref (ad 707), .ref (ad 708), .ref (ad 709), .ref (ad 710), .ref (ad 711), .int (nI (sN (thS S 0) 23)), .ref (ad 713), .ref (ad 714), .ref (ad 715), .ref (ad 716), .int (nI (sN (thS S 0) 24)), .int (nI (sN (thS S 0) 25)), .ref (ad 719), .ref (ad 720), .ref (ad 721), .ref (ad 722), .ref (ad 723), .ref (ad 724), .int (sI (thS S 0) 600 25), .ref (ad 726), .ref (ad 727), .ref (ad 728), .int (sI (thS S 0) 600 29), .int (nI (sN (thS S 0) 26)), .ref (ad 731), .ref (ad 732), .int (nI (sN (thS S 0) 27)), .int (nI (sN (thS S 0) 28)), .int (nI (sN (thS S 0) 29)), .int (nI (sN (thS S 0) 30)), .ref (ad 737), .int (nI (sN (thS S 0) 31)), .int (nI (sN (thS S 0) 32)), .int (sI (thS S 0) 600 40), .ref (ad 741)])) := hR.m
    refine g_iload d_Mo_run_52 0 rfl ?_
    refine g_aload_nq d_Mo_run_54 rfl 4 rfl ?_
    refine g_iload_n d_Mo_run_55 rfl 1 rfl ?_
    refine g_callV d_Mo_run_56 k_Mo_many l_Mo_252 i_Mo_many rfl p_Mo_many hm (by rfl) (by rfl) (Nat.le_of_ble_eq_true rfl) (by decide) (C_Mo_many hR ⟨_, rfl, ?_⟩)
    rw [show (if nI s = 0 then nI (sN (rS S bf t g) 20) else if nI s = 1 then nI (sN (rS S bf t g) 21) else nI (sN (rS S bf t g) 22)) = nI (mny S s) from mny_nI hs]
    refine g_icmp_ge (tgt := 188) d_Mo_run_59 (by decide) (fun h59 => ?_) (fun h59 => ?_)
    · rw [show k = mny S s by omega]
      exact hk9 Z g hR rfl
    · exact absurd (nI_le (by omega) (by omega)) h59
  | succ m ih =>
    intro k t g Z hkm hR hk9
    have hm : zhs Z (ad 600) (.inr (10, [.int (sI (thS S 0) 600 0), .ref (ad 701), .int (nI (sN (thS S 0) 20)), .int (nI (sN (thS S 0) 21)), .int (nI (sN (thS S 0) 22)), .ref (ad 705), .ref (ad 706), .ref (ad 707), .ref (ad 708), .ref (ad 709), .ref (ad 710), .ref (ad 711), .int (nI (sN (thS S 0) 23)), .ref (ad 713), .ref (ad 714), .ref (ad 715), .ref (ad 716), .int (nI (sN (thS S 0) 24)), .int (nI (sN (thS S 0) 25)), .ref (ad 719), .ref (ad 720), .ref (ad 721), .ref (ad 722), .ref (ad 723), .ref (ad 724), .int (sI (thS S 0) 600 25), .ref (ad 726), .ref (ad 727), .ref (ad 728), .int (sI (thS S 0) 600 29), .int (nI (sN (thS S 0) 26)), .ref (ad 731), .ref (ad 732), .int (nI (sN (thS S 0) 27)), .int (nI (sN (thS S 0) 28)), .int (nI (sN (thS S 0) 29)), .int (nI (sN (thS S 0) 30)), .ref (ad 737), .int (nI (sN (thS S 0) 31)), .int (nI (sN (thS S 0) 32)), .int (sI (thS S 0) 600 40), .ref (ad 741)])) := hR.m
    have m726 : zhs Z (ad 726) (xi w 6480 (t.1)) := hR.ma 726 (by decide)
    have m727 : zhs Z (ad 727) (xi w 6480 (t.2.1)) := hR.ma 727 (by decide)
    have hJ : ∀ i j, mL i → mL j → i ≠ j → ad i ≠ ad j := fun i j hi hj hne => hR.inj (lvL hi) (lvL hj) hne
    have hk2 : if s = 2 then True else k < 40 := by
      have h9 := hml.2
      by_cases e9 : s = 2
      · rw [if_pos e9]; trivial
      · rw [if_neg e9] at h9 ⊢; omega
    have hti := tI_lt hr hs (show k < 160 by omega) hk2
    refine g_iload d_Mo_run_52 0 rfl ?_
    refine g_aload_nq d_Mo_run_54 rfl 4 rfl ?_
    refine g_iload_n d_Mo_run_55 rfl 1 rfl ?_
    refine g_callV d_Mo_run_56 k_Mo_many l_Mo_252 i_Mo_many rfl p_Mo_many hm (by rfl) (by rfl) (Nat.le_of_ble_eq_true rfl) (by decide) (C_Mo_many hR ⟨_, rfl, ?_⟩)
    rw [show (if nI s = 0 then nI (sN (rS S bf t g) 20) else if nI s = 1 then nI (sN (rS S bf t g) 21) else nI (sN (rS S bf t g) 22)) = nI (mny S s) from mny_nI hs]
    refine g_icmp_ge (tgt := 188) d_Mo_run_59 (by decide) (fun h59 => ?_) (fun h59 => ?_)
    · exact absurd h59 (nI_ge (by omega) (by omega))
    · refine g_sipush (v := 240) d_Mo_run_62 rfl ?_
      refine g_iload_n d_Mo_run_65 rfl 2 rfl ?_
      refine g_imul d_Mo_run_66 ?_
      rw [show (240 : Int32) = nI 240 from rfl, pk_mul]
      refine g_iload_n d_Mo_run_67 rfl 1 rfl ?_
      refine g_iload d_Mo_run_68 0 rfl ?_
      refine g_callS d_Mo_run_70 k_Mo_thing l_Mo_255 s_Mo_thing (by rfl) (by rfl) (Nat.le_of_ble_eq_true rfl) (by decide) (C_Mo_thing ⟨_, rfl, ?_⟩)
      rw [th_nI hs]
      refine g_iadd d_Mo_run_73 ?_
      rw [nI_add, hti.2]
      refine g_istore d_Mo_run_74 (by decide) rfl ?_
      show G _ _ _ _ _ _ _ _ [(5, _), (4, _), (3, _), (2, _), (1, _), (0, _)] _ _
      refine Ja_Mo_run hR hI hw h25 hr hs (by omega) (by omega) hk2 (fun Z2 g2 hR2 b2 => ?_)
      clear hR hm m726 m727
      skip
      have hR := hR2
      have hm : zhs Z2 (ad 600) (.inr (10, [.int (sI (thS S 0) 600 0), .ref (ad 701), .int (nI (sN (thS S 0) 20)), .int (nI (sN (thS S 0) 21)), .int (nI (sN (thS S 0) 22)), .ref (ad 705), .ref (ad 706), .ref (ad 707), .ref (ad 708), .ref (ad 709), .ref (ad 710), .ref (ad 711), .int (nI (sN (thS S 0) 23)), .ref (ad 713), .ref (ad 714), .ref (ad 715), .ref (ad 716), .int (nI (sN (thS S 0) 24)), .int (nI (sN (thS S 0) 25)), .ref (ad 719), .ref (ad 720), .ref (ad 721), .ref (ad 722), .ref (ad 723), .ref (ad 724), .int (sI (thS S 0) 600 25), .ref (ad 726), .ref (ad 727), .ref (ad 728), .int (sI (thS S 0) 600 29), .int (nI (sN (thS S 0) 26)), .ref (ad 731), .ref (ad 732), .int (nI (sN (thS S 0) 27)), .int (nI (sN (thS S 0) 28)), .int (nI (sN (thS S 0) 29)), .int (nI (sN (thS S 0) 30)), .ref (ad 737), .int (nI (sN (thS S 0) 31)), .int (nI (sN (thS S 0) 32)), .int (sI (thS S 0) 600 40), .ref (ad 741)])) := hR.m
      have m726 : zhs Z2 (ad 726) (xi w 6480 t.1) := hR.ma 726 (by decide)
      have m727 : zhs Z2 (ad 727) (xi w 6480 t.2.1) := hR.ma 727 (by decide)
      generalize hx : wRr S r (nI s) k = x
      refine g_istore d_Mo_run_108 (by decide) rfl ?_
      show G _ _ _ _ _ _ _ _ [(6, _), (5, _), (4, _), (3, _), (2, _), (1, _), (0, _)] _ _
      refine g_aload_nq d_Mo_run_110 rfl 6 rfl ?_
      refine g_get d_Mo_run_111 f_Mo_70_Mo (by assumption) (by first | rfl | assumption) ?_
      refine g_iload d_Mo_run_114 1 rfl ?_
      refine Jb_Mo_run hR hti.1 ?_
      refine g_iast d_Mo_run_149 m726 (vp_in_nI hti.1 (by decide)) ?_
      rw [nI_clamp (by omega)]
      refine gen_putI (P := fun z => G w y_Mo_run c_Mo_run 7 r_Mo_run (5, 142) Q _ _ _ z) hR (i := 726) (lvM (by decide)) cM_726 (fun Z1 e1 hR => ?_)
      rw [rS_726] at hR
      have hm := zhs_put_ne' e1 hm (hJ 600 726 (by decide) (by decide) (by decide))
      have m727 := zhs_put_ne' e1 m727 (hJ 727 726 (by decide) (by decide) (by decide))
      have hB1 : Z1.2.2 = Z.2.2 := by rw [← e1]; exact b2
      refine g_aload_nq d_Mo_run_150 rfl 6 rfl ?_
      refine g_get d_Mo_run_151 f_Mo_73_Mo (by assumption) (by first | rfl | assumption) ?_
      refine g_iload d_Mo_run_154 1 rfl ?_
      refine g_iload d_Mo_run_156 0 rfl ?_
      refine g_iast d_Mo_run_158 m727 (vp_in_nI hti.1 (by decide)) ?_
      rw [nI_clamp (by omega)]
      refine gen_putI (P := fun z => G w y_Mo_run c_Mo_run 7 r_Mo_run (5, 142) Q _ _ _ z) hR (i := 727) (lvM (by decide)) cM_727 (fun Z3 e3 hR => ?_)
      rw [rS_727] at hR
      have hm := zhs_put_ne' e3 hm (hJ 600 727 (by decide) (by decide) (by decide))
      have hB3 : Z3.2.2 = Z.2.2 := by rw [← e3]; exact hB1
      refine g_iload_n d_Mo_run_159 rfl 5 rfl ?_
      refine Jc_Mo_run hR hI ?_
      refine g_iadd d_Mo_run_180 ?_
      rw [show nI t.2.2 + zb (opC S x (tI r (nI s) k)) = nI (t.2.2 + (if opC S x (tI r (nI s) k) then 1 else 0)) by by_cases h9 : opC S x (tI r (nI s) k); rw [zb_t h9, if_pos h9]; exact nI_1 _; rw [zb_f h9, if_neg h9]; exact Int32.add_zero _]
      refine g_istore_n d_Mo_run_181 rfl (by decide) rfl ?_
      show G _ _ _ _ _ _ _ _ [(1, _), (6, _), (5, _), (4, _), (3, _), (2, _), (0, _)] _ _
      refine g_iinc (k := 3) d_Mo_run_182 rfl (nI_1 k) (by decide) rfl ?_
      refine g_goto (tgt := 52) d_Mo_run_185 (by decide) ?_
      subst hx
      refine g_sub [0, 4, 5, 1, 6] rfl (ih (k + 1) (rn1 S bf r (nI s) k t) g2 Z3 (by omega) hR (fun Z9 g9 r9 b9 => hk9 Z9 g9 r9 (b9.trans hB3)))
