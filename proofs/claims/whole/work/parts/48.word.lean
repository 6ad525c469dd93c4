/-! RuleText.toNextWord -/
def skS (f : Nat → Int32) : Nat → Nat → Nat
  | 0, i => i
  | n + 1, i => if f i = 32 then skS f n (i + 1) else i
def skW (f : Nat → Int32) : Nat → Nat → Nat
  | 0, i => i
  | n + 1, i => if f i = 32 then i else skW f n (i + 1)
theorem skS_le {f : Nat → Int32} : ∀ {n i : Nat}, i ≤ skS f n i ∧ skS f n i ≤ i + n
  | 0, i => ⟨Nat.le_refl _, Nat.le_refl _⟩
  | n + 1, i => by
    unfold skS
    split
    · have := skS_le (f := f) (n := n) (i := i + 1); omega
    · omega
theorem skW_le {f : Nat → Int32} : ∀ {n i : Nat}, i ≤ skW f n i ∧ skW f n i ≤ i + n
  | 0, i => ⟨Nat.le_refl _, Nat.le_refl _⟩
  | n + 1, i => by
    unfold skW
    split
    · omega
    · have := skW_le (f := f) (n := n) (i := i + 1); omega
set_option maxHeartbeats 4000000 in
set_option maxRecDepth 100000 in
theorem L_tnw1 {w : zC} {Q : zR → zZ → Prop} {Z : zZ} {a q L s e : Nat} {f : Nat → Int32} (h0 : zhs Z a (.inr (2, [.ref q, .int (nI L), .int (nI s), .int (nI e)]))) (h1 : zhs Z q (xc w 160 f)) (hL : L ≤ 160) (n : Nat) : ∀ i, i + n = L → G w y_Tx_toNextWord c_Tx_toNextWord 4 r_Tx_toNextWord (1, 21) Q 44 [(2, .int (nI (skS f n i))), (1, .int (nI L)), (0, .ref a)] [] Z → G w y_Tx_toNextWord c_Tx_toNextWord 4 r_Tx_toNextWord (1, 21) Q 22 [(2, .int (nI (i))), (1, .int (nI L)), (0, .ref a)] [] Z := by
  induction n with
  | zero =>
    intro i hi hk
    refine g_iload_n d_Tx_toNextWord_22 rfl 0 rfl ?_
    refine g_iload_n d_Tx_toNextWord_23 rfl 1 rfl ?_
    refine g_icmp_ge (tgt := 44) d_Tx_toNextWord_24 (by decide) (fun h24 => ?_) (fun h24 => ?_)
    · rw [skS] at hk
      exact hk
    · exact absurd (nI_le (by omega) (by omega)) h24
  | succ n ih =>
    intro i hi hk
    refine g_iload_n d_Tx_toNextWord_22 rfl 0 rfl ?_
    refine g_iload_n d_Tx_toNextWord_23 rfl 1 rfl ?_
    refine g_icmp_ge (tgt := 44) d_Tx_toNextWord_24 (by decide) (fun h24 => ?_) (fun h24 => ?_)
    · exact absurd h24 (nI_ge (by omega) (by omega))
    · refine g_aload_nq d_Tx_toNextWord_27 rfl 2 rfl ?_
      refine g_get d_Tx_toNextWord_28 f_Tx_9_Tx (by assumption) (by first | rfl | assumption) ?_
      refine g_iload_n d_Tx_toNextWord_31 rfl 0 rfl ?_
      refine g_cald d_Tx_toNextWord_32 (by assumption) (vp_in_nI (by omega) (by decide)) ?_
      rw [nI_clamp (by omega)]
      refine g_bipush (v := 32) d_Tx_toNextWord_33 rfl ?_
      refine g_icmp_ne (tgt := 44) d_Tx_toNextWord_35 (by decide) (fun h35 => ?_) (fun h35 => ?_)
      · rw [skS, if_neg h35] at hk
        exact hk
      · rw [skS, if_pos h35] at hk
        refine g_iinc (k := 0) d_Tx_toNextWord_38 rfl (nI_1 i) (by decide) rfl ?_
        refine g_goto (tgt := 22) d_Tx_toNextWord_41 (by decide) ?_
        exact ih (i + 1) (by omega) hk

set_option maxHeartbeats 4000000 in
set_option maxRecDepth 100000 in
theorem L_tnw2 {w : zC} {Q : zR → zZ → Prop} {Z : zZ} {a q L s e t : Nat} {f : Nat → Int32} (h0 : zhs Z a (.inr (2, [.ref q, .int (nI L), .int (nI s), .int (nI e)]))) (h1 : zhs Z q (xc w 160 f)) (hL : L ≤ 160) (n : Nat) : ∀ i, i + n = L → G w y_Tx_toNextWord c_Tx_toNextWord 4 r_Tx_toNextWord (1, 21) Q 68 [(3, .int (nI (skW f n i))), (2, .int (nI t)), (1, .int (nI L)), (0, .ref a)] [] Z → G w y_Tx_toNextWord c_Tx_toNextWord 4 r_Tx_toNextWord (1, 21) Q 46 [(3, .int (nI (i))), (2, .int (nI t)), (1, .int (nI L)), (0, .ref a)] [] Z := by
  induction n with
  | zero =>
    intro i hi hk
    refine g_iload_n d_Tx_toNextWord_46 rfl 0 rfl ?_
    refine g_iload_n d_Tx_toNextWord_47 rfl 2 rfl ?_
    refine g_icmp_ge (tgt := 68) d_Tx_toNextWord_48 (by decide) (fun h48 => ?_) (fun h48 => ?_)
    · rw [skW] at hk
      exact hk
    · exact absurd (nI_le (by omega) (by omega)) h48
  | succ n ih =>
    intro i hi hk
    refine g_iload_n d_Tx_toNextWord_46 rfl 0 rfl ?_
    refine g_iload_n d_Tx_toNextWord_47 rfl 2 rfl ?_
    refine g_icmp_ge (tgt := 68) d_Tx_toNextWord_48 (by decide) (fun h48 => ?_) (fun h48 => ?_)
    · exact absurd h48 (nI_ge (by omega) (by omega))
    · refine g_aload_nq d_Tx_toNextWord_51 rfl 3 rfl ?_
      refine g_get d_Tx_toNextWord_52 f_Tx_9_Tx (by assumption) (by first | rfl | assumption) ?_
      refine g_iload_n d_Tx_toNextWord_55 rfl 0 rfl ?_
      refine g_cald d_Tx_toNextWord_56 (by assumption) (vp_in_nI (by omega) (by decide)) ?_
      rw [nI_clamp (by omega)]
      refine g_bipush (v := 32) d_Tx_toNextWord_57 rfl ?_
      refine g_icmp_eq (tgt := 68) d_Tx_toNextWord_59 (by decide) (fun h59 => ?_) (fun h59 => ?_)
      · rw [skW, if_pos h59] at hk
        exact hk
      · rw [skW, if_neg h59] at hk
        refine g_iinc (k := 0) d_Tx_toNextWord_62 rfl (nI_1 i) (by decide) rfl ?_
        refine g_goto (tgt := 46) d_Tx_toNextWord_65 (by decide) ?_
        exact ih (i + 1) (by omega) hk
