/-! The reference: its cells, how they move -/
abbrev mL (i : Nat) : Prop := i = 600 ∨ (700 ≤ i ∧ i < 742 ∧ isArrM i = true)
theorem lvL {S : ST} {i : Nat} (h : mL i) : liveS S i := by
  rcases h with h | h
  · exact Or.inr (Or.inr (Or.inr (Or.inr (Or.inr (Or.inr (Or.inl h))))))
  · exact Or.inr (Or.inr (Or.inr (Or.inr (Or.inr (Or.inr (Or.inr h))))))
theorem lv6 {S : ST} : liveS S 600 := lvL (Or.inl rfl)
theorem lvM {S : ST} {i : Nat} (h : 700 ≤ i ∧ i < 742 ∧ isArrM i = true) : liveS S i := lvL (Or.inr h)
theorem gen_putI {w : zC} {ad : Nat → Nat} {S : ST} {Z : zZ} {P : zZ → Prop} (hR : Rep w ad S Z) {i : Nat} {e : va_E} {f : Nat → Int32} (hl : liveS S i) (hc : cellOf w ad (wI S i f) i = e) (k : ∀ Z1, zput Z (ad i) e = Z1 → Rep w ad (wI S i f) Z1 → P Z1) : P (zput Z (ad i) e) := k _ rfl (hR.putI hl hc)
theorem gen_putJ {w : zC} {ad : Nat → Nat} {S : ST} {Z : zZ} {P : zZ → Prop} (hR : Rep w ad S Z) {i : Nat} {e : va_E} {f : Nat → Int64} (hl : liveS S i) (hc : cellOf w ad (wJ S i f) i = e) (k : ∀ Z1, zput Z (ad i) e = Z1 → Rep w ad (wJ S i f) Z1 → P Z1) : P (zput Z (ad i) e) := k _ rfl (hR.putJ hl hc)
theorem gen_putN {w : zC} {ad : Nat → Nat} {S : ST} {Z : zZ} {P : zZ → Prop} (hR : Rep w ad S Z) (hL : ciLive S) {n v : Nat} {e : va_E} (hn : 20 ≤ n ∧ n ≤ 32) (hc : cellOf w ad (wN S n v) 600 = e) (k : ∀ Z1, zput Z (ad 600) e = Z1 → Rep w ad (wN S n v) Z1 → ciLive (wN S n v) → P Z1) : P (zput Z (ad 600) e) :=
  k _ rfl (hR.putN hL lv6 (by omega) (fun z => by omega) (fun i hi => by rcases hi with hi | hi | hi <;> first | omega | (unfold rdK at hi; split at hi <;> first | omega | exact hi.elim)) hc) (hL.N (by omega))
theorem wI_wI {S : ST} {i : Nat} {f g : Nat → Int32} : wI (wI S i f) i g = wI S i g := by
  show (va_up (va_up S.1 i f) i g, S.2.1, S.2.2.1, S.2.2.2) = (va_up S.1 i g, S.2.1, S.2.2.1, S.2.2.2)
  congr 1
  funext j
  unfold va_up
  split <;> rfl
def thS (S : ST) (x : Int32) : ST := wI S 600 (va_up (sI S 600) 0 x)
theorem cM_701 {w : zC} {ad : Nat → Nat} {S : ST} {f : Nat → Int32} : cellOf w ad (wI S 701 f) 701 = xi w 100 f := by rw [cell_M (by decide)]; exact congrArg (xi w 100) (va_up_self S.1 701 f)
theorem cM_705 {w : zC} {ad : Nat → Nat} {S : ST} {f : Nat → Int32} : cellOf w ad (wI S 705 f) 705 = xi w 40 f := by rw [cell_M (by decide)]; exact congrArg (xi w 40) (va_up_self S.1 705 f)
theorem cM_706 {w : zC} {ad : Nat → Nat} {S : ST} {f : Nat → Int64} : cellOf w ad (wJ S 706 f) 706 = xl w 320 f := by rw [cell_M (by decide)]; exact congrArg (xl w 320) (va_up_self S.2.1 706 f)
theorem cM_707 {w : zC} {ad : Nat → Nat} {S : ST} {f : Nat → Int32} : cellOf w ad (wI S 707 f) 707 = xi w 40 f := by rw [cell_M (by decide)]; exact congrArg (xi w 40) (va_up_self S.1 707 f)
theorem cM_708 {w : zC} {ad : Nat → Nat} {S : ST} {f : Nat → Int32} : cellOf w ad (wI S 708 f) 708 = xi w 40 f := by rw [cell_M (by decide)]; exact congrArg (xi w 40) (va_up_self S.1 708 f)
theorem cM_709 {w : zC} {ad : Nat → Nat} {S : ST} {f : Nat → Int32} : cellOf w ad (wI S 709 f) 709 = xi w 160 f := by rw [cell_M (by decide)]; exact congrArg (xi w 160) (va_up_self S.1 709 f)
theorem cM_710 {w : zC} {ad : Nat → Nat} {S : ST} {f : Nat → Int32} : cellOf w ad (wI S 710 f) 710 = xi w 160 f := by rw [cell_M (by decide)]; exact congrArg (xi w 160) (va_up_self S.1 710 f)
theorem cM_711 {w : zC} {ad : Nat → Nat} {S : ST} {f : Nat → Int32} : cellOf w ad (wI S 711 f) 711 = xi w 160 f := by rw [cell_M (by decide)]; exact congrArg (xi w 160) (va_up_self S.1 711 f)
theorem cM_713 {w : zC} {ad : Nat → Nat} {S : ST} {f : Nat → Int32} : cellOf w ad (wI S 713 f) 713 = xi w 100 f := by rw [cell_M (by decide)]; exact congrArg (xi w 100) (va_up_self S.1 713 f)
theorem cM_714 {w : zC} {ad : Nat → Nat} {S : ST} {f : Nat → Int64} : cellOf w ad (wJ S 714 f) 714 = xl w 100 f := by rw [cell_M (by decide)]; exact congrArg (xl w 100) (va_up_self S.2.1 714 f)
theorem cM_715 {w : zC} {ad : Nat → Nat} {S : ST} {f : Nat → Int64} : cellOf w ad (wJ S 715 f) 715 = xl w 100 f := by rw [cell_M (by decide)]; exact congrArg (xl w 100) (va_up_self S.2.1 715 f)
theorem cM_716 {w : zC} {ad : Nat → Nat} {S : ST} {f : Nat → Int32} : cellOf w ad (wI S 716 f) 716 = xi w 160 f := by rw [cell_M (by decide)]; exact congrArg (xi w 160) (va_up_self S.1 716 f)
theorem cM_719 {w : zC} {ad : Nat → Nat} {S : ST} {f : Nat → Int32} : cellOf w ad (wI S 719 f) 719 = xi w 20 f := by rw [cell_M (by decide)]; exact congrArg (xi w 20) (va_up_self S.1 719 f)
theorem cM_720 {w : zC} {ad : Nat → Nat} {S : ST} {f : Nat → Int32} : cellOf w ad (wI S 720 f) 720 = xi w 20 f := by rw [cell_M (by decide)]; exact congrArg (xi w 20) (va_up_self S.1 720 f)
theorem cM_721 {w : zC} {ad : Nat → Nat} {S : ST} {f : Nat → Int32} : cellOf w ad (wI S 721 f) 721 = xi w 20 f := by rw [cell_M (by decide)]; exact congrArg (xi w 20) (va_up_self S.1 721 f)
theorem cM_722 {w : zC} {ad : Nat → Nat} {S : ST} {f : Nat → Int32} : cellOf w ad (wI S 722 f) 722 = xi w 1800 f := by rw [cell_M (by decide)]; exact congrArg (xi w 1800) (va_up_self S.1 722 f)
theorem cM_723 {w : zC} {ad : Nat → Nat} {S : ST} {f : Nat → Int32} : cellOf w ad (wI S 723 f) 723 = xi w 1800 f := by rw [cell_M (by decide)]; exact congrArg (xi w 1800) (va_up_self S.1 723 f)
theorem cM_724 {w : zC} {ad : Nat → Nat} {S : ST} {f : Nat → Int32} : cellOf w ad (wI S 724 f) 724 = xz w 27 f := by rw [cell_M (by decide)]; exact congrArg (xz w 27) (va_up_self S.1 724 f)
theorem cM_726 {w : zC} {ad : Nat → Nat} {S : ST} {f : Nat → Int32} : cellOf w ad (wI S 726 f) 726 = xi w 6480 f := by rw [cell_M (by decide)]; exact congrArg (xi w 6480) (va_up_self S.1 726 f)
theorem cM_727 {w : zC} {ad : Nat → Nat} {S : ST} {f : Nat → Int32} : cellOf w ad (wI S 727 f) 727 = xi w 6480 f := by rw [cell_M (by decide)]; exact congrArg (xi w 6480) (va_up_self S.1 727 f)
theorem cM_728 {w : zC} {ad : Nat → Nat} {S : ST} {f : Nat → Int32} : cellOf w ad (wI S 728 f) 728 = xi w 6480 f := by rw [cell_M (by decide)]; exact congrArg (xi w 6480) (va_up_self S.1 728 f)
theorem cM_731 {w : zC} {ad : Nat → Nat} {S : ST} {f : Nat → Int32} : cellOf w ad (wI S 731 f) 731 = xi w 50 f := by rw [cell_M (by decide)]; exact congrArg (xi w 50) (va_up_self S.1 731 f)
theorem cM_732 {w : zC} {ad : Nat → Nat} {S : ST} {f : Nat → Int32} : cellOf w ad (wI S 732 f) 732 = xi w 50 f := by rw [cell_M (by decide)]; exact congrArg (xi w 50) (va_up_self S.1 732 f)
theorem cM_737 {w : zC} {ad : Nat → Nat} {S : ST} {f : Nat → Int32} : cellOf w ad (wI S 737 f) 737 = xi w 100 f := by rw [cell_M (by decide)]; exact congrArg (xi w 100) (va_up_self S.1 737 f)
theorem cM_741 {w : zC} {ad : Nat → Nat} {S : ST} {f : Nat → Int64} : cellOf w ad (wJ S 741 f) 741 = xl w 90 f := by rw [cell_M (by decide)]; exact congrArg (xl w 90) (va_up_self S.2.1 741 f)
theorem c6_0 {w : zC} {ad : Nat → Nat} {S : ST} {x : Int32} : cellOf w ad (wI S 600 (va_up (sI S 600) 0 x)) 600 = .inr (10, [.int x, .ref (ad 701), .int (nI (sN S 20)), .int (nI (sN S 21)), .int (nI (sN S 22)), .ref (ad 705), .ref (ad 706), .ref (ad 707), .ref (ad 708), .ref (ad 709), .ref (ad 710), .ref (ad 711), .int (nI (sN S 23)), .ref (ad 713), .ref (ad 714), .ref (ad 715), .ref (ad 716), .int (nI (sN S 24)), .int (nI (sN S 25)), .ref (ad 719), .ref (ad 720), .ref (ad 721), .ref (ad 722), .ref (ad 723), .ref (ad 724), .int (sI S 600 25), .ref (ad 726), .ref (ad 727), .ref (ad 728), .int (sI S 600 29), .int (nI (sN S 26)), .ref (ad 731), .ref (ad 732), .int (nI (sN S 27)), .int (nI (sN S 28)), .int (nI (sN S 29)), .int (nI (sN S 30)), .ref (ad 737), .int (nI (sN S 31)), .int (nI (sN S 32)), .int (sI S 600 40), .ref (ad 741)]) := by rw [cell_M (by decide)]; rfl
theorem c6_25 {w : zC} {ad : Nat → Nat} {S : ST} {x : Int32} : cellOf w ad (wI S 600 (va_up (sI S 600) 25 x)) 600 = .inr (10, [.int (sI S 600 0), .ref (ad 701), .int (nI (sN S 20)), .int (nI (sN S 21)), .int (nI (sN S 22)), .ref (ad 705), .ref (ad 706), .ref (ad 707), .ref (ad 708), .ref (ad 709), .ref (ad 710), .ref (ad 711), .int (nI (sN S 23)), .ref (ad 713), .ref (ad 714), .ref (ad 715), .ref (ad 716), .int (nI (sN S 24)), .int (nI (sN S 25)), .ref (ad 719), .ref (ad 720), .ref (ad 721), .ref (ad 722), .ref (ad 723), .ref (ad 724), .int x, .ref (ad 726), .ref (ad 727), .ref (ad 728), .int (sI S 600 29), .int (nI (sN S 26)), .ref (ad 731), .ref (ad 732), .int (nI (sN S 27)), .int (nI (sN S 28)), .int (nI (sN S 29)), .int (nI (sN S 30)), .ref (ad 737), .int (nI (sN S 31)), .int (nI (sN S 32)), .int (sI S 600 40), .ref (ad 741)]) := by rw [cell_M (by decide)]; rfl
theorem c6_29 {w : zC} {ad : Nat → Nat} {S : ST} {x : Int32} : cellOf w ad (wI S 600 (va_up (sI S 600) 29 x)) 600 = .inr (10, [.int (sI S 600 0), .ref (ad 701), .int (nI (sN S 20)), .int (nI (sN S 21)), .int (nI (sN S 22)), .ref (ad 705), .ref (ad 706), .ref (ad 707), .ref (ad 708), .ref (ad 709), .ref (ad 710), .ref (ad 711), .int (nI (sN S 23)), .ref (ad 713), .ref (ad 714), .ref (ad 715), .ref (ad 716), .int (nI (sN S 24)), .int (nI (sN S 25)), .ref (ad 719), .ref (ad 720), .ref (ad 721), .ref (ad 722), .ref (ad 723), .ref (ad 724), .int (sI S 600 25), .ref (ad 726), .ref (ad 727), .ref (ad 728), .int x, .int (nI (sN S 26)), .ref (ad 731), .ref (ad 732), .int (nI (sN S 27)), .int (nI (sN S 28)), .int (nI (sN S 29)), .int (nI (sN S 30)), .ref (ad 737), .int (nI (sN S 31)), .int (nI (sN S 32)), .int (sI S 600 40), .ref (ad 741)]) := by rw [cell_M (by decide)]; rfl
theorem c6_40 {w : zC} {ad : Nat → Nat} {S : ST} {x : Int32} : cellOf w ad (wI S 600 (va_up (sI S 600) 40 x)) 600 = .inr (10, [.int (sI S 600 0), .ref (ad 701), .int (nI (sN S 20)), .int (nI (sN S 21)), .int (nI (sN S 22)), .ref (ad 705), .ref (ad 706), .ref (ad 707), .ref (ad 708), .ref (ad 709), .ref (ad 710), .ref (ad 711), .int (nI (sN S 23)), .ref (ad 713), .ref (ad 714), .ref (ad 715), .ref (ad 716), .int (nI (sN S 24)), .int (nI (sN S 25)), .ref (ad 719), .ref (ad 720), .ref (ad 721), .ref (ad 722), .ref (ad 723), .ref (ad 724), .int (sI S 600 25), .ref (ad 726), .ref (ad 727), .ref (ad 728), .int (sI S 600 29), .int (nI (sN S 26)), .ref (ad 731), .ref (ad 732), .int (nI (sN S 27)), .int (nI (sN S 28)), .int (nI (sN S 29)), .int (nI (sN S 30)), .ref (ad 737), .int (nI (sN S 31)), .int (nI (sN S 32)), .int x, .ref (ad 741)]) := by rw [cell_M (by decide)]; rfl
theorem c6N_20 {w : zC} {ad : Nat → Nat} {S : ST} {v : Nat} : cellOf w ad (wN S 20 v) 600 = .inr (10, [.int (sI S 600 0), .ref (ad 701), .int (nI v), .int (nI (sN S 21)), .int (nI (sN S 22)), .ref (ad 705), .ref (ad 706), .ref (ad 707), .ref (ad 708), .ref (ad 709), .ref (ad 710), .ref (ad 711), .int (nI (sN S 23)), .ref (ad 713), .ref (ad 714), .ref (ad 715), .ref (ad 716), .int (nI (sN S 24)), .int (nI (sN S 25)), .ref (ad 719), .ref (ad 720), .ref (ad 721), .ref (ad 722), .ref (ad 723), .ref (ad 724), .int (sI S 600 25), .ref (ad 726), .ref (ad 727), .ref (ad 728), .int (sI S 600 29), .int (nI (sN S 26)), .ref (ad 731), .ref (ad 732), .int (nI (sN S 27)), .int (nI (sN S 28)), .int (nI (sN S 29)), .int (nI (sN S 30)), .ref (ad 737), .int (nI (sN S 31)), .int (nI (sN S 32)), .int (sI S 600 40), .ref (ad 741)]) := by rw [cell_M (by decide)]; rfl
theorem c6N_21 {w : zC} {ad : Nat → Nat} {S : ST} {v : Nat} : cellOf w ad (wN S 21 v) 600 = .inr (10, [.int (sI S 600 0), .ref (ad 701), .int (nI (sN S 20)), .int (nI v), .int (nI (sN S 22)), .ref (ad 705), .ref (ad 706), .ref (ad 707), .ref (ad 708), .ref (ad 709), .ref (ad 710), .ref (ad 711), .int (nI (sN S 23)), .ref (ad 713), .ref (ad 714), .ref (ad 715), .ref (ad 716), .int (nI (sN S 24)), .int (nI (sN S 25)), .ref (ad 719), .ref (ad 720), .ref (ad 721), .ref (ad 722), .ref (ad 723), .ref (ad 724), .int (sI S 600 25), .ref (ad 726), .ref (ad 727), .ref (ad 728), .int (sI S 600 29), .int (nI (sN S 26)), .ref (ad 731), .ref (ad 732), .int (nI (sN S 27)), .int (nI (sN S 28)), .int (nI (sN S 29)), .int (nI (sN S 30)), .ref (ad 737), .int (nI (sN S 31)), .int (nI (sN S 32)), .int (sI S 600 40), .ref (ad 741)]) := by rw [cell_M (by decide)]; rfl
theorem c6N_22 {w : zC} {ad : Nat → Nat} {S : ST} {v : Nat} : cellOf w ad (wN S 22 v) 600 = .inr (10, [.int (sI S 600 0), .ref (ad 701), .int (nI (sN S 20)), .int (nI (sN S 21)), .int (nI v), .ref (ad 705), .ref (ad 706), .ref (ad 707), .ref (ad 708), .ref (ad 709), .ref (ad 710), .ref (ad 711), .int (nI (sN S 23)), .ref (ad 713), .ref (ad 714), .ref (ad 715), .ref (ad 716), .int (nI (sN S 24)), .int (nI (sN S 25)), .ref (ad 719), .ref (ad 720), .ref (ad 721), .ref (ad 722), .ref (ad 723), .ref (ad 724), .int (sI S 600 25), .ref (ad 726), .ref (ad 727), .ref (ad 728), .int (sI S 600 29), .int (nI (sN S 26)), .ref (ad 731), .ref (ad 732), .int (nI (sN S 27)), .int (nI (sN S 28)), .int (nI (sN S 29)), .int (nI (sN S 30)), .ref (ad 737), .int (nI (sN S 31)), .int (nI (sN S 32)), .int (sI S 600 40), .ref (ad 741)]) := by rw [cell_M (by decide)]; rfl
theorem c6N_23 {w : zC} {ad : Nat → Nat} {S : ST} {v : Nat} : cellOf w ad (wN S 23 v) 600 = .inr (10, [.int (sI S 600 0), .ref (ad 701), .int (nI (sN S 20)), .int (nI (sN S 21)), .int (nI (sN S 22)), .ref (ad 705), .ref (ad 706), .ref (ad 707), .ref (ad 708), .ref (ad 709), .ref (ad 710), .ref (ad 711), .int (nI v), .ref (ad 713), .ref (ad 714), .ref (ad 715), .ref (ad 716), .int (nI (sN S 24)), .int (nI (sN S 25)), .ref (ad 719), .ref (ad 720), .ref (ad 721), .ref (ad 722), .ref (ad 723), .ref (ad 724), .int (sI S 600 25), .ref (ad 726), .ref (ad 727), .ref (ad 728), .int (sI S 600 29), .int (nI (sN S 26)), .ref (ad 731), .ref (ad 732), .int (nI (sN S 27)), .int (nI (sN S 28)), .int (nI (sN S 29)), .int (nI (sN S 30)), .ref (ad 737), .int (nI (sN S 31)), .int (nI (sN S 32)), .int (sI S 600 40), .ref (ad 741)]) := by rw [cell_M (by decide)]; rfl
theorem c6N_24 {w : zC} {ad : Nat → Nat} {S : ST} {v : Nat} : cellOf w ad (wN S 24 v) 600 = .inr (10, [.int (sI S 600 0), .ref (ad 701), .int (nI (sN S 20)), .int (nI (sN S 21)), .int (nI (sN S 22)), .ref (ad 705), .ref (ad 706), .ref (ad 707), .ref (ad 708), .ref (ad 709), .ref (ad 710), .ref (ad 711), .int (nI (sN S 23)), .ref (ad 713), .ref (ad 714), .ref (ad 715), .ref (ad 716), .int (nI v), .int (nI (sN S 25)), .ref (ad 719), .ref (ad 720), .ref (ad 721), .ref (ad 722), .ref (ad 723), .ref (ad 724), .int (sI S 600 25), .ref (ad 726), .ref (ad 727), .ref (ad 728), .int (sI S 600 29), .int (nI (sN S 26)), .ref (ad 731), .ref (ad 732), .int (nI (sN S 27)), .int (nI (sN S 28)), .int (nI (sN S 29)), .int (nI (sN S 30)), .ref (ad 737), .int (nI (sN S 31)), .int (nI (sN S 32)), .int (sI S 600 40), .ref (ad 741)]) := by rw [cell_M (by decide)]; rfl
theorem c6N_25 {w : zC} {ad : Nat → Nat} {S : ST} {v : Nat} : cellOf w ad (wN S 25 v) 600 = .inr (10, [.int (sI S 600 0), .ref (ad 701), .int (nI (sN S 20)), .int (nI (sN S 21)), .int (nI (sN S 22)), .ref (ad 705), .ref (ad 706), .ref (ad 707), .ref (ad 708), .ref (ad 709), .ref (ad 710), .ref (ad 711), .int (nI (sN S 23)), .ref (ad 713), .ref (ad 714), .ref (ad 715), .ref (ad 716), .int (nI (sN S 24)), .int (nI v), .ref (ad 719), .ref (ad 720), .ref (ad 721), .ref (ad 722), .ref (ad 723), .ref (ad 724), .int (sI S 600 25), .ref (ad 726), .ref (ad 727), .ref (ad 728), .int (sI S 600 29), .int (nI (sN S 26)), .ref (ad 731), .ref (ad 732), .int (nI (sN S 27)), .int (nI (sN S 28)), .int (nI (sN S 29)), .int (nI (sN S 30)), .ref (ad 737), .int (nI (sN S 31)), .int (nI (sN S 32)), .int (sI S 600 40), .ref (ad 741)]) := by rw [cell_M (by decide)]; rfl
theorem c6N_26 {w : zC} {ad : Nat → Nat} {S : ST} {v : Nat} : cellOf w ad (wN S 26 v) 600 = .inr (10, [.int (sI S 600 0), .ref (ad 701), .int (nI (sN S 20)), .int (nI (sN S 21)), .int (nI (sN S 22)), .ref (ad 705), .ref (ad 706), .ref (ad 707), .ref (ad 708), .ref (ad 709), .ref (ad 710), .ref (ad 711), .int (nI (sN S 23)), .ref (ad 713), .ref (ad 714), .ref (ad 715), .ref (ad 716), .int (nI (sN S 24)), .int (nI (sN S 25)), .ref (ad 719), .ref (ad 720), .ref (ad 721), .ref (ad 722), .ref (ad 723), .ref (ad 724), .int (sI S 600 25), .ref (ad 726), .ref (ad 727), .ref (ad 728), .int (sI S 600 29), .int (nI v), .ref (ad 731), .ref (ad 732), .int (nI (sN S 27)), .int (nI (sN S 28)), .int (nI (sN S 29)), .int (nI (sN S 30)), .ref (ad 737), .int (nI (sN S 31)), .int (nI (sN S 32)), .int (sI S 600 40), .ref (ad 741)]) := by rw [cell_M (by decide)]; rfl
theorem c6N_27 {w : zC} {ad : Nat → Nat} {S : ST} {v : Nat} : cellOf w ad (wN S 27 v) 600 = .inr (10, [.int (sI S 600 0), .ref (ad 701), .int (nI (sN S 20)), .int (nI (sN S 21)), .int (nI (sN S 22)), .ref (ad 705), .ref (ad 706), .ref (ad 707), .ref (ad 708), .ref (ad 709), .ref (ad 710), .ref (ad 711), .int (nI (sN S 23)), .ref (ad 713), .ref (ad 714), .ref (ad 715), .ref (ad 716), .int (nI (sN S 24)), .int (nI (sN S 25)), .ref (ad 719), .ref (ad 720), .ref (ad 721), .ref (ad 722), .ref (ad 723), .ref (ad 724), .int (sI S 600 25), .ref (ad 726), .ref (ad 727), .ref (ad 728), .int (sI S 600 29), .int (nI (sN S 26)), .ref (ad 731), .ref (ad 732), .int (nI v), .int (nI (sN S 28)), .int (nI (sN S 29)), .int (nI (sN S 30)), .ref (ad 737), .int (nI (sN S 31)), .int (nI (sN S 32)), .int (sI S 600 40), .ref (ad 741)]) := by rw [cell_M (by decide)]; rfl
theorem c6N_28 {w : zC} {ad : Nat → Nat} {S : ST} {v : Nat} : cellOf w ad (wN S 28 v) 600 = .inr (10, [.int (sI S 600 0), .ref (ad 701), .int (nI (sN S 20)), .int (nI (sN S 21)), .int (nI (sN S 22)), .ref (ad 705), .ref (ad 706), .ref (ad 707), .ref (ad 708), .ref (ad 709), .ref (ad 710), .ref (ad 711), .int (nI (sN S 23)), .ref (ad 713), .ref (ad 714), .ref (ad 715), .ref (ad 716), .int (nI (sN S 24)), .int (nI (sN S 25)), .ref (ad 719), .ref (ad 720), .ref (ad 721), .ref (ad 722), .ref (ad 723), .ref (ad 724), .int (sI S 600 25), .ref (ad 726), .ref (ad 727), .ref (ad 728), .int (sI S 600 29), .int (nI (sN S 26)), .ref (ad 731), .ref (ad 732), .int (nI (sN S 27)), .int (nI v), .int (nI (sN S 29)), .int (nI (sN S 30)), .ref (ad 737), .int (nI (sN S 31)), .int (nI (sN S 32)), .int (sI S 600 40), .ref (ad 741)]) := by rw [cell_M (by decide)]; rfl
theorem c6N_29 {w : zC} {ad : Nat → Nat} {S : ST} {v : Nat} : cellOf w ad (wN S 29 v) 600 = .inr (10, [.int (sI S 600 0), .ref (ad 701), .int (nI (sN S 20)), .int (nI (sN S 21)), .int (nI (sN S 22)), .ref (ad 705), .ref (ad 706), .ref (ad 707), .ref (ad 708), .ref (ad 709), .ref (ad 710), .ref (ad 711), .int (nI (sN S 23)), .ref (ad 713), .ref (ad 714), .ref (ad 715), .ref (ad 716), .int (nI (sN S 24)), .int (nI (sN S 25)), .ref (ad 719), .ref (ad 720), .ref (ad 721), .ref (ad 722), .ref (ad 723), .ref (ad 724), .int (sI S 600 25), .ref (ad 726), .ref (ad 727), .ref (ad 728), .int (sI S 600 29), .int (nI (sN S 26)), .ref (ad 731), .ref (ad 732), .int (nI (sN S 27)), .int (nI (sN S 28)), .int (nI v), .int (nI (sN S 30)), .ref (ad 737), .int (nI (sN S 31)), .int (nI (sN S 32)), .int (sI S 600 40), .ref (ad 741)]) := by rw [cell_M (by decide)]; rfl
theorem c6N_30 {w : zC} {ad : Nat → Nat} {S : ST} {v : Nat} : cellOf w ad (wN S 30 v) 600 = .inr (10, [.int (sI S 600 0), .ref (ad 701), .int (nI (sN S 20)), .int (nI (sN S 21)), .int (nI (sN S 22)), .ref (ad 705), .ref (ad 706), .ref (ad 707), .ref (ad 708), .ref (ad 709), .ref (ad 710), .ref (ad 711), .int (nI (sN S 23)), .ref (ad 713), .ref (ad 714), .ref (ad 715), .ref (ad 716), .int (nI (sN S 24)), .int (nI (sN S 25)), .ref (ad 719), .ref (ad 720), .ref (ad 721), .ref (ad 722), .ref (ad 723), .ref (ad 724), .int (sI S 600 25), .ref (ad 726), .ref (ad 727), .ref (ad 728), .int (sI S 600 29), .int (nI (sN S 26)), .ref (ad 731), .ref (ad 732), .int (nI (sN S 27)), .int (nI (sN S 28)), .int (nI (sN S 29)), .int (nI v), .ref (ad 737), .int (nI (sN S 31)), .int (nI (sN S 32)), .int (sI S 600 40), .ref (ad 741)]) := by rw [cell_M (by decide)]; rfl
theorem c6N_31 {w : zC} {ad : Nat → Nat} {S : ST} {v : Nat} : cellOf w ad (wN S 31 v) 600 = .inr (10, [.int (sI S 600 0), .ref (ad 701), .int (nI (sN S 20)), .int (nI (sN S 21)), .int (nI (sN S 22)), .ref (ad 705), .ref (ad 706), .ref (ad 707), .ref (ad 708), .ref (ad 709), .ref (ad 710), .ref (ad 711), .int (nI (sN S 23)), .ref (ad 713), .ref (ad 714), .ref (ad 715), .ref (ad 716), .int (nI (sN S 24)), .int (nI (sN S 25)), .ref (ad 719), .ref (ad 720), .ref (ad 721), .ref (ad 722), .ref (ad 723), .ref (ad 724), .int (sI S 600 25), .ref (ad 726), .ref (ad 727), .ref (ad 728), .int (sI S 600 29), .int (nI (sN S 26)), .ref (ad 731), .ref (ad 732), .int (nI (sN S 27)), .int (nI (sN S 28)), .int (nI (sN S 29)), .int (nI (sN S 30)), .ref (ad 737), .int (nI v), .int (nI (sN S 32)), .int (sI S 600 40), .ref (ad 741)]) := by rw [cell_M (by decide)]; rfl
theorem c6N_32 {w : zC} {ad : Nat → Nat} {S : ST} {v : Nat} : cellOf w ad (wN S 32 v) 600 = .inr (10, [.int (sI S 600 0), .ref (ad 701), .int (nI (sN S 20)), .int (nI (sN S 21)), .int (nI (sN S 22)), .ref (ad 705), .ref (ad 706), .ref (ad 707), .ref (ad 708), .ref (ad 709), .ref (ad 710), .ref (ad 711), .int (nI (sN S 23)), .ref (ad 713), .ref (ad 714), .ref (ad 715), .ref (ad 716), .int (nI (sN S 24)), .int (nI (sN S 25)), .ref (ad 719), .ref (ad 720), .ref (ad 721), .ref (ad 722), .ref (ad 723), .ref (ad 724), .int (sI S 600 25), .ref (ad 726), .ref (ad 727), .ref (ad 728), .int (sI S 600 29), .int (nI (sN S 26)), .ref (ad 731), .ref (ad 732), .int (nI (sN S 27)), .int (nI (sN S 28)), .int (nI (sN S 29)), .int (nI (sN S 30)), .ref (ad 737), .int (nI (sN S 31)), .int (nI v), .int (sI S 600 40), .ref (ad 741)]) := by rw [cell_M (by decide)]; rfl
set_option maxHeartbeats 4000000 in
set_option maxRecDepth 100000 in
theorem C_Mo_isKind {w : zC} {Z : zZ} {Q : zR → zZ → Prop} {x : Int32} (hQ : Q (.inl (some (.int (zb (¬ x < 0 ∧ ¬ 10 ≤ x))))) Z) : Cz w (0, 0) y_Mo_isKind (Cond.code y_Mo_isKind c_Mo_isKind 1 r_Mo_isKind :: wz) [.int x] Z Q := by
  refine Cz.of (by decide +kernel) (by simp [lg_sl, Value.category]) ?_
  show G _ _ _ _ _ _ _ _ [(0, _)] _ _
  refine g_iload_n d_Mo_isKind_0 rfl 0 rfl ?_
  refine g_if_lt (tgt := 14) d_Mo_isKind_1 (by decide) (fun h1 => ?_) (fun h1 => ?_)
  · rw [zb_f (fun z => z.1 h1)] at hQ
    refine g_iconst (v := 0) d_Mo_isKind_14 rfl ?_
    refine g_zret d_Mo_isKind_15 ?_ ?_
    · first | rfl | exact zb_nar _ | exact zb_narc (by assumption)
    · exact hQ
  · refine g_iload_n d_Mo_isKind_4 rfl 0 rfl ?_
    refine g_bipush (v := 10) d_Mo_isKind_5 rfl ?_
    refine g_icmp_ge (tgt := 14) d_Mo_isKind_7 (by decide) (fun h7 => ?_) (fun h7 => ?_)
    · rw [zb_f (fun z => z.2 h7)] at hQ
      refine g_iconst (v := 0) d_Mo_isKind_14 rfl ?_
      refine g_zret d_Mo_isKind_15 ?_ ?_
      · first | rfl | exact zb_nar _ | exact zb_narc (by assumption)
      · exact hQ
    · rw [zb_t ⟨h1, h7⟩] at hQ
      refine g_iconst (v := 1) d_Mo_isKind_10 rfl ?_
      refine g_goto (tgt := 15) d_Mo_isKind_11 (by decide) ?_
      refine g_zret d_Mo_isKind_15 ?_ ?_
      · first | rfl | exact zb_nar _ | exact zb_narc (by assumption)
      · exact hQ

set_option maxHeartbeats 4000000 in
set_option maxRecDepth 100000 in
theorem C_Mo_isSheet {w : zC} {Z : zZ} {Q : zR → zZ → Prop} {x : Int32} (hQ : Q (.inl (some (.int (zb (¬ x < 0 ∧ ¬ 16 ≤ x))))) Z) : Cz w (0, 0) y_Mo_isSheet (Cond.code y_Mo_isSheet c_Mo_isSheet 1 r_Mo_isSheet :: wz) [.int x] Z Q := by
  refine Cz.of (by decide +kernel) (by simp [lg_sl, Value.category]) ?_
  show G _ _ _ _ _ _ _ _ [(0, _)] _ _
  refine g_iload_n d_Mo_isSheet_0 rfl 0 rfl ?_
  refine g_if_lt (tgt := 14) d_Mo_isSheet_1 (by decide) (fun h1 => ?_) (fun h1 => ?_)
  · rw [zb_f (fun z => z.1 h1)] at hQ
    refine g_iconst (v := 0) d_Mo_isSheet_14 rfl ?_
    refine g_zret d_Mo_isSheet_15 ?_ ?_
    · first | rfl | exact zb_nar _ | exact zb_narc (by assumption)
    · exact hQ
  · refine g_iload_n d_Mo_isSheet_4 rfl 0 rfl ?_
    refine g_bipush (v := 16) d_Mo_isSheet_5 rfl ?_
    refine g_icmp_ge (tgt := 14) d_Mo_isSheet_7 (by decide) (fun h7 => ?_) (fun h7 => ?_)
    · rw [zb_f (fun z => z.2 h7)] at hQ
      refine g_iconst (v := 0) d_Mo_isSheet_14 rfl ?_
      refine g_zret d_Mo_isSheet_15 ?_ ?_
      · first | rfl | exact zb_nar _ | exact zb_narc (by assumption)
      · exact hQ
    · rw [zb_t ⟨h1, h7⟩] at hQ
      refine g_iconst (v := 1) d_Mo_isSheet_10 rfl ?_
      refine g_goto (tgt := 15) d_Mo_isSheet_11 (by decide) ?_
      refine g_zret d_Mo_isSheet_15 ?_ ?_
      · first | rfl | exact zb_nar _ | exact zb_narc (by assumption)
      · exact hQ

set_option maxHeartbeats 4000000 in
set_option maxRecDepth 100000 in
theorem C_Mo_isNet {w : zC} {Z : zZ} {Q : zR → zZ → Prop} {ad : Nat → Nat} {S : ST} (hR : Rep w ad S Z) {x : Int32} (hQ : Q (.inl (some (.int (zb (¬ x < 0 ∧ ¬ nI (sN S 21) ≤ x))))) Z) : Cz w (0, 0) y_Mo_isNet (Cond.code y_Mo_isNet c_Mo_isNet 2 r_Mo_isNet :: wz) [.ref (ad 600), .int x] Z Q := by
  refine Cz.of (by decide +kernel) (by simp [lg_sl, Value.category]) ?_
  show G _ _ _ _ _ _ _ _ [(0, _), (1, _)] _ _
  have hm : zhs Z (ad 600) (.inr (10, [.int (sI S 600 0), .ref (ad 701), .int (nI (sN S 20)), .int (nI (sN S 21)), .int (nI (sN S 22)), .ref (ad 705), .ref (ad 706), .ref (ad 707), .ref (ad 708), .ref (ad 709), .ref (ad 710), .ref (ad 711), .int (nI (sN S 23)), .ref (ad 713), .ref (ad 714), .ref (ad 715), .ref (ad 716), .int (nI (sN S 24)), .int (nI (sN S 25)), .ref (ad 719), .ref (ad 720), .ref (ad 721), .ref (ad 722), .ref (ad 723), .ref (ad 724), .int (sI S 600 25), .ref (ad 726), .ref (ad 727), .ref (ad 728), .int (sI S 600 29), .int (nI (sN S 26)), .ref (ad 731), .ref (ad 732), .int (nI (sN S 27)), .int (nI (sN S 28)), .int (nI (sN S 29)), .int (nI (sN S 30)), .ref (ad 737), .int (nI (sN S 31)), .int (nI (sN S 32)), .int (sI S 600 40), .ref (ad 741)])) := hR.m
  have J : ∀ i j, mL i → mL j → i ≠ j → ad i ≠ ad j := fun i j hi hj hne => hR.inj (lvL hi) (lvL hj) hne
  obtain ⟨Z0, hZ0⟩ : ∃ Z0, Z0 = Z := ⟨_, rfl⟩
  have hB : Z.2.2 = Z0.2.2 := by rw [hZ0]
  refine g_iload_n d_Mo_isNet_0 rfl 1 rfl ?_
  refine g_if_lt (tgt := 16) d_Mo_isNet_1 (by decide) (fun h1 => ?_) (fun h1 => ?_)
  · rw [zb_f (fun z => z.1 h1)] at hQ
    refine g_iconst (v := 0) d_Mo_isNet_16 rfl ?_
    refine g_zret d_Mo_isNet_17 ?_ ?_
    · first | rfl | exact zb_nar _ | exact zb_narc (by assumption)
    · exact hQ
  · refine g_iload_n d_Mo_isNet_4 rfl 1 rfl ?_
    refine g_aload_nq d_Mo_isNet_5 rfl 0 rfl ?_
    refine g_get d_Mo_isNet_6 f_Mo_94_Mo (by assumption) (by first | rfl | assumption) ?_
    refine g_icmp_ge (tgt := 16) d_Mo_isNet_9 (by decide) (fun h9 => ?_) (fun h9 => ?_)
    · rw [zb_f (fun z => z.2 h9)] at hQ
      refine g_iconst (v := 0) d_Mo_isNet_16 rfl ?_
      refine g_zret d_Mo_isNet_17 ?_ ?_
      · first | rfl | exact zb_nar _ | exact zb_narc (by assumption)
      · exact hQ
    · rw [zb_t ⟨h1, h9⟩] at hQ
      refine g_iconst (v := 1) d_Mo_isNet_12 rfl ?_
      refine g_goto (tgt := 17) d_Mo_isNet_13 (by decide) ?_
      refine g_zret d_Mo_isNet_17 ?_ ?_
      · first | rfl | exact zb_nar _ | exact zb_narc (by assumption)
      · exact hQ

set_option maxHeartbeats 4000000 in
set_option maxRecDepth 100000 in
theorem C_Mo_isPart {w : zC} {Z : zZ} {Q : zR → zZ → Prop} {ad : Nat → Nat} {S : ST} (hR : Rep w ad S Z) {x : Int32} (hQ : Q (.inl (some (.int (zb (¬ x < 0 ∧ ¬ nI (sN S 20) ≤ x))))) Z) : Cz w (0, 0) y_Mo_isPart (Cond.code y_Mo_isPart c_Mo_isPart 2 r_Mo_isPart :: wz) [.ref (ad 600), .int x] Z Q := by
  refine Cz.of (by decide +kernel) (by simp [lg_sl, Value.category]) ?_
  show G _ _ _ _ _ _ _ _ [(0, _), (1, _)] _ _
  have hm : zhs Z (ad 600) (.inr (10, [.int (sI S 600 0), .ref (ad 701), .int (nI (sN S 20)), .int (nI (sN S 21)), .int (nI (sN S 22)), .ref (ad 705), .ref (ad 706), .ref (ad 707), .ref (ad 708), .ref (ad 709), .ref (ad 710), .ref (ad 711), .int (nI (sN S 23)), .ref (ad 713), .ref (ad 714), .ref (ad 715), .ref (ad 716), .int (nI (sN S 24)), .int (nI (sN S 25)), .ref (ad 719), .ref (ad 720), .ref (ad 721), .ref (ad 722), .ref (ad 723), .ref (ad 724), .int (sI S 600 25), .ref (ad 726), .ref (ad 727), .ref (ad 728), .int (sI S 600 29), .int (nI (sN S 26)), .ref (ad 731), .ref (ad 732), .int (nI (sN S 27)), .int (nI (sN S 28)), .int (nI (sN S 29)), .int (nI (sN S 30)), .ref (ad 737), .int (nI (sN S 31)), .int (nI (sN S 32)), .int (sI S 600 40), .ref (ad 741)])) := hR.m
  have J : ∀ i j, mL i → mL j → i ≠ j → ad i ≠ ad j := fun i j hi hj hne => hR.inj (lvL hi) (lvL hj) hne
  obtain ⟨Z0, hZ0⟩ : ∃ Z0, Z0 = Z := ⟨_, rfl⟩
  have hB : Z.2.2 = Z0.2.2 := by rw [hZ0]
  refine g_iload_n d_Mo_isPart_0 rfl 1 rfl ?_
  refine g_if_lt (tgt := 16) d_Mo_isPart_1 (by decide) (fun h1 => ?_) (fun h1 => ?_)
  · rw [zb_f (fun z => z.1 h1)] at hQ
    refine g_iconst (v := 0) d_Mo_isPart_16 rfl ?_
    refine g_zret d_Mo_isPart_17 ?_ ?_
    · first | rfl | exact zb_nar _ | exact zb_narc (by assumption)
    · exact hQ
  · refine g_iload_n d_Mo_isPart_4 rfl 1 rfl ?_
    refine g_aload_nq d_Mo_isPart_5 rfl 0 rfl ?_
    refine g_get d_Mo_isPart_6 f_Mo_97_Mo (by assumption) (by first | rfl | assumption) ?_
    refine g_icmp_ge (tgt := 16) d_Mo_isPart_9 (by decide) (fun h9 => ?_) (fun h9 => ?_)
    · rw [zb_f (fun z => z.2 h9)] at hQ
      refine g_iconst (v := 0) d_Mo_isPart_16 rfl ?_
      refine g_zret d_Mo_isPart_17 ?_ ?_
      · first | rfl | exact zb_nar _ | exact zb_narc (by assumption)
      · exact hQ
    · rw [zb_t ⟨h1, h9⟩] at hQ
      refine g_iconst (v := 1) d_Mo_isPart_12 rfl ?_
      refine g_goto (tgt := 17) d_Mo_isPart_13 (by decide) ?_
      refine g_zret d_Mo_isPart_17 ?_ ?_
      · first | rfl | exact zb_nar _ | exact zb_narc (by assumption)
      · exact hQ

set_option maxHeartbeats 4000000 in
set_option maxRecDepth 100000 in
theorem C_Mo_isRule {w : zC} {Z : zZ} {Q : zR → zZ → Prop} {ad : Nat → Nat} {S : ST} (hR : Rep w ad S Z) {x : Int32} (hQ : Q (.inl (some (.int (zb (¬ x < 0 ∧ ¬ nI (7 + sN S 25) ≤ x))))) Z) : Cz w (0, 0) y_Mo_isRule (Cond.code y_Mo_isRule c_Mo_isRule 2 r_Mo_isRule :: wz) [.ref (ad 600), .int x] Z Q := by
  refine Cz.of (by decide +kernel) (by simp [lg_sl, Value.category]) ?_
  show G _ _ _ _ _ _ _ _ [(0, _), (1, _)] _ _
  have hm : zhs Z (ad 600) (.inr (10, [.int (sI S 600 0), .ref (ad 701), .int (nI (sN S 20)), .int (nI (sN S 21)), .int (nI (sN S 22)), .ref (ad 705), .ref (ad 706), .ref (ad 707), .ref (ad 708), .ref (ad 709), .ref (ad 710), .ref (ad 711), .int (nI (sN S 23)), .ref (ad 713), .ref (ad 714), .ref (ad 715), .ref (ad 716), .int (nI (sN S 24)), .int (nI (sN S 25)), .ref (ad 719), .ref (ad 720), .ref (ad 721), .ref (ad 722), .ref (ad 723), .ref (ad 724), .int (sI S 600 25), .ref (ad 726), .ref (ad 727), .ref (ad 728), .int (sI S 600 29), .int (nI (sN S 26)), .ref (ad 731), .ref (ad 732), .int (nI (sN S 27)), .int (nI (sN S 28)), .int (nI (sN S 29)), .int (nI (sN S 30)), .ref (ad 737), .int (nI (sN S 31)), .int (nI (sN S 32)), .int (sI S 600 40), .ref (ad 741)])) := hR.m
  have J : ∀ i j, mL i → mL j → i ≠ j → ad i ≠ ad j := fun i j hi hj hne => hR.inj (lvL hi) (lvL hj) hne
  obtain ⟨Z0, hZ0⟩ : ∃ Z0, Z0 = Z := ⟨_, rfl⟩
  have hB : Z.2.2 = Z0.2.2 := by rw [hZ0]
  refine g_iload_n d_Mo_isRule_0 rfl 1 rfl ?_
  refine g_if_lt (tgt := 19) d_Mo_isRule_1 (by decide) (fun h1 => ?_) (fun h1 => ?_)
  · rw [zb_f (fun z => z.1 h1)] at hQ
    refine g_iconst (v := 0) d_Mo_isRule_19 rfl ?_
    refine g_zret d_Mo_isRule_20 ?_ ?_
    · first | rfl | exact zb_nar _ | exact zb_narc (by assumption)
    · exact hQ
  · refine g_iload_n d_Mo_isRule_4 rfl 1 rfl ?_
    refine g_bipush (v := 7) d_Mo_isRule_5 rfl ?_
    refine g_aload_nq d_Mo_isRule_7 rfl 0 rfl ?_
    refine g_get d_Mo_isRule_8 f_Mo_210_Mo (by assumption) (by first | rfl | assumption) ?_
    refine g_iadd d_Mo_isRule_11 ?_
    rw [show (7 : Int32) = nI 7 from rfl, nI_add]
    refine g_icmp_ge (tgt := 19) d_Mo_isRule_12 (by decide) (fun h12 => ?_) (fun h12 => ?_)
    · rw [zb_f (fun z => z.2 h12)] at hQ
      refine g_iconst (v := 0) d_Mo_isRule_19 rfl ?_
      refine g_zret d_Mo_isRule_20 ?_ ?_
      · first | rfl | exact zb_nar _ | exact zb_narc (by assumption)
      · exact hQ
    · rw [zb_t ⟨h1, h12⟩] at hQ
      refine g_iconst (v := 1) d_Mo_isRule_15 rfl ?_
      refine g_goto (tgt := 20) d_Mo_isRule_16 (by decide) ?_
      refine g_zret d_Mo_isRule_20 ?_ ?_
      · first | rfl | exact zb_nar _ | exact zb_narc (by assumption)
      · exact hQ

set_option maxHeartbeats 4000000 in
set_option maxRecDepth 100000 in
theorem C_Mo_thrown {w : zC} {Z : zZ} {Q : zR → zZ → Prop} {ad : Nat → Nat} {S : ST} (hR : Rep w ad S Z) (hQ : Q (.inl (some (.int (sI S 600 0)))) Z) : Cz w (0, 0) y_Mo_thrown (Cond.code y_Mo_thrown c_Mo_thrown 1 r_Mo_thrown :: wz) [.ref (ad 600)] Z Q := by
  refine Cz.of (by decide +kernel) (by simp [lg_sl, Value.category]) ?_
  show G _ _ _ _ _ _ _ _ [(0, _)] _ _
  have hm : zhs Z (ad 600) (.inr (10, [.int (sI S 600 0), .ref (ad 701), .int (nI (sN S 20)), .int (nI (sN S 21)), .int (nI (sN S 22)), .ref (ad 705), .ref (ad 706), .ref (ad 707), .ref (ad 708), .ref (ad 709), .ref (ad 710), .ref (ad 711), .int (nI (sN S 23)), .ref (ad 713), .ref (ad 714), .ref (ad 715), .ref (ad 716), .int (nI (sN S 24)), .int (nI (sN S 25)), .ref (ad 719), .ref (ad 720), .ref (ad 721), .ref (ad 722), .ref (ad 723), .ref (ad 724), .int (sI S 600 25), .ref (ad 726), .ref (ad 727), .ref (ad 728), .int (sI S 600 29), .int (nI (sN S 26)), .ref (ad 731), .ref (ad 732), .int (nI (sN S 27)), .int (nI (sN S 28)), .int (nI (sN S 29)), .int (nI (sN S 30)), .ref (ad 737), .int (nI (sN S 31)), .int (nI (sN S 32)), .int (sI S 600 40), .ref (ad 741)])) := hR.m
  have J : ∀ i j, mL i → mL j → i ≠ j → ad i ≠ ad j := fun i j hi hj hne => hR.inj (lvL hi) (lvL hj) hne
  obtain ⟨Z0, hZ0⟩ : ∃ Z0, Z0 = Z := ⟨_, rfl⟩
  have hB : Z.2.2 = Z0.2.2 := by rw [hZ0]
  refine g_aload_nq d_Mo_thrown_0 rfl 0 rfl ?_
  refine g_get d_Mo_thrown_1 f_Mo_91_Mo (by assumption) (by first | rfl | assumption) ?_
  refine g_iret d_Mo_thrown_4 ?_
  exact hQ

set_option maxHeartbeats 4000000 in
set_option maxRecDepth 100000 in
theorem C_Mo_many {w : zC} {Z : zZ} {Q : zR → zZ → Prop} {ad : Nat → Nat} {S : ST} (hR : Rep w ad S Z) {x : Int32} (hQ : Q (.inl (some (.int (if x = 0 then nI (sN S 20) else if x = 1 then nI (sN S 21) else nI (sN S 22))))) Z) : Cz w (0, 0) y_Mo_many (Cond.code y_Mo_many c_Mo_many 2 r_Mo_many :: wz) [.ref (ad 600), .int x] Z Q := by
  refine Cz.of (by decide +kernel) (by simp [lg_sl, Value.category]) ?_
  show G _ _ _ _ _ _ _ _ [(0, _), (1, _)] _ _
  have hm : zhs Z (ad 600) (.inr (10, [.int (sI S 600 0), .ref (ad 701), .int (nI (sN S 20)), .int (nI (sN S 21)), .int (nI (sN S 22)), .ref (ad 705), .ref (ad 706), .ref (ad 707), .ref (ad 708), .ref (ad 709), .ref (ad 710), .ref (ad 711), .int (nI (sN S 23)), .ref (ad 713), .ref (ad 714), .ref (ad 715), .ref (ad 716), .int (nI (sN S 24)), .int (nI (sN S 25)), .ref (ad 719), .ref (ad 720), .ref (ad 721), .ref (ad 722), .ref (ad 723), .ref (ad 724), .int (sI S 600 25), .ref (ad 726), .ref (ad 727), .ref (ad 728), .int (sI S 600 29), .int (nI (sN S 26)), .ref (ad 731), .ref (ad 732), .int (nI (sN S 27)), .int (nI (sN S 28)), .int (nI (sN S 29)), .int (nI (sN S 30)), .ref (ad 737), .int (nI (sN S 31)), .int (nI (sN S 32)), .int (sI S 600 40), .ref (ad 741)])) := hR.m
  have J : ∀ i j, mL i → mL j → i ≠ j → ad i ≠ ad j := fun i j hi hj hne => hR.inj (lvL hi) (lvL hj) hne
  obtain ⟨Z0, hZ0⟩ : ∃ Z0, Z0 = Z := ⟨_, rfl⟩
  have hB : Z.2.2 = Z0.2.2 := by rw [hZ0]
  refine g_iload_n d_Mo_many_0 rfl 1 rfl ?_
  first | refine g_if_neB (tgt := 11) d_Mo_many_1 (by decide) (fun h1 => ?_) (fun h1 => ?_) | refine g_if_ne (tgt := 11) d_Mo_many_1 (by decide) (fun h1 => ?_) (fun h1 => ?_)
  · rw [if_neg h1] at hQ
    refine g_iload_n d_Mo_many_11 rfl 1 rfl ?_
    refine g_iconst (v := 1) d_Mo_many_12 rfl ?_
    refine g_icmp_ne (tgt := 23) d_Mo_many_13 (by decide) (fun h13 => ?_) (fun h13 => ?_)
    · rw [if_neg h13] at hQ
      refine g_aload_nq d_Mo_many_23 rfl 0 rfl ?_
      refine g_get d_Mo_many_24 f_Mo_113_Mo (by assumption) (by first | rfl | assumption) ?_
      refine g_iret d_Mo_many_27 ?_
      exact hQ
    · rw [if_pos h13] at hQ
      refine g_aload_nq d_Mo_many_16 rfl 0 rfl ?_
      refine g_get d_Mo_many_17 f_Mo_94_Mo (by assumption) (by first | rfl | assumption) ?_
      refine g_goto (tgt := 27) d_Mo_many_20 (by decide) ?_
      refine g_iret d_Mo_many_27 ?_
      exact hQ
  · rw [if_pos h1] at hQ
    refine g_aload_nq d_Mo_many_4 rfl 0 rfl ?_
    refine g_get d_Mo_many_5 f_Mo_97_Mo (by assumption) (by first | rfl | assumption) ?_
    refine g_goto (tgt := 27) d_Mo_many_8 (by decide) ?_
    refine g_iret d_Mo_many_27 ?_
    exact hQ

set_option maxHeartbeats 4000000 in
set_option maxRecDepth 100000 in
theorem C_Mo_thing {w : zC} {Z : zZ} {Q : zR → zZ → Prop} {x k : Int32} (hQ : Q (.inl (some (.int (if x = 0 then k else if x = 1 then 40 + k else 80 + k)))) Z) : Cz w (0, 0) y_Mo_thing (Cond.code y_Mo_thing c_Mo_thing 2 r_Mo_thing :: wz) [.int x, .int k] Z Q := by
  refine Cz.of (by decide +kernel) (by simp [lg_sl, Value.category]) ?_
  show G _ _ _ _ _ _ _ _ [(0, _), (1, _)] _ _
  refine g_iload_n d_Mo_thing_0 rfl 0 rfl ?_
  first | refine g_if_neB (tgt := 8) d_Mo_thing_1 (by decide) (fun h1 => ?_) (fun h1 => ?_) | refine g_if_ne (tgt := 8) d_Mo_thing_1 (by decide) (fun h1 => ?_) (fun h1 => ?_)
  · rw [if_neg h1] at hQ
    refine g_iload_n d_Mo_thing_8 rfl 0 rfl ?_
    refine g_iconst (v := 1) d_Mo_thing_9 rfl ?_
    refine g_icmp_ne (tgt := 20) d_Mo_thing_10 (by decide) (fun h10 => ?_) (fun h10 => ?_)
    · rw [if_neg h10] at hQ
      refine g_bipush (v := 80) d_Mo_thing_20 rfl ?_
      refine g_iload_n d_Mo_thing_22 rfl 1 rfl ?_
      refine g_iadd d_Mo_thing_23 ?_
      refine g_iret d_Mo_thing_24 ?_
      exact hQ
    · rw [if_pos h10] at hQ
      refine g_bipush (v := 40) d_Mo_thing_13 rfl ?_
      refine g_iload_n d_Mo_thing_15 rfl 1 rfl ?_
      refine g_iadd d_Mo_thing_16 ?_
      refine g_goto (tgt := 24) d_Mo_thing_17 (by decide) ?_
      refine g_iret d_Mo_thing_24 ?_
      exact hQ
  · rw [if_pos h1] at hQ
    refine g_iload_n d_Mo_thing_4 rfl 1 rfl ?_
    refine g_goto (tgt := 24) d_Mo_thing_5 (by decide) ?_
    refine g_iret d_Mo_thing_24 ?_
    exact hQ

set_option maxHeartbeats 4000000 in
set_option maxRecDepth 100000 in
theorem C_Mo_kindOf {w : zC} {Z : zZ} {Q : zR → zZ → Prop} {x : Int32} (hQ : Q (.inl (some (.int (if 40 ≤ x - x / 240 * 240 then (if 80 ≤ x - x / 240 * 240 then 2 else 1) else 0)))) Z) : Cz w (0, 0) y_Mo_kindOf (Cond.code y_Mo_kindOf c_Mo_kindOf 2 r_Mo_kindOf :: wz) [.int x] Z Q := by
  refine Cz.of (by decide +kernel) (by simp [lg_sl, Value.category]) ?_
  show G _ _ _ _ _ _ _ _ [(0, _)] _ _
  refine g_iload_n d_Mo_kindOf_0 rfl 0 rfl ?_
  refine g_sipush (v := 240) d_Mo_kindOf_1 rfl ?_
  refine g_irem d_Mo_kindOf_4 (by decide) ?_
  refine g_istore_n d_Mo_kindOf_5 rfl (by decide) rfl ?_
  show G _ _ _ _ _ _ _ _ [(1, _), (0, _)] _ _
  refine g_iload_n d_Mo_kindOf_6 rfl 0 rfl ?_
  refine g_bipush (v := 40) d_Mo_kindOf_7 rfl ?_
  refine g_icmp_ge (tgt := 16) d_Mo_kindOf_9 (by decide) (fun h9 => ?_) (fun h9 => ?_)
  · rw [if_pos h9] at hQ
    refine g_iload_n d_Mo_kindOf_16 rfl 0 rfl ?_
    refine g_bipush (v := 80) d_Mo_kindOf_17 rfl ?_
    refine g_icmp_ge (tgt := 26) d_Mo_kindOf_19 (by decide) (fun h19 => ?_) (fun h19 => ?_)
    · rw [if_pos h19] at hQ
      refine g_iconst (v := 2) d_Mo_kindOf_26 rfl ?_
      refine g_iret d_Mo_kindOf_27 ?_
      exact hQ
    · rw [if_neg h19] at hQ
      refine g_iconst (v := 1) d_Mo_kindOf_22 rfl ?_
      refine g_goto (tgt := 27) d_Mo_kindOf_23 (by decide) ?_
      refine g_iret d_Mo_kindOf_27 ?_
      exact hQ
  · rw [if_neg h9] at hQ
    refine g_iconst (v := 0) d_Mo_kindOf_12 rfl ?_
    refine g_goto (tgt := 27) d_Mo_kindOf_13 (by decide) ?_
    refine g_iret d_Mo_kindOf_27 ?_
    exact hQ

set_option maxHeartbeats 4000000 in
set_option maxRecDepth 100000 in
theorem C_Mo_numberOf {w : zC} {Z : zZ} {Q : zR → zZ → Prop} {x : Int32} (hQ : Q (.inl (some (.int (if 40 ≤ x - x / 240 * 240 then (if 80 ≤ x - x / 240 * 240 then (x - x / 240 * 240 - 80) else (x - x / 240 * 240 - 40)) else (x - x / 240 * 240))))) Z) : Cz w (0, 0) y_Mo_numberOf (Cond.code y_Mo_numberOf c_Mo_numberOf 2 r_Mo_numberOf :: wz) [.int x] Z Q := by
  refine Cz.of (by decide +kernel) (by simp [lg_sl, Value.category]) ?_
  show G _ _ _ _ _ _ _ _ [(0, _)] _ _
  refine g_iload_n d_Mo_numberOf_0 rfl 0 rfl ?_
  refine g_sipush (v := 240) d_Mo_numberOf_1 rfl ?_
  refine g_irem d_Mo_numberOf_4 (by decide) ?_
  refine g_istore_n d_Mo_numberOf_5 rfl (by decide) rfl ?_
  show G _ _ _ _ _ _ _ _ [(1, _), (0, _)] _ _
  refine g_iload_n d_Mo_numberOf_6 rfl 0 rfl ?_
  refine g_bipush (v := 40) d_Mo_numberOf_7 rfl ?_
  refine g_icmp_ge (tgt := 16) d_Mo_numberOf_9 (by decide) (fun h9 => ?_) (fun h9 => ?_)
  · rw [if_pos h9] at hQ
    refine g_iload_n d_Mo_numberOf_16 rfl 0 rfl ?_
    refine g_bipush (v := 80) d_Mo_numberOf_17 rfl ?_
    refine g_icmp_ge (tgt := 29) d_Mo_numberOf_19 (by decide) (fun h19 => ?_) (fun h19 => ?_)
    · rw [if_pos h19] at hQ
      refine g_iload_n d_Mo_numberOf_29 rfl 0 rfl ?_
      refine g_bipush (v := 80) d_Mo_numberOf_30 rfl ?_
      refine g_isub d_Mo_numberOf_32 ?_
      refine g_iret d_Mo_numberOf_33 ?_
      exact hQ
    · rw [if_neg h19] at hQ
      refine g_iload_n d_Mo_numberOf_22 rfl 0 rfl ?_
      refine g_bipush (v := 40) d_Mo_numberOf_23 rfl ?_
      refine g_isub d_Mo_numberOf_25 ?_
      refine g_goto (tgt := 33) d_Mo_numberOf_26 (by decide) ?_
      refine g_iret d_Mo_numberOf_33 ?_
      exact hQ
  · rw [if_neg h9] at hQ
    refine g_iload_n d_Mo_numberOf_12 rfl 0 rfl ?_
    refine g_goto (tgt := 33) d_Mo_numberOf_13 (by decide) ?_
    refine g_iret d_Mo_numberOf_33 ?_
    exact hQ

def mrk (x : Int32) : Int32 := if x = 10 then 6 else if x = 11 ∨ x = 12 then 5 else if ¬ x < 13 ∧ ¬ 18 < x then 4 else if x = 19 then 3 else if x = 20 then 2 else if x = 21 then 1 else 0
set_option maxHeartbeats 4000000 in
set_option maxRecDepth 100000 in
theorem C_Mo_rank {w : zC} {Z : zZ} {Q : zR → zZ → Prop} {x : Int32} (hQ : Q (.inl (some (.int (mrk x)))) Z) : Cz w (0, 0) y_Mo_rank (Cond.code y_Mo_rank c_Mo_rank 1 r_Mo_rank :: wz) [.int x] Z Q := by
  refine Cz.of (by decide +kernel) (by simp [lg_sl, Value.category]) ?_
  show G _ _ _ _ _ _ _ _ [(0, _)] _ _
  refine g_iload_n d_Mo_rank_0 rfl 0 rfl ?_
  refine g_bipush (v := 10) d_Mo_rank_1 rfl ?_
  refine g_icmp_ne (tgt := 9) d_Mo_rank_3 (by decide) (fun h3 => ?_) (fun h3 => ?_)
  · rw [mrk, if_neg h3] at hQ
    refine g_iload_n d_Mo_rank_9 rfl 0 rfl ?_
    refine g_bipush (v := 11) d_Mo_rank_10 rfl ?_
    refine g_icmp_eq (tgt := 21) d_Mo_rank_12 (by decide) (fun h12 => ?_) (fun h12 => ?_)
    · rw [if_pos (Or.inl h12)] at hQ
      refine g_iconst (v := 5) d_Mo_rank_21 rfl ?_
      refine g_iret d_Mo_rank_22 ?_
      exact hQ
    · refine g_iload_n d_Mo_rank_15 rfl 0 rfl ?_
      refine g_bipush (v := 12) d_Mo_rank_16 rfl ?_
      refine g_icmp_ne (tgt := 23) d_Mo_rank_18 (by decide) (fun h18 => ?_) (fun h18 => ?_)
      · rw [if_neg (fun z => by rcases z with z | z; exact h12 z; exact h18 z)] at hQ
        refine g_iload_n d_Mo_rank_23 rfl 0 rfl ?_
        refine g_bipush (v := 13) d_Mo_rank_24 rfl ?_
        refine g_icmp_lt (tgt := 37) d_Mo_rank_26 (by decide) (fun h26 => ?_) (fun h26 => ?_)
        · rw [if_neg (fun z => z.1 h26)] at hQ
          refine g_iload_n d_Mo_rank_37 rfl 0 rfl ?_
          refine g_bipush (v := 19) d_Mo_rank_38 rfl ?_
          refine g_icmp_ne (tgt := 47) d_Mo_rank_40 (by decide) (fun h40 => ?_) (fun h40 => ?_)
          · rw [if_neg h40] at hQ
            refine g_iload_n d_Mo_rank_47 rfl 0 rfl ?_
            refine g_bipush (v := 20) d_Mo_rank_48 rfl ?_
            refine g_icmp_ne (tgt := 57) d_Mo_rank_50 (by decide) (fun h50 => ?_) (fun h50 => ?_)
            · rw [if_neg h50] at hQ
              refine g_iload_n d_Mo_rank_57 rfl 0 rfl ?_
              refine g_bipush (v := 21) d_Mo_rank_58 rfl ?_
              refine g_icmp_ne (tgt := 67) d_Mo_rank_60 (by decide) (fun h60 => ?_) (fun h60 => ?_)
              · rw [if_neg h60] at hQ
                refine g_iconst (v := 0) d_Mo_rank_67 rfl ?_
                refine g_iret d_Mo_rank_68 ?_
                exact hQ
              · rw [if_pos h60] at hQ
                refine g_iconst (v := 1) d_Mo_rank_63 rfl ?_
                refine g_goto (tgt := 68) d_Mo_rank_64 (by decide) ?_
                refine g_iret d_Mo_rank_68 ?_
                exact hQ
            · rw [if_pos h50] at hQ
              refine g_iconst (v := 2) d_Mo_rank_53 rfl ?_
              refine g_goto (tgt := 68) d_Mo_rank_54 (by decide) ?_
              refine g_iret d_Mo_rank_68 ?_
              exact hQ
          · rw [if_pos h40] at hQ
            refine g_iconst (v := 3) d_Mo_rank_43 rfl ?_
            refine g_goto (tgt := 68) d_Mo_rank_44 (by decide) ?_
            refine g_iret d_Mo_rank_68 ?_
            exact hQ
        · refine g_iload_n d_Mo_rank_29 rfl 0 rfl ?_
          refine g_bipush (v := 18) d_Mo_rank_30 rfl ?_
          refine g_icmp_gt (tgt := 37) d_Mo_rank_32 (by decide) (fun h32 => ?_) (fun h32 => ?_)
          · rw [if_neg (fun z => z.2 h32)] at hQ
            refine g_iload_n d_Mo_rank_37 rfl 0 rfl ?_
            refine g_bipush (v := 19) d_Mo_rank_38 rfl ?_
            refine g_icmp_ne (tgt := 47) d_Mo_rank_40 (by decide) (fun h40 => ?_) (fun h40 => ?_)
            · rw [if_neg h40] at hQ
              refine g_iload_n d_Mo_rank_47 rfl 0 rfl ?_
              refine g_bipush (v := 20) d_Mo_rank_48 rfl ?_
              refine g_icmp_ne (tgt := 57) d_Mo_rank_50 (by decide) (fun h50 => ?_) (fun h50 => ?_)
              · rw [if_neg h50] at hQ
                refine g_iload_n d_Mo_rank_57 rfl 0 rfl ?_
                refine g_bipush (v := 21) d_Mo_rank_58 rfl ?_
                refine g_icmp_ne (tgt := 67) d_Mo_rank_60 (by decide) (fun h60 => ?_) (fun h60 => ?_)
                · rw [if_neg h60] at hQ
                  refine g_iconst (v := 0) d_Mo_rank_67 rfl ?_
                  refine g_iret d_Mo_rank_68 ?_
                  exact hQ
                · rw [if_pos h60] at hQ
                  refine g_iconst (v := 1) d_Mo_rank_63 rfl ?_
                  refine g_goto (tgt := 68) d_Mo_rank_64 (by decide) ?_
                  refine g_iret d_Mo_rank_68 ?_
                  exact hQ
              · rw [if_pos h50] at hQ
                refine g_iconst (v := 2) d_Mo_rank_53 rfl ?_
                refine g_goto (tgt := 68) d_Mo_rank_54 (by decide) ?_
                refine g_iret d_Mo_rank_68 ?_
                exact hQ
            · rw [if_pos h40] at hQ
              refine g_iconst (v := 3) d_Mo_rank_43 rfl ?_
              refine g_goto (tgt := 68) d_Mo_rank_44 (by decide) ?_
              refine g_iret d_Mo_rank_68 ?_
              exact hQ
          · rw [if_pos ⟨h26, h32⟩] at hQ
            refine g_iconst (v := 4) d_Mo_rank_35 rfl ?_
            refine g_iret d_Mo_rank_36 ?_
            exact hQ
      · rw [if_pos (Or.inr h18)] at hQ
        refine g_iconst (v := 5) d_Mo_rank_21 rfl ?_
        refine g_iret d_Mo_rank_22 ?_
        exact hQ
  · rw [mrk, if_pos h3] at hQ
    refine g_bipush (v := 6) d_Mo_rank_6 rfl ?_
    refine g_iret d_Mo_rank_8 ?_
    exact hQ

set_option maxHeartbeats 4000000 in
set_option maxRecDepth 100000 in
theorem C_Mo_next {w : zC} {Z : zZ} {Q : zR → zZ → Prop} {ad : Nat → Nat} {S : ST} (hR : Rep w ad S Z) (hL : ciLive S) (hQ : ∀ Z', Rep w ad (wI (thS S 0) 600 (va_up (sI (thS S 0) 600) 25 (sI S 600 25 + 1))) Z' → Z'.2.2 = Z.2.2 → Q (.inl (some (.int (sI S 600 25 + 1)))) Z') : Cz w (0, 0) y_Mo_next (Cond.code y_Mo_next c_Mo_next 1 r_Mo_next :: wz) [.ref (ad 600)] Z Q := by
  refine Cz.of (by decide +kernel) (by simp [lg_sl, Value.category]) ?_
  show G _ _ _ _ _ _ _ _ [(0, _)] _ _
  have hm : zhs Z (ad 600) (.inr (10, [.int (sI S 600 0), .ref (ad 701), .int (nI (sN S 20)), .int (nI (sN S 21)), .int (nI (sN S 22)), .ref (ad 705), .ref (ad 706), .ref (ad 707), .ref (ad 708), .ref (ad 709), .ref (ad 710), .ref (ad 711), .int (nI (sN S 23)), .ref (ad 713), .ref (ad 714), .ref (ad 715), .ref (ad 716), .int (nI (sN S 24)), .int (nI (sN S 25)), .ref (ad 719), .ref (ad 720), .ref (ad 721), .ref (ad 722), .ref (ad 723), .ref (ad 724), .int (sI S 600 25), .ref (ad 726), .ref (ad 727), .ref (ad 728), .int (sI S 600 29), .int (nI (sN S 26)), .ref (ad 731), .ref (ad 732), .int (nI (sN S 27)), .int (nI (sN S 28)), .int (nI (sN S 29)), .int (nI (sN S 30)), .ref (ad 737), .int (nI (sN S 31)), .int (nI (sN S 32)), .int (sI S 600 40), .ref (ad 741)])) := hR.m
  have J : ∀ i j, mL i → mL j → i ≠ j → ad i ≠ ad j := fun i j hi hj hne => hR.inj (lvL hi) (lvL hj) hne
  obtain ⟨Z0, hZ0⟩ : ∃ Z0, Z0 = Z := ⟨_, rfl⟩
  have hB : Z.2.2 = Z0.2.2 := by rw [hZ0]
  refine g_aload_nq d_Mo_next_0 rfl 0 rfl ?_
  refine g_iconst (v := 0) d_Mo_next_1 rfl ?_
  refine g_put d_Mo_next_2 w_Mo_91_Mo (by assumption) (by first | rfl | exact zb_nar _) (by first | rfl | exact zb_fit _ | exact zrf_fit _) (by first | exact Nat.le_of_ble_eq_true rfl | omega) ?_
  refine gen_putI (P := fun z => G w y_Mo_next c_Mo_next 1 r_Mo_next (0, 0) Q _ _ _ z) hR (i := 600) lv6 c6_0 (fun Z1 e1 hR => ?_)
  have hm := zhs_put_same' e1 hm
  simp only [List.set] at hm
  have hB : Z1.2.2 = Z0.2.2 := by rw [← e1]; exact hB
  refine g_aload_nq d_Mo_next_5 rfl 0 rfl ?_
  refine g_dup d_Mo_next_6 rfl ?_
  refine g_get d_Mo_next_7 f_Mo_66_Mo (by assumption) (by first | rfl | assumption) ?_
  refine g_iconst (v := 1) d_Mo_next_10 rfl ?_
  refine g_iadd d_Mo_next_11 ?_
  refine g_put d_Mo_next_12 w_Mo_66_Mo (by assumption) (by first | rfl | exact zb_nar _) (by first | rfl | exact zb_fit _ | exact zrf_fit _) (by first | exact Nat.le_of_ble_eq_true rfl | omega) ?_
  refine gen_putI (P := fun z => G w y_Mo_next c_Mo_next 1 r_Mo_next (0, 0) Q _ _ _ z) hR (i := 600) lv6 c6_25 (fun Z1 e1 hR => ?_)
  have hm := zhs_put_same' e1 hm
  simp only [List.set] at hm
  have hB : Z1.2.2 = Z0.2.2 := by rw [← e1]; exact hB
  refine g_aload_nq d_Mo_next_15 rfl 0 rfl ?_
  refine g_get d_Mo_next_16 f_Mo_66_Mo (by assumption) (by first | rfl | assumption) ?_
  refine g_iret d_Mo_next_19 ?_
  exact hQ _ hR (by rw [hB, hZ0])

set_option maxHeartbeats 4000000 in
set_option maxRecDepth 100000 in
theorem C_Mo_unit {w : zC} {Z : zZ} {Q : zR → zZ → Prop} {ad : Nat → Nat} {S : ST} (hR : Rep w ad S Z) (hL : ciLive S) {x : Int32} (h160 : sN S 24 ≤ 160) (hQ : if ltr x ∧ sN S 24 < 160 then (∀ Z', Rep w ad (wN (wI (thS S 0) 716 (upd (sI S 716) (sN S 24) x)) 24 (sN S 24 + 1)) Z' → Z'.2.2 = Z.2.2 → Q (.inl (some (.int 1))) Z') else ∀ Z', Rep w ad (thS S 0) Z' → Z'.2.2 = Z.2.2 → Q (.inl (some (.int 0))) Z') : Cz w (0, 0) y_Mo_unit (Cond.code y_Mo_unit c_Mo_unit 2 r_Mo_unit :: wz) [.ref (ad 600), .int x] Z Q := by
  refine Cz.of (by decide +kernel) (by simp [lg_sl, Value.category]) ?_
  show G _ _ _ _ _ _ _ _ [(0, _), (1, _)] _ _
  have hm : zhs Z (ad 600) (.inr (10, [.int (sI S 600 0), .ref (ad 701), .int (nI (sN S 20)), .int (nI (sN S 21)), .int (nI (sN S 22)), .ref (ad 705), .ref (ad 706), .ref (ad 707), .ref (ad 708), .ref (ad 709), .ref (ad 710), .ref (ad 711), .int (nI (sN S 23)), .ref (ad 713), .ref (ad 714), .ref (ad 715), .ref (ad 716), .int (nI (sN S 24)), .int (nI (sN S 25)), .ref (ad 719), .ref (ad 720), .ref (ad 721), .ref (ad 722), .ref (ad 723), .ref (ad 724), .int (sI S 600 25), .ref (ad 726), .ref (ad 727), .ref (ad 728), .int (sI S 600 29), .int (nI (sN S 26)), .ref (ad 731), .ref (ad 732), .int (nI (sN S 27)), .int (nI (sN S 28)), .int (nI (sN S 29)), .int (nI (sN S 30)), .ref (ad 737), .int (nI (sN S 31)), .int (nI (sN S 32)), .int (sI S 600 40), .ref (ad 741)])) := hR.m
  have m716 : zhs Z (ad 716) (xi w 160 (sI S 716)) := hR.ma 716 (by decide)
  have J : ∀ i j, mL i → mL j → i ≠ j → ad i ≠ ad j := fun i j hi hj hne => hR.inj (lvL hi) (lvL hj) hne
  obtain ⟨Z0, hZ0⟩ : ∃ Z0, Z0 = Z := ⟨_, rfl⟩
  have hB : Z.2.2 = Z0.2.2 := by rw [hZ0]
  refine g_aload_nq d_Mo_unit_0 rfl 0 rfl ?_
  refine g_iconst (v := 0) d_Mo_unit_1 rfl ?_
  refine g_put d_Mo_unit_2 w_Mo_91_Mo (by assumption) (by first | rfl | exact zb_nar _) (by first | rfl | exact zb_fit _ | exact zrf_fit _) (by first | exact Nat.le_of_ble_eq_true rfl | omega) ?_
  refine gen_putI (P := fun z => G w y_Mo_unit c_Mo_unit 2 r_Mo_unit (0, 0) Q _ _ _ z) hR (i := 600) lv6 c6_0 (fun Z1 e1 hR => ?_)
  have m716 := zhs_put_ne' e1 m716 (J 716 600 (by decide) (by decide) (by decide))
  have hm := zhs_put_same' e1 hm
  simp only [List.set] at hm
  have hB : Z1.2.2 = Z0.2.2 := by rw [← e1]; exact hB
  refine g_iload_n d_Mo_unit_5 rfl 1 rfl ?_
  refine g_bipush (v := 32) d_Mo_unit_6 rfl ?_
  refine g_icmp_lt (tgt := 27) d_Mo_unit_8 (by decide) (fun h8 => ?_) (fun h8 => ?_)
  · rw [if_neg (fun z : ltr x ∧ sN S 24 < 160 => z.1.1 h8)] at hQ
    refine g_iconst (v := 0) d_Mo_unit_27 rfl ?_
    refine g_zret d_Mo_unit_28 ?_ ?_
    · first | rfl | exact zb_nar _ | exact zb_narc (by assumption)
    · exact hQ _ hR (by rw [hB, hZ0])
  · refine g_iload_n d_Mo_unit_11 rfl 1 rfl ?_
    refine g_bipush (v := 126) d_Mo_unit_12 rfl ?_
    refine g_icmp_gt (tgt := 27) d_Mo_unit_14 (by decide) (fun h14 => ?_) (fun h14 => ?_)
    · rw [if_neg (fun z : ltr x ∧ sN S 24 < 160 => z.1.2 h14)] at hQ
      refine g_iconst (v := 0) d_Mo_unit_27 rfl ?_
      refine g_zret d_Mo_unit_28 ?_ ?_
      · first | rfl | exact zb_nar _ | exact zb_narc (by assumption)
      · exact hQ _ hR (by rw [hB, hZ0])
    · refine g_aload_nq d_Mo_unit_17 rfl 0 rfl ?_
      refine g_get d_Mo_unit_18 f_Mo_119_Mo (by assumption) (by first | rfl | assumption) ?_
      refine g_sipush (v := 160) d_Mo_unit_21 rfl ?_
      refine g_icmp_ne (tgt := 29) d_Mo_unit_24 (by decide) (fun h24 => ?_) (fun h24 => ?_)
      · have hlt : sN S 24 < 160 := Nat.lt_of_le_of_ne h160 (fun z => h24 (by rw [z]; rfl))
        rw [if_pos (show ltr x ∧ sN S 24 < 160 from ⟨⟨h8, h14⟩, hlt⟩)] at hQ
        refine g_aload_nq d_Mo_unit_29 rfl 0 rfl ?_
        refine g_get d_Mo_unit_30 f_Mo_44_Mo (by assumption) (by first | rfl | assumption) ?_
        refine g_aload_nq d_Mo_unit_33 rfl 0 rfl ?_
        refine g_get d_Mo_unit_34 f_Mo_119_Mo (by assumption) (by first | rfl | assumption) ?_
        refine g_iload_n d_Mo_unit_37 rfl 1 rfl ?_
        refine g_iast d_Mo_unit_38 (by assumption) (vp_in_nI (by omega) (by decide)) ?_
        rw [nI_clamp (by omega)]
        refine gen_putI (P := fun z => G w y_Mo_unit c_Mo_unit 2 r_Mo_unit (0, 0) Q _ _ _ z) hR (i := 716) (lvM (by decide)) cM_716 (fun Z1 e1 hR => ?_)
        have hm := zhs_put_ne' e1 hm (J 600 716 (by decide) (by decide) (by decide))
        have m716 := zhs_put_same' e1 m716
        have hB : Z1.2.2 = Z0.2.2 := by rw [← e1]; exact hB
        refine g_aload_nq d_Mo_unit_39 rfl 0 rfl ?_
        refine g_dup d_Mo_unit_40 rfl ?_
        refine g_get d_Mo_unit_41 f_Mo_119_Mo (by assumption) (by first | rfl | assumption) ?_
        refine g_iconst (v := 1) d_Mo_unit_44 rfl ?_
        refine g_iadd d_Mo_unit_45 ?_
        rw [show (1 : Int32) = nI 1 from rfl, nI_add]
        refine g_put d_Mo_unit_46 w_Mo_119_Mo (by assumption) (by first | rfl | exact zb_nar _) (by first | rfl | exact zb_fit _ | exact zrf_fit _) (by first | exact Nat.le_of_ble_eq_true rfl | omega) ?_
        refine gen_putN (P := fun z => G w y_Mo_unit c_Mo_unit 2 r_Mo_unit (0, 0) Q _ _ _ z) hR hL (n := 24) (by decide) c6N_24 (fun Z1 e1 hR hL => ?_)
        have m716 := zhs_put_ne' e1 m716 (J 716 600 (by decide) (by decide) (by decide))
        have hm := zhs_put_same' e1 hm
        simp only [List.set] at hm
        have hB : Z1.2.2 = Z0.2.2 := by rw [← e1]; exact hB
        refine g_iconst (v := 1) d_Mo_unit_49 rfl ?_
        refine g_zret d_Mo_unit_50 ?_ ?_
        · first | rfl | exact zb_nar _ | exact zb_narc (by assumption)
        · exact hQ _ hR (by rw [hB, hZ0])
      · rw [if_neg (fun z : ltr x ∧ sN S 24 < 160 => by have h9 := (nI_eq (b := 160) (by omega) (by decide)).mp h24; omega)] at hQ
        refine g_iconst (v := 0) d_Mo_unit_27 rfl ?_
        refine g_zret d_Mo_unit_28 ?_ ?_
        · first | rfl | exact zb_nar _ | exact zb_narc (by assumption)
        · exact hQ _ hR (by rw [hB, hZ0])
