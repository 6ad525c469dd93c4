/-! Counting pins over Rep; Pin.moveTo -/
def cntN (S : ST) (n d : Nat) (m : Int32) : ST := wI (wI S (221 + 2 * n) (upd (sI S (221 + 2 * n)) d (sI S (221 + 2 * n) d + m))) (220 + 2 * n) (va_up (sI S (220 + 2 * n)) 3 (sI S (220 + 2 * n) 3 + m))
def cntP (S : ST) (k d : Nat) (m : Int32) : ST := wI (wI S (101 + 3 * k) (upd (sI S (101 + 3 * k)) d (sI S (101 + 3 * k) d + m))) (100 + 3 * k) (va_up (sI S (100 + 3 * k)) 3 (sI S (100 + 3 * k) 3 + m))
def cntO (S : ST) (o : Option Nat) (d : Nat) (m : Int32) : ST := match o with
  | none => S
  | some n => cntN S n d m
set_option maxHeartbeats 4000000 in
set_option maxRecDepth 100000 in
theorem A_cntN {w : zC} {Z : zZ} {Q : zR → zZ → Prop} {ad : Nat → Nat} {S : ST} (hR : Rep w ad S Z) {n d : Nat} {m : Int32} (hn : n < sN S 1) (hd : d < 10) (hQ : ∀ Z', Rep w ad (cntN S n d m) Z' → (∀ b e, b ≠ ad (220 + 2 * n) → b ≠ ad (221 + 2 * n) → zhs Z b e → zhs Z' b e) → Z'.2.2 = Z.2.2 → Q (.inl none) Z') : Cz w (1, 21) y_Ph_countPins (Cond.code y_Ph_countPins c_Ph_countPins 3 r_Ph_countPins :: wz) [.ref (ad (220 + 2 * n)), .int (nI d), .int m] Z Q := by
  have n0 := hR.1.1
  have n1 := hR.1.2.1
  obtain ⟨h0, h1⟩ := hR.net hn
  refine C_Ph_countPins (by simp [phk]) h0 rfl h1 hd rfl (by simp) ?_
  have l0 : liveS S (220 + 2 * n) := by simp only [liveS]; omega
  have l1 : liveS S (221 + 2 * n) := by simp only [liveS]; omega
  have hR1 := hR.putI (i := 221 + 2 * n) (f := upd (sI S (221 + 2 * n)) d (sI S (221 + 2 * n) d + m)) (e := xi w 10 (upd (sI S (221 + 2 * n)) d (sI S (221 + 2 * n) d + m))) l1 (by rw [cell_netC (by omega)]; exact congrArg (xi w 10) (va_up_self S.1 (221 + 2 * n) _))
  have hR2 := hR1.putI (i := 220 + 2 * n) (f := va_up (sI S (220 + 2 * n)) 3 (sI S (220 + 2 * n) 3 + m)) l0 rfl
  have hcell : cellOf w ad (cntN S n d m) (220 + 2 * n) = .inr (7, [.int (sI S (220 + 2 * n) 0), .int ((sI S (220 + 2 * n) 0 * 3 + 1) * 160 + nI n), .ref (ad (221 + 2 * n)), .int (sI S (220 + 2 * n) 3 + m), .int (sI S (220 + 2 * n) 4), .int (sI S (220 + 2 * n) 5)]) := by
    rw [cell_net (by omega)]
    simp only [cntN, pNet, sI, wI, va_up_self]
    rfl
  refine hQ _ ?_ (fun b e hb0 hb1 hz => zhs_put_ne (zhs_put_ne hz hb1) hb0) rfl
  have hR3 : Rep w ad (cntN S n d m) (zput (zput Z (ad (221 + 2 * n)) (xi w 10 (upd (sI S (221 + 2 * n)) d (sI S (221 + 2 * n) d + m)))) (ad (220 + 2 * n)) (cellOf w ad (cntN S n d m) (220 + 2 * n))) := hR2
  rw [hcell] at hR3
  exact hR3

set_option maxHeartbeats 4000000 in
set_option maxRecDepth 100000 in
theorem A_cntP {w : zC} {Z : zZ} {Q : zR → zZ → Prop} {ad : Nat → Nat} {S : ST} (hR : Rep w ad S Z) {n d : Nat} {m : Int32} (hn : n < sN S 0) (hd : d < 10) (hQ : ∀ Z', Rep w ad (cntP S n d m) Z' → (∀ b e, b ≠ ad (100 + 3 * n) → b ≠ ad (101 + 3 * n) → zhs Z b e → zhs Z' b e) → Z'.2.2 = Z.2.2 → Q (.inl none) Z') : Cz w (1, 21) y_Ph_countPins (Cond.code y_Ph_countPins c_Ph_countPins 3 r_Ph_countPins :: wz) [.ref (ad (100 + 3 * n)), .int (nI d), .int m] Z Q := by
  have n0 := hR.1.1
  have n1 := hR.1.2.1
  obtain ⟨h0, h1⟩ := (show _ ∧ _ from ⟨(hR.part hn).1, (hR.part hn).2.1⟩)
  refine C_Ph_countPins (by simp [phk]) h0 rfl h1 hd rfl (by simp) ?_
  have l0 : liveS S (100 + 3 * n) := by simp only [liveS]; omega
  have l1 : liveS S (101 + 3 * n) := by simp only [liveS]; omega
  have hR1 := hR.putI (i := 101 + 3 * n) (f := upd (sI S (101 + 3 * n)) d (sI S (101 + 3 * n) d + m)) (e := xi w 10 (upd (sI S (101 + 3 * n)) d (sI S (101 + 3 * n) d + m))) l1 (by rw [cell_partC (by omega)]; exact congrArg (xi w 10) (va_up_self S.1 (101 + 3 * n) _))
  have hR2 := hR1.putI (i := 100 + 3 * n) (f := va_up (sI S (100 + 3 * n)) 3 (sI S (100 + 3 * n) 3 + m)) l0 rfl
  have hcell : cellOf w ad (cntP S n d m) (100 + 3 * n) = .inr (6, [.int (sI S (100 + 3 * n) 0), .int ((sI S (100 + 3 * n) 0 * 3 + 0) * 160 + nI n), .ref (ad (101 + 3 * n)), .int (sI S (100 + 3 * n) 3 + m), .ref (ad (102 + 3 * n))]) := by
    rw [cell_part (by omega)]
    simp only [cntP, pPart, sI, wI, va_up_self]
    rfl
  refine hQ _ ?_ (fun b e hb0 hb1 hz => zhs_put_ne (zhs_put_ne hz hb1) hb0) rfl
  have hR3 : Rep w ad (cntP S n d m) (zput (zput Z (ad (101 + 3 * n)) (xi w 10 (upd (sI S (101 + 3 * n)) d (sI S (101 + 3 * n) d + m)))) (ad (100 + 3 * n)) (cellOf w ad (cntP S n d m) (100 + 3 * n))) := hR2
  rw [hcell] at hR3
  exact hR3
