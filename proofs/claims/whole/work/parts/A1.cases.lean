/-! the law, its other cases -/
theorem La_join_w {w : zC} {Post : zR → zZ → Prop} {Z : zZ} {b L n : Nat} {xs : Nat → Int32} {adK adV : Nat → Nat} {ad : Nat → Nat} {S : ST} {k : Nat} (hs : zScr w b L xs) (hK : zLit w adK adV) (hT : zThr w) (hn : 6 * n + 6 ≤ L) (hL : L ≤ 3072) (hR : Rep w ad S Z) (hS : Sim n S) (hb : bAll S Z (3 * (k + 1)) (164 * (k + 1))) (kont : ∀ ad' S' Z', Rep w ad' S' Z' → Sim (n + 1) S' → bAll S' Z' (3 * k) (164 * k) → (ad' 57 = ad 57 ∧ ad' 600 = ad 600 ∧ ad' 0 = ad 0) → G w x code 7 ret (14, 510) Post 1217 [(4, .int (nI (6 * n))), (3, .ref (ad 57)), (2, .ref (ad 600)), (1, .ref (ad 0)), (0, .ref b)] [] Z') : G w x code 7 ret (14, 510) Post 415 [(4, .int (nI (6 * n))), (3, .ref (ad 57)), (2, .ref (ad 600)), (1, .ref (ad 0)), (0, .ref b)] [] Z := by
  have c21 : sN S 21 = sN S 1 := hS.1.1.1.2.1
  have c22 : sN S 22 = sN S 2 := hS.1.1.1.2.2.1
  have hb40 := hS.1.1.2.1
  unfold bdS at hb40
  refine g_aload_nq d_La_law_415 rfl 3 rfl ?_
  refine g_aload_nq d_La_law_416 rfl 4 rfl ?_
  refine g_iload d_La_law_417 0 rfl ?_
  refine g_iconst (v := nI 1) d_La_law_419 rfl ?_
  refine g_scr hs hn hL (by decide) d_La_law_420 d_La_law_421 ?_
  refine g_aload_nq d_La_law_422 rfl 4 rfl ?_
  refine g_iload d_La_law_423 0 rfl ?_
  refine g_iconst (v := nI 2) d_La_law_425 rfl ?_
  refine g_scr hs hn hL (by decide) d_La_law_426 d_La_law_427 ?_
  refine g_aload_nq d_La_law_428 rfl 1 rfl ?_
  refine g_callSW d_La_law_429 kw_La_join l_La_85 s_La_join (by rfl) (by rfl) (Nat.le_of_ble_eq_true rfl) (by decide) (C_La_join hR hK hT hS.ci.2.1 (b16 hb) (fun c1 => ⟨_, rfl, ?_⟩) (fun k0 d hk0 hd e1 e2 hy => ?_))
  · refine g_istore d_La_law_432 (by decide) rfl ?_
    show G _ _ _ _ _ _ _ _ [(5, _), (4, _), (3, _), (2, _), (1, _), (0, _)] _ _
    refine g_aload_nq d_La_law_434 rfl 3 rfl ?_
    refine g_aload_nq d_La_law_435 rfl 5 rfl ?_
    refine g_iload d_La_law_436 1 rfl ?_
    refine g_iconst (v := nI 1) d_La_law_438 rfl ?_
    refine g_scr hs hn hL (by decide) d_La_law_439 d_La_law_440 ?_
    refine g_aload_nq d_La_law_441 rfl 5 rfl ?_
    refine g_iload d_La_law_442 1 rfl ?_
    refine g_iconst (v := nI 2) d_La_law_444 rfl ?_
    refine g_scr hs hn hL (by decide) d_La_law_445 d_La_law_446 ?_
    refine g_callV d_La_law_447 k_Mo_join l_La_87 i_Mo_join rfl q_Mo_Mo_join_Mo (Rep.m (Rep.pay hR)) (by rfl) (by rfl) (Nat.le_of_ble_eq_true rfl) (by decide) (C_Mo_join (x := xs (6 * n + 1)) (y := xs (6 * n + 2)) (Rep.pay hR) hS.live (by omega) (fun _ Z2 r2 b2 => ⟨_, rfl, ?_⟩) (fun k9 hk9 e9 hy9 => absurd ⟨by rw [e9]; exact inr_nI (by omega) (by omega), c21 ▸ hy9⟩ c1))
    exact Tl_join (c := False) r2 th0 (fun z => absurd z (by decide)) (kont ad (thS S 1) Z2 r2 (si_th hS).up (bA hb (fun _ _ _ => rfl) (zP b2).1 (zP b2).2) ⟨rfl, rfl, rfl⟩)
  · have hin : inr (xs (6 * n + 1)) (sN S 2) := e1 ▸ inr_nI hk0 (by omega)
    obtain ⟨ho, ey⟩ := netO_I hb40.2.1 hy
    have q3 := (hS.1.2.2.2.1 k0 hk0).2.2.1
    have ro : ∀ b, sR S (300 + k0) 4 = some b → b < sN S 1 := (hS.ci.2.1 k0 hk0).2.2
    have eo : sI S 710 k0 = xs (6 * n + 2) ↔ sR S (300 + k0) 4 = netO S (xs (6 * n + 2)) := by
      rw [q3, ey]
      have ee : netO S (oI (netO S (xs (6 * n + 2)))) = netO S (xs (6 * n + 2)) := by rw [← ey]
      rw [ee]
      generalize netO S (xs (6 * n + 2)) = o at *
      cases hr : sR S (300 + k0) 4 with
      | none =>
        cases o with
        | none => exact ⟨fun _ => rfl, fun _ => rfl⟩
        | some c => exact ⟨fun z => absurd z.symm (nI_m1 (by have := ho c rfl; omega)), fun z => (by cases z)⟩
      | some a =>
        cases o with
        | none => exact ⟨fun z => absurd z (nI_m1 (by have := ro a hr; omega)), fun z => (by cases z)⟩
        | some c =>
          show nI a = nI c ↔ _
          rw [nI_eq (by have := ro a hr; omega) (by have := ho c rfl; omega)]
          exact ⟨fun z => by rw [z], fun z => by cases z; rfl⟩
    split
    · rename_i he
      intro Z1 r1 b1
      refine ⟨_, rfl, ?_⟩
      refine g_istore d_La_law_432 (by decide) rfl ?_
      show G _ _ _ _ _ _ _ _ [(5, _), (4, _), (3, _), (2, _), (1, _), (0, _)] _ _
      refine g_aload_nq d_La_law_434 rfl 3 rfl ?_
      refine g_aload_nq d_La_law_435 rfl 5 rfl ?_
      refine g_iload d_La_law_436 1 rfl ?_
      refine g_iconst (v := nI 1) d_La_law_438 rfl ?_
      refine g_scr hs hn hL (by decide) d_La_law_439 d_La_law_440 ?_
      refine g_aload_nq d_La_law_441 rfl 5 rfl ?_
      refine g_iload d_La_law_442 1 rfl ?_
      refine g_iconst (v := nI 2) d_La_law_444 rfl ?_
      refine g_scr hs hn hL (by decide) d_La_law_445 d_La_law_446 ?_
      refine g_callV d_La_law_447 k_Mo_join l_La_87 i_Mo_join rfl q_Mo_Mo_join_Mo (Rep.m r1) (by rfl) (by rfl) (Nat.le_of_ble_eq_true rfl) (by decide) (C_Mo_join r1 (si_out hS).live (by show sN S 22 ≤ 160; omega) (fun c9 => absurd (by show inr (xs (6 * n + 1)) (sN S 22) ∧ (xs (6 * n + 2) = -1 ∨ inr (xs (6 * n + 2)) (sN S 21)); rw [c21, c22]; exact ⟨hin, hy⟩) c9) (fun k9 hk9 e9 hy9 => ?_))
      have hk9' : k9 < sN S 22 := hk9
      obtain rfl := nIe e1 e9 (by omega) (by omega)
      rw [if_pos (show sI (outS S 0) 710 k0 = xs (6 * n + 2) from eo.mpr he)]
      intro Z2 r2 b2
      refine ⟨_, rfl, ?_⟩
      exact Tl_join (c := False) r2 th0 (fun _ => out57) (kont ad _ Z2 r2 (si_th (si_out hS)).up (bA hb (fun _ _ _ => rfl) (zE (b2.trans b1)).1 (zE (b2.trans b1)).2) ⟨rfl, rfl, rfl⟩)
    · rename_i he
      intro Z1 r1 b1
      refine ⟨_, rfl, ?_⟩
      have si := si_join (v := 1) hS hk0 e2 hd ho he
      have jN : sN (outS (joinS S k0 d (netO S (xs (6 * n + 2)))) 1) = sN S := by
        show sN (cntO (cntO S (sR S (300 + k0) 4) d (-1)) (netO S (xs (6 * n + 2))) d 1) = _
        rw [cO_N.1, cO_N.1]
      have lv1 : ciLive (outS (joinS S k0 d (netO S (xs (6 * n + 2)))) 1) := si.live.same' rfl (fun _ _ => rfl)
      have o57 : sJ (outS (joinS S k0 d (netO S (xs (6 * n + 2)))) 1) 57 0 = 1 := out57
      have i710 : sI (outS (joinS S k0 d (netO S (xs (6 * n + 2)))) 1) 710 = sI S 710 := by
        show sI (cntO (cntO S (sR S (300 + k0) 4) d (-1)) (netO S (xs (6 * n + 2))) d 1) 710 = _
        rw [cO_I (fun b hb => by have := ho b hb; omega), cO_I (fun b hb => by have := ro b hb; omega)]
      rw [← ey] at si
      generalize outS (joinS S k0 d (netO S (xs (6 * n + 2)))) 1 = T at *
      refine g_istore d_La_law_432 (by decide) rfl ?_
      show G _ _ _ _ _ _ _ _ [(5, _), (4, _), (3, _), (2, _), (1, _), (0, _)] _ _
      refine g_aload_nq d_La_law_434 rfl 3 rfl ?_
      refine g_aload_nq d_La_law_435 rfl 5 rfl ?_
      refine g_iload d_La_law_436 1 rfl ?_
      refine g_iconst (v := nI 1) d_La_law_438 rfl ?_
      refine g_scr hs hn hL (by decide) d_La_law_439 d_La_law_440 ?_
      refine g_aload_nq d_La_law_441 rfl 5 rfl ?_
      refine g_iload d_La_law_442 1 rfl ?_
      refine g_iconst (v := nI 2) d_La_law_444 rfl ?_
      refine g_scr hs hn hL (by decide) d_La_law_445 d_La_law_446 ?_
      refine g_callV d_La_law_447 k_Mo_join l_La_87 i_Mo_join rfl q_Mo_Mo_join_Mo (Rep.m r1) (by rfl) (by rfl) (Nat.le_of_ble_eq_true rfl) (by decide) (C_Mo_join r1 lv1 (by rw [jN]; omega) (fun c9 => absurd (by rw [jN, c21, c22]; exact ⟨hin, hy⟩) c9) (fun k9 hk9 e9 hy9 => ?_))
      rw [jN] at hk9
      obtain rfl := nIe e1 e9 (by omega) (by omega)
      rw [if_neg (show ¬ sI T 710 k0 = xs (6 * n + 2) by rw [i710]; exact fun z => he (eo.mp z))]
      intro Z2 r2 b2
      refine ⟨_, rfl, ?_⟩
      exact Tl_join (c := True) r2 (by rw [wIo (by decide), th0]) (fun _ => o57) (kont ad _ Z2 r2 si.up (bA hb (fun m _ _ => congrFun jN m) (zE (b2.trans b1)).1 (zE (b2.trans b1)).2) ⟨rfl, rfl, rfl⟩)
theorem La_field_w {w : zC} {Post : zR → zZ → Prop} {Z : zZ} {b L n : Nat} {xs : Nat → Int32} {adK adV : Nat → Nat} {ad : Nat → Nat} {S : ST} {k : Nat} (hs : zScr w b L xs) (hK : zLit w adK adV) (hT : zThr w) (hn : 6 * n + 6 ≤ L) (hL : L ≤ 3072) (hR : Rep w ad S Z) (hS : Sim n S) (hb : bAll S Z (3 * (k + 1)) (164 * (k + 1))) (kont : ∀ ad' S' Z', Rep w ad' S' Z' → Sim (n + 1) S' → bAll S' Z' (3 * k) (164 * k) → (ad' 57 = ad 57 ∧ ad' 600 = ad 600 ∧ ad' 0 = ad 0) → G w x code 7 ret (14, 510) Post 1217 [(4, .int (nI (6 * n))), (3, .ref (ad 57)), (2, .ref (ad 600)), (1, .ref (ad 0)), (0, .ref b)] [] Z') : G w x code 7 ret (14, 510) Post 490 [(4, .int (nI (6 * n))), (3, .ref (ad 57)), (2, .ref (ad 600)), (1, .ref (ad 0)), (0, .ref b)] [] Z := by
  have c20 : sN S 20 = sN S 0 := hS.1.1.1.1
  have hb40 := hS.1.1.2.1
  unfold bdS at hb40
  refine g_aload_nq d_La_law_490 rfl 3 rfl ?_
  refine g_aload_nq d_La_law_491 rfl 4 rfl ?_
  refine g_iload d_La_law_492 0 rfl ?_
  refine g_iconst (v := nI 1) d_La_law_494 rfl ?_
  refine g_scr hs hn hL (by decide) d_La_law_495 d_La_law_496 ?_
  refine g_aload_nq d_La_law_497 rfl 4 rfl ?_
  refine g_iload d_La_law_498 0 rfl ?_
  refine g_iconst (v := nI 2) d_La_law_500 rfl ?_
  refine g_scr hs hn hL (by decide) d_La_law_501 d_La_law_502 ?_
  refine g_aload_nq d_La_law_503 rfl 4 rfl ?_
  refine g_iload d_La_law_504 0 rfl ?_
  refine g_iconst (v := nI 3) d_La_law_506 rfl ?_
  refine g_scr hs hn hL (by decide) d_La_law_507 d_La_law_508 ?_
  refine g_i2l d_La_law_509 rfl ?_
  refine g_bipush (v := 32) d_La_law_510 rfl ?_
  refine g_lshl d_La_law_512 rfl ?_
  refine g_aload_nq d_La_law_513 rfl 4 rfl ?_
  refine g_iload d_La_law_514 0 rfl ?_
  refine g_iconst (v := nI 4) d_La_law_516 rfl ?_
  refine g_scr hs hn hL (by decide) d_La_law_517 d_La_law_518 ?_
  refine g_i2l d_La_law_519 rfl ?_
  refine g_ldc2 v_La_88 d_La_law_520 ?_
  refine g_land d_La_law_523 ?_
  refine g_lor d_La_law_524 ?_
  show G _ _ _ _ _ _ _ _ _ (.long (scl xs (6 * n + 3)) :: _) _
  refine g_aload_nq d_La_law_525 rfl 1 rfl ?_
  refine g_callSW d_La_law_526 kw_La_field l_La_90 s_La_field (by rfl) (by rfl) (Nat.le_of_ble_eq_true rfl) (by decide) (C_La_field hR hK hT (b16 hb) (fun c1 => ⟨_, rfl, ?_⟩) (fun k0 j hk0 hj e1 e2 Z1 r1 b1 => ⟨_, rfl, ?_⟩))
  · refine g_istore d_La_law_529 (by decide) rfl ?_
    show G _ _ _ _ _ _ _ _ [(5, _), (4, _), (3, _), (2, _), (1, _), (0, _)] _ _
    refine g_aload_nq d_La_law_531 rfl 3 rfl ?_
    refine g_aload_nq d_La_law_532 rfl 5 rfl ?_
    refine g_iload d_La_law_533 1 rfl ?_
    refine g_iconst (v := nI 1) d_La_law_535 rfl ?_
    refine g_scr hs hn hL (by decide) d_La_law_536 d_La_law_537 ?_
    refine g_aload_nq d_La_law_538 rfl 5 rfl ?_
    refine g_iload d_La_law_539 1 rfl ?_
    refine g_iconst (v := nI 2) d_La_law_541 rfl ?_
    refine g_scr hs hn hL (by decide) d_La_law_542 d_La_law_543 ?_
    refine g_aload_nq d_La_law_544 rfl 5 rfl ?_
    refine g_iload d_La_law_545 1 rfl ?_
    refine g_iconst (v := nI 3) d_La_law_547 rfl ?_
    refine g_scr hs hn hL (by decide) d_La_law_548 d_La_law_549 ?_
    refine g_i2l d_La_law_550 rfl ?_
    refine g_bipush (v := 32) d_La_law_551 rfl ?_
    refine g_lshl d_La_law_553 rfl ?_
    refine g_aload_nq d_La_law_554 rfl 5 rfl ?_
    refine g_iload d_La_law_555 1 rfl ?_
    refine g_iconst (v := nI 4) d_La_law_557 rfl ?_
    refine g_scr hs hn hL (by decide) d_La_law_558 d_La_law_559 ?_
    refine g_i2l d_La_law_560 rfl ?_
    refine g_ldc2 v_La_88 d_La_law_561 ?_
    refine g_land d_La_law_564 ?_
    refine g_lor d_La_law_565 ?_
    show G _ _ _ _ _ _ _ _ _ (.long (scl xs (6 * n + 3)) :: _) _
    refine g_callV d_La_law_566 k_Mo_field l_La_93 i_Mo_field rfl q_Mo_Mo_field_Mo (Rep.m (Rep.pay hR)) (by rfl) (by rfl) (Nat.le_of_ble_eq_true rfl) (by decide) (C_Mo_field (x := xs (6 * n + 1)) (y := xs (6 * n + 2)) (Rep.pay hR) hS.live (by omega) (fun _ Z2 r2 b2 => ⟨_, rfl, ?_⟩) (fun k9 j9 hk9 hj9 e9 e8 => absurd ⟨by rw [e9]; exact inr_nI (by omega) (by omega), by rw [e8]; exact inr_nI (by omega) (by omega)⟩ c1))
    exact Tl_field (c := False) r2 th0 (fun z => absurd z (by decide)) (kont ad (thS S 1) Z2 r2 (si_th hS).up (bA hb (fun _ _ _ => rfl) (zP b2).1 (zP b2).2) ⟨rfl, rfl, rfl⟩)
  · have hin : inr (xs (6 * n + 1)) (sN S 0) := e1 ▸ inr_nI hk0 (by omega)
    have hin2 : inr (xs (6 * n + 2)) 8 := e2 ▸ inr_nI hj (by omega)
    have lv1 : ciLive (outS (wJ S (102 + 3 * k0) (vp_updL (sJ S (102 + 3 * k0)) j (scl xs (6 * n + 3)))) (zl (¬ sJ S (102 + 3 * k0) j = scl xs (6 * n + 3)))) := hS.live.same' rfl (fun _ _ => rfl)
    refine g_istore d_La_law_529 (by decide) rfl ?_
    show G _ _ _ _ _ _ _ _ [(5, _), (4, _), (3, _), (2, _), (1, _), (0, _)] _ _
    refine g_aload_nq d_La_law_531 rfl 3 rfl ?_
    refine g_aload_nq d_La_law_532 rfl 5 rfl ?_
    refine g_iload d_La_law_533 1 rfl ?_
    refine g_iconst (v := nI 1) d_La_law_535 rfl ?_
    refine g_scr hs hn hL (by decide) d_La_law_536 d_La_law_537 ?_
    refine g_aload_nq d_La_law_538 rfl 5 rfl ?_
    refine g_iload d_La_law_539 1 rfl ?_
    refine g_iconst (v := nI 2) d_La_law_541 rfl ?_
    refine g_scr hs hn hL (by decide) d_La_law_542 d_La_law_543 ?_
    refine g_aload_nq d_La_law_544 rfl 5 rfl ?_
    refine g_iload d_La_law_545 1 rfl ?_
    refine g_iconst (v := nI 3) d_La_law_547 rfl ?_
    refine g_scr hs hn hL (by decide) d_La_law_548 d_La_law_549 ?_
    refine g_i2l d_La_law_550 rfl ?_
    refine g_bipush (v := 32) d_La_law_551 rfl ?_
    refine g_lshl d_La_law_553 rfl ?_
    refine g_aload_nq d_La_law_554 rfl 5 rfl ?_
    refine g_iload d_La_law_555 1 rfl ?_
    refine g_iconst (v := nI 4) d_La_law_557 rfl ?_
    refine g_scr hs hn hL (by decide) d_La_law_558 d_La_law_559 ?_
    refine g_i2l d_La_law_560 rfl ?_
    refine g_ldc2 v_La_88 d_La_law_561 ?_
    refine g_land d_La_law_564 ?_
    refine g_lor d_La_law_565 ?_
    show G _ _ _ _ _ _ _ _ _ (.long (scl xs (6 * n + 3)) :: _) _
    refine g_callV d_La_law_566 k_Mo_field l_La_93 i_Mo_field rfl q_Mo_Mo_field_Mo (Rep.m r1) (by rfl) (by rfl) (Nat.le_of_ble_eq_true rfl) (by decide) (C_Mo_field r1 lv1 (by show sN S 20 ≤ 40; omega) (fun c9 => absurd (by show inr (xs (6 * n + 1)) (sN S 20) ∧ inr (xs (6 * n + 2)) 8; rw [c20]; exact ⟨hin, hin2⟩) c9) (fun k9 j9 hk9 hj9 e9 e8 => ?_))
    have hk9' : k9 < sN S 20 := hk9
    obtain rfl := nIe e1 e9 (by omega) (by omega)
    obtain rfl := nIe e2 e8 (by omega) (by omega)
    have e706 : ∀ v u, sJ (outS (wJ S (102 + 3 * k0) (vp_updL (sJ S (102 + 3 * k0)) j v)) u) 706 (8 * k0 + j) = sJ S (102 + 3 * k0) j := fun v u => by
      rw [outJ (by decide), wJo (by omega)]
      exact (hS.1.2.1 k0 hk0).2 j hj
    have si := fun v u => si_field (n := n) (v := v) (u := u) hS hk0 hj
    split
    · rename_i he
      rw [e706] at he
      intro Z2 r2 b2
      refine ⟨_, rfl, ?_⟩
      have hsame : ∀ v, sJ S (102 + 3 * k0) j = v → wJ S (102 + 3 * k0) (vp_updL (sJ S (102 + 3 * k0)) j v) = S := fun v hv => by
        have : vp_updL (sJ S (102 + 3 * k0)) j v = sJ S (102 + 3 * k0) := by
          funext i
          unfold vp_updL
          by_cases z : i = j
          · rw [if_pos z, z, hv]
          · rw [if_neg z]
        rw [this]
        exact wJ_self
      exact Tl_field (c := False) r2 th0 (fun _ => out57.trans (if_neg (fun z => z he))) (kont ad _ Z2 r2 (by rw [hsame _ he]; exact (si_th (si_out hS)).up) (bA hb (fun _ _ _ => rfl) (zE (b2.trans b1)).1 (zE (b2.trans b1)).2) ⟨rfl, rfl, rfl⟩)
    · rename_i he
      rw [e706] at he
      intro Z2 r2 b2
      refine ⟨_, rfl, ?_⟩
      exact Tl_field (c := True) r2 (by rw [wJI, th0]) (fun _ => (by rw [wJo (by decide), thJ]; exact out57.trans (if_pos he))) (kont ad _ Z2 r2 (si _ _).up (bA hb (fun _ _ _ => rfl) (zE (b2.trans b1)).1 (zE (b2.trans b1)).2) ⟨rfl, rfl, rfl⟩)
theorem La_end_w {w : zC} {Post : zR → zZ → Prop} {Z : zZ} {b L n : Nat} {xs : Nat → Int32} {adK adV : Nat → Nat} {ad : Nat → Nat} {S : ST} {k : Nat} (hs : zScr w b L xs) (hK : zLit w adK adV) (hT : zThr w) (hn : 6 * n + 6 ≤ L) (hL : L ≤ 3072) (hR : Rep w ad S Z) (hS : Sim n S) (hb : bAll S Z (3 * (k + 1)) (164 * (k + 1))) (kont : ∀ ad' S' Z', Rep w ad' S' Z' → Sim (n + 1) S' → bAll S' Z' (3 * k) (164 * k) → (ad' 57 = ad 57 ∧ ad' 600 = ad 600 ∧ ad' 0 = ad 0) → G w x code 7 ret (14, 510) Post 1217 [(4, .int (nI (6 * n))), (3, .ref (ad 57)), (2, .ref (ad 600)), (1, .ref (ad 0)), (0, .ref b)] [] Z') : G w x code 7 ret (14, 510) Post 609 [(4, .int (nI (6 * n))), (3, .ref (ad 57)), (2, .ref (ad 600)), (1, .ref (ad 0)), (0, .ref b)] [] Z := by
  have c21 : sN S 21 = sN S 1 := hS.1.1.1.2.1
  have c23 : sN S 23 = sN S 7 := hS.1.1.1.2.2.2
  have h100 : sN S 7 ≤ 100 := hS.1.1.2.2
  have hb40 := hS.1.1.2.1
  unfold bdS at hb40
  refine g_aload_nq d_La_law_609 rfl 3 rfl ?_
  refine g_aload_nq d_La_law_610 rfl 4 rfl ?_
  refine g_iload d_La_law_611 0 rfl ?_
  refine g_iconst (v := nI 1) d_La_law_613 rfl ?_
  refine g_scr hs hn hL (by decide) d_La_law_614 d_La_law_615 ?_
  refine g_aload_nq d_La_law_616 rfl 4 rfl ?_
  refine g_iload d_La_law_617 0 rfl ?_
  refine g_iconst (v := nI 2) d_La_law_619 rfl ?_
  refine g_scr hs hn hL (by decide) d_La_law_620 d_La_law_621 ?_
  refine g_i2l d_La_law_622 rfl ?_
  refine g_bipush (v := 32) d_La_law_623 rfl ?_
  refine g_lshl d_La_law_625 rfl ?_
  refine g_aload_nq d_La_law_626 rfl 4 rfl ?_
  refine g_iload d_La_law_627 0 rfl ?_
  refine g_iconst (v := nI 3) d_La_law_629 rfl ?_
  refine g_scr hs hn hL (by decide) d_La_law_630 d_La_law_631 ?_
  refine g_i2l d_La_law_632 rfl ?_
  refine g_ldc2 v_La_88 d_La_law_633 ?_
  refine g_land d_La_law_636 ?_
  refine g_lor d_La_law_637 ?_
  show G _ _ _ _ _ _ _ _ _ (.long (scl xs (6 * n + 2)) :: _) _
  refine g_aload_nq d_La_law_638 rfl 4 rfl ?_
  refine g_iload d_La_law_639 0 rfl ?_
  refine g_iconst (v := nI 4) d_La_law_641 rfl ?_
  refine g_scr hs hn hL (by decide) d_La_law_642 d_La_law_643 ?_
  refine g_i2l d_La_law_644 rfl ?_
  refine g_bipush (v := 32) d_La_law_645 rfl ?_
  refine g_lshl d_La_law_647 rfl ?_
  refine g_aload_nq d_La_law_648 rfl 4 rfl ?_
  refine g_iload d_La_law_649 0 rfl ?_
  refine g_iconst (v := nI 5) d_La_law_651 rfl ?_
  refine g_scr hs hn hL (by decide) d_La_law_652 d_La_law_653 ?_
  refine g_i2l d_La_law_654 rfl ?_
  refine g_ldc2 v_La_88 d_La_law_655 ?_
  refine g_land d_La_law_658 ?_
  refine g_lor d_La_law_659 ?_
  show G _ _ _ _ _ _ _ _ _ (.long (scl xs (6 * n + 4)) :: _) _
  refine g_aload_nq d_La_law_660 rfl 1 rfl ?_
  refine g_callSW d_La_law_661 kw_La_end l_La_94 s_La_end (by rfl) (by rfl) (Nat.le_of_ble_eq_true rfl) (by decide) (C_La_end hR hK hT hS.live h100 (b16 hb) (fun c1 => ⟨_, rfl, ?_⟩) (fun k0 hk0 e1 => ?_))
  · refine g_istore d_La_law_664 (by decide) rfl ?_
    show G _ _ _ _ _ _ _ _ [(5, _), (4, _), (3, _), (2, _), (1, _), (0, _)] _ _
    refine g_aload_nq d_La_law_666 rfl 3 rfl ?_
    refine g_aload_nq d_La_law_667 rfl 5 rfl ?_
    refine g_iload d_La_law_668 1 rfl ?_
    refine g_iconst (v := nI 1) d_La_law_670 rfl ?_
    refine g_scr hs hn hL (by decide) d_La_law_671 d_La_law_672 ?_
    refine g_aload_nq d_La_law_673 rfl 5 rfl ?_
    refine g_iload d_La_law_674 1 rfl ?_
    refine g_iconst (v := nI 2) d_La_law_676 rfl ?_
    refine g_scr hs hn hL (by decide) d_La_law_677 d_La_law_678 ?_
    refine g_i2l d_La_law_679 rfl ?_
    refine g_bipush (v := 32) d_La_law_680 rfl ?_
    refine g_lshl d_La_law_682 rfl ?_
    refine g_aload_nq d_La_law_683 rfl 5 rfl ?_
    refine g_iload d_La_law_684 1 rfl ?_
    refine g_iconst (v := nI 3) d_La_law_686 rfl ?_
    refine g_scr hs hn hL (by decide) d_La_law_687 d_La_law_688 ?_
    refine g_i2l d_La_law_689 rfl ?_
    refine g_ldc2 v_La_88 d_La_law_690 ?_
    refine g_land d_La_law_693 ?_
    refine g_lor d_La_law_694 ?_
    show G _ _ _ _ _ _ _ _ _ (.long (scl xs (6 * n + 2)) :: _) _
    refine g_aload_nq d_La_law_695 rfl 5 rfl ?_
    refine g_iload d_La_law_696 1 rfl ?_
    refine g_iconst (v := nI 4) d_La_law_698 rfl ?_
    refine g_scr hs hn hL (by decide) d_La_law_699 d_La_law_700 ?_
    refine g_i2l d_La_law_701 rfl ?_
    refine g_bipush (v := 32) d_La_law_702 rfl ?_
    refine g_lshl d_La_law_704 rfl ?_
    refine g_aload_nq d_La_law_705 rfl 5 rfl ?_
    refine g_iload d_La_law_706 1 rfl ?_
    refine g_iconst (v := nI 5) d_La_law_708 rfl ?_
    refine g_scr hs hn hL (by decide) d_La_law_709 d_La_law_710 ?_
    refine g_i2l d_La_law_711 rfl ?_
    refine g_ldc2 v_La_88 d_La_law_712 ?_
    refine g_land d_La_law_715 ?_
    refine g_lor d_La_law_716 ?_
    show G _ _ _ _ _ _ _ _ _ (.long (scl xs (6 * n + 4)) :: _) _
    refine g_callV d_La_law_717 k_Mo_end l_La_97 i_Mo_end rfl q_Mo_Mo_end_Mo (Rep.m (Rep.pay hR)) (by rfl) (by rfl) (Nat.le_of_ble_eq_true rfl) (by decide) (C_Mo_end (Rep.pay hR) hS.live (by omega) (fun _ Z2 r2 b2 => ⟨_, rfl, ?_⟩) (fun c9 => absurd (c21 ▸ c9) c1))
    exact Tl_end (c := False) r2 th0 (fun z => absurd z (by decide)) (kont ad (thS S 1) Z2 r2 (si_th hS).up (bA hb (fun _ _ _ => rfl) (zP b2).1 (zP b2).2) ⟨rfl, rfl, rfl⟩)
  · have hin : inr (xs (6 * n + 1)) (sN S 1) := e1 ▸ inr_nI hk0 (by omega)
    split
    · rename_i h7
      intro Z1 r1 b1
      refine ⟨_, rfl, ?_⟩
      have si := si_end (n := n) (y := scl xs (6 * n + 2)) (z := scl xs (6 * n + 4)) (u := 1) hS hk0 h7
      have tN : ∀ m, m ≠ 7 → sN (outS (wN (wI S (220 + 2 * k0) (va_up (sI S (220 + 2 * k0)) 5 (endF S k0 (scl xs (6 * n + 2)) (scl xs (6 * n + 4))))) 7 (sN S 7 + 1)) 1) m = sN S m := fun m hm => wN_ne hm
      have lv1 : ciLive (outS (wN (wI S (220 + 2 * k0) (va_up (sI S (220 + 2 * k0)) 5 (endF S k0 (scl xs (6 * n + 2)) (scl xs (6 * n + 4))))) 7 (sN S 7 + 1)) 1) := hS.live.same' rfl (fun m hm => tN m (by omega))
      have o57 : sJ (outS (wN (wI S (220 + 2 * k0) (va_up (sI S (220 + 2 * k0)) 5 (endF S k0 (scl xs (6 * n + 2)) (scl xs (6 * n + 4))))) 7 (sN S 7 + 1)) 1) 57 0 = 1 := out57
      generalize outS (wN (wI S (220 + 2 * k0) (va_up (sI S (220 + 2 * k0)) 5 (endF S k0 (scl xs (6 * n + 2)) (scl xs (6 * n + 4))))) 7 (sN S 7 + 1)) 1 = T at *
      refine g_istore d_La_law_664 (by decide) rfl ?_
      show G _ _ _ _ _ _ _ _ [(5, _), (4, _), (3, _), (2, _), (1, _), (0, _)] _ _
      refine g_aload_nq d_La_law_666 rfl 3 rfl ?_
      refine g_aload_nq d_La_law_667 rfl 5 rfl ?_
      refine g_iload d_La_law_668 1 rfl ?_
      refine g_iconst (v := nI 1) d_La_law_670 rfl ?_
      refine g_scr hs hn hL (by decide) d_La_law_671 d_La_law_672 ?_
      refine g_aload_nq d_La_law_673 rfl 5 rfl ?_
      refine g_iload d_La_law_674 1 rfl ?_
      refine g_iconst (v := nI 2) d_La_law_676 rfl ?_
      refine g_scr hs hn hL (by decide) d_La_law_677 d_La_law_678 ?_
      refine g_i2l d_La_law_679 rfl ?_
      refine g_bipush (v := 32) d_La_law_680 rfl ?_
      refine g_lshl d_La_law_682 rfl ?_
      refine g_aload_nq d_La_law_683 rfl 5 rfl ?_
      refine g_iload d_La_law_684 1 rfl ?_
      refine g_iconst (v := nI 3) d_La_law_686 rfl ?_
      refine g_scr hs hn hL (by decide) d_La_law_687 d_La_law_688 ?_
      refine g_i2l d_La_law_689 rfl ?_
      refine g_ldc2 v_La_88 d_La_law_690 ?_
      refine g_land d_La_law_693 ?_
      refine g_lor d_La_law_694 ?_
      show G _ _ _ _ _ _ _ _ _ (.long (scl xs (6 * n + 2)) :: _) _
      refine g_aload_nq d_La_law_695 rfl 5 rfl ?_
      refine g_iload d_La_law_696 1 rfl ?_
      refine g_iconst (v := nI 4) d_La_law_698 rfl ?_
      refine g_scr hs hn hL (by decide) d_La_law_699 d_La_law_700 ?_
      refine g_i2l d_La_law_701 rfl ?_
      refine g_bipush (v := 32) d_La_law_702 rfl ?_
      refine g_lshl d_La_law_704 rfl ?_
      refine g_aload_nq d_La_law_705 rfl 5 rfl ?_
      refine g_iload d_La_law_706 1 rfl ?_
      refine g_iconst (v := nI 5) d_La_law_708 rfl ?_
      refine g_scr hs hn hL (by decide) d_La_law_709 d_La_law_710 ?_
      refine g_i2l d_La_law_711 rfl ?_
      refine g_ldc2 v_La_88 d_La_law_712 ?_
      refine g_land d_La_law_715 ?_
      refine g_lor d_La_law_716 ?_
      show G _ _ _ _ _ _ _ _ _ (.long (scl xs (6 * n + 4)) :: _) _
      rw [e1]
      refine g_callV d_La_law_717 k_Mo_end l_La_97 i_Mo_end rfl q_Mo_Mo_end_Mo (Rep.m r1) (by rfl) (by rfl) (Nat.le_of_ble_eq_true rfl) (by decide) (C_Mo_end r1 lv1 (by rw [tN 23 (by decide)]; omega) (fun c9 => absurd (by rw [tN 21 (by decide), c21, ← e1]; exact hin) c9) (fun _ => ?_))
      rw [if_pos (by rw [tN 23 (by decide)]; omega)]
      intro Z2 r2 b2
      refine ⟨_, rfl, ?_⟩
      exact Tl_end (c := True) r2 (by rw [wNI, wJI, wJI, wIo (by decide), th0]) (fun _ => (by rw [wNJ, wJo (by decide), wJo (by decide), wIJ, thJ]; exact o57)) (kont ad _ Z2 r2 si.up (bA hb (fun m h1 h2 => (wN_ne (by omega)).trans (tN m (by omega))) (zE (b2.trans b1)).1 (zE (b2.trans b1)).2) ⟨rfl, rfl, rfl⟩)
    · rename_i h7
      intro Z1 r1 b1
      refine ⟨_, rfl, ?_⟩
      refine g_istore d_La_law_664 (by decide) rfl ?_
      show G _ _ _ _ _ _ _ _ [(5, _), (4, _), (3, _), (2, _), (1, _), (0, _)] _ _
      refine g_aload_nq d_La_law_666 rfl 3 rfl ?_
      refine g_aload_nq d_La_law_667 rfl 5 rfl ?_
      refine g_iload d_La_law_668 1 rfl ?_
      refine g_iconst (v := nI 1) d_La_law_670 rfl ?_
      refine g_scr hs hn hL (by decide) d_La_law_671 d_La_law_672 ?_
      refine g_aload_nq d_La_law_673 rfl 5 rfl ?_
      refine g_iload d_La_law_674 1 rfl ?_
      refine g_iconst (v := nI 2) d_La_law_676 rfl ?_
      refine g_scr hs hn hL (by decide) d_La_law_677 d_La_law_678 ?_
      refine g_i2l d_La_law_679 rfl ?_
      refine g_bipush (v := 32) d_La_law_680 rfl ?_
      refine g_lshl d_La_law_682 rfl ?_
      refine g_aload_nq d_La_law_683 rfl 5 rfl ?_
      refine g_iload d_La_law_684 1 rfl ?_
      refine g_iconst (v := nI 3) d_La_law_686 rfl ?_
      refine g_scr hs hn hL (by decide) d_La_law_687 d_La_law_688 ?_
      refine g_i2l d_La_law_689 rfl ?_
      refine g_ldc2 v_La_88 d_La_law_690 ?_
      refine g_land d_La_law_693 ?_
      refine g_lor d_La_law_694 ?_
      show G _ _ _ _ _ _ _ _ _ (.long (scl xs (6 * n + 2)) :: _) _
      refine g_aload_nq d_La_law_695 rfl 5 rfl ?_
      refine g_iload d_La_law_696 1 rfl ?_
      refine g_iconst (v := nI 4) d_La_law_698 rfl ?_
      refine g_scr hs hn hL (by decide) d_La_law_699 d_La_law_700 ?_
      refine g_i2l d_La_law_701 rfl ?_
      refine g_bipush (v := 32) d_La_law_702 rfl ?_
      refine g_lshl d_La_law_704 rfl ?_
      refine g_aload_nq d_La_law_705 rfl 5 rfl ?_
      refine g_iload d_La_law_706 1 rfl ?_
      refine g_iconst (v := nI 5) d_La_law_708 rfl ?_
      refine g_scr hs hn hL (by decide) d_La_law_709 d_La_law_710 ?_
      refine g_i2l d_La_law_711 rfl ?_
      refine g_ldc2 v_La_88 d_La_law_712 ?_
      refine g_land d_La_law_715 ?_
      refine g_lor d_La_law_716 ?_
      show G _ _ _ _ _ _ _ _ _ (.long (scl xs (6 * n + 4)) :: _) _
      refine g_callV d_La_law_717 k_Mo_end l_La_97 i_Mo_end rfl q_Mo_Mo_end_Mo (Rep.m r1) (by rfl) (by rfl) (Nat.le_of_ble_eq_true rfl) (by decide) (C_Mo_end r1 (si_out hS).live (by show sN S 23 ≤ 100; omega) (fun c9 => absurd (by show inr (xs (6 * n + 1)) (sN S 21); rw [c21]; exact hin) c9) (fun _ => ?_))
      rw [if_neg (show ¬ sN (outS S 0) 23 < 100 by show ¬ sN S 23 < 100; omega)]
      intro Z2 r2 b2
      refine ⟨_, rfl, ?_⟩
      exact Tl_end (c := False) r2 th0 (fun _ => out57) (kont ad _ Z2 r2 (si_th (si_out hS)).up (bA hb (fun _ _ _ => rfl) (zE (b2.trans b1)).1 (zE (b2.trans b1)).2) ⟨rfl, rfl, rfl⟩)
theorem La_remark_w {w : zC} {Post : zR → zZ → Prop} {Z : zZ} {b L n : Nat} {xs : Nat → Int32} {adK adV : Nat → Nat} {ad : Nat → Nat} {S : ST} {k : Nat} (hs : zScr w b L xs) (hK : zLit w adK adV) (hT : zThr w) (hn : 6 * n + 6 ≤ L) (hL : L ≤ 3072) (hR : Rep w ad S Z) (hS : Sim n S) (hb : bAll S Z (3 * (k + 1)) (164 * (k + 1))) (kont : ∀ ad' S' Z', Rep w ad' S' Z' → Sim (n + 1) S' → bAll S' Z' (3 * k) (164 * k) → (ad' 57 = ad 57 ∧ ad' 600 = ad 600 ∧ ad' 0 = ad 0) → G w x code 7 ret (14, 510) Post 1217 [(4, .int (nI (6 * n))), (3, .ref (ad 57)), (2, .ref (ad 600)), (1, .ref (ad 0)), (0, .ref b)] [] Z') : G w x code 7 ret (14, 510) Post 933 [(4, .int (nI (6 * n))), (3, .ref (ad 57)), (2, .ref (ad 600)), (1, .ref (ad 0)), (0, .ref b)] [] Z := by
  refine g_aload_nq d_La_law_933 rfl 3 rfl ?_
  refine g_aload_nq d_La_law_934 rfl 4 rfl ?_
  refine g_iload d_La_law_935 0 rfl ?_
  refine g_iconst (v := nI 1) d_La_law_937 rfl ?_
  refine g_scr hs hn hL (by decide) d_La_law_938 d_La_law_939 ?_
  refine g_aload_nq d_La_law_940 rfl 4 rfl ?_
  refine g_iload d_La_law_941 0 rfl ?_
  refine g_iconst (v := nI 2) d_La_law_943 rfl ?_
  refine g_scr hs hn hL (by decide) d_La_law_944 d_La_law_945 ?_
  refine g_aload_nq d_La_law_946 rfl 1 rfl ?_
  refine g_callSW d_La_law_947 kw_La_remark l_La_115 s_La_remark (by rfl) (by rfl) (Nat.le_of_ble_eq_true rfl) (by decide) (C_La_remark hR hK hT (hS.2.2.2.2.2.2.1.1.1 (sN S 8) (by have := hS.2.2.2.2.2.2.1.1.2; omega)) hS.2.2.2.2.2.1.2.1 (b16 hb) (fun c1 => ⟨_, rfl, ?_⟩) (fun k0 hk0 e1 ht Z1 r1 b1 => ⟨_, rfl, ?_⟩))
  · obtain ⟨s1, s2⟩ := si_remark (x := xs (6 * n + 1)) hS
    refine g_istore d_La_law_950 (by decide) rfl ?_
    show G _ _ _ _ _ _ _ _ [(5, _), (4, _), (3, _), (2, _), (1, _), (0, _)] _ _
    refine g_aload_nq d_La_law_952 rfl 3 rfl ?_
    refine g_aload_nq d_La_law_953 rfl 5 rfl ?_
    refine g_iload d_La_law_954 1 rfl ?_
    refine g_iconst (v := nI 1) d_La_law_956 rfl ?_
    refine g_scr hs hn hL (by decide) d_La_law_957 d_La_law_958 ?_
    refine g_aload_nq d_La_law_959 rfl 5 rfl ?_
    refine g_iload d_La_law_960 1 rfl ?_
    refine g_iconst (v := nI 2) d_La_law_962 rfl ?_
    refine g_scr hs hn hL (by decide) d_La_law_963 d_La_law_964 ?_
    refine g_callV d_La_law_965 k_Mo_remark l_La_117 i_Mo_remark rfl q_Mo_Mo_remark_Mo (Rep.m (Rep.pay hR)) (by rfl) (by rfl) (Nat.le_of_ble_eq_true rfl) (by decide) (C_Mo_remark (Rep.pay hR) hS.live hS.mi (fun _ Z2 r2 b2 => ⟨_, rfl, ?_⟩) (fun i hi ei ht => ?_))
    · exact Tl_remark (u := 0) r2 th0 (fun z => absurd z (by decide)) (kont ad (thS S 1) Z2 r2 (si_th hS).up (bA hb (fun _ _ _ => rfl) (zP b2).1 (zP b2).2) ⟨rfl, rfl, rfl⟩)
    · exfalso
      by_cases z : inr (xs (6 * n + 1)) (sN S (17 + sN S 8))
      · exact c1 ⟨z, ht⟩
      · have := s2 z
        rw [ei] at this
        exact nI_m1 (by omega) this
  · obtain ⟨s1, s2⟩ := si_remark (x := xs (6 * n + 1)) (si_out (v := (rmkV S k0 (xs (6 * n + 2))).toInt64) hS)
    have hin : inr (xs (6 * n + 1)) (sN S (17 + sN S 8)) := e1 ▸ inr_nI hk0 (by have := hS.2.2.2.2.2.2.1.1.1; have h8 := hS.2.2.2.2.2.2.1.1.2; have c0 : sN S 17 ≤ sN S 4 := (this 0 (by omega)).1; have c0' : sN S 4 ≤ 3720 := (this 0 (by omega)).2.2; have c8 := this (sN S 8) (by omega); unfold capOK at c8; omega)
    obtain ⟨k9, i9, hk9, ek9, hi9, er9, ev9⟩ := s1 hin
    refine g_istore d_La_law_950 (by decide) rfl ?_
    show G _ _ _ _ _ _ _ _ [(5, _), (4, _), (3, _), (2, _), (1, _), (0, _)] _ _
    refine g_aload_nq d_La_law_952 rfl 3 rfl ?_
    refine g_aload_nq d_La_law_953 rfl 5 rfl ?_
    refine g_iload d_La_law_954 1 rfl ?_
    refine g_iconst (v := nI 1) d_La_law_956 rfl ?_
    refine g_scr hs hn hL (by decide) d_La_law_957 d_La_law_958 ?_
    refine g_aload_nq d_La_law_959 rfl 5 rfl ?_
    refine g_iload d_La_law_960 1 rfl ?_
    refine g_iconst (v := nI 2) d_La_law_962 rfl ?_
    refine g_scr hs hn hL (by decide) d_La_law_963 d_La_law_964 ?_
    refine g_callV d_La_law_965 k_Mo_remark l_La_117 i_Mo_remark rfl q_Mo_Mo_remark_Mo (Rep.m r1) (by rfl) (by rfl) (Nat.le_of_ble_eq_true rfl) (by decide) (C_Mo_remark r1 (si_out hS).live (si_out hS).mi (fun c9 => absurd ⟨fun z => nI_m1 (n := i9) (by omega) (er9 ▸ z), ht⟩ c9) (fun i hi ei ht9 Z2 r2 b2 => ⟨_, rfl, ?_⟩))
    obtain rfl := nIe ei er9 (by omega) (by omega)
    have hcap : (sN S (17 + sN S 8)) ≤ 3720 := by have := hS.2.2.2.2.2.2.1.1.1; have h8 := hS.2.2.2.2.2.2.1.1.2; have c0 : sN S 17 ≤ sN S 4 := (this 0 (by omega)).1; have c0' : sN S 4 ≤ 3720 := (this 0 (by omega)).2.2; have c8 := this (sN S 8) (by omega); unfold capOK at c8; omega
    have hk9' : k9 < (sN S (17 + sN S 8)) := hk9
    obtain rfl := nIe e1 ek9 (by omega) (by omega)
    exact Tl_remark r2 th0 (fun _ => out57.trans (congrArg Int32.toInt64 (ev9 _ ht))) (kont ad _ Z2 r2 (si_th (si_out hS)).up (bA hb (fun _ _ _ => rfl) (zE (b2.trans b1)).1 (zE (b2.trans b1)).2) ⟨rfl, rfl, rfl⟩)
theorem La_closed_w {w : zC} {Post : zR → zZ → Prop} {Z : zZ} {b L n : Nat} {xs : Nat → Int32} {adK adV : Nat → Nat} {ad : Nat → Nat} {S : ST} {k : Nat} (hs : zScr w b L xs) (hK : zLit w adK adV) (hT : zThr w) (hn : 6 * n + 6 ≤ L) (hL : L ≤ 3072) (hR : Rep w ad S Z) (hS : Sim n S) (hb : bAll S Z (3 * (k + 1)) (164 * (k + 1))) (kont : ∀ ad' S' Z', Rep w ad' S' Z' → Sim (n + 1) S' → bAll S' Z' (3 * k) (164 * k) → (ad' 57 = ad 57 ∧ ad' 600 = ad 600 ∧ ad' 0 = ad 0) → G w x code 7 ret (14, 510) Post 1217 [(4, .int (nI (6 * n))), (3, .ref (ad 57)), (2, .ref (ad 600)), (1, .ref (ad 0)), (0, .ref b)] [] Z') : G w x code 7 ret (14, 510) Post 1001 [(4, .int (nI (6 * n))), (3, .ref (ad 57)), (2, .ref (ad 600)), (1, .ref (ad 0)), (0, .ref b)] [] Z := by
  refine g_aload_nq d_La_law_1001 rfl 3 rfl ?_
  refine g_aload_nq d_La_law_1002 rfl 4 rfl ?_
  refine g_iload d_La_law_1003 0 rfl ?_
  refine g_iconst (v := nI 1) d_La_law_1005 rfl ?_
  refine g_scr hs hn hL (by decide) d_La_law_1006 d_La_law_1007 ?_
  refine g_aload_nq d_La_law_1008 rfl 4 rfl ?_
  refine g_iload d_La_law_1009 0 rfl ?_
  refine g_iconst (v := nI 2) d_La_law_1011 rfl ?_
  refine g_scr hs hn hL (by decide) d_La_law_1012 d_La_law_1013 ?_
  refine g_aload_nq d_La_law_1014 rfl 1 rfl ?_
  refine g_callSW d_La_law_1015 kw_La_closed l_La_118 s_La_closed (by rfl) (by rfl) (Nat.le_of_ble_eq_true rfl) (by decide) (C_La_closed hR hK hT (hS.2.2.2.2.2.2.1.1.1 0 (by omega)) (b16 hb) (fun c1 => ⟨_, rfl, ?_⟩) (fun k0 hk0 e1 ht Z1 r1 b1 => ⟨_, rfl, ?_⟩))
  · obtain ⟨s1, s2⟩ := si_closed (x := xs (6 * n + 1)) hS
    refine g_istore d_La_law_1018 (by decide) rfl ?_
    show G _ _ _ _ _ _ _ _ [(5, _), (4, _), (3, _), (2, _), (1, _), (0, _)] _ _
    refine g_aload_nq d_La_law_1020 rfl 3 rfl ?_
    refine g_aload_nq d_La_law_1021 rfl 5 rfl ?_
    refine g_iload d_La_law_1022 1 rfl ?_
    refine g_iconst (v := nI 1) d_La_law_1024 rfl ?_
    refine g_scr hs hn hL (by decide) d_La_law_1025 d_La_law_1026 ?_
    refine g_aload_nq d_La_law_1027 rfl 5 rfl ?_
    refine g_iload d_La_law_1028 1 rfl ?_
    refine g_iconst (v := nI 2) d_La_law_1030 rfl ?_
    refine g_scr hs hn hL (by decide) d_La_law_1031 d_La_law_1032 ?_
    refine g_callV d_La_law_1033 k_Mo_closed l_La_120 i_Mo_closed rfl q_Mo_Mo_closed_Mo (Rep.m (Rep.pay hR)) (by rfl) (by rfl) (Nat.le_of_ble_eq_true rfl) (by decide) (C_Mo_closed (Rep.pay hR) hS.live hS.mi (fun _ Z2 r2 b2 => ⟨_, rfl, ?_⟩) (fun i hi ei ht => ?_))
    · exact Tl_closed (u := 0) r2 th0 (fun z => absurd z (by decide)) (kont ad (thS S 1) Z2 r2 (si_th hS).up (bA hb (fun _ _ _ => rfl) (zP b2).1 (zP b2).2) ⟨rfl, rfl, rfl⟩)
    · exfalso
      by_cases z : inr (xs (6 * n + 1)) (sN S 17)
      · exact c1 ⟨z, ht⟩
      · have := s2 z
        rw [ei] at this
        exact nI_m1 (by omega) this
  · obtain ⟨s1, s2⟩ := si_closed (x := xs (6 * n + 1)) (si_out (v := (cldV S k0 (xs (6 * n + 2))).toInt64) hS)
    have hin : inr (xs (6 * n + 1)) (sN S 17) := e1 ▸ inr_nI hk0 (by have := hS.2.2.2.2.2.2.1.1.1; have h8 := hS.2.2.2.2.2.2.1.1.2; have c0 : sN S 17 ≤ sN S 4 := (this 0 (by omega)).1; have c0' : sN S 4 ≤ 3720 := (this 0 (by omega)).2.2; have c8 := this (sN S 8) (by omega); unfold capOK at c8; omega)
    obtain ⟨k9, i9, hk9, ek9, hi9, er9, ev9⟩ := s1 hin
    refine g_istore d_La_law_1018 (by decide) rfl ?_
    show G _ _ _ _ _ _ _ _ [(5, _), (4, _), (3, _), (2, _), (1, _), (0, _)] _ _
    refine g_aload_nq d_La_law_1020 rfl 3 rfl ?_
    refine g_aload_nq d_La_law_1021 rfl 5 rfl ?_
    refine g_iload d_La_law_1022 1 rfl ?_
    refine g_iconst (v := nI 1) d_La_law_1024 rfl ?_
    refine g_scr hs hn hL (by decide) d_La_law_1025 d_La_law_1026 ?_
    refine g_aload_nq d_La_law_1027 rfl 5 rfl ?_
    refine g_iload d_La_law_1028 1 rfl ?_
    refine g_iconst (v := nI 2) d_La_law_1030 rfl ?_
    refine g_scr hs hn hL (by decide) d_La_law_1031 d_La_law_1032 ?_
    refine g_callV d_La_law_1033 k_Mo_closed l_La_120 i_Mo_closed rfl q_Mo_Mo_closed_Mo (Rep.m r1) (by rfl) (by rfl) (Nat.le_of_ble_eq_true rfl) (by decide) (C_Mo_closed r1 (si_out hS).live (si_out hS).mi (fun c9 => absurd ⟨fun z => nI_m1 (n := i9) (by omega) (er9 ▸ z), ht⟩ c9) (fun i hi ei ht9 Z2 r2 b2 => ⟨_, rfl, ?_⟩))
    obtain rfl := nIe ei er9 (by omega) (by omega)
    have hcap : (sN S 17) ≤ 3720 := by have := hS.2.2.2.2.2.2.1.1.1; have h8 := hS.2.2.2.2.2.2.1.1.2; have c0 : sN S 17 ≤ sN S 4 := (this 0 (by omega)).1; have c0' : sN S 4 ≤ 3720 := (this 0 (by omega)).2.2; have c8 := this (sN S 8) (by omega); unfold capOK at c8; omega
    have hk9' : k9 < (sN S 17) := hk9
    obtain rfl := nIe e1 ek9 (by omega) (by omega)
    exact Tl_closed r2 th0 (fun _ => out57.trans (congrArg Int32.toInt64 (ev9 _ ht))) (kont ad _ Z2 r2 (si_th (si_out hS)).up (bA hb (fun _ _ _ => rfl) (zE (b2.trans b1)).1 (zE (b2.trans b1)).2) ⟨rfl, rfl, rfl⟩)
theorem La_waive_w {w : zC} {Post : zR → zZ → Prop} {Z : zZ} {b L n : Nat} {xs : Nat → Int32} {adK adV : Nat → Nat} {ad : Nat → Nat} {S : ST} {k : Nat} (hs : zScr w b L xs) (hK : zLit w adK adV) (hT : zThr w) (hn : 6 * n + 6 ≤ L) (hL : L ≤ 3072) (hR : Rep w ad S Z) (hS : Sim n S) (hb : bAll S Z (3 * (k + 1)) (164 * (k + 1))) (kont : ∀ ad' S' Z', Rep w ad' S' Z' → Sim (n + 1) S' → bAll S' Z' (3 * k) (164 * k) → (ad' 57 = ad 57 ∧ ad' 600 = ad 600 ∧ ad' 0 = ad 0) → G w x code 7 ret (14, 510) Post 1217 [(4, .int (nI (6 * n))), (3, .ref (ad 57)), (2, .ref (ad 600)), (1, .ref (ad 0)), (0, .ref b)] [] Z') : G w x code 7 ret (14, 510) Post 1069 [(4, .int (nI (6 * n))), (3, .ref (ad 57)), (2, .ref (ad 600)), (1, .ref (ad 0)), (0, .ref b)] [] Z := by
  have c25 : sN S 25 = sN S 3 := hS.2.1.1
  have h20 : sN S 3 ≤ 20 := hS.2.1.2.1
  have hb40 := hS.1.1.2.1
  unfold bdS at hb40
  have wok : (∃ c k, c < 3 ∧ k < mny S c ∧ xs (6 * n + 2) = nI c ∧ xs (6 * n + 3) = nI k) ↔ wOK S (xs (6 * n + 2)) (xs (6 * n + 3)) := by
    constructor
    · rintro ⟨c, k, h1, h2, h3, h4⟩
      exact ⟨c, k, (mny_tok hS.1 h1).mp h2, h3, h4⟩
    · rintro ⟨c, k, h1, h3, h4⟩
      exact ⟨c, k, h1.c3, (mny_tok hS.1 h1.c3).mpr h1, h3, h4⟩
  refine g_aload_nq d_La_law_1069 rfl 3 rfl ?_
  refine g_aload_nq d_La_law_1070 rfl 4 rfl ?_
  refine g_iload d_La_law_1071 0 rfl ?_
  refine g_iconst (v := nI 1) d_La_law_1073 rfl ?_
  refine g_scr hs hn hL (by decide) d_La_law_1074 d_La_law_1075 ?_
  refine g_aload_nq d_La_law_1076 rfl 4 rfl ?_
  refine g_iload d_La_law_1077 0 rfl ?_
  refine g_iconst (v := nI 2) d_La_law_1079 rfl ?_
  refine g_scr hs hn hL (by decide) d_La_law_1080 d_La_law_1081 ?_
  refine g_aload_nq d_La_law_1082 rfl 4 rfl ?_
  refine g_iload d_La_law_1083 0 rfl ?_
  refine g_iconst (v := nI 3) d_La_law_1085 rfl ?_
  refine g_scr hs hn hL (by decide) d_La_law_1086 d_La_law_1087 ?_
  refine g_aload_nq d_La_law_1088 rfl 4 rfl ?_
  refine g_iload d_La_law_1089 0 rfl ?_
  refine g_iconst (v := nI 4) d_La_law_1091 rfl ?_
  refine g_scr hs hn hL (by decide) d_La_law_1092 d_La_law_1093 ?_
  refine g_aload_nq d_La_law_1094 rfl 1 rfl ?_
  refine g_callSW d_La_law_1095 kw_La_waive l_La_121 s_La_waive (by rfl) (by rfl) (Nat.le_of_ble_eq_true rfl) (by decide) (C_La_waive hR hK hT hS.live hS.2.2.2.2.2.1.2.1 (b16 hb) (fun c1 => ⟨_, rfl, ?_⟩) (fun c1 c2 => ⟨_, rfl, ?_⟩) (fun p9 c k0 hp9 ht e1 e2 e3 hy Z1 r1 b1 => ⟨_, rfl, ?_⟩))
  · refine g_istore d_La_law_1098 (by decide) rfl ?_
    show G _ _ _ _ _ _ _ _ [(5, _), (4, _), (3, _), (2, _), (1, _), (0, _)] _ _
    refine g_aload_nq d_La_law_1100 rfl 3 rfl ?_
    refine g_aload_nq d_La_law_1101 rfl 5 rfl ?_
    refine g_iload d_La_law_1102 1 rfl ?_
    refine g_iconst (v := nI 1) d_La_law_1104 rfl ?_
    refine g_scr hs hn hL (by decide) d_La_law_1105 d_La_law_1106 ?_
    refine g_aload_nq d_La_law_1107 rfl 5 rfl ?_
    refine g_iload d_La_law_1108 1 rfl ?_
    refine g_iconst (v := nI 2) d_La_law_1110 rfl ?_
    refine g_scr hs hn hL (by decide) d_La_law_1111 d_La_law_1112 ?_
    refine g_aload_nq d_La_law_1113 rfl 5 rfl ?_
    refine g_iload d_La_law_1114 1 rfl ?_
    refine g_iconst (v := nI 3) d_La_law_1116 rfl ?_
    refine g_scr hs hn hL (by decide) d_La_law_1117 d_La_law_1118 ?_
    refine g_aload_nq d_La_law_1119 rfl 5 rfl ?_
    refine g_iload d_La_law_1120 1 rfl ?_
    refine g_iconst (v := nI 4) d_La_law_1122 rfl ?_
    refine g_scr hs hn hL (by decide) d_La_law_1123 d_La_law_1124 ?_
    refine g_callV d_La_law_1125 k_Mo_waive l_La_124 i_Mo_waive rfl q_Mo_Mo_waive_Mo (Rep.m (Rep.pay hR)) (by rfl) (by rfl) (Nat.le_of_ble_eq_true rfl) (by decide) (C_Mo_waive (Rep.pay hR) hS.live hS.mi (by omega) (fun _ Z2 r2 b2 => ⟨_, rfl, ?_⟩) (fun c8 c9 => absurd ⟨c25 ▸ c8, wok.mp c9⟩ c1) (fun p c k hp hc hk e1 e2 e3 => absurd ⟨e1 ▸ inr_nI (c25 ▸ hp) (by omega), wok.mp ⟨c, k, hc, hk, e2, e3⟩⟩ c1))
    exact Tl_waive (c := False) r2 th0 (fun z => absurd z (by decide)) (kont ad (thS S 1) Z2 r2 (si_th hS).up (bA hb (fun _ _ _ => rfl) (zP b2).1 (zP b2).2) ⟨rfl, rfl, rfl⟩)
  · refine g_istore d_La_law_1098 (by decide) rfl ?_
    show G _ _ _ _ _ _ _ _ [(5, _), (4, _), (3, _), (2, _), (1, _), (0, _)] _ _
    refine g_aload_nq d_La_law_1100 rfl 3 rfl ?_
    refine g_aload_nq d_La_law_1101 rfl 5 rfl ?_
    refine g_iload d_La_law_1102 1 rfl ?_
    refine g_iconst (v := nI 1) d_La_law_1104 rfl ?_
    refine g_scr hs hn hL (by decide) d_La_law_1105 d_La_law_1106 ?_
    refine g_aload_nq d_La_law_1107 rfl 5 rfl ?_
    refine g_iload d_La_law_1108 1 rfl ?_
    refine g_iconst (v := nI 2) d_La_law_1110 rfl ?_
    refine g_scr hs hn hL (by decide) d_La_law_1111 d_La_law_1112 ?_
    refine g_aload_nq d_La_law_1113 rfl 5 rfl ?_
    refine g_iload d_La_law_1114 1 rfl ?_
    refine g_iconst (v := nI 3) d_La_law_1116 rfl ?_
    refine g_scr hs hn hL (by decide) d_La_law_1117 d_La_law_1118 ?_
    refine g_aload_nq d_La_law_1119 rfl 5 rfl ?_
    refine g_iload d_La_law_1120 1 rfl ?_
    refine g_iconst (v := nI 4) d_La_law_1122 rfl ?_
    refine g_scr hs hn hL (by decide) d_La_law_1123 d_La_law_1124 ?_
    refine g_callV d_La_law_1125 k_Mo_waive l_La_124 i_Mo_waive rfl q_Mo_Mo_waive_Mo (Rep.m (Rep.pay hR)) (by rfl) (by rfl) (Nat.le_of_ble_eq_true rfl) (by decide) (C_Mo_waive (Rep.pay hR) hS.live hS.mi (by omega) (fun c9 => absurd ⟨by rw [c25]; exact c1.1, wok.mpr c1.2⟩ c9) (fun _ _ _ Z2 r2 b2 => ⟨_, rfl, ?_⟩) (fun p c k hp hc hk e1 e2 e3 hy => absurd hy c2))
    exact Tl_waive (c := False) r2 th0 (fun z => absurd z (by decide)) (kont ad (thS S 2) Z2 r2 (si_th hS).up (bA hb (fun _ _ _ => rfl) (zP b2).1 (zP b2).2) ⟨rfl, rfl, rfl⟩)
  · obtain ⟨si, sy⟩ := si_waive (y := xs (6 * n + 4)) (u := zl ((wvS S (plc S c k0 * 27 + nI p9) (xs (6 * n + 4))).isSome = true)) hS (show p9 < 27 by omega) ht _ rfl
    have fr : ∀ r, r = wvS S (plc S c k0 * 27 + nI p9) (xs (6 * n + 4)) → (∀ m, m ≠ 20 → m ≠ 21 → sI (r.getD S) m = sI S m) ∧ sR (r.getD S) = sR S ∧ (∀ m, m ≠ 16 → sN (r.getD S) m = sN S m) := fun r hr => by
      subst hr
      unfold wvS
      split
      · exact ⟨fun _ _ _ => rfl, rfl, fun _ _ => rfl⟩
      · split
        · split
          · exact ⟨fun m a b => (by rw [Option.getD_some, wNI, wIo b, wIo a]), rfl, fun m a => (by rw [Option.getD_some, wN_ne a]; rfl)⟩
          · exact ⟨fun _ _ _ => rfl, rfl, fun _ _ => rfl⟩
        · split
          · exact ⟨fun m a b => (by rw [Option.getD_some, wNI, wIo b, wIo a]), rfl, fun m a => (by rw [Option.getD_some, wN_ne a]; rfl)⟩
          · exact ⟨fun m a b => (by rw [Option.getD_some, wIo b]), rfl, fun m a => rfl⟩
    obtain ⟨f1, f2, f3⟩ := fr _ rfl
    have lv1 : ciLive (outS ((wvS S (plc S c k0 * 27 + nI p9) (xs (6 * n + 4))).getD S) (zl ((wvS S (plc S c k0 * 27 + nI p9) (xs (6 * n + 4))).isSome = true))) := hS.live.same' f2 (fun m hm => f3 m (by omega))
    have o57 : sJ (outS ((wvS S (plc S c k0 * 27 + nI p9) (xs (6 * n + 4))).getD S) (zl ((wvS S (plc S c k0 * 27 + nI p9) (xs (6 * n + 4))).isSome = true))) 57 0 = zl ((wvS S (plc S c k0 * 27 + nI p9) (xs (6 * n + 4))).isSome = true) := out57
    have gI : ∀ m, m ≠ 20 → m ≠ 21 → sI (outS ((wvS S (plc S c k0 * 27 + nI p9) (xs (6 * n + 4))).getD S) (zl ((wvS S (plc S c k0 * 27 + nI p9) (xs (6 * n + 4))).isSome = true))) m = sI S m := f1
    have gN : ∀ m, m ≠ 16 → sN (outS ((wvS S (plc S c k0 * 27 + nI p9) (xs (6 * n + 4))).getD S) (zl ((wvS S (plc S c k0 * 27 + nI p9) (xs (6 * n + 4))).isSome = true))) m = sN S m := f3
    generalize outS ((wvS S (plc S c k0 * 27 + nI p9) (xs (6 * n + 4))).getD S) (zl ((wvS S (plc S c k0 * 27 + nI p9) (xs (6 * n + 4))).isSome = true)) = T at *
    have mT : mInv T := hS.mi.cg (gI 709 (by decide) (by decide)) (gI 710 (by decide) (by decide)) (gI 711 (by decide) (by decide)) (fun m h1 h2 => gN m (by omega))
    have mn : ∀ c, mny T c = mny S c := fun c => by unfold mny; rw [gN 20 (by decide), gN 21 (by decide), gN 22 (by decide)]
    refine g_istore d_La_law_1098 (by decide) rfl ?_
    show G _ _ _ _ _ _ _ _ [(5, _), (4, _), (3, _), (2, _), (1, _), (0, _)] _ _
    refine g_aload_nq d_La_law_1100 rfl 3 rfl ?_
    refine g_aload_nq d_La_law_1101 rfl 5 rfl ?_
    refine g_iload d_La_law_1102 1 rfl ?_
    refine g_iconst (v := nI 1) d_La_law_1104 rfl ?_
    refine g_scr hs hn hL (by decide) d_La_law_1105 d_La_law_1106 ?_
    refine g_aload_nq d_La_law_1107 rfl 5 rfl ?_
    refine g_iload d_La_law_1108 1 rfl ?_
    refine g_iconst (v := nI 2) d_La_law_1110 rfl ?_
    refine g_scr hs hn hL (by decide) d_La_law_1111 d_La_law_1112 ?_
    refine g_aload_nq d_La_law_1113 rfl 5 rfl ?_
    refine g_iload d_La_law_1114 1 rfl ?_
    refine g_iconst (v := nI 3) d_La_law_1116 rfl ?_
    refine g_scr hs hn hL (by decide) d_La_law_1117 d_La_law_1118 ?_
    refine g_aload_nq d_La_law_1119 rfl 5 rfl ?_
    refine g_iload d_La_law_1120 1 rfl ?_
    refine g_iconst (v := nI 4) d_La_law_1122 rfl ?_
    refine g_scr hs hn hL (by decide) d_La_law_1123 d_La_law_1124 ?_
    refine g_callV d_La_law_1125 k_Mo_waive l_La_124 i_Mo_waive rfl q_Mo_Mo_waive_Mo (Rep.m r1) (by rfl) (by rfl) (Nat.le_of_ble_eq_true rfl) (by decide) (C_Mo_waive r1 lv1 mT (by rw [gN 25 (by decide)]; omega) (fun c9 => absurd ⟨by rw [gN 25 (by decide), c25]; exact e1 ▸ inr_nI hp9 (by omega), c, k0, ht.c3, by rw [mn]; exact (mny_tok hS.1 ht.c3).mpr ht, e2, e3⟩ c9) (fun _ _ c9 => absurd hy c9) (fun p' c' k' hp' hc' hk' e1' e2' e3' hy' => ?_))
    rw [gN 25 (by decide)] at hp'
    rw [mn] at hk'
    have tk' := (mny_tok hS.1 hc').mp hk'
    have bt := ht.bd hS.1.1.2.1
    have bt' := tk'.bd hS.1.1.2.1
    obtain rfl := nIe e1 e1' (by omega) (by omega)
    obtain rfl := nIe e2 e2' (by omega) (by omega)
    obtain rfl := nIe e3 e3' (by omega) (by omega)
    intro Z2 r2 b2
    refine ⟨_, rfl, ?_⟩
    have e6 : sI ((wvM T (nI (tI p9 (nI c) k0)) (xs (6 * n + 4))).getD (thS T 0)) 600 0 = 0 ∧ sJ ((wvM T (nI (tI p9 (nI c) k0)) (xs (6 * n + 4))).getD (thS T 0)) 57 0 = sJ T 57 0 ∧ ∀ m, 4 ≤ m → m ≤ 6 → sN ((wvM T (nI (tI p9 (nI c) k0)) (xs (6 * n + 4))).getD (thS T 0)) m = sN T m := by
      unfold wvM
      split
      · exact ⟨th0, rfl, fun _ _ _ => rfl⟩
      · split
        · exact ⟨by rw [Option.getD_some, wIo (by decide), wIo (by decide), wNI, th0], rfl, fun m h1 h2 => (by rw [Option.getD_some]; exact wN_ne (by omega))⟩
        · split
          · exact ⟨th0, rfl, fun _ _ _ => rfl⟩
          · exact ⟨by rw [Option.getD_some, wNI, wIo (by decide), wIo (by decide), th0], rfl, fun m h1 h2 => (by rw [Option.getD_some, wN_ne (by omega)]; rfl)⟩
    exact Tl_waive r2 e6.1 (fun _ => e6.2.1.trans (o57.trans (zl_cg (by rw [sy])))) (kont ad _ Z2 r2 si.up (bA hb (fun m h1 h2 => (e6.2.2 m h1 h2).trans (gN m (by omega))) (zE (b2.trans b1)).1 (zE (b2.trans b1)).2) ⟨rfl, rfl, rfl⟩)
