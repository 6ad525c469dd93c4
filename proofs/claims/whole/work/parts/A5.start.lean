/-! the law: its start -/
def ad0 (A : List (Nat × Nat)) (i : Nat) : Nat := ((A.find? (fun p => p.1 == i)).map (fun p => p.2)).getD 0
def ids0 : List Nat := [57, 600, 741, 737, 732, 731, 728, 727, 726, 724, 723, 722, 721, 720, 719, 716, 715, 714, 713, 711, 710, 709, 708, 707, 706, 705, 701, 0, 7, 30, 29, 28, 6, 27, 26, 25, 10, 5, 24, 23, 22, 4, 21, 20, 9, 8, 3, 2, 16, 19, 18, 17, 1, 15, 14, 13, 12, 11]
theorem inj_nd {α β : Type} {f : α → β} : ∀ {D : List α} {i j : α}, (D.map f).Nodup → i ∈ D → j ∈ D → f i = f j → i = j
  | [], _, _, _, h, _, _ => absurd h List.not_mem_nil
  | d :: D, i, j, hn, hi, hj, e => by
    rw [List.map_cons, List.nodup_cons] at hn
    rcases List.mem_cons.mp hi with rfl | hi'
    · rcases List.mem_cons.mp hj with rfl | hj'
      · rfl
      · exact absurd (by rw [e]; exact List.mem_map_of_mem hj') hn.1
    · rcases List.mem_cons.mp hj with rfl | hj'
      · exact absurd (by rw [← e]; exact List.mem_map_of_mem hi') hn.1
      · exact inj_nd hn.2 hi' hj' e
theorem ids0_live {i : Nat} (h : liveS S0 i) : i ∈ ids0 := by
  have k1 : ∀ i, i < 31 → i ∈ ids0 := by decide +kernel
  have k2 : ∀ i, i < 42 → isArrM (700 + i) = true → (700 + i) ∈ ids0 := by decide +kernel
  rcases h with h | h | h | h | h | h | h | h
  · exact k1 i h
  · rw [h]; decide
  · have : sN S0 0 = 0 := rfl
    omega
  · have : sN S0 1 = 0 := rfl
    omega
  · have : sN S0 2 = 0 := rfl
    omega
  · have : sN S0 3 = 0 := rfl
    omega
  · rw [h]; decide
  · have := k2 (i - 700) (by omega)
    rw [show 700 + (i - 700) = i by omega] at this
    exact this h.2.2
theorem S0_f {i : Nat} (h : i ≠ 0 ∧ i ≠ 600 ∧ i ≠ 3) : sI S0 i = fun _ => 0 := funext fun _ => S0_I h
theorem rep0 {w : zC} {Z Z1 Z2 : zZ} {e0 e1 : va_E} {n0 n1 : Nat} {a m o : Nat} {q8 r8_0 r8_1 r8_2 q7 r7_0 r7_1 r7_2 q6 q5 r5_0 r5_1 r5_2 q4 r4_0 r4_1 q3 q2 q1 r1_0 r1_1 r1_2 r1_3 r1_4 q0 r0_0 r0_1 r0_2 r0_3 r0_4 p24 p23 p22 p21 p20 p19 p18 p17 p16 p15 p14 p13 p12 p11 p10 p9 p8 p7 p6 p5 p4 p3 p2 p1 p0 : Nat} (hA : zAll (znew Z a e0 n0) Z1 a [(q8, .inr (5, [.ref r8_2, .ref r8_1, .ref r8_0, .int 0])), (r8_0, xi w 32 (fun _ => 0)), (r8_1, xi w 32 (fun _ => 0)), (r8_2, xi w 32 (fun _ => 0)), (q7, .inr (5, [.ref r7_2, .ref r7_1, .ref r7_0, .int 0])), (r7_0, xi w 32 (fun _ => 0)), (r7_1, xi w 32 (fun _ => 0)), (r7_2, xi w 32 (fun _ => 0)), (q6, xl w 80 (fun _ => 0)), (q5, .inr (5, [.ref r5_2, .ref r5_1, .ref r5_0, .int 0])), (r5_0, xi w 32 (fun _ => 0)), (r5_1, xi w 32 (fun _ => 0)), (r5_2, xi w 32 (fun _ => 0)), (q4, .inr (4, [.ref r4_1, .ref r4_0, .int 0])), (r4_0, xi w 50 (fun _ => 0)), (r4_1, xi w 50 (fun _ => 0)), (q3, xz w 27 (fun _ => 0)), (q2, xr w 8 20 (fun _ => none)), (q1, .inr (3, [.ref r1_4, .ref r1_3, .ref r1_2, .ref r1_0, .int 0, .int 0, .int 0, .int 0, .int 0, .int 0, .int 0, .int 1])), (r1_0, .inr (2, [.ref r1_1, .int 0, .int 0, .int 0])), (r1_1, xc w 160 (fun _ => 0)), (r1_2, xi w 80 (fun _ => 0)), (r1_3, xi w 80 (fun _ => 0)), (r1_4, xi w 80 (fun _ => 0)), (q0, .inr (1, [.ref r0_4, .ref r0_3, .ref r0_2, .ref r0_1, .ref r0_0, .int 0, .int 0, .int 0, .int 0])), (r0_0, xr w 7 240 (fun _ => none)), (r0_1, xr w 6 160 (fun _ => none)), (r0_2, xr w 5 40 (fun _ => none)), (r0_3, xr w 4 40 (fun _ => none)), (r0_4, xi w 100 (fun _ => 0))]) (hO : zhs Z1 a (.inr (0, [.ref q0, .ref q1, .ref q2, .ref q3, .ref q4, .ref q5, .ref q6, .ref q7, .ref q8, .int 0, .int 1]))) (hm : m ∉ Z1.1) (hA2 : zAll (znew Z1 m e1 n1) Z2 m [(p24, xl w 90 (fun _ => 0)), (p23, xi w 100 (fun _ => 0)), (p22, xi w 50 (fun _ => 0)), (p21, xi w 50 (fun _ => 0)), (p20, xi w 6480 (fun _ => 0)), (p19, xi w 6480 (fun _ => 0)), (p18, xi w 6480 (fun _ => 0)), (p17, xz w 27 (fun _ => 0)), (p16, xi w 1800 (fun _ => 0)), (p15, xi w 1800 (fun _ => 0)), (p14, xi w 20 (fun _ => 0)), (p13, xi w 20 (fun _ => 0)), (p12, xi w 20 (fun _ => 0)), (p11, xi w 160 (fun _ => 0)), (p10, xl w 100 (fun _ => 0)), (p9, xl w 100 (fun _ => 0)), (p8, xi w 100 (fun _ => 0)), (p7, xi w 160 (fun _ => 0)), (p6, xi w 160 (fun _ => 0)), (p5, xi w 160 (fun _ => 0)), (p4, xi w 40 (fun _ => 0)), (p3, xi w 40 (fun _ => 0)), (p2, xl w 320 (fun _ => 0)), (p1, xi w 40 (fun _ => 0)), (p0, xi w 100 (fun _ => 0))]) (hO2 : zhs Z2 m (.inr (10, [.int 0, .ref p0, .int 0, .int 0, .int 0, .ref p1, .ref p2, .ref p3, .ref p4, .ref p5, .ref p6, .ref p7, .int 0, .ref p8, .ref p9, .ref p10, .ref p11, .int 0, .int 0, .ref p12, .ref p13, .ref p14, .ref p15, .ref p16, .ref p17, .int 1, .ref p18, .ref p19, .ref p20, .int 0, .int 0, .ref p21, .ref p22, .int 0, .int 0, .int 0, .int 0, .ref p23, .int 0, .int 0, .int 0, .ref p24]))) (ho : o ∉ Z2.1) : Rep w (ad0 [(57, o), (600, m), (741, p24), (737, p23), (732, p22), (731, p21), (728, p20), (727, p19), (726, p18), (724, p17), (723, p16), (722, p15), (721, p14), (720, p13), (719, p12), (716, p11), (715, p10), (714, p9), (713, p8), (711, p7), (710, p6), (709, p5), (708, p4), (707, p3), (706, p2), (705, p1), (701, p0), (0, a), (7, q8), (30, r8_0), (29, r8_1), (28, r8_2), (6, q7), (27, r7_0), (26, r7_1), (25, r7_2), (10, q6), (5, q5), (24, r5_0), (23, r5_1), (22, r5_2), (4, q4), (21, r4_0), (20, r4_1), (9, q3), (8, q2), (3, q1), (2, r1_0), (16, r1_1), (19, r1_2), (18, r1_3), (17, r1_4), (1, q0), (15, r0_0), (14, r0_1), (13, r0_2), (12, r0_3), (11, r0_4)]) S0 (znew Z2 o (.inl (w.2.2.2.1 1, 1, .inr (.inl (fun _ => 0)))) 1) := by
  obtain ⟨a1, a2, a3⟩ := hA
  obtain ⟨b1, b2, b3⟩ := hA2
  have up2 : ∀ {c : Nat} {e : va_E}, zhs Z2 c e → zhs (znew Z2 o (.inl (w.2.2.2.1 1, 1, .inr (.inl (fun _ => 0)))) 1) c e := fun h => zhs_new_old h ho
  have up1 : ∀ {c : Nat} {e : va_E}, zhs Z1 c e → zhs (znew Z2 o (.inl (w.2.2.2.1 1, 1, .inr (.inl (fun _ => 0)))) 1) c e := fun {c e} h => up2 (b1 c e (fun z => hm (z ▸ h.1)) (zhs_new_old h hm))
  have h57 : zhs (znew Z2 o (.inl (w.2.2.2.1 1, 1, .inr (.inl (fun _ => 0)))) 1) o (.inl (w.2.2.2.1 1, 1, .inr (.inl (fun _ => 0)))) := zhs_new_same
  have hin1 : ∀ c, c ∈ [a, q8, r8_0, r8_1, r8_2, q7, r7_0, r7_1, r7_2, q6, q5, r5_0, r5_1, r5_2, q4, r4_0, r4_1, q3, q2, q1, r1_0, r1_1, r1_2, r1_3, r1_4, q0, r0_0, r0_1, r0_2, r0_3, r0_4] → c ∈ Z1.1 := by
    intro c hc
    rcases List.mem_cons.mp hc with rfl | hc
    · exact hO.1
    · have : c ∈ ([(q8, .inr (5, [.ref r8_2, .ref r8_1, .ref r8_0, .int 0])), (r8_0, xi w 32 (fun _ => 0)), (r8_1, xi w 32 (fun _ => 0)), (r8_2, xi w 32 (fun _ => 0)), (q7, .inr (5, [.ref r7_2, .ref r7_1, .ref r7_0, .int 0])), (r7_0, xi w 32 (fun _ => 0)), (r7_1, xi w 32 (fun _ => 0)), (r7_2, xi w 32 (fun _ => 0)), (q6, xl w 80 (fun _ => 0)), (q5, .inr (5, [.ref r5_2, .ref r5_1, .ref r5_0, .int 0])), (r5_0, xi w 32 (fun _ => 0)), (r5_1, xi w 32 (fun _ => 0)), (r5_2, xi w 32 (fun _ => 0)), (q4, .inr (4, [.ref r4_1, .ref r4_0, .int 0])), (r4_0, xi w 50 (fun _ => 0)), (r4_1, xi w 50 (fun _ => 0)), (q3, xz w 27 (fun _ => 0)), (q2, xr w 8 20 (fun _ => none)), (q1, .inr (3, [.ref r1_4, .ref r1_3, .ref r1_2, .ref r1_0, .int 0, .int 0, .int 0, .int 0, .int 0, .int 0, .int 0, .int 1])), (r1_0, .inr (2, [.ref r1_1, .int 0, .int 0, .int 0])), (r1_1, xc w 160 (fun _ => 0)), (r1_2, xi w 80 (fun _ => 0)), (r1_3, xi w 80 (fun _ => 0)), (r1_4, xi w 80 (fun _ => 0)), (q0, .inr (1, [.ref r0_4, .ref r0_3, .ref r0_2, .ref r0_1, .ref r0_0, .int 0, .int 0, .int 0, .int 0])), (r0_0, xr w 7 240 (fun _ => none)), (r0_1, xr w 6 160 (fun _ => none)), (r0_2, xr w 5 40 (fun _ => none)), (r0_3, xr w 4 40 (fun _ => none)), (r0_4, xi w 100 (fun _ => 0))] : List (Nat × va_E)).map (fun x => x.1) := hc
      obtain ⟨x, hx, rfl⟩ := List.mem_map.mp this
      exact (a2 x hx).1.1
  have hin2 : ∀ c, c ∈ [m, p24, p23, p22, p21, p20, p19, p18, p17, p16, p15, p14, p13, p12, p11, p10, p9, p8, p7, p6, p5, p4, p3, p2, p1, p0] → c ∈ Z2.1 := by
    intro c hc
    rcases List.mem_cons.mp hc with rfl | hc
    · exact hO2.1
    · have : c ∈ ([(p24, xl w 90 (fun _ => 0)), (p23, xi w 100 (fun _ => 0)), (p22, xi w 50 (fun _ => 0)), (p21, xi w 50 (fun _ => 0)), (p20, xi w 6480 (fun _ => 0)), (p19, xi w 6480 (fun _ => 0)), (p18, xi w 6480 (fun _ => 0)), (p17, xz w 27 (fun _ => 0)), (p16, xi w 1800 (fun _ => 0)), (p15, xi w 1800 (fun _ => 0)), (p14, xi w 20 (fun _ => 0)), (p13, xi w 20 (fun _ => 0)), (p12, xi w 20 (fun _ => 0)), (p11, xi w 160 (fun _ => 0)), (p10, xl w 100 (fun _ => 0)), (p9, xl w 100 (fun _ => 0)), (p8, xi w 100 (fun _ => 0)), (p7, xi w 160 (fun _ => 0)), (p6, xi w 160 (fun _ => 0)), (p5, xi w 160 (fun _ => 0)), (p4, xi w 40 (fun _ => 0)), (p3, xi w 40 (fun _ => 0)), (p2, xl w 320 (fun _ => 0)), (p1, xi w 40 (fun _ => 0)), (p0, xi w 100 (fun _ => 0))] : List (Nat × va_E)).map (fun x => x.1) := hc
      obtain ⟨x, hx, rfl⟩ := List.mem_map.mp this
      exact (b2 x hx).1.1
  have hmem : ∀ c, c ∈ Z1.1 → c ∈ (znew Z1 m e1 n1).1 := fun c hc => List.mem_append_left _ hc
  have h12 : ∀ c, c ∈ Z1.1 → c ∈ Z2.1 := fun c hc => (b1 c _ (fun z => hm (z ▸ hc)) (zhs_new_old ⟨hc, rfl⟩ hm)).1
  have nK : ([a, q8, r8_0, r8_1, r8_2, q7, r7_0, r7_1, r7_2, q6, q5, r5_0, r5_1, r5_2, q4, r4_0, r4_1, q3, q2, q1, r1_0, r1_1, r1_2, r1_3, r1_4, q0, r0_0, r0_1, r0_2, r0_3, r0_4] : List Nat).Nodup := by
    rw [List.nodup_cons]
    refine ⟨fun h => ?_, a3⟩
    have : a ∈ ([(q8, .inr (5, [.ref r8_2, .ref r8_1, .ref r8_0, .int 0])), (r8_0, xi w 32 (fun _ => 0)), (r8_1, xi w 32 (fun _ => 0)), (r8_2, xi w 32 (fun _ => 0)), (q7, .inr (5, [.ref r7_2, .ref r7_1, .ref r7_0, .int 0])), (r7_0, xi w 32 (fun _ => 0)), (r7_1, xi w 32 (fun _ => 0)), (r7_2, xi w 32 (fun _ => 0)), (q6, xl w 80 (fun _ => 0)), (q5, .inr (5, [.ref r5_2, .ref r5_1, .ref r5_0, .int 0])), (r5_0, xi w 32 (fun _ => 0)), (r5_1, xi w 32 (fun _ => 0)), (r5_2, xi w 32 (fun _ => 0)), (q4, .inr (4, [.ref r4_1, .ref r4_0, .int 0])), (r4_0, xi w 50 (fun _ => 0)), (r4_1, xi w 50 (fun _ => 0)), (q3, xz w 27 (fun _ => 0)), (q2, xr w 8 20 (fun _ => none)), (q1, .inr (3, [.ref r1_4, .ref r1_3, .ref r1_2, .ref r1_0, .int 0, .int 0, .int 0, .int 0, .int 0, .int 0, .int 0, .int 1])), (r1_0, .inr (2, [.ref r1_1, .int 0, .int 0, .int 0])), (r1_1, xc w 160 (fun _ => 0)), (r1_2, xi w 80 (fun _ => 0)), (r1_3, xi w 80 (fun _ => 0)), (r1_4, xi w 80 (fun _ => 0)), (q0, .inr (1, [.ref r0_4, .ref r0_3, .ref r0_2, .ref r0_1, .ref r0_0, .int 0, .int 0, .int 0, .int 0])), (r0_0, xr w 7 240 (fun _ => none)), (r0_1, xr w 6 160 (fun _ => none)), (r0_2, xr w 5 40 (fun _ => none)), (r0_3, xr w 4 40 (fun _ => none)), (r0_4, xi w 100 (fun _ => 0))] : List (Nat × va_E)).map (fun x => x.1) := h
    obtain ⟨x, hx, e⟩ := List.mem_map.mp this
    exact (a2 x hx).2 (by rw [e]; exact zhs_new_same.1)
  have nM : ([m, p24, p23, p22, p21, p20, p19, p18, p17, p16, p15, p14, p13, p12, p11, p10, p9, p8, p7, p6, p5, p4, p3, p2, p1, p0] : List Nat).Nodup := by
    rw [List.nodup_cons]
    refine ⟨fun h => ?_, b3⟩
    have : m ∈ ([(p24, xl w 90 (fun _ => 0)), (p23, xi w 100 (fun _ => 0)), (p22, xi w 50 (fun _ => 0)), (p21, xi w 50 (fun _ => 0)), (p20, xi w 6480 (fun _ => 0)), (p19, xi w 6480 (fun _ => 0)), (p18, xi w 6480 (fun _ => 0)), (p17, xz w 27 (fun _ => 0)), (p16, xi w 1800 (fun _ => 0)), (p15, xi w 1800 (fun _ => 0)), (p14, xi w 20 (fun _ => 0)), (p13, xi w 20 (fun _ => 0)), (p12, xi w 20 (fun _ => 0)), (p11, xi w 160 (fun _ => 0)), (p10, xl w 100 (fun _ => 0)), (p9, xl w 100 (fun _ => 0)), (p8, xi w 100 (fun _ => 0)), (p7, xi w 160 (fun _ => 0)), (p6, xi w 160 (fun _ => 0)), (p5, xi w 160 (fun _ => 0)), (p4, xi w 40 (fun _ => 0)), (p3, xi w 40 (fun _ => 0)), (p2, xl w 320 (fun _ => 0)), (p1, xi w 40 (fun _ => 0)), (p0, xi w 100 (fun _ => 0))] : List (Nat × va_E)).map (fun x => x.1) := h
    obtain ⟨x, hx, e⟩ := List.mem_map.mp this
    exact (b2 x hx).2 (by rw [e]; exact zhs_new_same.1)
  have nAll : (ids0.map (ad0 [(57, o), (600, m), (741, p24), (737, p23), (732, p22), (731, p21), (728, p20), (727, p19), (726, p18), (724, p17), (723, p16), (722, p15), (721, p14), (720, p13), (719, p12), (716, p11), (715, p10), (714, p9), (713, p8), (711, p7), (710, p6), (709, p5), (708, p4), (707, p3), (706, p2), (705, p1), (701, p0), (0, a), (7, q8), (30, r8_0), (29, r8_1), (28, r8_2), (6, q7), (27, r7_0), (26, r7_1), (25, r7_2), (10, q6), (5, q5), (24, r5_0), (23, r5_1), (22, r5_2), (4, q4), (21, r4_0), (20, r4_1), (9, q3), (8, q2), (3, q1), (2, r1_0), (16, r1_1), (19, r1_2), (18, r1_3), (17, r1_4), (1, q0), (15, r0_0), (14, r0_1), (13, r0_2), (12, r0_3), (11, r0_4)])).Nodup := by
    show ([o] ++ ([m, p24, p23, p22, p21, p20, p19, p18, p17, p16, p15, p14, p13, p12, p11, p10, p9, p8, p7, p6, p5, p4, p3, p2, p1, p0] ++ [a, q8, r8_0, r8_1, r8_2, q7, r7_0, r7_1, r7_2, q6, q5, r5_0, r5_1, r5_2, q4, r4_0, r4_1, q3, q2, q1, r1_0, r1_1, r1_2, r1_3, r1_4, q0, r0_0, r0_1, r0_2, r0_3, r0_4]) : List Nat).Nodup
    rw [List.nodup_append, List.nodup_append]
    refine ⟨List.nodup_cons.mpr ⟨List.not_mem_nil, List.nodup_nil⟩, ⟨nM, nK, fun c hc d hd z => ?_⟩, fun c hc d hd z => ?_⟩
    · subst z
      rcases List.mem_cons.mp hc with rfl | hc
      · exact hm (hin1 _ hd)
      · have : c ∈ ([(p24, xl w 90 (fun _ => 0)), (p23, xi w 100 (fun _ => 0)), (p22, xi w 50 (fun _ => 0)), (p21, xi w 50 (fun _ => 0)), (p20, xi w 6480 (fun _ => 0)), (p19, xi w 6480 (fun _ => 0)), (p18, xi w 6480 (fun _ => 0)), (p17, xz w 27 (fun _ => 0)), (p16, xi w 1800 (fun _ => 0)), (p15, xi w 1800 (fun _ => 0)), (p14, xi w 20 (fun _ => 0)), (p13, xi w 20 (fun _ => 0)), (p12, xi w 20 (fun _ => 0)), (p11, xi w 160 (fun _ => 0)), (p10, xl w 100 (fun _ => 0)), (p9, xl w 100 (fun _ => 0)), (p8, xi w 100 (fun _ => 0)), (p7, xi w 160 (fun _ => 0)), (p6, xi w 160 (fun _ => 0)), (p5, xi w 160 (fun _ => 0)), (p4, xi w 40 (fun _ => 0)), (p3, xi w 40 (fun _ => 0)), (p2, xl w 320 (fun _ => 0)), (p1, xi w 40 (fun _ => 0)), (p0, xi w 100 (fun _ => 0))] : List (Nat × va_E)).map (fun x => x.1) := hc
        obtain ⟨x, hx, e⟩ := List.mem_map.mp this
        exact (b2 x hx).2 (by rw [e]; exact hmem _ (hin1 _ hd))
    · rw [List.mem_singleton] at hc
      subst hc
      subst z
      rcases List.mem_append.mp hd with hd | hd
      · exact ho (hin2 _ hd)
      · exact ho (h12 _ (hin1 _ hd))
  simp only [List.forall_mem_cons] at a2 b2
  obtain ⟨⟨k_q8, -⟩, ⟨k_r8_0, -⟩, ⟨k_r8_1, -⟩, ⟨k_r8_2, -⟩, ⟨k_q7, -⟩, ⟨k_r7_0, -⟩, ⟨k_r7_1, -⟩, ⟨k_r7_2, -⟩, ⟨k_q6, -⟩, ⟨k_q5, -⟩, ⟨k_r5_0, -⟩, ⟨k_r5_1, -⟩, ⟨k_r5_2, -⟩, ⟨k_q4, -⟩, ⟨k_r4_0, -⟩, ⟨k_r4_1, -⟩, ⟨k_q3, -⟩, ⟨k_q2, -⟩, ⟨k_q1, -⟩, ⟨k_r1_0, -⟩, ⟨k_r1_1, -⟩, ⟨k_r1_2, -⟩, ⟨k_r1_3, -⟩, ⟨k_r1_4, -⟩, ⟨k_q0, -⟩, ⟨k_r0_0, -⟩, ⟨k_r0_1, -⟩, ⟨k_r0_2, -⟩, ⟨k_r0_3, -⟩, ⟨k_r0_4, -⟩, -⟩ := a2
  obtain ⟨⟨m_p24, -⟩, ⟨m_p23, -⟩, ⟨m_p22, -⟩, ⟨m_p21, -⟩, ⟨m_p20, -⟩, ⟨m_p19, -⟩, ⟨m_p18, -⟩, ⟨m_p17, -⟩, ⟨m_p16, -⟩, ⟨m_p15, -⟩, ⟨m_p14, -⟩, ⟨m_p13, -⟩, ⟨m_p12, -⟩, ⟨m_p11, -⟩, ⟨m_p10, -⟩, ⟨m_p9, -⟩, ⟨m_p8, -⟩, ⟨m_p7, -⟩, ⟨m_p6, -⟩, ⟨m_p5, -⟩, ⟨m_p4, -⟩, ⟨m_p3, -⟩, ⟨m_p2, -⟩, ⟨m_p1, -⟩, ⟨m_p0, -⟩, -⟩ := b2
  clear a1 a3 b1 b3 hin1 hin2 hmem h12 nK nM
  refine ⟨⟨by decide, by decide, by decide, by decide, Or.inl rfl⟩, fun i j hi hj e => inj_nd nAll (ids0_live hi) (ids0_live hj) e, fun i hi => ?_⟩
  have hall : ∀ i ∈ ids0, zhs (znew Z2 o (.inl (w.2.2.2.1 1, 1, .inr (.inl (fun _ => 0)))) 1) (ad0 [(57, o), (600, m), (741, p24), (737, p23), (732, p22), (731, p21), (728, p20), (727, p19), (726, p18), (724, p17), (723, p16), (722, p15), (721, p14), (720, p13), (719, p12), (716, p11), (715, p10), (714, p9), (713, p8), (711, p7), (710, p6), (709, p5), (708, p4), (707, p3), (706, p2), (705, p1), (701, p0), (0, a), (7, q8), (30, r8_0), (29, r8_1), (28, r8_2), (6, q7), (27, r7_0), (26, r7_1), (25, r7_2), (10, q6), (5, q5), (24, r5_0), (23, r5_1), (22, r5_2), (4, q4), (21, r4_0), (20, r4_1), (9, q3), (8, q2), (3, q1), (2, r1_0), (16, r1_1), (19, r1_2), (18, r1_3), (17, r1_4), (1, q0), (15, r0_0), (14, r0_1), (13, r0_2), (12, r0_3), (11, r0_4)] i) (cellOf w (ad0 [(57, o), (600, m), (741, p24), (737, p23), (732, p22), (731, p21), (728, p20), (727, p19), (726, p18), (724, p17), (723, p16), (722, p15), (721, p14), (720, p13), (719, p12), (716, p11), (715, p10), (714, p9), (713, p8), (711, p7), (710, p6), (709, p5), (708, p4), (707, p3), (706, p2), (705, p1), (701, p0), (0, a), (7, q8), (30, r8_0), (29, r8_1), (28, r8_2), (6, q7), (27, r7_0), (26, r7_1), (25, r7_2), (10, q6), (5, q5), (24, r5_0), (23, r5_1), (22, r5_2), (4, q4), (21, r4_0), (20, r4_1), (9, q3), (8, q2), (3, q1), (2, r1_0), (16, r1_1), (19, r1_2), (18, r1_3), (17, r1_4), (1, q0), (15, r0_0), (14, r0_1), (13, r0_2), (12, r0_3), (11, r0_4)]) S0 i) := by
    unfold ids0
    simp only [List.forall_mem_cons]
    refine ⟨?_, ?_, ?_, ?_, ?_, ?_, ?_, ?_, ?_, ?_, ?_, ?_, ?_, ?_, ?_, ?_, ?_, ?_, ?_, ?_, ?_, ?_, ?_, ?_, ?_, ?_, ?_, ?_, ?_, ?_, ?_, ?_, ?_, ?_, ?_, ?_, ?_, ?_, ?_, ?_, ?_, ?_, ?_, ?_, ?_, ?_, ?_, ?_, ?_, ?_, ?_, ?_, ?_, ?_, ?_, ?_, ?_, ?_, fun _ h => absurd h List.not_mem_nil⟩
    · exact h57
    · exact up2 hO2
    · exact up2 m_p24
    · show zhs _ _ (xi w 100 (sI S0 737))
      rw [S0_f (by decide)]
      exact up2 m_p23
    · show zhs _ _ (xi w 50 (sI S0 732))
      rw [S0_f (by decide)]
      exact up2 m_p22
    · show zhs _ _ (xi w 50 (sI S0 731))
      rw [S0_f (by decide)]
      exact up2 m_p21
    · show zhs _ _ (xi w 6480 (sI S0 728))
      rw [S0_f (by decide)]
      exact up2 m_p20
    · show zhs _ _ (xi w 6480 (sI S0 727))
      rw [S0_f (by decide)]
      exact up2 m_p19
    · show zhs _ _ (xi w 6480 (sI S0 726))
      rw [S0_f (by decide)]
      exact up2 m_p18
    · show zhs _ _ (xz w 27 (sI S0 724))
      rw [S0_f (by decide)]
      exact up2 m_p17
    · show zhs _ _ (xi w 1800 (sI S0 723))
      rw [S0_f (by decide)]
      exact up2 m_p16
    · show zhs _ _ (xi w 1800 (sI S0 722))
      rw [S0_f (by decide)]
      exact up2 m_p15
    · show zhs _ _ (xi w 20 (sI S0 721))
      rw [S0_f (by decide)]
      exact up2 m_p14
    · show zhs _ _ (xi w 20 (sI S0 720))
      rw [S0_f (by decide)]
      exact up2 m_p13
    · show zhs _ _ (xi w 20 (sI S0 719))
      rw [S0_f (by decide)]
      exact up2 m_p12
    · show zhs _ _ (xi w 160 (sI S0 716))
      rw [S0_f (by decide)]
      exact up2 m_p11
    · exact up2 m_p10
    · exact up2 m_p9
    · show zhs _ _ (xi w 100 (sI S0 713))
      rw [S0_f (by decide)]
      exact up2 m_p8
    · show zhs _ _ (xi w 160 (sI S0 711))
      rw [S0_f (by decide)]
      exact up2 m_p7
    · show zhs _ _ (xi w 160 (sI S0 710))
      rw [S0_f (by decide)]
      exact up2 m_p6
    · show zhs _ _ (xi w 160 (sI S0 709))
      rw [S0_f (by decide)]
      exact up2 m_p5
    · show zhs _ _ (xi w 40 (sI S0 708))
      rw [S0_f (by decide)]
      exact up2 m_p4
    · show zhs _ _ (xi w 40 (sI S0 707))
      rw [S0_f (by decide)]
      exact up2 m_p3
    · exact up2 m_p2
    · show zhs _ _ (xi w 40 (sI S0 705))
      rw [S0_f (by decide)]
      exact up2 m_p1
    · show zhs _ _ (xi w 100 (sI S0 701))
      rw [S0_f (by decide)]
      exact up2 m_p0
    · exact up1 hO
    · exact up1 k_q8
    · show zhs _ _ (xi w 32 (sI S0 30))
      rw [S0_f (by decide)]
      exact up1 k_r8_0
    · show zhs _ _ (xi w 32 (sI S0 29))
      rw [S0_f (by decide)]
      exact up1 k_r8_1
    · show zhs _ _ (xi w 32 (sI S0 28))
      rw [S0_f (by decide)]
      exact up1 k_r8_2
    · exact up1 k_q7
    · show zhs _ _ (xi w 32 (sI S0 27))
      rw [S0_f (by decide)]
      exact up1 k_r7_0
    · show zhs _ _ (xi w 32 (sI S0 26))
      rw [S0_f (by decide)]
      exact up1 k_r7_1
    · show zhs _ _ (xi w 32 (sI S0 25))
      rw [S0_f (by decide)]
      exact up1 k_r7_2
    · exact up1 k_q6
    · exact up1 k_q5
    · show zhs _ _ (xi w 32 (sI S0 24))
      rw [S0_f (by decide)]
      exact up1 k_r5_0
    · show zhs _ _ (xi w 32 (sI S0 23))
      rw [S0_f (by decide)]
      exact up1 k_r5_1
    · show zhs _ _ (xi w 32 (sI S0 22))
      rw [S0_f (by decide)]
      exact up1 k_r5_2
    · exact up1 k_q4
    · show zhs _ _ (xi w 50 (sI S0 21))
      rw [S0_f (by decide)]
      exact up1 k_r4_0
    · show zhs _ _ (xi w 50 (sI S0 20))
      rw [S0_f (by decide)]
      exact up1 k_r4_1
    · show zhs _ _ (xz w 27 (sI S0 9))
      rw [S0_f (by decide)]
      exact up1 k_q3
    · have e : (fun k => if k < sN S0 3 then some (ad0 [(57, o), (600, m), (741, p24), (737, p23), (732, p22), (731, p21), (728, p20), (727, p19), (726, p18), (724, p17), (723, p16), (722, p15), (721, p14), (720, p13), (719, p12), (716, p11), (715, p10), (714, p9), (713, p8), (711, p7), (710, p6), (709, p5), (708, p4), (707, p3), (706, p2), (705, p1), (701, p0), (0, a), (7, q8), (30, r8_0), (29, r8_1), (28, r8_2), (6, q7), (27, r7_0), (26, r7_1), (25, r7_2), (10, q6), (5, q5), (24, r5_0), (23, r5_1), (22, r5_2), (4, q4), (21, r4_0), (20, r4_1), (9, q3), (8, q2), (3, q1), (2, r1_0), (16, r1_1), (19, r1_2), (18, r1_3), (17, r1_4), (1, q0), (15, r0_0), (14, r0_1), (13, r0_2), (12, r0_3), (11, r0_4)] (460 + 3 * k)) else sR S0 8 k) = fun _ => none := funext fun k => if_neg (Nat.not_lt_zero k)
      show zhs _ _ (xr w 8 20 (fun k => if k < sN S0 3 then some (ad0 [(57, o), (600, m), (741, p24), (737, p23), (732, p22), (731, p21), (728, p20), (727, p19), (726, p18), (724, p17), (723, p16), (722, p15), (721, p14), (720, p13), (719, p12), (716, p11), (715, p10), (714, p9), (713, p8), (711, p7), (710, p6), (709, p5), (708, p4), (707, p3), (706, p2), (705, p1), (701, p0), (0, a), (7, q8), (30, r8_0), (29, r8_1), (28, r8_2), (6, q7), (27, r7_0), (26, r7_1), (25, r7_2), (10, q6), (5, q5), (24, r5_0), (23, r5_1), (22, r5_2), (4, q4), (21, r4_0), (20, r4_1), (9, q3), (8, q2), (3, q1), (2, r1_0), (16, r1_1), (19, r1_2), (18, r1_3), (17, r1_4), (1, q0), (15, r0_0), (14, r0_1), (13, r0_2), (12, r0_3), (11, r0_4)] (460 + 3 * k)) else sR S0 8 k))
      rw [e]
      exact up1 k_q2
    · exact up1 k_q1
    · exact up1 k_r1_0
    · show zhs _ _ (xc w 160 (sI S0 16))
      rw [S0_f (by decide)]
      exact up1 k_r1_1
    · show zhs _ _ (xi w 80 (sI S0 19))
      rw [S0_f (by decide)]
      exact up1 k_r1_2
    · show zhs _ _ (xi w 80 (sI S0 18))
      rw [S0_f (by decide)]
      exact up1 k_r1_3
    · show zhs _ _ (xi w 80 (sI S0 17))
      rw [S0_f (by decide)]
      exact up1 k_r1_4
    · exact up1 k_q0
    · have e : (fun k => if k < sN S0 0 + sN S0 1 + sN S0 2 then some (ad0 [(57, o), (600, m), (741, p24), (737, p23), (732, p22), (731, p21), (728, p20), (727, p19), (726, p18), (724, p17), (723, p16), (722, p15), (721, p14), (720, p13), (719, p12), (716, p11), (715, p10), (714, p9), (713, p8), (711, p7), (710, p6), (709, p5), (708, p4), (707, p3), (706, p2), (705, p1), (701, p0), (0, a), (7, q8), (30, r8_0), (29, r8_1), (28, r8_2), (6, q7), (27, r7_0), (26, r7_1), (25, r7_2), (10, q6), (5, q5), (24, r5_0), (23, r5_1), (22, r5_2), (4, q4), (21, r4_0), (20, r4_1), (9, q3), (8, q2), (3, q1), (2, r1_0), (16, r1_1), (19, r1_2), (18, r1_3), (17, r1_4), (1, q0), (15, r0_0), (14, r0_1), (13, r0_2), (12, r0_3), (11, r0_4)] (sN S0 (1000 + k))) else sR S0 15 k) = fun _ => none := funext fun k => if_neg (Nat.not_lt_zero k)
      show zhs _ _ (xr w 7 240 (fun k => if k < sN S0 0 + sN S0 1 + sN S0 2 then some (ad0 [(57, o), (600, m), (741, p24), (737, p23), (732, p22), (731, p21), (728, p20), (727, p19), (726, p18), (724, p17), (723, p16), (722, p15), (721, p14), (720, p13), (719, p12), (716, p11), (715, p10), (714, p9), (713, p8), (711, p7), (710, p6), (709, p5), (708, p4), (707, p3), (706, p2), (705, p1), (701, p0), (0, a), (7, q8), (30, r8_0), (29, r8_1), (28, r8_2), (6, q7), (27, r7_0), (26, r7_1), (25, r7_2), (10, q6), (5, q5), (24, r5_0), (23, r5_1), (22, r5_2), (4, q4), (21, r4_0), (20, r4_1), (9, q3), (8, q2), (3, q1), (2, r1_0), (16, r1_1), (19, r1_2), (18, r1_3), (17, r1_4), (1, q0), (15, r0_0), (14, r0_1), (13, r0_2), (12, r0_3), (11, r0_4)] (sN S0 (1000 + k))) else sR S0 15 k))
      rw [e]
      exact up1 k_r0_0
    · have e : (fun k => if k < sN S0 2 then some (ad0 [(57, o), (600, m), (741, p24), (737, p23), (732, p22), (731, p21), (728, p20), (727, p19), (726, p18), (724, p17), (723, p16), (722, p15), (721, p14), (720, p13), (719, p12), (716, p11), (715, p10), (714, p9), (713, p8), (711, p7), (710, p6), (709, p5), (708, p4), (707, p3), (706, p2), (705, p1), (701, p0), (0, a), (7, q8), (30, r8_0), (29, r8_1), (28, r8_2), (6, q7), (27, r7_0), (26, r7_1), (25, r7_2), (10, q6), (5, q5), (24, r5_0), (23, r5_1), (22, r5_2), (4, q4), (21, r4_0), (20, r4_1), (9, q3), (8, q2), (3, q1), (2, r1_0), (16, r1_1), (19, r1_2), (18, r1_3), (17, r1_4), (1, q0), (15, r0_0), (14, r0_1), (13, r0_2), (12, r0_3), (11, r0_4)] (300 + k)) else sR S0 14 k) = fun _ => none := funext fun k => if_neg (Nat.not_lt_zero k)
      show zhs _ _ (xr w 6 160 (fun k => if k < sN S0 2 then some (ad0 [(57, o), (600, m), (741, p24), (737, p23), (732, p22), (731, p21), (728, p20), (727, p19), (726, p18), (724, p17), (723, p16), (722, p15), (721, p14), (720, p13), (719, p12), (716, p11), (715, p10), (714, p9), (713, p8), (711, p7), (710, p6), (709, p5), (708, p4), (707, p3), (706, p2), (705, p1), (701, p0), (0, a), (7, q8), (30, r8_0), (29, r8_1), (28, r8_2), (6, q7), (27, r7_0), (26, r7_1), (25, r7_2), (10, q6), (5, q5), (24, r5_0), (23, r5_1), (22, r5_2), (4, q4), (21, r4_0), (20, r4_1), (9, q3), (8, q2), (3, q1), (2, r1_0), (16, r1_1), (19, r1_2), (18, r1_3), (17, r1_4), (1, q0), (15, r0_0), (14, r0_1), (13, r0_2), (12, r0_3), (11, r0_4)] (300 + k)) else sR S0 14 k))
      rw [e]
      exact up1 k_r0_1
    · have e : (fun k => if k < sN S0 1 then some (ad0 [(57, o), (600, m), (741, p24), (737, p23), (732, p22), (731, p21), (728, p20), (727, p19), (726, p18), (724, p17), (723, p16), (722, p15), (721, p14), (720, p13), (719, p12), (716, p11), (715, p10), (714, p9), (713, p8), (711, p7), (710, p6), (709, p5), (708, p4), (707, p3), (706, p2), (705, p1), (701, p0), (0, a), (7, q8), (30, r8_0), (29, r8_1), (28, r8_2), (6, q7), (27, r7_0), (26, r7_1), (25, r7_2), (10, q6), (5, q5), (24, r5_0), (23, r5_1), (22, r5_2), (4, q4), (21, r4_0), (20, r4_1), (9, q3), (8, q2), (3, q1), (2, r1_0), (16, r1_1), (19, r1_2), (18, r1_3), (17, r1_4), (1, q0), (15, r0_0), (14, r0_1), (13, r0_2), (12, r0_3), (11, r0_4)] (220 + 2 * k)) else sR S0 13 k) = fun _ => none := funext fun k => if_neg (Nat.not_lt_zero k)
      show zhs _ _ (xr w 5 40 (fun k => if k < sN S0 1 then some (ad0 [(57, o), (600, m), (741, p24), (737, p23), (732, p22), (731, p21), (728, p20), (727, p19), (726, p18), (724, p17), (723, p16), (722, p15), (721, p14), (720, p13), (719, p12), (716, p11), (715, p10), (714, p9), (713, p8), (711, p7), (710, p6), (709, p5), (708, p4), (707, p3), (706, p2), (705, p1), (701, p0), (0, a), (7, q8), (30, r8_0), (29, r8_1), (28, r8_2), (6, q7), (27, r7_0), (26, r7_1), (25, r7_2), (10, q6), (5, q5), (24, r5_0), (23, r5_1), (22, r5_2), (4, q4), (21, r4_0), (20, r4_1), (9, q3), (8, q2), (3, q1), (2, r1_0), (16, r1_1), (19, r1_2), (18, r1_3), (17, r1_4), (1, q0), (15, r0_0), (14, r0_1), (13, r0_2), (12, r0_3), (11, r0_4)] (220 + 2 * k)) else sR S0 13 k))
      rw [e]
      exact up1 k_r0_2
    · have e : (fun k => if k < sN S0 0 then some (ad0 [(57, o), (600, m), (741, p24), (737, p23), (732, p22), (731, p21), (728, p20), (727, p19), (726, p18), (724, p17), (723, p16), (722, p15), (721, p14), (720, p13), (719, p12), (716, p11), (715, p10), (714, p9), (713, p8), (711, p7), (710, p6), (709, p5), (708, p4), (707, p3), (706, p2), (705, p1), (701, p0), (0, a), (7, q8), (30, r8_0), (29, r8_1), (28, r8_2), (6, q7), (27, r7_0), (26, r7_1), (25, r7_2), (10, q6), (5, q5), (24, r5_0), (23, r5_1), (22, r5_2), (4, q4), (21, r4_0), (20, r4_1), (9, q3), (8, q2), (3, q1), (2, r1_0), (16, r1_1), (19, r1_2), (18, r1_3), (17, r1_4), (1, q0), (15, r0_0), (14, r0_1), (13, r0_2), (12, r0_3), (11, r0_4)] (100 + 3 * k)) else sR S0 12 k) = fun _ => none := funext fun k => if_neg (Nat.not_lt_zero k)
      show zhs _ _ (xr w 4 40 (fun k => if k < sN S0 0 then some (ad0 [(57, o), (600, m), (741, p24), (737, p23), (732, p22), (731, p21), (728, p20), (727, p19), (726, p18), (724, p17), (723, p16), (722, p15), (721, p14), (720, p13), (719, p12), (716, p11), (715, p10), (714, p9), (713, p8), (711, p7), (710, p6), (709, p5), (708, p4), (707, p3), (706, p2), (705, p1), (701, p0), (0, a), (7, q8), (30, r8_0), (29, r8_1), (28, r8_2), (6, q7), (27, r7_0), (26, r7_1), (25, r7_2), (10, q6), (5, q5), (24, r5_0), (23, r5_1), (22, r5_2), (4, q4), (21, r4_0), (20, r4_1), (9, q3), (8, q2), (3, q1), (2, r1_0), (16, r1_1), (19, r1_2), (18, r1_3), (17, r1_4), (1, q0), (15, r0_0), (14, r0_1), (13, r0_2), (12, r0_3), (11, r0_4)] (100 + 3 * k)) else sR S0 12 k))
      rw [e]
      exact up1 k_r0_3
    · show zhs _ _ (xi w 100 (sI S0 11))
      rw [S0_f (by decide)]
      exact up1 k_r0_4
  exact hall i (ids0_live hi)
