/-! a rule told, class and reference -/
def fr6 (r : Nat) (S T : ST) : Prop := sN T 30 = sN S 30 ∧ (∀ k, k ≠ 40 → sI T 600 k = sI S 600 k) ∧ (sN S 30 = r → (∀ j, j < r → sI T 721 j = sI S 721 j) ∧ ∀ x, x < 90 * r → sI T 722 x = sI S 722 x ∧ sI T 723 x = sI S 723 x)
theorem fr6.rf {r : Nat} {S : ST} : fr6 r S S := ⟨rfl, fun _ _ => rfl, fun _ => ⟨fun _ _ => rfl, fun _ _ => ⟨rfl, rfl⟩⟩⟩
theorem fr6.tr {r : Nat} {S T U : ST} (h : fr6 r S T) (g : fr6 r T U) : fr6 r S U := ⟨g.1.trans h.1, fun k hk => (g.2.1 k hk).trans (h.2.1 k hk), fun e => by
  obtain ⟨a, b⟩ := h.2.2 e
  obtain ⟨c, d⟩ := g.2.2 (h.1.trans e)
  exact ⟨fun j hj => (c j hj).trans (a j hj), fun x hx => ⟨(d x hx).1.trans (b x hx).1, (d x hx).2.trans (b x hx).2⟩⟩⟩
theorem fr6.put {r : Nat} {S : ST} {x y : Int32} : fr6 r S (mput S x y) := by
  refine ⟨rfl, fun k _ => ?_, fun e => ⟨fun j hj => ?_, fun z hz => ⟨?_, ?_⟩⟩⟩
  · unfold mput
    rw [wIo (by decide), wIo (by decide), wIo (by decide)]
  · unfold mput
    rw [wIs]
    exact if_neg (by omega)
  · unfold mput
    rw [wIo (by decide), wIo (by decide), wIs]
    unfold upd
    rw [if_neg (by omega)]
  · unfold mput
    rw [wIo (by decide), wIs]
    unfold upd
    rw [if_neg (by omega)]
theorem fr6.n {r : Nat} {S : ST} {m v : Nat} (h : m ≠ 30) : fr6 r S (wN S m v) := ⟨wN_ne (fun z => h z.symm), fun _ _ => rfl, fun _ => ⟨fun _ _ => rfl, fun _ _ => ⟨rfl, rfl⟩⟩⟩
theorem fr6.wai {r : Nat} {S : ST} {x : Int32} : fr6 r S (mwai S x) := by
  obtain ⟨a, b, c, d⟩ := mwai_st (M := S) (x := x)
  refine ⟨d 30 (by decide), fun k _ => by rw [b 600 (by decide)], fun _ => ⟨fun j _ => by rw [b 721 (by decide)], fun z _ => by rw [b 722 (by decide), b 723 (by decide)]; exact ⟨rfl, rfl⟩⟩⟩
theorem fr6.s6 {r : Nat} {S : ST} {x : Int32} : fr6 r S (w6 S 40 x) := by
  refine ⟨rfl, fun k hk => ?_, fun _ => ⟨fun j _ => by rw [w6_I (by decide)], fun z _ => by rw [w6_I (by decide), w6_I (by decide)]; exact ⟨rfl, rfl⟩⟩⟩
  unfold w6
  rw [wIs, va_up_ne _ _ hk]
theorem fr6.nx {r : Nat} {S : ST} : fr6 r S (mnx S) := ⟨mnx_N (by decide), fun k _ => by rw [mnx_s], fun _ => ⟨fun j _ => by rw [mnx_s], fun z _ => by rw [mnx_s, mnx_s]; exact ⟨rfl, rfl⟩⟩⟩
theorem fr6.rel {r : Nat} {x : Int32} : ∀ {n : Nat} {S : ST}, fr6 r S (mrel x n S)
  | 0, _ => fr6.rf
  | n + 1, S => by
    unfold mrel
    split
    · exact fr6.rf
    · exact ((fr6.n (by decide)).tr fr6.put).tr fr6.rel
theorem fr6.dn {r : Nat} {S : ST} : fr6 r S (mDn S).1 := by
  unfold mDn
  split
  · split
    · exact fr6.nx.tr fr6.put
    · exact fr6.nx
  · exact fr6.nx.tr (fr6.n (by decide))
theorem fr6.tm {r : Nat} {S : ST} {s : Int32} : fr6 r S (mTm S s).1 := by
  unfold mTm
  split
  · exact fr6.put
  split
  · exact fr6.put
  split
  · exact fr6.put
  split
  · exact fr6.put
  split
  · exact fr6.put
  split
  · exact fr6.put
  split
  · exact fr6.dn
  · exact fr6.rf
theorem fr6.rw' {r : Nat} {S : ST} {x : Int32} : fr6 r S (mRw S x) := fr6.rel.tr fr6.wai
theorem fr6.sg {r : Nat} {S : ST} : fr6 r S (mSg S).1 := by
  unfold mSg
  split
  · exact fr6.rw'.tr fr6.s6
  split
  · split
    · exact fr6.rf
    · exact fr6.rw'.tr fr6.s6
  split
  · exact fr6.rw'.tr fr6.s6
  split
  · exact ((fr6.rel.tr (fr6.n (by decide))).tr (fr6.n (by decide))).tr fr6.s6
  · exact fr6.rf
theorem fr6.tk {r : Nat} {S : ST} {s : Int32} : fr6 r S (mTk S s).1 := by
  unfold mTk
  split
  · exact fr6.sg
  split
  · exact fr6.wai
  split
  · split
    · exact fr6.rf
    · exact fr6.wai.tr (fr6.n (by decide))
  split
  · exact fr6.tm.tr fr6.s6
  · exact fr6.tm
theorem fr6.end {r : Nat} {S : ST} : fr6 r S (mEnd S).1 := by
  unfold mEnd
  split
  · exact fr6.n (by decide)
  · exact fr6.rel
theorem fr6.go {r : Nat} : ∀ {n : Nat} {S : ST}, fr6 r S (mGo r n S).1
  | 0, _ => fr6.rf
  | n + 1, S => by
    unfold mGo
    split
    · split
      · exact (fr6.nx.tr fr6.tk).tr fr6.go
      · exact fr6.nx.tr fr6.tk
    · exact fr6.nx.tr fr6.end
theorem mGo_79 {r : Nat} : ∀ {n : Nat} {S : ST}, sI (mGo r n S).1 719 = sI S 719 ∧ sI (mGo r n S).1 720 = sI S 720 := fun {n S} => by
  have := mGo_kp (r := r) (n := n) (S := S)
  exact ⟨this.2.2.2 719 (by decide) (by decide) (by decide) (by decide) (by decide), this.2.2.2 720 (by decide) (by decide) (by decide) (by decide) (by decide)⟩
theorem fr6.no {r : Nat} {S : ST} : fr6 r S (mNo S) := by
  unfold mNo
  split
  · exact fr6.nx
  · exact fr6.nx.tr (fr6.n (by decide))
theorem fr6.i {r i : Nat} {S : ST} {f : Nat → Int32} (h : i = 719 ∨ i = 720) : fr6 r S (wI S i f) := ⟨rfl, fun k _ => by rw [wIo (by omega)], fun _ => ⟨fun j _ => by rw [wIo (by omega)], fun z _ => by rw [wIo (by omega), wIo (by omega)]; exact ⟨rfl, rfl⟩⟩⟩
theorem mNo_I {S : ST} {m : Nat} : sI (mNo S) m = sI S m := by
  unfold mNo
  split
  · exact mnx_s
  · rw [wNI]; exact mnx_s
/-- what reading leaves of earlier rules and of the object -/
theorem mRd_fr {S : ST} {r : Nat} : (∀ k, k ≠ 40 → sI (mRd S r).1 600 k = sI S 600 k) ∧ (∀ j, j < r → sI (mRd S r).1 719 j = sI S 719 j ∧ sI (mRd S r).1 720 j = sI S 720 j ∧ sI (mRd S r).1 721 j = sI S 721 j) ∧ ∀ x, x < 90 * r → sI (mRd S r).1 722 x = sI S 722 x ∧ sI (mRd S r).1 723 x = sI S 723 x := by
  have b0 : (∀ k, k ≠ 40 → sI (mS0 S r) 600 k = sI S 600 k) ∧ (∀ j, j < r → sI (mS0 S r) 719 j = sI S 719 j ∧ sI (mS0 S r) 720 j = sI S 720 j ∧ sI (mS0 S r) 721 j = sI S 721 j) ∧ (∀ x, sI (mS0 S r) 722 x = sI S 722 x ∧ sI (mS0 S r) 723 x = sI S 723 x) ∧ sN (mS0 S r) 30 = r := by
    refine ⟨fun k hk => ?_, fun j hj => ⟨?_, ?_, ?_⟩, fun x => ⟨?_, ?_⟩, ?_⟩
    · unfold mS0 w6
      rw [wIo (by decide), wIs, va_up_ne _ _ hk]
      rfl
    · unfold mS0
      rw [wIo (by decide), w6_I (by decide)]
      rfl
    · unfold mS0
      rw [wIo (by decide), w6_I (by decide)]
      rfl
    · unfold mS0
      rw [wIs]
      exact if_neg (by omega)
    · unfold mS0
      rw [wIo (by decide), w6_I (by decide)]
      rfl
    · unfold mS0
      rw [wIo (by decide), w6_I (by decide)]
      rfl
    · unfold mS0
      show sN (w6 (wN (wN (wN (wN (wN S 30 r) 28 0) 29 0) 31 0) 32 0) 40 0) 30 = r
      rw [w6n, wN_ne (by decide), wN_ne (by decide), wN_ne (by decide), wN_ne (by decide), wN_self]
  have s1 : fr6 r (mS0 S r) (mS1 (mS0 S r) r) := fr6.no.tr (fr6.i (Or.inl rfl))
  have s2 : fr6 r (mS1 (mS0 S r) r) (mS2 (mS1 (mS0 S r) r) r) := fr6.no.tr (fr6.i (Or.inr rfl))
  have e1 : ∀ j, j < r → sI (mS1 (mS0 S r) r) 719 j = sI (mS0 S r) 719 j ∧ sI (mS1 (mS0 S r) r) 720 j = sI (mS0 S r) 720 j := fun j hj => by
    unfold mS1
    rw [wIs, wIo (by decide), mNo_I, mNo_I]
    exact ⟨if_neg (by omega), rfl⟩
  have e2 : ∀ j, j < r → sI (mS2 (mS1 (mS0 S r) r) r) 719 j = sI (mS1 (mS0 S r) r) 719 j ∧ sI (mS2 (mS1 (mS0 S r) r) r) 720 j = sI (mS1 (mS0 S r) r) 720 j := fun j hj => by
    unfold mS2
    rw [wIs, wIo (by decide), mNo_I, mNo_I]
    exact ⟨rfl, if_neg (by omega)⟩
  have close : ∀ T, fr6 r (mS0 S r) T → (∀ j, j < r → sI T 719 j = sI (mS0 S r) 719 j ∧ sI T 720 j = sI (mS0 S r) 720 j) → (∀ k, k ≠ 40 → sI T 600 k = sI S 600 k) ∧ (∀ j, j < r → sI T 719 j = sI S 719 j ∧ sI T 720 j = sI S 720 j ∧ sI T 721 j = sI S 721 j) ∧ ∀ x, x < 90 * r → sI T 722 x = sI S 722 x ∧ sI T 723 x = sI S 723 x := fun T f g => by
    obtain ⟨f1, f2, f3⟩ := f
    obtain ⟨f4, f5⟩ := f3 b0.2.2.2
    refine ⟨fun k hk => (f2 k hk).trans (b0.1 k hk), fun j hj => ⟨(g j hj).1.trans (b0.2.1 j hj).1, (g j hj).2.trans (b0.2.1 j hj).2.1, (f4 j hj).trans (b0.2.1 j hj).2.2⟩, fun x hx => ⟨(f5 x hx).1.trans (b0.2.2.1 x).1, (f5 x hx).2.trans (b0.2.2.1 x).2⟩⟩
  unfold mRd mRd1
  split
  · unfold mRd2
    split
    · refine close _ ((s1.tr s2).tr fr6.go) (fun j hj => ?_)
      rw [mGo_79.1, mGo_79.2]
      exact ⟨(e2 j hj).1.trans (e1 j hj).1, (e2 j hj).2.trans (e1 j hj).2⟩
    · exact close _ (s1.tr s2) (fun j hj => ⟨(e2 j hj).1.trans (e1 j hj).1, (e2 j hj).2.trans (e1 j hj).2⟩)
  · exact close _ s1 e1
/-- what the class's reader changes -/
def frC (S T : ST) : Prop := (∀ m, m ≠ 3 → m ≠ 17 → m ≠ 18 → m ≠ 19 → sI T m = sI S m) ∧ (∀ m, sJ T m = sJ S m) ∧ (∀ m, sR T m = sR S m) ∧ ∀ m, (m < 10 ∨ 15 < m) → sN T m = sN S m
theorem frC.tr {S T U : ST} (h : frC S T) (g : frC T U) : frC S U := ⟨fun m a b c d => (g.1 m a b c d).trans (h.1 m a b c d), fun m => (g.2.1 m).trans (h.2.1 m), fun m => (g.2.2.1 m).trans (h.2.2.1 m), fun m hm => (g.2.2.2 m hm).trans (h.2.2.2 m hm)⟩
theorem frC.rd {S T : ST} (h : rdC S T) : frC S T := ⟨h.1, fun m => congrFun h.2.1 m, fun m => congrFun h.2.2.1 m, fun m hm => h.2.2.2 m (by omega) (by omega) (by omega)⟩
theorem frC.n {S : ST} {m v : Nat} (h : 10 ≤ m ∧ m ≤ 15) : frC S (wN S m v) := ⟨fun _ _ _ _ _ => rfl, fun _ => rfl, fun _ => rfl, fun k hk => wN_ne (by omega)⟩
theorem frC.nx {S : ST} : frC S (nxW S) := ⟨fun _ _ _ _ _ => rfl, fun _ => rfl, fun _ => rfl, fun k hk => nxW_N (by omega)⟩
theorem frC.wd {S T : ST} (h : tWd S = some T) : frC S T := by
  unfold tWd at h
  split at h
  · exact .rd (tSub_ok h).1.1
  split at h
  · exact .rd (tWei_ok h).1.1
  split at h
  · rename_i h2
    have hs : stOK (sI S 3 7) := Or.inl h2
    cases h1 : tNot S with
    | some U =>
      rw [h1, or_s] at h
      cases h
      exact .rd (tNot_ok h1 hs).1.1
    | none =>
      rw [h1, or_n] at h
      cases h2 : tOpn S with
      | some U =>
        rw [h2, or_s] at h
        cases h
        exact .rd (tOpn_ok h2 hs).1.1
      | none =>
        rw [h2, or_n] at h
        exact .rd (tTrm_ok h).1.1
  split at h
  · exact .rd (tTrm_ok h).1.1
  split at h
  · exact .rd (tKnd_ok h).1.1
  cases h1 : tOp S with
  | some U =>
    rw [h1, or_s] at h
    cases h
    exact .rd (tOp_ok h1).1.1
  | none =>
    rw [h1, or_n] at h
    exact .rd (tCls_ok h).1.1
theorem frC.go : ∀ (n : Nat) (S : ST), frC S (rdL n S).1
  | 0, S => ⟨fun _ _ _ _ _ => rfl, fun _ => rfl, fun _ => rfl, fun _ _ => rfl⟩
  | n + 1, S => by
    unfold rdL
    split
    · cases h : tWd (nxW S) with
      | none => exact frC.nx
      | some T => exact ((frC.nx.tr (frC.wd h)).tr (frC.n (by omega))).tr (frC.go n _)
    · exact frC.nx
theorem frC.st {S : ST} : frC S (stO S) := by
  unfold stO
  refine ⟨fun m a _ _ _ => ?_, fun _ => rfl, fun _ => rfl, fun m hm => ?_⟩
  · rw [w3i a, wNI, w3i a]
    rfl
  · rw [w3n, wN_ne (by omega), w3n, wN_ne (by omega), wN_ne (by omega), wN_ne (by omega), wN_ne (by omega)]

theorem cpy_at {f : Nat → Int32} {n i : Nat} (hn : n ≤ 80) (hi : i < n) : cpy80 f n i = f i := by
  unfold cpy80 va_cpy
  rw [if_pos (by omega), Nat.zero_add, Nat.sub_zero]
theorem rdE_fr {S : ST} : frC S (rdE S) := (frC.st.tr (frC.go 80 (stO S))).tr (.rd rdC.pod)
theorem gD.pt {S S' : ST} {q : Nat} (h : gD S) (hq : q = sN S 3) (hI : ∀ m, 460 ≤ m → m < 460 + 3 * q → sI S' m = sI S m) (hN : ∀ r, r < q → sN S' (3000 + r) = sN S (3000 + r)) (h7 : ∀ j, j < q → sI S' 719 j = sI S 719 j ∧ sI S' 720 j = sI S 720 j ∧ sI S' 721 j = sI S 721 j) (h72 : ∀ x, x < 90 * q → sI S' 722 x = sI S 722 x ∧ sI S' 723 x = sI S 723 x) : ∀ r, r < q → tldR S' r := by
  subst hq
  intro r hr
  obtain ⟨t1, t2, t3, t4, t5, t6, t7⟩ := h.2.2.1 r hr
  have hn := (h.2.2.2.1 r (by have := h.2.1; omega)).1
  unfold tldR
  rw [(h7 r hr).1, (h7 r hr).2.1, (h7 r hr).2.2, hI (460 + 3 * r) (by omega) (by omega), hI (461 + 3 * r) (by omega) (by omega), hI (462 + 3 * r) (by omega) (by omega), hN r hr]
  exact ⟨t1, t2, t3, t4, t5, fun i hi => by rw [(h72 _ (by omega)).1, (h72 _ (by omega)).2]; exact t6 i hi, t7⟩
theorem neg_eq (a : Nat) : (0 : Int32) - nI (a + 1) = -1 - nI a := by
  rw [← nI_1, Int32.sub_eq_add_neg, Int32.sub_eq_add_neg, Int32.neg_add, Int32.zero_add, Int32.add_comm]
  exact Int32.sub_eq_add_neg _ _
set_option maxHeartbeats 4000000 in
theorem si_rule0 {n : Nat} {S : ST} {v : Int64} (h : Sim n S) (hng : ¬ rdG S) (T : ST) (hT : T = outS (wN (rdL 80 (stO S)).1 9 0) v) : (mRd (thS T 0) (sN T 25)).2 = false ∧ Sim n (wN (mRd (thS T 0) (sN T 25)).1 24 0) ∧ (0 - nI (sN (mRd (thS T 0) (sN T 25)).1 29) = -1 - nI (sN (rdL 80 (stO S)).1 14)) ∧ sI (wN (mRd (thS T 0) (sN T 25)).1 24 0) 600 0 = 0 ∧ sJ (wN (mRd (thS T 0) (sN T 25)).1 24 0) 57 = sJ T 57 := by
  obtain ⟨f1, f2, f3, f4⟩ := frC.st.tr (frC.go 80 (stO S))
  have eI : ∀ m, m ≠ 3 → m ≠ 17 → m ≠ 18 → m ≠ 19 → sI T m = sI S m := fun m a b c d => by rw [hT]; exact f1 m a b c d
  have eJ : ∀ m, m ≠ 57 → sJ T m = sJ S m := fun m hm => by rw [hT, outJ hm]; exact f2 m
  have eR : ∀ m, sR T m = sR S m := fun m => by rw [hT]; exact f3 m
  have eN : ∀ m, m ≠ 9 → (m < 10 ∨ 15 < m) → sN T m = sN S m := fun m a b => by
    rw [hT]
    show sN (wN (rdL 80 (stO S)).1 9 0) m = _
    rw [wN_ne a]; exact f4 m b
  have e9 : sN T 9 = 0 := by
    rw [hT]
    show sN (wN (rdL 80 (stO S)).1 9 0) 9 = _
    rw [wN_self]
  have hX := h.2.2.2.2.1
  have hD := h.2.1
  have er : sN T 25 = sN S 3 := by rw [eN 25 (by decide) (by decide)]; exact hD.1
  have tx : txR S (thS T 0) := by
    refine ⟨?_, hX.1.2.1, fun j hj => ?_⟩
    · show sN S 9 = sN T 24
      rw [eN 24 (by decide) (by decide)]; exact hX.1.1
    · rw [thI (by decide), eI 716 (by decide) (by decide) (by decide) (by decide)]
      exact hX.1.2.2 j hj
  have hr := rl_sim (r := sN T 25) tx
  rcases hr with ⟨-, a2, a3, a4, -⟩ | ⟨a1, -, a3⟩
  · exact absurd ⟨a2, a3, a4⟩ hng
  obtain ⟨k1, k2, k3, k4⟩ := mRd_kp (S := thS T 0) (r := sN T 25)
  obtain ⟨m1, m2, m3⟩ := mRd_fr (S := thS T 0) (r := sN T 25)
  generalize (mRd (thS T 0) (sN T 25)).1 = X at *
  have xI : ∀ i, i ≠ 600 → i ≠ 719 → i ≠ 720 → i ≠ 721 → i ≠ 722 → i ≠ 723 → i ≠ 737 → i ≠ 3 → i ≠ 17 → i ≠ 18 → i ≠ 19 → sI (wN X 24 0) i = sI S i := fun i b0 b1 b2 b3 b4 b5 b6 b7 b8 b9 b10 => by
    rw [wNI, k4 i b0 b1 b2 b3 b4 b5 b6, thI b0, eI i b7 b8 b9 b10]
  have xN : ∀ m, m ≠ 24 → m ≠ 9 → (m < 10 ∨ (15 < m ∧ m < 27) ∨ 32 < m) → sN (wN X 24 0) m = sN S m := fun m a b c => by
    rw [wN_ne a, k3 m (by omega)]
    exact eN m b (by omega)
  have x6 : ∀ k, k ≠ 40 → k ≠ 0 → sI (wN X 24 0) 600 k = sI S 600 k := fun k a b => by
    rw [wNI, m1 k a, th6 b, eI 600 (by decide) (by decide) (by decide) (by decide)]
  refine ⟨a1, ?_, by rw [a3]; exact neg_eq _, by rw [wNI, m1 0 (by decide), th0], ?_⟩
  · refine h.rest (fun m hm => xI m (by omega) (by omega) (by omega) (by omega) (by omega) (by omega) (by omega) (by omega) (by omega) (by omega) (by omega)) (fun m hm => ?_) (fun m => ?_) (fun m hm => xN m (by omega) (by omega) (by omega)) ⟨by rw [xN 25 (by omega) (by omega) (by omega), xN 3 (by omega) (by omega) (by omega)]; exact hD.1, by rw [xN 3 (by omega) (by omega) (by omega)]; exact hD.2.1, ?_, fun r hr => ?_, fun r hr => by rw [xN (3000 + r) (by omega) (by omega) (by omega)]; exact hD.2.2.2.2 r hr⟩ (h.2.2.1.cg (xI 701 (by omega) (by omega) (by omega) (by omega) (by omega) (by omega) (by omega) (by omega) (by omega) (by omega) (by omega)) (xI 11 (by omega) (by omega) (by omega) (by omega) (by omega) (by omega) (by omega) (by omega) (by omega) (by omega) (by omega))) (h.2.2.2.1.cg (xI 724 (by omega) (by omega) (by omega) (by omega) (by omega) (by omega) (by omega) (by omega) (by omega) (by omega) (by omega)) (xI 9 (by omega) (by omega) (by omega) (by omega) (by omega) (by omega) (by omega) (by omega) (by omega) (by omega) (by omega)) (xN 3 (by omega) (by omega) (by omega))) ⟨⟨?_, ?_, fun j hj => ?_⟩, fun k => ?_⟩ (h.2.2.2.2.2.1.cg (same_hk h.1.1.2.1 (fun m x1 y => by rw [xI m (by omega) (by omega) (by omega) (by omega) (by omega) (by omega) (by omega) (by omega) (by omega) (by omega) (by omega)]) (fun m hm => xN m (by omega) (by omega) (by omega))) (fun m hm => xI m (by omega) (by omega) (by omega) (by omega) (by omega) (by omega) (by omega) (by omega) (by omega) (by omega) (by omega)) (xN 16 (by omega) (by omega) (by omega)) (xN 26 (by omega) (by omega) (by omega))) (h.2.2.2.2.2.2.1.cg ?_ (same_hk h.1.1.2.1 (fun m x1 y => by rw [xI m (by omega) (by omega) (by omega) (by omega) (by omega) (by omega) (by omega) (by omega) (by omega) (by omega) (by omega)]) (fun m hm => xN m (by omega) (by omega) (by omega))) (fun m hm => xI m (by omega) (by omega) (by omega) (by omega) (by omega) (by omega) (by omega) (by omega) (by omega) (by omega) (by omega)) (x6 29 (by decide) (by decide)) (fun m hm => xN m (by omega) (by omega) (by omega))) (h.2.2.2.2.2.2.2.cg (by rw [xI 0 (by omega) (by omega) (by omega) (by omega) (by omega) (by omega) (by omega) (by omega) (by omega) (by omega) (by omega)]) (x6 25 (by decide) (by decide)))
    · show sJ X m = _
      rw [show sJ X m = sJ (thS T 0) m from congrFun k2 m]
      exact eJ m (by omega)
    · show sR X m = _
      rw [show sR X m = sR (thS T 0) m from congrFun k1 m]
      exact eR m
    · rw [xN 3 (by omega) (by omega) (by omega)]
      have h3' := hD.2.1
      refine hD.pt (q := sN S 3) rfl (fun m a b => xI m (by omega) (by omega) (by omega) (by omega) (by omega) (by omega) (by omega) (by omega) (by omega) (by omega) (by omega)) (fun r hr => xN (3000 + r) (by omega) (by omega) (by omega)) (fun j hj => ?_) (fun x hx => ?_)
      · have := m2 j (by omega)
        rw [thI (by decide), thI (by decide), thI (by decide), eI 719 (by decide) (by decide) (by decide) (by decide), eI 720 (by decide) (by decide) (by decide) (by decide), eI 721 (by decide) (by decide) (by decide) (by decide)] at this
        exact this
      · have := m3 x (by omega)
        rw [thI (by decide), thI (by decide), eI 722 (by decide) (by decide) (by decide) (by decide), eI 723 (by decide) (by decide) (by decide) (by decide)] at this
        exact this
    · unfold wfR
      rw [xN (3000 + r) (by omega) (by omega) (by omega), xI (461 + 3 * r) (by omega) (by omega) (by omega) (by omega) (by omega) (by omega) (by omega) (by omega) (by omega) (by omega) (by omega), xI (462 + 3 * r) (by omega) (by omega) (by omega) (by omega) (by omega) (by omega) (by omega) (by omega) (by omega) (by omega) (by omega)]
      exact hD.2.2.2.1 r hr
    · rw [wN_self, wN_ne (by decide), k3 9 (by decide)]
      exact e9
    · rw [wN_ne (by decide), k3 9 (by decide)]
      show sN T 9 ≤ 160
      omega
    · rw [wN_ne (by decide), k3 9 (by decide)] at hj
      have : sN (thS T 0) 9 = 0 := e9
      omega
    · rw [xI 16 (by omega) (by omega) (by omega) (by omega) (by omega) (by omega) (by omega) (by omega) (by omega) (by omega) (by omega)]
      exact hX.2 k
    · have := h.1.1.2.1
      unfold bdS at this ⊢
      rw [xN 0 (by omega) (by omega) (by omega), xN 1 (by omega) (by omega) (by omega), xN 2 (by omega) (by omega) (by omega)]
      exact this
  · show sJ X 57 = _
    rw [show sJ X 57 = sJ (thS T 0) 57 from congrFun k2 57]
    rfl
set_option maxHeartbeats 4000000 in
theorem si_rule1 {n : Nat} {S : ST} {v : Int64} (h : Sim n S) (h20 : sN S 3 < 20) (hg : rdG S) (h12 : sN (rdE S) 12 ≤ 80) (T : ST) (hT : T = outS (ruleS (wN (rdE S) 9 0) (sI (rdE S) 3 10) (sI (rdE S) 3 11) (sN (rdE S) 12) (cpy80 (sI (rdE S) 17) (sN (rdE S) 12)) (cpy80 (sI (rdE S) 18) (sN (rdE S) 12))) v) : (mRd (thS T 0) (sN T 25)).2 = true ∧ Sim n (mRu (mRd (thS T 0) (sN T 25)).1) ∧ sN T 25 = sN S 3 ∧ sI (mRu (mRd (thS T 0) (sN T 25)).1) 600 0 = 0 ∧ sJ (mRu (mRd (thS T 0) (sN T 25)).1) 57 = sJ T 57 := by
  obtain ⟨f1, f2, f3, f4⟩ := rdE_fr (S := S)
  have q3 : sN (wN (rdE S) 9 0) 3 = sN S 3 := by rw [wN_ne (by decide), f4 3 (by decide)]
  have eI : ∀ m, m ≠ 3 → m ≠ 17 → m ≠ 18 → m ≠ 19 → m ≠ 460 + 3 * sN S 3 → m ≠ 461 + 3 * sN S 3 → m ≠ 462 + 3 * sN S 3 → sI T m = sI S m := fun m a b c d e f g => by
    rw [hT]
    show va_up (va_up (va_up (rdE S).1 (460 + 3 * sN (wN (rdE S) 9 0) 3) (fun j => if j = 0 then sI (rdE S) 3 10 else if j = 1 then sI (rdE S) 3 11 else 0)) (461 + 3 * sN (wN (rdE S) 9 0) 3) (cpy80 (sI (rdE S) 17) (sN (rdE S) 12))) (462 + 3 * sN (wN (rdE S) 9 0) 3) (cpy80 (sI (rdE S) 18) (sN (rdE S) 12)) m = _
    rw [q3, va_up_ne _ _ g, va_up_ne _ _ f, va_up_ne _ _ e]
    exact f1 m a b c d
  have e460 : sI T (460 + 3 * sN S 3) = (fun j => if j = 0 then sI (rdE S) 3 10 else if j = 1 then sI (rdE S) 3 11 else 0) := by
    rw [hT]
    show va_up (va_up (va_up (rdE S).1 (460 + 3 * sN (wN (rdE S) 9 0) 3) (fun j => if j = 0 then sI (rdE S) 3 10 else if j = 1 then sI (rdE S) 3 11 else 0)) (461 + 3 * sN (wN (rdE S) 9 0) 3) (cpy80 (sI (rdE S) 17) (sN (rdE S) 12))) (462 + 3 * sN (wN (rdE S) 9 0) 3) (cpy80 (sI (rdE S) 18) (sN (rdE S) 12)) (460 + 3 * sN S 3) = _
    rw [q3, va_up_ne _ _ (by omega), va_up_ne _ _ (by omega), va_up_self]
  have e461 : sI T (461 + 3 * sN S 3) = cpy80 (sI (rdE S) 17) (sN (rdE S) 12) := by
    rw [hT]
    show va_up (va_up (va_up (rdE S).1 (460 + 3 * sN (wN (rdE S) 9 0) 3) (fun j => if j = 0 then sI (rdE S) 3 10 else if j = 1 then sI (rdE S) 3 11 else 0)) (461 + 3 * sN (wN (rdE S) 9 0) 3) (cpy80 (sI (rdE S) 17) (sN (rdE S) 12))) (462 + 3 * sN (wN (rdE S) 9 0) 3) (cpy80 (sI (rdE S) 18) (sN (rdE S) 12)) (461 + 3 * sN S 3) = _
    rw [q3, va_up_ne _ _ (by omega), va_up_self]
  have e462 : sI T (462 + 3 * sN S 3) = cpy80 (sI (rdE S) 18) (sN (rdE S) 12) := by
    rw [hT]
    show va_up (va_up (va_up (rdE S).1 (460 + 3 * sN (wN (rdE S) 9 0) 3) (fun j => if j = 0 then sI (rdE S) 3 10 else if j = 1 then sI (rdE S) 3 11 else 0)) (461 + 3 * sN (wN (rdE S) 9 0) 3) (cpy80 (sI (rdE S) 17) (sN (rdE S) 12))) (462 + 3 * sN (wN (rdE S) 9 0) 3) (cpy80 (sI (rdE S) 18) (sN (rdE S) 12)) (462 + 3 * sN S 3) = _
    rw [q3, va_up_self]
  have eJ : ∀ m, m ≠ 57 → sJ T m = sJ S m := fun m hm => by rw [hT, outJ hm]; exact f2 m
  have eR : ∀ m, sR T m = sR S m := fun m => by rw [hT]; exact f3 m
  have eN : ∀ m, m ≠ 9 → m ≠ 3 → m ≠ 3000 + sN S 3 → (m < 10 ∨ 15 < m) → sN T m = sN S m := fun m a b c d => by
    rw [hT]
    show va_up (va_up (sN (wN (rdE S) 9 0)) 3 (sN (wN (rdE S) 9 0) 3 + 1)) (3000 + sN (wN (rdE S) 9 0) 3) (sN (rdE S) 12) m = _
    rw [q3, va_up_ne _ _ c, va_up_ne _ _ b, wN_ne a]
    exact f4 m d
  have e3 : sN T 3 = sN S 3 + 1 := by
    rw [hT]
    show va_up (va_up (sN (wN (rdE S) 9 0)) 3 (sN (wN (rdE S) 9 0) 3 + 1)) (3000 + sN (wN (rdE S) 9 0) 3) (sN (rdE S) 12) 3 = _
    rw [q3, va_up_ne _ _ (by omega), va_up_self]
  have e3k : sN T (3000 + sN S 3) = sN (rdE S) 12 := by
    rw [hT]
    show va_up (va_up (sN (wN (rdE S) 9 0)) 3 (sN (wN (rdE S) 9 0) 3 + 1)) (3000 + sN (wN (rdE S) 9 0) 3) (sN (rdE S) 12) (3000 + sN S 3) = _
    rw [q3, va_up_self]
  have e9 : sN T 9 = 0 := by
    rw [hT]
    show va_up (va_up (sN (wN (rdE S) 9 0)) 3 (sN (wN (rdE S) 9 0) 3 + 1)) (3000 + sN (wN (rdE S) 9 0) 3) (sN (rdE S) 12) 9 = _
    rw [va_up_ne _ _ (by omega), va_up_ne _ _ (by omega), wN_self]
  have hX := h.2.2.2.2.1
  have hD := h.2.1
  have er : sN T 25 = sN S 3 := by rw [eN 25 (by decide) (by decide) (by omega) (by decide)]; exact hD.1
  have tx : txR S (thS T 0) := by
    refine ⟨?_, hX.1.2.1, fun j hj => ?_⟩
    · show sN S 9 = sN T 24
      rw [eN 24 (by decide) (by decide) (by omega) (by decide)]; exact hX.1.1
    · rw [thI (by decide), eI 716 (by decide) (by decide) (by decide) (by decide) (by omega) (by omega) (by omega)]
      exact hX.1.2.2 j hj
  have hr := rl_sim (r := sN T 25) tx
  have hr1 : (mRd (thS T 0) (sN T 25)).2 = true ∧ fin (podF 1 (sN (rdL 80 (stO S)).1 13) (rdL 80 (stO S)).1) (mRd (thS T 0) (sN T 25)).1 (sN T 25) := by
    rcases hr with ⟨a1, -, -, -, a5⟩ | ⟨-, a2, -⟩
    · exact ⟨a1, a5⟩
    · exact absurd hg a2
  obtain ⟨a1, a5⟩ := hr1
  obtain ⟨k1, k2, k3, k4⟩ := mRd_kp (S := thS T 0) (r := sN T 25)
  obtain ⟨m1, m2, m3⟩ := mRd_fr (S := thS T 0) (r := sN T 25)
  rw [er] at a1 a5 k1 k2 k3 k4 m1 m2 m3 ⊢
  have a5 : fin (rdE S) (mRd (thS T 0) (sN S 3)).1 (sN S 3) := a5
  generalize hXg : (mRd (thS T 0) (sN S 3)).1 = X at *
  have x25 : sN X 25 = sN S 3 := by rw [k3 25 (by decide)]; exact er
  have xI : ∀ i, i ≠ 600 → i ≠ 719 → i ≠ 720 → i ≠ 721 → i ≠ 722 → i ≠ 723 → i ≠ 737 → i ≠ 724 → sI (mRu X) i = sI T i := fun i b0 b1 b2 b3 b4 b5 b6 b7 => by
    unfold mRu
    rw [wNI, wIo b7, wNI, k4 i b0 b1 b2 b3 b4 b5 b6, thI b0]
  have yI : ∀ i, i ≠ 600 → i ≠ 719 → i ≠ 720 → i ≠ 721 → i ≠ 722 → i ≠ 723 → i ≠ 737 → i ≠ 724 → i ≠ 3 → i ≠ 17 → i ≠ 18 → i ≠ 19 → (i < 460 + 3 * sN S 3 ∨ 462 + 3 * sN S 3 < i) → sI (mRu X) i = sI S i := fun i b0 b1 b2 b3 b4 b5 b6 b7 c1 c2 c3 c4 c5 => by
    rw [xI i b0 b1 b2 b3 b4 b5 b6 b7, eI i c1 c2 c3 c4 (by omega) (by omega) (by omega)]
  have xx : ∀ i, i ≠ 724 → sI (mRu X) i = sI X i := fun i b => by
    unfold mRu
    rw [wNI, wIo b, wNI]
  have xN : ∀ m, m ≠ 24 → m ≠ 9 → m ≠ 3 → m ≠ 25 → m ≠ 3000 + sN S 3 → (m < 10 ∨ (15 < m ∧ m < 27) ∨ 32 < m) → sN (mRu X) m = sN S m := fun m a b c d e f => by
    unfold mRu
    rw [wN_ne d]
    show sN (wN X 24 0) m = _
    rw [wN_ne a, k3 m (by omega)]
    exact eN m b c e (by omega)
  have x3 : sN (mRu X) 3 = sN S 3 + 1 := by
    unfold mRu
    rw [wN_ne (by decide)]
    show sN (wN X 24 0) 3 = _
    rw [wN_ne (by decide), k3 3 (by decide)]
    exact e3
  have x3k : sN (mRu X) (3000 + sN S 3) = sN (rdE S) 12 := by
    unfold mRu
    rw [wN_ne (by omega)]
    show sN (wN X 24 0) (3000 + sN S 3) = _
    rw [wN_ne (by omega), k3 _ (by omega)]
    exact e3k
  have x25' : sN (mRu X) 25 = sN S 3 + 1 := by
    unfold mRu
    rw [wN_self, x25]
  have x9 : sN (mRu X) 9 = 0 := by
    unfold mRu
    rw [wN_ne (by decide)]
    show sN (wN X 24 0) 9 = _
    rw [wN_ne (by decide), k3 9 (by decide)]
    exact e9
  have x24 : sN (mRu X) 24 = 0 := by
    unfold mRu
    rw [wN_ne (by decide)]
    show sN (wN X 24 0) 24 = _
    rw [wN_self]
  have x724 : sI (mRu X) 724 = upd (sI S 724) (7 + sN S 3) 0 := by
    unfold mRu
    rw [wNI, wIs, x25, k4 724 (by decide) (by decide) (by decide) (by decide) (by decide) (by decide) (by decide), thI (by decide), eI 724 (by decide) (by decide) (by decide) (by decide) (by omega) (by omega) (by omega)]
  have x6 : ∀ k, k ≠ 40 → k ≠ 0 → sI (mRu X) 600 k = sI S 600 k := fun k a b => by
    rw [xx 600 (by decide), m1 k a, th6 b, eI 600 (by decide) (by decide) (by decide) (by decide) (by omega) (by omega) (by omega)]
  have hF := h.2.2.2.1
  refine ⟨a1, ?_, rfl, by rw [xx 600 (by decide), m1 0 (by decide), th0], ?_⟩
  · refine h.rest (fun m hm => yI m (by omega) (by omega) (by omega) (by omega) (by omega) (by omega) (by omega) (by omega) (by omega) (by omega) (by omega) (by omega) (by omega)) (fun m hm => ?_) (fun m => ?_) (fun m hm => xN m (by omega) (by omega) (by omega) (by omega) (by omega) (by omega)) ⟨by rw [x25', x3], by rw [x3]; omega, fun r hr => ?_, fun r hr => ?_, fun r hr => by rw [xN (3000 + r) (by omega) (by omega) (by omega) (by omega) (by omega) (by omega)]; exact hD.2.2.2.2 r hr⟩ (h.2.2.1.cg (yI 701 (by omega) (by omega) (by omega) (by omega) (by omega) (by omega) (by omega) (by omega) (by omega) (by omega) (by omega) (by omega) (by omega)) (yI 11 (by omega) (by omega) (by omega) (by omega) (by omega) (by omega) (by omega) (by omega) (by omega) (by omega) (by omega) (by omega) (by omega))) (fun i hi => ?_) ⟨⟨by rw [x9, x24], by rw [x9]; omega, fun j hj => by rw [x9] at hj; omega⟩, fun k => ?_⟩ (h.2.2.2.2.2.1.cg (same_hk h.1.1.2.1 (fun m x1 y => by rw [yI m (by omega) (by omega) (by omega) (by omega) (by omega) (by omega) (by omega) (by omega) (by omega) (by omega) (by omega) (by omega) (by omega)]) (fun m hm => xN m (by omega) (by omega) (by omega) (by omega) (by omega) (by omega))) (fun m hm => yI m (by omega) (by omega) (by omega) (by omega) (by omega) (by omega) (by omega) (by omega) (by omega) (by omega) (by omega) (by omega) (by omega)) (xN 16 (by omega) (by omega) (by omega) (by omega) (by omega) (by omega)) (xN 26 (by omega) (by omega) (by omega) (by omega) (by omega) (by omega))) (h.2.2.2.2.2.2.1.cg ?_ (same_hk h.1.1.2.1 (fun m x1 y => by rw [yI m (by omega) (by omega) (by omega) (by omega) (by omega) (by omega) (by omega) (by omega) (by omega) (by omega) (by omega) (by omega) (by omega)]) (fun m hm => xN m (by omega) (by omega) (by omega) (by omega) (by omega) (by omega))) (fun m hm => yI m (by omega) (by omega) (by omega) (by omega) (by omega) (by omega) (by omega) (by omega) (by omega) (by omega) (by omega) (by omega) (by omega)) (x6 29 (by decide) (by decide)) (fun m hm => xN m (by omega) (by omega) (by omega) (by omega) (by omega) (by omega))) (h.2.2.2.2.2.2.2.cg (by rw [yI 0 (by omega) (by omega) (by omega) (by omega) (by omega) (by omega) (by omega) (by omega) (by omega) (by omega) (by omega) (by omega) (by omega)]) (x6 25 (by decide) (by decide)))
    · show sJ X m = _
      rw [show sJ X m = sJ (thS T 0) m from congrFun k2 m]
      exact eJ m (by omega)
    · show sR X m = _
      rw [show sR X m = sR (thS T 0) m from congrFun k1 m]
      exact eR m
    · rw [x3] at hr
      by_cases e : r = sN S 3
      · subst e
        obtain ⟨⟨g1, g2, g3, g4⟩, g5, g6, g7, g8, g9⟩ := a5
        unfold tldR
        rw [xx 719 (by decide), xx 720 (by decide), xx 721 (by decide), xx 722 (by decide), xx 723 (by decide), x3k, xI (460 + 3 * sN S 3) (by omega) (by omega) (by omega) (by omega) (by omega) (by omega) (by omega) (by omega), xI (461 + 3 * sN S 3) (by omega) (by omega) (by omega) (by omega) (by omega) (by omega) (by omega) (by omega), xI (462 + 3 * sN S 3) (by omega) (by omega) (by omega) (by omega) (by omega) (by omega) (by omega) (by omega), e460, e461, e462]
        refine ⟨g6, g7, g8, g9, by rw [g2, g1], fun i hi => ?_, ?_⟩
        · rw [cpy_at h12 hi, cpy_at h12 hi]
          exact g4 i hi
        · refine tyR_cg (fun j hj => ?_) g5
          rw [cpy_at h12 hj, cpy_at h12 hj]
          exact ⟨rfl, rfl⟩
      · refine hD.pt (q := sN S 3) rfl (fun m a b => yI m (by omega) (by omega) (by omega) (by omega) (by omega) (by omega) (by omega) (by omega) (by omega) (by omega) (by omega) (by omega) (by omega)) (fun r hr => xN (3000 + r) (by omega) (by omega) (by omega) (by omega) (by omega) (by omega)) (fun j hj => ?_) (fun x hx => ?_) r (by omega)
        · have := m2 j (by omega)
          rw [thI (by decide), thI (by decide), thI (by decide), eI 719 (by decide) (by decide) (by decide) (by decide) (by omega) (by omega) (by omega), eI 720 (by decide) (by decide) (by decide) (by decide) (by omega) (by omega) (by omega), eI 721 (by decide) (by decide) (by decide) (by decide) (by omega) (by omega) (by omega)] at this
          rw [xx 719 (by decide), xx 720 (by decide), xx 721 (by decide)]
          exact this
        · have := m3 x (by omega)
          rw [thI (by decide), thI (by decide), eI 722 (by decide) (by decide) (by decide) (by decide) (by omega) (by omega) (by omega), eI 723 (by decide) (by decide) (by decide) (by decide) (by omega) (by omega) (by omega)] at this
          rw [xx 722 (by decide), xx 723 (by decide)]
          exact this
    · unfold wfR
      by_cases e : r = sN S 3
      · subst e
        rw [x3k, xI (461 + 3 * sN S 3) (by omega) (by omega) (by omega) (by omega) (by omega) (by omega) (by omega) (by omega), xI (462 + 3 * sN S 3) (by omega) (by omega) (by omega) (by omega) (by omega) (by omega) (by omega) (by omega), e461, e462]
        refine ⟨h12, Or.inr ⟨sI (rdE S) 3 10, tyR_cg (fun j hj => ?_) a5.2.1⟩⟩
        rw [cpy_at h12 hj, cpy_at h12 hj]
        exact ⟨rfl, rfl⟩
      · rw [xN (3000 + r) (by omega) (by omega) (by omega) (by omega) (by omega) (by omega), yI (461 + 3 * r) (by omega) (by omega) (by omega) (by omega) (by omega) (by omega) (by omega) (by omega) (by omega) (by omega) (by omega) (by omega) (by omega), yI (462 + 3 * r) (by omega) (by omega) (by omega) (by omega) (by omega) (by omega) (by omega) (by omega) (by omega) (by omega) (by omega) (by omega) (by omega)]
        exact hD.2.2.2.1 r hr
    · rw [x724, yI 9 (by omega) (by omega) (by omega) (by omega) (by omega) (by omega) (by omega) (by omega) (by omega) (by omega) (by omega) (by omega) (by omega), x3]
      unfold upd
      by_cases e : i = 7 + sN S 3
      · rw [if_pos e, (hF i hi).2 (by omega)]
        exact ⟨rfl, fun _ => rfl⟩
      · rw [if_neg e]
        exact ⟨(hF i hi).1, fun q => (hF i hi).2 (by omega)⟩
    · rw [yI 16 (by omega) (by omega) (by omega) (by omega) (by omega) (by omega) (by omega) (by omega) (by omega) (by omega) (by omega) (by omega) (by omega)]
      exact hX.2 k
    · have := h.1.1.2.1
      unfold bdS at this ⊢
      rw [xN 0 (by omega) (by omega) (by omega) (by omega) (by omega) (by omega), xN 1 (by omega) (by omega) (by omega) (by omega) (by omega) (by omega), xN 2 (by omega) (by omega) (by omega) (by omega) (by omega) (by omega)]
      exact this
  · show sJ X 57 = _
    rw [show sJ X 57 = sJ (thS T 0) 57 from congrFun k2 57]
    rfl
