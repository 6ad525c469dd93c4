/-! Constructors: what is new, and what an object holds -/
/-- since Z0: nothing but a has changed; the cells of L are new, apart, and hold this -/
def zAll (Z0 Z : zZ) (a : Nat) (L : List (Nat × va_E)) : Prop := (∀ b e, b ≠ a → zhs Z0 b e → zhs Z b e) ∧ (∀ x ∈ L, zhs Z x.1 x.2 ∧ x.1 ∉ Z0.1) ∧ (L.map (fun x => x.1)).Nodup
theorem zAll.rf {Z : zZ} {a : Nat} : zAll Z Z a [] := ⟨fun _ _ _ h => h, fun _ h => (by cases h), List.nodup_nil⟩
theorem zAll.mem {Z0 Z : zZ} {a b : Nat} {L : List (Nat × va_E)} (h : zAll Z0 Z a L) (hb : b ∈ Z0.1) (hne : b ≠ a) : b ∈ Z.1 := (h.1 b _ hne ⟨hb, rfl⟩).1
theorem zAll.put {Z0 Z Z' : zZ} {a : Nat} {e : va_E} {L : List (Nat × va_E)} (h : zAll Z0 Z a L) (ha : a ∈ Z0.1) (hz : zput Z a e = Z') : zAll Z0 Z' a L :=
  ⟨fun b e' hb hz' => zhs_put_ne' hz (h.1 b e' hb hz') hb, fun x hx => ⟨zhs_put_ne' hz (h.2.1 x hx).1 (fun z => (h.2.1 x hx).2 (z ▸ ha)), (h.2.1 x hx).2⟩, h.2.2⟩
theorem zAll.new {Z0 Z Z' : zZ} {a q n : Nat} {e : va_E} {L : List (Nat × va_E)} (h : zAll Z0 Z a L) (ha : a ∈ Z0.1 ∧ ∀ b, b = a → b ∈ Z.1) (hz : znew Z q e n = Z') (hq : q ∉ Z.1) : zAll Z0 Z' a ((q, e) :: L) := by
  refine ⟨fun b e' hb hz' => zhs_new_old' hz (h.1 b e' hb hz') hq, fun x hx => ?_, ?_⟩
  · rcases List.mem_cons.mp hx with rfl | hx
    · exact ⟨zhs_new_same' hz, fun z => hq (by by_cases hqa : q = a; exact ha.2 q hqa; exact h.mem z hqa)⟩
    · exact ⟨zhs_new_old' hz (h.2.1 x hx).1 hq, (h.2.1 x hx).2⟩
  · rw [List.map_cons, List.nodup_cons]
    refine ⟨fun z => ?_, h.2.2⟩
    obtain ⟨x, hx, e1⟩ := List.mem_map.mp z
    exact hq (by rw [show q = x.1 from e1.symm]; exact (h.2.1 x hx).1.1)
theorem zAll.sub {Z0 Z X Y : zZ} {a q n : Nat} {e e1 : va_E} {L M : List (Nat × va_E)} (h : zAll Z0 Z a L) (ha : a ∈ Z0.1 ∧ ∀ b, b = a → b ∈ Z.1) (hx : znew Z q e n = X) (hq : q ∉ Z.1) (hM : zAll X Y q M) (m1 : zhs Y q e1) : zAll Z0 Y a ((q, e1) :: (M ++ L)) := by
  have hqX : q ∈ X.1 := (zmem_new hx).mpr (Or.inr rfl)
  have hZX : ∀ b, b ∈ Z.1 → b ∈ X.1 := fun b hb => (zmem_new hx).mpr (Or.inl hb)
  have h0X : ∀ b, b ∈ Z0.1 → b ∈ X.1 := fun b hb => hZX b (by by_cases hba : b = a; exact ha.2 b hba; exact h.mem hb hba)
  refine ⟨fun b e' hb hz' => hM.1 b e' (fun z => hq (z ▸ (h.1 b e' hb hz').1)) (zhs_new_old' hx (h.1 b e' hb hz') hq), fun x hx9 => ?_, ?_⟩
  · rcases List.mem_cons.mp hx9 with rfl | hx9
    · exact ⟨m1, fun z => hq (by by_cases hqa : q = a; exact ha.2 q hqa; exact h.mem z hqa)⟩
    rcases List.mem_append.mp hx9 with hx9 | hx9
    · exact ⟨(hM.2.1 x hx9).1, fun z => (hM.2.1 x hx9).2 (h0X _ z)⟩
    · exact ⟨hM.1 _ _ (fun z => hq (z ▸ (h.2.1 x hx9).1.1)) (zhs_new_old' hx (h.2.1 x hx9).1 hq), (h.2.1 x hx9).2⟩
  · rw [List.map_cons, List.nodup_cons, List.map_append]
    refine ⟨fun z => ?_, List.nodup_append.mpr ⟨hM.2.2, h.2.2, fun b hb c hc hbc => ?_⟩⟩
    · rcases List.mem_append.mp z with z | z
      · obtain ⟨x, hx9, e9⟩ := List.mem_map.mp z
        exact (hM.2.1 x hx9).2 (e9 ▸ hqX)
      · obtain ⟨x, hx9, e9⟩ := List.mem_map.mp z
        exact hq (by rw [show q = x.1 from e9.symm]; exact (h.2.1 x hx9).1.1)
    · obtain ⟨x, hx9, e9⟩ := List.mem_map.mp hb
      obtain ⟨x', hx8, e8⟩ := List.mem_map.mp hc
      exact (hM.2.1 x hx9).2 (e9 ▸ hbc ▸ e8 ▸ hZX _ (h.2.1 x' hx8).1.1)
set_option maxHeartbeats 4000000 in
set_option maxRecDepth 100000 in
theorem C_Tx_initA {w : zC} {Z : zZ} {Q : zR → zZ → Prop} {a : Nat} (h0 : zhs Z a (.inr (2, [.null, .int 0, .int 0, .int 0]))) (hb : 1 ≤ Z.2.2.1 ∧ 160 ≤ Z.2.2.2) (hQ : ∀ Z' q0, zAll Z Z' a [(q0, xc w 160 (fun _ => 0))] → zhs Z' a (.inr (2, [.ref q0, .int 0, .int 0, .int 0])) → Z'.2.2.1 = Z.2.2.1 - 1 → Z'.2.2.2 = Z.2.2.2 - 160 → Q (.inl none) Z') : Cz w (1, 20) y_Tx_init (Cond.code y_Tx_init c_Tx_init 1 r_Tx_init :: wz) [.ref a] Z Q := by
  refine Cz.of (by decide +kernel) (by simp [lg_sl, Value.category]) ?_
  show G _ _ _ _ _ _ _ _ [(0, _)] _ _
  have ha : a ∈ Z.1 := h0.1
  have hA : zAll Z Z a [] := zAll.rf
  have hV : Z.2.2.1 = Z.2.2.1 - 0 ∧ Z.2.2.2 = Z.2.2.2 - 0 := by omega
  refine g_aload_nq d_Tx_init_0 rfl 0 rfl ?_
  refine g_objI d_Tx_init_1 l_Tx_3 (by decide) (Nat.le_of_ble_eq_true rfl) ?_
  refine g_aload_nq d_Tx_init_4 rfl 0 rfl ?_
  refine g_sipush (v := 160) d_Tx_init_5 rfl ?_
  refine g_newc (N := 160) d_Tx_init_8 rfl a_char rfl (by decide) (by omega) (by omega) (fun q0 p0 => ?_)
  generalize x0 : znew _ _ _ _ = X0
  have hA := hA.new ⟨ha, fun b hb => hb ▸ h0.1⟩ x0 p0
  have h0 := zhs_new_old' x0 h0 p0
  have hV : X0.2.2.1 = Z.2.2.1 - 1 ∧ X0.2.2.2 = Z.2.2.2 - 160 := by have := zbud_new x0; omega
  refine g_putF d_Tx_init_10 w_Tx_9_Tx rfl (by assumption) (by rfl) (by rfl) (by first | exact Nat.le_of_ble_eq_true rfl | omega) ?_
  generalize y10 : zput _ _ _ = Y10
  have hA := hA.put ha y10
  have h0 := zhs_put_same' y10 h0
  have hV : Y10.2.2.1 = Z.2.2.1 - 1 ∧ Y10.2.2.2 = Z.2.2.2 - 160 := by rw [← y10]; exact hV
  simp only [List.set] at h0
  refine g_aload_nq d_Tx_init_13 rfl 0 rfl ?_
  refine g_iconst (v := 0) d_Tx_init_14 rfl ?_
  refine g_put d_Tx_init_15 w_Tx_15_Tx (by assumption) (by rfl) (by rfl) (by first | exact Nat.le_of_ble_eq_true rfl | omega) ?_
  generalize y15 : zput _ _ _ = Y15
  have hA := hA.put ha y15
  have h0 := zhs_put_same' y15 h0
  have hV : Y15.2.2.1 = Z.2.2.1 - 1 ∧ Y15.2.2.2 = Z.2.2.2 - 160 := by rw [← y15]; exact hV
  simp only [List.set] at h0
  refine g_aload_nq d_Tx_init_18 rfl 0 rfl ?_
  refine g_iconst (v := 0) d_Tx_init_19 rfl ?_
  refine g_put d_Tx_init_20 w_Tx_19_Tx (by assumption) (by rfl) (by rfl) (by first | exact Nat.le_of_ble_eq_true rfl | omega) ?_
  generalize y20 : zput _ _ _ = Y20
  have hA := hA.put ha y20
  have h0 := zhs_put_same' y20 h0
  have hV : Y20.2.2.1 = Z.2.2.1 - 1 ∧ Y20.2.2.2 = Z.2.2.2 - 160 := by rw [← y20]; exact hV
  simp only [List.set] at h0
  refine g_aload_nq d_Tx_init_23 rfl 0 rfl ?_
  refine g_iconst (v := 0) d_Tx_init_24 rfl ?_
  refine g_put d_Tx_init_25 w_Tx_22_Tx (by assumption) (by rfl) (by rfl) (by first | exact Nat.le_of_ble_eq_true rfl | omega) ?_
  generalize y25 : zput _ _ _ = Y25
  have hA := hA.put ha y25
  have h0 := zhs_put_same' y25 h0
  have hV : Y25.2.2.1 = Z.2.2.1 - 1 ∧ Y25.2.2.2 = Z.2.2.2 - 160 := by rw [← y25]; exact hV
  simp only [List.set] at h0
  refine g_vret d_Tx_init_28 ?_
  exact hQ _ q0 hA h0 hV.1 hV.2

set_option maxHeartbeats 4000000 in
set_option maxRecDepth 100000 in
theorem C_Rd_initA {w : zC} {Z : zZ} {Q : zR → zZ → Prop} {a : Nat} (h0 : zhs Z a (.inr (3, [.null, .null, .null, .null, .int 0, .int 0, .int 0, .int 0, .int 0, .int 0, .int 0, .int 0]))) (hb : 5 ≤ Z.2.2.1 ∧ 404 ≤ Z.2.2.2) (hQ : ∀ Z' q3 r3_0 q2 q1 q0, zAll Z Z' a [(q3, .inr (2, [.ref r3_0, .int 0, .int 0, .int 0])), (r3_0, xc w 160 (fun _ => 0)), (q2, xi w 80 (fun _ => 0)), (q1, xi w 80 (fun _ => 0)), (q0, xi w 80 (fun _ => 0))] → zhs Z' a (.inr (3, [.ref q0, .ref q1, .ref q2, .ref q3, .int 0, .int 0, .int 0, .int 0, .int 0, .int 0, .int 0, .int 1])) → Z'.2.2.1 = Z.2.2.1 - 5 → Z'.2.2.2 = Z.2.2.2 - 404 → Q (.inl none) Z') : Cz w (2, 44) y_Rd_init (Cond.code y_Rd_init c_Rd_init 1 r_Rd_init :: wz) [.ref a] Z Q := by
  refine Cz.of (by decide +kernel) (by simp [lg_sl, Value.category]) ?_
  show G _ _ _ _ _ _ _ _ [(0, _)] _ _
  have ha : a ∈ Z.1 := h0.1
  have hA : zAll Z Z a [] := zAll.rf
  have hV : Z.2.2.1 = Z.2.2.1 - 0 ∧ Z.2.2.2 = Z.2.2.2 - 0 := by omega
  refine g_aload_nq d_Rd_init_0 rfl 0 rfl ?_
  refine g_objI d_Rd_init_1 l_Rd_3 (by decide) (Nat.le_of_ble_eq_true rfl) ?_
  refine g_aload_nq d_Rd_init_4 rfl 0 rfl ?_
  refine g_bipush (v := 80) d_Rd_init_5 rfl ?_
  refine g_newi (N := 80) d_Rd_init_7 rfl a_int rfl (by decide) (by omega) (by omega) (fun q0 p0 => ?_)
  generalize x0 : znew _ _ _ _ = X0
  have hA := hA.new ⟨ha, fun b hb => hb ▸ h0.1⟩ x0 p0
  have h0 := zhs_new_old' x0 h0 p0
  have hV : X0.2.2.1 = Z.2.2.1 - 1 ∧ X0.2.2.2 = Z.2.2.2 - 80 := by have := zbud_new x0; omega
  refine g_putF d_Rd_init_9 w_Rd_9_Rd rfl (by assumption) (by rfl) (by rfl) (by first | exact Nat.le_of_ble_eq_true rfl | omega) ?_
  generalize y9 : zput _ _ _ = Y9
  have hA := hA.put ha y9
  have h0 := zhs_put_same' y9 h0
  have hV : Y9.2.2.1 = Z.2.2.1 - 1 ∧ Y9.2.2.2 = Z.2.2.2 - 80 := by rw [← y9]; exact hV
  simp only [List.set] at h0
  refine g_aload_nq d_Rd_init_12 rfl 0 rfl ?_
  refine g_bipush (v := 80) d_Rd_init_13 rfl ?_
  refine g_newi (N := 80) d_Rd_init_15 rfl a_int rfl (by decide) (by omega) (by omega) (fun q1 p1 => ?_)
  generalize x1 : znew _ _ _ _ = X1
  have hA := hA.new ⟨ha, fun b hb => hb ▸ h0.1⟩ x1 p1
  have h0 := zhs_new_old' x1 h0 p1
  have hV : X1.2.2.1 = Z.2.2.1 - 2 ∧ X1.2.2.2 = Z.2.2.2 - 160 := by have := zbud_new x1; omega
  refine g_putF d_Rd_init_17 w_Rd_15_Rd rfl (by assumption) (by rfl) (by rfl) (by first | exact Nat.le_of_ble_eq_true rfl | omega) ?_
  generalize y17 : zput _ _ _ = Y17
  have hA := hA.put ha y17
  have h0 := zhs_put_same' y17 h0
  have hV : Y17.2.2.1 = Z.2.2.1 - 2 ∧ Y17.2.2.2 = Z.2.2.2 - 160 := by rw [← y17]; exact hV
  simp only [List.set] at h0
  refine g_aload_nq d_Rd_init_20 rfl 0 rfl ?_
  refine g_bipush (v := 80) d_Rd_init_21 rfl ?_
  refine g_newi (N := 80) d_Rd_init_23 rfl a_int rfl (by decide) (by omega) (by omega) (fun q2 p2 => ?_)
  generalize x2 : znew _ _ _ _ = X2
  have hA := hA.new ⟨ha, fun b hb => hb ▸ h0.1⟩ x2 p2
  have h0 := zhs_new_old' x2 h0 p2
  have hV : X2.2.2.1 = Z.2.2.1 - 3 ∧ X2.2.2.2 = Z.2.2.2 - 240 := by have := zbud_new x2; omega
  refine g_putF d_Rd_init_25 w_Rd_18_Rd rfl (by assumption) (by rfl) (by rfl) (by first | exact Nat.le_of_ble_eq_true rfl | omega) ?_
  generalize y25 : zput _ _ _ = Y25
  have hA := hA.put ha y25
  have h0 := zhs_put_same' y25 h0
  have hV : Y25.2.2.1 = Z.2.2.1 - 3 ∧ Y25.2.2.2 = Z.2.2.2 - 240 := by rw [← y25]; exact hV
  simp only [List.set] at h0
  refine g_aload_nq d_Rd_init_28 rfl 0 rfl ?_
  have hs0 := h0.1
  refine g_new d_Rd_init_29 n_Rd_21 (by omega) (by omega) (fun q3 p3 => ?_)
  generalize x3 : znew _ _ _ _ = X3
  have m0 := zhs_new_same' x3
  have h0 := zhs_new_old' x3 h0 p3
  have hV : X3.2.2.1 = Z.2.2.1 - 4 ∧ X3.2.2.2 = Z.2.2.2 - 244 := by have := zbud_new x3; omega
  refine g_dup d_Rd_init_32 rfl ?_
  refine g_callIN d_Rd_init_33 k_Tx_init rfl l_Rd_23 i_Tx_init (by rfl) (by rfl) (Nat.le_of_ble_eq_true rfl) (by decide) (C_Tx_initA m0 (by omega) (fun W3 r3_0 hM m1 v1 v2 => ⟨_, rfl, ?_⟩))
  have hA := hA.sub ⟨ha, fun b hb => hb ▸ hs0⟩ x3 p3 hM m1
  have h0 := hM.1 _ _ (fun z => p3 (z ▸ hs0)) h0
  have hV : W3.2.2.1 = Z.2.2.1 - 5 ∧ W3.2.2.2 = Z.2.2.2 - 404 := by omega
  refine g_putF d_Rd_init_36 w_Rd_24_Rd rfl (by assumption) (by rfl) (by rfl) (by first | exact Nat.le_of_ble_eq_true rfl | omega) ?_
  generalize y36 : zput _ _ _ = Y36
  have hA := hA.put ha y36
  have h0 := zhs_put_same' y36 h0
  have hV : Y36.2.2.1 = Z.2.2.1 - 5 ∧ Y36.2.2.2 = Z.2.2.2 - 404 := by rw [← y36]; exact hV
  simp only [List.set] at h0
  refine g_aload_nq d_Rd_init_39 rfl 0 rfl ?_
  refine g_iconst (v := 0) d_Rd_init_40 rfl ?_
  refine g_put d_Rd_init_41 w_Rd_28_Rd (by assumption) (by rfl) (by rfl) (by first | exact Nat.le_of_ble_eq_true rfl | omega) ?_
  generalize y41 : zput _ _ _ = Y41
  have hA := hA.put ha y41
  have h0 := zhs_put_same' y41 h0
  have hV : Y41.2.2.1 = Z.2.2.1 - 5 ∧ Y41.2.2.2 = Z.2.2.2 - 404 := by rw [← y41]; exact hV
  simp only [List.set] at h0
  refine g_aload_nq d_Rd_init_44 rfl 0 rfl ?_
  refine g_iconst (v := 0) d_Rd_init_45 rfl ?_
  refine g_put d_Rd_init_46 w_Rd_32_Rd (by assumption) (by rfl) (by rfl) (by first | exact Nat.le_of_ble_eq_true rfl | omega) ?_
  generalize y46 : zput _ _ _ = Y46
  have hA := hA.put ha y46
  have h0 := zhs_put_same' y46 h0
  have hV : Y46.2.2.1 = Z.2.2.1 - 5 ∧ Y46.2.2.2 = Z.2.2.2 - 404 := by rw [← y46]; exact hV
  simp only [List.set] at h0
  refine g_aload_nq d_Rd_init_49 rfl 0 rfl ?_
  refine g_iconst (v := 0) d_Rd_init_50 rfl ?_
  refine g_put d_Rd_init_51 w_Rd_35_Rd (by assumption) (by rfl) (by rfl) (by first | exact Nat.le_of_ble_eq_true rfl | omega) ?_
  generalize y51 : zput _ _ _ = Y51
  have hA := hA.put ha y51
  have h0 := zhs_put_same' y51 h0
  have hV : Y51.2.2.1 = Z.2.2.1 - 5 ∧ Y51.2.2.2 = Z.2.2.2 - 404 := by rw [← y51]; exact hV
  simp only [List.set] at h0
  refine g_aload_nq d_Rd_init_54 rfl 0 rfl ?_
  refine g_iconst (v := 0) d_Rd_init_55 rfl ?_
  refine g_put d_Rd_init_56 w_Rd_38_Rd (by assumption) (by rfl) (by rfl) (by first | exact Nat.le_of_ble_eq_true rfl | omega) ?_
  generalize y56 : zput _ _ _ = Y56
  have hA := hA.put ha y56
  have h0 := zhs_put_same' y56 h0
  have hV : Y56.2.2.1 = Z.2.2.1 - 5 ∧ Y56.2.2.2 = Z.2.2.2 - 404 := by rw [← y56]; exact hV
  simp only [List.set] at h0
  refine g_aload_nq d_Rd_init_59 rfl 0 rfl ?_
  refine g_iconst (v := 0) d_Rd_init_60 rfl ?_
  refine g_put d_Rd_init_61 w_Rd_41_Rd (by assumption) (by rfl) (by rfl) (by first | exact Nat.le_of_ble_eq_true rfl | omega) ?_
  generalize y61 : zput _ _ _ = Y61
  have hA := hA.put ha y61
  have h0 := zhs_put_same' y61 h0
  have hV : Y61.2.2.1 = Z.2.2.1 - 5 ∧ Y61.2.2.2 = Z.2.2.2 - 404 := by rw [← y61]; exact hV
  simp only [List.set] at h0
  refine g_aload_nq d_Rd_init_64 rfl 0 rfl ?_
  refine g_iconst (v := 0) d_Rd_init_65 rfl ?_
  refine g_put d_Rd_init_66 w_Rd_44_Rd (by assumption) (by rfl) (by rfl) (by first | exact Nat.le_of_ble_eq_true rfl | omega) ?_
  generalize y66 : zput _ _ _ = Y66
  have hA := hA.put ha y66
  have h0 := zhs_put_same' y66 h0
  have hV : Y66.2.2.1 = Z.2.2.1 - 5 ∧ Y66.2.2.2 = Z.2.2.2 - 404 := by rw [← y66]; exact hV
  simp only [List.set] at h0
  refine g_aload_nq d_Rd_init_69 rfl 0 rfl ?_
  refine g_iconst (v := 0) d_Rd_init_70 rfl ?_
  refine g_put d_Rd_init_71 w_Rd_48_Rd (by assumption) (by rfl) (by rfl) (by first | exact Nat.le_of_ble_eq_true rfl | omega) ?_
  generalize y71 : zput _ _ _ = Y71
  have hA := hA.put ha y71
  have h0 := zhs_put_same' y71 h0
  have hV : Y71.2.2.1 = Z.2.2.1 - 5 ∧ Y71.2.2.2 = Z.2.2.2 - 404 := by rw [← y71]; exact hV
  simp only [List.set] at h0
  refine g_aload_nq d_Rd_init_74 rfl 0 rfl ?_
  refine g_iconst (v := 1) d_Rd_init_75 rfl ?_
  refine g_put d_Rd_init_76 w_Rd_51_Rd (by assumption) (by rfl) (by rfl) (by first | exact Nat.le_of_ble_eq_true rfl | omega) ?_
  generalize y76 : zput _ _ _ = Y76
  have hA := hA.put ha y76
  have h0 := zhs_put_same' y76 h0
  have hV : Y76.2.2.1 = Z.2.2.1 - 5 ∧ Y76.2.2.2 = Z.2.2.2 - 404 := by rw [← y76]; exact hV
  simp only [List.set] at h0
  refine g_vret d_Rd_init_79 ?_
  exact hQ _ q3 r3_0 q2 q1 q0 hA h0 hV.1 hV.2

set_option maxHeartbeats 4000000 in
set_option maxRecDepth 100000 in
theorem C_Sc_initA {w : zC} {Z : zZ} {Q : zR → zZ → Prop} {a : Nat} (h0 : zhs Z a (.inr (1, [.null, .null, .null, .null, .null, .int 0, .int 0, .int 0, .int 0]))) (hb : 5 ≤ Z.2.2.1 ∧ 580 ≤ Z.2.2.2) (hQ : ∀ Z' q4 q3 q2 q1 q0, zAll Z Z' a [(q4, xr w 7 240 (fun _ => none)), (q3, xr w 6 160 (fun _ => none)), (q2, xr w 5 40 (fun _ => none)), (q1, xr w 4 40 (fun _ => none)), (q0, xi w 100 (fun _ => 0))] → zhs Z' a (.inr (1, [.ref q0, .ref q1, .ref q2, .ref q3, .ref q4, .int 0, .int 0, .int 0, .int 0])) → Z'.2.2.1 = Z.2.2.1 - 5 → Z'.2.2.2 = Z.2.2.2 - 580 → Q (.inl none) Z') : Cz w (1, 20) y_Sc_init (Cond.code y_Sc_init c_Sc_init 1 r_Sc_init :: wz) [.ref a] Z Q := by
  refine Cz.of (by decide +kernel) (by simp [lg_sl, Value.category]) ?_
  show G _ _ _ _ _ _ _ _ [(0, _)] _ _
  have ha : a ∈ Z.1 := h0.1
  have hA : zAll Z Z a [] := zAll.rf
  have hV : Z.2.2.1 = Z.2.2.1 - 0 ∧ Z.2.2.2 = Z.2.2.2 - 0 := by omega
  refine g_aload_nq d_Sc_init_0 rfl 0 rfl ?_
  refine g_objI d_Sc_init_1 l_Sc_3 (by decide) (Nat.le_of_ble_eq_true rfl) ?_
  refine g_aload_nq d_Sc_init_4 rfl 0 rfl ?_
  refine g_bipush (v := 100) d_Sc_init_5 rfl ?_
  refine g_newi (N := 100) d_Sc_init_7 rfl a_int rfl (by decide) (by omega) (by omega) (fun q0 p0 => ?_)
  generalize x0 : znew _ _ _ _ = X0
  have hA := hA.new ⟨ha, fun b hb => hb ▸ h0.1⟩ x0 p0
  have h0 := zhs_new_old' x0 h0 p0
  have hV : X0.2.2.1 = Z.2.2.1 - 1 ∧ X0.2.2.2 = Z.2.2.2 - 100 := by have := zbud_new x0; omega
  refine g_putF d_Sc_init_9 w_Sc_9_Sc rfl (by assumption) (by rfl) (by rfl) (by first | exact Nat.le_of_ble_eq_true rfl | omega) ?_
  generalize y9 : zput _ _ _ = Y9
  have hA := hA.put ha y9
  have h0 := zhs_put_same' y9 h0
  have hV : Y9.2.2.1 = Z.2.2.1 - 1 ∧ Y9.2.2.2 = Z.2.2.2 - 100 := by rw [← y9]; exact hV
  simp only [List.set] at h0
  refine g_aload_nq d_Sc_init_12 rfl 0 rfl ?_
  refine g_bipush (v := 40) d_Sc_init_13 rfl ?_
  refine g_anew (N := 40) d_Sc_init_15 4 rfl t_Sc_15 a_Pa rfl (by decide) (by omega) (by omega) (fun q1 p1 => ?_)
  generalize x1 : znew _ _ _ _ = X1
  have hA := hA.new ⟨ha, fun b hb => hb ▸ h0.1⟩ x1 p1
  have h0 := zhs_new_old' x1 h0 p1
  have hV : X1.2.2.1 = Z.2.2.1 - 2 ∧ X1.2.2.2 = Z.2.2.2 - 140 := by have := zbud_new x1; omega
  refine g_putF d_Sc_init_18 w_Sc_17_Sc rfl (by assumption) (by rfl) (by rfl) (by first | exact Nat.le_of_ble_eq_true rfl | omega) ?_
  generalize y18 : zput _ _ _ = Y18
  have hA := hA.put ha y18
  have h0 := zhs_put_same' y18 h0
  have hV : Y18.2.2.1 = Z.2.2.1 - 2 ∧ Y18.2.2.2 = Z.2.2.2 - 140 := by rw [← y18]; exact hV
  simp only [List.set] at h0
  refine g_aload_nq d_Sc_init_21 rfl 0 rfl ?_
  refine g_bipush (v := 40) d_Sc_init_22 rfl ?_
  refine g_anew (N := 40) d_Sc_init_24 5 rfl t_Sc_21 a_Ne rfl (by decide) (by omega) (by omega) (fun q2 p2 => ?_)
  generalize x2 : znew _ _ _ _ = X2
  have hA := hA.new ⟨ha, fun b hb => hb ▸ h0.1⟩ x2 p2
  have h0 := zhs_new_old' x2 h0 p2
  have hV : X2.2.2.1 = Z.2.2.1 - 3 ∧ X2.2.2.2 = Z.2.2.2 - 180 := by have := zbud_new x2; omega
  refine g_putF d_Sc_init_27 w_Sc_23_Sc rfl (by assumption) (by rfl) (by rfl) (by first | exact Nat.le_of_ble_eq_true rfl | omega) ?_
  generalize y27 : zput _ _ _ = Y27
  have hA := hA.put ha y27
  have h0 := zhs_put_same' y27 h0
  have hV : Y27.2.2.1 = Z.2.2.1 - 3 ∧ Y27.2.2.2 = Z.2.2.2 - 180 := by rw [← y27]; exact hV
  simp only [List.set] at h0
  refine g_aload_nq d_Sc_init_30 rfl 0 rfl ?_
  refine g_sipush (v := 160) d_Sc_init_31 rfl ?_
  refine g_anew (N := 160) d_Sc_init_34 6 rfl t_Sc_27 a_Pi rfl (by decide) (by omega) (by omega) (fun q3 p3 => ?_)
  generalize x3 : znew _ _ _ _ = X3
  have hA := hA.new ⟨ha, fun b hb => hb ▸ h0.1⟩ x3 p3
  have h0 := zhs_new_old' x3 h0 p3
  have hV : X3.2.2.1 = Z.2.2.1 - 4 ∧ X3.2.2.2 = Z.2.2.2 - 340 := by have := zbud_new x3; omega
  refine g_putF d_Sc_init_37 w_Sc_29_Sc rfl (by assumption) (by rfl) (by rfl) (by first | exact Nat.le_of_ble_eq_true rfl | omega) ?_
  generalize y37 : zput _ _ _ = Y37
  have hA := hA.put ha y37
  have h0 := zhs_put_same' y37 h0
  have hV : Y37.2.2.1 = Z.2.2.1 - 4 ∧ Y37.2.2.2 = Z.2.2.2 - 340 := by rw [← y37]; exact hV
  simp only [List.set] at h0
  refine g_aload_nq d_Sc_init_40 rfl 0 rfl ?_
  refine g_sipush (v := 240) d_Sc_init_41 rfl ?_
  refine g_anew (N := 240) d_Sc_init_44 7 rfl t_Sc_33 a_Th rfl (by decide) (by omega) (by omega) (fun q4 p4 => ?_)
  generalize x4 : znew _ _ _ _ = X4
  have hA := hA.new ⟨ha, fun b hb => hb ▸ h0.1⟩ x4 p4
  have h0 := zhs_new_old' x4 h0 p4
  have hV : X4.2.2.1 = Z.2.2.1 - 5 ∧ X4.2.2.2 = Z.2.2.2 - 580 := by have := zbud_new x4; omega
  refine g_putF d_Sc_init_47 w_Sc_35_Sc rfl (by assumption) (by rfl) (by rfl) (by first | exact Nat.le_of_ble_eq_true rfl | omega) ?_
  generalize y47 : zput _ _ _ = Y47
  have hA := hA.put ha y47
  have h0 := zhs_put_same' y47 h0
  have hV : Y47.2.2.1 = Z.2.2.1 - 5 ∧ Y47.2.2.2 = Z.2.2.2 - 580 := by rw [← y47]; exact hV
  simp only [List.set] at h0
  refine g_aload_nq d_Sc_init_50 rfl 0 rfl ?_
  refine g_iconst (v := 0) d_Sc_init_51 rfl ?_
  refine g_put d_Sc_init_52 w_Sc_39_Sc (by assumption) (by rfl) (by rfl) (by first | exact Nat.le_of_ble_eq_true rfl | omega) ?_
  generalize y52 : zput _ _ _ = Y52
  have hA := hA.put ha y52
  have h0 := zhs_put_same' y52 h0
  have hV : Y52.2.2.1 = Z.2.2.1 - 5 ∧ Y52.2.2.2 = Z.2.2.2 - 580 := by rw [← y52]; exact hV
  simp only [List.set] at h0
  refine g_aload_nq d_Sc_init_55 rfl 0 rfl ?_
  refine g_iconst (v := 0) d_Sc_init_56 rfl ?_
  refine g_put d_Sc_init_57 w_Sc_43_Sc (by assumption) (by rfl) (by rfl) (by first | exact Nat.le_of_ble_eq_true rfl | omega) ?_
  generalize y57 : zput _ _ _ = Y57
  have hA := hA.put ha y57
  have h0 := zhs_put_same' y57 h0
  have hV : Y57.2.2.1 = Z.2.2.1 - 5 ∧ Y57.2.2.2 = Z.2.2.2 - 580 := by rw [← y57]; exact hV
  simp only [List.set] at h0
  refine g_aload_nq d_Sc_init_60 rfl 0 rfl ?_
  refine g_iconst (v := 0) d_Sc_init_61 rfl ?_
  refine g_put d_Sc_init_62 w_Sc_46_Sc (by assumption) (by rfl) (by rfl) (by first | exact Nat.le_of_ble_eq_true rfl | omega) ?_
  generalize y62 : zput _ _ _ = Y62
  have hA := hA.put ha y62
  have h0 := zhs_put_same' y62 h0
  have hV : Y62.2.2.1 = Z.2.2.1 - 5 ∧ Y62.2.2.2 = Z.2.2.2 - 580 := by rw [← y62]; exact hV
  simp only [List.set] at h0
  refine g_aload_nq d_Sc_init_65 rfl 0 rfl ?_
  refine g_iconst (v := 0) d_Sc_init_66 rfl ?_
  refine g_put d_Sc_init_67 w_Sc_49_Sc (by assumption) (by rfl) (by rfl) (by first | exact Nat.le_of_ble_eq_true rfl | omega) ?_
  generalize y67 : zput _ _ _ = Y67
  have hA := hA.put ha y67
  have h0 := zhs_put_same' y67 h0
  have hV : Y67.2.2.1 = Z.2.2.1 - 5 ∧ Y67.2.2.2 = Z.2.2.2 - 580 := by rw [← y67]; exact hV
  simp only [List.set] at h0
  refine g_vret d_Sc_init_70 ?_
  exact hQ _ q4 q3 q2 q1 q0 hA h0 hV.1 hV.2

set_option maxHeartbeats 4000000 in
set_option maxRecDepth 100000 in
theorem C_Wv_initA {w : zC} {Z : zZ} {Q : zR → zZ → Prop} {a : Nat} (h0 : zhs Z a (.inr (4, [.null, .null, .int 0]))) (hb : 2 ≤ Z.2.2.1 ∧ 100 ≤ Z.2.2.2) (hQ : ∀ Z' q1 q0, zAll Z Z' a [(q1, xi w 50 (fun _ => 0)), (q0, xi w 50 (fun _ => 0))] → zhs Z' a (.inr (4, [.ref q0, .ref q1, .int 0])) → Z'.2.2.1 = Z.2.2.1 - 2 → Z'.2.2.2 = Z.2.2.2 - 100 → Q (.inl none) Z') : Cz w (1, 20) y_Wv_init (Cond.code y_Wv_init c_Wv_init 1 r_Wv_init :: wz) [.ref a] Z Q := by
  refine Cz.of (by decide +kernel) (by simp [lg_sl, Value.category]) ?_
  show G _ _ _ _ _ _ _ _ [(0, _)] _ _
  have ha : a ∈ Z.1 := h0.1
  have hA : zAll Z Z a [] := zAll.rf
  have hV : Z.2.2.1 = Z.2.2.1 - 0 ∧ Z.2.2.2 = Z.2.2.2 - 0 := by omega
  refine g_aload_nq d_Wv_init_0 rfl 0 rfl ?_
  refine g_objI d_Wv_init_1 l_Wv_3 (by decide) (Nat.le_of_ble_eq_true rfl) ?_
  refine g_aload_nq d_Wv_init_4 rfl 0 rfl ?_
  refine g_bipush (v := 50) d_Wv_init_5 rfl ?_
  refine g_newi (N := 50) d_Wv_init_7 rfl a_int rfl (by decide) (by omega) (by omega) (fun q0 p0 => ?_)
  generalize x0 : znew _ _ _ _ = X0
  have hA := hA.new ⟨ha, fun b hb => hb ▸ h0.1⟩ x0 p0
  have h0 := zhs_new_old' x0 h0 p0
  have hV : X0.2.2.1 = Z.2.2.1 - 1 ∧ X0.2.2.2 = Z.2.2.2 - 50 := by have := zbud_new x0; omega
  refine g_putF d_Wv_init_9 w_Wv_9_Wv rfl (by assumption) (by rfl) (by rfl) (by first | exact Nat.le_of_ble_eq_true rfl | omega) ?_
  generalize y9 : zput _ _ _ = Y9
  have hA := hA.put ha y9
  have h0 := zhs_put_same' y9 h0
  have hV : Y9.2.2.1 = Z.2.2.1 - 1 ∧ Y9.2.2.2 = Z.2.2.2 - 50 := by rw [← y9]; exact hV
  simp only [List.set] at h0
  refine g_aload_nq d_Wv_init_12 rfl 0 rfl ?_
  refine g_bipush (v := 50) d_Wv_init_13 rfl ?_
  refine g_newi (N := 50) d_Wv_init_15 rfl a_int rfl (by decide) (by omega) (by omega) (fun q1 p1 => ?_)
  generalize x1 : znew _ _ _ _ = X1
  have hA := hA.new ⟨ha, fun b hb => hb ▸ h0.1⟩ x1 p1
  have h0 := zhs_new_old' x1 h0 p1
  have hV : X1.2.2.1 = Z.2.2.1 - 2 ∧ X1.2.2.2 = Z.2.2.2 - 100 := by have := zbud_new x1; omega
  refine g_putF d_Wv_init_17 w_Wv_15_Wv rfl (by assumption) (by rfl) (by rfl) (by first | exact Nat.le_of_ble_eq_true rfl | omega) ?_
  generalize y17 : zput _ _ _ = Y17
  have hA := hA.put ha y17
  have h0 := zhs_put_same' y17 h0
  have hV : Y17.2.2.1 = Z.2.2.1 - 2 ∧ Y17.2.2.2 = Z.2.2.2 - 100 := by rw [← y17]; exact hV
  simp only [List.set] at h0
  refine g_aload_nq d_Wv_init_20 rfl 0 rfl ?_
  refine g_iconst (v := 0) d_Wv_init_21 rfl ?_
  refine g_put d_Wv_init_22 w_Wv_18_Wv (by assumption) (by rfl) (by rfl) (by first | exact Nat.le_of_ble_eq_true rfl | omega) ?_
  generalize y22 : zput _ _ _ = Y22
  have hA := hA.put ha y22
  have h0 := zhs_put_same' y22 h0
  have hV : Y22.2.2.1 = Z.2.2.1 - 2 ∧ Y22.2.2.2 = Z.2.2.2 - 100 := by rw [← y22]; exact hV
  simp only [List.set] at h0
  refine g_vret d_Wv_init_25 ?_
  exact hQ _ q1 q0 hA h0 hV.1 hV.2

set_option maxHeartbeats 4000000 in
set_option maxRecDepth 100000 in
theorem C_Rm_initA {w : zC} {Z : zZ} {Q : zR → zZ → Prop} {a : Nat} (h0 : zhs Z a (.inr (5, [.null, .null, .null, .int 0]))) (hb : 3 ≤ Z.2.2.1 ∧ 96 ≤ Z.2.2.2) (hQ : ∀ Z' q2 q1 q0, zAll Z Z' a [(q2, xi w 32 (fun _ => 0)), (q1, xi w 32 (fun _ => 0)), (q0, xi w 32 (fun _ => 0))] → zhs Z' a (.inr (5, [.ref q0, .ref q1, .ref q2, .int 0])) → Z'.2.2.1 = Z.2.2.1 - 3 → Z'.2.2.2 = Z.2.2.2 - 96 → Q (.inl none) Z') : Cz w (1, 20) y_Rm_init (Cond.code y_Rm_init c_Rm_init 1 r_Rm_init :: wz) [.ref a] Z Q := by
  refine Cz.of (by decide +kernel) (by simp [lg_sl, Value.category]) ?_
  show G _ _ _ _ _ _ _ _ [(0, _)] _ _
  have ha : a ∈ Z.1 := h0.1
  have hA : zAll Z Z a [] := zAll.rf
  have hV : Z.2.2.1 = Z.2.2.1 - 0 ∧ Z.2.2.2 = Z.2.2.2 - 0 := by omega
  refine g_aload_nq d_Rm_init_0 rfl 0 rfl ?_
  refine g_objI d_Rm_init_1 l_Rm_3 (by decide) (Nat.le_of_ble_eq_true rfl) ?_
  refine g_aload_nq d_Rm_init_4 rfl 0 rfl ?_
  refine g_bipush (v := 32) d_Rm_init_5 rfl ?_
  refine g_newi (N := 32) d_Rm_init_7 rfl a_int rfl (by decide) (by omega) (by omega) (fun q0 p0 => ?_)
  generalize x0 : znew _ _ _ _ = X0
  have hA := hA.new ⟨ha, fun b hb => hb ▸ h0.1⟩ x0 p0
  have h0 := zhs_new_old' x0 h0 p0
  have hV : X0.2.2.1 = Z.2.2.1 - 1 ∧ X0.2.2.2 = Z.2.2.2 - 32 := by have := zbud_new x0; omega
  refine g_put d_Rm_init_9 w_Rm_11_Rm (by assumption) (by rfl) (by rfl) (by first | exact Nat.le_of_ble_eq_true rfl | omega) ?_
  generalize y9 : zput _ _ _ = Y9
  have hA := hA.put ha y9
  have h0 := zhs_put_same' y9 h0
  have hV : Y9.2.2.1 = Z.2.2.1 - 1 ∧ Y9.2.2.2 = Z.2.2.2 - 32 := by rw [← y9]; exact hV
  simp only [List.set] at h0
  refine g_aload_nq d_Rm_init_12 rfl 0 rfl ?_
  refine g_bipush (v := 32) d_Rm_init_13 rfl ?_
  refine g_newi (N := 32) d_Rm_init_15 rfl a_int rfl (by decide) (by omega) (by omega) (fun q1 p1 => ?_)
  generalize x1 : znew _ _ _ _ = X1
  have hA := hA.new ⟨ha, fun b hb => hb ▸ h0.1⟩ x1 p1
  have h0 := zhs_new_old' x1 h0 p1
  have hV : X1.2.2.1 = Z.2.2.1 - 2 ∧ X1.2.2.2 = Z.2.2.2 - 64 := by have := zbud_new x1; omega
  refine g_put d_Rm_init_17 w_Rm_15_Rm (by assumption) (by rfl) (by rfl) (by first | exact Nat.le_of_ble_eq_true rfl | omega) ?_
  generalize y17 : zput _ _ _ = Y17
  have hA := hA.put ha y17
  have h0 := zhs_put_same' y17 h0
  have hV : Y17.2.2.1 = Z.2.2.1 - 2 ∧ Y17.2.2.2 = Z.2.2.2 - 64 := by rw [← y17]; exact hV
  simp only [List.set] at h0
  refine g_aload_nq d_Rm_init_20 rfl 0 rfl ?_
  refine g_bipush (v := 32) d_Rm_init_21 rfl ?_
  refine g_newi (N := 32) d_Rm_init_23 rfl a_int rfl (by decide) (by omega) (by omega) (fun q2 p2 => ?_)
  generalize x2 : znew _ _ _ _ = X2
  have hA := hA.new ⟨ha, fun b hb => hb ▸ h0.1⟩ x2 p2
  have h0 := zhs_new_old' x2 h0 p2
  have hV : X2.2.2.1 = Z.2.2.1 - 3 ∧ X2.2.2.2 = Z.2.2.2 - 96 := by have := zbud_new x2; omega
  refine g_put d_Rm_init_25 w_Rm_18_Rm (by assumption) (by rfl) (by rfl) (by first | exact Nat.le_of_ble_eq_true rfl | omega) ?_
  generalize y25 : zput _ _ _ = Y25
  have hA := hA.put ha y25
  have h0 := zhs_put_same' y25 h0
  have hV : Y25.2.2.1 = Z.2.2.1 - 3 ∧ Y25.2.2.2 = Z.2.2.2 - 96 := by rw [← y25]; exact hV
  simp only [List.set] at h0
  refine g_aload_nq d_Rm_init_28 rfl 0 rfl ?_
  refine g_iconst (v := 0) d_Rm_init_29 rfl ?_
  refine g_put d_Rm_init_30 w_Rm_21_Rm (by assumption) (by rfl) (by rfl) (by first | exact Nat.le_of_ble_eq_true rfl | omega) ?_
  generalize y30 : zput _ _ _ = Y30
  have hA := hA.put ha y30
  have h0 := zhs_put_same' y30 h0
  have hV : Y30.2.2.1 = Z.2.2.1 - 3 ∧ Y30.2.2.2 = Z.2.2.2 - 96 := by rw [← y30]; exact hV
  simp only [List.set] at h0
  refine g_vret d_Rm_init_33 ?_
  exact hQ _ q2 q1 q0 hA h0 hV.1 hV.2

set_option maxHeartbeats 4000000 in
set_option maxRecDepth 100000 in
theorem C_K_initA {w : zC} {Z : zZ} {Q : zR → zZ → Prop} {a : Nat} (h0 : zhs Z a (.inr (0, [.null, .null, .null, .null, .null, .null, .null, .null, .null, .int 0, .int 0]))) (hb : 30 ≤ Z.2.2.1 ∧ 1535 ≤ Z.2.2.2) (hQ : ∀ Z' q8 r8_0 r8_1 r8_2 q7 r7_0 r7_1 r7_2 q6 q5 r5_0 r5_1 r5_2 q4 r4_0 r4_1 q3 q2 q1 r1_0 r1_1 r1_2 r1_3 r1_4 q0 r0_0 r0_1 r0_2 r0_3 r0_4, zAll Z Z' a [(q8, .inr (5, [.ref r8_2, .ref r8_1, .ref r8_0, .int 0])), (r8_0, xi w 32 (fun _ => 0)), (r8_1, xi w 32 (fun _ => 0)), (r8_2, xi w 32 (fun _ => 0)), (q7, .inr (5, [.ref r7_2, .ref r7_1, .ref r7_0, .int 0])), (r7_0, xi w 32 (fun _ => 0)), (r7_1, xi w 32 (fun _ => 0)), (r7_2, xi w 32 (fun _ => 0)), (q6, xl w 80 (fun _ => 0)), (q5, .inr (5, [.ref r5_2, .ref r5_1, .ref r5_0, .int 0])), (r5_0, xi w 32 (fun _ => 0)), (r5_1, xi w 32 (fun _ => 0)), (r5_2, xi w 32 (fun _ => 0)), (q4, .inr (4, [.ref r4_1, .ref r4_0, .int 0])), (r4_0, xi w 50 (fun _ => 0)), (r4_1, xi w 50 (fun _ => 0)), (q3, xz w 27 (fun _ => 0)), (q2, xr w 8 20 (fun _ => none)), (q1, .inr (3, [.ref r1_4, .ref r1_3, .ref r1_2, .ref r1_0, .int 0, .int 0, .int 0, .int 0, .int 0, .int 0, .int 0, .int 1])), (r1_0, .inr (2, [.ref r1_1, .int 0, .int 0, .int 0])), (r1_1, xc w 160 (fun _ => 0)), (r1_2, xi w 80 (fun _ => 0)), (r1_3, xi w 80 (fun _ => 0)), (r1_4, xi w 80 (fun _ => 0)), (q0, .inr (1, [.ref r0_4, .ref r0_3, .ref r0_2, .ref r0_1, .ref r0_0, .int 0, .int 0, .int 0, .int 0])), (r0_0, xr w 7 240 (fun _ => none)), (r0_1, xr w 6 160 (fun _ => none)), (r0_2, xr w 5 40 (fun _ => none)), (r0_3, xr w 4 40 (fun _ => none)), (r0_4, xi w 100 (fun _ => 0))] → zhs Z' a (.inr (0, [.ref q0, .ref q1, .ref q2, .ref q3, .ref q4, .ref q5, .ref q6, .ref q7, .ref q8, .int 0, .int 1])) → Z'.2.2.1 = Z.2.2.1 - 30 → Z'.2.2.2 = Z.2.2.2 - 1535 → Q (.inl none) Z') : Cz w (3, 64) y_K_init (Cond.code y_K_init c_K_init 1 r_K_init :: wz) [.ref a] Z Q := by
  refine Cz.of (by decide +kernel) (by simp [lg_sl, Value.category]) ?_
  show G _ _ _ _ _ _ _ _ [(0, _)] _ _
  have ha : a ∈ Z.1 := h0.1
  have hA : zAll Z Z a [] := zAll.rf
  have hV : Z.2.2.1 = Z.2.2.1 - 0 ∧ Z.2.2.2 = Z.2.2.2 - 0 := by omega
  refine g_aload_nq d_K_init_0 rfl 0 rfl ?_
  refine g_objI d_K_init_1 l_K_3 (by decide) (Nat.le_of_ble_eq_true rfl) ?_
  refine g_aload_nq d_K_init_4 rfl 0 rfl ?_
  have hs0 := h0.1
  refine g_new d_K_init_5 n_K_9 (by omega) (by omega) (fun q0 p0 => ?_)
  generalize x0 : znew _ _ _ _ = X0
  have m0 := zhs_new_same' x0
  have h0 := zhs_new_old' x0 h0 p0
  have hV : X0.2.2.1 = Z.2.2.1 - 1 ∧ X0.2.2.2 = Z.2.2.2 - 9 := by have := zbud_new x0; omega
  refine g_dup d_K_init_8 rfl ?_
  refine g_callIN d_K_init_9 k_Sc_init rfl l_K_11 i_Sc_init (by rfl) (by rfl) (Nat.le_of_ble_eq_true rfl) (by decide) (C_Sc_initA m0 (by omega) (fun W0 r0_0 r0_1 r0_2 r0_3 r0_4 hM m1 v1 v2 => ⟨_, rfl, ?_⟩))
  have hA := hA.sub ⟨ha, fun b hb => hb ▸ hs0⟩ x0 p0 hM m1
  have h0 := hM.1 _ _ (fun z => p0 (z ▸ hs0)) h0
  have hV : W0.2.2.1 = Z.2.2.1 - 6 ∧ W0.2.2.2 = Z.2.2.2 - 589 := by omega
  refine g_putF d_K_init_12 w_K_12_K rfl (by assumption) (by rfl) (by rfl) (by first | exact Nat.le_of_ble_eq_true rfl | omega) ?_
  generalize y12 : zput _ _ _ = Y12
  have hA := hA.put ha y12
  have h0 := zhs_put_same' y12 h0
  have hV : Y12.2.2.1 = Z.2.2.1 - 6 ∧ Y12.2.2.2 = Z.2.2.2 - 589 := by rw [← y12]; exact hV
  simp only [List.set] at h0
  refine g_aload_nq d_K_init_15 rfl 0 rfl ?_
  have hs0 := h0.1
  refine g_new d_K_init_16 n_K_16 (by omega) (by omega) (fun q1 p1 => ?_)
  generalize x1 : znew _ _ _ _ = X1
  have m0 := zhs_new_same' x1
  have h0 := zhs_new_old' x1 h0 p1
  have hV : X1.2.2.1 = Z.2.2.1 - 7 ∧ X1.2.2.2 = Z.2.2.2 - 601 := by have := zbud_new x1; omega
  refine g_dup d_K_init_19 rfl ?_
  refine g_callIN d_K_init_20 k_Rd_init rfl l_K_18 i_Rd_init (by rfl) (by rfl) (Nat.le_of_ble_eq_true rfl) (by decide) (C_Rd_initA m0 (by omega) (fun W1 r1_0 r1_1 r1_2 r1_3 r1_4 hM m1 v1 v2 => ⟨_, rfl, ?_⟩))
  have hA := hA.sub ⟨ha, fun b hb => hb ▸ hs0⟩ x1 p1 hM m1
  have h0 := hM.1 _ _ (fun z => p1 (z ▸ hs0)) h0
  have hV : W1.2.2.1 = Z.2.2.1 - 12 ∧ W1.2.2.2 = Z.2.2.2 - 1005 := by omega
  refine g_putF d_K_init_23 w_K_19_K rfl (by assumption) (by rfl) (by rfl) (by first | exact Nat.le_of_ble_eq_true rfl | omega) ?_
  generalize y23 : zput _ _ _ = Y23
  have hA := hA.put ha y23
  have h0 := zhs_put_same' y23 h0
  have hV : Y23.2.2.1 = Z.2.2.1 - 12 ∧ Y23.2.2.2 = Z.2.2.2 - 1005 := by rw [← y23]; exact hV
  simp only [List.set] at h0
  refine g_aload_nq d_K_init_26 rfl 0 rfl ?_
  refine g_bipush (v := 20) d_K_init_27 rfl ?_
  refine g_anew (N := 20) d_K_init_29 8 rfl t_K_23 a_Tr rfl (by decide) (by omega) (by omega) (fun q2 p2 => ?_)
  generalize x2 : znew _ _ _ _ = X2
  have hA := hA.new ⟨ha, fun b hb => hb ▸ h0.1⟩ x2 p2
  have h0 := zhs_new_old' x2 h0 p2
  have hV : X2.2.2.1 = Z.2.2.1 - 13 ∧ X2.2.2.2 = Z.2.2.2 - 1025 := by have := zbud_new x2; omega
  refine g_putF d_K_init_32 w_K_25_K rfl (by assumption) (by rfl) (by rfl) (by first | exact Nat.le_of_ble_eq_true rfl | omega) ?_
  generalize y32 : zput _ _ _ = Y32
  have hA := hA.put ha y32
  have h0 := zhs_put_same' y32 h0
  have hV : Y32.2.2.1 = Z.2.2.1 - 13 ∧ Y32.2.2.2 = Z.2.2.2 - 1025 := by rw [← y32]; exact hV
  simp only [List.set] at h0
  refine g_aload_nq d_K_init_35 rfl 0 rfl ?_
  refine g_bipush (v := 27) d_K_init_36 rfl ?_
  refine g_newz (N := 27) d_K_init_38 rfl a_boolean rfl (by decide) (by omega) (by omega) (fun q3 p3 => ?_)
  generalize x3 : znew _ _ _ _ = X3
  have hA := hA.new ⟨ha, fun b hb => hb ▸ h0.1⟩ x3 p3
  have h0 := zhs_new_old' x3 h0 p3
  have hV : X3.2.2.1 = Z.2.2.1 - 14 ∧ X3.2.2.2 = Z.2.2.2 - 1052 := by have := zbud_new x3; omega
  refine g_putF d_K_init_40 w_K_29_K rfl (by assumption) (by rfl) (by rfl) (by first | exact Nat.le_of_ble_eq_true rfl | omega) ?_
  generalize y40 : zput _ _ _ = Y40
  have hA := hA.put ha y40
  have h0 := zhs_put_same' y40 h0
  have hV : Y40.2.2.1 = Z.2.2.1 - 14 ∧ Y40.2.2.2 = Z.2.2.2 - 1052 := by rw [← y40]; exact hV
  simp only [List.set] at h0
  refine g_aload_nq d_K_init_43 rfl 0 rfl ?_
  have hs0 := h0.1
  refine g_new d_K_init_44 n_K_33 (by omega) (by omega) (fun q4 p4 => ?_)
  generalize x4 : znew _ _ _ _ = X4
  have m0 := zhs_new_same' x4
  have h0 := zhs_new_old' x4 h0 p4
  have hV : X4.2.2.1 = Z.2.2.1 - 15 ∧ X4.2.2.2 = Z.2.2.2 - 1055 := by have := zbud_new x4; omega
  refine g_dup d_K_init_47 rfl ?_
  refine g_callIN d_K_init_48 k_Wv_init rfl l_K_35 i_Wv_init (by rfl) (by rfl) (Nat.le_of_ble_eq_true rfl) (by decide) (C_Wv_initA m0 (by omega) (fun W4 r4_0 r4_1 hM m1 v1 v2 => ⟨_, rfl, ?_⟩))
  have hA := hA.sub ⟨ha, fun b hb => hb ▸ hs0⟩ x4 p4 hM m1
  have h0 := hM.1 _ _ (fun z => p4 (z ▸ hs0)) h0
  have hV : W4.2.2.1 = Z.2.2.1 - 17 ∧ W4.2.2.2 = Z.2.2.2 - 1155 := by omega
  refine g_putF d_K_init_51 w_K_36_K rfl (by assumption) (by rfl) (by rfl) (by first | exact Nat.le_of_ble_eq_true rfl | omega) ?_
  generalize y51 : zput _ _ _ = Y51
  have hA := hA.put ha y51
  have h0 := zhs_put_same' y51 h0
  have hV : Y51.2.2.1 = Z.2.2.1 - 17 ∧ Y51.2.2.2 = Z.2.2.2 - 1155 := by rw [← y51]; exact hV
  simp only [List.set] at h0
  refine g_aload_nq d_K_init_54 rfl 0 rfl ?_
  have hs0 := h0.1
  refine g_new d_K_init_55 n_K_40 (by omega) (by omega) (fun q5 p5 => ?_)
  generalize x5 : znew _ _ _ _ = X5
  have m0 := zhs_new_same' x5
  have h0 := zhs_new_old' x5 h0 p5
  have hV : X5.2.2.1 = Z.2.2.1 - 18 ∧ X5.2.2.2 = Z.2.2.2 - 1159 := by have := zbud_new x5; omega
  refine g_dup d_K_init_58 rfl ?_
  refine g_callIN d_K_init_59 k_Rm_init rfl l_K_42 i_Rm_init (by rfl) (by rfl) (Nat.le_of_ble_eq_true rfl) (by decide) (C_Rm_initA m0 (by omega) (fun W5 r5_0 r5_1 r5_2 hM m1 v1 v2 => ⟨_, rfl, ?_⟩))
  have hA := hA.sub ⟨ha, fun b hb => hb ▸ hs0⟩ x5 p5 hM m1
  have h0 := hM.1 _ _ (fun z => p5 (z ▸ hs0)) h0
  have hV : W5.2.2.1 = Z.2.2.1 - 21 ∧ W5.2.2.2 = Z.2.2.2 - 1255 := by omega
  refine g_putF d_K_init_62 w_K_43_K rfl (by assumption) (by rfl) (by rfl) (by first | exact Nat.le_of_ble_eq_true rfl | omega) ?_
  generalize y62 : zput _ _ _ = Y62
  have hA := hA.put ha y62
  have h0 := zhs_put_same' y62 h0
  have hV : Y62.2.2.1 = Z.2.2.1 - 21 ∧ Y62.2.2.2 = Z.2.2.2 - 1255 := by rw [← y62]; exact hV
  simp only [List.set] at h0
  refine g_aload_nq d_K_init_65 rfl 0 rfl ?_
  refine g_bipush (v := 80) d_K_init_66 rfl ?_
  refine g_newl (N := 80) d_K_init_68 rfl a_long rfl (by decide) (by omega) (by omega) (fun q6 p6 => ?_)
  generalize x6 : znew _ _ _ _ = X6
  have hA := hA.new ⟨ha, fun b hb => hb ▸ h0.1⟩ x6 p6
  have h0 := zhs_new_old' x6 h0 p6
  have hV : X6.2.2.1 = Z.2.2.1 - 22 ∧ X6.2.2.2 = Z.2.2.2 - 1335 := by have := zbud_new x6; omega
  refine g_putF d_K_init_70 w_K_47_K rfl (by assumption) (by rfl) (by rfl) (by first | exact Nat.le_of_ble_eq_true rfl | omega) ?_
  generalize y70 : zput _ _ _ = Y70
  have hA := hA.put ha y70
  have h0 := zhs_put_same' y70 h0
  have hV : Y70.2.2.1 = Z.2.2.1 - 22 ∧ Y70.2.2.2 = Z.2.2.2 - 1335 := by rw [← y70]; exact hV
  simp only [List.set] at h0
  refine g_aload_nq d_K_init_73 rfl 0 rfl ?_
  have hs0 := h0.1
  refine g_new d_K_init_74 n_K_40 (by omega) (by omega) (fun q7 p7 => ?_)
  generalize x7 : znew _ _ _ _ = X7
  have m0 := zhs_new_same' x7
  have h0 := zhs_new_old' x7 h0 p7
  have hV : X7.2.2.1 = Z.2.2.1 - 23 ∧ X7.2.2.2 = Z.2.2.2 - 1339 := by have := zbud_new x7; omega
  refine g_dup d_K_init_77 rfl ?_
  refine g_callIN d_K_init_78 k_Rm_init rfl l_K_42 i_Rm_init (by rfl) (by rfl) (Nat.le_of_ble_eq_true rfl) (by decide) (C_Rm_initA m0 (by omega) (fun W7 r7_0 r7_1 r7_2 hM m1 v1 v2 => ⟨_, rfl, ?_⟩))
  have hA := hA.sub ⟨ha, fun b hb => hb ▸ hs0⟩ x7 p7 hM m1
  have h0 := hM.1 _ _ (fun z => p7 (z ▸ hs0)) h0
  have hV : W7.2.2.1 = Z.2.2.1 - 26 ∧ W7.2.2.2 = Z.2.2.2 - 1435 := by omega
  refine g_put d_K_init_81 w_K_51_K (by assumption) (by rfl) (by rfl) (by first | exact Nat.le_of_ble_eq_true rfl | omega) ?_
  generalize y81 : zput _ _ _ = Y81
  have hA := hA.put ha y81
  have h0 := zhs_put_same' y81 h0
  have hV : Y81.2.2.1 = Z.2.2.1 - 26 ∧ Y81.2.2.2 = Z.2.2.2 - 1435 := by rw [← y81]; exact hV
  simp only [List.set] at h0
  refine g_aload_nq d_K_init_84 rfl 0 rfl ?_
  have hs0 := h0.1
  refine g_new d_K_init_85 n_K_40 (by omega) (by omega) (fun q8 p8 => ?_)
  generalize x8 : znew _ _ _ _ = X8
  have m0 := zhs_new_same' x8
  have h0 := zhs_new_old' x8 h0 p8
  have hV : X8.2.2.1 = Z.2.2.1 - 27 ∧ X8.2.2.2 = Z.2.2.2 - 1439 := by have := zbud_new x8; omega
  refine g_dup d_K_init_88 rfl ?_
  refine g_callIN d_K_init_89 k_Rm_init rfl l_K_42 i_Rm_init (by rfl) (by rfl) (Nat.le_of_ble_eq_true rfl) (by decide) (C_Rm_initA m0 (by omega) (fun W8 r8_0 r8_1 r8_2 hM m1 v1 v2 => ⟨_, rfl, ?_⟩))
  have hA := hA.sub ⟨ha, fun b hb => hb ▸ hs0⟩ x8 p8 hM m1
  have h0 := hM.1 _ _ (fun z => p8 (z ▸ hs0)) h0
  have hV : W8.2.2.1 = Z.2.2.1 - 30 ∧ W8.2.2.2 = Z.2.2.2 - 1535 := by omega
  refine g_put d_K_init_92 w_K_54_K (by assumption) (by rfl) (by rfl) (by first | exact Nat.le_of_ble_eq_true rfl | omega) ?_
  generalize y92 : zput _ _ _ = Y92
  have hA := hA.put ha y92
  have h0 := zhs_put_same' y92 h0
  have hV : Y92.2.2.1 = Z.2.2.1 - 30 ∧ Y92.2.2.2 = Z.2.2.2 - 1535 := by rw [← y92]; exact hV
  simp only [List.set] at h0
  refine g_aload_nq d_K_init_95 rfl 0 rfl ?_
  refine g_iconst (v := 0) d_K_init_96 rfl ?_
  refine g_put d_K_init_97 w_K_57_K (by assumption) (by rfl) (by rfl) (by first | exact Nat.le_of_ble_eq_true rfl | omega) ?_
  generalize y97 : zput _ _ _ = Y97
  have hA := hA.put ha y97
  have h0 := zhs_put_same' y97 h0
  have hV : Y97.2.2.1 = Z.2.2.1 - 30 ∧ Y97.2.2.2 = Z.2.2.2 - 1535 := by rw [← y97]; exact hV
  simp only [List.set] at h0
  refine g_aload_nq d_K_init_100 rfl 0 rfl ?_
  refine g_iconst (v := 1) d_K_init_101 rfl ?_
  refine g_put d_K_init_102 w_K_61_K (by assumption) (by rfl) (by rfl) (by first | exact Nat.le_of_ble_eq_true rfl | omega) ?_
  generalize y102 : zput _ _ _ = Y102
  have hA := hA.put ha y102
  have h0 := zhs_put_same' y102 h0
  have hV : Y102.2.2.1 = Z.2.2.1 - 30 ∧ Y102.2.2.2 = Z.2.2.2 - 1535 := by rw [← y102]; exact hV
  simp only [List.set] at h0
  refine g_vret d_K_init_105 ?_
  exact hQ _ q8 r8_0 r8_1 r8_2 q7 r7_0 r7_1 r7_2 q6 q5 r5_0 r5_1 r5_2 q4 r4_0 r4_1 q3 q2 q1 r1_0 r1_1 r1_2 r1_3 r1_4 q0 r0_0 r0_1 r0_2 r0_3 r0_4 hA h0 hV.1 hV.2

set_option maxHeartbeats 4000000 in
set_option maxRecDepth 100000 in
theorem C_Mo_initA {w : zC} {Z : zZ} {Q : zR → zZ → Prop} {a : Nat} (h0 : zhs Z a (.inr (10, [.int 0, .null, .int 0, .int 0, .int 0, .null, .null, .null, .null, .null, .null, .null, .int 0, .null, .null, .null, .null, .int 0, .int 0, .null, .null, .null, .null, .null, .null, .int 0, .null, .null, .null, .int 0, .int 0, .null, .null, .int 0, .int 0, .int 0, .int 0, .null, .int 0, .int 0, .int 0, .null]))) (hb : 25 ≤ Z.2.2.1 ∧ 24897 ≤ Z.2.2.2) (hQ : ∀ Z' q24 q23 q22 q21 q20 q19 q18 q17 q16 q15 q14 q13 q12 q11 q10 q9 q8 q7 q6 q5 q4 q3 q2 q1 q0, zAll Z Z' a [(q24, xl w 90 (fun _ => 0)), (q23, xi w 100 (fun _ => 0)), (q22, xi w 50 (fun _ => 0)), (q21, xi w 50 (fun _ => 0)), (q20, xi w 6480 (fun _ => 0)), (q19, xi w 6480 (fun _ => 0)), (q18, xi w 6480 (fun _ => 0)), (q17, xz w 27 (fun _ => 0)), (q16, xi w 1800 (fun _ => 0)), (q15, xi w 1800 (fun _ => 0)), (q14, xi w 20 (fun _ => 0)), (q13, xi w 20 (fun _ => 0)), (q12, xi w 20 (fun _ => 0)), (q11, xi w 160 (fun _ => 0)), (q10, xl w 100 (fun _ => 0)), (q9, xl w 100 (fun _ => 0)), (q8, xi w 100 (fun _ => 0)), (q7, xi w 160 (fun _ => 0)), (q6, xi w 160 (fun _ => 0)), (q5, xi w 160 (fun _ => 0)), (q4, xi w 40 (fun _ => 0)), (q3, xi w 40 (fun _ => 0)), (q2, xl w 320 (fun _ => 0)), (q1, xi w 40 (fun _ => 0)), (q0, xi w 100 (fun _ => 0))] → zhs Z' a (.inr (10, [.int 0, .ref q0, .int 0, .int 0, .int 0, .ref q1, .ref q2, .ref q3, .ref q4, .ref q5, .ref q6, .ref q7, .int 0, .ref q8, .ref q9, .ref q10, .ref q11, .int 0, .int 0, .ref q12, .ref q13, .ref q14, .ref q15, .ref q16, .ref q17, .int 1, .ref q18, .ref q19, .ref q20, .int 0, .int 0, .ref q21, .ref q22, .int 0, .int 0, .int 0, .int 0, .ref q23, .int 0, .int 0, .int 0, .ref q24])) → Z'.2.2.1 = Z.2.2.1 - 25 → Z'.2.2.2 = Z.2.2.2 - 24897 → Q (.inl none) Z') : Cz w (1, 20) y_Mo_init (Cond.code y_Mo_init c_Mo_init 1 r_Mo_init :: wz) [.ref a] Z Q := by
  refine Cz.of (by decide +kernel) (by simp [lg_sl, Value.category]) ?_
  show G _ _ _ _ _ _ _ _ [(0, _)] _ _
  have ha : a ∈ Z.1 := h0.1
  have hA : zAll Z Z a [] := zAll.rf
  have hV : Z.2.2.1 = Z.2.2.1 - 0 ∧ Z.2.2.2 = Z.2.2.2 - 0 := by omega
  refine g_aload_nq d_Mo_init_0 rfl 0 rfl ?_
  refine g_objI d_Mo_init_1 l_Mo_1 (by decide) (Nat.le_of_ble_eq_true rfl) ?_
  refine g_aload_nq d_Mo_init_4 rfl 0 rfl ?_
  refine g_bipush (v := 100) d_Mo_init_5 rfl ?_
  refine g_newi (N := 100) d_Mo_init_7 rfl a_int rfl (by decide) (by omega) (by omega) (fun q0 p0 => ?_)
  generalize x0 : znew _ _ _ _ = X0
  have hA := hA.new ⟨ha, fun b hb => hb ▸ h0.1⟩ x0 p0
  have h0 := zhs_new_old' x0 h0 p0
  have hV : X0.2.2.1 = Z.2.2.1 - 1 ∧ X0.2.2.2 = Z.2.2.2 - 100 := by have := zbud_new x0; omega
  refine g_putF d_Mo_init_9 w_Mo_7_Mo rfl (by assumption) (by rfl) (by rfl) (by first | exact Nat.le_of_ble_eq_true rfl | omega) ?_
  generalize y9 : zput _ _ _ = Y9
  have hA := hA.put ha y9
  have h0 := zhs_put_same' y9 h0
  have hV : Y9.2.2.1 = Z.2.2.1 - 1 ∧ Y9.2.2.2 = Z.2.2.2 - 100 := by rw [← y9]; exact hV
  simp only [List.set] at h0
  refine g_aload_nq d_Mo_init_12 rfl 0 rfl ?_
  refine g_bipush (v := 40) d_Mo_init_13 rfl ?_
  refine g_newi (N := 40) d_Mo_init_15 rfl a_int rfl (by decide) (by omega) (by omega) (fun q1 p1 => ?_)
  generalize x1 : znew _ _ _ _ = X1
  have hA := hA.new ⟨ha, fun b hb => hb ▸ h0.1⟩ x1 p1
  have h0 := zhs_new_old' x1 h0 p1
  have hV : X1.2.2.1 = Z.2.2.1 - 2 ∧ X1.2.2.2 = Z.2.2.2 - 140 := by have := zbud_new x1; omega
  refine g_putF d_Mo_init_17 w_Mo_13_Mo rfl (by assumption) (by rfl) (by rfl) (by first | exact Nat.le_of_ble_eq_true rfl | omega) ?_
  generalize y17 : zput _ _ _ = Y17
  have hA := hA.put ha y17
  have h0 := zhs_put_same' y17 h0
  have hV : Y17.2.2.1 = Z.2.2.1 - 2 ∧ Y17.2.2.2 = Z.2.2.2 - 140 := by rw [← y17]; exact hV
  simp only [List.set] at h0
  refine g_aload_nq d_Mo_init_20 rfl 0 rfl ?_
  refine g_sipush (v := 320) d_Mo_init_21 rfl ?_
  refine g_newl (N := 320) d_Mo_init_24 rfl a_long rfl (by decide) (by omega) (by omega) (fun q2 p2 => ?_)
  generalize x2 : znew _ _ _ _ = X2
  have hA := hA.new ⟨ha, fun b hb => hb ▸ h0.1⟩ x2 p2
  have h0 := zhs_new_old' x2 h0 p2
  have hV : X2.2.2.1 = Z.2.2.1 - 3 ∧ X2.2.2.2 = Z.2.2.2 - 460 := by have := zbud_new x2; omega
  refine g_putF d_Mo_init_26 w_Mo_16_Mo rfl (by assumption) (by rfl) (by rfl) (by first | exact Nat.le_of_ble_eq_true rfl | omega) ?_
  generalize y26 : zput _ _ _ = Y26
  have hA := hA.put ha y26
  have h0 := zhs_put_same' y26 h0
  have hV : Y26.2.2.1 = Z.2.2.1 - 3 ∧ Y26.2.2.2 = Z.2.2.2 - 460 := by rw [← y26]; exact hV
  simp only [List.set] at h0
  refine g_aload_nq d_Mo_init_29 rfl 0 rfl ?_
  refine g_bipush (v := 40) d_Mo_init_30 rfl ?_
  refine g_newi (N := 40) d_Mo_init_32 rfl a_int rfl (by decide) (by omega) (by omega) (fun q3 p3 => ?_)
  generalize x3 : znew _ _ _ _ = X3
  have hA := hA.new ⟨ha, fun b hb => hb ▸ h0.1⟩ x3 p3
  have h0 := zhs_new_old' x3 h0 p3
  have hV : X3.2.2.1 = Z.2.2.1 - 4 ∧ X3.2.2.2 = Z.2.2.2 - 500 := by have := zbud_new x3; omega
  refine g_putF d_Mo_init_34 w_Mo_20_Mo rfl (by assumption) (by rfl) (by rfl) (by first | exact Nat.le_of_ble_eq_true rfl | omega) ?_
  generalize y34 : zput _ _ _ = Y34
  have hA := hA.put ha y34
  have h0 := zhs_put_same' y34 h0
  have hV : Y34.2.2.1 = Z.2.2.1 - 4 ∧ Y34.2.2.2 = Z.2.2.2 - 500 := by rw [← y34]; exact hV
  simp only [List.set] at h0
  refine g_aload_nq d_Mo_init_37 rfl 0 rfl ?_
  refine g_bipush (v := 40) d_Mo_init_38 rfl ?_
  refine g_newi (N := 40) d_Mo_init_40 rfl a_int rfl (by decide) (by omega) (by omega) (fun q4 p4 => ?_)
  generalize x4 : znew _ _ _ _ = X4
  have hA := hA.new ⟨ha, fun b hb => hb ▸ h0.1⟩ x4 p4
  have h0 := zhs_new_old' x4 h0 p4
  have hV : X4.2.2.1 = Z.2.2.1 - 5 ∧ X4.2.2.2 = Z.2.2.2 - 540 := by have := zbud_new x4; omega
  refine g_putF d_Mo_init_42 w_Mo_23_Mo rfl (by assumption) (by rfl) (by rfl) (by first | exact Nat.le_of_ble_eq_true rfl | omega) ?_
  generalize y42 : zput _ _ _ = Y42
  have hA := hA.put ha y42
  have h0 := zhs_put_same' y42 h0
  have hV : Y42.2.2.1 = Z.2.2.1 - 5 ∧ Y42.2.2.2 = Z.2.2.2 - 540 := by rw [← y42]; exact hV
  simp only [List.set] at h0
  refine g_aload_nq d_Mo_init_45 rfl 0 rfl ?_
  refine g_sipush (v := 160) d_Mo_init_46 rfl ?_
  refine g_newi (N := 160) d_Mo_init_49 rfl a_int rfl (by decide) (by omega) (by omega) (fun q5 p5 => ?_)
  generalize x5 : znew _ _ _ _ = X5
  have hA := hA.new ⟨ha, fun b hb => hb ▸ h0.1⟩ x5 p5
  have h0 := zhs_new_old' x5 h0 p5
  have hV : X5.2.2.1 = Z.2.2.1 - 6 ∧ X5.2.2.2 = Z.2.2.2 - 700 := by have := zbud_new x5; omega
  refine g_putF d_Mo_init_51 w_Mo_26_Mo rfl (by assumption) (by rfl) (by rfl) (by first | exact Nat.le_of_ble_eq_true rfl | omega) ?_
  generalize y51 : zput _ _ _ = Y51
  have hA := hA.put ha y51
  have h0 := zhs_put_same' y51 h0
  have hV : Y51.2.2.1 = Z.2.2.1 - 6 ∧ Y51.2.2.2 = Z.2.2.2 - 700 := by rw [← y51]; exact hV
  simp only [List.set] at h0
  refine g_aload_nq d_Mo_init_54 rfl 0 rfl ?_
  refine g_sipush (v := 160) d_Mo_init_55 rfl ?_
  refine g_newi (N := 160) d_Mo_init_58 rfl a_int rfl (by decide) (by omega) (by omega) (fun q6 p6 => ?_)
  generalize x6 : znew _ _ _ _ = X6
  have hA := hA.new ⟨ha, fun b hb => hb ▸ h0.1⟩ x6 p6
  have h0 := zhs_new_old' x6 h0 p6
  have hV : X6.2.2.1 = Z.2.2.1 - 7 ∧ X6.2.2.2 = Z.2.2.2 - 860 := by have := zbud_new x6; omega
  refine g_putF d_Mo_init_60 w_Mo_29_Mo rfl (by assumption) (by rfl) (by rfl) (by first | exact Nat.le_of_ble_eq_true rfl | omega) ?_
  generalize y60 : zput _ _ _ = Y60
  have hA := hA.put ha y60
  have h0 := zhs_put_same' y60 h0
  have hV : Y60.2.2.1 = Z.2.2.1 - 7 ∧ Y60.2.2.2 = Z.2.2.2 - 860 := by rw [← y60]; exact hV
  simp only [List.set] at h0
  refine g_aload_nq d_Mo_init_63 rfl 0 rfl ?_
  refine g_sipush (v := 160) d_Mo_init_64 rfl ?_
  refine g_newi (N := 160) d_Mo_init_67 rfl a_int rfl (by decide) (by omega) (by omega) (fun q7 p7 => ?_)
  generalize x7 : znew _ _ _ _ = X7
  have hA := hA.new ⟨ha, fun b hb => hb ▸ h0.1⟩ x7 p7
  have h0 := zhs_new_old' x7 h0 p7
  have hV : X7.2.2.1 = Z.2.2.1 - 8 ∧ X7.2.2.2 = Z.2.2.2 - 1020 := by have := zbud_new x7; omega
  refine g_putF d_Mo_init_69 w_Mo_32_Mo rfl (by assumption) (by rfl) (by rfl) (by first | exact Nat.le_of_ble_eq_true rfl | omega) ?_
  generalize y69 : zput _ _ _ = Y69
  have hA := hA.put ha y69
  have h0 := zhs_put_same' y69 h0
  have hV : Y69.2.2.1 = Z.2.2.1 - 8 ∧ Y69.2.2.2 = Z.2.2.2 - 1020 := by rw [← y69]; exact hV
  simp only [List.set] at h0
  refine g_aload_nq d_Mo_init_72 rfl 0 rfl ?_
  refine g_bipush (v := 100) d_Mo_init_73 rfl ?_
  refine g_newi (N := 100) d_Mo_init_75 rfl a_int rfl (by decide) (by omega) (by omega) (fun q8 p8 => ?_)
  generalize x8 : znew _ _ _ _ = X8
  have hA := hA.new ⟨ha, fun b hb => hb ▸ h0.1⟩ x8 p8
  have h0 := zhs_new_old' x8 h0 p8
  have hV : X8.2.2.1 = Z.2.2.1 - 9 ∧ X8.2.2.2 = Z.2.2.2 - 1120 := by have := zbud_new x8; omega
  refine g_putF d_Mo_init_77 w_Mo_35_Mo rfl (by assumption) (by rfl) (by rfl) (by first | exact Nat.le_of_ble_eq_true rfl | omega) ?_
  generalize y77 : zput _ _ _ = Y77
  have hA := hA.put ha y77
  have h0 := zhs_put_same' y77 h0
  have hV : Y77.2.2.1 = Z.2.2.1 - 9 ∧ Y77.2.2.2 = Z.2.2.2 - 1120 := by rw [← y77]; exact hV
  simp only [List.set] at h0
  refine g_aload_nq d_Mo_init_80 rfl 0 rfl ?_
  refine g_bipush (v := 100) d_Mo_init_81 rfl ?_
  refine g_newl (N := 100) d_Mo_init_83 rfl a_long rfl (by decide) (by omega) (by omega) (fun q9 p9 => ?_)
  generalize x9 : znew _ _ _ _ = X9
  have hA := hA.new ⟨ha, fun b hb => hb ▸ h0.1⟩ x9 p9
  have h0 := zhs_new_old' x9 h0 p9
  have hV : X9.2.2.1 = Z.2.2.1 - 10 ∧ X9.2.2.2 = Z.2.2.2 - 1220 := by have := zbud_new x9; omega
  refine g_putF d_Mo_init_85 w_Mo_38_Mo rfl (by assumption) (by rfl) (by rfl) (by first | exact Nat.le_of_ble_eq_true rfl | omega) ?_
  generalize y85 : zput _ _ _ = Y85
  have hA := hA.put ha y85
  have h0 := zhs_put_same' y85 h0
  have hV : Y85.2.2.1 = Z.2.2.1 - 10 ∧ Y85.2.2.2 = Z.2.2.2 - 1220 := by rw [← y85]; exact hV
  simp only [List.set] at h0
  refine g_aload_nq d_Mo_init_88 rfl 0 rfl ?_
  refine g_bipush (v := 100) d_Mo_init_89 rfl ?_
  refine g_newl (N := 100) d_Mo_init_91 rfl a_long rfl (by decide) (by omega) (by omega) (fun q10 p10 => ?_)
  generalize x10 : znew _ _ _ _ = X10
  have hA := hA.new ⟨ha, fun b hb => hb ▸ h0.1⟩ x10 p10
  have h0 := zhs_new_old' x10 h0 p10
  have hV : X10.2.2.1 = Z.2.2.1 - 11 ∧ X10.2.2.2 = Z.2.2.2 - 1320 := by have := zbud_new x10; omega
  refine g_putF d_Mo_init_93 w_Mo_41_Mo rfl (by assumption) (by rfl) (by rfl) (by first | exact Nat.le_of_ble_eq_true rfl | omega) ?_
  generalize y93 : zput _ _ _ = Y93
  have hA := hA.put ha y93
  have h0 := zhs_put_same' y93 h0
  have hV : Y93.2.2.1 = Z.2.2.1 - 11 ∧ Y93.2.2.2 = Z.2.2.2 - 1320 := by rw [← y93]; exact hV
  simp only [List.set] at h0
  refine g_aload_nq d_Mo_init_96 rfl 0 rfl ?_
  refine g_sipush (v := 160) d_Mo_init_97 rfl ?_
  refine g_newi (N := 160) d_Mo_init_100 rfl a_int rfl (by decide) (by omega) (by omega) (fun q11 p11 => ?_)
  generalize x11 : znew _ _ _ _ = X11
  have hA := hA.new ⟨ha, fun b hb => hb ▸ h0.1⟩ x11 p11
  have h0 := zhs_new_old' x11 h0 p11
  have hV : X11.2.2.1 = Z.2.2.1 - 12 ∧ X11.2.2.2 = Z.2.2.2 - 1480 := by have := zbud_new x11; omega
  refine g_putF d_Mo_init_102 w_Mo_44_Mo rfl (by assumption) (by rfl) (by rfl) (by first | exact Nat.le_of_ble_eq_true rfl | omega) ?_
  generalize y102 : zput _ _ _ = Y102
  have hA := hA.put ha y102
  have h0 := zhs_put_same' y102 h0
  have hV : Y102.2.2.1 = Z.2.2.1 - 12 ∧ Y102.2.2.2 = Z.2.2.2 - 1480 := by rw [← y102]; exact hV
  simp only [List.set] at h0
  refine g_aload_nq d_Mo_init_105 rfl 0 rfl ?_
  refine g_bipush (v := 20) d_Mo_init_106 rfl ?_
  refine g_newi (N := 20) d_Mo_init_108 rfl a_int rfl (by decide) (by omega) (by omega) (fun q12 p12 => ?_)
  generalize x12 : znew _ _ _ _ = X12
  have hA := hA.new ⟨ha, fun b hb => hb ▸ h0.1⟩ x12 p12
  have h0 := zhs_new_old' x12 h0 p12
  have hV : X12.2.2.1 = Z.2.2.1 - 13 ∧ X12.2.2.2 = Z.2.2.2 - 1500 := by have := zbud_new x12; omega
  refine g_putF d_Mo_init_110 w_Mo_47_Mo rfl (by assumption) (by rfl) (by rfl) (by first | exact Nat.le_of_ble_eq_true rfl | omega) ?_
  generalize y110 : zput _ _ _ = Y110
  have hA := hA.put ha y110
  have h0 := zhs_put_same' y110 h0
  have hV : Y110.2.2.1 = Z.2.2.1 - 13 ∧ Y110.2.2.2 = Z.2.2.2 - 1500 := by rw [← y110]; exact hV
  simp only [List.set] at h0
  refine g_aload_nq d_Mo_init_113 rfl 0 rfl ?_
  refine g_bipush (v := 20) d_Mo_init_114 rfl ?_
  refine g_newi (N := 20) d_Mo_init_116 rfl a_int rfl (by decide) (by omega) (by omega) (fun q13 p13 => ?_)
  generalize x13 : znew _ _ _ _ = X13
  have hA := hA.new ⟨ha, fun b hb => hb ▸ h0.1⟩ x13 p13
  have h0 := zhs_new_old' x13 h0 p13
  have hV : X13.2.2.1 = Z.2.2.1 - 14 ∧ X13.2.2.2 = Z.2.2.2 - 1520 := by have := zbud_new x13; omega
  refine g_putF d_Mo_init_118 w_Mo_50_Mo rfl (by assumption) (by rfl) (by rfl) (by first | exact Nat.le_of_ble_eq_true rfl | omega) ?_
  generalize y118 : zput _ _ _ = Y118
  have hA := hA.put ha y118
  have h0 := zhs_put_same' y118 h0
  have hV : Y118.2.2.1 = Z.2.2.1 - 14 ∧ Y118.2.2.2 = Z.2.2.2 - 1520 := by rw [← y118]; exact hV
  simp only [List.set] at h0
  refine g_aload_nq d_Mo_init_121 rfl 0 rfl ?_
  refine g_bipush (v := 20) d_Mo_init_122 rfl ?_
  refine g_newi (N := 20) d_Mo_init_124 rfl a_int rfl (by decide) (by omega) (by omega) (fun q14 p14 => ?_)
  generalize x14 : znew _ _ _ _ = X14
  have hA := hA.new ⟨ha, fun b hb => hb ▸ h0.1⟩ x14 p14
  have h0 := zhs_new_old' x14 h0 p14
  have hV : X14.2.2.1 = Z.2.2.1 - 15 ∧ X14.2.2.2 = Z.2.2.2 - 1540 := by have := zbud_new x14; omega
  refine g_putF d_Mo_init_126 w_Mo_53_Mo rfl (by assumption) (by rfl) (by rfl) (by first | exact Nat.le_of_ble_eq_true rfl | omega) ?_
  generalize y126 : zput _ _ _ = Y126
  have hA := hA.put ha y126
  have h0 := zhs_put_same' y126 h0
  have hV : Y126.2.2.1 = Z.2.2.1 - 15 ∧ Y126.2.2.2 = Z.2.2.2 - 1540 := by rw [← y126]; exact hV
  simp only [List.set] at h0
  refine g_aload_nq d_Mo_init_129 rfl 0 rfl ?_
  refine g_sipush (v := 1800) d_Mo_init_130 rfl ?_
  refine g_newi (N := 1800) d_Mo_init_133 rfl a_int rfl (by decide) (by omega) (by omega) (fun q15 p15 => ?_)
  generalize x15 : znew _ _ _ _ = X15
  have hA := hA.new ⟨ha, fun b hb => hb ▸ h0.1⟩ x15 p15
  have h0 := zhs_new_old' x15 h0 p15
  have hV : X15.2.2.1 = Z.2.2.1 - 16 ∧ X15.2.2.2 = Z.2.2.2 - 3340 := by have := zbud_new x15; omega
  refine g_putF d_Mo_init_135 w_Mo_56_Mo rfl (by assumption) (by rfl) (by rfl) (by first | exact Nat.le_of_ble_eq_true rfl | omega) ?_
  generalize y135 : zput _ _ _ = Y135
  have hA := hA.put ha y135
  have h0 := zhs_put_same' y135 h0
  have hV : Y135.2.2.1 = Z.2.2.1 - 16 ∧ Y135.2.2.2 = Z.2.2.2 - 3340 := by rw [← y135]; exact hV
  simp only [List.set] at h0
  refine g_aload_nq d_Mo_init_138 rfl 0 rfl ?_
  refine g_sipush (v := 1800) d_Mo_init_139 rfl ?_
  refine g_newi (N := 1800) d_Mo_init_142 rfl a_int rfl (by decide) (by omega) (by omega) (fun q16 p16 => ?_)
  generalize x16 : znew _ _ _ _ = X16
  have hA := hA.new ⟨ha, fun b hb => hb ▸ h0.1⟩ x16 p16
  have h0 := zhs_new_old' x16 h0 p16
  have hV : X16.2.2.1 = Z.2.2.1 - 17 ∧ X16.2.2.2 = Z.2.2.2 - 5140 := by have := zbud_new x16; omega
  refine g_putF d_Mo_init_144 w_Mo_59_Mo rfl (by assumption) (by rfl) (by rfl) (by first | exact Nat.le_of_ble_eq_true rfl | omega) ?_
  generalize y144 : zput _ _ _ = Y144
  have hA := hA.put ha y144
  have h0 := zhs_put_same' y144 h0
  have hV : Y144.2.2.1 = Z.2.2.1 - 17 ∧ Y144.2.2.2 = Z.2.2.2 - 5140 := by rw [← y144]; exact hV
  simp only [List.set] at h0
  refine g_aload_nq d_Mo_init_147 rfl 0 rfl ?_
  refine g_bipush (v := 27) d_Mo_init_148 rfl ?_
  refine g_newz (N := 27) d_Mo_init_150 rfl a_boolean rfl (by decide) (by omega) (by omega) (fun q17 p17 => ?_)
  generalize x17 : znew _ _ _ _ = X17
  have hA := hA.new ⟨ha, fun b hb => hb ▸ h0.1⟩ x17 p17
  have h0 := zhs_new_old' x17 h0 p17
  have hV : X17.2.2.1 = Z.2.2.1 - 18 ∧ X17.2.2.2 = Z.2.2.2 - 5167 := by have := zbud_new x17; omega
  refine g_putF d_Mo_init_152 w_Mo_62_Mo rfl (by assumption) (by rfl) (by rfl) (by first | exact Nat.le_of_ble_eq_true rfl | omega) ?_
  generalize y152 : zput _ _ _ = Y152
  have hA := hA.put ha y152
  have h0 := zhs_put_same' y152 h0
  have hV : Y152.2.2.1 = Z.2.2.1 - 18 ∧ Y152.2.2.2 = Z.2.2.2 - 5167 := by rw [← y152]; exact hV
  simp only [List.set] at h0
  refine g_aload_nq d_Mo_init_155 rfl 0 rfl ?_
  refine g_iconst (v := 1) d_Mo_init_156 rfl ?_
  refine g_put d_Mo_init_157 w_Mo_66_Mo (by assumption) (by rfl) (by rfl) (by first | exact Nat.le_of_ble_eq_true rfl | omega) ?_
  generalize y157 : zput _ _ _ = Y157
  have hA := hA.put ha y157
  have h0 := zhs_put_same' y157 h0
  have hV : Y157.2.2.1 = Z.2.2.1 - 18 ∧ Y157.2.2.2 = Z.2.2.2 - 5167 := by rw [← y157]; exact hV
  simp only [List.set] at h0
  refine g_aload_nq d_Mo_init_160 rfl 0 rfl ?_
  refine g_sipush (v := 6480) d_Mo_init_161 rfl ?_
  refine g_newi (N := 6480) d_Mo_init_164 rfl a_int rfl (by decide) (by omega) (by omega) (fun q18 p18 => ?_)
  generalize x18 : znew _ _ _ _ = X18
  have hA := hA.new ⟨ha, fun b hb => hb ▸ h0.1⟩ x18 p18
  have h0 := zhs_new_old' x18 h0 p18
  have hV : X18.2.2.1 = Z.2.2.1 - 19 ∧ X18.2.2.2 = Z.2.2.2 - 11647 := by have := zbud_new x18; omega
  refine g_putF d_Mo_init_166 w_Mo_70_Mo rfl (by assumption) (by rfl) (by rfl) (by first | exact Nat.le_of_ble_eq_true rfl | omega) ?_
  generalize y166 : zput _ _ _ = Y166
  have hA := hA.put ha y166
  have h0 := zhs_put_same' y166 h0
  have hV : Y166.2.2.1 = Z.2.2.1 - 19 ∧ Y166.2.2.2 = Z.2.2.2 - 11647 := by rw [← y166]; exact hV
  simp only [List.set] at h0
  refine g_aload_nq d_Mo_init_169 rfl 0 rfl ?_
  refine g_sipush (v := 6480) d_Mo_init_170 rfl ?_
  refine g_newi (N := 6480) d_Mo_init_173 rfl a_int rfl (by decide) (by omega) (by omega) (fun q19 p19 => ?_)
  generalize x19 : znew _ _ _ _ = X19
  have hA := hA.new ⟨ha, fun b hb => hb ▸ h0.1⟩ x19 p19
  have h0 := zhs_new_old' x19 h0 p19
  have hV : X19.2.2.1 = Z.2.2.1 - 20 ∧ X19.2.2.2 = Z.2.2.2 - 18127 := by have := zbud_new x19; omega
  refine g_putF d_Mo_init_175 w_Mo_73_Mo rfl (by assumption) (by rfl) (by rfl) (by first | exact Nat.le_of_ble_eq_true rfl | omega) ?_
  generalize y175 : zput _ _ _ = Y175
  have hA := hA.put ha y175
  have h0 := zhs_put_same' y175 h0
  have hV : Y175.2.2.1 = Z.2.2.1 - 20 ∧ Y175.2.2.2 = Z.2.2.2 - 18127 := by rw [← y175]; exact hV
  simp only [List.set] at h0
  refine g_aload_nq d_Mo_init_178 rfl 0 rfl ?_
  refine g_sipush (v := 6480) d_Mo_init_179 rfl ?_
  refine g_newi (N := 6480) d_Mo_init_182 rfl a_int rfl (by decide) (by omega) (by omega) (fun q20 p20 => ?_)
  generalize x20 : znew _ _ _ _ = X20
  have hA := hA.new ⟨ha, fun b hb => hb ▸ h0.1⟩ x20 p20
  have h0 := zhs_new_old' x20 h0 p20
  have hV : X20.2.2.1 = Z.2.2.1 - 21 ∧ X20.2.2.2 = Z.2.2.2 - 24607 := by have := zbud_new x20; omega
  refine g_putF d_Mo_init_184 w_Mo_76_Mo rfl (by assumption) (by rfl) (by rfl) (by first | exact Nat.le_of_ble_eq_true rfl | omega) ?_
  generalize y184 : zput _ _ _ = Y184
  have hA := hA.put ha y184
  have h0 := zhs_put_same' y184 h0
  have hV : Y184.2.2.1 = Z.2.2.1 - 21 ∧ Y184.2.2.2 = Z.2.2.2 - 24607 := by rw [← y184]; exact hV
  simp only [List.set] at h0
  refine g_aload_nq d_Mo_init_187 rfl 0 rfl ?_
  refine g_bipush (v := 50) d_Mo_init_188 rfl ?_
  refine g_newi (N := 50) d_Mo_init_190 rfl a_int rfl (by decide) (by omega) (by omega) (fun q21 p21 => ?_)
  generalize x21 : znew _ _ _ _ = X21
  have hA := hA.new ⟨ha, fun b hb => hb ▸ h0.1⟩ x21 p21
  have h0 := zhs_new_old' x21 h0 p21
  have hV : X21.2.2.1 = Z.2.2.1 - 22 ∧ X21.2.2.2 = Z.2.2.2 - 24657 := by have := zbud_new x21; omega
  refine g_putF d_Mo_init_192 w_Mo_79_Mo rfl (by assumption) (by rfl) (by rfl) (by first | exact Nat.le_of_ble_eq_true rfl | omega) ?_
  generalize y192 : zput _ _ _ = Y192
  have hA := hA.put ha y192
  have h0 := zhs_put_same' y192 h0
  have hV : Y192.2.2.1 = Z.2.2.1 - 22 ∧ Y192.2.2.2 = Z.2.2.2 - 24657 := by rw [← y192]; exact hV
  simp only [List.set] at h0
  refine g_aload_nq d_Mo_init_195 rfl 0 rfl ?_
  refine g_bipush (v := 50) d_Mo_init_196 rfl ?_
  refine g_newi (N := 50) d_Mo_init_198 rfl a_int rfl (by decide) (by omega) (by omega) (fun q22 p22 => ?_)
  generalize x22 : znew _ _ _ _ = X22
  have hA := hA.new ⟨ha, fun b hb => hb ▸ h0.1⟩ x22 p22
  have h0 := zhs_new_old' x22 h0 p22
  have hV : X22.2.2.1 = Z.2.2.1 - 23 ∧ X22.2.2.2 = Z.2.2.2 - 24707 := by have := zbud_new x22; omega
  refine g_putF d_Mo_init_200 w_Mo_82_Mo rfl (by assumption) (by rfl) (by rfl) (by first | exact Nat.le_of_ble_eq_true rfl | omega) ?_
  generalize y200 : zput _ _ _ = Y200
  have hA := hA.put ha y200
  have h0 := zhs_put_same' y200 h0
  have hV : Y200.2.2.1 = Z.2.2.1 - 23 ∧ Y200.2.2.2 = Z.2.2.2 - 24707 := by rw [← y200]; exact hV
  simp only [List.set] at h0
  refine g_aload_nq d_Mo_init_203 rfl 0 rfl ?_
  refine g_bipush (v := 100) d_Mo_init_204 rfl ?_
  refine g_newi (N := 100) d_Mo_init_206 rfl a_int rfl (by decide) (by omega) (by omega) (fun q23 p23 => ?_)
  generalize x23 : znew _ _ _ _ = X23
  have hA := hA.new ⟨ha, fun b hb => hb ▸ h0.1⟩ x23 p23
  have h0 := zhs_new_old' x23 h0 p23
  have hV : X23.2.2.1 = Z.2.2.1 - 24 ∧ X23.2.2.2 = Z.2.2.2 - 24807 := by have := zbud_new x23; omega
  refine g_putF d_Mo_init_208 w_Mo_85_Mo rfl (by assumption) (by rfl) (by rfl) (by first | exact Nat.le_of_ble_eq_true rfl | omega) ?_
  generalize y208 : zput _ _ _ = Y208
  have hA := hA.put ha y208
  have h0 := zhs_put_same' y208 h0
  have hV : Y208.2.2.1 = Z.2.2.1 - 24 ∧ Y208.2.2.2 = Z.2.2.2 - 24807 := by rw [← y208]; exact hV
  simp only [List.set] at h0
  refine g_aload_nq d_Mo_init_211 rfl 0 rfl ?_
  refine g_bipush (v := 90) d_Mo_init_212 rfl ?_
  refine g_newl (N := 90) d_Mo_init_214 rfl a_long rfl (by decide) (by omega) (by omega) (fun q24 p24 => ?_)
  generalize x24 : znew _ _ _ _ = X24
  have hA := hA.new ⟨ha, fun b hb => hb ▸ h0.1⟩ x24 p24
  have h0 := zhs_new_old' x24 h0 p24
  have hV : X24.2.2.1 = Z.2.2.1 - 25 ∧ X24.2.2.2 = Z.2.2.2 - 24897 := by have := zbud_new x24; omega
  refine g_putF d_Mo_init_216 w_Mo_88_Mo rfl (by assumption) (by rfl) (by rfl) (by first | exact Nat.le_of_ble_eq_true rfl | omega) ?_
  generalize y216 : zput _ _ _ = Y216
  have hA := hA.put ha y216
  have h0 := zhs_put_same' y216 h0
  have hV : Y216.2.2.1 = Z.2.2.1 - 25 ∧ Y216.2.2.2 = Z.2.2.2 - 24897 := by rw [← y216]; exact hV
  simp only [List.set] at h0
  refine g_vret d_Mo_init_219 ?_
  exact hQ _ q24 q23 q22 q21 q20 q19 q18 q17 q16 q15 q14 q13 q12 q11 q10 q9 q8 q7 q6 q5 q4 q3 q2 q1 q0 hA h0 hV.1 hV.2
