/-! terms and operators, class and reference -/
theorem tm_sim {C M : ST} (h : wdC C M) (hs : sI C 3 10 = 0 ∨ sI C 3 10 = 1 ∨ sI C 3 10 = 2) : (∃ x y, tTrm C = some (trm C x y) ∧ mTm M (sI C 3 10) = (mput M (cm x) y, true) ∧ tmOK (sI C 3 10) x y) ∨ (tTrm C = none ∧ mTm M (sI C 3 10) = (M, false)) ∨ (tTrm C = some (w3 C 7 4) ∧ mTm M (sI C 3 10) = mDn M ∧ ¬ sI C 3 10 = 2) := by
  obtain ⟨n1, n2⟩ := nu_sim h
  obtain ⟨f1, f2⟩ := fd_sim h
  have k_sheet := wd_sp h [115, 104, 101, 101, 116] (wdR 115 104 101 101 116) (by decide) (by decide) (by decide +kernel)
  have k_pins := wd_sp h [112, 105, 110, 115] (wdR 112 105 110 115 0) (by decide) (by decide) (by decide +kernel)
  have k_kind := wd_sp h [107, 105, 110, 100] (wdR 107 105 110 100 0) (by decide) (by decide) (by decide +kernel)
  have k_name := wd_sp h [110, 97, 109, 101] (wdR 110 97 109 101 0) (by decide) (by decide) (by decide +kernel)
  have k_any := wd_sp h [97, 110, 121] (wdR 97 110 121 0 0) (by decide) (by decide) (by decide +kernel)
  unfold mTm tTrm
  by_cases hn : nuR M (sN M 28)
  · refine Or.inl ⟨13, vaR M, ?_, ?_, Or.inl rfl⟩
    · rw [n1 hn]; rfl
    · rw [if_pos hn]; rfl
  rw [n2 hn, if_neg hn]
  by_cases hf : fdP M (sI C 3 10)
  · obtain ⟨g1, g2⟩ := f1 hf
    refine Or.inl ⟨14, _, ?_, ?_, Or.inr (Or.inr (Or.inl ⟨rfl, hf.2.2.2.2, g2⟩))⟩
    · rw [g1]; rfl
    · rw [if_pos hf]; rfl
  rw [f2 hf, if_neg hf]
  simp only [Option.none_or]
  by_cases w : cw C [115, 104, 101, 101, 116]
  · have a_pins := cw_no w (b := [112, 105, 110, 115]) (by decide)
    have a_kind := cw_no w (b := [107, 105, 110, 100]) (by decide)
    have a_name := cw_no w (b := [110, 97, 109, 101]) (by decide)
    have a_any := cw_no w (b := [97, 110, 121]) (by decide)
    rcases hs with es | es | es
    · have m0 : sI C 3 10 = 0 := by rw [es]
      have m2 : ¬ sI C 3 10 = 2 := by rw [es]; decide
      refine Or.inl ⟨18, 0, ?_, ?_, Or.inr (Or.inl rfl)⟩
      · rw [if_neg (fun z => a_any z.2)]
        have ep : plT C = 18 := by
          unfold plT
          rw [if_pos w]
        rw [ep, if_neg (by decide)]
      · rw [if_neg (fun z => a_pins (k_pins.mp z.1)), if_neg (fun z => a_kind (k_kind.mp z.1)), if_neg (fun z => a_name (k_name.mp z.1)), if_pos (k_sheet.mpr w)]
        rfl
    · have m0 : ¬ sI C 3 10 = 0 := by rw [es]; decide
      have m2 : ¬ sI C 3 10 = 2 := by rw [es]; decide
      refine Or.inl ⟨18, 0, ?_, ?_, Or.inr (Or.inl rfl)⟩
      · rw [if_neg (fun z => a_any z.2)]
        have ep : plT C = 18 := by
          unfold plT
          rw [if_pos w]
        rw [ep, if_neg (by decide)]
      · rw [if_neg (fun z => a_pins (k_pins.mp z.1)), if_neg (fun z => a_kind (k_kind.mp z.1)), if_neg (fun z => a_name (k_name.mp z.1)), if_pos (k_sheet.mpr w)]
        rfl
    · have m0 : ¬ sI C 3 10 = 0 := by rw [es]; decide
      have m2 : sI C 3 10 = 2 := by rw [es]
      refine Or.inl ⟨18, 0, ?_, ?_, Or.inr (Or.inl rfl)⟩
      · rw [if_neg (fun z => z.1 m2)]
        have ep : plT C = 18 := by
          unfold plT
          rw [if_pos w]
        rw [ep, if_neg (by decide)]
      · rw [if_neg (fun z => a_pins (k_pins.mp z.1)), if_neg (fun z => a_kind (k_kind.mp z.1)), if_neg (fun z => a_name (k_name.mp z.1)), if_pos (k_sheet.mpr w)]
        rfl
  have a_sheet := w
  clear w
  by_cases w : cw C [112, 105, 110, 115]
  · have a_sheet := cw_no w (b := [115, 104, 101, 101, 116]) (by decide)
    have a_kind := cw_no w (b := [107, 105, 110, 100]) (by decide)
    have a_name := cw_no w (b := [110, 97, 109, 101]) (by decide)
    have a_any := cw_no w (b := [97, 110, 121]) (by decide)
    rcases hs with es | es | es
    · have m0 : sI C 3 10 = 0 := by rw [es]
      have m2 : ¬ sI C 3 10 = 2 := by rw [es]; decide
      refine Or.inl ⟨15, 0, ?_, ?_, Or.inr (Or.inr (Or.inr (Or.inl ⟨rfl, m2⟩)))⟩
      · rw [if_neg (fun z => a_any z.2)]
        have ep : plT C = 15 := by
          unfold plT
          rw [if_neg a_sheet, if_pos ⟨m2, w⟩]
        rw [ep, if_neg (by decide)]
      · rw [if_pos ⟨k_pins.mpr w, m2⟩]
        rfl
    · have m0 : ¬ sI C 3 10 = 0 := by rw [es]; decide
      have m2 : ¬ sI C 3 10 = 2 := by rw [es]; decide
      refine Or.inl ⟨15, 0, ?_, ?_, Or.inr (Or.inr (Or.inr (Or.inl ⟨rfl, m2⟩)))⟩
      · rw [if_neg (fun z => a_any z.2)]
        have ep : plT C = 15 := by
          unfold plT
          rw [if_neg a_sheet, if_pos ⟨m2, w⟩]
        rw [ep, if_neg (by decide)]
      · rw [if_pos ⟨k_pins.mpr w, m2⟩]
        rfl
    · have m0 : ¬ sI C 3 10 = 0 := by rw [es]; decide
      have m2 : sI C 3 10 = 2 := by rw [es]
      refine Or.inr (Or.inl ⟨?_, ?_⟩)
      · rw [if_neg (fun z => z.1 m2)]
        have ep : plT C = -1 := by
          unfold plT
          rw [if_neg a_sheet, if_neg (fun z => z.1 m2), if_neg (fun z => a_kind z.2), if_neg (fun z => a_name z.2)]
        rw [ep, if_pos rfl]
      · rw [if_neg (fun z => z.2 m2), if_neg (fun z => a_kind (k_kind.mp z.1)), if_neg (fun z => a_name (k_name.mp z.1)), if_neg (fun z => a_sheet (k_sheet.mp z)), if_neg (fun z => a_any (k_any.mp z.1))]
  have a_pins := w
  clear w
  by_cases w : cw C [107, 105, 110, 100]
  · have a_sheet := cw_no w (b := [115, 104, 101, 101, 116]) (by decide)
    have a_pins := cw_no w (b := [112, 105, 110, 115]) (by decide)
    have a_name := cw_no w (b := [110, 97, 109, 101]) (by decide)
    have a_any := cw_no w (b := [97, 110, 121]) (by decide)
    rcases hs with es | es | es
    · have m0 : sI C 3 10 = 0 := by rw [es]
      have m2 : ¬ sI C 3 10 = 2 := by rw [es]; decide
      refine Or.inr (Or.inl ⟨?_, ?_⟩)
      · rw [if_neg (fun z => a_any z.2)]
        have ep : plT C = -1 := by
          unfold plT
          rw [if_neg a_sheet, if_neg (fun z => a_pins z.2), if_neg (fun z => m2 z.1), if_neg (fun z => a_name z.2)]
        rw [ep, if_pos rfl]
      · rw [if_neg (fun z => a_pins (k_pins.mp z.1)), if_neg (fun z => m2 z.2), if_neg (fun z => a_name (k_name.mp z.1)), if_neg (fun z => a_sheet (k_sheet.mp z)), if_neg (fun z => a_any (k_any.mp z.1))]
    · have m0 : ¬ sI C 3 10 = 0 := by rw [es]; decide
      have m2 : ¬ sI C 3 10 = 2 := by rw [es]; decide
      refine Or.inr (Or.inl ⟨?_, ?_⟩)
      · rw [if_neg (fun z => a_any z.2)]
        have ep : plT C = -1 := by
          unfold plT
          rw [if_neg a_sheet, if_neg (fun z => a_pins z.2), if_neg (fun z => m2 z.1), if_neg (fun z => a_name z.2)]
        rw [ep, if_pos rfl]
      · rw [if_neg (fun z => a_pins (k_pins.mp z.1)), if_neg (fun z => m2 z.2), if_neg (fun z => a_name (k_name.mp z.1)), if_neg (fun z => a_sheet (k_sheet.mp z)), if_neg (fun z => a_any (k_any.mp z.1))]
    · have m0 : ¬ sI C 3 10 = 0 := by rw [es]; decide
      have m2 : sI C 3 10 = 2 := by rw [es]
      refine Or.inl ⟨16, 0, ?_, ?_, Or.inr (Or.inr (Or.inr (Or.inr (Or.inl ⟨rfl, m2⟩))))⟩
      · rw [if_neg (fun z => z.1 m2)]
        have ep : plT C = 16 := by
          unfold plT
          rw [if_neg a_sheet, if_neg (fun z => a_pins z.2), if_pos ⟨m2, w⟩]
        rw [ep, if_neg (by decide)]
      · rw [if_neg (fun z => a_pins (k_pins.mp z.1)), if_pos ⟨k_kind.mpr w, m2⟩]
        rfl
  have a_kind := w
  clear w
  by_cases w : cw C [110, 97, 109, 101]
  · have a_sheet := cw_no w (b := [115, 104, 101, 101, 116]) (by decide)
    have a_pins := cw_no w (b := [112, 105, 110, 115]) (by decide)
    have a_kind := cw_no w (b := [107, 105, 110, 100]) (by decide)
    have a_any := cw_no w (b := [97, 110, 121]) (by decide)
    rcases hs with es | es | es
    · have m0 : sI C 3 10 = 0 := by rw [es]
      have m2 : ¬ sI C 3 10 = 2 := by rw [es]; decide
      refine Or.inr (Or.inl ⟨?_, ?_⟩)
      · rw [if_neg (fun z => a_any z.2)]
        have ep : plT C = -1 := by
          unfold plT
          rw [if_neg a_sheet, if_neg (fun z => a_pins z.2), if_neg (fun z => a_kind z.2), if_neg (fun z => z.1 m0)]
        rw [ep, if_pos rfl]
      · rw [if_neg (fun z => a_pins (k_pins.mp z.1)), if_neg (fun z => a_kind (k_kind.mp z.1)), if_neg (fun z => z.2 m0), if_neg (fun z => a_sheet (k_sheet.mp z)), if_neg (fun z => a_any (k_any.mp z.1))]
    · have m0 : ¬ sI C 3 10 = 0 := by rw [es]; decide
      have m2 : ¬ sI C 3 10 = 2 := by rw [es]; decide
      refine Or.inl ⟨17, 0, ?_, ?_, Or.inr (Or.inr (Or.inr (Or.inr (Or.inr (Or.inl ⟨rfl, m0⟩)))))⟩
      · rw [if_neg (fun z => a_any z.2)]
        have ep : plT C = 17 := by
          unfold plT
          rw [if_neg a_sheet, if_neg (fun z => a_pins z.2), if_neg (fun z => a_kind z.2), if_pos ⟨m0, w⟩]
        rw [ep, if_neg (by decide)]
      · rw [if_neg (fun z => a_pins (k_pins.mp z.1)), if_neg (fun z => a_kind (k_kind.mp z.1)), if_pos ⟨k_name.mpr w, m0⟩]
        rfl
    · have m0 : ¬ sI C 3 10 = 0 := by rw [es]; decide
      have m2 : sI C 3 10 = 2 := by rw [es]
      refine Or.inl ⟨17, 0, ?_, ?_, Or.inr (Or.inr (Or.inr (Or.inr (Or.inr (Or.inl ⟨rfl, m0⟩)))))⟩
      · rw [if_neg (fun z => z.1 m2)]
        have ep : plT C = 17 := by
          unfold plT
          rw [if_neg a_sheet, if_neg (fun z => a_pins z.2), if_neg (fun z => a_kind z.2), if_pos ⟨m0, w⟩]
        rw [ep, if_neg (by decide)]
      · rw [if_neg (fun z => a_pins (k_pins.mp z.1)), if_neg (fun z => a_kind (k_kind.mp z.1)), if_pos ⟨k_name.mpr w, m0⟩]
        rfl
  have a_name := w
  clear w
  by_cases w : cw C [97, 110, 121]
  · have a_sheet := cw_no w (b := [115, 104, 101, 101, 116]) (by decide)
    have a_pins := cw_no w (b := [112, 105, 110, 115]) (by decide)
    have a_kind := cw_no w (b := [107, 105, 110, 100]) (by decide)
    have a_name := cw_no w (b := [110, 97, 109, 101]) (by decide)
    rcases hs with es | es | es
    · have m0 : sI C 3 10 = 0 := by rw [es]
      have m2 : ¬ sI C 3 10 = 2 := by rw [es]; decide
      refine Or.inr (Or.inr ⟨?_, ?_, m2⟩)
      · rw [if_pos ⟨m2, w⟩]
      · rw [if_neg (fun z => a_pins (k_pins.mp z.1)), if_neg (fun z => a_kind (k_kind.mp z.1)), if_neg (fun z => a_name (k_name.mp z.1)), if_neg (fun z => a_sheet (k_sheet.mp z)), if_pos ⟨k_any.mpr w, m2⟩]
    · have m0 : ¬ sI C 3 10 = 0 := by rw [es]; decide
      have m2 : ¬ sI C 3 10 = 2 := by rw [es]; decide
      refine Or.inr (Or.inr ⟨?_, ?_, m2⟩)
      · rw [if_pos ⟨m2, w⟩]
      · rw [if_neg (fun z => a_pins (k_pins.mp z.1)), if_neg (fun z => a_kind (k_kind.mp z.1)), if_neg (fun z => a_name (k_name.mp z.1)), if_neg (fun z => a_sheet (k_sheet.mp z)), if_pos ⟨k_any.mpr w, m2⟩]
    · have m0 : ¬ sI C 3 10 = 0 := by rw [es]; decide
      have m2 : sI C 3 10 = 2 := by rw [es]
      refine Or.inr (Or.inl ⟨?_, ?_⟩)
      · rw [if_neg (fun z => z.1 m2)]
        have ep : plT C = -1 := by
          unfold plT
          rw [if_neg a_sheet, if_neg (fun z => a_pins z.2), if_neg (fun z => a_kind z.2), if_neg (fun z => a_name z.2)]
        rw [ep, if_pos rfl]
      · rw [if_neg (fun z => a_pins (k_pins.mp z.1)), if_neg (fun z => a_kind (k_kind.mp z.1)), if_neg (fun z => a_name (k_name.mp z.1)), if_neg (fun z => a_sheet (k_sheet.mp z)), if_neg (fun z => z.2 m2)]
  have a_any := w
  clear w
  rcases hs with es | es | es
  · have m0 : sI C 3 10 = 0 := by rw [es]
    have m2 : ¬ sI C 3 10 = 2 := by rw [es]; decide
    refine Or.inr (Or.inl ⟨?_, ?_⟩)
    · rw [if_neg (fun z => a_any z.2)]
      have ep : plT C = -1 := by
        unfold plT
        rw [if_neg a_sheet, if_neg (fun z => a_pins z.2), if_neg (fun z => a_kind z.2), if_neg (fun z => a_name z.2)]
      rw [ep, if_pos rfl]
    · rw [if_neg (fun z => a_pins (k_pins.mp z.1)), if_neg (fun z => a_kind (k_kind.mp z.1)), if_neg (fun z => a_name (k_name.mp z.1)), if_neg (fun z => a_sheet (k_sheet.mp z)), if_neg (fun z => a_any (k_any.mp z.1))]
  · have m0 : ¬ sI C 3 10 = 0 := by rw [es]; decide
    have m2 : ¬ sI C 3 10 = 2 := by rw [es]; decide
    refine Or.inr (Or.inl ⟨?_, ?_⟩)
    · rw [if_neg (fun z => a_any z.2)]
      have ep : plT C = -1 := by
        unfold plT
        rw [if_neg a_sheet, if_neg (fun z => a_pins z.2), if_neg (fun z => a_kind z.2), if_neg (fun z => a_name z.2)]
      rw [ep, if_pos rfl]
    · rw [if_neg (fun z => a_pins (k_pins.mp z.1)), if_neg (fun z => a_kind (k_kind.mp z.1)), if_neg (fun z => a_name (k_name.mp z.1)), if_neg (fun z => a_sheet (k_sheet.mp z)), if_neg (fun z => a_any (k_any.mp z.1))]
  · have m0 : ¬ sI C 3 10 = 0 := by rw [es]; decide
    have m2 : sI C 3 10 = 2 := by rw [es]
    refine Or.inr (Or.inl ⟨?_, ?_⟩)
    · rw [if_neg (fun z => z.1 m2)]
      have ep : plT C = -1 := by
        unfold plT
        rw [if_neg a_sheet, if_neg (fun z => a_pins z.2), if_neg (fun z => a_kind z.2), if_neg (fun z => a_name z.2)]
      rw [ep, if_pos rfl]
    · rw [if_neg (fun z => a_pins (k_pins.mp z.1)), if_neg (fun z => a_kind (k_kind.mp z.1)), if_neg (fun z => a_name (k_name.mp z.1)), if_neg (fun z => a_sheet (k_sheet.mp z)), if_neg (fun z => a_any (k_any.mp z.1))]
theorem op_sim {C M : ST} (h : wdC C M) : (opW C = -1 ∧ sgR (spR M) = -1) ∨ (¬ cw C [41] ∧ ∃ d, 0 < d ∧ d < 13 ∧ d ≠ 3 ∧ opW C = nI d ∧ sgR (spR M) = cm (nI d)) := by
  obtain ⟨e1, e2, e3⟩ := wd_len h
  have hw1 : wl C = 1 ↔ sN C 11 - sN C 10 = 1 := by
    rw [e1, e2, show (1 : Int32) = nI 1 from rfl, nI_eq (by omega) (by omega)]
  have hl : sN C 11 - sN C 10 = 1 → ltW C 0 = sI C 16 (sN C 10) := fun z => by
    unfold ltW
    rw [if_pos (by omega), Nat.add_zero]
  have hne : ∀ byt, cw C byt → ¬ byt.length = 1 → ¬ wl C = 1 := fun byt g g1 z => g1 (g.1.trans (hw1.mp z))
  have k42 := wd_sp h [42] 42 (by decide) (by decide) (by decide +kernel)
  have k43 := wd_sp h [43] 43 (by decide) (by decide) (by decide +kernel)
  have k45 := wd_sp h [45] 45 (by decide) (by decide) (by decide +kernel)
  have k61 := wd_sp h [61] 61 (by decide) (by decide) (by decide +kernel)
  have k35 := wd_sp h [35] 35 (by decide) (by decide) (by decide +kernel)
  have k60 := wd_sp h [60] 60 (by decide) (by decide) (by decide +kernel)
  have k62 := wd_sp h [62] 62 (by decide) (by decide) (by decide +kernel)
  have x0 := wd_sp h [60, 61] (wdR 60 61 0 0 0) (by decide) (by decide) (by decide +kernel)
  have x1 := wd_sp h [62, 61] (wdR 62 61 0 0 0) (by decide) (by decide) (by decide +kernel)
  have x2 := wd_sp h [97, 110, 100] (wdR 97 110 100 0 0) (by decide) (by decide) (by decide +kernel)
  have x3 := wd_sp h [111, 114] (wdR 111 114 0 0 0) (by decide) (by decide) (by decide +kernel)
  by_cases w0 : cw C [42]
  · refine Or.inr ⟨cw_no w0 (b := [41]) (by decide), 12, by decide, by decide, by decide, ?_, ?_⟩
    · obtain ⟨g1, g2⟩ := (cw1 42).mp w0
      unfold opW
      rw [if_pos (hw1.mpr g1), hl g1, g2]
      decide
    · unfold sgR
      rw [if_pos (k42.mpr w0)]
      decide
  by_cases w1 : cw C [43]
  · refine Or.inr ⟨cw_no w1 (b := [41]) (by decide), 10, by decide, by decide, by decide, ?_, ?_⟩
    · obtain ⟨g1, g2⟩ := (cw1 43).mp w1
      unfold opW
      rw [if_pos (hw1.mpr g1), hl g1, g2]
      decide
    · unfold sgR
      rw [if_neg (fun z => w0 (k42.mp z)), if_pos (k43.mpr w1)]
      decide
  by_cases w2 : cw C [45]
  · refine Or.inr ⟨cw_no w2 (b := [41]) (by decide), 11, by decide, by decide, by decide, ?_, ?_⟩
    · obtain ⟨g1, g2⟩ := (cw1 45).mp w2
      unfold opW
      rw [if_pos (hw1.mpr g1), hl g1, g2]
      decide
    · unfold sgR
      rw [if_neg (fun z => w0 (k42.mp z)), if_neg (fun z => w1 (k43.mp z)), if_pos (k45.mpr w2)]
      decide
  by_cases w3 : cw C [61]
  · refine Or.inr ⟨cw_no w3 (b := [41]) (by decide), 4, by decide, by decide, by decide, ?_, ?_⟩
    · obtain ⟨g1, g2⟩ := (cw1 61).mp w3
      unfold opW
      rw [if_pos (hw1.mpr g1), hl g1, g2]
      decide
    · unfold sgR
      rw [if_neg (fun z => w0 (k42.mp z)), if_neg (fun z => w1 (k43.mp z)), if_neg (fun z => w2 (k45.mp z)), if_pos (k61.mpr w3)]
      decide
  by_cases w4 : cw C [35]
  · refine Or.inr ⟨cw_no w4 (b := [41]) (by decide), 5, by decide, by decide, by decide, ?_, ?_⟩
    · obtain ⟨g1, g2⟩ := (cw1 35).mp w4
      unfold opW
      rw [if_pos (hw1.mpr g1), hl g1, g2]
      decide
    · unfold sgR
      rw [if_neg (fun z => w0 (k42.mp z)), if_neg (fun z => w1 (k43.mp z)), if_neg (fun z => w2 (k45.mp z)), if_neg (fun z => w3 (k61.mp z)), if_pos (k35.mpr w4)]
      decide
  by_cases w5 : cw C [60]
  · refine Or.inr ⟨cw_no w5 (b := [41]) (by decide), 6, by decide, by decide, by decide, ?_, ?_⟩
    · obtain ⟨g1, g2⟩ := (cw1 60).mp w5
      unfold opW
      rw [if_pos (hw1.mpr g1), hl g1, g2]
      decide
    · unfold sgR
      rw [if_neg (fun z => w0 (k42.mp z)), if_neg (fun z => w1 (k43.mp z)), if_neg (fun z => w2 (k45.mp z)), if_neg (fun z => w3 (k61.mp z)), if_neg (fun z => w4 (k35.mp z)), if_pos (k60.mpr w5)]
      decide
  by_cases w6 : cw C [62]
  · refine Or.inr ⟨cw_no w6 (b := [41]) (by decide), 7, by decide, by decide, by decide, ?_, ?_⟩
    · obtain ⟨g1, g2⟩ := (cw1 62).mp w6
      unfold opW
      rw [if_pos (hw1.mpr g1), hl g1, g2]
      decide
    · unfold sgR
      rw [if_neg (fun z => w0 (k42.mp z)), if_neg (fun z => w1 (k43.mp z)), if_neg (fun z => w2 (k45.mp z)), if_neg (fun z => w3 (k61.mp z)), if_neg (fun z => w4 (k35.mp z)), if_neg (fun z => w5 (k60.mp z)), if_pos (k62.mpr w6)]
      decide
  by_cases w7 : cw C [60, 61]
  · refine Or.inr ⟨cw_no w7 (b := [41]) (by decide), 8, by decide, by decide, by decide, ?_, ?_⟩
    · unfold opW
      rw [if_neg (hne _ w7 (by decide))]
      rw [if_neg (cw_no w7 (b := [111, 114]) (by decide)), if_neg (cw_no w7 (b := [97, 110, 100]) (by decide)), if_pos w7]
      rfl
    · unfold sgR
      rw [if_neg (fun z => w0 (k42.mp z)), if_neg (fun z => w1 (k43.mp z)), if_neg (fun z => w2 (k45.mp z)), if_neg (fun z => w3 (k61.mp z)), if_neg (fun z => w4 (k35.mp z)), if_neg (fun z => w5 (k60.mp z)), if_neg (fun z => w6 (k62.mp z)), if_pos (x0.mpr w7)]
      decide
  by_cases w8 : cw C [62, 61]
  · refine Or.inr ⟨cw_no w8 (b := [41]) (by decide), 9, by decide, by decide, by decide, ?_, ?_⟩
    · unfold opW
      rw [if_neg (hne _ w8 (by decide))]
      rw [if_neg (cw_no w8 (b := [111, 114]) (by decide)), if_neg (cw_no w8 (b := [97, 110, 100]) (by decide)), if_neg (cw_no w8 (b := [60, 61]) (by decide)), if_pos w8]
      rfl
    · unfold sgR
      rw [if_neg (fun z => w0 (k42.mp z)), if_neg (fun z => w1 (k43.mp z)), if_neg (fun z => w2 (k45.mp z)), if_neg (fun z => w3 (k61.mp z)), if_neg (fun z => w4 (k35.mp z)), if_neg (fun z => w5 (k60.mp z)), if_neg (fun z => w6 (k62.mp z)), if_neg (fun z => w7 (x0.mp z)), if_pos (x1.mpr w8)]
      decide
  by_cases w9 : cw C [97, 110, 100]
  · refine Or.inr ⟨cw_no w9 (b := [41]) (by decide), 2, by decide, by decide, by decide, ?_, ?_⟩
    · unfold opW
      rw [if_neg (hne _ w9 (by decide))]
      rw [if_neg (cw_no w9 (b := [111, 114]) (by decide)), if_pos w9]
      rfl
    · unfold sgR
      rw [if_neg (fun z => w0 (k42.mp z)), if_neg (fun z => w1 (k43.mp z)), if_neg (fun z => w2 (k45.mp z)), if_neg (fun z => w3 (k61.mp z)), if_neg (fun z => w4 (k35.mp z)), if_neg (fun z => w5 (k60.mp z)), if_neg (fun z => w6 (k62.mp z)), if_neg (fun z => w7 (x0.mp z)), if_neg (fun z => w8 (x1.mp z)), if_pos (x2.mpr w9)]
      decide
  by_cases w10 : cw C [111, 114]
  · refine Or.inr ⟨cw_no w10 (b := [41]) (by decide), 1, by decide, by decide, by decide, ?_, ?_⟩
    · unfold opW
      rw [if_neg (hne _ w10 (by decide))]
      rw [if_pos w10]
      rfl
    · unfold sgR
      rw [if_neg (fun z => w0 (k42.mp z)), if_neg (fun z => w1 (k43.mp z)), if_neg (fun z => w2 (k45.mp z)), if_neg (fun z => w3 (k61.mp z)), if_neg (fun z => w4 (k35.mp z)), if_neg (fun z => w5 (k60.mp z)), if_neg (fun z => w6 (k62.mp z)), if_neg (fun z => w7 (x0.mp z)), if_neg (fun z => w8 (x1.mp z)), if_neg (fun z => w9 (x2.mp z)), if_pos (x3.mpr w10)]
      decide
  refine Or.inl ⟨?_, ?_⟩
  · unfold opW
    by_cases z1 : wl C = 1
    · have g1 := hw1.mp z1
      rw [if_pos z1, hl g1]
      unfold opL
      rw [if_neg (fun z => w4 ((cw1 35).mpr ⟨g1, z⟩)), if_neg (fun z => w0 ((cw1 42).mpr ⟨g1, z⟩)), if_neg (fun z => w1 ((cw1 43).mpr ⟨g1, z⟩)), if_neg (fun z => w2 ((cw1 45).mpr ⟨g1, z⟩)), if_neg (fun z => w5 ((cw1 60).mpr ⟨g1, z⟩)), if_neg (fun z => w3 ((cw1 61).mpr ⟨g1, z⟩)), if_neg (fun z => w6 ((cw1 62).mpr ⟨g1, z⟩))]
    · rw [if_neg z1, if_neg w10, if_neg w9, if_neg w7, if_neg w8]
  · unfold sgR
    rw [if_neg (fun z => w0 (k42.mp z)), if_neg (fun z => w1 (k43.mp z)), if_neg (fun z => w2 (k45.mp z)), if_neg (fun z => w3 (k61.mp z)), if_neg (fun z => w4 (k35.mp z)), if_neg (fun z => w5 (k60.mp z)), if_neg (fun z => w6 (k62.mp z)), if_neg (fun z => w7 (x0.mp z)), if_neg (fun z => w8 (x1.mp z)), if_neg (fun z => w9 (x2.mp z)), if_neg (fun z => w10 (x3.mp z))]
