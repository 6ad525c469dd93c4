abbrev c_jM_max : ByteArray := prog_20_method_65_code
abbrev r_jM_max : Option FieldType := (some FieldType.int)
def y_jM_max : MethodName := ⟨"java/lang/Math", "max", "(II)I"⟩
theorem d_jM_max_0 : decode c_jM_max 0 = .ok (.iload_n 0, 1) := by decide +kernel
theorem d_jM_max_1 : decode c_jM_max 1 = .ok (.iload_n 1, 1) := by decide +kernel
theorem d_jM_max_2 : decode c_jM_max 2 = .ok (.if_icmp .lt 7, 3) := by decide +kernel
theorem d_jM_max_5 : decode c_jM_max 5 = .ok (.iload_n 0, 1) := by decide +kernel
theorem d_jM_max_6 : decode c_jM_max 6 = .ok (.goto 4, 3) := by decide +kernel
theorem d_jM_max_9 : decode c_jM_max 9 = .ok (.iload_n 1, 1) := by decide +kernel
theorem d_jM_max_10 : decode c_jM_max 10 = .ok (.ireturn, 1) := by decide +kernel
abbrev c_jM_min : ByteArray := prog_20_method_69_code
abbrev r_jM_min : Option FieldType := (some FieldType.int)
def y_jM_min : MethodName := ⟨"java/lang/Math", "min", "(II)I"⟩
theorem d_jM_min_0 : decode c_jM_min 0 = .ok (.iload_n 0, 1) := by decide +kernel
theorem d_jM_min_1 : decode c_jM_min 1 = .ok (.iload_n 1, 1) := by decide +kernel
theorem d_jM_min_2 : decode c_jM_min 2 = .ok (.if_icmp .gt 7, 3) := by decide +kernel
theorem d_jM_min_5 : decode c_jM_min 5 = .ok (.iload_n 0, 1) := by decide +kernel
theorem d_jM_min_6 : decode c_jM_min 6 = .ok (.goto 4, 3) := by decide +kernel
theorem d_jM_min_9 : decode c_jM_min 9 = .ok (.iload_n 1, 1) := by decide +kernel
theorem d_jM_min_10 : decode c_jM_min 10 = .ok (.ireturn, 1) := by decide +kernel
