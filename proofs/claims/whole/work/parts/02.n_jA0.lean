abbrev c_jA_copyOf : ByteArray := prog_27_method_123_code
abbrev r_jA_copyOf : Option FieldType := (some (FieldType.array FieldType.int))
def y_jA_copyOf : MethodName := ⟨"java/util/Arrays", "copyOf", "([II)[I"⟩
theorem d_jA_copyOf_0 : decode c_jA_copyOf 0 = .ok (.iload_n 1, 1) := by decide +kernel
theorem d_jA_copyOf_1 : decode c_jA_copyOf 1 = .ok (.aload_n 0, 1) := by decide +kernel
theorem d_jA_copyOf_2 : decode c_jA_copyOf 2 = .ok (.arraylength, 1) := by decide +kernel
theorem d_jA_copyOf_3 : decode c_jA_copyOf 3 = .ok (.if_icmp .ne 11, 3) := by decide +kernel
theorem d_jA_copyOf_6 : decode c_jA_copyOf 6 = .ok (.aload_n 0, 1) := by decide +kernel
theorem d_jA_copyOf_7 : decode c_jA_copyOf 7 = .ok (.invokevirtual 316, 3) := by decide +kernel
theorem d_jA_copyOf_10 : decode c_jA_copyOf 10 = .ok (.checkcast 317, 3) := by decide +kernel
theorem d_jA_copyOf_13 : decode c_jA_copyOf 13 = .ok (.areturn, 1) := by decide +kernel
theorem d_jA_copyOf_14 : decode c_jA_copyOf 14 = .ok (.iload_n 1, 1) := by decide +kernel
theorem d_jA_copyOf_15 : decode c_jA_copyOf 15 = .ok (.newarray .int, 2) := by decide +kernel
theorem d_jA_copyOf_17 : decode c_jA_copyOf 17 = .ok (.astore_n 2, 1) := by decide +kernel
theorem d_jA_copyOf_18 : decode c_jA_copyOf 18 = .ok (.aload_n 0, 1) := by decide +kernel
theorem d_jA_copyOf_19 : decode c_jA_copyOf 19 = .ok (.iconst 0, 1) := by decide +kernel
theorem d_jA_copyOf_20 : decode c_jA_copyOf 20 = .ok (.aload_n 2, 1) := by decide +kernel
theorem d_jA_copyOf_21 : decode c_jA_copyOf 21 = .ok (.iconst 0, 1) := by decide +kernel
theorem d_jA_copyOf_22 : decode c_jA_copyOf 22 = .ok (.aload_n 0, 1) := by decide +kernel
theorem d_jA_copyOf_23 : decode c_jA_copyOf 23 = .ok (.arraylength, 1) := by decide +kernel
theorem d_jA_copyOf_24 : decode c_jA_copyOf 24 = .ok (.iload_n 1, 1) := by decide +kernel
theorem d_jA_copyOf_25 : decode c_jA_copyOf 25 = .ok (.invokestatic 304, 3) := by decide +kernel
theorem d_jA_copyOf_28 : decode c_jA_copyOf 28 = .ok (.invokestatic 150, 3) := by decide +kernel
theorem d_jA_copyOf_31 : decode c_jA_copyOf 31 = .ok (.aload_n 2, 1) := by decide +kernel
theorem d_jA_copyOf_32 : decode c_jA_copyOf 32 = .ok (.areturn, 1) := by decide +kernel
abbrev c_jA_fill : ByteArray := prog_27_method_103_code
abbrev r_jA_fill : Option FieldType := none
def y_jA_fill : MethodName := ⟨"java/util/Arrays", "fill", "([II)V"⟩
theorem d_jA_fill_0 : decode c_jA_fill 0 = .ok (.iconst 0, 1) := by decide +kernel
theorem d_jA_fill_1 : decode c_jA_fill 1 = .ok (.istore_n 2, 1) := by decide +kernel
theorem d_jA_fill_2 : decode c_jA_fill 2 = .ok (.aload_n 0, 1) := by decide +kernel
theorem d_jA_fill_3 : decode c_jA_fill 3 = .ok (.arraylength, 1) := by decide +kernel
theorem d_jA_fill_4 : decode c_jA_fill 4 = .ok (.istore_n 3, 1) := by decide +kernel
theorem d_jA_fill_5 : decode c_jA_fill 5 = .ok (.iload_n 2, 1) := by decide +kernel
theorem d_jA_fill_6 : decode c_jA_fill 6 = .ok (.iload_n 3, 1) := by decide +kernel
theorem d_jA_fill_7 : decode c_jA_fill 7 = .ok (.if_icmp .ge 13, 3) := by decide +kernel
theorem d_jA_fill_10 : decode c_jA_fill 10 = .ok (.aload_n 0, 1) := by decide +kernel
theorem d_jA_fill_11 : decode c_jA_fill 11 = .ok (.iload_n 2, 1) := by decide +kernel
theorem d_jA_fill_12 : decode c_jA_fill 12 = .ok (.iload_n 1, 1) := by decide +kernel
theorem d_jA_fill_13 : decode c_jA_fill 13 = .ok (.iastore, 1) := by decide +kernel
theorem d_jA_fill_14 : decode c_jA_fill 14 = .ok (.iinc 2 1, 3) := by decide +kernel
theorem d_jA_fill_17 : decode c_jA_fill 17 = .ok (.goto (-12), 3) := by decide +kernel
theorem d_jA_fill_20 : decode c_jA_fill 20 = .ok (.return_, 1) := by decide +kernel
