abbrev c_jP_checkIndex : ByteArray := prog_28_method_11_code
abbrev r_jP_checkIndex : Option FieldType := (some FieldType.int)
def y_jP_checkIndex : MethodName := ⟨"jdk/internal/util/Preconditions", "checkIndex", "(IILjava/util/function/BiFunction;)I"⟩
theorem d_jP_checkIndex_0 : decode c_jP_checkIndex 0 = .ok (.iload_n 0, 1) := by decide +kernel
theorem d_jP_checkIndex_1 : decode c_jP_checkIndex 1 = .ok (.ifCond .lt 8, 3) := by decide +kernel
theorem d_jP_checkIndex_4 : decode c_jP_checkIndex 4 = .ok (.iload_n 0, 1) := by decide +kernel
theorem d_jP_checkIndex_5 : decode c_jP_checkIndex 5 = .ok (.iload_n 1, 1) := by decide +kernel
theorem d_jP_checkIndex_6 : decode c_jP_checkIndex 6 = .ok (.if_icmp .lt 10, 3) := by decide +kernel
theorem d_jP_checkIndex_9 : decode c_jP_checkIndex 9 = .ok (.aload_n 2, 1) := by decide +kernel
theorem d_jP_checkIndex_10 : decode c_jP_checkIndex 10 = .ok (.iload_n 0, 1) := by decide +kernel
theorem d_jP_checkIndex_11 : decode c_jP_checkIndex 11 = .ok (.iload_n 1, 1) := by decide +kernel
theorem d_jP_checkIndex_12 : decode c_jP_checkIndex 12 = .ok (.invokestatic 95, 3) := by decide +kernel
theorem d_jP_checkIndex_15 : decode c_jP_checkIndex 15 = .ok (.athrow, 1) := by decide +kernel
theorem d_jP_checkIndex_16 : decode c_jP_checkIndex 16 = .ok (.iload_n 0, 1) := by decide +kernel
theorem d_jP_checkIndex_17 : decode c_jP_checkIndex 17 = .ok (.ireturn, 1) := by decide +kernel
