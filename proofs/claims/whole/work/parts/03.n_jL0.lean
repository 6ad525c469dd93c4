abbrev c_jL_charAt : ByteArray := prog_23_method_2_code
abbrev r_jL_charAt : Option FieldType := (some FieldType.char)
def y_jL_charAt : MethodName := ⟨"java/lang/StringLatin1", "charAt", "([BI)C"⟩
theorem d_jL_charAt_0 : decode c_jL_charAt 0 = .ok (.iload_n 1, 1) := by decide +kernel
theorem d_jL_charAt_1 : decode c_jL_charAt 1 = .ok (.ifCond .lt 9, 3) := by decide +kernel
theorem d_jL_charAt_4 : decode c_jL_charAt 4 = .ok (.iload_n 1, 1) := by decide +kernel
theorem d_jL_charAt_5 : decode c_jL_charAt 5 = .ok (.aload_n 0, 1) := by decide +kernel
theorem d_jL_charAt_6 : decode c_jL_charAt 6 = .ok (.arraylength, 1) := by decide +kernel
theorem d_jL_charAt_7 : decode c_jL_charAt 7 = .ok (.if_icmp .lt 12, 3) := by decide +kernel
theorem d_jL_charAt_10 : decode c_jL_charAt 10 = .ok (.new 9, 3) := by decide +kernel
theorem d_jL_charAt_13 : decode c_jL_charAt 13 = .ok (.dup, 1) := by decide +kernel
theorem d_jL_charAt_14 : decode c_jL_charAt 14 = .ok (.iload_n 1, 1) := by decide +kernel
theorem d_jL_charAt_15 : decode c_jL_charAt 15 = .ok (.invokespecial 11, 3) := by decide +kernel
theorem d_jL_charAt_18 : decode c_jL_charAt 18 = .ok (.athrow, 1) := by decide +kernel
theorem d_jL_charAt_19 : decode c_jL_charAt 19 = .ok (.aload_n 0, 1) := by decide +kernel
theorem d_jL_charAt_20 : decode c_jL_charAt 20 = .ok (.iload_n 1, 1) := by decide +kernel
theorem d_jL_charAt_21 : decode c_jL_charAt 21 = .ok (.baload, 1) := by decide +kernel
theorem d_jL_charAt_22 : decode c_jL_charAt 22 = .ok (.sipush 255, 3) := by decide +kernel
theorem d_jL_charAt_25 : decode c_jL_charAt 25 = .ok (.iand, 1) := by decide +kernel
theorem d_jL_charAt_26 : decode c_jL_charAt 26 = .ok (.i2c, 1) := by decide +kernel
theorem d_jL_charAt_27 : decode c_jL_charAt 27 = .ok (.ireturn, 1) := by decide +kernel
