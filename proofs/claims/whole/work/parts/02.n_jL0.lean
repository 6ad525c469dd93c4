abbrev c_jL_charAt : ByteArray := prog_23_method_2_code
abbrev r_jL_charAt : Option FieldType := (some FieldType.char)
def y_jL_charAt : MethodName := ⟨"java/lang/StringLatin1", "charAt", "([BI)C"⟩
theorem d_jL_charAt_0 : decode c_jL_charAt 0 = .ok (.iload_n 1, 1) := by decide +kernel
theorem d_jL_charAt_1 : decode c_jL_charAt 1 = .ok (.aload_n 0, 1) := by decide +kernel
theorem d_jL_charAt_2 : decode c_jL_charAt 2 = .ok (.arraylength, 1) := by decide +kernel
theorem d_jL_charAt_3 : decode c_jL_charAt 3 = .ok (.invokestatic 9, 3) := by decide +kernel
theorem d_jL_charAt_6 : decode c_jL_charAt 6 = .ok (.aload_n 0, 1) := by decide +kernel
theorem d_jL_charAt_7 : decode c_jL_charAt 7 = .ok (.iload_n 1, 1) := by decide +kernel
theorem d_jL_charAt_8 : decode c_jL_charAt 8 = .ok (.baload, 1) := by decide +kernel
theorem d_jL_charAt_9 : decode c_jL_charAt 9 = .ok (.sipush 255, 3) := by decide +kernel
theorem d_jL_charAt_12 : decode c_jL_charAt 12 = .ok (.iand, 1) := by decide +kernel
theorem d_jL_charAt_13 : decode c_jL_charAt 13 = .ok (.i2c, 1) := by decide +kernel
theorem d_jL_charAt_14 : decode c_jL_charAt 14 = .ok (.ireturn, 1) := by decide +kernel
