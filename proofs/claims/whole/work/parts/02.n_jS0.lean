abbrev c_jS_length : ByteArray := prog_22_method_54_code
abbrev r_jS_length : Option FieldType := (some FieldType.int)
def y_jS_length : MethodName := ⟨"java/lang/String", "length", "()I"⟩
theorem d_jS_length_0 : decode c_jS_length 0 = .ok (.aload_n 0, 1) := by decide +kernel
theorem d_jS_length_1 : decode c_jS_length 1 = .ok (.getfield 9, 3) := by decide +kernel
theorem d_jS_length_4 : decode c_jS_length 4 = .ok (.arraylength, 1) := by decide +kernel
theorem d_jS_length_5 : decode c_jS_length 5 = .ok (.aload_n 0, 1) := by decide +kernel
theorem d_jS_length_6 : decode c_jS_length 6 = .ok (.invokevirtual 335, 3) := by decide +kernel
theorem d_jS_length_9 : decode c_jS_length 9 = .ok (.ishr, 1) := by decide +kernel
theorem d_jS_length_10 : decode c_jS_length 10 = .ok (.ireturn, 1) := by decide +kernel
abbrev c_jS_coder : ByteArray := prog_22_method_152_code
abbrev r_jS_coder : Option FieldType := (some FieldType.byte)
def y_jS_coder : MethodName := ⟨"java/lang/String", "coder", "()B"⟩
theorem d_jS_coder_0 : decode c_jS_coder 0 = .ok (.getstatic 38, 3) := by decide +kernel
theorem d_jS_coder_3 : decode c_jS_coder 3 = .ok (.ifCond .eq 10, 3) := by decide +kernel
theorem d_jS_coder_6 : decode c_jS_coder 6 = .ok (.aload_n 0, 1) := by decide +kernel
theorem d_jS_coder_7 : decode c_jS_coder 7 = .ok (.getfield 15, 3) := by decide +kernel
theorem d_jS_coder_10 : decode c_jS_coder 10 = .ok (.goto 4, 3) := by decide +kernel
theorem d_jS_coder_13 : decode c_jS_coder 13 = .ok (.iconst 1, 1) := by decide +kernel
theorem d_jS_coder_14 : decode c_jS_coder 14 = .ok (.ireturn, 1) := by decide +kernel
abbrev c_jS_charAt : ByteArray := prog_22_method_56_code
abbrev r_jS_charAt : Option FieldType := (some FieldType.char)
def y_jS_charAt : MethodName := ⟨"java/lang/String", "charAt", "(I)C"⟩
theorem d_jS_charAt_0 : decode c_jS_charAt 0 = .ok (.aload_n 0, 1) := by decide +kernel
theorem d_jS_charAt_1 : decode c_jS_charAt 1 = .ok (.invokevirtual 492, 3) := by decide +kernel
theorem d_jS_charAt_4 : decode c_jS_charAt 4 = .ok (.ifCond .eq 12, 3) := by decide +kernel
theorem d_jS_charAt_7 : decode c_jS_charAt 7 = .ok (.aload_n 0, 1) := by decide +kernel
theorem d_jS_charAt_8 : decode c_jS_charAt 8 = .ok (.getfield 9, 3) := by decide +kernel
theorem d_jS_charAt_11 : decode c_jS_charAt 11 = .ok (.iload_n 1, 1) := by decide +kernel
theorem d_jS_charAt_12 : decode c_jS_charAt 12 = .ok (.invokestatic 495, 3) := by decide +kernel
theorem d_jS_charAt_15 : decode c_jS_charAt 15 = .ok (.ireturn, 1) := by decide +kernel
theorem d_jS_charAt_16 : decode c_jS_charAt 16 = .ok (.aload_n 0, 1) := by decide +kernel
theorem d_jS_charAt_17 : decode c_jS_charAt 17 = .ok (.getfield 9, 3) := by decide +kernel
theorem d_jS_charAt_20 : decode c_jS_charAt 20 = .ok (.iload_n 1, 1) := by decide +kernel
theorem d_jS_charAt_21 : decode c_jS_charAt 21 = .ok (.invokestatic 498, 3) := by decide +kernel
theorem d_jS_charAt_24 : decode c_jS_charAt 24 = .ok (.ireturn, 1) := by decide +kernel
abbrev c_jS_isLatin1 : ByteArray := prog_22_method_154_code
abbrev r_jS_isLatin1 : Option FieldType := (some FieldType.boolean)
def y_jS_isLatin1 : MethodName := ⟨"java/lang/String", "isLatin1", "()Z"⟩
theorem d_jS_isLatin1_0 : decode c_jS_isLatin1 0 = .ok (.getstatic 38, 3) := by decide +kernel
theorem d_jS_isLatin1_3 : decode c_jS_isLatin1 3 = .ok (.ifCond .eq 14, 3) := by decide +kernel
theorem d_jS_isLatin1_6 : decode c_jS_isLatin1 6 = .ok (.aload_n 0, 1) := by decide +kernel
theorem d_jS_isLatin1_7 : decode c_jS_isLatin1 7 = .ok (.getfield 15, 3) := by decide +kernel
theorem d_jS_isLatin1_10 : decode c_jS_isLatin1 10 = .ok (.ifCond .ne 7, 3) := by decide +kernel
theorem d_jS_isLatin1_13 : decode c_jS_isLatin1 13 = .ok (.iconst 1, 1) := by decide +kernel
theorem d_jS_isLatin1_14 : decode c_jS_isLatin1 14 = .ok (.goto 4, 3) := by decide +kernel
theorem d_jS_isLatin1_17 : decode c_jS_isLatin1 17 = .ok (.iconst 0, 1) := by decide +kernel
theorem d_jS_isLatin1_18 : decode c_jS_isLatin1 18 = .ok (.ireturn, 1) := by decide +kernel
abbrev c_jS_checkIndex : ByteArray := prog_22_method_155_code
abbrev r_jS_checkIndex : Option FieldType := none
def y_jS_checkIndex : MethodName := ⟨"java/lang/String", "checkIndex", "(II)V"⟩
theorem d_jS_checkIndex_0 : decode c_jS_checkIndex 0 = .ok (.iload_n 0, 1) := by decide +kernel
theorem d_jS_checkIndex_1 : decode c_jS_checkIndex 1 = .ok (.iload_n 1, 1) := by decide +kernel
theorem d_jS_checkIndex_2 : decode c_jS_checkIndex 2 = .ok (.getstatic 1053, 3) := by decide +kernel
theorem d_jS_checkIndex_5 : decode c_jS_checkIndex 5 = .ok (.invokestatic 1059, 3) := by decide +kernel
theorem d_jS_checkIndex_8 : decode c_jS_checkIndex 8 = .ok (.pop, 1) := by decide +kernel
theorem d_jS_checkIndex_9 : decode c_jS_checkIndex 9 = .ok (.return_, 1) := by decide +kernel
