abbrev c_jS_length : ByteArray := prog_22_method_54_code
abbrev r_jS_length : Option FieldType := (some FieldType.int)
def y_jS_length : MethodName := ⟨"java/lang/String", "length", "()I"⟩
theorem d_jS_length_0 : decode c_jS_length 0 = .ok (.aload_n 0, 1) := by decide +kernel
theorem d_jS_length_1 : decode c_jS_length 1 = .ok (.getfield 9, 3) := by decide +kernel
theorem d_jS_length_4 : decode c_jS_length 4 = .ok (.arraylength, 1) := by decide +kernel
theorem d_jS_length_5 : decode c_jS_length 5 = .ok (.aload_n 0, 1) := by decide +kernel
theorem d_jS_length_6 : decode c_jS_length 6 = .ok (.invokevirtual 315, 3) := by decide +kernel
theorem d_jS_length_9 : decode c_jS_length 9 = .ok (.ishr, 1) := by decide +kernel
theorem d_jS_length_10 : decode c_jS_length 10 = .ok (.ireturn, 1) := by decide +kernel
abbrev c_jS_coder : ByteArray := prog_22_method_152_code
abbrev r_jS_coder : Option FieldType := (some FieldType.byte)
def y_jS_coder : MethodName := ⟨"java/lang/String", "coder", "()B"⟩
theorem d_jS_coder_0 : decode c_jS_coder 0 = .ok (.getstatic 34, 3) := by decide +kernel
theorem d_jS_coder_3 : decode c_jS_coder 3 = .ok (.ifCond .eq 10, 3) := by decide +kernel
theorem d_jS_coder_6 : decode c_jS_coder 6 = .ok (.aload_n 0, 1) := by decide +kernel
theorem d_jS_coder_7 : decode c_jS_coder 7 = .ok (.getfield 15, 3) := by decide +kernel
theorem d_jS_coder_10 : decode c_jS_coder 10 = .ok (.goto 4, 3) := by decide +kernel
theorem d_jS_coder_13 : decode c_jS_coder 13 = .ok (.iconst 1, 1) := by decide +kernel
theorem d_jS_coder_14 : decode c_jS_coder 14 = .ok (.ireturn, 1) := by decide +kernel
abbrev c_jS_charAt : ByteArray := prog_22_method_56_code
abbrev r_jS_charAt : Option FieldType := (some FieldType.char)
def y_jS_charAt : MethodName := ⟨"java/lang/String", "charAt", "(I)C"⟩
theorem d_jS_charAt_0 : decode c_jS_charAt 0 = .ok (.aload_n 0, 1) := by decide +kernel
theorem d_jS_charAt_1 : decode c_jS_charAt 1 = .ok (.invokevirtual 469, 3) := by decide +kernel
theorem d_jS_charAt_4 : decode c_jS_charAt 4 = .ok (.ifCond .eq 12, 3) := by decide +kernel
theorem d_jS_charAt_7 : decode c_jS_charAt 7 = .ok (.aload_n 0, 1) := by decide +kernel
theorem d_jS_charAt_8 : decode c_jS_charAt 8 = .ok (.getfield 9, 3) := by decide +kernel
theorem d_jS_charAt_11 : decode c_jS_charAt 11 = .ok (.iload_n 1, 1) := by decide +kernel
theorem d_jS_charAt_12 : decode c_jS_charAt 12 = .ok (.invokestatic 472, 3) := by decide +kernel
theorem d_jS_charAt_15 : decode c_jS_charAt 15 = .ok (.ireturn, 1) := by decide +kernel
theorem d_jS_charAt_16 : decode c_jS_charAt 16 = .ok (.aload_n 0, 1) := by decide +kernel
theorem d_jS_charAt_17 : decode c_jS_charAt 17 = .ok (.getfield 9, 3) := by decide +kernel
theorem d_jS_charAt_20 : decode c_jS_charAt 20 = .ok (.iload_n 1, 1) := by decide +kernel
theorem d_jS_charAt_21 : decode c_jS_charAt 21 = .ok (.invokestatic 475, 3) := by decide +kernel
theorem d_jS_charAt_24 : decode c_jS_charAt 24 = .ok (.ireturn, 1) := by decide +kernel
abbrev c_jS_isLatin1 : ByteArray := prog_22_method_154_code
abbrev r_jS_isLatin1 : Option FieldType := (some FieldType.boolean)
def y_jS_isLatin1 : MethodName := ⟨"java/lang/String", "isLatin1", "()Z"⟩
theorem d_jS_isLatin1_0 : decode c_jS_isLatin1 0 = .ok (.getstatic 34, 3) := by decide +kernel
theorem d_jS_isLatin1_3 : decode c_jS_isLatin1 3 = .ok (.ifCond .eq 14, 3) := by decide +kernel
theorem d_jS_isLatin1_6 : decode c_jS_isLatin1 6 = .ok (.aload_n 0, 1) := by decide +kernel
theorem d_jS_isLatin1_7 : decode c_jS_isLatin1 7 = .ok (.getfield 15, 3) := by decide +kernel
theorem d_jS_isLatin1_10 : decode c_jS_isLatin1 10 = .ok (.ifCond .ne 7, 3) := by decide +kernel
theorem d_jS_isLatin1_13 : decode c_jS_isLatin1 13 = .ok (.iconst 1, 1) := by decide +kernel
theorem d_jS_isLatin1_14 : decode c_jS_isLatin1 14 = .ok (.goto 4, 3) := by decide +kernel
theorem d_jS_isLatin1_17 : decode c_jS_isLatin1 17 = .ok (.iconst 0, 1) := by decide +kernel
theorem d_jS_isLatin1_18 : decode c_jS_isLatin1 18 = .ok (.ireturn, 1) := by decide +kernel
abbrev c_jS_checkIndex : ByteArray := prog_22_method_155_code
abbrev r_jS_checkIndex : Option FieldType := none
def y_jS_checkIndex : MethodName := ⟨"java/lang/String", "checkIndex", "(II)V"⟩
theorem d_jS_checkIndex_0 : decode c_jS_checkIndex 0 = .ok (.iload_n 0, 1) := by decide +kernel
theorem d_jS_checkIndex_1 : decode c_jS_checkIndex 1 = .ok (.ifCond .lt 8, 3) := by decide +kernel
theorem d_jS_checkIndex_4 : decode c_jS_checkIndex 4 = .ok (.iload_n 0, 1) := by decide +kernel
theorem d_jS_checkIndex_5 : decode c_jS_checkIndex 5 = .ok (.iload_n 1, 1) := by decide +kernel
theorem d_jS_checkIndex_6 : decode c_jS_checkIndex 6 = .ok (.if_icmp .lt 41, 3) := by decide +kernel
theorem d_jS_checkIndex_9 : decode c_jS_checkIndex 9 = .ok (.new 486, 3) := by decide +kernel
theorem d_jS_checkIndex_12 : decode c_jS_checkIndex 12 = .ok (.dup, 1) := by decide +kernel
theorem d_jS_checkIndex_13 : decode c_jS_checkIndex 13 = .ok (.new 419, 3) := by decide +kernel
theorem d_jS_checkIndex_16 : decode c_jS_checkIndex 16 = .ok (.dup, 1) := by decide +kernel
theorem d_jS_checkIndex_17 : decode c_jS_checkIndex 17 = .ok (.invokespecial 421, 3) := by decide +kernel
theorem d_jS_checkIndex_20 : decode c_jS_checkIndex 20 = .ok (.ldc_w 1011, 3) := by decide +kernel
theorem d_jS_checkIndex_23 : decode c_jS_checkIndex 23 = .ok (.invokevirtual 424, 3) := by decide +kernel
theorem d_jS_checkIndex_26 : decode c_jS_checkIndex 26 = .ok (.iload_n 0, 1) := by decide +kernel
theorem d_jS_checkIndex_27 : decode c_jS_checkIndex 27 = .ok (.invokevirtual 428, 3) := by decide +kernel
theorem d_jS_checkIndex_30 : decode c_jS_checkIndex 30 = .ok (.ldc_w 1013, 3) := by decide +kernel
theorem d_jS_checkIndex_33 : decode c_jS_checkIndex 33 = .ok (.invokevirtual 424, 3) := by decide +kernel
theorem d_jS_checkIndex_36 : decode c_jS_checkIndex 36 = .ok (.iload_n 1, 1) := by decide +kernel
theorem d_jS_checkIndex_37 : decode c_jS_checkIndex 37 = .ok (.invokevirtual 428, 3) := by decide +kernel
theorem d_jS_checkIndex_40 : decode c_jS_checkIndex 40 = .ok (.invokevirtual 433, 3) := by decide +kernel
theorem d_jS_checkIndex_43 : decode c_jS_checkIndex 43 = .ok (.invokespecial 1015, 3) := by decide +kernel
theorem d_jS_checkIndex_46 : decode c_jS_checkIndex 46 = .ok (.athrow, 1) := by decide +kernel
theorem d_jS_checkIndex_47 : decode c_jS_checkIndex 47 = .ok (.return_, 1) := by decide +kernel
