abbrev c_Pa_builtInWeight : ByteArray := prog_3_method_4_code
abbrev r_Pa_builtInWeight : Option FieldType := (some FieldType.int)
def y_Pa_builtInWeight : MethodName := ⟨"PinKindChecks$Part", "builtInWeight", "(ILPinKindChecks$Schematic;)I"⟩
theorem d_Pa_builtInWeight_0 : decode c_Pa_builtInWeight 0 = .ok (.iconst 0, 1) := by decide +kernel
theorem d_Pa_builtInWeight_1 : decode c_Pa_builtInWeight 1 = .ok (.ireturn, 1) := by decide +kernel
abbrev c_Pa_ownValueOf : ByteArray := prog_3_method_5_code
abbrev r_Pa_ownValueOf : Option FieldType := (some FieldType.long)
def y_Pa_ownValueOf : MethodName := ⟨"PinKindChecks$Part", "ownValueOf", "(II)J"⟩
theorem d_Pa_ownValueOf_0 : decode c_Pa_ownValueOf 0 = .ok (.iload_n 1, 1) := by decide +kernel
theorem d_Pa_ownValueOf_1 : decode c_Pa_ownValueOf 1 = .ok (.bipush 14, 2) := by decide +kernel
theorem d_Pa_ownValueOf_3 : decode c_Pa_ownValueOf 3 = .ok (.if_icmp .ne 11, 3) := by decide +kernel
theorem d_Pa_ownValueOf_6 : decode c_Pa_ownValueOf 6 = .ok (.aload_n 0, 1) := by decide +kernel
theorem d_Pa_ownValueOf_7 : decode c_Pa_ownValueOf 7 = .ok (.iload_n 2, 1) := by decide +kernel
theorem d_Pa_ownValueOf_8 : decode c_Pa_ownValueOf 8 = .ok (.invokevirtual 21, 3) := by decide +kernel
theorem d_Pa_ownValueOf_11 : decode c_Pa_ownValueOf 11 = .ok (.goto 4, 3) := by decide +kernel
theorem d_Pa_ownValueOf_14 : decode c_Pa_ownValueOf 14 = .ok (.lconst 0, 1) := by decide +kernel
theorem d_Pa_ownValueOf_15 : decode c_Pa_ownValueOf 15 = .ok (.lreturn, 1) := by decide +kernel
abbrev c_Pa_fieldAt : ByteArray := prog_3_method_3_code
abbrev r_Pa_fieldAt : Option FieldType := (some FieldType.long)
def y_Pa_fieldAt : MethodName := ⟨"PinKindChecks$Part", "fieldAt", "(I)J"⟩
theorem d_Pa_fieldAt_0 : decode c_Pa_fieldAt 0 = .ok (.iload_n 1, 1) := by decide +kernel
theorem d_Pa_fieldAt_1 : decode c_Pa_fieldAt 1 = .ok (.aload_n 0, 1) := by decide +kernel
theorem d_Pa_fieldAt_2 : decode c_Pa_fieldAt 2 = .ok (.getfield 9, 3) := by decide +kernel
theorem d_Pa_fieldAt_5 : decode c_Pa_fieldAt 5 = .ok (.arraylength, 1) := by decide +kernel
theorem d_Pa_fieldAt_6 : decode c_Pa_fieldAt 6 = .ok (.invokestatic 15, 3) := by decide +kernel
theorem d_Pa_fieldAt_9 : decode c_Pa_fieldAt 9 = .ok (.ifCond .eq 12, 3) := by decide +kernel
theorem d_Pa_fieldAt_12 : decode c_Pa_fieldAt 12 = .ok (.aload_n 0, 1) := by decide +kernel
theorem d_Pa_fieldAt_13 : decode c_Pa_fieldAt 13 = .ok (.getfield 9, 3) := by decide +kernel
theorem d_Pa_fieldAt_16 : decode c_Pa_fieldAt 16 = .ok (.iload_n 1, 1) := by decide +kernel
theorem d_Pa_fieldAt_17 : decode c_Pa_fieldAt 17 = .ok (.laload, 1) := by decide +kernel
theorem d_Pa_fieldAt_18 : decode c_Pa_fieldAt 18 = .ok (.goto 4, 3) := by decide +kernel
theorem d_Pa_fieldAt_21 : decode c_Pa_fieldAt 21 = .ok (.lconst 0, 1) := by decide +kernel
theorem d_Pa_fieldAt_22 : decode c_Pa_fieldAt 22 = .ok (.lreturn, 1) := by decide +kernel
abbrev c_Pa_init : ByteArray := prog_3_method_1_code
abbrev r_Pa_init : Option FieldType := none
def y_Pa_init : MethodName := ⟨"PinKindChecks$Part", "<init>", "(II)V"⟩
theorem d_Pa_init_0 : decode c_Pa_init 0 = .ok (.aload_n 0, 1) := by decide +kernel
theorem d_Pa_init_1 : decode c_Pa_init 1 = .ok (.iload_n 1, 1) := by decide +kernel
theorem d_Pa_init_2 : decode c_Pa_init 2 = .ok (.iconst 0, 1) := by decide +kernel
theorem d_Pa_init_3 : decode c_Pa_init 3 = .ok (.iload_n 2, 1) := by decide +kernel
theorem d_Pa_init_4 : decode c_Pa_init 4 = .ok (.invokespecial 3, 3) := by decide +kernel
theorem d_Pa_init_7 : decode c_Pa_init 7 = .ok (.aload_n 0, 1) := by decide +kernel
theorem d_Pa_init_8 : decode c_Pa_init 8 = .ok (.bipush 8, 2) := by decide +kernel
theorem d_Pa_init_10 : decode c_Pa_init 10 = .ok (.newarray .long, 2) := by decide +kernel
theorem d_Pa_init_12 : decode c_Pa_init 12 = .ok (.putfield 9, 3) := by decide +kernel
theorem d_Pa_init_15 : decode c_Pa_init 15 = .ok (.return_, 1) := by decide +kernel
abbrev c_Pa_setField : ByteArray := prog_3_method_2_code
abbrev r_Pa_setField : Option FieldType := (some FieldType.boolean)
def y_Pa_setField : MethodName := ⟨"PinKindChecks$Part", "setField", "(IJ)Z"⟩
theorem d_Pa_setField_0 : decode c_Pa_setField 0 = .ok (.iload_n 1, 1) := by decide +kernel
theorem d_Pa_setField_1 : decode c_Pa_setField 1 = .ok (.aload_n 0, 1) := by decide +kernel
theorem d_Pa_setField_2 : decode c_Pa_setField 2 = .ok (.getfield 9, 3) := by decide +kernel
theorem d_Pa_setField_5 : decode c_Pa_setField 5 = .ok (.arraylength, 1) := by decide +kernel
theorem d_Pa_setField_6 : decode c_Pa_setField 6 = .ok (.invokestatic 15, 3) := by decide +kernel
theorem d_Pa_setField_9 : decode c_Pa_setField 9 = .ok (.ifCond .ne 5, 3) := by decide +kernel
theorem d_Pa_setField_12 : decode c_Pa_setField 12 = .ok (.iconst 0, 1) := by decide +kernel
theorem d_Pa_setField_13 : decode c_Pa_setField 13 = .ok (.ireturn, 1) := by decide +kernel
theorem d_Pa_setField_14 : decode c_Pa_setField 14 = .ok (.aload_n 0, 1) := by decide +kernel
theorem d_Pa_setField_15 : decode c_Pa_setField 15 = .ok (.getfield 9, 3) := by decide +kernel
theorem d_Pa_setField_18 : decode c_Pa_setField 18 = .ok (.iload_n 1, 1) := by decide +kernel
theorem d_Pa_setField_19 : decode c_Pa_setField 19 = .ok (.laload, 1) := by decide +kernel
theorem d_Pa_setField_20 : decode c_Pa_setField 20 = .ok (.lload_n 2, 1) := by decide +kernel
theorem d_Pa_setField_21 : decode c_Pa_setField 21 = .ok (.lcmp, 1) := by decide +kernel
theorem d_Pa_setField_22 : decode c_Pa_setField 22 = .ok (.ifCond .eq 7, 3) := by decide +kernel
theorem d_Pa_setField_25 : decode c_Pa_setField 25 = .ok (.iconst 1, 1) := by decide +kernel
theorem d_Pa_setField_26 : decode c_Pa_setField 26 = .ok (.goto 4, 3) := by decide +kernel
theorem d_Pa_setField_29 : decode c_Pa_setField 29 = .ok (.iconst 0, 1) := by decide +kernel
theorem d_Pa_setField_30 : decode c_Pa_setField 30 = .ok (.istore 4, 2) := by decide +kernel
theorem d_Pa_setField_32 : decode c_Pa_setField 32 = .ok (.aload_n 0, 1) := by decide +kernel
theorem d_Pa_setField_33 : decode c_Pa_setField 33 = .ok (.getfield 9, 3) := by decide +kernel
theorem d_Pa_setField_36 : decode c_Pa_setField 36 = .ok (.iload_n 1, 1) := by decide +kernel
theorem d_Pa_setField_37 : decode c_Pa_setField 37 = .ok (.lload_n 2, 1) := by decide +kernel
theorem d_Pa_setField_38 : decode c_Pa_setField 38 = .ok (.lastore, 1) := by decide +kernel
theorem d_Pa_setField_39 : decode c_Pa_setField 39 = .ok (.iload 4, 2) := by decide +kernel
theorem d_Pa_setField_41 : decode c_Pa_setField 41 = .ok (.ireturn, 1) := by decide +kernel
