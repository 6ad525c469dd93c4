theorem d_K_remark_69 : decode c_K_remark 69 = .ok (.aload_n 0, 1) := by decide +kernel
theorem d_K_remark_70 : decode c_K_remark 70 = .ok (.getfield 51, 3) := by decide +kernel
theorem d_K_remark_73 : decode c_K_remark 73 = .ok (.iload_n 1, 1) := by decide +kernel
theorem d_K_remark_74 : decode c_K_remark 74 = .ok (.invokevirtual 195, 3) := by decide +kernel
theorem d_K_remark_77 : decode c_K_remark 77 = .ok (.ireturn, 1) := by decide +kernel
theorem d_K_remark_78 : decode c_K_remark 78 = .ok (.aload_n 0, 1) := by decide +kernel
theorem d_K_remark_79 : decode c_K_remark 79 = .ok (.getfield 36, 3) := by decide +kernel
theorem d_K_remark_82 : decode c_K_remark 82 = .ok (.aload_n 0, 1) := by decide +kernel
theorem d_K_remark_83 : decode c_K_remark 83 = .ok (.getfield 51, 3) := by decide +kernel
theorem d_K_remark_86 : decode c_K_remark 86 = .ok (.iload_n 1, 1) := by decide +kernel
theorem d_K_remark_87 : decode c_K_remark 87 = .ok (.invokevirtual 198, 3) := by decide +kernel
theorem d_K_remark_90 : decode c_K_remark 90 = .ok (.invokevirtual 201, 3) := by decide +kernel
theorem d_K_remark_93 : decode c_K_remark 93 = .ok (.ireturn, 1) := by decide +kernel
theorem d_K_remark_94 : decode c_K_remark 94 = .ok (.aload_n 0, 1) := by decide +kernel
theorem d_K_remark_95 : decode c_K_remark 95 = .ok (.getfield 51, 3) := by decide +kernel
theorem d_K_remark_98 : decode c_K_remark 98 = .ok (.iload_n 1, 1) := by decide +kernel
theorem d_K_remark_99 : decode c_K_remark 99 = .ok (.invokevirtual 198, 3) := by decide +kernel
theorem d_K_remark_102 : decode c_K_remark 102 = .ok (.iload_n 2, 1) := by decide +kernel
theorem d_K_remark_103 : decode c_K_remark 103 = .ok (.invokestatic 204, 3) := by decide +kernel
theorem d_K_remark_106 : decode c_K_remark 106 = .ok (.ireturn, 1) := by decide +kernel
abbrev c_K_aboutKey : ByteArray := prog_1_method_27_code
abbrev r_K_aboutKey : Option FieldType := (some FieldType.int)
def y_K_aboutKey : MethodName := ⟨"PinKindChecks", "aboutKey", "(II)I"⟩
theorem d_K_aboutKey_0 : decode c_K_aboutKey 0 = .ok (.iload_n 1, 1) := by decide +kernel
theorem d_K_aboutKey_1 : decode c_K_aboutKey 1 = .ok (.ifCond .ne 8, 3) := by decide +kernel
theorem d_K_aboutKey_4 : decode c_K_aboutKey 4 = .ok (.iload_n 0, 1) := by decide +kernel
theorem d_K_aboutKey_5 : decode c_K_aboutKey 5 = .ok (.bipush 27, 2) := by decide +kernel
theorem d_K_aboutKey_7 : decode c_K_aboutKey 7 = .ok (.irem, 1) := by decide +kernel
theorem d_K_aboutKey_8 : decode c_K_aboutKey 8 = .ok (.ireturn, 1) := by decide +kernel
theorem d_K_aboutKey_9 : decode c_K_aboutKey 9 = .ok (.iload_n 0, 1) := by decide +kernel
theorem d_K_aboutKey_10 : decode c_K_aboutKey 10 = .ok (.bipush 27, 2) := by decide +kernel
theorem d_K_aboutKey_12 : decode c_K_aboutKey 12 = .ok (.idiv, 1) := by decide +kernel
theorem d_K_aboutKey_13 : decode c_K_aboutKey 13 = .ok (.istore_n 2, 1) := by decide +kernel
theorem d_K_aboutKey_14 : decode c_K_aboutKey 14 = .ok (.iload_n 1, 1) := by decide +kernel
theorem d_K_aboutKey_15 : decode c_K_aboutKey 15 = .ok (.iconst 1, 1) := by decide +kernel
theorem d_K_aboutKey_16 : decode c_K_aboutKey 16 = .ok (.if_icmp .ne 13, 3) := by decide +kernel
theorem d_K_aboutKey_19 : decode c_K_aboutKey 19 = .ok (.iload_n 2, 1) := by decide +kernel
theorem d_K_aboutKey_20 : decode c_K_aboutKey 20 = .ok (.sipush 160, 3) := by decide +kernel
theorem d_K_aboutKey_23 : decode c_K_aboutKey 23 = .ok (.idiv, 1) := by decide +kernel
theorem d_K_aboutKey_24 : decode c_K_aboutKey 24 = .ok (.iconst 3, 1) := by decide +kernel
theorem d_K_aboutKey_25 : decode c_K_aboutKey 25 = .ok (.irem, 1) := by decide +kernel
theorem d_K_aboutKey_26 : decode c_K_aboutKey 26 = .ok (.goto 8, 3) := by decide +kernel
theorem d_K_aboutKey_29 : decode c_K_aboutKey 29 = .ok (.iload_n 2, 1) := by decide +kernel
theorem d_K_aboutKey_30 : decode c_K_aboutKey 30 = .ok (.sipush 160, 3) := by decide +kernel
theorem d_K_aboutKey_33 : decode c_K_aboutKey 33 = .ok (.irem, 1) := by decide +kernel
theorem d_K_aboutKey_34 : decode c_K_aboutKey 34 = .ok (.ireturn, 1) := by decide +kernel
abbrev c_K_closed : ByteArray := prog_1_method_14_code
abbrev r_K_closed : Option FieldType := (some FieldType.int)
def y_K_closed : MethodName := ⟨"PinKindChecks", "closed", "(II)I"⟩
theorem d_K_closed_0 : decode c_K_closed 0 = .ok (.iload_n 1, 1) := by decide +kernel
theorem d_K_closed_1 : decode c_K_closed 1 = .ok (.aload_n 0, 1) := by decide +kernel
theorem d_K_closed_2 : decode c_K_closed 2 = .ok (.getfield 43, 3) := by decide +kernel
theorem d_K_closed_5 : decode c_K_closed 5 = .ok (.invokevirtual 187, 3) := by decide +kernel
theorem d_K_closed_8 : decode c_K_closed 8 = .ok (.invokestatic 64, 3) := by decide +kernel
theorem d_K_closed_11 : decode c_K_closed 11 = .ok (.ifCond .eq 11, 3) := by decide +kernel
theorem d_K_closed_14 : decode c_K_closed 14 = .ok (.iload_n 2, 1) := by decide +kernel
theorem d_K_closed_15 : decode c_K_closed 15 = .ok (.iconst 4, 1) := by decide +kernel
theorem d_K_closed_16 : decode c_K_closed 16 = .ok (.invokestatic 64, 3) := by decide +kernel
theorem d_K_closed_19 : decode c_K_closed 19 = .ok (.ifCond .ne 13, 3) := by decide +kernel
theorem d_K_closed_22 : decode c_K_closed 22 = .ok (.new 68, 3) := by decide +kernel
theorem d_K_closed_25 : decode c_K_closed 25 = .ok (.dup, 1) := by decide +kernel
theorem d_K_closed_26 : decode c_K_closed 26 = .ok (.ldc 207, 2) := by decide +kernel
theorem d_K_closed_28 : decode c_K_closed 28 = .ok (.invokespecial 72, 3) := by decide +kernel
theorem d_K_closed_31 : decode c_K_closed 31 = .ok (.athrow, 1) := by decide +kernel
theorem d_K_closed_32 : decode c_K_closed 32 = .ok (.iload_n 2, 1) := by decide +kernel
theorem d_K_closed_33 : decode c_K_closed 33 = .ok (.iconst 3, 1) := by decide +kernel
theorem d_K_closed_34 : decode c_K_closed 34 = .ok (.if_icmp .ne 14, 3) := by decide +kernel
theorem d_K_closed_37 : decode c_K_closed 37 = .ok (.aload_n 0, 1) := by decide +kernel
theorem d_K_closed_38 : decode c_K_closed 38 = .ok (.getfield 43, 3) := by decide +kernel
theorem d_K_closed_41 : decode c_K_closed 41 = .ok (.iload_n 1, 1) := by decide +kernel
theorem d_K_closed_42 : decode c_K_closed 42 = .ok (.invokevirtual 195, 3) := by decide +kernel
theorem d_K_closed_45 : decode c_K_closed 45 = .ok (.goto 15, 3) := by decide +kernel
theorem d_K_closed_48 : decode c_K_closed 48 = .ok (.aload_n 0, 1) := by decide +kernel
theorem d_K_closed_49 : decode c_K_closed 49 = .ok (.getfield 43, 3) := by decide +kernel
theorem d_K_closed_52 : decode c_K_closed 52 = .ok (.iload_n 1, 1) := by decide +kernel
theorem d_K_closed_53 : decode c_K_closed 53 = .ok (.invokevirtual 198, 3) := by decide +kernel
theorem d_K_closed_56 : decode c_K_closed 56 = .ok (.iload_n 2, 1) := by decide +kernel
theorem d_K_closed_57 : decode c_K_closed 57 = .ok (.invokestatic 204, 3) := by decide +kernel
theorem d_K_closed_60 : decode c_K_closed 60 = .ok (.ireturn, 1) := by decide +kernel
abbrev c_K_waive : ByteArray := prog_1_method_15_code
abbrev r_K_waive : Option FieldType := (some FieldType.boolean)
def y_K_waive : MethodName := ⟨"PinKindChecks", "waive", "(IIII)Z"⟩
theorem d_K_waive_0 : decode c_K_waive 0 = .ok (.aload_n 0, 1) := by decide +kernel
theorem d_K_waive_1 : decode c_K_waive 1 = .ok (.getfield 12, 3) := by decide +kernel
theorem d_K_waive_4 : decode c_K_waive 4 = .ok (.iload_n 2, 1) := by decide +kernel
theorem d_K_waive_5 : decode c_K_waive 5 = .ok (.iload_n 3, 1) := by decide +kernel
theorem d_K_waive_6 : decode c_K_waive 6 = .ok (.invokevirtual 209, 3) := by decide +kernel
theorem d_K_waive_9 : decode c_K_waive 9 = .ok (.astore 5, 2) := by decide +kernel
theorem d_K_waive_11 : decode c_K_waive 11 = .ok (.aload_n 0, 1) := by decide +kernel
theorem d_K_waive_12 : decode c_K_waive 12 = .ok (.iload_n 1, 1) := by decide +kernel
theorem d_K_waive_13 : decode c_K_waive 13 = .ok (.invokevirtual 164, 3) := by decide +kernel
theorem d_K_waive_16 : decode c_K_waive 16 = .ok (.ifCond .eq 8, 3) := by decide +kernel
theorem d_K_waive_19 : decode c_K_waive 19 = .ok (.aload 5, 2) := by decide +kernel
theorem d_K_waive_21 : decode c_K_waive 21 = .ok (.ifnonnull 13, 3) := by decide +kernel
theorem d_K_waive_24 : decode c_K_waive 24 = .ok (.new 68, 3) := by decide +kernel
theorem d_K_waive_27 : decode c_K_waive 27 = .ok (.dup, 1) := by decide +kernel
theorem d_K_waive_28 : decode c_K_waive 28 = .ok (.ldc 213, 2) := by decide +kernel
theorem d_K_waive_30 : decode c_K_waive 30 = .ok (.invokespecial 72, 3) := by decide +kernel
theorem d_K_waive_33 : decode c_K_waive 33 = .ok (.athrow, 1) := by decide +kernel
theorem d_K_waive_34 : decode c_K_waive 34 = .ok (.iload 4, 2) := by decide +kernel
theorem d_K_waive_36 : decode c_K_waive 36 = .ok (.iconst (-1), 1) := by decide +kernel
theorem d_K_waive_37 : decode c_K_waive 37 = .ok (.if_icmp .eq 24, 3) := by decide +kernel
theorem d_K_waive_40 : decode c_K_waive 40 = .ok (.iload 4, 2) := by decide +kernel
theorem d_K_waive_42 : decode c_K_waive 42 = .ok (.sipush 1000, 3) := by decide +kernel
theorem d_K_waive_45 : decode c_K_waive 45 = .ok (.invokestatic 64, 3) := by decide +kernel
theorem d_K_waive_48 : decode c_K_waive 48 = .ok (.ifCond .ne 13, 3) := by decide +kernel
theorem d_K_waive_51 : decode c_K_waive 51 = .ok (.new 75, 3) := by decide +kernel
theorem d_K_waive_54 : decode c_K_waive 54 = .ok (.dup, 1) := by decide +kernel
theorem d_K_waive_55 : decode c_K_waive 55 = .ok (.ldc 215, 2) := by decide +kernel
theorem d_K_waive_57 : decode c_K_waive 57 = .ok (.invokespecial 79, 3) := by decide +kernel
theorem d_K_waive_60 : decode c_K_waive 60 = .ok (.athrow, 1) := by decide +kernel
theorem d_K_waive_61 : decode c_K_waive 61 = .ok (.aload_n 0, 1) := by decide +kernel
theorem d_K_waive_62 : decode c_K_waive 62 = .ok (.getfield 36, 3) := by decide +kernel
theorem d_K_waive_65 : decode c_K_waive 65 = .ok (.aload 5, 2) := by decide +kernel
theorem d_K_waive_67 : decode c_K_waive 67 = .ok (.iload_n 1, 1) := by decide +kernel
theorem d_K_waive_68 : decode c_K_waive 68 = .ok (.invokevirtual 217, 3) := by decide +kernel
theorem d_K_waive_71 : decode c_K_waive 71 = .ok (.iload 4, 2) := by decide +kernel
theorem d_K_waive_73 : decode c_K_waive 73 = .ok (.invokevirtual 222, 3) := by decide +kernel
theorem d_K_waive_76 : decode c_K_waive 76 = .ok (.ireturn, 1) := by decide +kernel
