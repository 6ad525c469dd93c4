theorem d_Mo_waive_227 : decode c_Mo_waive 227 = .ok (.goto 7, 3) := by decide +kernel
theorem d_Mo_waive_230 : decode c_Mo_waive 230 = .ok (.aload_n 0, 1) := by decide +kernel
theorem d_Mo_waive_231 : decode c_Mo_waive 231 = .ok (.getfield 268, 3) := by decide +kernel
theorem d_Mo_waive_234 : decode c_Mo_waive 234 = .ok (.putfield 268, 3) := by decide +kernel
theorem d_Mo_waive_237 : decode c_Mo_waive 237 = .ok (.iconst 1, 1) := by decide +kernel
theorem d_Mo_waive_238 : decode c_Mo_waive 238 = .ok (.ireturn, 1) := by decide +kernel
abbrev c_Mo_next : ByteArray := prog_14_method_53_code
abbrev r_Mo_next : Option FieldType := (some FieldType.int)
def y_Mo_next : MethodName := ⟨"PinKindChecksModel", "next", "()I"⟩
theorem d_Mo_next_0 : decode c_Mo_next 0 = .ok (.aload_n 0, 1) := by decide +kernel
theorem d_Mo_next_1 : decode c_Mo_next 1 = .ok (.iconst 0, 1) := by decide +kernel
theorem d_Mo_next_2 : decode c_Mo_next 2 = .ok (.putfield 91, 3) := by decide +kernel
theorem d_Mo_next_5 : decode c_Mo_next 5 = .ok (.aload_n 0, 1) := by decide +kernel
theorem d_Mo_next_6 : decode c_Mo_next 6 = .ok (.dup, 1) := by decide +kernel
theorem d_Mo_next_7 : decode c_Mo_next 7 = .ok (.getfield 66, 3) := by decide +kernel
theorem d_Mo_next_10 : decode c_Mo_next 10 = .ok (.iconst 1, 1) := by decide +kernel
theorem d_Mo_next_11 : decode c_Mo_next 11 = .ok (.iadd, 1) := by decide +kernel
theorem d_Mo_next_12 : decode c_Mo_next 12 = .ok (.putfield 66, 3) := by decide +kernel
theorem d_Mo_next_15 : decode c_Mo_next 15 = .ok (.aload_n 0, 1) := by decide +kernel
theorem d_Mo_next_16 : decode c_Mo_next 16 = .ok (.getfield 66, 3) := by decide +kernel
theorem d_Mo_next_19 : decode c_Mo_next 19 = .ok (.ireturn, 1) := by decide +kernel
abbrev c_Mo_offRule : ByteArray := prog_14_method_54_code
abbrev r_Mo_offRule : Option FieldType := (some FieldType.int)
def y_Mo_offRule : MethodName := ⟨"PinKindChecksModel", "offRule", "(I)I"⟩
theorem d_Mo_offRule_0 : decode c_Mo_offRule 0 = .ok (.aload_n 0, 1) := by decide +kernel
theorem d_Mo_offRule_1 : decode c_Mo_offRule 1 = .ok (.iconst 0, 1) := by decide +kernel
theorem d_Mo_offRule_2 : decode c_Mo_offRule 2 = .ok (.putfield 91, 3) := by decide +kernel
theorem d_Mo_offRule_5 : decode c_Mo_offRule 5 = .ok (.iload_n 1, 1) := by decide +kernel
theorem d_Mo_offRule_6 : decode c_Mo_offRule 6 = .ok (.istore_n 2, 1) := by decide +kernel
theorem d_Mo_offRule_7 : decode c_Mo_offRule 7 = .ok (.iconst 0, 1) := by decide +kernel
theorem d_Mo_offRule_8 : decode c_Mo_offRule 8 = .ok (.istore_n 3, 1) := by decide +kernel
theorem d_Mo_offRule_9 : decode c_Mo_offRule 9 = .ok (.iload_n 3, 1) := by decide +kernel
theorem d_Mo_offRule_10 : decode c_Mo_offRule 10 = .ok (.bipush 7, 2) := by decide +kernel
theorem d_Mo_offRule_12 : decode c_Mo_offRule 12 = .ok (.aload_n 0, 1) := by decide +kernel
theorem d_Mo_offRule_13 : decode c_Mo_offRule 13 = .ok (.getfield 210, 3) := by decide +kernel
theorem d_Mo_offRule_16 : decode c_Mo_offRule 16 = .ok (.iadd, 1) := by decide +kernel
theorem d_Mo_offRule_17 : decode c_Mo_offRule 17 = .ok (.if_icmp .ge 34, 3) := by decide +kernel
theorem d_Mo_offRule_20 : decode c_Mo_offRule 20 = .ok (.iload_n 1, 1) := by decide +kernel
theorem d_Mo_offRule_21 : decode c_Mo_offRule 21 = .ok (.ifCond .lt 30, 3) := by decide +kernel
theorem d_Mo_offRule_24 : decode c_Mo_offRule 24 = .ok (.aload_n 0, 1) := by decide +kernel
theorem d_Mo_offRule_25 : decode c_Mo_offRule 25 = .ok (.getfield 62, 3) := by decide +kernel
theorem d_Mo_offRule_28 : decode c_Mo_offRule 28 = .ok (.iload_n 3, 1) := by decide +kernel
theorem d_Mo_offRule_29 : decode c_Mo_offRule 29 = .ok (.baload, 1) := by decide +kernel
theorem d_Mo_offRule_30 : decode c_Mo_offRule 30 = .ok (.ifCond .ne 6, 3) := by decide +kernel
theorem d_Mo_offRule_33 : decode c_Mo_offRule 33 = .ok (.goto 12, 3) := by decide +kernel
theorem d_Mo_offRule_36 : decode c_Mo_offRule 36 = .ok (.iload_n 2, 1) := by decide +kernel
theorem d_Mo_offRule_37 : decode c_Mo_offRule 37 = .ok (.ifCond .ne 5, 3) := by decide +kernel
theorem d_Mo_offRule_40 : decode c_Mo_offRule 40 = .ok (.iload_n 3, 1) := by decide +kernel
theorem d_Mo_offRule_41 : decode c_Mo_offRule 41 = .ok (.ireturn, 1) := by decide +kernel
theorem d_Mo_offRule_42 : decode c_Mo_offRule 42 = .ok (.iinc 2 (-1), 3) := by decide +kernel
theorem d_Mo_offRule_45 : decode c_Mo_offRule 45 = .ok (.iinc 3 1, 3) := by decide +kernel
theorem d_Mo_offRule_48 : decode c_Mo_offRule 48 = .ok (.goto (-39), 3) := by decide +kernel
theorem d_Mo_offRule_51 : decode c_Mo_offRule 51 = .ok (.iconst (-1), 1) := by decide +kernel
theorem d_Mo_offRule_52 : decode c_Mo_offRule 52 = .ok (.ireturn, 1) := by decide +kernel
abbrev c_Mo_clear : ByteArray := prog_14_method_55_code
abbrev r_Mo_clear : Option FieldType := none
def y_Mo_clear : MethodName := ⟨"PinKindChecksModel", "clear", "()V"⟩
theorem d_Mo_clear_0 : decode c_Mo_clear 0 = .ok (.aload_n 0, 1) := by decide +kernel
theorem d_Mo_clear_1 : decode c_Mo_clear 1 = .ok (.iconst 0, 1) := by decide +kernel
theorem d_Mo_clear_2 : decode c_Mo_clear 2 = .ok (.putfield 91, 3) := by decide +kernel
theorem d_Mo_clear_5 : decode c_Mo_clear 5 = .ok (.iconst 0, 1) := by decide +kernel
theorem d_Mo_clear_6 : decode c_Mo_clear 6 = .ok (.istore_n 1, 1) := by decide +kernel
theorem d_Mo_clear_7 : decode c_Mo_clear 7 = .ok (.iload_n 1, 1) := by decide +kernel
theorem d_Mo_clear_8 : decode c_Mo_clear 8 = .ok (.bipush 100, 2) := by decide +kernel
theorem d_Mo_clear_10 : decode c_Mo_clear 10 = .ok (.if_icmp .ge 16, 3) := by decide +kernel
theorem d_Mo_clear_13 : decode c_Mo_clear 13 = .ok (.aload_n 0, 1) := by decide +kernel
theorem d_Mo_clear_14 : decode c_Mo_clear 14 = .ok (.getfield 7, 3) := by decide +kernel
theorem d_Mo_clear_17 : decode c_Mo_clear 17 = .ok (.iload_n 1, 1) := by decide +kernel
theorem d_Mo_clear_18 : decode c_Mo_clear 18 = .ok (.iconst 0, 1) := by decide +kernel
theorem d_Mo_clear_19 : decode c_Mo_clear 19 = .ok (.iastore, 1) := by decide +kernel
theorem d_Mo_clear_20 : decode c_Mo_clear 20 = .ok (.iinc 1 1, 3) := by decide +kernel
theorem d_Mo_clear_23 : decode c_Mo_clear 23 = .ok (.goto (-16), 3) := by decide +kernel
theorem d_Mo_clear_26 : decode c_Mo_clear 26 = .ok (.aload_n 0, 1) := by decide +kernel
theorem d_Mo_clear_27 : decode c_Mo_clear 27 = .ok (.iconst 0, 1) := by decide +kernel
theorem d_Mo_clear_28 : decode c_Mo_clear 28 = .ok (.putfield 97, 3) := by decide +kernel
theorem d_Mo_clear_31 : decode c_Mo_clear 31 = .ok (.aload_n 0, 1) := by decide +kernel
theorem d_Mo_clear_32 : decode c_Mo_clear 32 = .ok (.iconst 0, 1) := by decide +kernel
theorem d_Mo_clear_33 : decode c_Mo_clear 33 = .ok (.putfield 94, 3) := by decide +kernel
theorem d_Mo_clear_36 : decode c_Mo_clear 36 = .ok (.aload_n 0, 1) := by decide +kernel
theorem d_Mo_clear_37 : decode c_Mo_clear 37 = .ok (.iconst 0, 1) := by decide +kernel
theorem d_Mo_clear_38 : decode c_Mo_clear 38 = .ok (.putfield 113, 3) := by decide +kernel
theorem d_Mo_clear_41 : decode c_Mo_clear 41 = .ok (.aload_n 0, 1) := by decide +kernel
theorem d_Mo_clear_42 : decode c_Mo_clear 42 = .ok (.iconst 0, 1) := by decide +kernel
theorem d_Mo_clear_43 : decode c_Mo_clear 43 = .ok (.putfield 116, 3) := by decide +kernel
theorem d_Mo_clear_46 : decode c_Mo_clear 46 = .ok (.aload_n 0, 1) := by decide +kernel
theorem d_Mo_clear_47 : decode c_Mo_clear 47 = .ok (.iconst 0, 1) := by decide +kernel
theorem d_Mo_clear_48 : decode c_Mo_clear 48 = .ok (.putfield 119, 3) := by decide +kernel
theorem d_Mo_clear_51 : decode c_Mo_clear 51 = .ok (.aload_n 0, 1) := by decide +kernel
theorem d_Mo_clear_52 : decode c_Mo_clear 52 = .ok (.iconst 0, 1) := by decide +kernel
theorem d_Mo_clear_53 : decode c_Mo_clear 53 = .ok (.putfield 210, 3) := by decide +kernel
theorem d_Mo_clear_56 : decode c_Mo_clear 56 = .ok (.iconst 0, 1) := by decide +kernel
theorem d_Mo_clear_57 : decode c_Mo_clear 57 = .ok (.istore_n 1, 1) := by decide +kernel
theorem d_Mo_clear_58 : decode c_Mo_clear 58 = .ok (.iload_n 1, 1) := by decide +kernel
theorem d_Mo_clear_59 : decode c_Mo_clear 59 = .ok (.bipush 27, 2) := by decide +kernel
theorem d_Mo_clear_61 : decode c_Mo_clear 61 = .ok (.if_icmp .ge 16, 3) := by decide +kernel
theorem d_Mo_clear_64 : decode c_Mo_clear 64 = .ok (.aload_n 0, 1) := by decide +kernel
theorem d_Mo_clear_65 : decode c_Mo_clear 65 = .ok (.getfield 62, 3) := by decide +kernel
theorem d_Mo_clear_68 : decode c_Mo_clear 68 = .ok (.iload_n 1, 1) := by decide +kernel
theorem d_Mo_clear_69 : decode c_Mo_clear 69 = .ok (.iconst 0, 1) := by decide +kernel
theorem d_Mo_clear_70 : decode c_Mo_clear 70 = .ok (.bastore, 1) := by decide +kernel
theorem d_Mo_clear_71 : decode c_Mo_clear 71 = .ok (.iinc 1 1, 3) := by decide +kernel
theorem d_Mo_clear_74 : decode c_Mo_clear 74 = .ok (.goto (-16), 3) := by decide +kernel
theorem d_Mo_clear_77 : decode c_Mo_clear 77 = .ok (.aload_n 0, 1) := by decide +kernel
theorem d_Mo_clear_78 : decode c_Mo_clear 78 = .ok (.iconst 1, 1) := by decide +kernel
theorem d_Mo_clear_79 : decode c_Mo_clear 79 = .ok (.putfield 66, 3) := by decide +kernel
theorem d_Mo_clear_82 : decode c_Mo_clear 82 = .ok (.iconst 0, 1) := by decide +kernel
theorem d_Mo_clear_83 : decode c_Mo_clear 83 = .ok (.istore_n 1, 1) := by decide +kernel
theorem d_Mo_clear_84 : decode c_Mo_clear 84 = .ok (.iload_n 1, 1) := by decide +kernel
theorem d_Mo_clear_85 : decode c_Mo_clear 85 = .ok (.sipush 6480, 3) := by decide +kernel
theorem d_Mo_clear_88 : decode c_Mo_clear 88 = .ok (.if_icmp .ge 16, 3) := by decide +kernel
theorem d_Mo_clear_91 : decode c_Mo_clear 91 = .ok (.aload_n 0, 1) := by decide +kernel
theorem d_Mo_clear_92 : decode c_Mo_clear 92 = .ok (.getfield 70, 3) := by decide +kernel
theorem d_Mo_clear_95 : decode c_Mo_clear 95 = .ok (.iload_n 1, 1) := by decide +kernel
theorem d_Mo_clear_96 : decode c_Mo_clear 96 = .ok (.iconst 0, 1) := by decide +kernel
theorem d_Mo_clear_97 : decode c_Mo_clear 97 = .ok (.iastore, 1) := by decide +kernel
theorem d_Mo_clear_98 : decode c_Mo_clear 98 = .ok (.iinc 1 1, 3) := by decide +kernel
theorem d_Mo_clear_101 : decode c_Mo_clear 101 = .ok (.goto (-17), 3) := by decide +kernel
theorem d_Mo_clear_104 : decode c_Mo_clear 104 = .ok (.iconst 0, 1) := by decide +kernel
theorem d_Mo_clear_105 : decode c_Mo_clear 105 = .ok (.istore_n 1, 1) := by decide +kernel
theorem d_Mo_clear_106 : decode c_Mo_clear 106 = .ok (.iload_n 1, 1) := by decide +kernel
theorem d_Mo_clear_107 : decode c_Mo_clear 107 = .ok (.sipush 6480, 3) := by decide +kernel
theorem d_Mo_clear_110 : decode c_Mo_clear 110 = .ok (.if_icmp .ge 16, 3) := by decide +kernel
theorem d_Mo_clear_113 : decode c_Mo_clear 113 = .ok (.aload_n 0, 1) := by decide +kernel
theorem d_Mo_clear_114 : decode c_Mo_clear 114 = .ok (.getfield 76, 3) := by decide +kernel
theorem d_Mo_clear_117 : decode c_Mo_clear 117 = .ok (.iload_n 1, 1) := by decide +kernel
theorem d_Mo_clear_118 : decode c_Mo_clear 118 = .ok (.iconst 0, 1) := by decide +kernel
theorem d_Mo_clear_119 : decode c_Mo_clear 119 = .ok (.iastore, 1) := by decide +kernel
theorem d_Mo_clear_120 : decode c_Mo_clear 120 = .ok (.iinc 1 1, 3) := by decide +kernel
theorem d_Mo_clear_123 : decode c_Mo_clear 123 = .ok (.goto (-17), 3) := by decide +kernel
theorem d_Mo_clear_126 : decode c_Mo_clear 126 = .ok (.aload_n 0, 1) := by decide +kernel
theorem d_Mo_clear_127 : decode c_Mo_clear 127 = .ok (.iconst 0, 1) := by decide +kernel
theorem d_Mo_clear_128 : decode c_Mo_clear 128 = .ok (.putfield 264, 3) := by decide +kernel
theorem d_Mo_clear_131 : decode c_Mo_clear 131 = .ok (.aload_n 0, 1) := by decide +kernel
theorem d_Mo_clear_132 : decode c_Mo_clear 132 = .ok (.iconst 0, 1) := by decide +kernel
theorem d_Mo_clear_133 : decode c_Mo_clear 133 = .ok (.putfield 268, 3) := by decide +kernel
theorem d_Mo_clear_136 : decode c_Mo_clear 136 = .ok (.return_, 1) := by decide +kernel
