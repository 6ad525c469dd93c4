abbrev c_Mo_init : ByteArray := prog_14_method_1_code
abbrev r_Mo_init : Option FieldType := none
def y_Mo_init : MethodName := ⟨"PinKindChecksModel", "<init>", "()V"⟩
theorem d_Mo_init_0 : decode c_Mo_init 0 = .ok (.aload_n 0, 1) := by decide +kernel
theorem d_Mo_init_1 : decode c_Mo_init 1 = .ok (.invokespecial 1, 3) := by decide +kernel
theorem d_Mo_init_4 : decode c_Mo_init 4 = .ok (.aload_n 0, 1) := by decide +kernel
theorem d_Mo_init_5 : decode c_Mo_init 5 = .ok (.bipush 100, 2) := by decide +kernel
theorem d_Mo_init_7 : decode c_Mo_init 7 = .ok (.newarray .int, 2) := by decide +kernel
theorem d_Mo_init_9 : decode c_Mo_init 9 = .ok (.putfield 7, 3) := by decide +kernel
theorem d_Mo_init_12 : decode c_Mo_init 12 = .ok (.aload_n 0, 1) := by decide +kernel
theorem d_Mo_init_13 : decode c_Mo_init 13 = .ok (.bipush 40, 2) := by decide +kernel
theorem d_Mo_init_15 : decode c_Mo_init 15 = .ok (.newarray .int, 2) := by decide +kernel
theorem d_Mo_init_17 : decode c_Mo_init 17 = .ok (.putfield 13, 3) := by decide +kernel
theorem d_Mo_init_20 : decode c_Mo_init 20 = .ok (.aload_n 0, 1) := by decide +kernel
theorem d_Mo_init_21 : decode c_Mo_init 21 = .ok (.sipush 320, 3) := by decide +kernel
theorem d_Mo_init_24 : decode c_Mo_init 24 = .ok (.newarray .long, 2) := by decide +kernel
theorem d_Mo_init_26 : decode c_Mo_init 26 = .ok (.putfield 16, 3) := by decide +kernel
theorem d_Mo_init_29 : decode c_Mo_init 29 = .ok (.aload_n 0, 1) := by decide +kernel
theorem d_Mo_init_30 : decode c_Mo_init 30 = .ok (.bipush 40, 2) := by decide +kernel
theorem d_Mo_init_32 : decode c_Mo_init 32 = .ok (.newarray .int, 2) := by decide +kernel
theorem d_Mo_init_34 : decode c_Mo_init 34 = .ok (.putfield 20, 3) := by decide +kernel
theorem d_Mo_init_37 : decode c_Mo_init 37 = .ok (.aload_n 0, 1) := by decide +kernel
theorem d_Mo_init_38 : decode c_Mo_init 38 = .ok (.bipush 40, 2) := by decide +kernel
theorem d_Mo_init_40 : decode c_Mo_init 40 = .ok (.newarray .int, 2) := by decide +kernel
theorem d_Mo_init_42 : decode c_Mo_init 42 = .ok (.putfield 23, 3) := by decide +kernel
theorem d_Mo_init_45 : decode c_Mo_init 45 = .ok (.aload_n 0, 1) := by decide +kernel
theorem d_Mo_init_46 : decode c_Mo_init 46 = .ok (.sipush 160, 3) := by decide +kernel
theorem d_Mo_init_49 : decode c_Mo_init 49 = .ok (.newarray .int, 2) := by decide +kernel
theorem d_Mo_init_51 : decode c_Mo_init 51 = .ok (.putfield 26, 3) := by decide +kernel
theorem d_Mo_init_54 : decode c_Mo_init 54 = .ok (.aload_n 0, 1) := by decide +kernel
theorem d_Mo_init_55 : decode c_Mo_init 55 = .ok (.sipush 160, 3) := by decide +kernel
theorem d_Mo_init_58 : decode c_Mo_init 58 = .ok (.newarray .int, 2) := by decide +kernel
theorem d_Mo_init_60 : decode c_Mo_init 60 = .ok (.putfield 29, 3) := by decide +kernel
theorem d_Mo_init_63 : decode c_Mo_init 63 = .ok (.aload_n 0, 1) := by decide +kernel
theorem d_Mo_init_64 : decode c_Mo_init 64 = .ok (.sipush 160, 3) := by decide +kernel
theorem d_Mo_init_67 : decode c_Mo_init 67 = .ok (.newarray .int, 2) := by decide +kernel
theorem d_Mo_init_69 : decode c_Mo_init 69 = .ok (.putfield 32, 3) := by decide +kernel
theorem d_Mo_init_72 : decode c_Mo_init 72 = .ok (.aload_n 0, 1) := by decide +kernel
theorem d_Mo_init_73 : decode c_Mo_init 73 = .ok (.bipush 100, 2) := by decide +kernel
theorem d_Mo_init_75 : decode c_Mo_init 75 = .ok (.newarray .int, 2) := by decide +kernel
theorem d_Mo_init_77 : decode c_Mo_init 77 = .ok (.putfield 35, 3) := by decide +kernel
theorem d_Mo_init_80 : decode c_Mo_init 80 = .ok (.aload_n 0, 1) := by decide +kernel
theorem d_Mo_init_81 : decode c_Mo_init 81 = .ok (.bipush 100, 2) := by decide +kernel
theorem d_Mo_init_83 : decode c_Mo_init 83 = .ok (.newarray .long, 2) := by decide +kernel
theorem d_Mo_init_85 : decode c_Mo_init 85 = .ok (.putfield 38, 3) := by decide +kernel
theorem d_Mo_init_88 : decode c_Mo_init 88 = .ok (.aload_n 0, 1) := by decide +kernel
theorem d_Mo_init_89 : decode c_Mo_init 89 = .ok (.bipush 100, 2) := by decide +kernel
theorem d_Mo_init_91 : decode c_Mo_init 91 = .ok (.newarray .long, 2) := by decide +kernel
theorem d_Mo_init_93 : decode c_Mo_init 93 = .ok (.putfield 41, 3) := by decide +kernel
theorem d_Mo_init_96 : decode c_Mo_init 96 = .ok (.aload_n 0, 1) := by decide +kernel
theorem d_Mo_init_97 : decode c_Mo_init 97 = .ok (.sipush 160, 3) := by decide +kernel
theorem d_Mo_init_100 : decode c_Mo_init 100 = .ok (.newarray .int, 2) := by decide +kernel
theorem d_Mo_init_102 : decode c_Mo_init 102 = .ok (.putfield 44, 3) := by decide +kernel
theorem d_Mo_init_105 : decode c_Mo_init 105 = .ok (.aload_n 0, 1) := by decide +kernel
theorem d_Mo_init_106 : decode c_Mo_init 106 = .ok (.bipush 20, 2) := by decide +kernel
theorem d_Mo_init_108 : decode c_Mo_init 108 = .ok (.newarray .int, 2) := by decide +kernel
theorem d_Mo_init_110 : decode c_Mo_init 110 = .ok (.putfield 47, 3) := by decide +kernel
theorem d_Mo_init_113 : decode c_Mo_init 113 = .ok (.aload_n 0, 1) := by decide +kernel
theorem d_Mo_init_114 : decode c_Mo_init 114 = .ok (.bipush 20, 2) := by decide +kernel
theorem d_Mo_init_116 : decode c_Mo_init 116 = .ok (.newarray .int, 2) := by decide +kernel
theorem d_Mo_init_118 : decode c_Mo_init 118 = .ok (.putfield 50, 3) := by decide +kernel
theorem d_Mo_init_121 : decode c_Mo_init 121 = .ok (.aload_n 0, 1) := by decide +kernel
theorem d_Mo_init_122 : decode c_Mo_init 122 = .ok (.bipush 20, 2) := by decide +kernel
theorem d_Mo_init_124 : decode c_Mo_init 124 = .ok (.newarray .int, 2) := by decide +kernel
theorem d_Mo_init_126 : decode c_Mo_init 126 = .ok (.putfield 53, 3) := by decide +kernel
theorem d_Mo_init_129 : decode c_Mo_init 129 = .ok (.aload_n 0, 1) := by decide +kernel
theorem d_Mo_init_130 : decode c_Mo_init 130 = .ok (.sipush 1800, 3) := by decide +kernel
theorem d_Mo_init_133 : decode c_Mo_init 133 = .ok (.newarray .int, 2) := by decide +kernel
theorem d_Mo_init_135 : decode c_Mo_init 135 = .ok (.putfield 56, 3) := by decide +kernel
theorem d_Mo_init_138 : decode c_Mo_init 138 = .ok (.aload_n 0, 1) := by decide +kernel
theorem d_Mo_init_139 : decode c_Mo_init 139 = .ok (.sipush 1800, 3) := by decide +kernel
theorem d_Mo_init_142 : decode c_Mo_init 142 = .ok (.newarray .int, 2) := by decide +kernel
theorem d_Mo_init_144 : decode c_Mo_init 144 = .ok (.putfield 59, 3) := by decide +kernel
theorem d_Mo_init_147 : decode c_Mo_init 147 = .ok (.aload_n 0, 1) := by decide +kernel
theorem d_Mo_init_148 : decode c_Mo_init 148 = .ok (.bipush 27, 2) := by decide +kernel
theorem d_Mo_init_150 : decode c_Mo_init 150 = .ok (.newarray .boolean, 2) := by decide +kernel
theorem d_Mo_init_152 : decode c_Mo_init 152 = .ok (.putfield 62, 3) := by decide +kernel
theorem d_Mo_init_155 : decode c_Mo_init 155 = .ok (.aload_n 0, 1) := by decide +kernel
theorem d_Mo_init_156 : decode c_Mo_init 156 = .ok (.iconst 1, 1) := by decide +kernel
theorem d_Mo_init_157 : decode c_Mo_init 157 = .ok (.putfield 66, 3) := by decide +kernel
theorem d_Mo_init_160 : decode c_Mo_init 160 = .ok (.aload_n 0, 1) := by decide +kernel
theorem d_Mo_init_161 : decode c_Mo_init 161 = .ok (.sipush 6480, 3) := by decide +kernel
theorem d_Mo_init_164 : decode c_Mo_init 164 = .ok (.newarray .int, 2) := by decide +kernel
theorem d_Mo_init_166 : decode c_Mo_init 166 = .ok (.putfield 70, 3) := by decide +kernel
theorem d_Mo_init_169 : decode c_Mo_init 169 = .ok (.aload_n 0, 1) := by decide +kernel
theorem d_Mo_init_170 : decode c_Mo_init 170 = .ok (.sipush 6480, 3) := by decide +kernel
theorem d_Mo_init_173 : decode c_Mo_init 173 = .ok (.newarray .int, 2) := by decide +kernel
theorem d_Mo_init_175 : decode c_Mo_init 175 = .ok (.putfield 73, 3) := by decide +kernel
theorem d_Mo_init_178 : decode c_Mo_init 178 = .ok (.aload_n 0, 1) := by decide +kernel
theorem d_Mo_init_179 : decode c_Mo_init 179 = .ok (.sipush 6480, 3) := by decide +kernel
theorem d_Mo_init_182 : decode c_Mo_init 182 = .ok (.newarray .int, 2) := by decide +kernel
theorem d_Mo_init_184 : decode c_Mo_init 184 = .ok (.putfield 76, 3) := by decide +kernel
theorem d_Mo_init_187 : decode c_Mo_init 187 = .ok (.aload_n 0, 1) := by decide +kernel
theorem d_Mo_init_188 : decode c_Mo_init 188 = .ok (.bipush 50, 2) := by decide +kernel
theorem d_Mo_init_190 : decode c_Mo_init 190 = .ok (.newarray .int, 2) := by decide +kernel
theorem d_Mo_init_192 : decode c_Mo_init 192 = .ok (.putfield 79, 3) := by decide +kernel
theorem d_Mo_init_195 : decode c_Mo_init 195 = .ok (.aload_n 0, 1) := by decide +kernel
theorem d_Mo_init_196 : decode c_Mo_init 196 = .ok (.bipush 50, 2) := by decide +kernel
theorem d_Mo_init_198 : decode c_Mo_init 198 = .ok (.newarray .int, 2) := by decide +kernel
theorem d_Mo_init_200 : decode c_Mo_init 200 = .ok (.putfield 82, 3) := by decide +kernel
theorem d_Mo_init_203 : decode c_Mo_init 203 = .ok (.aload_n 0, 1) := by decide +kernel
theorem d_Mo_init_204 : decode c_Mo_init 204 = .ok (.bipush 100, 2) := by decide +kernel
theorem d_Mo_init_206 : decode c_Mo_init 206 = .ok (.newarray .int, 2) := by decide +kernel
theorem d_Mo_init_208 : decode c_Mo_init 208 = .ok (.putfield 85, 3) := by decide +kernel
theorem d_Mo_init_211 : decode c_Mo_init 211 = .ok (.aload_n 0, 1) := by decide +kernel
theorem d_Mo_init_212 : decode c_Mo_init 212 = .ok (.bipush 90, 2) := by decide +kernel
theorem d_Mo_init_214 : decode c_Mo_init 214 = .ok (.newarray .long, 2) := by decide +kernel
theorem d_Mo_init_216 : decode c_Mo_init 216 = .ok (.putfield 88, 3) := by decide +kernel
theorem d_Mo_init_219 : decode c_Mo_init 219 = .ok (.return_, 1) := by decide +kernel
abbrev c_Mo_thrown : ByteArray := prog_14_method_2_code
abbrev r_Mo_thrown : Option FieldType := (some FieldType.int)
def y_Mo_thrown : MethodName := ⟨"PinKindChecksModel", "thrown", "()I"⟩
theorem d_Mo_thrown_0 : decode c_Mo_thrown 0 = .ok (.aload_n 0, 1) := by decide +kernel
theorem d_Mo_thrown_1 : decode c_Mo_thrown 1 = .ok (.getfield 91, 3) := by decide +kernel
theorem d_Mo_thrown_4 : decode c_Mo_thrown 4 = .ok (.ireturn, 1) := by decide +kernel
abbrev c_Mo_table : ByteArray := prog_14_method_7_code
abbrev r_Mo_table : Option FieldType := (some FieldType.boolean)
def y_Mo_table : MethodName := ⟨"PinKindChecksModel", "table", "(III)Z"⟩
theorem d_Mo_table_0 : decode c_Mo_table 0 = .ok (.aload_n 0, 1) := by decide +kernel
theorem d_Mo_table_1 : decode c_Mo_table 1 = .ok (.iload_n 1, 1) := by decide +kernel
theorem d_Mo_table_2 : decode c_Mo_table 2 = .ok (.invokestatic 100, 3) := by decide +kernel
theorem d_Mo_table_5 : decode c_Mo_table 5 = .ok (.ifCond .eq 10, 3) := by decide +kernel
theorem d_Mo_table_8 : decode c_Mo_table 8 = .ok (.iload_n 2, 1) := by decide +kernel
theorem d_Mo_table_9 : decode c_Mo_table 9 = .ok (.invokestatic 100, 3) := by decide +kernel
theorem d_Mo_table_12 : decode c_Mo_table 12 = .ok (.ifCond .ne 7, 3) := by decide +kernel
theorem d_Mo_table_15 : decode c_Mo_table 15 = .ok (.iconst 1, 1) := by decide +kernel
theorem d_Mo_table_16 : decode c_Mo_table 16 = .ok (.goto 17, 3) := by decide +kernel
theorem d_Mo_table_19 : decode c_Mo_table 19 = .ok (.iload_n 3, 1) := by decide +kernel
theorem d_Mo_table_20 : decode c_Mo_table 20 = .ok (.ifCond .lt 8, 3) := by decide +kernel
theorem d_Mo_table_23 : decode c_Mo_table 23 = .ok (.iload_n 3, 1) := by decide +kernel
theorem d_Mo_table_24 : decode c_Mo_table 24 = .ok (.iconst 2, 1) := by decide +kernel
theorem d_Mo_table_25 : decode c_Mo_table 25 = .ok (.if_icmp .le 7, 3) := by decide +kernel
theorem d_Mo_table_28 : decode c_Mo_table 28 = .ok (.iconst 2, 1) := by decide +kernel
theorem d_Mo_table_29 : decode c_Mo_table 29 = .ok (.goto 4, 3) := by decide +kernel
theorem d_Mo_table_32 : decode c_Mo_table 32 = .ok (.iconst 0, 1) := by decide +kernel
theorem d_Mo_table_33 : decode c_Mo_table 33 = .ok (.putfield 91, 3) := by decide +kernel
theorem d_Mo_table_36 : decode c_Mo_table 36 = .ok (.aload_n 0, 1) := by decide +kernel
theorem d_Mo_table_37 : decode c_Mo_table 37 = .ok (.getfield 91, 3) := by decide +kernel
theorem d_Mo_table_40 : decode c_Mo_table 40 = .ok (.ifCond .eq 5, 3) := by decide +kernel
theorem d_Mo_table_43 : decode c_Mo_table 43 = .ok (.iconst 0, 1) := by decide +kernel
theorem d_Mo_table_44 : decode c_Mo_table 44 = .ok (.ireturn, 1) := by decide +kernel
theorem d_Mo_table_45 : decode c_Mo_table 45 = .ok (.aload_n 0, 1) := by decide +kernel
theorem d_Mo_table_46 : decode c_Mo_table 46 = .ok (.getfield 7, 3) := by decide +kernel
theorem d_Mo_table_49 : decode c_Mo_table 49 = .ok (.bipush 10, 2) := by decide +kernel
theorem d_Mo_table_51 : decode c_Mo_table 51 = .ok (.iload_n 1, 1) := by decide +kernel
theorem d_Mo_table_52 : decode c_Mo_table 52 = .ok (.imul, 1) := by decide +kernel
theorem d_Mo_table_53 : decode c_Mo_table 53 = .ok (.iload_n 2, 1) := by decide +kernel
theorem d_Mo_table_54 : decode c_Mo_table 54 = .ok (.iadd, 1) := by decide +kernel
theorem d_Mo_table_55 : decode c_Mo_table 55 = .ok (.iaload, 1) := by decide +kernel
theorem d_Mo_table_56 : decode c_Mo_table 56 = .ok (.iload_n 3, 1) := by decide +kernel
theorem d_Mo_table_57 : decode c_Mo_table 57 = .ok (.if_icmp .eq 7, 3) := by decide +kernel
theorem d_Mo_table_60 : decode c_Mo_table 60 = .ok (.iconst 1, 1) := by decide +kernel
theorem d_Mo_table_61 : decode c_Mo_table 61 = .ok (.goto 4, 3) := by decide +kernel
theorem d_Mo_table_64 : decode c_Mo_table 64 = .ok (.iconst 0, 1) := by decide +kernel
theorem d_Mo_table_65 : decode c_Mo_table 65 = .ok (.istore 4, 2) := by decide +kernel
theorem d_Mo_table_67 : decode c_Mo_table 67 = .ok (.aload_n 0, 1) := by decide +kernel
theorem d_Mo_table_68 : decode c_Mo_table 68 = .ok (.getfield 7, 3) := by decide +kernel
theorem d_Mo_table_71 : decode c_Mo_table 71 = .ok (.bipush 10, 2) := by decide +kernel
theorem d_Mo_table_73 : decode c_Mo_table 73 = .ok (.iload_n 1, 1) := by decide +kernel
theorem d_Mo_table_74 : decode c_Mo_table 74 = .ok (.imul, 1) := by decide +kernel
theorem d_Mo_table_75 : decode c_Mo_table 75 = .ok (.iload_n 2, 1) := by decide +kernel
theorem d_Mo_table_76 : decode c_Mo_table 76 = .ok (.iadd, 1) := by decide +kernel
theorem d_Mo_table_77 : decode c_Mo_table 77 = .ok (.iload_n 3, 1) := by decide +kernel
theorem d_Mo_table_78 : decode c_Mo_table 78 = .ok (.iastore, 1) := by decide +kernel
theorem d_Mo_table_79 : decode c_Mo_table 79 = .ok (.aload_n 0, 1) := by decide +kernel
theorem d_Mo_table_80 : decode c_Mo_table 80 = .ok (.getfield 7, 3) := by decide +kernel
theorem d_Mo_table_83 : decode c_Mo_table 83 = .ok (.bipush 10, 2) := by decide +kernel
theorem d_Mo_table_85 : decode c_Mo_table 85 = .ok (.iload_n 2, 1) := by decide +kernel
theorem d_Mo_table_86 : decode c_Mo_table 86 = .ok (.imul, 1) := by decide +kernel
theorem d_Mo_table_87 : decode c_Mo_table 87 = .ok (.iload_n 1, 1) := by decide +kernel
theorem d_Mo_table_88 : decode c_Mo_table 88 = .ok (.iadd, 1) := by decide +kernel
theorem d_Mo_table_89 : decode c_Mo_table 89 = .ok (.iload_n 3, 1) := by decide +kernel
theorem d_Mo_table_90 : decode c_Mo_table 90 = .ok (.iastore, 1) := by decide +kernel
theorem d_Mo_table_91 : decode c_Mo_table 91 = .ok (.iload 4, 2) := by decide +kernel
theorem d_Mo_table_93 : decode c_Mo_table 93 = .ok (.ireturn, 1) := by decide +kernel
abbrev c_Mo_isKind : ByteArray := prog_14_method_3_code
abbrev r_Mo_isKind : Option FieldType := (some FieldType.boolean)
def y_Mo_isKind : MethodName := ⟨"PinKindChecksModel", "isKind", "(I)Z"⟩
theorem d_Mo_isKind_0 : decode c_Mo_isKind 0 = .ok (.iload_n 0, 1) := by decide +kernel
theorem d_Mo_isKind_1 : decode c_Mo_isKind 1 = .ok (.ifCond .lt 13, 3) := by decide +kernel
theorem d_Mo_isKind_4 : decode c_Mo_isKind 4 = .ok (.iload_n 0, 1) := by decide +kernel
theorem d_Mo_isKind_5 : decode c_Mo_isKind 5 = .ok (.bipush 10, 2) := by decide +kernel
theorem d_Mo_isKind_7 : decode c_Mo_isKind 7 = .ok (.if_icmp .ge 7, 3) := by decide +kernel
theorem d_Mo_isKind_10 : decode c_Mo_isKind 10 = .ok (.iconst 1, 1) := by decide +kernel
theorem d_Mo_isKind_11 : decode c_Mo_isKind 11 = .ok (.goto 4, 3) := by decide +kernel
theorem d_Mo_isKind_14 : decode c_Mo_isKind 14 = .ok (.iconst 0, 1) := by decide +kernel
theorem d_Mo_isKind_15 : decode c_Mo_isKind 15 = .ok (.ireturn, 1) := by decide +kernel
abbrev c_Mo_part : ByteArray := prog_14_method_8_code
abbrev r_Mo_part : Option FieldType := (some FieldType.int)
def y_Mo_part : MethodName := ⟨"PinKindChecksModel", "part", "(I)I"⟩
theorem d_Mo_part_0 : decode c_Mo_part 0 = .ok (.aload_n 0, 1) := by decide +kernel
theorem d_Mo_part_1 : decode c_Mo_part 1 = .ok (.iload_n 1, 1) := by decide +kernel
theorem d_Mo_part_2 : decode c_Mo_part 2 = .ok (.invokestatic 104, 3) := by decide +kernel
theorem d_Mo_part_5 : decode c_Mo_part 5 = .ok (.ifCond .eq 7, 3) := by decide +kernel
theorem d_Mo_part_8 : decode c_Mo_part 8 = .ok (.iconst 0, 1) := by decide +kernel
theorem d_Mo_part_9 : decode c_Mo_part 9 = .ok (.goto 4, 3) := by decide +kernel
theorem d_Mo_part_12 : decode c_Mo_part 12 = .ok (.iconst 1, 1) := by decide +kernel
theorem d_Mo_part_13 : decode c_Mo_part 13 = .ok (.putfield 91, 3) := by decide +kernel
theorem d_Mo_part_16 : decode c_Mo_part 16 = .ok (.aload_n 0, 1) := by decide +kernel
theorem d_Mo_part_17 : decode c_Mo_part 17 = .ok (.getfield 91, 3) := by decide +kernel
theorem d_Mo_part_20 : decode c_Mo_part 20 = .ok (.ifCond .eq 5, 3) := by decide +kernel
theorem d_Mo_part_23 : decode c_Mo_part 23 = .ok (.iconst 0, 1) := by decide +kernel
theorem d_Mo_part_24 : decode c_Mo_part 24 = .ok (.ireturn, 1) := by decide +kernel
theorem d_Mo_part_25 : decode c_Mo_part 25 = .ok (.aload_n 0, 1) := by decide +kernel
theorem d_Mo_part_26 : decode c_Mo_part 26 = .ok (.getfield 97, 3) := by decide +kernel
theorem d_Mo_part_29 : decode c_Mo_part 29 = .ok (.bipush 40, 2) := by decide +kernel
theorem d_Mo_part_31 : decode c_Mo_part 31 = .ok (.if_icmp .ne 5, 3) := by decide +kernel
theorem d_Mo_part_34 : decode c_Mo_part 34 = .ok (.iconst (-1), 1) := by decide +kernel
theorem d_Mo_part_35 : decode c_Mo_part 35 = .ok (.ireturn, 1) := by decide +kernel
theorem d_Mo_part_36 : decode c_Mo_part 36 = .ok (.aload_n 0, 1) := by decide +kernel
theorem d_Mo_part_37 : decode c_Mo_part 37 = .ok (.getfield 13, 3) := by decide +kernel
theorem d_Mo_part_40 : decode c_Mo_part 40 = .ok (.aload_n 0, 1) := by decide +kernel
theorem d_Mo_part_41 : decode c_Mo_part 41 = .ok (.getfield 97, 3) := by decide +kernel
theorem d_Mo_part_44 : decode c_Mo_part 44 = .ok (.iload_n 1, 1) := by decide +kernel
theorem d_Mo_part_45 : decode c_Mo_part 45 = .ok (.iastore, 1) := by decide +kernel
theorem d_Mo_part_46 : decode c_Mo_part 46 = .ok (.iconst 0, 1) := by decide +kernel
theorem d_Mo_part_47 : decode c_Mo_part 47 = .ok (.istore_n 2, 1) := by decide +kernel
theorem d_Mo_part_48 : decode c_Mo_part 48 = .ok (.iload_n 2, 1) := by decide +kernel
theorem d_Mo_part_49 : decode c_Mo_part 49 = .ok (.bipush 8, 2) := by decide +kernel
theorem d_Mo_part_51 : decode c_Mo_part 51 = .ok (.if_icmp .ge 24, 3) := by decide +kernel
theorem d_Mo_part_54 : decode c_Mo_part 54 = .ok (.aload_n 0, 1) := by decide +kernel
theorem d_Mo_part_55 : decode c_Mo_part 55 = .ok (.getfield 16, 3) := by decide +kernel
theorem d_Mo_part_58 : decode c_Mo_part 58 = .ok (.bipush 8, 2) := by decide +kernel
theorem d_Mo_part_60 : decode c_Mo_part 60 = .ok (.aload_n 0, 1) := by decide +kernel
theorem d_Mo_part_61 : decode c_Mo_part 61 = .ok (.getfield 97, 3) := by decide +kernel
theorem d_Mo_part_64 : decode c_Mo_part 64 = .ok (.imul, 1) := by decide +kernel
theorem d_Mo_part_65 : decode c_Mo_part 65 = .ok (.iload_n 2, 1) := by decide +kernel
theorem d_Mo_part_66 : decode c_Mo_part 66 = .ok (.iadd, 1) := by decide +kernel
theorem d_Mo_part_67 : decode c_Mo_part 67 = .ok (.lconst 0, 1) := by decide +kernel
theorem d_Mo_part_68 : decode c_Mo_part 68 = .ok (.lastore, 1) := by decide +kernel
theorem d_Mo_part_69 : decode c_Mo_part 69 = .ok (.iinc 2 1, 3) := by decide +kernel
theorem d_Mo_part_72 : decode c_Mo_part 72 = .ok (.goto (-24), 3) := by decide +kernel
theorem d_Mo_part_75 : decode c_Mo_part 75 = .ok (.aload_n 0, 1) := by decide +kernel
theorem d_Mo_part_76 : decode c_Mo_part 76 = .ok (.dup, 1) := by decide +kernel
theorem d_Mo_part_77 : decode c_Mo_part 77 = .ok (.getfield 97, 3) := by decide +kernel
theorem d_Mo_part_80 : decode c_Mo_part 80 = .ok (.iconst 1, 1) := by decide +kernel
theorem d_Mo_part_81 : decode c_Mo_part 81 = .ok (.iadd, 1) := by decide +kernel
theorem d_Mo_part_82 : decode c_Mo_part 82 = .ok (.putfield 97, 3) := by decide +kernel
theorem d_Mo_part_85 : decode c_Mo_part 85 = .ok (.aload_n 0, 1) := by decide +kernel
theorem d_Mo_part_86 : decode c_Mo_part 86 = .ok (.getfield 97, 3) := by decide +kernel
theorem d_Mo_part_89 : decode c_Mo_part 89 = .ok (.iconst 1, 1) := by decide +kernel
theorem d_Mo_part_90 : decode c_Mo_part 90 = .ok (.isub, 1) := by decide +kernel
theorem d_Mo_part_91 : decode c_Mo_part 91 = .ok (.ireturn, 1) := by decide +kernel
abbrev c_Mo_isSheet : ByteArray := prog_14_method_4_code
abbrev r_Mo_isSheet : Option FieldType := (some FieldType.boolean)
def y_Mo_isSheet : MethodName := ⟨"PinKindChecksModel", "isSheet", "(I)Z"⟩
theorem d_Mo_isSheet_0 : decode c_Mo_isSheet 0 = .ok (.iload_n 0, 1) := by decide +kernel
theorem d_Mo_isSheet_1 : decode c_Mo_isSheet 1 = .ok (.ifCond .lt 13, 3) := by decide +kernel
theorem d_Mo_isSheet_4 : decode c_Mo_isSheet 4 = .ok (.iload_n 0, 1) := by decide +kernel
theorem d_Mo_isSheet_5 : decode c_Mo_isSheet 5 = .ok (.bipush 16, 2) := by decide +kernel
theorem d_Mo_isSheet_7 : decode c_Mo_isSheet 7 = .ok (.if_icmp .ge 7, 3) := by decide +kernel
theorem d_Mo_isSheet_10 : decode c_Mo_isSheet 10 = .ok (.iconst 1, 1) := by decide +kernel
theorem d_Mo_isSheet_11 : decode c_Mo_isSheet 11 = .ok (.goto 4, 3) := by decide +kernel
theorem d_Mo_isSheet_14 : decode c_Mo_isSheet 14 = .ok (.iconst 0, 1) := by decide +kernel
theorem d_Mo_isSheet_15 : decode c_Mo_isSheet 15 = .ok (.ireturn, 1) := by decide +kernel
abbrev c_Mo_net : ByteArray := prog_14_method_9_code
abbrev r_Mo_net : Option FieldType := (some FieldType.int)
def y_Mo_net : MethodName := ⟨"PinKindChecksModel", "net", "(II)I"⟩
theorem d_Mo_net_0 : decode c_Mo_net 0 = .ok (.aload_n 0, 1) := by decide +kernel
theorem d_Mo_net_1 : decode c_Mo_net 1 = .ok (.iload_n 1, 1) := by decide +kernel
theorem d_Mo_net_2 : decode c_Mo_net 2 = .ok (.invokestatic 104, 3) := by decide +kernel
theorem d_Mo_net_5 : decode c_Mo_net 5 = .ok (.ifCond .ne 7, 3) := by decide +kernel
theorem d_Mo_net_8 : decode c_Mo_net 8 = .ok (.iconst 1, 1) := by decide +kernel
theorem d_Mo_net_9 : decode c_Mo_net 9 = .ok (.goto 19, 3) := by decide +kernel
theorem d_Mo_net_12 : decode c_Mo_net 12 = .ok (.iload_n 2, 1) := by decide +kernel
theorem d_Mo_net_13 : decode c_Mo_net 13 = .ok (.ifCond .lt 10, 3) := by decide +kernel
theorem d_Mo_net_16 : decode c_Mo_net 16 = .ok (.iload_n 2, 1) := by decide +kernel
theorem d_Mo_net_17 : decode c_Mo_net 17 = .ok (.sipush 999, 3) := by decide +kernel
theorem d_Mo_net_20 : decode c_Mo_net 20 = .ok (.if_icmp .le 7, 3) := by decide +kernel
theorem d_Mo_net_23 : decode c_Mo_net 23 = .ok (.iconst 2, 1) := by decide +kernel
theorem d_Mo_net_24 : decode c_Mo_net 24 = .ok (.goto 4, 3) := by decide +kernel
theorem d_Mo_net_27 : decode c_Mo_net 27 = .ok (.iconst 0, 1) := by decide +kernel
theorem d_Mo_net_28 : decode c_Mo_net 28 = .ok (.putfield 91, 3) := by decide +kernel
theorem d_Mo_net_31 : decode c_Mo_net 31 = .ok (.aload_n 0, 1) := by decide +kernel
theorem d_Mo_net_32 : decode c_Mo_net 32 = .ok (.getfield 91, 3) := by decide +kernel
theorem d_Mo_net_35 : decode c_Mo_net 35 = .ok (.ifCond .eq 5, 3) := by decide +kernel
theorem d_Mo_net_38 : decode c_Mo_net 38 = .ok (.iconst 0, 1) := by decide +kernel
theorem d_Mo_net_39 : decode c_Mo_net 39 = .ok (.ireturn, 1) := by decide +kernel
theorem d_Mo_net_40 : decode c_Mo_net 40 = .ok (.aload_n 0, 1) := by decide +kernel
theorem d_Mo_net_41 : decode c_Mo_net 41 = .ok (.getfield 94, 3) := by decide +kernel
theorem d_Mo_net_44 : decode c_Mo_net 44 = .ok (.bipush 40, 2) := by decide +kernel
theorem d_Mo_net_46 : decode c_Mo_net 46 = .ok (.if_icmp .ne 5, 3) := by decide +kernel
theorem d_Mo_net_49 : decode c_Mo_net 49 = .ok (.iconst (-1), 1) := by decide +kernel
theorem d_Mo_net_50 : decode c_Mo_net 50 = .ok (.ireturn, 1) := by decide +kernel
theorem d_Mo_net_51 : decode c_Mo_net 51 = .ok (.aload_n 0, 1) := by decide +kernel
theorem d_Mo_net_52 : decode c_Mo_net 52 = .ok (.getfield 20, 3) := by decide +kernel
theorem d_Mo_net_55 : decode c_Mo_net 55 = .ok (.aload_n 0, 1) := by decide +kernel
theorem d_Mo_net_56 : decode c_Mo_net 56 = .ok (.getfield 94, 3) := by decide +kernel
theorem d_Mo_net_59 : decode c_Mo_net 59 = .ok (.iload_n 1, 1) := by decide +kernel
theorem d_Mo_net_60 : decode c_Mo_net 60 = .ok (.iastore, 1) := by decide +kernel
theorem d_Mo_net_61 : decode c_Mo_net 61 = .ok (.aload_n 0, 1) := by decide +kernel
theorem d_Mo_net_62 : decode c_Mo_net 62 = .ok (.getfield 23, 3) := by decide +kernel
theorem d_Mo_net_65 : decode c_Mo_net 65 = .ok (.aload_n 0, 1) := by decide +kernel
theorem d_Mo_net_66 : decode c_Mo_net 66 = .ok (.getfield 94, 3) := by decide +kernel
theorem d_Mo_net_69 : decode c_Mo_net 69 = .ok (.iload_n 2, 1) := by decide +kernel
theorem d_Mo_net_70 : decode c_Mo_net 70 = .ok (.iastore, 1) := by decide +kernel
theorem d_Mo_net_71 : decode c_Mo_net 71 = .ok (.aload_n 0, 1) := by decide +kernel
theorem d_Mo_net_72 : decode c_Mo_net 72 = .ok (.dup, 1) := by decide +kernel
theorem d_Mo_net_73 : decode c_Mo_net 73 = .ok (.getfield 94, 3) := by decide +kernel
theorem d_Mo_net_76 : decode c_Mo_net 76 = .ok (.iconst 1, 1) := by decide +kernel
theorem d_Mo_net_77 : decode c_Mo_net 77 = .ok (.iadd, 1) := by decide +kernel
theorem d_Mo_net_78 : decode c_Mo_net 78 = .ok (.putfield 94, 3) := by decide +kernel
theorem d_Mo_net_81 : decode c_Mo_net 81 = .ok (.aload_n 0, 1) := by decide +kernel
theorem d_Mo_net_82 : decode c_Mo_net 82 = .ok (.getfield 94, 3) := by decide +kernel
theorem d_Mo_net_85 : decode c_Mo_net 85 = .ok (.iconst 1, 1) := by decide +kernel
theorem d_Mo_net_86 : decode c_Mo_net 86 = .ok (.isub, 1) := by decide +kernel
theorem d_Mo_net_87 : decode c_Mo_net 87 = .ok (.ireturn, 1) := by decide +kernel
abbrev c_Mo_pin : ByteArray := prog_14_method_10_code
abbrev r_Mo_pin : Option FieldType := (some FieldType.int)
def y_Mo_pin : MethodName := ⟨"PinKindChecksModel", "pin", "(III)I"⟩
theorem d_Mo_pin_0 : decode c_Mo_pin 0 = .ok (.aload_n 0, 1) := by decide +kernel
theorem d_Mo_pin_1 : decode c_Mo_pin 1 = .ok (.iload_n 1, 1) := by decide +kernel
theorem d_Mo_pin_2 : decode c_Mo_pin 2 = .ok (.invokevirtual 107, 3) := by decide +kernel
theorem d_Mo_pin_5 : decode c_Mo_pin 5 = .ok (.ifCond .eq 20, 3) := by decide +kernel
theorem d_Mo_pin_8 : decode c_Mo_pin 8 = .ok (.iload_n 2, 1) := by decide +kernel
theorem d_Mo_pin_9 : decode c_Mo_pin 9 = .ok (.iconst (-1), 1) := by decide +kernel
theorem d_Mo_pin_10 : decode c_Mo_pin 10 = .ok (.if_icmp .eq 11, 3) := by decide +kernel
theorem d_Mo_pin_13 : decode c_Mo_pin 13 = .ok (.aload_n 0, 1) := by decide +kernel
theorem d_Mo_pin_14 : decode c_Mo_pin 14 = .ok (.iload_n 2, 1) := by decide +kernel
theorem d_Mo_pin_15 : decode c_Mo_pin 15 = .ok (.invokevirtual 110, 3) := by decide +kernel
theorem d_Mo_pin_18 : decode c_Mo_pin 18 = .ok (.ifCond .eq 7, 3) := by decide +kernel
theorem d_Mo_pin_21 : decode c_Mo_pin 21 = .ok (.iconst 1, 1) := by decide +kernel
theorem d_Mo_pin_22 : decode c_Mo_pin 22 = .ok (.goto 4, 3) := by decide +kernel
theorem d_Mo_pin_25 : decode c_Mo_pin 25 = .ok (.iconst 0, 1) := by decide +kernel
theorem d_Mo_pin_26 : decode c_Mo_pin 26 = .ok (.istore 4, 2) := by decide +kernel
theorem d_Mo_pin_28 : decode c_Mo_pin 28 = .ok (.aload_n 0, 1) := by decide +kernel
theorem d_Mo_pin_29 : decode c_Mo_pin 29 = .ok (.iload 4, 2) := by decide +kernel
theorem d_Mo_pin_31 : decode c_Mo_pin 31 = .ok (.ifCond .ne 7, 3) := by decide +kernel
theorem d_Mo_pin_34 : decode c_Mo_pin 34 = .ok (.iconst 1, 1) := by decide +kernel
theorem d_Mo_pin_35 : decode c_Mo_pin 35 = .ok (.goto 15, 3) := by decide +kernel
theorem d_Mo_pin_38 : decode c_Mo_pin 38 = .ok (.iload_n 3, 1) := by decide +kernel
theorem d_Mo_pin_39 : decode c_Mo_pin 39 = .ok (.invokestatic 100, 3) := by decide +kernel
theorem d_Mo_pin_42 : decode c_Mo_pin 42 = .ok (.ifCond .eq 7, 3) := by decide +kernel
theorem d_Mo_pin_45 : decode c_Mo_pin 45 = .ok (.iconst 0, 1) := by decide +kernel
theorem d_Mo_pin_46 : decode c_Mo_pin 46 = .ok (.goto 4, 3) := by decide +kernel
theorem d_Mo_pin_49 : decode c_Mo_pin 49 = .ok (.iconst 2, 1) := by decide +kernel
theorem d_Mo_pin_50 : decode c_Mo_pin 50 = .ok (.putfield 91, 3) := by decide +kernel
theorem d_Mo_pin_53 : decode c_Mo_pin 53 = .ok (.aload_n 0, 1) := by decide +kernel
theorem d_Mo_pin_54 : decode c_Mo_pin 54 = .ok (.getfield 91, 3) := by decide +kernel
theorem d_Mo_pin_57 : decode c_Mo_pin 57 = .ok (.ifCond .eq 5, 3) := by decide +kernel
theorem d_Mo_pin_60 : decode c_Mo_pin 60 = .ok (.iconst 0, 1) := by decide +kernel
theorem d_Mo_pin_61 : decode c_Mo_pin 61 = .ok (.ireturn, 1) := by decide +kernel
theorem d_Mo_pin_62 : decode c_Mo_pin 62 = .ok (.aload_n 0, 1) := by decide +kernel
theorem d_Mo_pin_63 : decode c_Mo_pin 63 = .ok (.getfield 113, 3) := by decide +kernel
theorem d_Mo_pin_66 : decode c_Mo_pin 66 = .ok (.sipush 160, 3) := by decide +kernel
theorem d_Mo_pin_69 : decode c_Mo_pin 69 = .ok (.if_icmp .ne 5, 3) := by decide +kernel
theorem d_Mo_pin_72 : decode c_Mo_pin 72 = .ok (.iconst (-1), 1) := by decide +kernel
theorem d_Mo_pin_73 : decode c_Mo_pin 73 = .ok (.ireturn, 1) := by decide +kernel
theorem d_Mo_pin_74 : decode c_Mo_pin 74 = .ok (.aload_n 0, 1) := by decide +kernel
theorem d_Mo_pin_75 : decode c_Mo_pin 75 = .ok (.getfield 26, 3) := by decide +kernel
theorem d_Mo_pin_78 : decode c_Mo_pin 78 = .ok (.aload_n 0, 1) := by decide +kernel
theorem d_Mo_pin_79 : decode c_Mo_pin 79 = .ok (.getfield 113, 3) := by decide +kernel
theorem d_Mo_pin_82 : decode c_Mo_pin 82 = .ok (.iload_n 1, 1) := by decide +kernel
theorem d_Mo_pin_83 : decode c_Mo_pin 83 = .ok (.iastore, 1) := by decide +kernel
theorem d_Mo_pin_84 : decode c_Mo_pin 84 = .ok (.aload_n 0, 1) := by decide +kernel
theorem d_Mo_pin_85 : decode c_Mo_pin 85 = .ok (.getfield 29, 3) := by decide +kernel
theorem d_Mo_pin_88 : decode c_Mo_pin 88 = .ok (.aload_n 0, 1) := by decide +kernel
theorem d_Mo_pin_89 : decode c_Mo_pin 89 = .ok (.getfield 113, 3) := by decide +kernel
theorem d_Mo_pin_92 : decode c_Mo_pin 92 = .ok (.iload_n 2, 1) := by decide +kernel
theorem d_Mo_pin_93 : decode c_Mo_pin 93 = .ok (.iastore, 1) := by decide +kernel
theorem d_Mo_pin_94 : decode c_Mo_pin 94 = .ok (.aload_n 0, 1) := by decide +kernel
theorem d_Mo_pin_95 : decode c_Mo_pin 95 = .ok (.getfield 32, 3) := by decide +kernel
theorem d_Mo_pin_98 : decode c_Mo_pin 98 = .ok (.aload_n 0, 1) := by decide +kernel
theorem d_Mo_pin_99 : decode c_Mo_pin 99 = .ok (.getfield 113, 3) := by decide +kernel
theorem d_Mo_pin_102 : decode c_Mo_pin 102 = .ok (.iload_n 3, 1) := by decide +kernel
theorem d_Mo_pin_103 : decode c_Mo_pin 103 = .ok (.iastore, 1) := by decide +kernel
theorem d_Mo_pin_104 : decode c_Mo_pin 104 = .ok (.aload_n 0, 1) := by decide +kernel
theorem d_Mo_pin_105 : decode c_Mo_pin 105 = .ok (.dup, 1) := by decide +kernel
theorem d_Mo_pin_106 : decode c_Mo_pin 106 = .ok (.getfield 113, 3) := by decide +kernel
theorem d_Mo_pin_109 : decode c_Mo_pin 109 = .ok (.iconst 1, 1) := by decide +kernel
theorem d_Mo_pin_110 : decode c_Mo_pin 110 = .ok (.iadd, 1) := by decide +kernel
theorem d_Mo_pin_111 : decode c_Mo_pin 111 = .ok (.putfield 113, 3) := by decide +kernel
theorem d_Mo_pin_114 : decode c_Mo_pin 114 = .ok (.aload_n 0, 1) := by decide +kernel
theorem d_Mo_pin_115 : decode c_Mo_pin 115 = .ok (.getfield 113, 3) := by decide +kernel
theorem d_Mo_pin_118 : decode c_Mo_pin 118 = .ok (.iconst 1, 1) := by decide +kernel
theorem d_Mo_pin_119 : decode c_Mo_pin 119 = .ok (.isub, 1) := by decide +kernel
theorem d_Mo_pin_120 : decode c_Mo_pin 120 = .ok (.ireturn, 1) := by decide +kernel
abbrev c_Mo_isPart : ByteArray := prog_14_method_6_code
abbrev r_Mo_isPart : Option FieldType := (some FieldType.boolean)
def y_Mo_isPart : MethodName := ⟨"PinKindChecksModel", "isPart", "(I)Z"⟩
theorem d_Mo_isPart_0 : decode c_Mo_isPart 0 = .ok (.iload_n 1, 1) := by decide +kernel
theorem d_Mo_isPart_1 : decode c_Mo_isPart 1 = .ok (.ifCond .lt 15, 3) := by decide +kernel
theorem d_Mo_isPart_4 : decode c_Mo_isPart 4 = .ok (.iload_n 1, 1) := by decide +kernel
theorem d_Mo_isPart_5 : decode c_Mo_isPart 5 = .ok (.aload_n 0, 1) := by decide +kernel
theorem d_Mo_isPart_6 : decode c_Mo_isPart 6 = .ok (.getfield 97, 3) := by decide +kernel
theorem d_Mo_isPart_9 : decode c_Mo_isPart 9 = .ok (.if_icmp .ge 7, 3) := by decide +kernel
theorem d_Mo_isPart_12 : decode c_Mo_isPart 12 = .ok (.iconst 1, 1) := by decide +kernel
theorem d_Mo_isPart_13 : decode c_Mo_isPart 13 = .ok (.goto 4, 3) := by decide +kernel
theorem d_Mo_isPart_16 : decode c_Mo_isPart 16 = .ok (.iconst 0, 1) := by decide +kernel
theorem d_Mo_isPart_17 : decode c_Mo_isPart 17 = .ok (.ireturn, 1) := by decide +kernel
abbrev c_Mo_isNet : ByteArray := prog_14_method_5_code
abbrev r_Mo_isNet : Option FieldType := (some FieldType.boolean)
def y_Mo_isNet : MethodName := ⟨"PinKindChecksModel", "isNet", "(I)Z"⟩
theorem d_Mo_isNet_0 : decode c_Mo_isNet 0 = .ok (.iload_n 1, 1) := by decide +kernel
theorem d_Mo_isNet_1 : decode c_Mo_isNet 1 = .ok (.ifCond .lt 15, 3) := by decide +kernel
theorem d_Mo_isNet_4 : decode c_Mo_isNet 4 = .ok (.iload_n 1, 1) := by decide +kernel
theorem d_Mo_isNet_5 : decode c_Mo_isNet 5 = .ok (.aload_n 0, 1) := by decide +kernel
theorem d_Mo_isNet_6 : decode c_Mo_isNet 6 = .ok (.getfield 94, 3) := by decide +kernel
theorem d_Mo_isNet_9 : decode c_Mo_isNet 9 = .ok (.if_icmp .ge 7, 3) := by decide +kernel
theorem d_Mo_isNet_12 : decode c_Mo_isNet 12 = .ok (.iconst 1, 1) := by decide +kernel
theorem d_Mo_isNet_13 : decode c_Mo_isNet 13 = .ok (.goto 4, 3) := by decide +kernel
theorem d_Mo_isNet_16 : decode c_Mo_isNet 16 = .ok (.iconst 0, 1) := by decide +kernel
theorem d_Mo_isNet_17 : decode c_Mo_isNet 17 = .ok (.ireturn, 1) := by decide +kernel
abbrev c_Mo_join : ByteArray := prog_14_method_11_code
abbrev r_Mo_join : Option FieldType := (some FieldType.boolean)
def y_Mo_join : MethodName := ⟨"PinKindChecksModel", "join", "(II)Z"⟩
theorem d_Mo_join_0 : decode c_Mo_join 0 = .ok (.aload_n 0, 1) := by decide +kernel
theorem d_Mo_join_1 : decode c_Mo_join 1 = .ok (.iload_n 1, 1) := by decide +kernel
theorem d_Mo_join_2 : decode c_Mo_join 2 = .ok (.ifCond .lt 28, 3) := by decide +kernel
theorem d_Mo_join_5 : decode c_Mo_join 5 = .ok (.iload_n 1, 1) := by decide +kernel
theorem d_Mo_join_6 : decode c_Mo_join 6 = .ok (.aload_n 0, 1) := by decide +kernel
theorem d_Mo_join_7 : decode c_Mo_join 7 = .ok (.getfield 113, 3) := by decide +kernel
theorem d_Mo_join_10 : decode c_Mo_join 10 = .ok (.if_icmp .ge 20, 3) := by decide +kernel
theorem d_Mo_join_13 : decode c_Mo_join 13 = .ok (.iload_n 2, 1) := by decide +kernel
theorem d_Mo_join_14 : decode c_Mo_join 14 = .ok (.iconst (-1), 1) := by decide +kernel
theorem d_Mo_join_15 : decode c_Mo_join 15 = .ok (.if_icmp .eq 11, 3) := by decide +kernel
theorem d_Mo_join_18 : decode c_Mo_join 18 = .ok (.aload_n 0, 1) := by decide +kernel
theorem d_Mo_join_19 : decode c_Mo_join 19 = .ok (.iload_n 2, 1) := by decide +kernel
theorem d_Mo_join_20 : decode c_Mo_join 20 = .ok (.invokevirtual 110, 3) := by decide +kernel
theorem d_Mo_join_23 : decode c_Mo_join 23 = .ok (.ifCond .eq 7, 3) := by decide +kernel
theorem d_Mo_join_26 : decode c_Mo_join 26 = .ok (.iconst 0, 1) := by decide +kernel
theorem d_Mo_join_27 : decode c_Mo_join 27 = .ok (.goto 4, 3) := by decide +kernel
theorem d_Mo_join_30 : decode c_Mo_join 30 = .ok (.iconst 1, 1) := by decide +kernel
theorem d_Mo_join_31 : decode c_Mo_join 31 = .ok (.putfield 91, 3) := by decide +kernel
theorem d_Mo_join_34 : decode c_Mo_join 34 = .ok (.aload_n 0, 1) := by decide +kernel
theorem d_Mo_join_35 : decode c_Mo_join 35 = .ok (.getfield 91, 3) := by decide +kernel
theorem d_Mo_join_38 : decode c_Mo_join 38 = .ok (.ifCond .ne 13, 3) := by decide +kernel
theorem d_Mo_join_41 : decode c_Mo_join 41 = .ok (.aload_n 0, 1) := by decide +kernel
theorem d_Mo_join_42 : decode c_Mo_join 42 = .ok (.getfield 29, 3) := by decide +kernel
theorem d_Mo_join_45 : decode c_Mo_join 45 = .ok (.iload_n 1, 1) := by decide +kernel
theorem d_Mo_join_46 : decode c_Mo_join 46 = .ok (.iaload, 1) := by decide +kernel
theorem d_Mo_join_47 : decode c_Mo_join 47 = .ok (.iload_n 2, 1) := by decide +kernel
theorem d_Mo_join_48 : decode c_Mo_join 48 = .ok (.if_icmp .ne 5, 3) := by decide +kernel
theorem d_Mo_join_51 : decode c_Mo_join 51 = .ok (.iconst 0, 1) := by decide +kernel
theorem d_Mo_join_52 : decode c_Mo_join 52 = .ok (.ireturn, 1) := by decide +kernel
theorem d_Mo_join_53 : decode c_Mo_join 53 = .ok (.aload_n 0, 1) := by decide +kernel
theorem d_Mo_join_54 : decode c_Mo_join 54 = .ok (.getfield 29, 3) := by decide +kernel
theorem d_Mo_join_57 : decode c_Mo_join 57 = .ok (.iload_n 1, 1) := by decide +kernel
theorem d_Mo_join_58 : decode c_Mo_join 58 = .ok (.iload_n 2, 1) := by decide +kernel
theorem d_Mo_join_59 : decode c_Mo_join 59 = .ok (.iastore, 1) := by decide +kernel
theorem d_Mo_join_60 : decode c_Mo_join 60 = .ok (.iconst 1, 1) := by decide +kernel
theorem d_Mo_join_61 : decode c_Mo_join 61 = .ok (.ireturn, 1) := by decide +kernel
abbrev c_Mo_field : ByteArray := prog_14_method_12_code
abbrev r_Mo_field : Option FieldType := (some FieldType.boolean)
def y_Mo_field : MethodName := ⟨"PinKindChecksModel", "field", "(IIJ)Z"⟩
theorem d_Mo_field_0 : decode c_Mo_field 0 = .ok (.aload_n 0, 1) := by decide +kernel
theorem d_Mo_field_1 : decode c_Mo_field 1 = .ok (.aload_n 0, 1) := by decide +kernel
theorem d_Mo_field_2 : decode c_Mo_field 2 = .ok (.iload_n 1, 1) := by decide +kernel
theorem d_Mo_field_3 : decode c_Mo_field 3 = .ok (.invokevirtual 107, 3) := by decide +kernel
theorem d_Mo_field_6 : decode c_Mo_field 6 = .ok (.ifCond .eq 17, 3) := by decide +kernel
theorem d_Mo_field_9 : decode c_Mo_field 9 = .ok (.iload_n 2, 1) := by decide +kernel
theorem d_Mo_field_10 : decode c_Mo_field 10 = .ok (.ifCond .lt 13, 3) := by decide +kernel
theorem d_Mo_field_13 : decode c_Mo_field 13 = .ok (.iload_n 2, 1) := by decide +kernel
theorem d_Mo_field_14 : decode c_Mo_field 14 = .ok (.bipush 8, 2) := by decide +kernel
theorem d_Mo_field_16 : decode c_Mo_field 16 = .ok (.if_icmp .ge 7, 3) := by decide +kernel
theorem d_Mo_field_19 : decode c_Mo_field 19 = .ok (.iconst 0, 1) := by decide +kernel
theorem d_Mo_field_20 : decode c_Mo_field 20 = .ok (.goto 4, 3) := by decide +kernel
theorem d_Mo_field_23 : decode c_Mo_field 23 = .ok (.iconst 1, 1) := by decide +kernel
theorem d_Mo_field_24 : decode c_Mo_field 24 = .ok (.putfield 91, 3) := by decide +kernel
theorem d_Mo_field_27 : decode c_Mo_field 27 = .ok (.aload_n 0, 1) := by decide +kernel
theorem d_Mo_field_28 : decode c_Mo_field 28 = .ok (.getfield 91, 3) := by decide +kernel
theorem d_Mo_field_31 : decode c_Mo_field 31 = .ok (.ifCond .ne 19, 3) := by decide +kernel
theorem d_Mo_field_34 : decode c_Mo_field 34 = .ok (.aload_n 0, 1) := by decide +kernel
theorem d_Mo_field_35 : decode c_Mo_field 35 = .ok (.getfield 16, 3) := by decide +kernel
theorem d_Mo_field_38 : decode c_Mo_field 38 = .ok (.bipush 8, 2) := by decide +kernel
theorem d_Mo_field_40 : decode c_Mo_field 40 = .ok (.iload_n 1, 1) := by decide +kernel
theorem d_Mo_field_41 : decode c_Mo_field 41 = .ok (.imul, 1) := by decide +kernel
theorem d_Mo_field_42 : decode c_Mo_field 42 = .ok (.iload_n 2, 1) := by decide +kernel
theorem d_Mo_field_43 : decode c_Mo_field 43 = .ok (.iadd, 1) := by decide +kernel
theorem d_Mo_field_44 : decode c_Mo_field 44 = .ok (.laload, 1) := by decide +kernel
theorem d_Mo_field_45 : decode c_Mo_field 45 = .ok (.lload_n 3, 1) := by decide +kernel
theorem d_Mo_field_46 : decode c_Mo_field 46 = .ok (.lcmp, 1) := by decide +kernel
theorem d_Mo_field_47 : decode c_Mo_field 47 = .ok (.ifCond .ne 5, 3) := by decide +kernel
theorem d_Mo_field_50 : decode c_Mo_field 50 = .ok (.iconst 0, 1) := by decide +kernel
theorem d_Mo_field_51 : decode c_Mo_field 51 = .ok (.ireturn, 1) := by decide +kernel
theorem d_Mo_field_52 : decode c_Mo_field 52 = .ok (.aload_n 0, 1) := by decide +kernel
theorem d_Mo_field_53 : decode c_Mo_field 53 = .ok (.getfield 16, 3) := by decide +kernel
theorem d_Mo_field_56 : decode c_Mo_field 56 = .ok (.bipush 8, 2) := by decide +kernel
theorem d_Mo_field_58 : decode c_Mo_field 58 = .ok (.iload_n 1, 1) := by decide +kernel
theorem d_Mo_field_59 : decode c_Mo_field 59 = .ok (.imul, 1) := by decide +kernel
theorem d_Mo_field_60 : decode c_Mo_field 60 = .ok (.iload_n 2, 1) := by decide +kernel
theorem d_Mo_field_61 : decode c_Mo_field 61 = .ok (.iadd, 1) := by decide +kernel
theorem d_Mo_field_62 : decode c_Mo_field 62 = .ok (.lload_n 3, 1) := by decide +kernel
theorem d_Mo_field_63 : decode c_Mo_field 63 = .ok (.lastore, 1) := by decide +kernel
theorem d_Mo_field_64 : decode c_Mo_field 64 = .ok (.iconst 1, 1) := by decide +kernel
theorem d_Mo_field_65 : decode c_Mo_field 65 = .ok (.ireturn, 1) := by decide +kernel
abbrev c_Mo_end : ByteArray := prog_14_method_13_code
abbrev r_Mo_end : Option FieldType := (some FieldType.boolean)
def y_Mo_end : MethodName := ⟨"PinKindChecksModel", "end", "(IJJ)Z"⟩
theorem d_Mo_end_0 : decode c_Mo_end 0 = .ok (.aload_n 0, 1) := by decide +kernel
theorem d_Mo_end_1 : decode c_Mo_end 1 = .ok (.aload_n 0, 1) := by decide +kernel
theorem d_Mo_end_2 : decode c_Mo_end 2 = .ok (.iload_n 1, 1) := by decide +kernel
theorem d_Mo_end_3 : decode c_Mo_end 3 = .ok (.invokevirtual 110, 3) := by decide +kernel
theorem d_Mo_end_6 : decode c_Mo_end 6 = .ok (.ifCond .eq 7, 3) := by decide +kernel
theorem d_Mo_end_9 : decode c_Mo_end 9 = .ok (.iconst 0, 1) := by decide +kernel
theorem d_Mo_end_10 : decode c_Mo_end 10 = .ok (.goto 4, 3) := by decide +kernel
theorem d_Mo_end_13 : decode c_Mo_end 13 = .ok (.iconst 1, 1) := by decide +kernel
theorem d_Mo_end_14 : decode c_Mo_end 14 = .ok (.putfield 91, 3) := by decide +kernel
theorem d_Mo_end_17 : decode c_Mo_end 17 = .ok (.aload_n 0, 1) := by decide +kernel
theorem d_Mo_end_18 : decode c_Mo_end 18 = .ok (.getfield 91, 3) := by decide +kernel
theorem d_Mo_end_21 : decode c_Mo_end 21 = .ok (.ifCond .ne 12, 3) := by decide +kernel
theorem d_Mo_end_24 : decode c_Mo_end 24 = .ok (.aload_n 0, 1) := by decide +kernel
theorem d_Mo_end_25 : decode c_Mo_end 25 = .ok (.getfield 116, 3) := by decide +kernel
theorem d_Mo_end_28 : decode c_Mo_end 28 = .ok (.bipush 100, 2) := by decide +kernel
theorem d_Mo_end_30 : decode c_Mo_end 30 = .ok (.if_icmp .ne 5, 3) := by decide +kernel
theorem d_Mo_end_33 : decode c_Mo_end 33 = .ok (.iconst 0, 1) := by decide +kernel
theorem d_Mo_end_34 : decode c_Mo_end 34 = .ok (.ireturn, 1) := by decide +kernel
theorem d_Mo_end_35 : decode c_Mo_end 35 = .ok (.aload_n 0, 1) := by decide +kernel
theorem d_Mo_end_36 : decode c_Mo_end 36 = .ok (.getfield 35, 3) := by decide +kernel
theorem d_Mo_end_39 : decode c_Mo_end 39 = .ok (.aload_n 0, 1) := by decide +kernel
theorem d_Mo_end_40 : decode c_Mo_end 40 = .ok (.getfield 116, 3) := by decide +kernel
theorem d_Mo_end_43 : decode c_Mo_end 43 = .ok (.iload_n 1, 1) := by decide +kernel
theorem d_Mo_end_44 : decode c_Mo_end 44 = .ok (.iastore, 1) := by decide +kernel
theorem d_Mo_end_45 : decode c_Mo_end 45 = .ok (.aload_n 0, 1) := by decide +kernel
theorem d_Mo_end_46 : decode c_Mo_end 46 = .ok (.getfield 38, 3) := by decide +kernel
theorem d_Mo_end_49 : decode c_Mo_end 49 = .ok (.aload_n 0, 1) := by decide +kernel
theorem d_Mo_end_50 : decode c_Mo_end 50 = .ok (.getfield 116, 3) := by decide +kernel
theorem d_Mo_end_53 : decode c_Mo_end 53 = .ok (.lload_n 2, 1) := by decide +kernel
theorem d_Mo_end_54 : decode c_Mo_end 54 = .ok (.lastore, 1) := by decide +kernel
theorem d_Mo_end_55 : decode c_Mo_end 55 = .ok (.aload_n 0, 1) := by decide +kernel
theorem d_Mo_end_56 : decode c_Mo_end 56 = .ok (.getfield 41, 3) := by decide +kernel
theorem d_Mo_end_59 : decode c_Mo_end 59 = .ok (.aload_n 0, 1) := by decide +kernel
theorem d_Mo_end_60 : decode c_Mo_end 60 = .ok (.getfield 116, 3) := by decide +kernel
theorem d_Mo_end_63 : decode c_Mo_end 63 = .ok (.lload 4, 2) := by decide +kernel
theorem d_Mo_end_65 : decode c_Mo_end 65 = .ok (.lastore, 1) := by decide +kernel
theorem d_Mo_end_66 : decode c_Mo_end 66 = .ok (.aload_n 0, 1) := by decide +kernel
theorem d_Mo_end_67 : decode c_Mo_end 67 = .ok (.dup, 1) := by decide +kernel
theorem d_Mo_end_68 : decode c_Mo_end 68 = .ok (.getfield 116, 3) := by decide +kernel
theorem d_Mo_end_71 : decode c_Mo_end 71 = .ok (.iconst 1, 1) := by decide +kernel
theorem d_Mo_end_72 : decode c_Mo_end 72 = .ok (.iadd, 1) := by decide +kernel
theorem d_Mo_end_73 : decode c_Mo_end 73 = .ok (.putfield 116, 3) := by decide +kernel
theorem d_Mo_end_76 : decode c_Mo_end 76 = .ok (.iconst 1, 1) := by decide +kernel
theorem d_Mo_end_77 : decode c_Mo_end 77 = .ok (.ireturn, 1) := by decide +kernel
abbrev c_Mo_unit : ByteArray := prog_14_method_14_code
abbrev r_Mo_unit : Option FieldType := (some FieldType.boolean)
def y_Mo_unit : MethodName := ⟨"PinKindChecksModel", "unit", "(I)Z"⟩
theorem d_Mo_unit_0 : decode c_Mo_unit 0 = .ok (.aload_n 0, 1) := by decide +kernel
theorem d_Mo_unit_1 : decode c_Mo_unit 1 = .ok (.iconst 0, 1) := by decide +kernel
theorem d_Mo_unit_2 : decode c_Mo_unit 2 = .ok (.putfield 91, 3) := by decide +kernel
theorem d_Mo_unit_5 : decode c_Mo_unit 5 = .ok (.iload_n 1, 1) := by decide +kernel
theorem d_Mo_unit_6 : decode c_Mo_unit 6 = .ok (.bipush 32, 2) := by decide +kernel
theorem d_Mo_unit_8 : decode c_Mo_unit 8 = .ok (.if_icmp .lt 19, 3) := by decide +kernel
theorem d_Mo_unit_11 : decode c_Mo_unit 11 = .ok (.iload_n 1, 1) := by decide +kernel
theorem d_Mo_unit_12 : decode c_Mo_unit 12 = .ok (.bipush 126, 2) := by decide +kernel
theorem d_Mo_unit_14 : decode c_Mo_unit 14 = .ok (.if_icmp .gt 13, 3) := by decide +kernel
theorem d_Mo_unit_17 : decode c_Mo_unit 17 = .ok (.aload_n 0, 1) := by decide +kernel
theorem d_Mo_unit_18 : decode c_Mo_unit 18 = .ok (.getfield 119, 3) := by decide +kernel
theorem d_Mo_unit_21 : decode c_Mo_unit 21 = .ok (.sipush 160, 3) := by decide +kernel
theorem d_Mo_unit_24 : decode c_Mo_unit 24 = .ok (.if_icmp .ne 5, 3) := by decide +kernel
theorem d_Mo_unit_27 : decode c_Mo_unit 27 = .ok (.iconst 0, 1) := by decide +kernel
theorem d_Mo_unit_28 : decode c_Mo_unit 28 = .ok (.ireturn, 1) := by decide +kernel
theorem d_Mo_unit_29 : decode c_Mo_unit 29 = .ok (.aload_n 0, 1) := by decide +kernel
theorem d_Mo_unit_30 : decode c_Mo_unit 30 = .ok (.getfield 44, 3) := by decide +kernel
theorem d_Mo_unit_33 : decode c_Mo_unit 33 = .ok (.aload_n 0, 1) := by decide +kernel
theorem d_Mo_unit_34 : decode c_Mo_unit 34 = .ok (.getfield 119, 3) := by decide +kernel
theorem d_Mo_unit_37 : decode c_Mo_unit 37 = .ok (.iload_n 1, 1) := by decide +kernel
theorem d_Mo_unit_38 : decode c_Mo_unit 38 = .ok (.iastore, 1) := by decide +kernel
theorem d_Mo_unit_39 : decode c_Mo_unit 39 = .ok (.aload_n 0, 1) := by decide +kernel
theorem d_Mo_unit_40 : decode c_Mo_unit 40 = .ok (.dup, 1) := by decide +kernel
theorem d_Mo_unit_41 : decode c_Mo_unit 41 = .ok (.getfield 119, 3) := by decide +kernel
theorem d_Mo_unit_44 : decode c_Mo_unit 44 = .ok (.iconst 1, 1) := by decide +kernel
theorem d_Mo_unit_45 : decode c_Mo_unit 45 = .ok (.iadd, 1) := by decide +kernel
theorem d_Mo_unit_46 : decode c_Mo_unit 46 = .ok (.putfield 119, 3) := by decide +kernel
theorem d_Mo_unit_49 : decode c_Mo_unit 49 = .ok (.iconst 1, 1) := by decide +kernel
theorem d_Mo_unit_50 : decode c_Mo_unit 50 = .ok (.ireturn, 1) := by decide +kernel
abbrev c_Mo_rule : ByteArray := prog_14_method_30_code
abbrev r_Mo_rule : Option FieldType := (some FieldType.int)
def y_Mo_rule : MethodName := ⟨"PinKindChecksModel", "rule", "()I"⟩
theorem d_Mo_rule_0 : decode c_Mo_rule 0 = .ok (.aload_n 0, 1) := by decide +kernel
theorem d_Mo_rule_1 : decode c_Mo_rule 1 = .ok (.aload_n 0, 1) := by decide +kernel
theorem d_Mo_rule_2 : decode c_Mo_rule 2 = .ok (.getfield 210, 3) := by decide +kernel
theorem d_Mo_rule_5 : decode c_Mo_rule 5 = .ok (.bipush 20, 2) := by decide +kernel
theorem d_Mo_rule_7 : decode c_Mo_rule 7 = .ok (.if_icmp .ne 7, 3) := by decide +kernel
theorem d_Mo_rule_10 : decode c_Mo_rule 10 = .ok (.iconst 1, 1) := by decide +kernel
theorem d_Mo_rule_11 : decode c_Mo_rule 11 = .ok (.goto 4, 3) := by decide +kernel
theorem d_Mo_rule_14 : decode c_Mo_rule 14 = .ok (.iconst 0, 1) := by decide +kernel
theorem d_Mo_rule_15 : decode c_Mo_rule 15 = .ok (.putfield 91, 3) := by decide +kernel
theorem d_Mo_rule_18 : decode c_Mo_rule 18 = .ok (.aload_n 0, 1) := by decide +kernel
theorem d_Mo_rule_19 : decode c_Mo_rule 19 = .ok (.getfield 91, 3) := by decide +kernel
theorem d_Mo_rule_22 : decode c_Mo_rule 22 = .ok (.ifCond .eq 5, 3) := by decide +kernel
theorem d_Mo_rule_25 : decode c_Mo_rule 25 = .ok (.iconst 0, 1) := by decide +kernel
theorem d_Mo_rule_26 : decode c_Mo_rule 26 = .ok (.ireturn, 1) := by decide +kernel
theorem d_Mo_rule_27 : decode c_Mo_rule 27 = .ok (.aload_n 0, 1) := by decide +kernel
theorem d_Mo_rule_28 : decode c_Mo_rule 28 = .ok (.aload_n 0, 1) := by decide +kernel
theorem d_Mo_rule_29 : decode c_Mo_rule 29 = .ok (.getfield 210, 3) := by decide +kernel
theorem d_Mo_rule_32 : decode c_Mo_rule 32 = .ok (.invokevirtual 213, 3) := by decide +kernel
theorem d_Mo_rule_35 : decode c_Mo_rule 35 = .ok (.istore_n 1, 1) := by decide +kernel
theorem d_Mo_rule_36 : decode c_Mo_rule 36 = .ok (.aload_n 0, 1) := by decide +kernel
theorem d_Mo_rule_37 : decode c_Mo_rule 37 = .ok (.iconst 0, 1) := by decide +kernel
theorem d_Mo_rule_38 : decode c_Mo_rule 38 = .ok (.putfield 119, 3) := by decide +kernel
theorem d_Mo_rule_41 : decode c_Mo_rule 41 = .ok (.iload_n 1, 1) := by decide +kernel
theorem d_Mo_rule_42 : decode c_Mo_rule 42 = .ok (.ifCond .ne 10, 3) := by decide +kernel
theorem d_Mo_rule_45 : decode c_Mo_rule 45 = .ok (.iconst 0, 1) := by decide +kernel
theorem d_Mo_rule_46 : decode c_Mo_rule 46 = .ok (.aload_n 0, 1) := by decide +kernel
theorem d_Mo_rule_47 : decode c_Mo_rule 47 = .ok (.getfield 128, 3) := by decide +kernel
theorem d_Mo_rule_50 : decode c_Mo_rule 50 = .ok (.isub, 1) := by decide +kernel
theorem d_Mo_rule_51 : decode c_Mo_rule 51 = .ok (.ireturn, 1) := by decide +kernel
theorem d_Mo_rule_52 : decode c_Mo_rule 52 = .ok (.aload_n 0, 1) := by decide +kernel
theorem d_Mo_rule_53 : decode c_Mo_rule 53 = .ok (.getfield 62, 3) := by decide +kernel
theorem d_Mo_rule_56 : decode c_Mo_rule 56 = .ok (.bipush 7, 2) := by decide +kernel
theorem d_Mo_rule_58 : decode c_Mo_rule 58 = .ok (.aload_n 0, 1) := by decide +kernel
theorem d_Mo_rule_59 : decode c_Mo_rule 59 = .ok (.getfield 210, 3) := by decide +kernel
theorem d_Mo_rule_62 : decode c_Mo_rule 62 = .ok (.iadd, 1) := by decide +kernel
theorem d_Mo_rule_63 : decode c_Mo_rule 63 = .ok (.iconst 0, 1) := by decide +kernel
theorem d_Mo_rule_64 : decode c_Mo_rule 64 = .ok (.bastore, 1) := by decide +kernel
theorem d_Mo_rule_65 : decode c_Mo_rule 65 = .ok (.aload_n 0, 1) := by decide +kernel
theorem d_Mo_rule_66 : decode c_Mo_rule 66 = .ok (.dup, 1) := by decide +kernel
theorem d_Mo_rule_67 : decode c_Mo_rule 67 = .ok (.getfield 210, 3) := by decide +kernel
theorem d_Mo_rule_70 : decode c_Mo_rule 70 = .ok (.iconst 1, 1) := by decide +kernel
theorem d_Mo_rule_71 : decode c_Mo_rule 71 = .ok (.iadd, 1) := by decide +kernel
theorem d_Mo_rule_72 : decode c_Mo_rule 72 = .ok (.putfield 210, 3) := by decide +kernel
theorem d_Mo_rule_75 : decode c_Mo_rule 75 = .ok (.bipush 7, 2) := by decide +kernel
theorem d_Mo_rule_77 : decode c_Mo_rule 77 = .ok (.aload_n 0, 1) := by decide +kernel
theorem d_Mo_rule_78 : decode c_Mo_rule 78 = .ok (.getfield 210, 3) := by decide +kernel
theorem d_Mo_rule_81 : decode c_Mo_rule 81 = .ok (.iadd, 1) := by decide +kernel
theorem d_Mo_rule_82 : decode c_Mo_rule 82 = .ok (.iconst 1, 1) := by decide +kernel
theorem d_Mo_rule_83 : decode c_Mo_rule 83 = .ok (.isub, 1) := by decide +kernel
theorem d_Mo_rule_84 : decode c_Mo_rule 84 = .ok (.ireturn, 1) := by decide +kernel
abbrev c_Mo_reads : ByteArray := prog_14_method_29_code
abbrev r_Mo_reads : Option FieldType := (some FieldType.boolean)
def y_Mo_reads : MethodName := ⟨"PinKindChecksModel", "reads", "(I)Z"⟩
theorem d_Mo_reads_0 : decode c_Mo_reads 0 = .ok (.aload_n 0, 1) := by decide +kernel
theorem d_Mo_reads_1 : decode c_Mo_reads 1 = .ok (.iload_n 1, 1) := by decide +kernel
theorem d_Mo_reads_2 : decode c_Mo_reads 2 = .ok (.putfield 131, 3) := by decide +kernel
theorem d_Mo_reads_5 : decode c_Mo_reads 5 = .ok (.aload_n 0, 1) := by decide +kernel
theorem d_Mo_reads_6 : decode c_Mo_reads 6 = .ok (.iconst 0, 1) := by decide +kernel
theorem d_Mo_reads_7 : decode c_Mo_reads 7 = .ok (.putfield 122, 3) := by decide +kernel
theorem d_Mo_reads_10 : decode c_Mo_reads 10 = .ok (.aload_n 0, 1) := by decide +kernel
theorem d_Mo_reads_11 : decode c_Mo_reads 11 = .ok (.iconst 0, 1) := by decide +kernel
theorem d_Mo_reads_12 : decode c_Mo_reads 12 = .ok (.putfield 128, 3) := by decide +kernel
theorem d_Mo_reads_15 : decode c_Mo_reads 15 = .ok (.aload_n 0, 1) := by decide +kernel
theorem d_Mo_reads_16 : decode c_Mo_reads 16 = .ok (.iconst 0, 1) := by decide +kernel
theorem d_Mo_reads_17 : decode c_Mo_reads 17 = .ok (.putfield 134, 3) := by decide +kernel
theorem d_Mo_reads_20 : decode c_Mo_reads 20 = .ok (.aload_n 0, 1) := by decide +kernel
theorem d_Mo_reads_21 : decode c_Mo_reads 21 = .ok (.iconst 0, 1) := by decide +kernel
theorem d_Mo_reads_22 : decode c_Mo_reads 22 = .ok (.putfield 196, 3) := by decide +kernel
theorem d_Mo_reads_25 : decode c_Mo_reads 25 = .ok (.aload_n 0, 1) := by decide +kernel
theorem d_Mo_reads_26 : decode c_Mo_reads 26 = .ok (.iconst 0, 1) := by decide +kernel
theorem d_Mo_reads_27 : decode c_Mo_reads 27 = .ok (.putfield 184, 3) := by decide +kernel
theorem d_Mo_reads_30 : decode c_Mo_reads 30 = .ok (.aload_n 0, 1) := by decide +kernel
theorem d_Mo_reads_31 : decode c_Mo_reads 31 = .ok (.getfield 53, 3) := by decide +kernel
theorem d_Mo_reads_34 : decode c_Mo_reads 34 = .ok (.iload_n 1, 1) := by decide +kernel
theorem d_Mo_reads_35 : decode c_Mo_reads 35 = .ok (.iconst 0, 1) := by decide +kernel
theorem d_Mo_reads_36 : decode c_Mo_reads 36 = .ok (.iastore, 1) := by decide +kernel
theorem d_Mo_reads_37 : decode c_Mo_reads 37 = .ok (.aload_n 0, 1) := by decide +kernel
theorem d_Mo_reads_38 : decode c_Mo_reads 38 = .ok (.invokevirtual 164, 3) := by decide +kernel
theorem d_Mo_reads_41 : decode c_Mo_reads 41 = .ok (.istore_n 2, 1) := by decide +kernel
theorem d_Mo_reads_42 : decode c_Mo_reads 42 = .ok (.iload_n 2, 1) := by decide +kernel
theorem d_Mo_reads_43 : decode c_Mo_reads 43 = .ok (.ifCond .ne 13, 3) := by decide +kernel
theorem d_Mo_reads_46 : decode c_Mo_reads 46 = .ok (.aload_n 0, 1) := by decide +kernel
theorem d_Mo_reads_47 : decode c_Mo_reads 47 = .ok (.dup, 1) := by decide +kernel
theorem d_Mo_reads_48 : decode c_Mo_reads 48 = .ok (.getfield 128, 3) := by decide +kernel
theorem d_Mo_reads_51 : decode c_Mo_reads 51 = .ok (.iconst 1, 1) := by decide +kernel
theorem d_Mo_reads_52 : decode c_Mo_reads 52 = .ok (.iadd, 1) := by decide +kernel
theorem d_Mo_reads_53 : decode c_Mo_reads 53 = .ok (.putfield 128, 3) := by decide +kernel
theorem d_Mo_reads_56 : decode c_Mo_reads 56 = .ok (.iload_n 2, 1) := by decide +kernel
theorem d_Mo_reads_57 : decode c_Mo_reads 57 = .ok (.ifCond .eq 10, 3) := by decide +kernel
theorem d_Mo_reads_60 : decode c_Mo_reads 60 = .ok (.aload_n 0, 1) := by decide +kernel
theorem d_Mo_reads_61 : decode c_Mo_reads 61 = .ok (.invokevirtual 145, 3) := by decide +kernel
theorem d_Mo_reads_64 : decode c_Mo_reads 64 = .ok (.goto 4, 3) := by decide +kernel
theorem d_Mo_reads_67 : decode c_Mo_reads 67 = .ok (.lconst 0, 1) := by decide +kernel
theorem d_Mo_reads_68 : decode c_Mo_reads 68 = .ok (.lstore_n 3, 1) := by decide +kernel
theorem d_Mo_reads_69 : decode c_Mo_reads 69 = .ok (.aload_n 0, 1) := by decide +kernel
theorem d_Mo_reads_70 : decode c_Mo_reads 70 = .ok (.getfield 47, 3) := by decide +kernel
theorem d_Mo_reads_73 : decode c_Mo_reads 73 = .ok (.iload_n 1, 1) := by decide +kernel
theorem d_Mo_reads_74 : decode c_Mo_reads 74 = .ok (.lload_n 3, 1) := by decide +kernel
theorem d_Mo_reads_75 : decode c_Mo_reads 75 = .ok (.bipush 112, 2) := by decide +kernel
theorem d_Mo_reads_77 : decode c_Mo_reads 77 = .ok (.bipush 97, 2) := by decide +kernel
theorem d_Mo_reads_79 : decode c_Mo_reads 79 = .ok (.bipush 114, 2) := by decide +kernel
theorem d_Mo_reads_81 : decode c_Mo_reads 81 = .ok (.bipush 116, 2) := by decide +kernel
theorem d_Mo_reads_83 : decode c_Mo_reads 83 = .ok (.iconst 0, 1) := by decide +kernel
theorem d_Mo_reads_84 : decode c_Mo_reads 84 = .ok (.invokestatic 157, 3) := by decide +kernel
theorem d_Mo_reads_87 : decode c_Mo_reads 87 = .ok (.lcmp, 1) := by decide +kernel
theorem d_Mo_reads_88 : decode c_Mo_reads 88 = .ok (.ifCond .ne 7, 3) := by decide +kernel
theorem d_Mo_reads_91 : decode c_Mo_reads 91 = .ok (.iconst 0, 1) := by decide +kernel
theorem d_Mo_reads_92 : decode c_Mo_reads 92 = .ok (.goto 44, 3) := by decide +kernel
theorem d_Mo_reads_95 : decode c_Mo_reads 95 = .ok (.lload_n 3, 1) := by decide +kernel
theorem d_Mo_reads_96 : decode c_Mo_reads 96 = .ok (.bipush 110, 2) := by decide +kernel
theorem d_Mo_reads_98 : decode c_Mo_reads 98 = .ok (.bipush 101, 2) := by decide +kernel
theorem d_Mo_reads_100 : decode c_Mo_reads 100 = .ok (.bipush 116, 2) := by decide +kernel
theorem d_Mo_reads_102 : decode c_Mo_reads 102 = .ok (.iconst 0, 1) := by decide +kernel
theorem d_Mo_reads_103 : decode c_Mo_reads 103 = .ok (.iconst 0, 1) := by decide +kernel
theorem d_Mo_reads_104 : decode c_Mo_reads 104 = .ok (.invokestatic 157, 3) := by decide +kernel
theorem d_Mo_reads_107 : decode c_Mo_reads 107 = .ok (.lcmp, 1) := by decide +kernel
theorem d_Mo_reads_108 : decode c_Mo_reads 108 = .ok (.ifCond .ne 7, 3) := by decide +kernel
theorem d_Mo_reads_111 : decode c_Mo_reads 111 = .ok (.iconst 1, 1) := by decide +kernel
theorem d_Mo_reads_112 : decode c_Mo_reads 112 = .ok (.goto 24, 3) := by decide +kernel
theorem d_Mo_reads_115 : decode c_Mo_reads 115 = .ok (.lload_n 3, 1) := by decide +kernel
theorem d_Mo_reads_116 : decode c_Mo_reads 116 = .ok (.bipush 112, 2) := by decide +kernel
theorem d_Mo_reads_118 : decode c_Mo_reads 118 = .ok (.bipush 105, 2) := by decide +kernel
theorem d_Mo_reads_120 : decode c_Mo_reads 120 = .ok (.bipush 110, 2) := by decide +kernel
theorem d_Mo_reads_122 : decode c_Mo_reads 122 = .ok (.iconst 0, 1) := by decide +kernel
theorem d_Mo_reads_123 : decode c_Mo_reads 123 = .ok (.iconst 0, 1) := by decide +kernel
theorem d_Mo_reads_124 : decode c_Mo_reads 124 = .ok (.invokestatic 157, 3) := by decide +kernel
theorem d_Mo_reads_127 : decode c_Mo_reads 127 = .ok (.lcmp, 1) := by decide +kernel
theorem d_Mo_reads_128 : decode c_Mo_reads 128 = .ok (.ifCond .ne 7, 3) := by decide +kernel
theorem d_Mo_reads_131 : decode c_Mo_reads 131 = .ok (.iconst 2, 1) := by decide +kernel
theorem d_Mo_reads_132 : decode c_Mo_reads 132 = .ok (.goto 4, 3) := by decide +kernel
theorem d_Mo_reads_135 : decode c_Mo_reads 135 = .ok (.iconst (-1), 1) := by decide +kernel
theorem d_Mo_reads_136 : decode c_Mo_reads 136 = .ok (.iastore, 1) := by decide +kernel
