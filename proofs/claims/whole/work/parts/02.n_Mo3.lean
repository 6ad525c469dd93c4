theorem d_Mo_pinsOf_71 : decode c_Mo_pinsOf 71 = .ok (.iload 5, 2) := by decide +kernel
theorem d_Mo_pinsOf_73 : decode c_Mo_pinsOf 73 = .ok (.iaload, 1) := by decide +kernel
theorem d_Mo_pinsOf_74 : decode c_Mo_pinsOf 74 = .ok (.iload_n 3, 1) := by decide +kernel
theorem d_Mo_pinsOf_75 : decode c_Mo_pinsOf 75 = .ok (.if_icmp .ne 7, 3) := by decide +kernel
theorem d_Mo_pinsOf_78 : decode c_Mo_pinsOf 78 = .ok (.iconst 1, 1) := by decide +kernel
theorem d_Mo_pinsOf_79 : decode c_Mo_pinsOf 79 = .ok (.goto 4, 3) := by decide +kernel
theorem d_Mo_pinsOf_82 : decode c_Mo_pinsOf 82 = .ok (.iconst 0, 1) := by decide +kernel
theorem d_Mo_pinsOf_83 : decode c_Mo_pinsOf 83 = .ok (.iadd, 1) := by decide +kernel
theorem d_Mo_pinsOf_84 : decode c_Mo_pinsOf 84 = .ok (.istore 4, 2) := by decide +kernel
theorem d_Mo_pinsOf_86 : decode c_Mo_pinsOf 86 = .ok (.iinc 5 1, 3) := by decide +kernel
theorem d_Mo_pinsOf_89 : decode c_Mo_pinsOf 89 = .ok (.goto (-83), 3) := by decide +kernel
theorem d_Mo_pinsOf_92 : decode c_Mo_pinsOf 92 = .ok (.iload 4, 2) := by decide +kernel
theorem d_Mo_pinsOf_94 : decode c_Mo_pinsOf 94 = .ok (.ireturn, 1) := by decide +kernel
abbrev c_Mo_sheetOf : ByteArray := prog_14_method_32_code
abbrev r_Mo_sheetOf : Option FieldType := (some FieldType.int)
def y_Mo_sheetOf : MethodName := ⟨"PinKindChecksModel", "sheetOf", "(II)I"⟩
theorem d_Mo_sheetOf_0 : decode c_Mo_sheetOf 0 = .ok (.iload_n 1, 1) := by decide +kernel
theorem d_Mo_sheetOf_1 : decode c_Mo_sheetOf 1 = .ok (.iconst 1, 1) := by decide +kernel
theorem d_Mo_sheetOf_2 : decode c_Mo_sheetOf 2 = .ok (.if_icmp .ne 12, 3) := by decide +kernel
theorem d_Mo_sheetOf_5 : decode c_Mo_sheetOf 5 = .ok (.aload_n 0, 1) := by decide +kernel
theorem d_Mo_sheetOf_6 : decode c_Mo_sheetOf 6 = .ok (.getfield 20, 3) := by decide +kernel
theorem d_Mo_sheetOf_9 : decode c_Mo_sheetOf 9 = .ok (.iload_n 2, 1) := by decide +kernel
theorem d_Mo_sheetOf_10 : decode c_Mo_sheetOf 10 = .ok (.iaload, 1) := by decide +kernel
theorem d_Mo_sheetOf_11 : decode c_Mo_sheetOf 11 = .ok (.goto 14, 3) := by decide +kernel
theorem d_Mo_sheetOf_14 : decode c_Mo_sheetOf 14 = .ok (.aload_n 0, 1) := by decide +kernel
theorem d_Mo_sheetOf_15 : decode c_Mo_sheetOf 15 = .ok (.getfield 13, 3) := by decide +kernel
theorem d_Mo_sheetOf_18 : decode c_Mo_sheetOf 18 = .ok (.aload_n 0, 1) := by decide +kernel
theorem d_Mo_sheetOf_19 : decode c_Mo_sheetOf 19 = .ok (.iload_n 1, 1) := by decide +kernel
theorem d_Mo_sheetOf_20 : decode c_Mo_sheetOf 20 = .ok (.iload_n 2, 1) := by decide +kernel
theorem d_Mo_sheetOf_21 : decode c_Mo_sheetOf 21 = .ok (.invokevirtual 216, 3) := by decide +kernel
theorem d_Mo_sheetOf_24 : decode c_Mo_sheetOf 24 = .ok (.iaload, 1) := by decide +kernel
theorem d_Mo_sheetOf_25 : decode c_Mo_sheetOf 25 = .ok (.ireturn, 1) := by decide +kernel
abbrev c_Mo_result : ByteArray := prog_14_method_35_code
abbrev r_Mo_result : Option FieldType := (some FieldType.long)
def y_Mo_result : MethodName := ⟨"PinKindChecksModel", "result", "(IJJ)J"⟩
theorem d_Mo_result_0 : decode c_Mo_result 0 = .ok (.iconst 0, 1) := by decide +kernel
theorem d_Mo_result_1 : decode c_Mo_result 1 = .ok (.istore 5, 2) := by decide +kernel
theorem d_Mo_result_3 : decode c_Mo_result 3 = .ok (.iload_n 0, 1) := by decide +kernel
theorem d_Mo_result_4 : decode c_Mo_result 4 = .ok (.tableswitch 190 10 20 #[60, 64, 68, 72, 88, 104, 120, 136, 152, 190, 168], 60) := by decide +kernel
theorem d_Mo_result_64 : decode c_Mo_result 64 = .ok (.lload_n 1, 1) := by decide +kernel
theorem d_Mo_result_65 : decode c_Mo_result 65 = .ok (.lload_n 3, 1) := by decide +kernel
theorem d_Mo_result_66 : decode c_Mo_result 66 = .ok (.lmul, 1) := by decide +kernel
theorem d_Mo_result_67 : decode c_Mo_result 67 = .ok (.lreturn, 1) := by decide +kernel
theorem d_Mo_result_68 : decode c_Mo_result 68 = .ok (.lload_n 1, 1) := by decide +kernel
theorem d_Mo_result_69 : decode c_Mo_result 69 = .ok (.lload_n 3, 1) := by decide +kernel
theorem d_Mo_result_70 : decode c_Mo_result 70 = .ok (.ladd, 1) := by decide +kernel
theorem d_Mo_result_71 : decode c_Mo_result 71 = .ok (.lreturn, 1) := by decide +kernel
theorem d_Mo_result_72 : decode c_Mo_result 72 = .ok (.lload_n 1, 1) := by decide +kernel
theorem d_Mo_result_73 : decode c_Mo_result 73 = .ok (.lload_n 3, 1) := by decide +kernel
theorem d_Mo_result_74 : decode c_Mo_result 74 = .ok (.lsub, 1) := by decide +kernel
theorem d_Mo_result_75 : decode c_Mo_result 75 = .ok (.lreturn, 1) := by decide +kernel
theorem d_Mo_result_76 : decode c_Mo_result 76 = .ok (.lload_n 1, 1) := by decide +kernel
theorem d_Mo_result_77 : decode c_Mo_result 77 = .ok (.lload_n 3, 1) := by decide +kernel
theorem d_Mo_result_78 : decode c_Mo_result 78 = .ok (.lcmp, 1) := by decide +kernel
theorem d_Mo_result_79 : decode c_Mo_result 79 = .ok (.ifCond .ne 7, 3) := by decide +kernel
theorem d_Mo_result_82 : decode c_Mo_result 82 = .ok (.iconst 1, 1) := by decide +kernel
theorem d_Mo_result_83 : decode c_Mo_result 83 = .ok (.goto 4, 3) := by decide +kernel
theorem d_Mo_result_86 : decode c_Mo_result 86 = .ok (.iconst 0, 1) := by decide +kernel
theorem d_Mo_result_87 : decode c_Mo_result 87 = .ok (.istore 5, 2) := by decide +kernel
theorem d_Mo_result_89 : decode c_Mo_result 89 = .ok (.goto 124, 3) := by decide +kernel
theorem d_Mo_result_92 : decode c_Mo_result 92 = .ok (.lload_n 1, 1) := by decide +kernel
theorem d_Mo_result_93 : decode c_Mo_result 93 = .ok (.lload_n 3, 1) := by decide +kernel
theorem d_Mo_result_94 : decode c_Mo_result 94 = .ok (.lcmp, 1) := by decide +kernel
theorem d_Mo_result_95 : decode c_Mo_result 95 = .ok (.ifCond .eq 7, 3) := by decide +kernel
theorem d_Mo_result_98 : decode c_Mo_result 98 = .ok (.iconst 1, 1) := by decide +kernel
theorem d_Mo_result_99 : decode c_Mo_result 99 = .ok (.goto 4, 3) := by decide +kernel
theorem d_Mo_result_102 : decode c_Mo_result 102 = .ok (.iconst 0, 1) := by decide +kernel
theorem d_Mo_result_103 : decode c_Mo_result 103 = .ok (.istore 5, 2) := by decide +kernel
theorem d_Mo_result_105 : decode c_Mo_result 105 = .ok (.goto 108, 3) := by decide +kernel
theorem d_Mo_result_108 : decode c_Mo_result 108 = .ok (.lload_n 1, 1) := by decide +kernel
theorem d_Mo_result_109 : decode c_Mo_result 109 = .ok (.lload_n 3, 1) := by decide +kernel
theorem d_Mo_result_110 : decode c_Mo_result 110 = .ok (.lcmp, 1) := by decide +kernel
theorem d_Mo_result_111 : decode c_Mo_result 111 = .ok (.ifCond .ge 7, 3) := by decide +kernel
theorem d_Mo_result_114 : decode c_Mo_result 114 = .ok (.iconst 1, 1) := by decide +kernel
theorem d_Mo_result_115 : decode c_Mo_result 115 = .ok (.goto 4, 3) := by decide +kernel
theorem d_Mo_result_118 : decode c_Mo_result 118 = .ok (.iconst 0, 1) := by decide +kernel
theorem d_Mo_result_119 : decode c_Mo_result 119 = .ok (.istore 5, 2) := by decide +kernel
theorem d_Mo_result_121 : decode c_Mo_result 121 = .ok (.goto 92, 3) := by decide +kernel
theorem d_Mo_result_124 : decode c_Mo_result 124 = .ok (.lload_n 1, 1) := by decide +kernel
theorem d_Mo_result_125 : decode c_Mo_result 125 = .ok (.lload_n 3, 1) := by decide +kernel
theorem d_Mo_result_126 : decode c_Mo_result 126 = .ok (.lcmp, 1) := by decide +kernel
theorem d_Mo_result_127 : decode c_Mo_result 127 = .ok (.ifCond .le 7, 3) := by decide +kernel
theorem d_Mo_result_130 : decode c_Mo_result 130 = .ok (.iconst 1, 1) := by decide +kernel
theorem d_Mo_result_131 : decode c_Mo_result 131 = .ok (.goto 4, 3) := by decide +kernel
theorem d_Mo_result_134 : decode c_Mo_result 134 = .ok (.iconst 0, 1) := by decide +kernel
theorem d_Mo_result_135 : decode c_Mo_result 135 = .ok (.istore 5, 2) := by decide +kernel
theorem d_Mo_result_137 : decode c_Mo_result 137 = .ok (.goto 76, 3) := by decide +kernel
theorem d_Mo_result_140 : decode c_Mo_result 140 = .ok (.lload_n 1, 1) := by decide +kernel
theorem d_Mo_result_141 : decode c_Mo_result 141 = .ok (.lload_n 3, 1) := by decide +kernel
theorem d_Mo_result_142 : decode c_Mo_result 142 = .ok (.lcmp, 1) := by decide +kernel
theorem d_Mo_result_143 : decode c_Mo_result 143 = .ok (.ifCond .lt 7, 3) := by decide +kernel
theorem d_Mo_result_146 : decode c_Mo_result 146 = .ok (.iconst 1, 1) := by decide +kernel
theorem d_Mo_result_147 : decode c_Mo_result 147 = .ok (.goto 4, 3) := by decide +kernel
theorem d_Mo_result_150 : decode c_Mo_result 150 = .ok (.iconst 0, 1) := by decide +kernel
theorem d_Mo_result_151 : decode c_Mo_result 151 = .ok (.istore 5, 2) := by decide +kernel
theorem d_Mo_result_153 : decode c_Mo_result 153 = .ok (.goto 60, 3) := by decide +kernel
theorem d_Mo_result_156 : decode c_Mo_result 156 = .ok (.lload_n 1, 1) := by decide +kernel
theorem d_Mo_result_157 : decode c_Mo_result 157 = .ok (.lload_n 3, 1) := by decide +kernel
theorem d_Mo_result_158 : decode c_Mo_result 158 = .ok (.lcmp, 1) := by decide +kernel
theorem d_Mo_result_159 : decode c_Mo_result 159 = .ok (.ifCond .gt 7, 3) := by decide +kernel
theorem d_Mo_result_162 : decode c_Mo_result 162 = .ok (.iconst 1, 1) := by decide +kernel
theorem d_Mo_result_163 : decode c_Mo_result 163 = .ok (.goto 4, 3) := by decide +kernel
theorem d_Mo_result_166 : decode c_Mo_result 166 = .ok (.iconst 0, 1) := by decide +kernel
theorem d_Mo_result_167 : decode c_Mo_result 167 = .ok (.istore 5, 2) := by decide +kernel
theorem d_Mo_result_169 : decode c_Mo_result 169 = .ok (.goto 44, 3) := by decide +kernel
theorem d_Mo_result_172 : decode c_Mo_result 172 = .ok (.lload_n 1, 1) := by decide +kernel
theorem d_Mo_result_173 : decode c_Mo_result 173 = .ok (.lconst 0, 1) := by decide +kernel
theorem d_Mo_result_174 : decode c_Mo_result 174 = .ok (.lcmp, 1) := by decide +kernel
theorem d_Mo_result_175 : decode c_Mo_result 175 = .ok (.ifCond .eq 13, 3) := by decide +kernel
theorem d_Mo_result_178 : decode c_Mo_result 178 = .ok (.lload_n 3, 1) := by decide +kernel
theorem d_Mo_result_179 : decode c_Mo_result 179 = .ok (.lconst 0, 1) := by decide +kernel
theorem d_Mo_result_180 : decode c_Mo_result 180 = .ok (.lcmp, 1) := by decide +kernel
theorem d_Mo_result_181 : decode c_Mo_result 181 = .ok (.ifCond .eq 7, 3) := by decide +kernel
theorem d_Mo_result_184 : decode c_Mo_result 184 = .ok (.iconst 1, 1) := by decide +kernel
theorem d_Mo_result_185 : decode c_Mo_result 185 = .ok (.goto 4, 3) := by decide +kernel
theorem d_Mo_result_188 : decode c_Mo_result 188 = .ok (.iconst 0, 1) := by decide +kernel
theorem d_Mo_result_189 : decode c_Mo_result 189 = .ok (.istore 5, 2) := by decide +kernel
theorem d_Mo_result_191 : decode c_Mo_result 191 = .ok (.goto 22, 3) := by decide +kernel
theorem d_Mo_result_194 : decode c_Mo_result 194 = .ok (.lload_n 1, 1) := by decide +kernel
theorem d_Mo_result_195 : decode c_Mo_result 195 = .ok (.lconst 0, 1) := by decide +kernel
theorem d_Mo_result_196 : decode c_Mo_result 196 = .ok (.lcmp, 1) := by decide +kernel
theorem d_Mo_result_197 : decode c_Mo_result 197 = .ok (.ifCond .ne 9, 3) := by decide +kernel
theorem d_Mo_result_200 : decode c_Mo_result 200 = .ok (.lload_n 3, 1) := by decide +kernel
theorem d_Mo_result_201 : decode c_Mo_result 201 = .ok (.lconst 0, 1) := by decide +kernel
theorem d_Mo_result_202 : decode c_Mo_result 202 = .ok (.lcmp, 1) := by decide +kernel
theorem d_Mo_result_203 : decode c_Mo_result 203 = .ok (.ifCond .eq 7, 3) := by decide +kernel
theorem d_Mo_result_206 : decode c_Mo_result 206 = .ok (.iconst 1, 1) := by decide +kernel
theorem d_Mo_result_207 : decode c_Mo_result 207 = .ok (.goto 4, 3) := by decide +kernel
theorem d_Mo_result_210 : decode c_Mo_result 210 = .ok (.iconst 0, 1) := by decide +kernel
theorem d_Mo_result_211 : decode c_Mo_result 211 = .ok (.istore 5, 2) := by decide +kernel
theorem d_Mo_result_213 : decode c_Mo_result 213 = .ok (.iload 5, 2) := by decide +kernel
theorem d_Mo_result_215 : decode c_Mo_result 215 = .ok (.ifCond .eq 7, 3) := by decide +kernel
theorem d_Mo_result_218 : decode c_Mo_result 218 = .ok (.lconst 1, 1) := by decide +kernel
theorem d_Mo_result_219 : decode c_Mo_result 219 = .ok (.goto 4, 3) := by decide +kernel
theorem d_Mo_result_222 : decode c_Mo_result 222 = .ok (.lconst 0, 1) := by decide +kernel
theorem d_Mo_result_223 : decode c_Mo_result 223 = .ok (.lreturn, 1) := by decide +kernel
abbrev c_Mo_worst : ByteArray := prog_14_method_37_code
abbrev r_Mo_worst : Option FieldType := (some FieldType.int)
def y_Mo_worst : MethodName := ⟨"PinKindChecksModel", "worst", "(I)I"⟩
theorem d_Mo_worst_0 : decode c_Mo_worst 0 = .ok (.iconst 0, 1) := by decide +kernel
theorem d_Mo_worst_1 : decode c_Mo_worst 1 = .ok (.istore_n 2, 1) := by decide +kernel
theorem d_Mo_worst_2 : decode c_Mo_worst 2 = .ok (.iconst 0, 1) := by decide +kernel
theorem d_Mo_worst_3 : decode c_Mo_worst 3 = .ok (.istore_n 3, 1) := by decide +kernel
theorem d_Mo_worst_4 : decode c_Mo_worst 4 = .ok (.iload_n 3, 1) := by decide +kernel
theorem d_Mo_worst_5 : decode c_Mo_worst 5 = .ok (.iload_n 1, 1) := by decide +kernel
theorem d_Mo_worst_6 : decode c_Mo_worst 6 = .ok (.if_icmp .ge 74, 3) := by decide +kernel
theorem d_Mo_worst_9 : decode c_Mo_worst 9 = .ok (.aload_n 0, 1) := by decide +kernel
theorem d_Mo_worst_10 : decode c_Mo_worst 10 = .ok (.getfield 29, 3) := by decide +kernel
theorem d_Mo_worst_13 : decode c_Mo_worst 13 = .ok (.iload_n 1, 1) := by decide +kernel
theorem d_Mo_worst_14 : decode c_Mo_worst 14 = .ok (.iaload, 1) := by decide +kernel
theorem d_Mo_worst_15 : decode c_Mo_worst 15 = .ok (.iconst (-1), 1) := by decide +kernel
theorem d_Mo_worst_16 : decode c_Mo_worst 16 = .ok (.if_icmp .eq 42, 3) := by decide +kernel
theorem d_Mo_worst_19 : decode c_Mo_worst 19 = .ok (.aload_n 0, 1) := by decide +kernel
theorem d_Mo_worst_20 : decode c_Mo_worst 20 = .ok (.getfield 29, 3) := by decide +kernel
theorem d_Mo_worst_23 : decode c_Mo_worst 23 = .ok (.iload_n 3, 1) := by decide +kernel
theorem d_Mo_worst_24 : decode c_Mo_worst 24 = .ok (.iaload, 1) := by decide +kernel
theorem d_Mo_worst_25 : decode c_Mo_worst 25 = .ok (.aload_n 0, 1) := by decide +kernel
theorem d_Mo_worst_26 : decode c_Mo_worst 26 = .ok (.getfield 29, 3) := by decide +kernel
theorem d_Mo_worst_29 : decode c_Mo_worst 29 = .ok (.iload_n 1, 1) := by decide +kernel
theorem d_Mo_worst_30 : decode c_Mo_worst 30 = .ok (.iaload, 1) := by decide +kernel
theorem d_Mo_worst_31 : decode c_Mo_worst 31 = .ok (.if_icmp .ne 27, 3) := by decide +kernel
theorem d_Mo_worst_34 : decode c_Mo_worst 34 = .ok (.aload_n 0, 1) := by decide +kernel
theorem d_Mo_worst_35 : decode c_Mo_worst 35 = .ok (.getfield 7, 3) := by decide +kernel
theorem d_Mo_worst_38 : decode c_Mo_worst 38 = .ok (.bipush 10, 2) := by decide +kernel
theorem d_Mo_worst_40 : decode c_Mo_worst 40 = .ok (.aload_n 0, 1) := by decide +kernel
theorem d_Mo_worst_41 : decode c_Mo_worst 41 = .ok (.getfield 32, 3) := by decide +kernel
theorem d_Mo_worst_44 : decode c_Mo_worst 44 = .ok (.iload_n 1, 1) := by decide +kernel
theorem d_Mo_worst_45 : decode c_Mo_worst 45 = .ok (.iaload, 1) := by decide +kernel
theorem d_Mo_worst_46 : decode c_Mo_worst 46 = .ok (.imul, 1) := by decide +kernel
theorem d_Mo_worst_47 : decode c_Mo_worst 47 = .ok (.aload_n 0, 1) := by decide +kernel
theorem d_Mo_worst_48 : decode c_Mo_worst 48 = .ok (.getfield 32, 3) := by decide +kernel
theorem d_Mo_worst_51 : decode c_Mo_worst 51 = .ok (.iload_n 3, 1) := by decide +kernel
theorem d_Mo_worst_52 : decode c_Mo_worst 52 = .ok (.iaload, 1) := by decide +kernel
theorem d_Mo_worst_53 : decode c_Mo_worst 53 = .ok (.iadd, 1) := by decide +kernel
theorem d_Mo_worst_54 : decode c_Mo_worst 54 = .ok (.iaload, 1) := by decide +kernel
theorem d_Mo_worst_55 : decode c_Mo_worst 55 = .ok (.goto 4, 3) := by decide +kernel
theorem d_Mo_worst_58 : decode c_Mo_worst 58 = .ok (.iconst 0, 1) := by decide +kernel
theorem d_Mo_worst_59 : decode c_Mo_worst 59 = .ok (.istore 4, 2) := by decide +kernel
theorem d_Mo_worst_61 : decode c_Mo_worst 61 = .ok (.iload 4, 2) := by decide +kernel
theorem d_Mo_worst_63 : decode c_Mo_worst 63 = .ok (.iload_n 2, 1) := by decide +kernel
theorem d_Mo_worst_64 : decode c_Mo_worst 64 = .ok (.if_icmp .le 8, 3) := by decide +kernel
theorem d_Mo_worst_67 : decode c_Mo_worst 67 = .ok (.iload 4, 2) := by decide +kernel
theorem d_Mo_worst_69 : decode c_Mo_worst 69 = .ok (.goto 4, 3) := by decide +kernel
theorem d_Mo_worst_72 : decode c_Mo_worst 72 = .ok (.iload_n 2, 1) := by decide +kernel
theorem d_Mo_worst_73 : decode c_Mo_worst 73 = .ok (.istore_n 2, 1) := by decide +kernel
theorem d_Mo_worst_74 : decode c_Mo_worst 74 = .ok (.iinc 3 1, 3) := by decide +kernel
theorem d_Mo_worst_77 : decode c_Mo_worst 77 = .ok (.goto (-73), 3) := by decide +kernel
theorem d_Mo_worst_80 : decode c_Mo_worst 80 = .ok (.iload_n 2, 1) := by decide +kernel
theorem d_Mo_worst_81 : decode c_Mo_worst 81 = .ok (.ireturn, 1) := by decide +kernel
abbrev c_Mo_isNamedBefore : ByteArray := prog_14_method_38_code
abbrev r_Mo_isNamedBefore : Option FieldType := (some FieldType.boolean)
def y_Mo_isNamedBefore : MethodName := ⟨"PinKindChecksModel", "isNamedBefore", "(I)Z"⟩
theorem d_Mo_isNamedBefore_0 : decode c_Mo_isNamedBefore 0 = .ok (.iconst 0, 1) := by decide +kernel
theorem d_Mo_isNamedBefore_1 : decode c_Mo_isNamedBefore 1 = .ok (.istore_n 2, 1) := by decide +kernel
theorem d_Mo_isNamedBefore_2 : decode c_Mo_isNamedBefore 2 = .ok (.iconst 0, 1) := by decide +kernel
theorem d_Mo_isNamedBefore_3 : decode c_Mo_isNamedBefore 3 = .ok (.istore_n 3, 1) := by decide +kernel
theorem d_Mo_isNamedBefore_4 : decode c_Mo_isNamedBefore 4 = .ok (.iload_n 3, 1) := by decide +kernel
theorem d_Mo_isNamedBefore_5 : decode c_Mo_isNamedBefore 5 = .ok (.iload_n 1, 1) := by decide +kernel
theorem d_Mo_isNamedBefore_6 : decode c_Mo_isNamedBefore 6 = .ok (.if_icmp .ge 34, 3) := by decide +kernel
theorem d_Mo_isNamedBefore_9 : decode c_Mo_isNamedBefore 9 = .ok (.iload_n 2, 1) := by decide +kernel
theorem d_Mo_isNamedBefore_10 : decode c_Mo_isNamedBefore 10 = .ok (.ifCond .ne 18, 3) := by decide +kernel
theorem d_Mo_isNamedBefore_13 : decode c_Mo_isNamedBefore 13 = .ok (.aload_n 0, 1) := by decide +kernel
theorem d_Mo_isNamedBefore_14 : decode c_Mo_isNamedBefore 14 = .ok (.getfield 23, 3) := by decide +kernel
theorem d_Mo_isNamedBefore_17 : decode c_Mo_isNamedBefore 17 = .ok (.iload_n 3, 1) := by decide +kernel
theorem d_Mo_isNamedBefore_18 : decode c_Mo_isNamedBefore 18 = .ok (.iaload, 1) := by decide +kernel
theorem d_Mo_isNamedBefore_19 : decode c_Mo_isNamedBefore 19 = .ok (.aload_n 0, 1) := by decide +kernel
theorem d_Mo_isNamedBefore_20 : decode c_Mo_isNamedBefore 20 = .ok (.getfield 23, 3) := by decide +kernel
theorem d_Mo_isNamedBefore_23 : decode c_Mo_isNamedBefore 23 = .ok (.iload_n 1, 1) := by decide +kernel
theorem d_Mo_isNamedBefore_24 : decode c_Mo_isNamedBefore 24 = .ok (.iaload, 1) := by decide +kernel
theorem d_Mo_isNamedBefore_25 : decode c_Mo_isNamedBefore 25 = .ok (.if_icmp .ne 7, 3) := by decide +kernel
theorem d_Mo_isNamedBefore_28 : decode c_Mo_isNamedBefore 28 = .ok (.iconst 1, 1) := by decide +kernel
theorem d_Mo_isNamedBefore_29 : decode c_Mo_isNamedBefore 29 = .ok (.goto 4, 3) := by decide +kernel
theorem d_Mo_isNamedBefore_32 : decode c_Mo_isNamedBefore 32 = .ok (.iconst 0, 1) := by decide +kernel
theorem d_Mo_isNamedBefore_33 : decode c_Mo_isNamedBefore 33 = .ok (.istore_n 2, 1) := by decide +kernel
theorem d_Mo_isNamedBefore_34 : decode c_Mo_isNamedBefore 34 = .ok (.iinc 3 1, 3) := by decide +kernel
theorem d_Mo_isNamedBefore_37 : decode c_Mo_isNamedBefore 37 = .ok (.goto (-33), 3) := by decide +kernel
theorem d_Mo_isNamedBefore_40 : decode c_Mo_isNamedBefore 40 = .ok (.iload_n 2, 1) := by decide +kernel
theorem d_Mo_isNamedBefore_41 : decode c_Mo_isNamedBefore 41 = .ok (.ireturn, 1) := by decide +kernel
abbrev c_Mo_isOffGrid : ByteArray := prog_14_method_39_code
abbrev r_Mo_isOffGrid : Option FieldType := (some FieldType.boolean)
def y_Mo_isOffGrid : MethodName := ⟨"PinKindChecksModel", "isOffGrid", "(I)Z"⟩
theorem d_Mo_isOffGrid_0 : decode c_Mo_isOffGrid 0 = .ok (.iconst 0, 1) := by decide +kernel
theorem d_Mo_isOffGrid_1 : decode c_Mo_isOffGrid 1 = .ok (.istore_n 2, 1) := by decide +kernel
theorem d_Mo_isOffGrid_2 : decode c_Mo_isOffGrid 2 = .ok (.iconst 0, 1) := by decide +kernel
theorem d_Mo_isOffGrid_3 : decode c_Mo_isOffGrid 3 = .ok (.istore_n 3, 1) := by decide +kernel
theorem d_Mo_isOffGrid_4 : decode c_Mo_isOffGrid 4 = .ok (.iload_n 3, 1) := by decide +kernel
theorem d_Mo_isOffGrid_5 : decode c_Mo_isOffGrid 5 = .ok (.aload_n 0, 1) := by decide +kernel
theorem d_Mo_isOffGrid_6 : decode c_Mo_isOffGrid 6 = .ok (.getfield 116, 3) := by decide +kernel
theorem d_Mo_isOffGrid_9 : decode c_Mo_isOffGrid 9 = .ok (.if_icmp .ge 59, 3) := by decide +kernel
theorem d_Mo_isOffGrid_12 : decode c_Mo_isOffGrid 12 = .ok (.iload_n 2, 1) := by decide +kernel
theorem d_Mo_isOffGrid_13 : decode c_Mo_isOffGrid 13 = .ok (.ifCond .ne 43, 3) := by decide +kernel
theorem d_Mo_isOffGrid_16 : decode c_Mo_isOffGrid 16 = .ok (.aload_n 0, 1) := by decide +kernel
theorem d_Mo_isOffGrid_17 : decode c_Mo_isOffGrid 17 = .ok (.getfield 35, 3) := by decide +kernel
theorem d_Mo_isOffGrid_20 : decode c_Mo_isOffGrid 20 = .ok (.iload_n 3, 1) := by decide +kernel
theorem d_Mo_isOffGrid_21 : decode c_Mo_isOffGrid 21 = .ok (.iaload, 1) := by decide +kernel
theorem d_Mo_isOffGrid_22 : decode c_Mo_isOffGrid 22 = .ok (.iload_n 1, 1) := by decide +kernel
theorem d_Mo_isOffGrid_23 : decode c_Mo_isOffGrid 23 = .ok (.if_icmp .ne 37, 3) := by decide +kernel
theorem d_Mo_isOffGrid_26 : decode c_Mo_isOffGrid 26 = .ok (.aload_n 0, 1) := by decide +kernel
theorem d_Mo_isOffGrid_27 : decode c_Mo_isOffGrid 27 = .ok (.getfield 38, 3) := by decide +kernel
theorem d_Mo_isOffGrid_30 : decode c_Mo_isOffGrid 30 = .ok (.iload_n 3, 1) := by decide +kernel
theorem d_Mo_isOffGrid_31 : decode c_Mo_isOffGrid 31 = .ok (.laload, 1) := by decide +kernel
theorem d_Mo_isOffGrid_32 : decode c_Mo_isOffGrid 32 = .ok (.ldc2_w 237, 3) := by decide +kernel
theorem d_Mo_isOffGrid_35 : decode c_Mo_isOffGrid 35 = .ok (.lrem, 1) := by decide +kernel
theorem d_Mo_isOffGrid_36 : decode c_Mo_isOffGrid 36 = .ok (.lconst 0, 1) := by decide +kernel
theorem d_Mo_isOffGrid_37 : decode c_Mo_isOffGrid 37 = .ok (.lcmp, 1) := by decide +kernel
theorem d_Mo_isOffGrid_38 : decode c_Mo_isOffGrid 38 = .ok (.ifCond .ne 18, 3) := by decide +kernel
theorem d_Mo_isOffGrid_41 : decode c_Mo_isOffGrid 41 = .ok (.aload_n 0, 1) := by decide +kernel
theorem d_Mo_isOffGrid_42 : decode c_Mo_isOffGrid 42 = .ok (.getfield 41, 3) := by decide +kernel
theorem d_Mo_isOffGrid_45 : decode c_Mo_isOffGrid 45 = .ok (.iload_n 3, 1) := by decide +kernel
theorem d_Mo_isOffGrid_46 : decode c_Mo_isOffGrid 46 = .ok (.laload, 1) := by decide +kernel
theorem d_Mo_isOffGrid_47 : decode c_Mo_isOffGrid 47 = .ok (.ldc2_w 237, 3) := by decide +kernel
theorem d_Mo_isOffGrid_50 : decode c_Mo_isOffGrid 50 = .ok (.lrem, 1) := by decide +kernel
theorem d_Mo_isOffGrid_51 : decode c_Mo_isOffGrid 51 = .ok (.lconst 0, 1) := by decide +kernel
theorem d_Mo_isOffGrid_52 : decode c_Mo_isOffGrid 52 = .ok (.lcmp, 1) := by decide +kernel
theorem d_Mo_isOffGrid_53 : decode c_Mo_isOffGrid 53 = .ok (.ifCond .eq 7, 3) := by decide +kernel
theorem d_Mo_isOffGrid_56 : decode c_Mo_isOffGrid 56 = .ok (.iconst 1, 1) := by decide +kernel
theorem d_Mo_isOffGrid_57 : decode c_Mo_isOffGrid 57 = .ok (.goto 4, 3) := by decide +kernel
theorem d_Mo_isOffGrid_60 : decode c_Mo_isOffGrid 60 = .ok (.iconst 0, 1) := by decide +kernel
theorem d_Mo_isOffGrid_61 : decode c_Mo_isOffGrid 61 = .ok (.istore_n 2, 1) := by decide +kernel
theorem d_Mo_isOffGrid_62 : decode c_Mo_isOffGrid 62 = .ok (.iinc 3 1, 3) := by decide +kernel
theorem d_Mo_isOffGrid_65 : decode c_Mo_isOffGrid 65 = .ok (.goto (-61), 3) := by decide +kernel
theorem d_Mo_isOffGrid_68 : decode c_Mo_isOffGrid 68 = .ok (.iload_n 2, 1) := by decide +kernel
theorem d_Mo_isOffGrid_69 : decode c_Mo_isOffGrid 69 = .ok (.ireturn, 1) := by decide +kernel
abbrev c_Mo_reason : ByteArray := prog_14_method_44_code
abbrev r_Mo_reason : Option FieldType := (some FieldType.int)
def y_Mo_reason : MethodName := ⟨"PinKindChecksModel", "reason", "(I)I"⟩
theorem d_Mo_reason_0 : decode c_Mo_reason 0 = .ok (.iconst (-1), 1) := by decide +kernel
theorem d_Mo_reason_1 : decode c_Mo_reason 1 = .ok (.istore_n 2, 1) := by decide +kernel
theorem d_Mo_reason_2 : decode c_Mo_reason 2 = .ok (.iconst 0, 1) := by decide +kernel
theorem d_Mo_reason_3 : decode c_Mo_reason 3 = .ok (.istore_n 3, 1) := by decide +kernel
theorem d_Mo_reason_4 : decode c_Mo_reason 4 = .ok (.iload_n 3, 1) := by decide +kernel
theorem d_Mo_reason_5 : decode c_Mo_reason 5 = .ok (.aload_n 0, 1) := by decide +kernel
theorem d_Mo_reason_6 : decode c_Mo_reason 6 = .ok (.getfield 268, 3) := by decide +kernel
theorem d_Mo_reason_9 : decode c_Mo_reason 9 = .ok (.if_icmp .ge 30, 3) := by decide +kernel
theorem d_Mo_reason_12 : decode c_Mo_reason 12 = .ok (.aload_n 0, 1) := by decide +kernel
theorem d_Mo_reason_13 : decode c_Mo_reason 13 = .ok (.getfield 79, 3) := by decide +kernel
theorem d_Mo_reason_16 : decode c_Mo_reason 16 = .ok (.iload_n 3, 1) := by decide +kernel
theorem d_Mo_reason_17 : decode c_Mo_reason 17 = .ok (.iaload, 1) := by decide +kernel
theorem d_Mo_reason_18 : decode c_Mo_reason 18 = .ok (.iload_n 1, 1) := by decide +kernel
theorem d_Mo_reason_19 : decode c_Mo_reason 19 = .ok (.if_icmp .ne 12, 3) := by decide +kernel
theorem d_Mo_reason_22 : decode c_Mo_reason 22 = .ok (.aload_n 0, 1) := by decide +kernel
theorem d_Mo_reason_23 : decode c_Mo_reason 23 = .ok (.getfield 82, 3) := by decide +kernel
theorem d_Mo_reason_26 : decode c_Mo_reason 26 = .ok (.iload_n 3, 1) := by decide +kernel
theorem d_Mo_reason_27 : decode c_Mo_reason 27 = .ok (.iaload, 1) := by decide +kernel
theorem d_Mo_reason_28 : decode c_Mo_reason 28 = .ok (.goto 4, 3) := by decide +kernel
theorem d_Mo_reason_31 : decode c_Mo_reason 31 = .ok (.iload_n 2, 1) := by decide +kernel
theorem d_Mo_reason_32 : decode c_Mo_reason 32 = .ok (.istore_n 2, 1) := by decide +kernel
theorem d_Mo_reason_33 : decode c_Mo_reason 33 = .ok (.iinc 3 1, 3) := by decide +kernel
theorem d_Mo_reason_36 : decode c_Mo_reason 36 = .ok (.goto (-32), 3) := by decide +kernel
theorem d_Mo_reason_39 : decode c_Mo_reason 39 = .ok (.iload_n 2, 1) := by decide +kernel
theorem d_Mo_reason_40 : decode c_Mo_reason 40 = .ok (.ireturn, 1) := by decide +kernel
abbrev c_Mo_remark : ByteArray := prog_14_method_48_code
abbrev r_Mo_remark : Option FieldType := (some FieldType.int)
def y_Mo_remark : MethodName := ⟨"PinKindChecksModel", "remark", "(II)I"⟩
theorem d_Mo_remark_0 : decode c_Mo_remark 0 = .ok (.aload_n 0, 1) := by decide +kernel
theorem d_Mo_remark_1 : decode c_Mo_remark 1 = .ok (.iload_n 1, 1) := by decide +kernel
theorem d_Mo_remark_2 : decode c_Mo_remark 2 = .ok (.iconst 0, 1) := by decide +kernel
theorem d_Mo_remark_3 : decode c_Mo_remark 3 = .ok (.invokevirtual 271, 3) := by decide +kernel
theorem d_Mo_remark_6 : decode c_Mo_remark 6 = .ok (.istore_n 3, 1) := by decide +kernel
theorem d_Mo_remark_7 : decode c_Mo_remark 7 = .ok (.aload_n 0, 1) := by decide +kernel
theorem d_Mo_remark_8 : decode c_Mo_remark 8 = .ok (.iload_n 3, 1) := by decide +kernel
theorem d_Mo_remark_9 : decode c_Mo_remark 9 = .ok (.iconst (-1), 1) := by decide +kernel
theorem d_Mo_remark_10 : decode c_Mo_remark 10 = .ok (.if_icmp .eq 12, 3) := by decide +kernel
theorem d_Mo_remark_13 : decode c_Mo_remark 13 = .ok (.iload_n 2, 1) := by decide +kernel
theorem d_Mo_remark_14 : decode c_Mo_remark 14 = .ok (.ifCond .lt 8, 3) := by decide +kernel
theorem d_Mo_remark_17 : decode c_Mo_remark 17 = .ok (.iload_n 2, 1) := by decide +kernel
theorem d_Mo_remark_18 : decode c_Mo_remark 18 = .ok (.iconst 5, 1) := by decide +kernel
theorem d_Mo_remark_19 : decode c_Mo_remark 19 = .ok (.if_icmp .le 7, 3) := by decide +kernel
theorem d_Mo_remark_22 : decode c_Mo_remark 22 = .ok (.iconst 1, 1) := by decide +kernel
theorem d_Mo_remark_23 : decode c_Mo_remark 23 = .ok (.goto 4, 3) := by decide +kernel
theorem d_Mo_remark_26 : decode c_Mo_remark 26 = .ok (.iconst 0, 1) := by decide +kernel
theorem d_Mo_remark_27 : decode c_Mo_remark 27 = .ok (.putfield 91, 3) := by decide +kernel
theorem d_Mo_remark_30 : decode c_Mo_remark 30 = .ok (.aload_n 0, 1) := by decide +kernel
theorem d_Mo_remark_31 : decode c_Mo_remark 31 = .ok (.getfield 91, 3) := by decide +kernel
theorem d_Mo_remark_34 : decode c_Mo_remark 34 = .ok (.ifCond .eq 5, 3) := by decide +kernel
theorem d_Mo_remark_37 : decode c_Mo_remark 37 = .ok (.iconst 0, 1) := by decide +kernel
theorem d_Mo_remark_38 : decode c_Mo_remark 38 = .ok (.ireturn, 1) := by decide +kernel
theorem d_Mo_remark_39 : decode c_Mo_remark 39 = .ok (.iload_n 2, 1) := by decide +kernel
theorem d_Mo_remark_40 : decode c_Mo_remark 40 = .ok (.tableswitch 66 0 4 #[36, 42, 47, 52, 59], 36) := by decide +kernel
theorem d_Mo_remark_76 : decode c_Mo_remark 76 = .ok (.iload_n 3, 1) := by decide +kernel
theorem d_Mo_remark_77 : decode c_Mo_remark 77 = .ok (.sipush 240, 3) := by decide +kernel
theorem d_Mo_remark_80 : decode c_Mo_remark 80 = .ok (.idiv, 1) := by decide +kernel
theorem d_Mo_remark_81 : decode c_Mo_remark 81 = .ok (.ireturn, 1) := by decide +kernel
theorem d_Mo_remark_82 : decode c_Mo_remark 82 = .ok (.iload_n 3, 1) := by decide +kernel
theorem d_Mo_remark_83 : decode c_Mo_remark 83 = .ok (.invokestatic 275, 3) := by decide +kernel
theorem d_Mo_remark_86 : decode c_Mo_remark 86 = .ok (.ireturn, 1) := by decide +kernel
theorem d_Mo_remark_87 : decode c_Mo_remark 87 = .ok (.iload_n 3, 1) := by decide +kernel
theorem d_Mo_remark_88 : decode c_Mo_remark 88 = .ok (.invokestatic 278, 3) := by decide +kernel
theorem d_Mo_remark_91 : decode c_Mo_remark 91 = .ok (.ireturn, 1) := by decide +kernel
theorem d_Mo_remark_92 : decode c_Mo_remark 92 = .ok (.aload_n 0, 1) := by decide +kernel
theorem d_Mo_remark_93 : decode c_Mo_remark 93 = .ok (.getfield 73, 3) := by decide +kernel
theorem d_Mo_remark_96 : decode c_Mo_remark 96 = .ok (.iload_n 3, 1) := by decide +kernel
theorem d_Mo_remark_97 : decode c_Mo_remark 97 = .ok (.iaload, 1) := by decide +kernel
theorem d_Mo_remark_98 : decode c_Mo_remark 98 = .ok (.ireturn, 1) := by decide +kernel
theorem d_Mo_remark_99 : decode c_Mo_remark 99 = .ok (.aload_n 0, 1) := by decide +kernel
theorem d_Mo_remark_100 : decode c_Mo_remark 100 = .ok (.getfield 70, 3) := by decide +kernel
theorem d_Mo_remark_103 : decode c_Mo_remark 103 = .ok (.iload_n 3, 1) := by decide +kernel
theorem d_Mo_remark_104 : decode c_Mo_remark 104 = .ok (.iaload, 1) := by decide +kernel
theorem d_Mo_remark_105 : decode c_Mo_remark 105 = .ok (.ireturn, 1) := by decide +kernel
theorem d_Mo_remark_106 : decode c_Mo_remark 106 = .ok (.aload_n 0, 1) := by decide +kernel
theorem d_Mo_remark_107 : decode c_Mo_remark 107 = .ok (.iload_n 3, 1) := by decide +kernel
theorem d_Mo_remark_108 : decode c_Mo_remark 108 = .ok (.invokevirtual 261, 3) := by decide +kernel
theorem d_Mo_remark_111 : decode c_Mo_remark 111 = .ok (.ireturn, 1) := by decide +kernel
abbrev c_Mo_remarkAt : ByteArray := prog_14_method_45_code
abbrev r_Mo_remarkAt : Option FieldType := (some FieldType.int)
def y_Mo_remarkAt : MethodName := ⟨"PinKindChecksModel", "remarkAt", "(IZ)I"⟩
theorem d_Mo_remarkAt_0 : decode c_Mo_remarkAt 0 = .ok (.iload_n 1, 1) := by decide +kernel
theorem d_Mo_remarkAt_1 : decode c_Mo_remarkAt 1 = .ok (.istore_n 3, 1) := by decide +kernel
theorem d_Mo_remarkAt_2 : decode c_Mo_remarkAt 2 = .ok (.iconst 0, 1) := by decide +kernel
theorem d_Mo_remarkAt_3 : decode c_Mo_remarkAt 3 = .ok (.istore 4, 2) := by decide +kernel
theorem d_Mo_remarkAt_5 : decode c_Mo_remarkAt 5 = .ok (.iload 4, 2) := by decide +kernel
theorem d_Mo_remarkAt_7 : decode c_Mo_remarkAt 7 = .ok (.bipush 16, 2) := by decide +kernel
theorem d_Mo_remarkAt_9 : decode c_Mo_remarkAt 9 = .ok (.if_icmp .ge 177, 3) := by decide +kernel
theorem d_Mo_remarkAt_12 : decode c_Mo_remarkAt 12 = .ok (.iload_n 1, 1) := by decide +kernel
theorem d_Mo_remarkAt_13 : decode c_Mo_remarkAt 13 = .ok (.ifCond .lt 173, 3) := by decide +kernel
theorem d_Mo_remarkAt_16 : decode c_Mo_remarkAt 16 = .ok (.aload_n 0, 1) := by decide +kernel
theorem d_Mo_remarkAt_17 : decode c_Mo_remarkAt 17 = .ok (.getfield 264, 3) := by decide +kernel
theorem d_Mo_remarkAt_20 : decode c_Mo_remarkAt 20 = .ok (.ifCond .eq 166, 3) := by decide +kernel
theorem d_Mo_remarkAt_23 : decode c_Mo_remarkAt 23 = .ok (.iconst 0, 1) := by decide +kernel
theorem d_Mo_remarkAt_24 : decode c_Mo_remarkAt 24 = .ok (.istore 5, 2) := by decide +kernel
theorem d_Mo_remarkAt_26 : decode c_Mo_remarkAt 26 = .ok (.iload 5, 2) := by decide +kernel
theorem d_Mo_remarkAt_28 : decode c_Mo_remarkAt 28 = .ok (.iconst 3, 1) := by decide +kernel
theorem d_Mo_remarkAt_29 : decode c_Mo_remarkAt 29 = .ok (.if_icmp .ge 151, 3) := by decide +kernel
theorem d_Mo_remarkAt_32 : decode c_Mo_remarkAt 32 = .ok (.iconst 0, 1) := by decide +kernel
theorem d_Mo_remarkAt_33 : decode c_Mo_remarkAt 33 = .ok (.istore 6, 2) := by decide +kernel
theorem d_Mo_remarkAt_35 : decode c_Mo_remarkAt 35 = .ok (.iload 6, 2) := by decide +kernel
theorem d_Mo_remarkAt_37 : decode c_Mo_remarkAt 37 = .ok (.aload_n 0, 1) := by decide +kernel
theorem d_Mo_remarkAt_38 : decode c_Mo_remarkAt 38 = .ok (.iload 5, 2) := by decide +kernel
theorem d_Mo_remarkAt_40 : decode c_Mo_remarkAt 40 = .ok (.invokevirtual 252, 3) := by decide +kernel
theorem d_Mo_remarkAt_43 : decode c_Mo_remarkAt 43 = .ok (.if_icmp .ge 131, 3) := by decide +kernel
theorem d_Mo_remarkAt_46 : decode c_Mo_remarkAt 46 = .ok (.aload_n 0, 1) := by decide +kernel
theorem d_Mo_remarkAt_47 : decode c_Mo_remarkAt 47 = .ok (.iload 5, 2) := by decide +kernel
theorem d_Mo_remarkAt_49 : decode c_Mo_remarkAt 49 = .ok (.iload 6, 2) := by decide +kernel
theorem d_Mo_remarkAt_51 : decode c_Mo_remarkAt 51 = .ok (.invokevirtual 226, 3) := by decide +kernel
theorem d_Mo_remarkAt_54 : decode c_Mo_remarkAt 54 = .ok (.iload 4, 2) := by decide +kernel
theorem d_Mo_remarkAt_56 : decode c_Mo_remarkAt 56 = .ok (.if_icmp .eq 6, 3) := by decide +kernel
theorem d_Mo_remarkAt_59 : decode c_Mo_remarkAt 59 = .ok (.goto 109, 3) := by decide +kernel
theorem d_Mo_remarkAt_62 : decode c_Mo_remarkAt 62 = .ok (.iconst 0, 1) := by decide +kernel
theorem d_Mo_remarkAt_63 : decode c_Mo_remarkAt 63 = .ok (.istore 7, 2) := by decide +kernel
theorem d_Mo_remarkAt_65 : decode c_Mo_remarkAt 65 = .ok (.iload 7, 2) := by decide +kernel
theorem d_Mo_remarkAt_67 : decode c_Mo_remarkAt 67 = .ok (.bipush 27, 2) := by decide +kernel
theorem d_Mo_remarkAt_69 : decode c_Mo_remarkAt 69 = .ok (.if_icmp .ge 99, 3) := by decide +kernel
theorem d_Mo_remarkAt_72 : decode c_Mo_remarkAt 72 = .ok (.sipush 240, 3) := by decide +kernel
theorem d_Mo_remarkAt_75 : decode c_Mo_remarkAt 75 = .ok (.iload 7, 2) := by decide +kernel
theorem d_Mo_remarkAt_77 : decode c_Mo_remarkAt 77 = .ok (.imul, 1) := by decide +kernel
theorem d_Mo_remarkAt_78 : decode c_Mo_remarkAt 78 = .ok (.iload 5, 2) := by decide +kernel
theorem d_Mo_remarkAt_80 : decode c_Mo_remarkAt 80 = .ok (.iload 6, 2) := by decide +kernel
theorem d_Mo_remarkAt_82 : decode c_Mo_remarkAt 82 = .ok (.invokestatic 255, 3) := by decide +kernel
theorem d_Mo_remarkAt_85 : decode c_Mo_remarkAt 85 = .ok (.iadd, 1) := by decide +kernel
theorem d_Mo_remarkAt_86 : decode c_Mo_remarkAt 86 = .ok (.istore 8, 2) := by decide +kernel
theorem d_Mo_remarkAt_88 : decode c_Mo_remarkAt 88 = .ok (.iload_n 2, 1) := by decide +kernel
theorem d_Mo_remarkAt_89 : decode c_Mo_remarkAt 89 = .ok (.ifCond .eq 31, 3) := by decide +kernel
theorem d_Mo_remarkAt_92 : decode c_Mo_remarkAt 92 = .ok (.aload_n 0, 1) := by decide +kernel
theorem d_Mo_remarkAt_93 : decode c_Mo_remarkAt 93 = .ok (.getfield 76, 3) := by decide +kernel
theorem d_Mo_remarkAt_96 : decode c_Mo_remarkAt 96 = .ok (.iload 8, 2) := by decide +kernel
theorem d_Mo_remarkAt_98 : decode c_Mo_remarkAt 98 = .ok (.iaload, 1) := by decide +kernel
theorem d_Mo_remarkAt_99 : decode c_Mo_remarkAt 99 = .ok (.ifCond .le 17, 3) := by decide +kernel
theorem d_Mo_remarkAt_102 : decode c_Mo_remarkAt 102 = .ok (.aload_n 0, 1) := by decide +kernel
theorem d_Mo_remarkAt_103 : decode c_Mo_remarkAt 103 = .ok (.getfield 70, 3) := by decide +kernel
theorem d_Mo_remarkAt_106 : decode c_Mo_remarkAt 106 = .ok (.iload 8, 2) := by decide +kernel
theorem d_Mo_remarkAt_108 : decode c_Mo_remarkAt 108 = .ok (.iaload, 1) := by decide +kernel
theorem d_Mo_remarkAt_109 : decode c_Mo_remarkAt 109 = .ok (.ifCond .ne 7, 3) := by decide +kernel
theorem d_Mo_remarkAt_112 : decode c_Mo_remarkAt 112 = .ok (.iconst 1, 1) := by decide +kernel
theorem d_Mo_remarkAt_113 : decode c_Mo_remarkAt 113 = .ok (.goto 22, 3) := by decide +kernel
theorem d_Mo_remarkAt_116 : decode c_Mo_remarkAt 116 = .ok (.iconst 0, 1) := by decide +kernel
theorem d_Mo_remarkAt_117 : decode c_Mo_remarkAt 117 = .ok (.goto 18, 3) := by decide +kernel
theorem d_Mo_remarkAt_120 : decode c_Mo_remarkAt 120 = .ok (.aload_n 0, 1) := by decide +kernel
theorem d_Mo_remarkAt_121 : decode c_Mo_remarkAt 121 = .ok (.getfield 70, 3) := by decide +kernel
theorem d_Mo_remarkAt_124 : decode c_Mo_remarkAt 124 = .ok (.iload 8, 2) := by decide +kernel
theorem d_Mo_remarkAt_126 : decode c_Mo_remarkAt 126 = .ok (.iaload, 1) := by decide +kernel
theorem d_Mo_remarkAt_127 : decode c_Mo_remarkAt 127 = .ok (.ifCond .le 7, 3) := by decide +kernel
theorem d_Mo_remarkAt_130 : decode c_Mo_remarkAt 130 = .ok (.iconst 1, 1) := by decide +kernel
theorem d_Mo_remarkAt_131 : decode c_Mo_remarkAt 131 = .ok (.goto 4, 3) := by decide +kernel
theorem d_Mo_remarkAt_134 : decode c_Mo_remarkAt 134 = .ok (.iconst 0, 1) := by decide +kernel
theorem d_Mo_remarkAt_135 : decode c_Mo_remarkAt 135 = .ok (.istore 9, 2) := by decide +kernel
theorem d_Mo_remarkAt_137 : decode c_Mo_remarkAt 137 = .ok (.iload 9, 2) := by decide +kernel
theorem d_Mo_remarkAt_139 : decode c_Mo_remarkAt 139 = .ok (.ifCond .eq 10, 3) := by decide +kernel
theorem d_Mo_remarkAt_142 : decode c_Mo_remarkAt 142 = .ok (.iload_n 3, 1) := by decide +kernel
theorem d_Mo_remarkAt_143 : decode c_Mo_remarkAt 143 = .ok (.ifCond .ne 6, 3) := by decide +kernel
theorem d_Mo_remarkAt_146 : decode c_Mo_remarkAt 146 = .ok (.iload 8, 2) := by decide +kernel
theorem d_Mo_remarkAt_148 : decode c_Mo_remarkAt 148 = .ok (.ireturn, 1) := by decide +kernel
theorem d_Mo_remarkAt_149 : decode c_Mo_remarkAt 149 = .ok (.iload_n 3, 1) := by decide +kernel
theorem d_Mo_remarkAt_150 : decode c_Mo_remarkAt 150 = .ok (.iload 9, 2) := by decide +kernel
theorem d_Mo_remarkAt_152 : decode c_Mo_remarkAt 152 = .ok (.ifCond .eq 7, 3) := by decide +kernel
theorem d_Mo_remarkAt_155 : decode c_Mo_remarkAt 155 = .ok (.iconst 1, 1) := by decide +kernel
theorem d_Mo_remarkAt_156 : decode c_Mo_remarkAt 156 = .ok (.goto 4, 3) := by decide +kernel
theorem d_Mo_remarkAt_159 : decode c_Mo_remarkAt 159 = .ok (.iconst 0, 1) := by decide +kernel
theorem d_Mo_remarkAt_160 : decode c_Mo_remarkAt 160 = .ok (.isub, 1) := by decide +kernel
theorem d_Mo_remarkAt_161 : decode c_Mo_remarkAt 161 = .ok (.istore_n 3, 1) := by decide +kernel
theorem d_Mo_remarkAt_162 : decode c_Mo_remarkAt 162 = .ok (.iinc 7 1, 3) := by decide +kernel
theorem d_Mo_remarkAt_165 : decode c_Mo_remarkAt 165 = .ok (.goto (-100), 3) := by decide +kernel
theorem d_Mo_remarkAt_168 : decode c_Mo_remarkAt 168 = .ok (.iinc 6 1, 3) := by decide +kernel
theorem d_Mo_remarkAt_171 : decode c_Mo_remarkAt 171 = .ok (.goto (-136), 3) := by decide +kernel
theorem d_Mo_remarkAt_174 : decode c_Mo_remarkAt 174 = .ok (.iinc 5 1, 3) := by decide +kernel
theorem d_Mo_remarkAt_177 : decode c_Mo_remarkAt 177 = .ok (.goto (-151), 3) := by decide +kernel
theorem d_Mo_remarkAt_180 : decode c_Mo_remarkAt 180 = .ok (.iinc 4 1, 3) := by decide +kernel
theorem d_Mo_remarkAt_183 : decode c_Mo_remarkAt 183 = .ok (.goto (-178), 3) := by decide +kernel
theorem d_Mo_remarkAt_186 : decode c_Mo_remarkAt 186 = .ok (.iconst (-1), 1) := by decide +kernel
theorem d_Mo_remarkAt_187 : decode c_Mo_remarkAt 187 = .ok (.ireturn, 1) := by decide +kernel
abbrev c_Mo_kindOf : ByteArray := prog_14_method_46_code
abbrev r_Mo_kindOf : Option FieldType := (some FieldType.int)
def y_Mo_kindOf : MethodName := ⟨"PinKindChecksModel", "kindOf", "(I)I"⟩
theorem d_Mo_kindOf_0 : decode c_Mo_kindOf 0 = .ok (.iload_n 0, 1) := by decide +kernel
theorem d_Mo_kindOf_1 : decode c_Mo_kindOf 1 = .ok (.sipush 240, 3) := by decide +kernel
theorem d_Mo_kindOf_4 : decode c_Mo_kindOf 4 = .ok (.irem, 1) := by decide +kernel
theorem d_Mo_kindOf_5 : decode c_Mo_kindOf 5 = .ok (.istore_n 1, 1) := by decide +kernel
theorem d_Mo_kindOf_6 : decode c_Mo_kindOf 6 = .ok (.iload_n 1, 1) := by decide +kernel
theorem d_Mo_kindOf_7 : decode c_Mo_kindOf 7 = .ok (.bipush 40, 2) := by decide +kernel
theorem d_Mo_kindOf_9 : decode c_Mo_kindOf 9 = .ok (.if_icmp .ge 7, 3) := by decide +kernel
theorem d_Mo_kindOf_12 : decode c_Mo_kindOf 12 = .ok (.iconst 0, 1) := by decide +kernel
theorem d_Mo_kindOf_13 : decode c_Mo_kindOf 13 = .ok (.goto 14, 3) := by decide +kernel
theorem d_Mo_kindOf_16 : decode c_Mo_kindOf 16 = .ok (.iload_n 1, 1) := by decide +kernel
theorem d_Mo_kindOf_17 : decode c_Mo_kindOf 17 = .ok (.bipush 80, 2) := by decide +kernel
theorem d_Mo_kindOf_19 : decode c_Mo_kindOf 19 = .ok (.if_icmp .ge 7, 3) := by decide +kernel
theorem d_Mo_kindOf_22 : decode c_Mo_kindOf 22 = .ok (.iconst 1, 1) := by decide +kernel
theorem d_Mo_kindOf_23 : decode c_Mo_kindOf 23 = .ok (.goto 4, 3) := by decide +kernel
theorem d_Mo_kindOf_26 : decode c_Mo_kindOf 26 = .ok (.iconst 2, 1) := by decide +kernel
theorem d_Mo_kindOf_27 : decode c_Mo_kindOf 27 = .ok (.ireturn, 1) := by decide +kernel
abbrev c_Mo_numberOf : ByteArray := prog_14_method_47_code
abbrev r_Mo_numberOf : Option FieldType := (some FieldType.int)
def y_Mo_numberOf : MethodName := ⟨"PinKindChecksModel", "numberOf", "(I)I"⟩
theorem d_Mo_numberOf_0 : decode c_Mo_numberOf 0 = .ok (.iload_n 0, 1) := by decide +kernel
theorem d_Mo_numberOf_1 : decode c_Mo_numberOf 1 = .ok (.sipush 240, 3) := by decide +kernel
theorem d_Mo_numberOf_4 : decode c_Mo_numberOf 4 = .ok (.irem, 1) := by decide +kernel
theorem d_Mo_numberOf_5 : decode c_Mo_numberOf 5 = .ok (.istore_n 1, 1) := by decide +kernel
theorem d_Mo_numberOf_6 : decode c_Mo_numberOf 6 = .ok (.iload_n 1, 1) := by decide +kernel
theorem d_Mo_numberOf_7 : decode c_Mo_numberOf 7 = .ok (.bipush 40, 2) := by decide +kernel
theorem d_Mo_numberOf_9 : decode c_Mo_numberOf 9 = .ok (.if_icmp .ge 7, 3) := by decide +kernel
theorem d_Mo_numberOf_12 : decode c_Mo_numberOf 12 = .ok (.iload_n 1, 1) := by decide +kernel
theorem d_Mo_numberOf_13 : decode c_Mo_numberOf 13 = .ok (.goto 20, 3) := by decide +kernel
theorem d_Mo_numberOf_16 : decode c_Mo_numberOf 16 = .ok (.iload_n 1, 1) := by decide +kernel
theorem d_Mo_numberOf_17 : decode c_Mo_numberOf 17 = .ok (.bipush 80, 2) := by decide +kernel
theorem d_Mo_numberOf_19 : decode c_Mo_numberOf 19 = .ok (.if_icmp .ge 10, 3) := by decide +kernel
theorem d_Mo_numberOf_22 : decode c_Mo_numberOf 22 = .ok (.iload_n 1, 1) := by decide +kernel
theorem d_Mo_numberOf_23 : decode c_Mo_numberOf 23 = .ok (.bipush 40, 2) := by decide +kernel
theorem d_Mo_numberOf_25 : decode c_Mo_numberOf 25 = .ok (.isub, 1) := by decide +kernel
theorem d_Mo_numberOf_26 : decode c_Mo_numberOf 26 = .ok (.goto 7, 3) := by decide +kernel
theorem d_Mo_numberOf_29 : decode c_Mo_numberOf 29 = .ok (.iload_n 1, 1) := by decide +kernel
theorem d_Mo_numberOf_30 : decode c_Mo_numberOf 30 = .ok (.bipush 80, 2) := by decide +kernel
theorem d_Mo_numberOf_32 : decode c_Mo_numberOf 32 = .ok (.isub, 1) := by decide +kernel
theorem d_Mo_numberOf_33 : decode c_Mo_numberOf 33 = .ok (.ireturn, 1) := by decide +kernel
abbrev c_Mo_closed : ByteArray := prog_14_method_49_code
abbrev r_Mo_closed : Option FieldType := (some FieldType.int)
def y_Mo_closed : MethodName := ⟨"PinKindChecksModel", "closed", "(II)I"⟩
theorem d_Mo_closed_0 : decode c_Mo_closed 0 = .ok (.aload_n 0, 1) := by decide +kernel
theorem d_Mo_closed_1 : decode c_Mo_closed 1 = .ok (.iload_n 1, 1) := by decide +kernel
theorem d_Mo_closed_2 : decode c_Mo_closed 2 = .ok (.iconst 1, 1) := by decide +kernel
theorem d_Mo_closed_3 : decode c_Mo_closed 3 = .ok (.invokevirtual 271, 3) := by decide +kernel
theorem d_Mo_closed_6 : decode c_Mo_closed 6 = .ok (.istore_n 3, 1) := by decide +kernel
theorem d_Mo_closed_7 : decode c_Mo_closed 7 = .ok (.aload_n 0, 1) := by decide +kernel
theorem d_Mo_closed_8 : decode c_Mo_closed 8 = .ok (.iload_n 3, 1) := by decide +kernel
theorem d_Mo_closed_9 : decode c_Mo_closed 9 = .ok (.iconst (-1), 1) := by decide +kernel
theorem d_Mo_closed_10 : decode c_Mo_closed 10 = .ok (.if_icmp .eq 12, 3) := by decide +kernel
theorem d_Mo_closed_13 : decode c_Mo_closed 13 = .ok (.iload_n 2, 1) := by decide +kernel
theorem d_Mo_closed_14 : decode c_Mo_closed 14 = .ok (.ifCond .lt 8, 3) := by decide +kernel
theorem d_Mo_closed_17 : decode c_Mo_closed 17 = .ok (.iload_n 2, 1) := by decide +kernel
theorem d_Mo_closed_18 : decode c_Mo_closed 18 = .ok (.iconst 3, 1) := by decide +kernel
theorem d_Mo_closed_19 : decode c_Mo_closed 19 = .ok (.if_icmp .le 7, 3) := by decide +kernel
theorem d_Mo_closed_22 : decode c_Mo_closed 22 = .ok (.iconst 1, 1) := by decide +kernel
theorem d_Mo_closed_23 : decode c_Mo_closed 23 = .ok (.goto 4, 3) := by decide +kernel
theorem d_Mo_closed_26 : decode c_Mo_closed 26 = .ok (.iconst 0, 1) := by decide +kernel
theorem d_Mo_closed_27 : decode c_Mo_closed 27 = .ok (.putfield 91, 3) := by decide +kernel
theorem d_Mo_closed_30 : decode c_Mo_closed 30 = .ok (.aload_n 0, 1) := by decide +kernel
theorem d_Mo_closed_31 : decode c_Mo_closed 31 = .ok (.getfield 91, 3) := by decide +kernel
theorem d_Mo_closed_34 : decode c_Mo_closed 34 = .ok (.ifCond .eq 5, 3) := by decide +kernel
theorem d_Mo_closed_37 : decode c_Mo_closed 37 = .ok (.iconst 0, 1) := by decide +kernel
theorem d_Mo_closed_38 : decode c_Mo_closed 38 = .ok (.ireturn, 1) := by decide +kernel
theorem d_Mo_closed_39 : decode c_Mo_closed 39 = .ok (.iload_n 2, 1) := by decide +kernel
theorem d_Mo_closed_40 : decode c_Mo_closed 40 = .ok (.ifCond .ne 11, 3) := by decide +kernel
theorem d_Mo_closed_43 : decode c_Mo_closed 43 = .ok (.iload_n 3, 1) := by decide +kernel
theorem d_Mo_closed_44 : decode c_Mo_closed 44 = .ok (.sipush 240, 3) := by decide +kernel
theorem d_Mo_closed_47 : decode c_Mo_closed 47 = .ok (.idiv, 1) := by decide +kernel
theorem d_Mo_closed_48 : decode c_Mo_closed 48 = .ok (.goto 33, 3) := by decide +kernel
theorem d_Mo_closed_51 : decode c_Mo_closed 51 = .ok (.iload_n 2, 1) := by decide +kernel
theorem d_Mo_closed_52 : decode c_Mo_closed 52 = .ok (.iconst 1, 1) := by decide +kernel
theorem d_Mo_closed_53 : decode c_Mo_closed 53 = .ok (.if_icmp .ne 10, 3) := by decide +kernel
theorem d_Mo_closed_56 : decode c_Mo_closed 56 = .ok (.iload_n 3, 1) := by decide +kernel
theorem d_Mo_closed_57 : decode c_Mo_closed 57 = .ok (.invokestatic 275, 3) := by decide +kernel
theorem d_Mo_closed_60 : decode c_Mo_closed 60 = .ok (.goto 21, 3) := by decide +kernel
theorem d_Mo_closed_63 : decode c_Mo_closed 63 = .ok (.iload_n 2, 1) := by decide +kernel
theorem d_Mo_closed_64 : decode c_Mo_closed 64 = .ok (.iconst 2, 1) := by decide +kernel
theorem d_Mo_closed_65 : decode c_Mo_closed 65 = .ok (.if_icmp .ne 10, 3) := by decide +kernel
theorem d_Mo_closed_68 : decode c_Mo_closed 68 = .ok (.iload_n 3, 1) := by decide +kernel
theorem d_Mo_closed_69 : decode c_Mo_closed 69 = .ok (.invokestatic 278, 3) := by decide +kernel
theorem d_Mo_closed_72 : decode c_Mo_closed 72 = .ok (.goto 9, 3) := by decide +kernel
theorem d_Mo_closed_75 : decode c_Mo_closed 75 = .ok (.aload_n 0, 1) := by decide +kernel
theorem d_Mo_closed_76 : decode c_Mo_closed 76 = .ok (.getfield 76, 3) := by decide +kernel
theorem d_Mo_closed_79 : decode c_Mo_closed 79 = .ok (.iload_n 3, 1) := by decide +kernel
theorem d_Mo_closed_80 : decode c_Mo_closed 80 = .ok (.iaload, 1) := by decide +kernel
theorem d_Mo_closed_81 : decode c_Mo_closed 81 = .ok (.ireturn, 1) := by decide +kernel
abbrev c_Mo_off : ByteArray := prog_14_method_51_code
abbrev r_Mo_off : Option FieldType := (some FieldType.boolean)
def y_Mo_off : MethodName := ⟨"PinKindChecksModel", "off", "(IZ)Z"⟩
theorem d_Mo_off_0 : decode c_Mo_off 0 = .ok (.aload_n 0, 1) := by decide +kernel
theorem d_Mo_off_1 : decode c_Mo_off 1 = .ok (.aload_n 0, 1) := by decide +kernel
theorem d_Mo_off_2 : decode c_Mo_off 2 = .ok (.iload_n 1, 1) := by decide +kernel
theorem d_Mo_off_3 : decode c_Mo_off 3 = .ok (.invokevirtual 281, 3) := by decide +kernel
theorem d_Mo_off_6 : decode c_Mo_off 6 = .ok (.ifCond .eq 7, 3) := by decide +kernel
theorem d_Mo_off_9 : decode c_Mo_off 9 = .ok (.iconst 0, 1) := by decide +kernel
theorem d_Mo_off_10 : decode c_Mo_off 10 = .ok (.goto 4, 3) := by decide +kernel
theorem d_Mo_off_13 : decode c_Mo_off 13 = .ok (.iconst 1, 1) := by decide +kernel
theorem d_Mo_off_14 : decode c_Mo_off 14 = .ok (.putfield 91, 3) := by decide +kernel
theorem d_Mo_off_17 : decode c_Mo_off 17 = .ok (.aload_n 0, 1) := by decide +kernel
theorem d_Mo_off_18 : decode c_Mo_off 18 = .ok (.getfield 91, 3) := by decide +kernel
theorem d_Mo_off_21 : decode c_Mo_off 21 = .ok (.ifCond .ne 13, 3) := by decide +kernel
theorem d_Mo_off_24 : decode c_Mo_off 24 = .ok (.aload_n 0, 1) := by decide +kernel
theorem d_Mo_off_25 : decode c_Mo_off 25 = .ok (.getfield 62, 3) := by decide +kernel
theorem d_Mo_off_28 : decode c_Mo_off 28 = .ok (.iload_n 1, 1) := by decide +kernel
theorem d_Mo_off_29 : decode c_Mo_off 29 = .ok (.baload, 1) := by decide +kernel
theorem d_Mo_off_30 : decode c_Mo_off 30 = .ok (.iload_n 2, 1) := by decide +kernel
theorem d_Mo_off_31 : decode c_Mo_off 31 = .ok (.if_icmp .ne 5, 3) := by decide +kernel
theorem d_Mo_off_34 : decode c_Mo_off 34 = .ok (.iconst 0, 1) := by decide +kernel
theorem d_Mo_off_35 : decode c_Mo_off 35 = .ok (.ireturn, 1) := by decide +kernel
theorem d_Mo_off_36 : decode c_Mo_off 36 = .ok (.aload_n 0, 1) := by decide +kernel
theorem d_Mo_off_37 : decode c_Mo_off 37 = .ok (.getfield 62, 3) := by decide +kernel
theorem d_Mo_off_40 : decode c_Mo_off 40 = .ok (.iload_n 1, 1) := by decide +kernel
theorem d_Mo_off_41 : decode c_Mo_off 41 = .ok (.iload_n 2, 1) := by decide +kernel
theorem d_Mo_off_42 : decode c_Mo_off 42 = .ok (.bastore, 1) := by decide +kernel
theorem d_Mo_off_43 : decode c_Mo_off 43 = .ok (.iconst 1, 1) := by decide +kernel
theorem d_Mo_off_44 : decode c_Mo_off 44 = .ok (.ireturn, 1) := by decide +kernel
abbrev c_Mo_isRule : ByteArray := prog_14_method_50_code
abbrev r_Mo_isRule : Option FieldType := (some FieldType.boolean)
def y_Mo_isRule : MethodName := ⟨"PinKindChecksModel", "isRule", "(I)Z"⟩
theorem d_Mo_isRule_0 : decode c_Mo_isRule 0 = .ok (.iload_n 1, 1) := by decide +kernel
theorem d_Mo_isRule_1 : decode c_Mo_isRule 1 = .ok (.ifCond .lt 18, 3) := by decide +kernel
theorem d_Mo_isRule_4 : decode c_Mo_isRule 4 = .ok (.iload_n 1, 1) := by decide +kernel
theorem d_Mo_isRule_5 : decode c_Mo_isRule 5 = .ok (.bipush 7, 2) := by decide +kernel
theorem d_Mo_isRule_7 : decode c_Mo_isRule 7 = .ok (.aload_n 0, 1) := by decide +kernel
theorem d_Mo_isRule_8 : decode c_Mo_isRule 8 = .ok (.getfield 210, 3) := by decide +kernel
theorem d_Mo_isRule_11 : decode c_Mo_isRule 11 = .ok (.iadd, 1) := by decide +kernel
theorem d_Mo_isRule_12 : decode c_Mo_isRule 12 = .ok (.if_icmp .ge 7, 3) := by decide +kernel
theorem d_Mo_isRule_15 : decode c_Mo_isRule 15 = .ok (.iconst 1, 1) := by decide +kernel
theorem d_Mo_isRule_16 : decode c_Mo_isRule 16 = .ok (.goto 4, 3) := by decide +kernel
theorem d_Mo_isRule_19 : decode c_Mo_isRule 19 = .ok (.iconst 0, 1) := by decide +kernel
theorem d_Mo_isRule_20 : decode c_Mo_isRule 20 = .ok (.ireturn, 1) := by decide +kernel
abbrev c_Mo_waive : ByteArray := prog_14_method_52_code
abbrev r_Mo_waive : Option FieldType := (some FieldType.boolean)
def y_Mo_waive : MethodName := ⟨"PinKindChecksModel", "waive", "(IIII)Z"⟩
theorem d_Mo_waive_0 : decode c_Mo_waive 0 = .ok (.aload_n 0, 1) := by decide +kernel
theorem d_Mo_waive_1 : decode c_Mo_waive 1 = .ok (.iload_n 1, 1) := by decide +kernel
theorem d_Mo_waive_2 : decode c_Mo_waive 2 = .ok (.invokevirtual 281, 3) := by decide +kernel
theorem d_Mo_waive_5 : decode c_Mo_waive 5 = .ok (.ifCond .eq 29, 3) := by decide +kernel
theorem d_Mo_waive_8 : decode c_Mo_waive 8 = .ok (.iload_n 2, 1) := by decide +kernel
theorem d_Mo_waive_9 : decode c_Mo_waive 9 = .ok (.ifCond .lt 25, 3) := by decide +kernel
theorem d_Mo_waive_12 : decode c_Mo_waive 12 = .ok (.iload_n 2, 1) := by decide +kernel
theorem d_Mo_waive_13 : decode c_Mo_waive 13 = .ok (.iconst 3, 1) := by decide +kernel
theorem d_Mo_waive_14 : decode c_Mo_waive 14 = .ok (.if_icmp .ge 20, 3) := by decide +kernel
theorem d_Mo_waive_17 : decode c_Mo_waive 17 = .ok (.iload_n 3, 1) := by decide +kernel
theorem d_Mo_waive_18 : decode c_Mo_waive 18 = .ok (.ifCond .lt 16, 3) := by decide +kernel
theorem d_Mo_waive_21 : decode c_Mo_waive 21 = .ok (.iload_n 3, 1) := by decide +kernel
theorem d_Mo_waive_22 : decode c_Mo_waive 22 = .ok (.aload_n 0, 1) := by decide +kernel
theorem d_Mo_waive_23 : decode c_Mo_waive 23 = .ok (.iload_n 2, 1) := by decide +kernel
theorem d_Mo_waive_24 : decode c_Mo_waive 24 = .ok (.invokevirtual 252, 3) := by decide +kernel
theorem d_Mo_waive_27 : decode c_Mo_waive 27 = .ok (.if_icmp .ge 7, 3) := by decide +kernel
theorem d_Mo_waive_30 : decode c_Mo_waive 30 = .ok (.iconst 1, 1) := by decide +kernel
theorem d_Mo_waive_31 : decode c_Mo_waive 31 = .ok (.goto 4, 3) := by decide +kernel
theorem d_Mo_waive_34 : decode c_Mo_waive 34 = .ok (.iconst 0, 1) := by decide +kernel
theorem d_Mo_waive_35 : decode c_Mo_waive 35 = .ok (.istore 5, 2) := by decide +kernel
theorem d_Mo_waive_37 : decode c_Mo_waive 37 = .ok (.aload_n 0, 1) := by decide +kernel
theorem d_Mo_waive_38 : decode c_Mo_waive 38 = .ok (.iload 5, 2) := by decide +kernel
theorem d_Mo_waive_40 : decode c_Mo_waive 40 = .ok (.ifCond .ne 7, 3) := by decide +kernel
theorem d_Mo_waive_43 : decode c_Mo_waive 43 = .ok (.iconst 1, 1) := by decide +kernel
theorem d_Mo_waive_44 : decode c_Mo_waive 44 = .ok (.goto 22, 3) := by decide +kernel
theorem d_Mo_waive_47 : decode c_Mo_waive 47 = .ok (.iload 4, 2) := by decide +kernel
theorem d_Mo_waive_49 : decode c_Mo_waive 49 = .ok (.iconst (-1), 1) := by decide +kernel
theorem d_Mo_waive_50 : decode c_Mo_waive 50 = .ok (.if_icmp .lt 11, 3) := by decide +kernel
theorem d_Mo_waive_53 : decode c_Mo_waive 53 = .ok (.iload 4, 2) := by decide +kernel
theorem d_Mo_waive_55 : decode c_Mo_waive 55 = .ok (.sipush 999, 3) := by decide +kernel
theorem d_Mo_waive_58 : decode c_Mo_waive 58 = .ok (.if_icmp .le 7, 3) := by decide +kernel
theorem d_Mo_waive_61 : decode c_Mo_waive 61 = .ok (.iconst 2, 1) := by decide +kernel
theorem d_Mo_waive_62 : decode c_Mo_waive 62 = .ok (.goto 4, 3) := by decide +kernel
theorem d_Mo_waive_65 : decode c_Mo_waive 65 = .ok (.iconst 0, 1) := by decide +kernel
theorem d_Mo_waive_66 : decode c_Mo_waive 66 = .ok (.putfield 91, 3) := by decide +kernel
theorem d_Mo_waive_69 : decode c_Mo_waive 69 = .ok (.aload_n 0, 1) := by decide +kernel
theorem d_Mo_waive_70 : decode c_Mo_waive 70 = .ok (.getfield 91, 3) := by decide +kernel
theorem d_Mo_waive_73 : decode c_Mo_waive 73 = .ok (.ifCond .eq 5, 3) := by decide +kernel
theorem d_Mo_waive_76 : decode c_Mo_waive 76 = .ok (.iconst 0, 1) := by decide +kernel
theorem d_Mo_waive_77 : decode c_Mo_waive 77 = .ok (.ireturn, 1) := by decide +kernel
theorem d_Mo_waive_78 : decode c_Mo_waive 78 = .ok (.sipush 240, 3) := by decide +kernel
theorem d_Mo_waive_81 : decode c_Mo_waive 81 = .ok (.iload_n 1, 1) := by decide +kernel
theorem d_Mo_waive_82 : decode c_Mo_waive 82 = .ok (.imul, 1) := by decide +kernel
theorem d_Mo_waive_83 : decode c_Mo_waive 83 = .ok (.iload_n 2, 1) := by decide +kernel
theorem d_Mo_waive_84 : decode c_Mo_waive 84 = .ok (.iload_n 3, 1) := by decide +kernel
theorem d_Mo_waive_85 : decode c_Mo_waive 85 = .ok (.invokestatic 255, 3) := by decide +kernel
theorem d_Mo_waive_88 : decode c_Mo_waive 88 = .ok (.iadd, 1) := by decide +kernel
theorem d_Mo_waive_89 : decode c_Mo_waive 89 = .ok (.istore 6, 2) := by decide +kernel
theorem d_Mo_waive_91 : decode c_Mo_waive 91 = .ok (.aload_n 0, 1) := by decide +kernel
theorem d_Mo_waive_92 : decode c_Mo_waive 92 = .ok (.iload 6, 2) := by decide +kernel
theorem d_Mo_waive_94 : decode c_Mo_waive 94 = .ok (.invokevirtual 261, 3) := by decide +kernel
theorem d_Mo_waive_97 : decode c_Mo_waive 97 = .ok (.iload 4, 2) := by decide +kernel
theorem d_Mo_waive_99 : decode c_Mo_waive 99 = .ok (.if_icmp .ne 5, 3) := by decide +kernel
theorem d_Mo_waive_102 : decode c_Mo_waive 102 = .ok (.iconst 0, 1) := by decide +kernel
theorem d_Mo_waive_103 : decode c_Mo_waive 103 = .ok (.ireturn, 1) := by decide +kernel
theorem d_Mo_waive_104 : decode c_Mo_waive 104 = .ok (.iconst 0, 1) := by decide +kernel
theorem d_Mo_waive_105 : decode c_Mo_waive 105 = .ok (.istore 7, 2) := by decide +kernel
theorem d_Mo_waive_107 : decode c_Mo_waive 107 = .ok (.iload 7, 2) := by decide +kernel
theorem d_Mo_waive_109 : decode c_Mo_waive 109 = .ok (.aload_n 0, 1) := by decide +kernel
theorem d_Mo_waive_110 : decode c_Mo_waive 110 = .ok (.getfield 268, 3) := by decide +kernel
theorem d_Mo_waive_113 : decode c_Mo_waive 113 = .ok (.if_icmp .ge 21, 3) := by decide +kernel
theorem d_Mo_waive_116 : decode c_Mo_waive 116 = .ok (.aload_n 0, 1) := by decide +kernel
theorem d_Mo_waive_117 : decode c_Mo_waive 117 = .ok (.getfield 79, 3) := by decide +kernel
theorem d_Mo_waive_120 : decode c_Mo_waive 120 = .ok (.iload 7, 2) := by decide +kernel
theorem d_Mo_waive_122 : decode c_Mo_waive 122 = .ok (.iaload, 1) := by decide +kernel
theorem d_Mo_waive_123 : decode c_Mo_waive 123 = .ok (.iload 6, 2) := by decide +kernel
theorem d_Mo_waive_125 : decode c_Mo_waive 125 = .ok (.if_icmp .eq 9, 3) := by decide +kernel
theorem d_Mo_waive_128 : decode c_Mo_waive 128 = .ok (.iinc 7 1, 3) := by decide +kernel
theorem d_Mo_waive_131 : decode c_Mo_waive 131 = .ok (.goto (-24), 3) := by decide +kernel
theorem d_Mo_waive_134 : decode c_Mo_waive 134 = .ok (.iload 4, 2) := by decide +kernel
theorem d_Mo_waive_136 : decode c_Mo_waive 136 = .ok (.iconst (-1), 1) := by decide +kernel
theorem d_Mo_waive_137 : decode c_Mo_waive 137 = .ok (.if_icmp .ne 47, 3) := by decide +kernel
theorem d_Mo_waive_140 : decode c_Mo_waive 140 = .ok (.aload_n 0, 1) := by decide +kernel
theorem d_Mo_waive_141 : decode c_Mo_waive 141 = .ok (.dup, 1) := by decide +kernel
theorem d_Mo_waive_142 : decode c_Mo_waive 142 = .ok (.getfield 268, 3) := by decide +kernel
theorem d_Mo_waive_145 : decode c_Mo_waive 145 = .ok (.iconst 1, 1) := by decide +kernel
theorem d_Mo_waive_146 : decode c_Mo_waive 146 = .ok (.isub, 1) := by decide +kernel
theorem d_Mo_waive_147 : decode c_Mo_waive 147 = .ok (.putfield 268, 3) := by decide +kernel
theorem d_Mo_waive_150 : decode c_Mo_waive 150 = .ok (.aload_n 0, 1) := by decide +kernel
theorem d_Mo_waive_151 : decode c_Mo_waive 151 = .ok (.getfield 79, 3) := by decide +kernel
theorem d_Mo_waive_154 : decode c_Mo_waive 154 = .ok (.iload 7, 2) := by decide +kernel
theorem d_Mo_waive_156 : decode c_Mo_waive 156 = .ok (.aload_n 0, 1) := by decide +kernel
theorem d_Mo_waive_157 : decode c_Mo_waive 157 = .ok (.getfield 79, 3) := by decide +kernel
theorem d_Mo_waive_160 : decode c_Mo_waive 160 = .ok (.aload_n 0, 1) := by decide +kernel
theorem d_Mo_waive_161 : decode c_Mo_waive 161 = .ok (.getfield 268, 3) := by decide +kernel
theorem d_Mo_waive_164 : decode c_Mo_waive 164 = .ok (.iaload, 1) := by decide +kernel
theorem d_Mo_waive_165 : decode c_Mo_waive 165 = .ok (.iastore, 1) := by decide +kernel
theorem d_Mo_waive_166 : decode c_Mo_waive 166 = .ok (.aload_n 0, 1) := by decide +kernel
theorem d_Mo_waive_167 : decode c_Mo_waive 167 = .ok (.getfield 82, 3) := by decide +kernel
theorem d_Mo_waive_170 : decode c_Mo_waive 170 = .ok (.iload 7, 2) := by decide +kernel
theorem d_Mo_waive_172 : decode c_Mo_waive 172 = .ok (.aload_n 0, 1) := by decide +kernel
theorem d_Mo_waive_173 : decode c_Mo_waive 173 = .ok (.getfield 82, 3) := by decide +kernel
theorem d_Mo_waive_176 : decode c_Mo_waive 176 = .ok (.aload_n 0, 1) := by decide +kernel
theorem d_Mo_waive_177 : decode c_Mo_waive 177 = .ok (.getfield 268, 3) := by decide +kernel
theorem d_Mo_waive_180 : decode c_Mo_waive 180 = .ok (.iaload, 1) := by decide +kernel
theorem d_Mo_waive_181 : decode c_Mo_waive 181 = .ok (.iastore, 1) := by decide +kernel
theorem d_Mo_waive_182 : decode c_Mo_waive 182 = .ok (.iconst 1, 1) := by decide +kernel
theorem d_Mo_waive_183 : decode c_Mo_waive 183 = .ok (.ireturn, 1) := by decide +kernel
theorem d_Mo_waive_184 : decode c_Mo_waive 184 = .ok (.iload 7, 2) := by decide +kernel
theorem d_Mo_waive_186 : decode c_Mo_waive 186 = .ok (.bipush 50, 2) := by decide +kernel
theorem d_Mo_waive_188 : decode c_Mo_waive 188 = .ok (.if_icmp .ne 5, 3) := by decide +kernel
theorem d_Mo_waive_191 : decode c_Mo_waive 191 = .ok (.iconst 0, 1) := by decide +kernel
theorem d_Mo_waive_192 : decode c_Mo_waive 192 = .ok (.ireturn, 1) := by decide +kernel
theorem d_Mo_waive_193 : decode c_Mo_waive 193 = .ok (.aload_n 0, 1) := by decide +kernel
theorem d_Mo_waive_194 : decode c_Mo_waive 194 = .ok (.getfield 79, 3) := by decide +kernel
theorem d_Mo_waive_197 : decode c_Mo_waive 197 = .ok (.iload 7, 2) := by decide +kernel
theorem d_Mo_waive_199 : decode c_Mo_waive 199 = .ok (.iload 6, 2) := by decide +kernel
theorem d_Mo_waive_201 : decode c_Mo_waive 201 = .ok (.iastore, 1) := by decide +kernel
theorem d_Mo_waive_202 : decode c_Mo_waive 202 = .ok (.aload_n 0, 1) := by decide +kernel
theorem d_Mo_waive_203 : decode c_Mo_waive 203 = .ok (.getfield 82, 3) := by decide +kernel
theorem d_Mo_waive_206 : decode c_Mo_waive 206 = .ok (.iload 7, 2) := by decide +kernel
theorem d_Mo_waive_208 : decode c_Mo_waive 208 = .ok (.iload 4, 2) := by decide +kernel
theorem d_Mo_waive_210 : decode c_Mo_waive 210 = .ok (.iastore, 1) := by decide +kernel
theorem d_Mo_waive_211 : decode c_Mo_waive 211 = .ok (.aload_n 0, 1) := by decide +kernel
theorem d_Mo_waive_212 : decode c_Mo_waive 212 = .ok (.iload 7, 2) := by decide +kernel
theorem d_Mo_waive_214 : decode c_Mo_waive 214 = .ok (.aload_n 0, 1) := by decide +kernel
theorem d_Mo_waive_215 : decode c_Mo_waive 215 = .ok (.getfield 268, 3) := by decide +kernel
theorem d_Mo_waive_218 : decode c_Mo_waive 218 = .ok (.if_icmp .ne 12, 3) := by decide +kernel
theorem d_Mo_waive_221 : decode c_Mo_waive 221 = .ok (.aload_n 0, 1) := by decide +kernel
theorem d_Mo_waive_222 : decode c_Mo_waive 222 = .ok (.getfield 268, 3) := by decide +kernel
theorem d_Mo_waive_225 : decode c_Mo_waive 225 = .ok (.iconst 1, 1) := by decide +kernel
theorem d_Mo_waive_226 : decode c_Mo_waive 226 = .ok (.iadd, 1) := by decide +kernel
