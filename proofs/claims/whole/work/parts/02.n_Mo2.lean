theorem d_Mo_isTerm_98 : decode c_Mo_isTerm 98 = .ok (.iconst 1, 1) := by decide +kernel
theorem d_Mo_isTerm_99 : decode c_Mo_isTerm 99 = .ok (.iadd, 1) := by decide +kernel
theorem d_Mo_isTerm_100 : decode c_Mo_isTerm 100 = .ok (.iaload, 1) := by decide +kernel
theorem d_Mo_isTerm_101 : decode c_Mo_isTerm 101 = .ok (.bipush 48, 2) := by decide +kernel
theorem d_Mo_isTerm_103 : decode c_Mo_isTerm 103 = .ok (.isub, 1) := by decide +kernel
theorem d_Mo_isTerm_104 : decode c_Mo_isTerm 104 = .ok (.invokevirtual 141, 3) := by decide +kernel
theorem d_Mo_isTerm_107 : decode c_Mo_isTerm 107 = .ok (.goto 156, 3) := by decide +kernel
theorem d_Mo_isTerm_110 : decode c_Mo_isTerm 110 = .ok (.lload_n 2, 1) := by decide +kernel
theorem d_Mo_isTerm_111 : decode c_Mo_isTerm 111 = .ok (.bipush 112, 2) := by decide +kernel
theorem d_Mo_isTerm_113 : decode c_Mo_isTerm 113 = .ok (.bipush 105, 2) := by decide +kernel
theorem d_Mo_isTerm_115 : decode c_Mo_isTerm 115 = .ok (.bipush 110, 2) := by decide +kernel
theorem d_Mo_isTerm_117 : decode c_Mo_isTerm 117 = .ok (.bipush 115, 2) := by decide +kernel
theorem d_Mo_isTerm_119 : decode c_Mo_isTerm 119 = .ok (.iconst 0, 1) := by decide +kernel
theorem d_Mo_isTerm_120 : decode c_Mo_isTerm 120 = .ok (.invokestatic 157, 3) := by decide +kernel
theorem d_Mo_isTerm_123 : decode c_Mo_isTerm 123 = .ok (.lcmp, 1) := by decide +kernel
theorem d_Mo_isTerm_124 : decode c_Mo_isTerm 124 = .ok (.ifCond .ne 17, 3) := by decide +kernel
theorem d_Mo_isTerm_127 : decode c_Mo_isTerm 127 = .ok (.iload_n 1, 1) := by decide +kernel
theorem d_Mo_isTerm_128 : decode c_Mo_isTerm 128 = .ok (.iconst 2, 1) := by decide +kernel
theorem d_Mo_isTerm_129 : decode c_Mo_isTerm 129 = .ok (.if_icmp .eq 12, 3) := by decide +kernel
theorem d_Mo_isTerm_132 : decode c_Mo_isTerm 132 = .ok (.aload_n 0, 1) := by decide +kernel
theorem d_Mo_isTerm_133 : decode c_Mo_isTerm 133 = .ok (.iconst 2, 1) := by decide +kernel
theorem d_Mo_isTerm_134 : decode c_Mo_isTerm 134 = .ok (.iconst 0, 1) := by decide +kernel
theorem d_Mo_isTerm_135 : decode c_Mo_isTerm 135 = .ok (.invokevirtual 141, 3) := by decide +kernel
theorem d_Mo_isTerm_138 : decode c_Mo_isTerm 138 = .ok (.goto 125, 3) := by decide +kernel
theorem d_Mo_isTerm_141 : decode c_Mo_isTerm 141 = .ok (.lload_n 2, 1) := by decide +kernel
theorem d_Mo_isTerm_142 : decode c_Mo_isTerm 142 = .ok (.bipush 107, 2) := by decide +kernel
theorem d_Mo_isTerm_144 : decode c_Mo_isTerm 144 = .ok (.bipush 105, 2) := by decide +kernel
theorem d_Mo_isTerm_146 : decode c_Mo_isTerm 146 = .ok (.bipush 110, 2) := by decide +kernel
theorem d_Mo_isTerm_148 : decode c_Mo_isTerm 148 = .ok (.bipush 100, 2) := by decide +kernel
theorem d_Mo_isTerm_150 : decode c_Mo_isTerm 150 = .ok (.iconst 0, 1) := by decide +kernel
theorem d_Mo_isTerm_151 : decode c_Mo_isTerm 151 = .ok (.invokestatic 157, 3) := by decide +kernel
theorem d_Mo_isTerm_154 : decode c_Mo_isTerm 154 = .ok (.lcmp, 1) := by decide +kernel
theorem d_Mo_isTerm_155 : decode c_Mo_isTerm 155 = .ok (.ifCond .ne 17, 3) := by decide +kernel
theorem d_Mo_isTerm_158 : decode c_Mo_isTerm 158 = .ok (.iload_n 1, 1) := by decide +kernel
theorem d_Mo_isTerm_159 : decode c_Mo_isTerm 159 = .ok (.iconst 2, 1) := by decide +kernel
theorem d_Mo_isTerm_160 : decode c_Mo_isTerm 160 = .ok (.if_icmp .ne 12, 3) := by decide +kernel
theorem d_Mo_isTerm_163 : decode c_Mo_isTerm 163 = .ok (.aload_n 0, 1) := by decide +kernel
theorem d_Mo_isTerm_164 : decode c_Mo_isTerm 164 = .ok (.iconst 3, 1) := by decide +kernel
theorem d_Mo_isTerm_165 : decode c_Mo_isTerm 165 = .ok (.iconst 0, 1) := by decide +kernel
theorem d_Mo_isTerm_166 : decode c_Mo_isTerm 166 = .ok (.invokevirtual 141, 3) := by decide +kernel
theorem d_Mo_isTerm_169 : decode c_Mo_isTerm 169 = .ok (.goto 94, 3) := by decide +kernel
theorem d_Mo_isTerm_172 : decode c_Mo_isTerm 172 = .ok (.lload_n 2, 1) := by decide +kernel
theorem d_Mo_isTerm_173 : decode c_Mo_isTerm 173 = .ok (.bipush 110, 2) := by decide +kernel
theorem d_Mo_isTerm_175 : decode c_Mo_isTerm 175 = .ok (.bipush 97, 2) := by decide +kernel
theorem d_Mo_isTerm_177 : decode c_Mo_isTerm 177 = .ok (.bipush 109, 2) := by decide +kernel
theorem d_Mo_isTerm_179 : decode c_Mo_isTerm 179 = .ok (.bipush 101, 2) := by decide +kernel
theorem d_Mo_isTerm_181 : decode c_Mo_isTerm 181 = .ok (.iconst 0, 1) := by decide +kernel
theorem d_Mo_isTerm_182 : decode c_Mo_isTerm 182 = .ok (.invokestatic 157, 3) := by decide +kernel
theorem d_Mo_isTerm_185 : decode c_Mo_isTerm 185 = .ok (.lcmp, 1) := by decide +kernel
theorem d_Mo_isTerm_186 : decode c_Mo_isTerm 186 = .ok (.ifCond .ne 16, 3) := by decide +kernel
theorem d_Mo_isTerm_189 : decode c_Mo_isTerm 189 = .ok (.iload_n 1, 1) := by decide +kernel
theorem d_Mo_isTerm_190 : decode c_Mo_isTerm 190 = .ok (.ifCond .eq 12, 3) := by decide +kernel
theorem d_Mo_isTerm_193 : decode c_Mo_isTerm 193 = .ok (.aload_n 0, 1) := by decide +kernel
theorem d_Mo_isTerm_194 : decode c_Mo_isTerm 194 = .ok (.iconst 4, 1) := by decide +kernel
theorem d_Mo_isTerm_195 : decode c_Mo_isTerm 195 = .ok (.iconst 0, 1) := by decide +kernel
theorem d_Mo_isTerm_196 : decode c_Mo_isTerm 196 = .ok (.invokevirtual 141, 3) := by decide +kernel
theorem d_Mo_isTerm_199 : decode c_Mo_isTerm 199 = .ok (.goto 64, 3) := by decide +kernel
theorem d_Mo_isTerm_202 : decode c_Mo_isTerm 202 = .ok (.lload_n 2, 1) := by decide +kernel
theorem d_Mo_isTerm_203 : decode c_Mo_isTerm 203 = .ok (.bipush 115, 2) := by decide +kernel
theorem d_Mo_isTerm_205 : decode c_Mo_isTerm 205 = .ok (.bipush 104, 2) := by decide +kernel
theorem d_Mo_isTerm_207 : decode c_Mo_isTerm 207 = .ok (.bipush 101, 2) := by decide +kernel
theorem d_Mo_isTerm_209 : decode c_Mo_isTerm 209 = .ok (.bipush 101, 2) := by decide +kernel
theorem d_Mo_isTerm_211 : decode c_Mo_isTerm 211 = .ok (.bipush 116, 2) := by decide +kernel
theorem d_Mo_isTerm_213 : decode c_Mo_isTerm 213 = .ok (.invokestatic 157, 3) := by decide +kernel
theorem d_Mo_isTerm_216 : decode c_Mo_isTerm 216 = .ok (.lcmp, 1) := by decide +kernel
theorem d_Mo_isTerm_217 : decode c_Mo_isTerm 217 = .ok (.ifCond .ne 12, 3) := by decide +kernel
theorem d_Mo_isTerm_220 : decode c_Mo_isTerm 220 = .ok (.aload_n 0, 1) := by decide +kernel
theorem d_Mo_isTerm_221 : decode c_Mo_isTerm 221 = .ok (.iconst 5, 1) := by decide +kernel
theorem d_Mo_isTerm_222 : decode c_Mo_isTerm 222 = .ok (.iconst 0, 1) := by decide +kernel
theorem d_Mo_isTerm_223 : decode c_Mo_isTerm 223 = .ok (.invokevirtual 141, 3) := by decide +kernel
theorem d_Mo_isTerm_226 : decode c_Mo_isTerm 226 = .ok (.goto 37, 3) := by decide +kernel
theorem d_Mo_isTerm_229 : decode c_Mo_isTerm 229 = .ok (.lload_n 2, 1) := by decide +kernel
theorem d_Mo_isTerm_230 : decode c_Mo_isTerm 230 = .ok (.bipush 97, 2) := by decide +kernel
theorem d_Mo_isTerm_232 : decode c_Mo_isTerm 232 = .ok (.bipush 110, 2) := by decide +kernel
theorem d_Mo_isTerm_234 : decode c_Mo_isTerm 234 = .ok (.bipush 121, 2) := by decide +kernel
theorem d_Mo_isTerm_236 : decode c_Mo_isTerm 236 = .ok (.iconst 0, 1) := by decide +kernel
theorem d_Mo_isTerm_237 : decode c_Mo_isTerm 237 = .ok (.iconst 0, 1) := by decide +kernel
theorem d_Mo_isTerm_238 : decode c_Mo_isTerm 238 = .ok (.invokestatic 157, 3) := by decide +kernel
theorem d_Mo_isTerm_241 : decode c_Mo_isTerm 241 = .ok (.lcmp, 1) := by decide +kernel
theorem d_Mo_isTerm_242 : decode c_Mo_isTerm 242 = .ok (.ifCond .ne 19, 3) := by decide +kernel
theorem d_Mo_isTerm_245 : decode c_Mo_isTerm 245 = .ok (.iload_n 1, 1) := by decide +kernel
theorem d_Mo_isTerm_246 : decode c_Mo_isTerm 246 = .ok (.iconst 2, 1) := by decide +kernel
theorem d_Mo_isTerm_247 : decode c_Mo_isTerm 247 = .ok (.if_icmp .eq 14, 3) := by decide +kernel
theorem d_Mo_isTerm_250 : decode c_Mo_isTerm 250 = .ok (.aload_n 0, 1) := by decide +kernel
theorem d_Mo_isTerm_251 : decode c_Mo_isTerm 251 = .ok (.invokevirtual 161, 3) := by decide +kernel
theorem d_Mo_isTerm_254 : decode c_Mo_isTerm 254 = .ok (.ifCond .eq 7, 3) := by decide +kernel
theorem d_Mo_isTerm_257 : decode c_Mo_isTerm 257 = .ok (.iconst 1, 1) := by decide +kernel
theorem d_Mo_isTerm_258 : decode c_Mo_isTerm 258 = .ok (.goto 4, 3) := by decide +kernel
theorem d_Mo_isTerm_261 : decode c_Mo_isTerm 261 = .ok (.iconst 0, 1) := by decide +kernel
theorem d_Mo_isTerm_262 : decode c_Mo_isTerm 262 = .ok (.ireturn, 1) := by decide +kernel
theorem d_Mo_isTerm_263 : decode c_Mo_isTerm 263 = .ok (.iconst 1, 1) := by decide +kernel
theorem d_Mo_isTerm_264 : decode c_Mo_isTerm 264 = .ok (.ireturn, 1) := by decide +kernel
abbrev c_Mo_isNumber : ByteArray := prog_14_method_18_code
abbrev r_Mo_isNumber : Option FieldType := (some FieldType.boolean)
def y_Mo_isNumber : MethodName := ⟨"PinKindChecksModel", "isNumber", "()Z"⟩
theorem d_Mo_isNumber_0 : decode c_Mo_isNumber 0 = .ok (.aload_n 0, 1) := by decide +kernel
theorem d_Mo_isNumber_1 : decode c_Mo_isNumber 1 = .ok (.getfield 122, 3) := by decide +kernel
theorem d_Mo_isNumber_4 : decode c_Mo_isNumber 4 = .ok (.aload_n 0, 1) := by decide +kernel
theorem d_Mo_isNumber_5 : decode c_Mo_isNumber 5 = .ok (.getfield 125, 3) := by decide +kernel
theorem d_Mo_isNumber_8 : decode c_Mo_isNumber 8 = .ok (.isub, 1) := by decide +kernel
theorem d_Mo_isNumber_9 : decode c_Mo_isNumber 9 = .ok (.bipush 10, 2) := by decide +kernel
theorem d_Mo_isNumber_11 : decode c_Mo_isNumber 11 = .ok (.if_icmp .ge 7, 3) := by decide +kernel
theorem d_Mo_isNumber_14 : decode c_Mo_isNumber 14 = .ok (.iconst 1, 1) := by decide +kernel
theorem d_Mo_isNumber_15 : decode c_Mo_isNumber 15 = .ok (.goto 4, 3) := by decide +kernel
theorem d_Mo_isNumber_18 : decode c_Mo_isNumber 18 = .ok (.iconst 0, 1) := by decide +kernel
theorem d_Mo_isNumber_19 : decode c_Mo_isNumber 19 = .ok (.istore_n 1, 1) := by decide +kernel
theorem d_Mo_isNumber_20 : decode c_Mo_isNumber 20 = .ok (.aload_n 0, 1) := by decide +kernel
theorem d_Mo_isNumber_21 : decode c_Mo_isNumber 21 = .ok (.getfield 125, 3) := by decide +kernel
theorem d_Mo_isNumber_24 : decode c_Mo_isNumber 24 = .ok (.istore_n 2, 1) := by decide +kernel
theorem d_Mo_isNumber_25 : decode c_Mo_isNumber 25 = .ok (.iload_n 2, 1) := by decide +kernel
theorem d_Mo_isNumber_26 : decode c_Mo_isNumber 26 = .ok (.aload_n 0, 1) := by decide +kernel
theorem d_Mo_isNumber_27 : decode c_Mo_isNumber 27 = .ok (.getfield 122, 3) := by decide +kernel
theorem d_Mo_isNumber_30 : decode c_Mo_isNumber 30 = .ok (.if_icmp .ge 41, 3) := by decide +kernel
theorem d_Mo_isNumber_33 : decode c_Mo_isNumber 33 = .ok (.iload_n 1, 1) := by decide +kernel
theorem d_Mo_isNumber_34 : decode c_Mo_isNumber 34 = .ok (.ifCond .eq 29, 3) := by decide +kernel
theorem d_Mo_isNumber_37 : decode c_Mo_isNumber 37 = .ok (.aload_n 0, 1) := by decide +kernel
theorem d_Mo_isNumber_38 : decode c_Mo_isNumber 38 = .ok (.getfield 44, 3) := by decide +kernel
theorem d_Mo_isNumber_41 : decode c_Mo_isNumber 41 = .ok (.iload_n 2, 1) := by decide +kernel
theorem d_Mo_isNumber_42 : decode c_Mo_isNumber 42 = .ok (.iaload, 1) := by decide +kernel
theorem d_Mo_isNumber_43 : decode c_Mo_isNumber 43 = .ok (.bipush 48, 2) := by decide +kernel
theorem d_Mo_isNumber_45 : decode c_Mo_isNumber 45 = .ok (.if_icmp .lt 18, 3) := by decide +kernel
theorem d_Mo_isNumber_48 : decode c_Mo_isNumber 48 = .ok (.aload_n 0, 1) := by decide +kernel
theorem d_Mo_isNumber_49 : decode c_Mo_isNumber 49 = .ok (.getfield 44, 3) := by decide +kernel
theorem d_Mo_isNumber_52 : decode c_Mo_isNumber 52 = .ok (.iload_n 2, 1) := by decide +kernel
theorem d_Mo_isNumber_53 : decode c_Mo_isNumber 53 = .ok (.iaload, 1) := by decide +kernel
theorem d_Mo_isNumber_54 : decode c_Mo_isNumber 54 = .ok (.bipush 58, 2) := by decide +kernel
theorem d_Mo_isNumber_56 : decode c_Mo_isNumber 56 = .ok (.if_icmp .ge 7, 3) := by decide +kernel
theorem d_Mo_isNumber_59 : decode c_Mo_isNumber 59 = .ok (.iconst 1, 1) := by decide +kernel
theorem d_Mo_isNumber_60 : decode c_Mo_isNumber 60 = .ok (.goto 4, 3) := by decide +kernel
theorem d_Mo_isNumber_63 : decode c_Mo_isNumber 63 = .ok (.iconst 0, 1) := by decide +kernel
theorem d_Mo_isNumber_64 : decode c_Mo_isNumber 64 = .ok (.istore_n 1, 1) := by decide +kernel
theorem d_Mo_isNumber_65 : decode c_Mo_isNumber 65 = .ok (.iinc 2 1, 3) := by decide +kernel
theorem d_Mo_isNumber_68 : decode c_Mo_isNumber 68 = .ok (.goto (-43), 3) := by decide +kernel
theorem d_Mo_isNumber_71 : decode c_Mo_isNumber 71 = .ok (.iload_n 1, 1) := by decide +kernel
theorem d_Mo_isNumber_72 : decode c_Mo_isNumber 72 = .ok (.ireturn, 1) := by decide +kernel
abbrev c_Mo_value : ByteArray := prog_14_method_19_code
abbrev r_Mo_value : Option FieldType := (some FieldType.int)
def y_Mo_value : MethodName := ⟨"PinKindChecksModel", "value", "()I"⟩
theorem d_Mo_value_0 : decode c_Mo_value 0 = .ok (.iconst 0, 1) := by decide +kernel
theorem d_Mo_value_1 : decode c_Mo_value 1 = .ok (.istore_n 1, 1) := by decide +kernel
theorem d_Mo_value_2 : decode c_Mo_value 2 = .ok (.aload_n 0, 1) := by decide +kernel
theorem d_Mo_value_3 : decode c_Mo_value 3 = .ok (.getfield 125, 3) := by decide +kernel
theorem d_Mo_value_6 : decode c_Mo_value 6 = .ok (.istore_n 2, 1) := by decide +kernel
theorem d_Mo_value_7 : decode c_Mo_value 7 = .ok (.iload_n 2, 1) := by decide +kernel
theorem d_Mo_value_8 : decode c_Mo_value 8 = .ok (.aload_n 0, 1) := by decide +kernel
theorem d_Mo_value_9 : decode c_Mo_value 9 = .ok (.getfield 122, 3) := by decide +kernel
theorem d_Mo_value_12 : decode c_Mo_value 12 = .ok (.if_icmp .ge 24, 3) := by decide +kernel
theorem d_Mo_value_15 : decode c_Mo_value 15 = .ok (.bipush 10, 2) := by decide +kernel
theorem d_Mo_value_17 : decode c_Mo_value 17 = .ok (.iload_n 1, 1) := by decide +kernel
theorem d_Mo_value_18 : decode c_Mo_value 18 = .ok (.imul, 1) := by decide +kernel
theorem d_Mo_value_19 : decode c_Mo_value 19 = .ok (.aload_n 0, 1) := by decide +kernel
theorem d_Mo_value_20 : decode c_Mo_value 20 = .ok (.getfield 44, 3) := by decide +kernel
theorem d_Mo_value_23 : decode c_Mo_value 23 = .ok (.iload_n 2, 1) := by decide +kernel
theorem d_Mo_value_24 : decode c_Mo_value 24 = .ok (.iaload, 1) := by decide +kernel
theorem d_Mo_value_25 : decode c_Mo_value 25 = .ok (.iadd, 1) := by decide +kernel
theorem d_Mo_value_26 : decode c_Mo_value 26 = .ok (.bipush 48, 2) := by decide +kernel
theorem d_Mo_value_28 : decode c_Mo_value 28 = .ok (.isub, 1) := by decide +kernel
theorem d_Mo_value_29 : decode c_Mo_value 29 = .ok (.istore_n 1, 1) := by decide +kernel
theorem d_Mo_value_30 : decode c_Mo_value 30 = .ok (.iinc 2 1, 3) := by decide +kernel
theorem d_Mo_value_33 : decode c_Mo_value 33 = .ok (.goto (-26), 3) := by decide +kernel
theorem d_Mo_value_36 : decode c_Mo_value 36 = .ok (.iload_n 1, 1) := by decide +kernel
theorem d_Mo_value_37 : decode c_Mo_value 37 = .ok (.ireturn, 1) := by decide +kernel
abbrev c_Mo_isDigitNext : ByteArray := prog_14_method_25_code
abbrev r_Mo_isDigitNext : Option FieldType := (some FieldType.boolean)
def y_Mo_isDigitNext : MethodName := ⟨"PinKindChecksModel", "isDigitNext", "()Z"⟩
theorem d_Mo_isDigitNext_0 : decode c_Mo_isDigitNext 0 = .ok (.aload_n 0, 1) := by decide +kernel
theorem d_Mo_isDigitNext_1 : decode c_Mo_isDigitNext 1 = .ok (.invokevirtual 164, 3) := by decide +kernel
theorem d_Mo_isDigitNext_4 : decode c_Mo_isDigitNext 4 = .ok (.ifCond .ne 15, 3) := by decide +kernel
theorem d_Mo_isDigitNext_7 : decode c_Mo_isDigitNext 7 = .ok (.aload_n 0, 1) := by decide +kernel
theorem d_Mo_isDigitNext_8 : decode c_Mo_isDigitNext 8 = .ok (.dup, 1) := by decide +kernel
theorem d_Mo_isDigitNext_9 : decode c_Mo_isDigitNext 9 = .ok (.getfield 128, 3) := by decide +kernel
theorem d_Mo_isDigitNext_12 : decode c_Mo_isDigitNext 12 = .ok (.iconst 1, 1) := by decide +kernel
theorem d_Mo_isDigitNext_13 : decode c_Mo_isDigitNext 13 = .ok (.iadd, 1) := by decide +kernel
theorem d_Mo_isDigitNext_14 : decode c_Mo_isDigitNext 14 = .ok (.putfield 128, 3) := by decide +kernel
theorem d_Mo_isDigitNext_17 : decode c_Mo_isDigitNext 17 = .ok (.iconst 0, 1) := by decide +kernel
theorem d_Mo_isDigitNext_18 : decode c_Mo_isDigitNext 18 = .ok (.ireturn, 1) := by decide +kernel
theorem d_Mo_isDigitNext_19 : decode c_Mo_isDigitNext 19 = .ok (.aload_n 0, 1) := by decide +kernel
theorem d_Mo_isDigitNext_20 : decode c_Mo_isDigitNext 20 = .ok (.getfield 122, 3) := by decide +kernel
theorem d_Mo_isDigitNext_23 : decode c_Mo_isDigitNext 23 = .ok (.aload_n 0, 1) := by decide +kernel
theorem d_Mo_isDigitNext_24 : decode c_Mo_isDigitNext 24 = .ok (.getfield 125, 3) := by decide +kernel
theorem d_Mo_isDigitNext_27 : decode c_Mo_isDigitNext 27 = .ok (.isub, 1) := by decide +kernel
theorem d_Mo_isDigitNext_28 : decode c_Mo_isDigitNext 28 = .ok (.iconst 1, 1) := by decide +kernel
theorem d_Mo_isDigitNext_29 : decode c_Mo_isDigitNext 29 = .ok (.if_icmp .ne 10, 3) := by decide +kernel
theorem d_Mo_isDigitNext_32 : decode c_Mo_isDigitNext 32 = .ok (.aload_n 0, 1) := by decide +kernel
theorem d_Mo_isDigitNext_33 : decode c_Mo_isDigitNext 33 = .ok (.invokevirtual 149, 3) := by decide +kernel
theorem d_Mo_isDigitNext_36 : decode c_Mo_isDigitNext 36 = .ok (.ifCond .ne 5, 3) := by decide +kernel
theorem d_Mo_isDigitNext_39 : decode c_Mo_isDigitNext 39 = .ok (.iconst 0, 1) := by decide +kernel
theorem d_Mo_isDigitNext_40 : decode c_Mo_isDigitNext 40 = .ok (.ireturn, 1) := by decide +kernel
theorem d_Mo_isDigitNext_41 : decode c_Mo_isDigitNext 41 = .ok (.aload_n 0, 1) := by decide +kernel
theorem d_Mo_isDigitNext_42 : decode c_Mo_isDigitNext 42 = .ok (.bipush 6, 2) := by decide +kernel
theorem d_Mo_isDigitNext_44 : decode c_Mo_isDigitNext 44 = .ok (.aload_n 0, 1) := by decide +kernel
theorem d_Mo_isDigitNext_45 : decode c_Mo_isDigitNext 45 = .ok (.invokevirtual 153, 3) := by decide +kernel
theorem d_Mo_isDigitNext_48 : decode c_Mo_isDigitNext 48 = .ok (.invokevirtual 141, 3) := by decide +kernel
theorem d_Mo_isDigitNext_51 : decode c_Mo_isDigitNext 51 = .ok (.iconst 1, 1) := by decide +kernel
theorem d_Mo_isDigitNext_52 : decode c_Mo_isDigitNext 52 = .ok (.ireturn, 1) := by decide +kernel
abbrev c_Mo_run : ByteArray := prog_14_method_43_code
abbrev r_Mo_run : Option FieldType := (some FieldType.int)
def y_Mo_run : MethodName := ⟨"PinKindChecksModel", "run", "()I"⟩
theorem d_Mo_run_0 : decode c_Mo_run 0 = .ok (.aload_n 0, 1) := by decide +kernel
theorem d_Mo_run_1 : decode c_Mo_run 1 = .ok (.iconst 0, 1) := by decide +kernel
theorem d_Mo_run_2 : decode c_Mo_run 2 = .ok (.putfield 91, 3) := by decide +kernel
theorem d_Mo_run_5 : decode c_Mo_run 5 = .ok (.iconst 0, 1) := by decide +kernel
theorem d_Mo_run_6 : decode c_Mo_run 6 = .ok (.istore_n 1, 1) := by decide +kernel
theorem d_Mo_run_7 : decode c_Mo_run 7 = .ok (.iload_n 1, 1) := by decide +kernel
theorem d_Mo_run_8 : decode c_Mo_run 8 = .ok (.sipush 6480, 3) := by decide +kernel
theorem d_Mo_run_11 : decode c_Mo_run 11 = .ok (.if_icmp .ge 21, 3) := by decide +kernel
theorem d_Mo_run_14 : decode c_Mo_run 14 = .ok (.aload_n 0, 1) := by decide +kernel
theorem d_Mo_run_15 : decode c_Mo_run 15 = .ok (.getfield 76, 3) := by decide +kernel
theorem d_Mo_run_18 : decode c_Mo_run 18 = .ok (.iload_n 1, 1) := by decide +kernel
theorem d_Mo_run_19 : decode c_Mo_run 19 = .ok (.aload_n 0, 1) := by decide +kernel
theorem d_Mo_run_20 : decode c_Mo_run 20 = .ok (.getfield 70, 3) := by decide +kernel
theorem d_Mo_run_23 : decode c_Mo_run 23 = .ok (.iload_n 1, 1) := by decide +kernel
theorem d_Mo_run_24 : decode c_Mo_run 24 = .ok (.iaload, 1) := by decide +kernel
theorem d_Mo_run_25 : decode c_Mo_run 25 = .ok (.iastore, 1) := by decide +kernel
theorem d_Mo_run_26 : decode c_Mo_run 26 = .ok (.iinc 1 1, 3) := by decide +kernel
theorem d_Mo_run_29 : decode c_Mo_run 29 = .ok (.goto (-22), 3) := by decide +kernel
theorem d_Mo_run_32 : decode c_Mo_run 32 = .ok (.iconst 0, 1) := by decide +kernel
theorem d_Mo_run_33 : decode c_Mo_run 33 = .ok (.istore_n 1, 1) := by decide +kernel
theorem d_Mo_run_34 : decode c_Mo_run 34 = .ok (.iconst 0, 1) := by decide +kernel
theorem d_Mo_run_35 : decode c_Mo_run 35 = .ok (.istore_n 2, 1) := by decide +kernel
theorem d_Mo_run_36 : decode c_Mo_run 36 = .ok (.iload_n 2, 1) := by decide +kernel
theorem d_Mo_run_37 : decode c_Mo_run 37 = .ok (.bipush 27, 2) := by decide +kernel
theorem d_Mo_run_39 : decode c_Mo_run 39 = .ok (.if_icmp .ge 161, 3) := by decide +kernel
theorem d_Mo_run_42 : decode c_Mo_run 42 = .ok (.iconst 0, 1) := by decide +kernel
theorem d_Mo_run_43 : decode c_Mo_run 43 = .ok (.istore_n 3, 1) := by decide +kernel
theorem d_Mo_run_44 : decode c_Mo_run 44 = .ok (.iload_n 3, 1) := by decide +kernel
theorem d_Mo_run_45 : decode c_Mo_run 45 = .ok (.iconst 3, 1) := by decide +kernel
theorem d_Mo_run_46 : decode c_Mo_run 46 = .ok (.if_icmp .ge 148, 3) := by decide +kernel
theorem d_Mo_run_49 : decode c_Mo_run 49 = .ok (.iconst 0, 1) := by decide +kernel
theorem d_Mo_run_50 : decode c_Mo_run 50 = .ok (.istore 4, 2) := by decide +kernel
theorem d_Mo_run_52 : decode c_Mo_run 52 = .ok (.iload 4, 2) := by decide +kernel
theorem d_Mo_run_54 : decode c_Mo_run 54 = .ok (.aload_n 0, 1) := by decide +kernel
theorem d_Mo_run_55 : decode c_Mo_run 55 = .ok (.iload_n 3, 1) := by decide +kernel
theorem d_Mo_run_56 : decode c_Mo_run 56 = .ok (.invokevirtual 252, 3) := by decide +kernel
theorem d_Mo_run_59 : decode c_Mo_run 59 = .ok (.if_icmp .ge 129, 3) := by decide +kernel
theorem d_Mo_run_62 : decode c_Mo_run 62 = .ok (.sipush 240, 3) := by decide +kernel
theorem d_Mo_run_65 : decode c_Mo_run 65 = .ok (.iload_n 2, 1) := by decide +kernel
theorem d_Mo_run_66 : decode c_Mo_run 66 = .ok (.imul, 1) := by decide +kernel
theorem d_Mo_run_67 : decode c_Mo_run 67 = .ok (.iload_n 3, 1) := by decide +kernel
theorem d_Mo_run_68 : decode c_Mo_run 68 = .ok (.iload 4, 2) := by decide +kernel
theorem d_Mo_run_70 : decode c_Mo_run 70 = .ok (.invokestatic 255, 3) := by decide +kernel
theorem d_Mo_run_73 : decode c_Mo_run 73 = .ok (.iadd, 1) := by decide +kernel
theorem d_Mo_run_74 : decode c_Mo_run 74 = .ok (.istore 5, 2) := by decide +kernel
theorem d_Mo_run_76 : decode c_Mo_run 76 = .ok (.iload_n 2, 1) := by decide +kernel
theorem d_Mo_run_77 : decode c_Mo_run 77 = .ok (.bipush 7, 2) := by decide +kernel
theorem d_Mo_run_79 : decode c_Mo_run 79 = .ok (.aload_n 0, 1) := by decide +kernel
theorem d_Mo_run_80 : decode c_Mo_run 80 = .ok (.getfield 210, 3) := by decide +kernel
theorem d_Mo_run_83 : decode c_Mo_run 83 = .ok (.iadd, 1) := by decide +kernel
theorem d_Mo_run_84 : decode c_Mo_run 84 = .ok (.if_icmp .ge 23, 3) := by decide +kernel
theorem d_Mo_run_87 : decode c_Mo_run 87 = .ok (.aload_n 0, 1) := by decide +kernel
theorem d_Mo_run_88 : decode c_Mo_run 88 = .ok (.getfield 62, 3) := by decide +kernel
theorem d_Mo_run_91 : decode c_Mo_run 91 = .ok (.iload_n 2, 1) := by decide +kernel
theorem d_Mo_run_92 : decode c_Mo_run 92 = .ok (.baload, 1) := by decide +kernel
theorem d_Mo_run_93 : decode c_Mo_run 93 = .ok (.ifCond .ne 14, 3) := by decide +kernel
theorem d_Mo_run_96 : decode c_Mo_run 96 = .ok (.aload_n 0, 1) := by decide +kernel
theorem d_Mo_run_97 : decode c_Mo_run 97 = .ok (.iload_n 2, 1) := by decide +kernel
theorem d_Mo_run_98 : decode c_Mo_run 98 = .ok (.iload_n 3, 1) := by decide +kernel
theorem d_Mo_run_99 : decode c_Mo_run 99 = .ok (.iload 4, 2) := by decide +kernel
theorem d_Mo_run_101 : decode c_Mo_run 101 = .ok (.invokevirtual 258, 3) := by decide +kernel
theorem d_Mo_run_104 : decode c_Mo_run 104 = .ok (.goto 4, 3) := by decide +kernel
theorem d_Mo_run_107 : decode c_Mo_run 107 = .ok (.iconst 0, 1) := by decide +kernel
theorem d_Mo_run_108 : decode c_Mo_run 108 = .ok (.istore 6, 2) := by decide +kernel
theorem d_Mo_run_110 : decode c_Mo_run 110 = .ok (.aload_n 0, 1) := by decide +kernel
theorem d_Mo_run_111 : decode c_Mo_run 111 = .ok (.getfield 70, 3) := by decide +kernel
theorem d_Mo_run_114 : decode c_Mo_run 114 = .ok (.iload 5, 2) := by decide +kernel
theorem d_Mo_run_116 : decode c_Mo_run 116 = .ok (.iload 6, 2) := by decide +kernel
theorem d_Mo_run_118 : decode c_Mo_run 118 = .ok (.ifCond .ne 7, 3) := by decide +kernel
theorem d_Mo_run_121 : decode c_Mo_run 121 = .ok (.iconst 0, 1) := by decide +kernel
theorem d_Mo_run_122 : decode c_Mo_run 122 = .ok (.goto 27, 3) := by decide +kernel
theorem d_Mo_run_125 : decode c_Mo_run 125 = .ok (.aload_n 0, 1) := by decide +kernel
theorem d_Mo_run_126 : decode c_Mo_run 126 = .ok (.getfield 76, 3) := by decide +kernel
theorem d_Mo_run_129 : decode c_Mo_run 129 = .ok (.iload 5, 2) := by decide +kernel
theorem d_Mo_run_131 : decode c_Mo_run 131 = .ok (.iaload, 1) := by decide +kernel
theorem d_Mo_run_132 : decode c_Mo_run 132 = .ok (.ifCond .le 13, 3) := by decide +kernel
theorem d_Mo_run_135 : decode c_Mo_run 135 = .ok (.aload_n 0, 1) := by decide +kernel
theorem d_Mo_run_136 : decode c_Mo_run 136 = .ok (.getfield 76, 3) := by decide +kernel
theorem d_Mo_run_139 : decode c_Mo_run 139 = .ok (.iload 5, 2) := by decide +kernel
theorem d_Mo_run_141 : decode c_Mo_run 141 = .ok (.iaload, 1) := by decide +kernel
theorem d_Mo_run_142 : decode c_Mo_run 142 = .ok (.goto 7, 3) := by decide +kernel
theorem d_Mo_run_145 : decode c_Mo_run 145 = .ok (.aload_n 0, 1) := by decide +kernel
theorem d_Mo_run_146 : decode c_Mo_run 146 = .ok (.getfield 66, 3) := by decide +kernel
theorem d_Mo_run_149 : decode c_Mo_run 149 = .ok (.iastore, 1) := by decide +kernel
theorem d_Mo_run_150 : decode c_Mo_run 150 = .ok (.aload_n 0, 1) := by decide +kernel
theorem d_Mo_run_151 : decode c_Mo_run 151 = .ok (.getfield 73, 3) := by decide +kernel
theorem d_Mo_run_154 : decode c_Mo_run 154 = .ok (.iload 5, 2) := by decide +kernel
theorem d_Mo_run_156 : decode c_Mo_run 156 = .ok (.iload 6, 2) := by decide +kernel
theorem d_Mo_run_158 : decode c_Mo_run 158 = .ok (.iastore, 1) := by decide +kernel
theorem d_Mo_run_159 : decode c_Mo_run 159 = .ok (.iload_n 1, 1) := by decide +kernel
theorem d_Mo_run_160 : decode c_Mo_run 160 = .ok (.iload 6, 2) := by decide +kernel
theorem d_Mo_run_162 : decode c_Mo_run 162 = .ok (.ifCond .le 17, 3) := by decide +kernel
theorem d_Mo_run_165 : decode c_Mo_run 165 = .ok (.aload_n 0, 1) := by decide +kernel
theorem d_Mo_run_166 : decode c_Mo_run 166 = .ok (.iload 5, 2) := by decide +kernel
theorem d_Mo_run_168 : decode c_Mo_run 168 = .ok (.invokevirtual 261, 3) := by decide +kernel
theorem d_Mo_run_171 : decode c_Mo_run 171 = .ok (.iconst (-1), 1) := by decide +kernel
theorem d_Mo_run_172 : decode c_Mo_run 172 = .ok (.if_icmp .ne 7, 3) := by decide +kernel
theorem d_Mo_run_175 : decode c_Mo_run 175 = .ok (.iconst 1, 1) := by decide +kernel
theorem d_Mo_run_176 : decode c_Mo_run 176 = .ok (.goto 4, 3) := by decide +kernel
theorem d_Mo_run_179 : decode c_Mo_run 179 = .ok (.iconst 0, 1) := by decide +kernel
theorem d_Mo_run_180 : decode c_Mo_run 180 = .ok (.iadd, 1) := by decide +kernel
theorem d_Mo_run_181 : decode c_Mo_run 181 = .ok (.istore_n 1, 1) := by decide +kernel
theorem d_Mo_run_182 : decode c_Mo_run 182 = .ok (.iinc 4 1, 3) := by decide +kernel
theorem d_Mo_run_185 : decode c_Mo_run 185 = .ok (.goto (-133), 3) := by decide +kernel
theorem d_Mo_run_188 : decode c_Mo_run 188 = .ok (.iinc 3 1, 3) := by decide +kernel
theorem d_Mo_run_191 : decode c_Mo_run 191 = .ok (.goto (-147), 3) := by decide +kernel
theorem d_Mo_run_194 : decode c_Mo_run 194 = .ok (.iinc 2 1, 3) := by decide +kernel
theorem d_Mo_run_197 : decode c_Mo_run 197 = .ok (.goto (-161), 3) := by decide +kernel
theorem d_Mo_run_200 : decode c_Mo_run 200 = .ok (.aload_n 0, 1) := by decide +kernel
theorem d_Mo_run_201 : decode c_Mo_run 201 = .ok (.iconst 1, 1) := by decide +kernel
theorem d_Mo_run_202 : decode c_Mo_run 202 = .ok (.putfield 264, 3) := by decide +kernel
theorem d_Mo_run_205 : decode c_Mo_run 205 = .ok (.iload_n 1, 1) := by decide +kernel
theorem d_Mo_run_206 : decode c_Mo_run 206 = .ok (.ireturn, 1) := by decide +kernel
abbrev c_Mo_many : ByteArray := prog_14_method_41_code
abbrev r_Mo_many : Option FieldType := (some FieldType.int)
def y_Mo_many : MethodName := ⟨"PinKindChecksModel", "many", "(I)I"⟩
theorem d_Mo_many_0 : decode c_Mo_many 0 = .ok (.iload_n 1, 1) := by decide +kernel
theorem d_Mo_many_1 : decode c_Mo_many 1 = .ok (.ifCond .ne 10, 3) := by decide +kernel
theorem d_Mo_many_4 : decode c_Mo_many 4 = .ok (.aload_n 0, 1) := by decide +kernel
theorem d_Mo_many_5 : decode c_Mo_many 5 = .ok (.getfield 97, 3) := by decide +kernel
theorem d_Mo_many_8 : decode c_Mo_many 8 = .ok (.goto 19, 3) := by decide +kernel
theorem d_Mo_many_11 : decode c_Mo_many 11 = .ok (.iload_n 1, 1) := by decide +kernel
theorem d_Mo_many_12 : decode c_Mo_many 12 = .ok (.iconst 1, 1) := by decide +kernel
theorem d_Mo_many_13 : decode c_Mo_many 13 = .ok (.if_icmp .ne 10, 3) := by decide +kernel
theorem d_Mo_many_16 : decode c_Mo_many 16 = .ok (.aload_n 0, 1) := by decide +kernel
theorem d_Mo_many_17 : decode c_Mo_many 17 = .ok (.getfield 94, 3) := by decide +kernel
theorem d_Mo_many_20 : decode c_Mo_many 20 = .ok (.goto 7, 3) := by decide +kernel
theorem d_Mo_many_23 : decode c_Mo_many 23 = .ok (.aload_n 0, 1) := by decide +kernel
theorem d_Mo_many_24 : decode c_Mo_many 24 = .ok (.getfield 113, 3) := by decide +kernel
theorem d_Mo_many_27 : decode c_Mo_many 27 = .ok (.ireturn, 1) := by decide +kernel
abbrev c_Mo_thing : ByteArray := prog_14_method_42_code
abbrev r_Mo_thing : Option FieldType := (some FieldType.int)
def y_Mo_thing : MethodName := ⟨"PinKindChecksModel", "thing", "(II)I"⟩
theorem d_Mo_thing_0 : decode c_Mo_thing 0 = .ok (.iload_n 0, 1) := by decide +kernel
theorem d_Mo_thing_1 : decode c_Mo_thing 1 = .ok (.ifCond .ne 7, 3) := by decide +kernel
theorem d_Mo_thing_4 : decode c_Mo_thing 4 = .ok (.iload_n 1, 1) := by decide +kernel
theorem d_Mo_thing_5 : decode c_Mo_thing 5 = .ok (.goto 19, 3) := by decide +kernel
theorem d_Mo_thing_8 : decode c_Mo_thing 8 = .ok (.iload_n 0, 1) := by decide +kernel
theorem d_Mo_thing_9 : decode c_Mo_thing 9 = .ok (.iconst 1, 1) := by decide +kernel
theorem d_Mo_thing_10 : decode c_Mo_thing 10 = .ok (.if_icmp .ne 10, 3) := by decide +kernel
theorem d_Mo_thing_13 : decode c_Mo_thing 13 = .ok (.bipush 40, 2) := by decide +kernel
theorem d_Mo_thing_15 : decode c_Mo_thing 15 = .ok (.iload_n 1, 1) := by decide +kernel
theorem d_Mo_thing_16 : decode c_Mo_thing 16 = .ok (.iadd, 1) := by decide +kernel
theorem d_Mo_thing_17 : decode c_Mo_thing 17 = .ok (.goto 7, 3) := by decide +kernel
theorem d_Mo_thing_20 : decode c_Mo_thing 20 = .ok (.bipush 80, 2) := by decide +kernel
theorem d_Mo_thing_22 : decode c_Mo_thing 22 = .ok (.iload_n 1, 1) := by decide +kernel
theorem d_Mo_thing_23 : decode c_Mo_thing 23 = .ok (.iadd, 1) := by decide +kernel
theorem d_Mo_thing_24 : decode c_Mo_thing 24 = .ok (.ireturn, 1) := by decide +kernel
abbrev c_Mo_found : ByteArray := prog_14_method_40_code
abbrev r_Mo_found : Option FieldType := (some FieldType.int)
def y_Mo_found : MethodName := ⟨"PinKindChecksModel", "found", "(III)I"⟩
theorem d_Mo_found_0 : decode c_Mo_found 0 = .ok (.iload_n 1, 1) := by decide +kernel
theorem d_Mo_found_1 : decode c_Mo_found 1 = .ok (.bipush 7, 2) := by decide +kernel
theorem d_Mo_found_3 : decode c_Mo_found 3 = .ok (.if_icmp .lt 42, 3) := by decide +kernel
theorem d_Mo_found_6 : decode c_Mo_found 6 = .ok (.aload_n 0, 1) := by decide +kernel
theorem d_Mo_found_7 : decode c_Mo_found 7 = .ok (.getfield 47, 3) := by decide +kernel
theorem d_Mo_found_10 : decode c_Mo_found 10 = .ok (.iload_n 1, 1) := by decide +kernel
theorem d_Mo_found_11 : decode c_Mo_found 11 = .ok (.bipush 7, 2) := by decide +kernel
theorem d_Mo_found_13 : decode c_Mo_found 13 = .ok (.isub, 1) := by decide +kernel
theorem d_Mo_found_14 : decode c_Mo_found 14 = .ok (.iaload, 1) := by decide +kernel
theorem d_Mo_found_15 : decode c_Mo_found 15 = .ok (.iload_n 2, 1) := by decide +kernel
theorem d_Mo_found_16 : decode c_Mo_found 16 = .ok (.if_icmp .ne 27, 3) := by decide +kernel
theorem d_Mo_found_19 : decode c_Mo_found 19 = .ok (.aload_n 0, 1) := by decide +kernel
theorem d_Mo_found_20 : decode c_Mo_found 20 = .ok (.iload_n 1, 1) := by decide +kernel
theorem d_Mo_found_21 : decode c_Mo_found 21 = .ok (.bipush 7, 2) := by decide +kernel
theorem d_Mo_found_23 : decode c_Mo_found 23 = .ok (.isub, 1) := by decide +kernel
theorem d_Mo_found_24 : decode c_Mo_found 24 = .ok (.iload_n 3, 1) := by decide +kernel
theorem d_Mo_found_25 : decode c_Mo_found 25 = .ok (.invokevirtual 239, 3) := by decide +kernel
theorem d_Mo_found_28 : decode c_Mo_found 28 = .ok (.ifCond .eq 15, 3) := by decide +kernel
theorem d_Mo_found_31 : decode c_Mo_found 31 = .ok (.aload_n 0, 1) := by decide +kernel
theorem d_Mo_found_32 : decode c_Mo_found 32 = .ok (.getfield 50, 3) := by decide +kernel
theorem d_Mo_found_35 : decode c_Mo_found 35 = .ok (.iload_n 1, 1) := by decide +kernel
theorem d_Mo_found_36 : decode c_Mo_found 36 = .ok (.bipush 7, 2) := by decide +kernel
theorem d_Mo_found_38 : decode c_Mo_found 38 = .ok (.isub, 1) := by decide +kernel
theorem d_Mo_found_39 : decode c_Mo_found 39 = .ok (.iaload, 1) := by decide +kernel
theorem d_Mo_found_40 : decode c_Mo_found 40 = .ok (.goto 4, 3) := by decide +kernel
theorem d_Mo_found_43 : decode c_Mo_found 43 = .ok (.iconst 0, 1) := by decide +kernel
theorem d_Mo_found_44 : decode c_Mo_found 44 = .ok (.ireturn, 1) := by decide +kernel
theorem d_Mo_found_45 : decode c_Mo_found 45 = .ok (.iload_n 2, 1) := by decide +kernel
theorem d_Mo_found_46 : decode c_Mo_found 46 = .ok (.iconst 2, 1) := by decide +kernel
theorem d_Mo_found_47 : decode c_Mo_found 47 = .ok (.if_icmp .ne 51, 3) := by decide +kernel
theorem d_Mo_found_50 : decode c_Mo_found 50 = .ok (.iload_n 1, 1) := by decide +kernel
theorem d_Mo_found_51 : decode c_Mo_found 51 = .ok (.ifCond .ne 32, 3) := by decide +kernel
theorem d_Mo_found_54 : decode c_Mo_found 54 = .ok (.aload_n 0, 1) := by decide +kernel
theorem d_Mo_found_55 : decode c_Mo_found 55 = .ok (.getfield 29, 3) := by decide +kernel
theorem d_Mo_found_58 : decode c_Mo_found 58 = .ok (.iload_n 3, 1) := by decide +kernel
theorem d_Mo_found_59 : decode c_Mo_found 59 = .ok (.iaload, 1) := by decide +kernel
theorem d_Mo_found_60 : decode c_Mo_found 60 = .ok (.iconst (-1), 1) := by decide +kernel
theorem d_Mo_found_61 : decode c_Mo_found 61 = .ok (.if_icmp .ne 18, 3) := by decide +kernel
theorem d_Mo_found_64 : decode c_Mo_found 64 = .ok (.aload_n 0, 1) := by decide +kernel
theorem d_Mo_found_65 : decode c_Mo_found 65 = .ok (.getfield 32, 3) := by decide +kernel
theorem d_Mo_found_68 : decode c_Mo_found 68 = .ok (.iload_n 3, 1) := by decide +kernel
theorem d_Mo_found_69 : decode c_Mo_found 69 = .ok (.iaload, 1) := by decide +kernel
theorem d_Mo_found_70 : decode c_Mo_found 70 = .ok (.bipush 9, 2) := by decide +kernel
theorem d_Mo_found_72 : decode c_Mo_found 72 = .ok (.if_icmp .eq 7, 3) := by decide +kernel
theorem d_Mo_found_75 : decode c_Mo_found 75 = .ok (.iconst 2, 1) := by decide +kernel
theorem d_Mo_found_76 : decode c_Mo_found 76 = .ok (.goto 21, 3) := by decide +kernel
theorem d_Mo_found_79 : decode c_Mo_found 79 = .ok (.iconst 0, 1) := by decide +kernel
theorem d_Mo_found_80 : decode c_Mo_found 80 = .ok (.goto 17, 3) := by decide +kernel
theorem d_Mo_found_83 : decode c_Mo_found 83 = .ok (.iload_n 1, 1) := by decide +kernel
theorem d_Mo_found_84 : decode c_Mo_found 84 = .ok (.iconst 1, 1) := by decide +kernel
theorem d_Mo_found_85 : decode c_Mo_found 85 = .ok (.if_icmp .ne 11, 3) := by decide +kernel
theorem d_Mo_found_88 : decode c_Mo_found 88 = .ok (.aload_n 0, 1) := by decide +kernel
theorem d_Mo_found_89 : decode c_Mo_found 89 = .ok (.iload_n 3, 1) := by decide +kernel
theorem d_Mo_found_90 : decode c_Mo_found 90 = .ok (.invokevirtual 243, 3) := by decide +kernel
theorem d_Mo_found_93 : decode c_Mo_found 93 = .ok (.goto 4, 3) := by decide +kernel
theorem d_Mo_found_96 : decode c_Mo_found 96 = .ok (.iconst 0, 1) := by decide +kernel
theorem d_Mo_found_97 : decode c_Mo_found 97 = .ok (.ireturn, 1) := by decide +kernel
theorem d_Mo_found_98 : decode c_Mo_found 98 = .ok (.iload_n 2, 1) := by decide +kernel
theorem d_Mo_found_99 : decode c_Mo_found 99 = .ok (.ifCond .ne 5, 3) := by decide +kernel
theorem d_Mo_found_102 : decode c_Mo_found 102 = .ok (.iconst 0, 1) := by decide +kernel
theorem d_Mo_found_103 : decode c_Mo_found 103 = .ok (.ireturn, 1) := by decide +kernel
theorem d_Mo_found_104 : decode c_Mo_found 104 = .ok (.iload_n 1, 1) := by decide +kernel
theorem d_Mo_found_105 : decode c_Mo_found 105 = .ok (.tableswitch 123 2 6 #[35, 52, 78, 95, 109], 35) := by decide +kernel
theorem d_Mo_found_140 : decode c_Mo_found 140 = .ok (.aload_n 0, 1) := by decide +kernel
theorem d_Mo_found_141 : decode c_Mo_found 141 = .ok (.iconst 1, 1) := by decide +kernel
theorem d_Mo_found_142 : decode c_Mo_found 142 = .ok (.iload_n 3, 1) := by decide +kernel
theorem d_Mo_found_143 : decode c_Mo_found 143 = .ok (.iconst 1, 1) := by decide +kernel
theorem d_Mo_found_144 : decode c_Mo_found 144 = .ok (.invokevirtual 220, 3) := by decide +kernel
theorem d_Mo_found_147 : decode c_Mo_found 147 = .ok (.iconst 1, 1) := by decide +kernel
theorem d_Mo_found_148 : decode c_Mo_found 148 = .ok (.if_icmp .le 7, 3) := by decide +kernel
theorem d_Mo_found_151 : decode c_Mo_found 151 = .ok (.iconst 2, 1) := by decide +kernel
theorem d_Mo_found_152 : decode c_Mo_found 152 = .ok (.goto 4, 3) := by decide +kernel
theorem d_Mo_found_155 : decode c_Mo_found 155 = .ok (.iconst 0, 1) := by decide +kernel
theorem d_Mo_found_156 : decode c_Mo_found 156 = .ok (.ireturn, 1) := by decide +kernel
theorem d_Mo_found_157 : decode c_Mo_found 157 = .ok (.aload_n 0, 1) := by decide +kernel
theorem d_Mo_found_158 : decode c_Mo_found 158 = .ok (.iconst 1, 1) := by decide +kernel
theorem d_Mo_found_159 : decode c_Mo_found 159 = .ok (.iload_n 3, 1) := by decide +kernel
theorem d_Mo_found_160 : decode c_Mo_found 160 = .ok (.iconst 3, 1) := by decide +kernel
theorem d_Mo_found_161 : decode c_Mo_found 161 = .ok (.invokevirtual 220, 3) := by decide +kernel
theorem d_Mo_found_164 : decode c_Mo_found 164 = .ok (.ifCond .le 17, 3) := by decide +kernel
theorem d_Mo_found_167 : decode c_Mo_found 167 = .ok (.aload_n 0, 1) := by decide +kernel
theorem d_Mo_found_168 : decode c_Mo_found 168 = .ok (.iconst 1, 1) := by decide +kernel
theorem d_Mo_found_169 : decode c_Mo_found 169 = .ok (.iload_n 3, 1) := by decide +kernel
theorem d_Mo_found_170 : decode c_Mo_found 170 = .ok (.iconst 4, 1) := by decide +kernel
theorem d_Mo_found_171 : decode c_Mo_found 171 = .ok (.invokevirtual 220, 3) := by decide +kernel
theorem d_Mo_found_174 : decode c_Mo_found 174 = .ok (.ifCond .ne 7, 3) := by decide +kernel
theorem d_Mo_found_177 : decode c_Mo_found 177 = .ok (.iconst 2, 1) := by decide +kernel
theorem d_Mo_found_178 : decode c_Mo_found 178 = .ok (.goto 4, 3) := by decide +kernel
theorem d_Mo_found_181 : decode c_Mo_found 181 = .ok (.iconst 0, 1) := by decide +kernel
theorem d_Mo_found_182 : decode c_Mo_found 182 = .ok (.ireturn, 1) := by decide +kernel
theorem d_Mo_found_183 : decode c_Mo_found 183 = .ok (.aload_n 0, 1) := by decide +kernel
theorem d_Mo_found_184 : decode c_Mo_found 184 = .ok (.iconst 1, 1) := by decide +kernel
theorem d_Mo_found_185 : decode c_Mo_found 185 = .ok (.iload_n 3, 1) := by decide +kernel
theorem d_Mo_found_186 : decode c_Mo_found 186 = .ok (.iconst (-1), 1) := by decide +kernel
theorem d_Mo_found_187 : decode c_Mo_found 187 = .ok (.invokevirtual 220, 3) := by decide +kernel
theorem d_Mo_found_190 : decode c_Mo_found 190 = .ok (.iconst 1, 1) := by decide +kernel
theorem d_Mo_found_191 : decode c_Mo_found 191 = .ok (.if_icmp .ne 7, 3) := by decide +kernel
theorem d_Mo_found_194 : decode c_Mo_found 194 = .ok (.iconst 1, 1) := by decide +kernel
theorem d_Mo_found_195 : decode c_Mo_found 195 = .ok (.goto 4, 3) := by decide +kernel
theorem d_Mo_found_198 : decode c_Mo_found 198 = .ok (.iconst 0, 1) := by decide +kernel
theorem d_Mo_found_199 : decode c_Mo_found 199 = .ok (.ireturn, 1) := by decide +kernel
theorem d_Mo_found_200 : decode c_Mo_found 200 = .ok (.aload_n 0, 1) := by decide +kernel
theorem d_Mo_found_201 : decode c_Mo_found 201 = .ok (.iload_n 3, 1) := by decide +kernel
theorem d_Mo_found_202 : decode c_Mo_found 202 = .ok (.invokevirtual 246, 3) := by decide +kernel
theorem d_Mo_found_205 : decode c_Mo_found 205 = .ok (.ifCond .eq 7, 3) := by decide +kernel
theorem d_Mo_found_208 : decode c_Mo_found 208 = .ok (.iconst 2, 1) := by decide +kernel
theorem d_Mo_found_209 : decode c_Mo_found 209 = .ok (.goto 4, 3) := by decide +kernel
theorem d_Mo_found_212 : decode c_Mo_found 212 = .ok (.iconst 0, 1) := by decide +kernel
theorem d_Mo_found_213 : decode c_Mo_found 213 = .ok (.ireturn, 1) := by decide +kernel
theorem d_Mo_found_214 : decode c_Mo_found 214 = .ok (.aload_n 0, 1) := by decide +kernel
theorem d_Mo_found_215 : decode c_Mo_found 215 = .ok (.iload_n 3, 1) := by decide +kernel
theorem d_Mo_found_216 : decode c_Mo_found 216 = .ok (.invokevirtual 249, 3) := by decide +kernel
theorem d_Mo_found_219 : decode c_Mo_found 219 = .ok (.ifCond .eq 7, 3) := by decide +kernel
theorem d_Mo_found_222 : decode c_Mo_found 222 = .ok (.iconst 1, 1) := by decide +kernel
theorem d_Mo_found_223 : decode c_Mo_found 223 = .ok (.goto 4, 3) := by decide +kernel
theorem d_Mo_found_226 : decode c_Mo_found 226 = .ok (.iconst 0, 1) := by decide +kernel
theorem d_Mo_found_227 : decode c_Mo_found 227 = .ok (.ireturn, 1) := by decide +kernel
theorem d_Mo_found_228 : decode c_Mo_found 228 = .ok (.iconst 0, 1) := by decide +kernel
theorem d_Mo_found_229 : decode c_Mo_found 229 = .ok (.ireturn, 1) := by decide +kernel
abbrev c_Mo_holds : ByteArray := prog_14_method_36_code
abbrev r_Mo_holds : Option FieldType := (some FieldType.boolean)
def y_Mo_holds : MethodName := ⟨"PinKindChecksModel", "holds", "(II)Z"⟩
theorem d_Mo_holds_0 : decode c_Mo_holds 0 = .ok (.iconst 0, 1) := by decide +kernel
theorem d_Mo_holds_1 : decode c_Mo_holds 1 = .ok (.istore_n 3, 1) := by decide +kernel
theorem d_Mo_holds_2 : decode c_Mo_holds 2 = .ok (.bipush 90, 2) := by decide +kernel
theorem d_Mo_holds_4 : decode c_Mo_holds 4 = .ok (.iload_n 1, 1) := by decide +kernel
theorem d_Mo_holds_5 : decode c_Mo_holds 5 = .ok (.imul, 1) := by decide +kernel
theorem d_Mo_holds_6 : decode c_Mo_holds 6 = .ok (.istore 4, 2) := by decide +kernel
theorem d_Mo_holds_8 : decode c_Mo_holds 8 = .ok (.iload 4, 2) := by decide +kernel
theorem d_Mo_holds_10 : decode c_Mo_holds 10 = .ok (.bipush 90, 2) := by decide +kernel
theorem d_Mo_holds_12 : decode c_Mo_holds 12 = .ok (.iload_n 1, 1) := by decide +kernel
theorem d_Mo_holds_13 : decode c_Mo_holds 13 = .ok (.imul, 1) := by decide +kernel
theorem d_Mo_holds_14 : decode c_Mo_holds 14 = .ok (.aload_n 0, 1) := by decide +kernel
theorem d_Mo_holds_15 : decode c_Mo_holds 15 = .ok (.getfield 53, 3) := by decide +kernel
theorem d_Mo_holds_18 : decode c_Mo_holds 18 = .ok (.iload_n 1, 1) := by decide +kernel
theorem d_Mo_holds_19 : decode c_Mo_holds 19 = .ok (.iaload, 1) := by decide +kernel
theorem d_Mo_holds_20 : decode c_Mo_holds 20 = .ok (.iadd, 1) := by decide +kernel
theorem d_Mo_holds_21 : decode c_Mo_holds 21 = .ok (.if_icmp .ge 136, 3) := by decide +kernel
theorem d_Mo_holds_24 : decode c_Mo_holds 24 = .ok (.aload_n 0, 1) := by decide +kernel
theorem d_Mo_holds_25 : decode c_Mo_holds 25 = .ok (.getfield 56, 3) := by decide +kernel
theorem d_Mo_holds_28 : decode c_Mo_holds 28 = .ok (.iload 4, 2) := by decide +kernel
theorem d_Mo_holds_30 : decode c_Mo_holds 30 = .ok (.iaload, 1) := by decide +kernel
theorem d_Mo_holds_31 : decode c_Mo_holds 31 = .ok (.bipush 10, 2) := by decide +kernel
theorem d_Mo_holds_33 : decode c_Mo_holds 33 = .ok (.if_icmp .ge 40, 3) := by decide +kernel
theorem d_Mo_holds_36 : decode c_Mo_holds 36 = .ok (.aload_n 0, 1) := by decide +kernel
theorem d_Mo_holds_37 : decode c_Mo_holds 37 = .ok (.getfield 88, 3) := by decide +kernel
theorem d_Mo_holds_40 : decode c_Mo_holds 40 = .ok (.iload_n 3, 1) := by decide +kernel
theorem d_Mo_holds_41 : decode c_Mo_holds 41 = .ok (.aload_n 0, 1) := by decide +kernel
theorem d_Mo_holds_42 : decode c_Mo_holds 42 = .ok (.aload_n 0, 1) := by decide +kernel
theorem d_Mo_holds_43 : decode c_Mo_holds 43 = .ok (.getfield 56, 3) := by decide +kernel
theorem d_Mo_holds_46 : decode c_Mo_holds 46 = .ok (.iload 4, 2) := by decide +kernel
theorem d_Mo_holds_48 : decode c_Mo_holds 48 = .ok (.iaload, 1) := by decide +kernel
theorem d_Mo_holds_49 : decode c_Mo_holds 49 = .ok (.aload_n 0, 1) := by decide +kernel
theorem d_Mo_holds_50 : decode c_Mo_holds 50 = .ok (.getfield 59, 3) := by decide +kernel
theorem d_Mo_holds_53 : decode c_Mo_holds 53 = .ok (.iload 4, 2) := by decide +kernel
theorem d_Mo_holds_55 : decode c_Mo_holds 55 = .ok (.iaload, 1) := by decide +kernel
theorem d_Mo_holds_56 : decode c_Mo_holds 56 = .ok (.aload_n 0, 1) := by decide +kernel
theorem d_Mo_holds_57 : decode c_Mo_holds 57 = .ok (.getfield 47, 3) := by decide +kernel
theorem d_Mo_holds_60 : decode c_Mo_holds 60 = .ok (.iload_n 1, 1) := by decide +kernel
theorem d_Mo_holds_61 : decode c_Mo_holds 61 = .ok (.iaload, 1) := by decide +kernel
theorem d_Mo_holds_62 : decode c_Mo_holds 62 = .ok (.iload_n 2, 1) := by decide +kernel
theorem d_Mo_holds_63 : decode c_Mo_holds 63 = .ok (.invokevirtual 229, 3) := by decide +kernel
theorem d_Mo_holds_66 : decode c_Mo_holds 66 = .ok (.lastore, 1) := by decide +kernel
theorem d_Mo_holds_67 : decode c_Mo_holds 67 = .ok (.iinc 3 1, 3) := by decide +kernel
theorem d_Mo_holds_70 : decode c_Mo_holds 70 = .ok (.goto 81, 3) := by decide +kernel
theorem d_Mo_holds_73 : decode c_Mo_holds 73 = .ok (.aload_n 0, 1) := by decide +kernel
theorem d_Mo_holds_74 : decode c_Mo_holds 74 = .ok (.getfield 56, 3) := by decide +kernel
theorem d_Mo_holds_77 : decode c_Mo_holds 77 = .ok (.iload 4, 2) := by decide +kernel
theorem d_Mo_holds_79 : decode c_Mo_holds 79 = .ok (.iaload, 1) := by decide +kernel
theorem d_Mo_holds_80 : decode c_Mo_holds 80 = .ok (.bipush 19, 2) := by decide +kernel
theorem d_Mo_holds_82 : decode c_Mo_holds 82 = .ok (.if_icmp .ne 32, 3) := by decide +kernel
theorem d_Mo_holds_85 : decode c_Mo_holds 85 = .ok (.aload_n 0, 1) := by decide +kernel
theorem d_Mo_holds_86 : decode c_Mo_holds 86 = .ok (.getfield 88, 3) := by decide +kernel
theorem d_Mo_holds_89 : decode c_Mo_holds 89 = .ok (.iload_n 3, 1) := by decide +kernel
theorem d_Mo_holds_90 : decode c_Mo_holds 90 = .ok (.iconst 1, 1) := by decide +kernel
theorem d_Mo_holds_91 : decode c_Mo_holds 91 = .ok (.isub, 1) := by decide +kernel
theorem d_Mo_holds_92 : decode c_Mo_holds 92 = .ok (.aload_n 0, 1) := by decide +kernel
theorem d_Mo_holds_93 : decode c_Mo_holds 93 = .ok (.getfield 88, 3) := by decide +kernel
theorem d_Mo_holds_96 : decode c_Mo_holds 96 = .ok (.iload_n 3, 1) := by decide +kernel
theorem d_Mo_holds_97 : decode c_Mo_holds 97 = .ok (.iconst 1, 1) := by decide +kernel
theorem d_Mo_holds_98 : decode c_Mo_holds 98 = .ok (.isub, 1) := by decide +kernel
theorem d_Mo_holds_99 : decode c_Mo_holds 99 = .ok (.laload, 1) := by decide +kernel
theorem d_Mo_holds_100 : decode c_Mo_holds 100 = .ok (.lconst 0, 1) := by decide +kernel
theorem d_Mo_holds_101 : decode c_Mo_holds 101 = .ok (.lcmp, 1) := by decide +kernel
theorem d_Mo_holds_102 : decode c_Mo_holds 102 = .ok (.ifCond .ne 7, 3) := by decide +kernel
theorem d_Mo_holds_105 : decode c_Mo_holds 105 = .ok (.lconst 1, 1) := by decide +kernel
theorem d_Mo_holds_106 : decode c_Mo_holds 106 = .ok (.goto 4, 3) := by decide +kernel
theorem d_Mo_holds_109 : decode c_Mo_holds 109 = .ok (.lconst 0, 1) := by decide +kernel
theorem d_Mo_holds_110 : decode c_Mo_holds 110 = .ok (.lastore, 1) := by decide +kernel
theorem d_Mo_holds_111 : decode c_Mo_holds 111 = .ok (.goto 40, 3) := by decide +kernel
theorem d_Mo_holds_114 : decode c_Mo_holds 114 = .ok (.aload_n 0, 1) := by decide +kernel
theorem d_Mo_holds_115 : decode c_Mo_holds 115 = .ok (.getfield 88, 3) := by decide +kernel
theorem d_Mo_holds_118 : decode c_Mo_holds 118 = .ok (.iload_n 3, 1) := by decide +kernel
theorem d_Mo_holds_119 : decode c_Mo_holds 119 = .ok (.iconst 2, 1) := by decide +kernel
theorem d_Mo_holds_120 : decode c_Mo_holds 120 = .ok (.isub, 1) := by decide +kernel
theorem d_Mo_holds_121 : decode c_Mo_holds 121 = .ok (.aload_n 0, 1) := by decide +kernel
theorem d_Mo_holds_122 : decode c_Mo_holds 122 = .ok (.getfield 56, 3) := by decide +kernel
theorem d_Mo_holds_125 : decode c_Mo_holds 125 = .ok (.iload 4, 2) := by decide +kernel
theorem d_Mo_holds_127 : decode c_Mo_holds 127 = .ok (.iaload, 1) := by decide +kernel
theorem d_Mo_holds_128 : decode c_Mo_holds 128 = .ok (.aload_n 0, 1) := by decide +kernel
theorem d_Mo_holds_129 : decode c_Mo_holds 129 = .ok (.getfield 88, 3) := by decide +kernel
theorem d_Mo_holds_132 : decode c_Mo_holds 132 = .ok (.iload_n 3, 1) := by decide +kernel
theorem d_Mo_holds_133 : decode c_Mo_holds 133 = .ok (.iconst 2, 1) := by decide +kernel
theorem d_Mo_holds_134 : decode c_Mo_holds 134 = .ok (.isub, 1) := by decide +kernel
theorem d_Mo_holds_135 : decode c_Mo_holds 135 = .ok (.laload, 1) := by decide +kernel
theorem d_Mo_holds_136 : decode c_Mo_holds 136 = .ok (.aload_n 0, 1) := by decide +kernel
theorem d_Mo_holds_137 : decode c_Mo_holds 137 = .ok (.getfield 88, 3) := by decide +kernel
theorem d_Mo_holds_140 : decode c_Mo_holds 140 = .ok (.iload_n 3, 1) := by decide +kernel
theorem d_Mo_holds_141 : decode c_Mo_holds 141 = .ok (.iconst 1, 1) := by decide +kernel
theorem d_Mo_holds_142 : decode c_Mo_holds 142 = .ok (.isub, 1) := by decide +kernel
theorem d_Mo_holds_143 : decode c_Mo_holds 143 = .ok (.laload, 1) := by decide +kernel
theorem d_Mo_holds_144 : decode c_Mo_holds 144 = .ok (.invokestatic 233, 3) := by decide +kernel
theorem d_Mo_holds_147 : decode c_Mo_holds 147 = .ok (.lastore, 1) := by decide +kernel
theorem d_Mo_holds_148 : decode c_Mo_holds 148 = .ok (.iinc 3 (-1), 3) := by decide +kernel
theorem d_Mo_holds_151 : decode c_Mo_holds 151 = .ok (.iinc 4 1, 3) := by decide +kernel
theorem d_Mo_holds_154 : decode c_Mo_holds 154 = .ok (.goto (-146), 3) := by decide +kernel
theorem d_Mo_holds_157 : decode c_Mo_holds 157 = .ok (.aload_n 0, 1) := by decide +kernel
theorem d_Mo_holds_158 : decode c_Mo_holds 158 = .ok (.getfield 88, 3) := by decide +kernel
theorem d_Mo_holds_161 : decode c_Mo_holds 161 = .ok (.iconst 0, 1) := by decide +kernel
theorem d_Mo_holds_162 : decode c_Mo_holds 162 = .ok (.laload, 1) := by decide +kernel
theorem d_Mo_holds_163 : decode c_Mo_holds 163 = .ok (.lconst 0, 1) := by decide +kernel
theorem d_Mo_holds_164 : decode c_Mo_holds 164 = .ok (.lcmp, 1) := by decide +kernel
theorem d_Mo_holds_165 : decode c_Mo_holds 165 = .ok (.ifCond .eq 7, 3) := by decide +kernel
theorem d_Mo_holds_168 : decode c_Mo_holds 168 = .ok (.iconst 1, 1) := by decide +kernel
theorem d_Mo_holds_169 : decode c_Mo_holds 169 = .ok (.goto 4, 3) := by decide +kernel
theorem d_Mo_holds_172 : decode c_Mo_holds 172 = .ok (.iconst 0, 1) := by decide +kernel
theorem d_Mo_holds_173 : decode c_Mo_holds 173 = .ok (.ireturn, 1) := by decide +kernel
abbrev c_Mo_term : ByteArray := prog_14_method_34_code
abbrev r_Mo_term : Option FieldType := (some FieldType.long)
def y_Mo_term : MethodName := ⟨"PinKindChecksModel", "term", "(IIII)J"⟩
theorem d_Mo_term_0 : decode c_Mo_term 0 = .ok (.iload_n 1, 1) := by decide +kernel
theorem d_Mo_term_1 : decode c_Mo_term 1 = .ok (.tableswitch 135 0 5 #[39, 42, 60, 70, 79, 126], 39) := by decide +kernel
theorem d_Mo_term_40 : decode c_Mo_term 40 = .ok (.iload_n 2, 1) := by decide +kernel
theorem d_Mo_term_41 : decode c_Mo_term 41 = .ok (.i2l, 1) := by decide +kernel
theorem d_Mo_term_42 : decode c_Mo_term 42 = .ok (.lreturn, 1) := by decide +kernel
theorem d_Mo_term_43 : decode c_Mo_term 43 = .ok (.aload_n 0, 1) := by decide +kernel
theorem d_Mo_term_44 : decode c_Mo_term 44 = .ok (.getfield 16, 3) := by decide +kernel
theorem d_Mo_term_47 : decode c_Mo_term 47 = .ok (.bipush 8, 2) := by decide +kernel
theorem d_Mo_term_49 : decode c_Mo_term 49 = .ok (.aload_n 0, 1) := by decide +kernel
theorem d_Mo_term_50 : decode c_Mo_term 50 = .ok (.iload_n 3, 1) := by decide +kernel
theorem d_Mo_term_51 : decode c_Mo_term 51 = .ok (.iload 4, 2) := by decide +kernel
theorem d_Mo_term_53 : decode c_Mo_term 53 = .ok (.invokevirtual 216, 3) := by decide +kernel
theorem d_Mo_term_56 : decode c_Mo_term 56 = .ok (.imul, 1) := by decide +kernel
theorem d_Mo_term_57 : decode c_Mo_term 57 = .ok (.iload_n 2, 1) := by decide +kernel
theorem d_Mo_term_58 : decode c_Mo_term 58 = .ok (.iadd, 1) := by decide +kernel
theorem d_Mo_term_59 : decode c_Mo_term 59 = .ok (.laload, 1) := by decide +kernel
theorem d_Mo_term_60 : decode c_Mo_term 60 = .ok (.lreturn, 1) := by decide +kernel
theorem d_Mo_term_61 : decode c_Mo_term 61 = .ok (.aload_n 0, 1) := by decide +kernel
theorem d_Mo_term_62 : decode c_Mo_term 62 = .ok (.iload_n 3, 1) := by decide +kernel
theorem d_Mo_term_63 : decode c_Mo_term 63 = .ok (.iload 4, 2) := by decide +kernel
theorem d_Mo_term_65 : decode c_Mo_term 65 = .ok (.iconst (-1), 1) := by decide +kernel
theorem d_Mo_term_66 : decode c_Mo_term 66 = .ok (.invokevirtual 220, 3) := by decide +kernel
theorem d_Mo_term_69 : decode c_Mo_term 69 = .ok (.i2l, 1) := by decide +kernel
theorem d_Mo_term_70 : decode c_Mo_term 70 = .ok (.lreturn, 1) := by decide +kernel
theorem d_Mo_term_71 : decode c_Mo_term 71 = .ok (.aload_n 0, 1) := by decide +kernel
theorem d_Mo_term_72 : decode c_Mo_term 72 = .ok (.getfield 32, 3) := by decide +kernel
theorem d_Mo_term_75 : decode c_Mo_term 75 = .ok (.iload 4, 2) := by decide +kernel
theorem d_Mo_term_77 : decode c_Mo_term 77 = .ok (.iaload, 1) := by decide +kernel
theorem d_Mo_term_78 : decode c_Mo_term 78 = .ok (.i2l, 1) := by decide +kernel
theorem d_Mo_term_79 : decode c_Mo_term 79 = .ok (.lreturn, 1) := by decide +kernel
theorem d_Mo_term_80 : decode c_Mo_term 80 = .ok (.iload_n 3, 1) := by decide +kernel
theorem d_Mo_term_81 : decode c_Mo_term 81 = .ok (.iconst 1, 1) := by decide +kernel
theorem d_Mo_term_82 : decode c_Mo_term 82 = .ok (.if_icmp .ne 14, 3) := by decide +kernel
theorem d_Mo_term_85 : decode c_Mo_term 85 = .ok (.aload_n 0, 1) := by decide +kernel
theorem d_Mo_term_86 : decode c_Mo_term 86 = .ok (.getfield 23, 3) := by decide +kernel
theorem d_Mo_term_89 : decode c_Mo_term 89 = .ok (.iload 4, 2) := by decide +kernel
theorem d_Mo_term_91 : decode c_Mo_term 91 = .ok (.iaload, 1) := by decide +kernel
theorem d_Mo_term_92 : decode c_Mo_term 92 = .ok (.i2l, 1) := by decide +kernel
theorem d_Mo_term_93 : decode c_Mo_term 93 = .ok (.goto 33, 3) := by decide +kernel
theorem d_Mo_term_96 : decode c_Mo_term 96 = .ok (.aload_n 0, 1) := by decide +kernel
theorem d_Mo_term_97 : decode c_Mo_term 97 = .ok (.getfield 29, 3) := by decide +kernel
theorem d_Mo_term_100 : decode c_Mo_term 100 = .ok (.iload 4, 2) := by decide +kernel
theorem d_Mo_term_102 : decode c_Mo_term 102 = .ok (.iaload, 1) := by decide +kernel
theorem d_Mo_term_103 : decode c_Mo_term 103 = .ok (.iconst (-1), 1) := by decide +kernel
theorem d_Mo_term_104 : decode c_Mo_term 104 = .ok (.if_icmp .ne 9, 3) := by decide +kernel
theorem d_Mo_term_107 : decode c_Mo_term 107 = .ok (.ldc2_w 224, 3) := by decide +kernel
theorem d_Mo_term_110 : decode c_Mo_term 110 = .ok (.goto 16, 3) := by decide +kernel
theorem d_Mo_term_113 : decode c_Mo_term 113 = .ok (.aload_n 0, 1) := by decide +kernel
theorem d_Mo_term_114 : decode c_Mo_term 114 = .ok (.getfield 23, 3) := by decide +kernel
theorem d_Mo_term_117 : decode c_Mo_term 117 = .ok (.aload_n 0, 1) := by decide +kernel
theorem d_Mo_term_118 : decode c_Mo_term 118 = .ok (.getfield 29, 3) := by decide +kernel
theorem d_Mo_term_121 : decode c_Mo_term 121 = .ok (.iload 4, 2) := by decide +kernel
theorem d_Mo_term_123 : decode c_Mo_term 123 = .ok (.iaload, 1) := by decide +kernel
theorem d_Mo_term_124 : decode c_Mo_term 124 = .ok (.iaload, 1) := by decide +kernel
theorem d_Mo_term_125 : decode c_Mo_term 125 = .ok (.i2l, 1) := by decide +kernel
theorem d_Mo_term_126 : decode c_Mo_term 126 = .ok (.lreturn, 1) := by decide +kernel
theorem d_Mo_term_127 : decode c_Mo_term 127 = .ok (.aload_n 0, 1) := by decide +kernel
theorem d_Mo_term_128 : decode c_Mo_term 128 = .ok (.iload_n 3, 1) := by decide +kernel
theorem d_Mo_term_129 : decode c_Mo_term 129 = .ok (.iload 4, 2) := by decide +kernel
theorem d_Mo_term_131 : decode c_Mo_term 131 = .ok (.invokevirtual 226, 3) := by decide +kernel
theorem d_Mo_term_134 : decode c_Mo_term 134 = .ok (.i2l, 1) := by decide +kernel
theorem d_Mo_term_135 : decode c_Mo_term 135 = .ok (.lreturn, 1) := by decide +kernel
theorem d_Mo_term_136 : decode c_Mo_term 136 = .ok (.aload_n 0, 1) := by decide +kernel
theorem d_Mo_term_137 : decode c_Mo_term 137 = .ok (.iload_n 3, 1) := by decide +kernel
theorem d_Mo_term_138 : decode c_Mo_term 138 = .ok (.iload 4, 2) := by decide +kernel
theorem d_Mo_term_140 : decode c_Mo_term 140 = .ok (.iload_n 2, 1) := by decide +kernel
theorem d_Mo_term_141 : decode c_Mo_term 141 = .ok (.invokevirtual 220, 3) := by decide +kernel
theorem d_Mo_term_144 : decode c_Mo_term 144 = .ok (.i2l, 1) := by decide +kernel
theorem d_Mo_term_145 : decode c_Mo_term 145 = .ok (.lreturn, 1) := by decide +kernel
abbrev c_Mo_partOf : ByteArray := prog_14_method_31_code
abbrev r_Mo_partOf : Option FieldType := (some FieldType.int)
def y_Mo_partOf : MethodName := ⟨"PinKindChecksModel", "partOf", "(II)I"⟩
theorem d_Mo_partOf_0 : decode c_Mo_partOf 0 = .ok (.iload_n 1, 1) := by decide +kernel
theorem d_Mo_partOf_1 : decode c_Mo_partOf 1 = .ok (.ifCond .ne 7, 3) := by decide +kernel
theorem d_Mo_partOf_4 : decode c_Mo_partOf 4 = .ok (.iload_n 2, 1) := by decide +kernel
theorem d_Mo_partOf_5 : decode c_Mo_partOf 5 = .ok (.goto 9, 3) := by decide +kernel
theorem d_Mo_partOf_8 : decode c_Mo_partOf 8 = .ok (.aload_n 0, 1) := by decide +kernel
theorem d_Mo_partOf_9 : decode c_Mo_partOf 9 = .ok (.getfield 26, 3) := by decide +kernel
theorem d_Mo_partOf_12 : decode c_Mo_partOf 12 = .ok (.iload_n 2, 1) := by decide +kernel
theorem d_Mo_partOf_13 : decode c_Mo_partOf 13 = .ok (.iaload, 1) := by decide +kernel
theorem d_Mo_partOf_14 : decode c_Mo_partOf 14 = .ok (.ireturn, 1) := by decide +kernel
abbrev c_Mo_pinsOf : ByteArray := prog_14_method_33_code
abbrev r_Mo_pinsOf : Option FieldType := (some FieldType.int)
def y_Mo_pinsOf : MethodName := ⟨"PinKindChecksModel", "pinsOf", "(III)I"⟩
theorem d_Mo_pinsOf_0 : decode c_Mo_pinsOf 0 = .ok (.iconst 0, 1) := by decide +kernel
theorem d_Mo_pinsOf_1 : decode c_Mo_pinsOf 1 = .ok (.istore 4, 2) := by decide +kernel
theorem d_Mo_pinsOf_3 : decode c_Mo_pinsOf 3 = .ok (.iconst 0, 1) := by decide +kernel
theorem d_Mo_pinsOf_4 : decode c_Mo_pinsOf 4 = .ok (.istore 5, 2) := by decide +kernel
theorem d_Mo_pinsOf_6 : decode c_Mo_pinsOf 6 = .ok (.iload 5, 2) := by decide +kernel
theorem d_Mo_pinsOf_8 : decode c_Mo_pinsOf 8 = .ok (.aload_n 0, 1) := by decide +kernel
theorem d_Mo_pinsOf_9 : decode c_Mo_pinsOf 9 = .ok (.getfield 113, 3) := by decide +kernel
theorem d_Mo_pinsOf_12 : decode c_Mo_pinsOf 12 = .ok (.if_icmp .ge 80, 3) := by decide +kernel
theorem d_Mo_pinsOf_15 : decode c_Mo_pinsOf 15 = .ok (.iload_n 1, 1) := by decide +kernel
theorem d_Mo_pinsOf_16 : decode c_Mo_pinsOf 16 = .ok (.ifCond .ne 22, 3) := by decide +kernel
theorem d_Mo_pinsOf_19 : decode c_Mo_pinsOf 19 = .ok (.aload_n 0, 1) := by decide +kernel
theorem d_Mo_pinsOf_20 : decode c_Mo_pinsOf 20 = .ok (.getfield 26, 3) := by decide +kernel
theorem d_Mo_pinsOf_23 : decode c_Mo_pinsOf 23 = .ok (.iload 5, 2) := by decide +kernel
theorem d_Mo_pinsOf_25 : decode c_Mo_pinsOf 25 = .ok (.iaload, 1) := by decide +kernel
theorem d_Mo_pinsOf_26 : decode c_Mo_pinsOf 26 = .ok (.iload_n 2, 1) := by decide +kernel
theorem d_Mo_pinsOf_27 : decode c_Mo_pinsOf 27 = .ok (.if_icmp .ne 7, 3) := by decide +kernel
theorem d_Mo_pinsOf_30 : decode c_Mo_pinsOf 30 = .ok (.iconst 1, 1) := by decide +kernel
theorem d_Mo_pinsOf_31 : decode c_Mo_pinsOf 31 = .ok (.goto 23, 3) := by decide +kernel
theorem d_Mo_pinsOf_34 : decode c_Mo_pinsOf 34 = .ok (.iconst 0, 1) := by decide +kernel
theorem d_Mo_pinsOf_35 : decode c_Mo_pinsOf 35 = .ok (.goto 19, 3) := by decide +kernel
theorem d_Mo_pinsOf_38 : decode c_Mo_pinsOf 38 = .ok (.aload_n 0, 1) := by decide +kernel
theorem d_Mo_pinsOf_39 : decode c_Mo_pinsOf 39 = .ok (.getfield 29, 3) := by decide +kernel
theorem d_Mo_pinsOf_42 : decode c_Mo_pinsOf 42 = .ok (.iload 5, 2) := by decide +kernel
theorem d_Mo_pinsOf_44 : decode c_Mo_pinsOf 44 = .ok (.iaload, 1) := by decide +kernel
theorem d_Mo_pinsOf_45 : decode c_Mo_pinsOf 45 = .ok (.iload_n 2, 1) := by decide +kernel
theorem d_Mo_pinsOf_46 : decode c_Mo_pinsOf 46 = .ok (.if_icmp .ne 7, 3) := by decide +kernel
theorem d_Mo_pinsOf_49 : decode c_Mo_pinsOf 49 = .ok (.iconst 1, 1) := by decide +kernel
theorem d_Mo_pinsOf_50 : decode c_Mo_pinsOf 50 = .ok (.goto 4, 3) := by decide +kernel
theorem d_Mo_pinsOf_53 : decode c_Mo_pinsOf 53 = .ok (.iconst 0, 1) := by decide +kernel
theorem d_Mo_pinsOf_54 : decode c_Mo_pinsOf 54 = .ok (.istore 6, 2) := by decide +kernel
theorem d_Mo_pinsOf_56 : decode c_Mo_pinsOf 56 = .ok (.iload 4, 2) := by decide +kernel
theorem d_Mo_pinsOf_58 : decode c_Mo_pinsOf 58 = .ok (.iload 6, 2) := by decide +kernel
theorem d_Mo_pinsOf_60 : decode c_Mo_pinsOf 60 = .ok (.ifCond .eq 22, 3) := by decide +kernel
theorem d_Mo_pinsOf_63 : decode c_Mo_pinsOf 63 = .ok (.iload_n 3, 1) := by decide +kernel
theorem d_Mo_pinsOf_64 : decode c_Mo_pinsOf 64 = .ok (.ifCond .lt 14, 3) := by decide +kernel
theorem d_Mo_pinsOf_67 : decode c_Mo_pinsOf 67 = .ok (.aload_n 0, 1) := by decide +kernel
theorem d_Mo_pinsOf_68 : decode c_Mo_pinsOf 68 = .ok (.getfield 32, 3) := by decide +kernel
