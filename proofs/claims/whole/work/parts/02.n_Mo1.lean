theorem d_Mo_reads_137 : decode c_Mo_reads 137 = .ok (.iload_n 2, 1) := by decide +kernel
theorem d_Mo_reads_138 : decode c_Mo_reads 138 = .ok (.ifCond .eq 13, 3) := by decide +kernel
theorem d_Mo_reads_141 : decode c_Mo_reads 141 = .ok (.aload_n 0, 1) := by decide +kernel
theorem d_Mo_reads_142 : decode c_Mo_reads 142 = .ok (.getfield 47, 3) := by decide +kernel
theorem d_Mo_reads_145 : decode c_Mo_reads 145 = .ok (.iload_n 1, 1) := by decide +kernel
theorem d_Mo_reads_146 : decode c_Mo_reads 146 = .ok (.iaload, 1) := by decide +kernel
theorem d_Mo_reads_147 : decode c_Mo_reads 147 = .ok (.iconst (-1), 1) := by decide +kernel
theorem d_Mo_reads_148 : decode c_Mo_reads 148 = .ok (.if_icmp .ne 5, 3) := by decide +kernel
theorem d_Mo_reads_151 : decode c_Mo_reads 151 = .ok (.iconst 0, 1) := by decide +kernel
theorem d_Mo_reads_152 : decode c_Mo_reads 152 = .ok (.ireturn, 1) := by decide +kernel
theorem d_Mo_reads_153 : decode c_Mo_reads 153 = .ok (.aload_n 0, 1) := by decide +kernel
theorem d_Mo_reads_154 : decode c_Mo_reads 154 = .ok (.invokevirtual 164, 3) := by decide +kernel
theorem d_Mo_reads_157 : decode c_Mo_reads 157 = .ok (.istore_n 2, 1) := by decide +kernel
theorem d_Mo_reads_158 : decode c_Mo_reads 158 = .ok (.iload_n 2, 1) := by decide +kernel
theorem d_Mo_reads_159 : decode c_Mo_reads 159 = .ok (.ifCond .ne 13, 3) := by decide +kernel
theorem d_Mo_reads_162 : decode c_Mo_reads 162 = .ok (.aload_n 0, 1) := by decide +kernel
theorem d_Mo_reads_163 : decode c_Mo_reads 163 = .ok (.dup, 1) := by decide +kernel
theorem d_Mo_reads_164 : decode c_Mo_reads 164 = .ok (.getfield 128, 3) := by decide +kernel
theorem d_Mo_reads_167 : decode c_Mo_reads 167 = .ok (.iconst 1, 1) := by decide +kernel
theorem d_Mo_reads_168 : decode c_Mo_reads 168 = .ok (.iadd, 1) := by decide +kernel
theorem d_Mo_reads_169 : decode c_Mo_reads 169 = .ok (.putfield 128, 3) := by decide +kernel
theorem d_Mo_reads_172 : decode c_Mo_reads 172 = .ok (.iload_n 2, 1) := by decide +kernel
theorem d_Mo_reads_173 : decode c_Mo_reads 173 = .ok (.ifCond .eq 10, 3) := by decide +kernel
theorem d_Mo_reads_176 : decode c_Mo_reads 176 = .ok (.aload_n 0, 1) := by decide +kernel
theorem d_Mo_reads_177 : decode c_Mo_reads 177 = .ok (.invokevirtual 145, 3) := by decide +kernel
theorem d_Mo_reads_180 : decode c_Mo_reads 180 = .ok (.goto 4, 3) := by decide +kernel
theorem d_Mo_reads_183 : decode c_Mo_reads 183 = .ok (.lconst 0, 1) := by decide +kernel
theorem d_Mo_reads_184 : decode c_Mo_reads 184 = .ok (.lstore_n 3, 1) := by decide +kernel
theorem d_Mo_reads_185 : decode c_Mo_reads 185 = .ok (.aload_n 0, 1) := by decide +kernel
theorem d_Mo_reads_186 : decode c_Mo_reads 186 = .ok (.getfield 50, 3) := by decide +kernel
theorem d_Mo_reads_189 : decode c_Mo_reads 189 = .ok (.iload_n 1, 1) := by decide +kernel
theorem d_Mo_reads_190 : decode c_Mo_reads 190 = .ok (.lload_n 3, 1) := by decide +kernel
theorem d_Mo_reads_191 : decode c_Mo_reads 191 = .ok (.bipush 119, 2) := by decide +kernel
theorem d_Mo_reads_193 : decode c_Mo_reads 193 = .ok (.bipush 97, 2) := by decide +kernel
theorem d_Mo_reads_195 : decode c_Mo_reads 195 = .ok (.bipush 114, 2) := by decide +kernel
theorem d_Mo_reads_197 : decode c_Mo_reads 197 = .ok (.bipush 110, 2) := by decide +kernel
theorem d_Mo_reads_199 : decode c_Mo_reads 199 = .ok (.iconst 0, 1) := by decide +kernel
theorem d_Mo_reads_200 : decode c_Mo_reads 200 = .ok (.invokestatic 157, 3) := by decide +kernel
theorem d_Mo_reads_203 : decode c_Mo_reads 203 = .ok (.lcmp, 1) := by decide +kernel
theorem d_Mo_reads_204 : decode c_Mo_reads 204 = .ok (.ifCond .ne 7, 3) := by decide +kernel
theorem d_Mo_reads_207 : decode c_Mo_reads 207 = .ok (.iconst 1, 1) := by decide +kernel
theorem d_Mo_reads_208 : decode c_Mo_reads 208 = .ok (.goto 26, 3) := by decide +kernel
theorem d_Mo_reads_211 : decode c_Mo_reads 211 = .ok (.lload_n 3, 1) := by decide +kernel
theorem d_Mo_reads_212 : decode c_Mo_reads 212 = .ok (.bipush 101, 2) := by decide +kernel
theorem d_Mo_reads_214 : decode c_Mo_reads 214 = .ok (.bipush 114, 2) := by decide +kernel
theorem d_Mo_reads_216 : decode c_Mo_reads 216 = .ok (.bipush 114, 2) := by decide +kernel
theorem d_Mo_reads_218 : decode c_Mo_reads 218 = .ok (.bipush 111, 2) := by decide +kernel
theorem d_Mo_reads_220 : decode c_Mo_reads 220 = .ok (.bipush 114, 2) := by decide +kernel
theorem d_Mo_reads_222 : decode c_Mo_reads 222 = .ok (.invokestatic 157, 3) := by decide +kernel
theorem d_Mo_reads_225 : decode c_Mo_reads 225 = .ok (.lcmp, 1) := by decide +kernel
theorem d_Mo_reads_226 : decode c_Mo_reads 226 = .ok (.ifCond .ne 7, 3) := by decide +kernel
theorem d_Mo_reads_229 : decode c_Mo_reads 229 = .ok (.iconst 2, 1) := by decide +kernel
theorem d_Mo_reads_230 : decode c_Mo_reads 230 = .ok (.goto 4, 3) := by decide +kernel
theorem d_Mo_reads_233 : decode c_Mo_reads 233 = .ok (.iconst 0, 1) := by decide +kernel
theorem d_Mo_reads_234 : decode c_Mo_reads 234 = .ok (.iastore, 1) := by decide +kernel
theorem d_Mo_reads_235 : decode c_Mo_reads 235 = .ok (.iload_n 2, 1) := by decide +kernel
theorem d_Mo_reads_236 : decode c_Mo_reads 236 = .ok (.ifCond .eq 12, 3) := by decide +kernel
theorem d_Mo_reads_239 : decode c_Mo_reads 239 = .ok (.aload_n 0, 1) := by decide +kernel
theorem d_Mo_reads_240 : decode c_Mo_reads 240 = .ok (.getfield 50, 3) := by decide +kernel
theorem d_Mo_reads_243 : decode c_Mo_reads 243 = .ok (.iload_n 1, 1) := by decide +kernel
theorem d_Mo_reads_244 : decode c_Mo_reads 244 = .ok (.iaload, 1) := by decide +kernel
theorem d_Mo_reads_245 : decode c_Mo_reads 245 = .ok (.ifCond .ne 5, 3) := by decide +kernel
theorem d_Mo_reads_248 : decode c_Mo_reads 248 = .ok (.iconst 0, 1) := by decide +kernel
theorem d_Mo_reads_249 : decode c_Mo_reads 249 = .ok (.ireturn, 1) := by decide +kernel
theorem d_Mo_reads_250 : decode c_Mo_reads 250 = .ok (.aload_n 0, 1) := by decide +kernel
theorem d_Mo_reads_251 : decode c_Mo_reads 251 = .ok (.invokevirtual 164, 3) := by decide +kernel
theorem d_Mo_reads_254 : decode c_Mo_reads 254 = .ok (.ifCond .eq 18, 3) := by decide +kernel
theorem d_Mo_reads_257 : decode c_Mo_reads 257 = .ok (.aload_n 0, 1) := by decide +kernel
theorem d_Mo_reads_258 : decode c_Mo_reads 258 = .ok (.aload_n 0, 1) := by decide +kernel
theorem d_Mo_reads_259 : decode c_Mo_reads 259 = .ok (.getfield 47, 3) := by decide +kernel
theorem d_Mo_reads_262 : decode c_Mo_reads 262 = .ok (.iload_n 1, 1) := by decide +kernel
theorem d_Mo_reads_263 : decode c_Mo_reads 263 = .ok (.iaload, 1) := by decide +kernel
theorem d_Mo_reads_264 : decode c_Mo_reads 264 = .ok (.invokevirtual 207, 3) := by decide +kernel
theorem d_Mo_reads_267 : decode c_Mo_reads 267 = .ok (.ifCond .ne (-17), 3) := by decide +kernel
theorem d_Mo_reads_270 : decode c_Mo_reads 270 = .ok (.iconst 0, 1) := by decide +kernel
theorem d_Mo_reads_271 : decode c_Mo_reads 271 = .ok (.ireturn, 1) := by decide +kernel
theorem d_Mo_reads_272 : decode c_Mo_reads 272 = .ok (.aload_n 0, 1) := by decide +kernel
theorem d_Mo_reads_273 : decode c_Mo_reads 273 = .ok (.getfield 184, 3) := by decide +kernel
theorem d_Mo_reads_276 : decode c_Mo_reads 276 = .ok (.iconst 4, 1) := by decide +kernel
theorem d_Mo_reads_277 : decode c_Mo_reads 277 = .ok (.if_icmp .lt 10, 3) := by decide +kernel
theorem d_Mo_reads_280 : decode c_Mo_reads 280 = .ok (.aload_n 0, 1) := by decide +kernel
theorem d_Mo_reads_281 : decode c_Mo_reads 281 = .ok (.getfield 196, 3) := by decide +kernel
theorem d_Mo_reads_284 : decode c_Mo_reads 284 = .ok (.ifCond .le 15, 3) := by decide +kernel
theorem d_Mo_reads_287 : decode c_Mo_reads 287 = .ok (.aload_n 0, 1) := by decide +kernel
theorem d_Mo_reads_288 : decode c_Mo_reads 288 = .ok (.dup, 1) := by decide +kernel
theorem d_Mo_reads_289 : decode c_Mo_reads 289 = .ok (.getfield 128, 3) := by decide +kernel
theorem d_Mo_reads_292 : decode c_Mo_reads 292 = .ok (.iconst 1, 1) := by decide +kernel
theorem d_Mo_reads_293 : decode c_Mo_reads 293 = .ok (.iadd, 1) := by decide +kernel
theorem d_Mo_reads_294 : decode c_Mo_reads 294 = .ok (.putfield 128, 3) := by decide +kernel
theorem d_Mo_reads_297 : decode c_Mo_reads 297 = .ok (.iconst 0, 1) := by decide +kernel
theorem d_Mo_reads_298 : decode c_Mo_reads 298 = .ok (.ireturn, 1) := by decide +kernel
theorem d_Mo_reads_299 : decode c_Mo_reads 299 = .ok (.aload_n 0, 1) := by decide +kernel
theorem d_Mo_reads_300 : decode c_Mo_reads 300 = .ok (.iconst 1, 1) := by decide +kernel
theorem d_Mo_reads_301 : decode c_Mo_reads 301 = .ok (.invokevirtual 187, 3) := by decide +kernel
theorem d_Mo_reads_304 : decode c_Mo_reads 304 = .ok (.iconst 1, 1) := by decide +kernel
theorem d_Mo_reads_305 : decode c_Mo_reads 305 = .ok (.ireturn, 1) := by decide +kernel
abbrev c_Mo_nextWord : ByteArray := prog_14_method_15_code
abbrev r_Mo_nextWord : Option FieldType := (some FieldType.boolean)
def y_Mo_nextWord : MethodName := ⟨"PinKindChecksModel", "nextWord", "()Z"⟩
theorem d_Mo_nextWord_0 : decode c_Mo_nextWord 0 = .ok (.aload_n 0, 1) := by decide +kernel
theorem d_Mo_nextWord_1 : decode c_Mo_nextWord 1 = .ok (.getfield 122, 3) := by decide +kernel
theorem d_Mo_nextWord_4 : decode c_Mo_nextWord 4 = .ok (.aload_n 0, 1) := by decide +kernel
theorem d_Mo_nextWord_5 : decode c_Mo_nextWord 5 = .ok (.getfield 119, 3) := by decide +kernel
theorem d_Mo_nextWord_8 : decode c_Mo_nextWord 8 = .ok (.if_icmp .ge 30, 3) := by decide +kernel
theorem d_Mo_nextWord_11 : decode c_Mo_nextWord 11 = .ok (.aload_n 0, 1) := by decide +kernel
theorem d_Mo_nextWord_12 : decode c_Mo_nextWord 12 = .ok (.getfield 44, 3) := by decide +kernel
theorem d_Mo_nextWord_15 : decode c_Mo_nextWord 15 = .ok (.aload_n 0, 1) := by decide +kernel
theorem d_Mo_nextWord_16 : decode c_Mo_nextWord 16 = .ok (.getfield 122, 3) := by decide +kernel
theorem d_Mo_nextWord_19 : decode c_Mo_nextWord 19 = .ok (.iaload, 1) := by decide +kernel
theorem d_Mo_nextWord_20 : decode c_Mo_nextWord 20 = .ok (.bipush 32, 2) := by decide +kernel
theorem d_Mo_nextWord_22 : decode c_Mo_nextWord 22 = .ok (.if_icmp .ne 16, 3) := by decide +kernel
theorem d_Mo_nextWord_25 : decode c_Mo_nextWord 25 = .ok (.aload_n 0, 1) := by decide +kernel
theorem d_Mo_nextWord_26 : decode c_Mo_nextWord 26 = .ok (.dup, 1) := by decide +kernel
theorem d_Mo_nextWord_27 : decode c_Mo_nextWord 27 = .ok (.getfield 122, 3) := by decide +kernel
theorem d_Mo_nextWord_30 : decode c_Mo_nextWord 30 = .ok (.iconst 1, 1) := by decide +kernel
theorem d_Mo_nextWord_31 : decode c_Mo_nextWord 31 = .ok (.iadd, 1) := by decide +kernel
theorem d_Mo_nextWord_32 : decode c_Mo_nextWord 32 = .ok (.putfield 122, 3) := by decide +kernel
theorem d_Mo_nextWord_35 : decode c_Mo_nextWord 35 = .ok (.goto (-35), 3) := by decide +kernel
theorem d_Mo_nextWord_38 : decode c_Mo_nextWord 38 = .ok (.aload_n 0, 1) := by decide +kernel
theorem d_Mo_nextWord_39 : decode c_Mo_nextWord 39 = .ok (.aload_n 0, 1) := by decide +kernel
theorem d_Mo_nextWord_40 : decode c_Mo_nextWord 40 = .ok (.getfield 122, 3) := by decide +kernel
theorem d_Mo_nextWord_43 : decode c_Mo_nextWord 43 = .ok (.putfield 125, 3) := by decide +kernel
theorem d_Mo_nextWord_46 : decode c_Mo_nextWord 46 = .ok (.aload_n 0, 1) := by decide +kernel
theorem d_Mo_nextWord_47 : decode c_Mo_nextWord 47 = .ok (.getfield 122, 3) := by decide +kernel
theorem d_Mo_nextWord_50 : decode c_Mo_nextWord 50 = .ok (.aload_n 0, 1) := by decide +kernel
theorem d_Mo_nextWord_51 : decode c_Mo_nextWord 51 = .ok (.getfield 119, 3) := by decide +kernel
theorem d_Mo_nextWord_54 : decode c_Mo_nextWord 54 = .ok (.if_icmp .ge 30, 3) := by decide +kernel
theorem d_Mo_nextWord_57 : decode c_Mo_nextWord 57 = .ok (.aload_n 0, 1) := by decide +kernel
theorem d_Mo_nextWord_58 : decode c_Mo_nextWord 58 = .ok (.getfield 44, 3) := by decide +kernel
theorem d_Mo_nextWord_61 : decode c_Mo_nextWord 61 = .ok (.aload_n 0, 1) := by decide +kernel
theorem d_Mo_nextWord_62 : decode c_Mo_nextWord 62 = .ok (.getfield 122, 3) := by decide +kernel
theorem d_Mo_nextWord_65 : decode c_Mo_nextWord 65 = .ok (.iaload, 1) := by decide +kernel
theorem d_Mo_nextWord_66 : decode c_Mo_nextWord 66 = .ok (.bipush 32, 2) := by decide +kernel
theorem d_Mo_nextWord_68 : decode c_Mo_nextWord 68 = .ok (.if_icmp .eq 16, 3) := by decide +kernel
theorem d_Mo_nextWord_71 : decode c_Mo_nextWord 71 = .ok (.aload_n 0, 1) := by decide +kernel
theorem d_Mo_nextWord_72 : decode c_Mo_nextWord 72 = .ok (.dup, 1) := by decide +kernel
theorem d_Mo_nextWord_73 : decode c_Mo_nextWord 73 = .ok (.getfield 122, 3) := by decide +kernel
theorem d_Mo_nextWord_76 : decode c_Mo_nextWord 76 = .ok (.iconst 1, 1) := by decide +kernel
theorem d_Mo_nextWord_77 : decode c_Mo_nextWord 77 = .ok (.iadd, 1) := by decide +kernel
theorem d_Mo_nextWord_78 : decode c_Mo_nextWord 78 = .ok (.putfield 122, 3) := by decide +kernel
theorem d_Mo_nextWord_81 : decode c_Mo_nextWord 81 = .ok (.goto (-35), 3) := by decide +kernel
theorem d_Mo_nextWord_84 : decode c_Mo_nextWord 84 = .ok (.aload_n 0, 1) := by decide +kernel
theorem d_Mo_nextWord_85 : decode c_Mo_nextWord 85 = .ok (.getfield 122, 3) := by decide +kernel
theorem d_Mo_nextWord_88 : decode c_Mo_nextWord 88 = .ok (.aload_n 0, 1) := by decide +kernel
theorem d_Mo_nextWord_89 : decode c_Mo_nextWord 89 = .ok (.getfield 125, 3) := by decide +kernel
theorem d_Mo_nextWord_92 : decode c_Mo_nextWord 92 = .ok (.if_icmp .le 13, 3) := by decide +kernel
theorem d_Mo_nextWord_95 : decode c_Mo_nextWord 95 = .ok (.aload_n 0, 1) := by decide +kernel
theorem d_Mo_nextWord_96 : decode c_Mo_nextWord 96 = .ok (.dup, 1) := by decide +kernel
theorem d_Mo_nextWord_97 : decode c_Mo_nextWord 97 = .ok (.getfield 128, 3) := by decide +kernel
theorem d_Mo_nextWord_100 : decode c_Mo_nextWord 100 = .ok (.iconst 1, 1) := by decide +kernel
theorem d_Mo_nextWord_101 : decode c_Mo_nextWord 101 = .ok (.iadd, 1) := by decide +kernel
theorem d_Mo_nextWord_102 : decode c_Mo_nextWord 102 = .ok (.putfield 128, 3) := by decide +kernel
theorem d_Mo_nextWord_105 : decode c_Mo_nextWord 105 = .ok (.aload_n 0, 1) := by decide +kernel
theorem d_Mo_nextWord_106 : decode c_Mo_nextWord 106 = .ok (.getfield 122, 3) := by decide +kernel
theorem d_Mo_nextWord_109 : decode c_Mo_nextWord 109 = .ok (.aload_n 0, 1) := by decide +kernel
theorem d_Mo_nextWord_110 : decode c_Mo_nextWord 110 = .ok (.getfield 125, 3) := by decide +kernel
theorem d_Mo_nextWord_113 : decode c_Mo_nextWord 113 = .ok (.if_icmp .le 7, 3) := by decide +kernel
theorem d_Mo_nextWord_116 : decode c_Mo_nextWord 116 = .ok (.iconst 1, 1) := by decide +kernel
theorem d_Mo_nextWord_117 : decode c_Mo_nextWord 117 = .ok (.goto 4, 3) := by decide +kernel
theorem d_Mo_nextWord_120 : decode c_Mo_nextWord 120 = .ok (.iconst 0, 1) := by decide +kernel
theorem d_Mo_nextWord_121 : decode c_Mo_nextWord 121 = .ok (.ireturn, 1) := by decide +kernel
abbrev c_Mo_spelt : ByteArray := prog_14_method_16_code
abbrev r_Mo_spelt : Option FieldType := (some FieldType.long)
def y_Mo_spelt : MethodName := ⟨"PinKindChecksModel", "spelt", "()J"⟩
theorem d_Mo_spelt_0 : decode c_Mo_spelt 0 = .ok (.aload_n 0, 1) := by decide +kernel
theorem d_Mo_spelt_1 : decode c_Mo_spelt 1 = .ok (.getfield 122, 3) := by decide +kernel
theorem d_Mo_spelt_4 : decode c_Mo_spelt 4 = .ok (.aload_n 0, 1) := by decide +kernel
theorem d_Mo_spelt_5 : decode c_Mo_spelt 5 = .ok (.getfield 125, 3) := by decide +kernel
theorem d_Mo_spelt_8 : decode c_Mo_spelt 8 = .ok (.isub, 1) := by decide +kernel
theorem d_Mo_spelt_9 : decode c_Mo_spelt 9 = .ok (.bipush 8, 2) := by decide +kernel
theorem d_Mo_spelt_11 : decode c_Mo_spelt 11 = .ok (.if_icmp .le 5, 3) := by decide +kernel
theorem d_Mo_spelt_14 : decode c_Mo_spelt 14 = .ok (.lconst 0, 1) := by decide +kernel
theorem d_Mo_spelt_15 : decode c_Mo_spelt 15 = .ok (.lreturn, 1) := by decide +kernel
theorem d_Mo_spelt_16 : decode c_Mo_spelt 16 = .ok (.lconst 0, 1) := by decide +kernel
theorem d_Mo_spelt_17 : decode c_Mo_spelt 17 = .ok (.lstore_n 1, 1) := by decide +kernel
theorem d_Mo_spelt_18 : decode c_Mo_spelt 18 = .ok (.aload_n 0, 1) := by decide +kernel
theorem d_Mo_spelt_19 : decode c_Mo_spelt 19 = .ok (.getfield 125, 3) := by decide +kernel
theorem d_Mo_spelt_22 : decode c_Mo_spelt 22 = .ok (.istore_n 3, 1) := by decide +kernel
theorem d_Mo_spelt_23 : decode c_Mo_spelt 23 = .ok (.iload_n 3, 1) := by decide +kernel
theorem d_Mo_spelt_24 : decode c_Mo_spelt 24 = .ok (.aload_n 0, 1) := by decide +kernel
theorem d_Mo_spelt_25 : decode c_Mo_spelt 25 = .ok (.getfield 122, 3) := by decide +kernel
theorem d_Mo_spelt_28 : decode c_Mo_spelt 28 = .ok (.if_icmp .ge 22, 3) := by decide +kernel
theorem d_Mo_spelt_31 : decode c_Mo_spelt 31 = .ok (.lload_n 1, 1) := by decide +kernel
theorem d_Mo_spelt_32 : decode c_Mo_spelt 32 = .ok (.bipush 8, 2) := by decide +kernel
theorem d_Mo_spelt_34 : decode c_Mo_spelt 34 = .ok (.lshl, 1) := by decide +kernel
theorem d_Mo_spelt_35 : decode c_Mo_spelt 35 = .ok (.aload_n 0, 1) := by decide +kernel
theorem d_Mo_spelt_36 : decode c_Mo_spelt 36 = .ok (.getfield 44, 3) := by decide +kernel
theorem d_Mo_spelt_39 : decode c_Mo_spelt 39 = .ok (.iload_n 3, 1) := by decide +kernel
theorem d_Mo_spelt_40 : decode c_Mo_spelt 40 = .ok (.iaload, 1) := by decide +kernel
theorem d_Mo_spelt_41 : decode c_Mo_spelt 41 = .ok (.i2l, 1) := by decide +kernel
theorem d_Mo_spelt_42 : decode c_Mo_spelt 42 = .ok (.lor, 1) := by decide +kernel
theorem d_Mo_spelt_43 : decode c_Mo_spelt 43 = .ok (.lstore_n 1, 1) := by decide +kernel
theorem d_Mo_spelt_44 : decode c_Mo_spelt 44 = .ok (.iinc 3 1, 3) := by decide +kernel
theorem d_Mo_spelt_47 : decode c_Mo_spelt 47 = .ok (.goto (-24), 3) := by decide +kernel
theorem d_Mo_spelt_50 : decode c_Mo_spelt 50 = .ok (.lload_n 1, 1) := by decide +kernel
theorem d_Mo_spelt_51 : decode c_Mo_spelt 51 = .ok (.lreturn, 1) := by decide +kernel
abbrev c_Mo_word : ByteArray := prog_14_method_17_code
abbrev r_Mo_word : Option FieldType := (some FieldType.long)
def y_Mo_word : MethodName := ⟨"PinKindChecksModel", "word", "(IIIII)J"⟩
theorem d_Mo_word_0 : decode c_Mo_word 0 = .ok (.iload_n 0, 1) := by decide +kernel
theorem d_Mo_word_1 : decode c_Mo_word 1 = .ok (.i2l, 1) := by decide +kernel
theorem d_Mo_word_2 : decode c_Mo_word 2 = .ok (.bipush 8, 2) := by decide +kernel
theorem d_Mo_word_4 : decode c_Mo_word 4 = .ok (.lshl, 1) := by decide +kernel
theorem d_Mo_word_5 : decode c_Mo_word 5 = .ok (.iload_n 1, 1) := by decide +kernel
theorem d_Mo_word_6 : decode c_Mo_word 6 = .ok (.i2l, 1) := by decide +kernel
theorem d_Mo_word_7 : decode c_Mo_word 7 = .ok (.lor, 1) := by decide +kernel
theorem d_Mo_word_8 : decode c_Mo_word 8 = .ok (.lstore 5, 2) := by decide +kernel
theorem d_Mo_word_10 : decode c_Mo_word 10 = .ok (.iload_n 2, 1) := by decide +kernel
theorem d_Mo_word_11 : decode c_Mo_word 11 = .ok (.ifCond .le 14, 3) := by decide +kernel
theorem d_Mo_word_14 : decode c_Mo_word 14 = .ok (.lload 5, 2) := by decide +kernel
theorem d_Mo_word_16 : decode c_Mo_word 16 = .ok (.bipush 8, 2) := by decide +kernel
theorem d_Mo_word_18 : decode c_Mo_word 18 = .ok (.lshl, 1) := by decide +kernel
theorem d_Mo_word_19 : decode c_Mo_word 19 = .ok (.iload_n 2, 1) := by decide +kernel
theorem d_Mo_word_20 : decode c_Mo_word 20 = .ok (.i2l, 1) := by decide +kernel
theorem d_Mo_word_21 : decode c_Mo_word 21 = .ok (.lor, 1) := by decide +kernel
theorem d_Mo_word_22 : decode c_Mo_word 22 = .ok (.goto 5, 3) := by decide +kernel
theorem d_Mo_word_25 : decode c_Mo_word 25 = .ok (.lload 5, 2) := by decide +kernel
theorem d_Mo_word_27 : decode c_Mo_word 27 = .ok (.lstore 5, 2) := by decide +kernel
theorem d_Mo_word_29 : decode c_Mo_word 29 = .ok (.iload_n 3, 1) := by decide +kernel
theorem d_Mo_word_30 : decode c_Mo_word 30 = .ok (.ifCond .le 14, 3) := by decide +kernel
theorem d_Mo_word_33 : decode c_Mo_word 33 = .ok (.lload 5, 2) := by decide +kernel
theorem d_Mo_word_35 : decode c_Mo_word 35 = .ok (.bipush 8, 2) := by decide +kernel
theorem d_Mo_word_37 : decode c_Mo_word 37 = .ok (.lshl, 1) := by decide +kernel
theorem d_Mo_word_38 : decode c_Mo_word 38 = .ok (.iload_n 3, 1) := by decide +kernel
theorem d_Mo_word_39 : decode c_Mo_word 39 = .ok (.i2l, 1) := by decide +kernel
theorem d_Mo_word_40 : decode c_Mo_word 40 = .ok (.lor, 1) := by decide +kernel
theorem d_Mo_word_41 : decode c_Mo_word 41 = .ok (.goto 5, 3) := by decide +kernel
theorem d_Mo_word_44 : decode c_Mo_word 44 = .ok (.lload 5, 2) := by decide +kernel
theorem d_Mo_word_46 : decode c_Mo_word 46 = .ok (.lstore 5, 2) := by decide +kernel
theorem d_Mo_word_48 : decode c_Mo_word 48 = .ok (.iload 4, 2) := by decide +kernel
theorem d_Mo_word_50 : decode c_Mo_word 50 = .ok (.ifCond .le 15, 3) := by decide +kernel
theorem d_Mo_word_53 : decode c_Mo_word 53 = .ok (.lload 5, 2) := by decide +kernel
theorem d_Mo_word_55 : decode c_Mo_word 55 = .ok (.bipush 8, 2) := by decide +kernel
theorem d_Mo_word_57 : decode c_Mo_word 57 = .ok (.lshl, 1) := by decide +kernel
theorem d_Mo_word_58 : decode c_Mo_word 58 = .ok (.iload 4, 2) := by decide +kernel
theorem d_Mo_word_60 : decode c_Mo_word 60 = .ok (.i2l, 1) := by decide +kernel
theorem d_Mo_word_61 : decode c_Mo_word 61 = .ok (.lor, 1) := by decide +kernel
theorem d_Mo_word_62 : decode c_Mo_word 62 = .ok (.goto 5, 3) := by decide +kernel
theorem d_Mo_word_65 : decode c_Mo_word 65 = .ok (.lload 5, 2) := by decide +kernel
theorem d_Mo_word_67 : decode c_Mo_word 67 = .ok (.lreturn, 1) := by decide +kernel
abbrev c_Mo_takes : ByteArray := prog_14_method_28_code
abbrev r_Mo_takes : Option FieldType := (some FieldType.boolean)
def y_Mo_takes : MethodName := ⟨"PinKindChecksModel", "takes", "(I)Z"⟩
theorem d_Mo_takes_0 : decode c_Mo_takes 0 = .ok (.aload_n 0, 1) := by decide +kernel
theorem d_Mo_takes_1 : decode c_Mo_takes 1 = .ok (.getfield 184, 3) := by decide +kernel
theorem d_Mo_takes_4 : decode c_Mo_takes 4 = .ok (.iconst 2, 1) := by decide +kernel
theorem d_Mo_takes_5 : decode c_Mo_takes 5 = .ok (.if_icmp .eq 19, 3) := by decide +kernel
theorem d_Mo_takes_8 : decode c_Mo_takes 8 = .ok (.aload_n 0, 1) := by decide +kernel
theorem d_Mo_takes_9 : decode c_Mo_takes 9 = .ok (.getfield 184, 3) := by decide +kernel
theorem d_Mo_takes_12 : decode c_Mo_takes 12 = .ok (.iconst 4, 1) := by decide +kernel
theorem d_Mo_takes_13 : decode c_Mo_takes 13 = .ok (.if_icmp .eq 11, 3) := by decide +kernel
theorem d_Mo_takes_16 : decode c_Mo_takes 16 = .ok (.aload_n 0, 1) := by decide +kernel
theorem d_Mo_takes_17 : decode c_Mo_takes 17 = .ok (.getfield 184, 3) := by decide +kernel
theorem d_Mo_takes_20 : decode c_Mo_takes 20 = .ok (.iconst 5, 1) := by decide +kernel
theorem d_Mo_takes_21 : decode c_Mo_takes 21 = .ok (.if_icmp .ne 8, 3) := by decide +kernel
theorem d_Mo_takes_24 : decode c_Mo_takes 24 = .ok (.aload_n 0, 1) := by decide +kernel
theorem d_Mo_takes_25 : decode c_Mo_takes 25 = .ok (.invokevirtual 199, 3) := by decide +kernel
theorem d_Mo_takes_28 : decode c_Mo_takes 28 = .ok (.ireturn, 1) := by decide +kernel
theorem d_Mo_takes_29 : decode c_Mo_takes 29 = .ok (.aload_n 0, 1) := by decide +kernel
theorem d_Mo_takes_30 : decode c_Mo_takes 30 = .ok (.getfield 184, 3) := by decide +kernel
theorem d_Mo_takes_33 : decode c_Mo_takes 33 = .ok (.ifCond .ne 30, 3) := by decide +kernel
theorem d_Mo_takes_36 : decode c_Mo_takes 36 = .ok (.aload_n 0, 1) := by decide +kernel
theorem d_Mo_takes_37 : decode c_Mo_takes 37 = .ok (.invokevirtual 145, 3) := by decide +kernel
theorem d_Mo_takes_40 : decode c_Mo_takes 40 = .ok (.bipush 110, 2) := by decide +kernel
theorem d_Mo_takes_42 : decode c_Mo_takes 42 = .ok (.bipush 111, 2) := by decide +kernel
theorem d_Mo_takes_44 : decode c_Mo_takes 44 = .ok (.bipush 116, 2) := by decide +kernel
theorem d_Mo_takes_46 : decode c_Mo_takes 46 = .ok (.iconst 0, 1) := by decide +kernel
theorem d_Mo_takes_47 : decode c_Mo_takes 47 = .ok (.iconst 0, 1) := by decide +kernel
theorem d_Mo_takes_48 : decode c_Mo_takes 48 = .ok (.invokestatic 157, 3) := by decide +kernel
theorem d_Mo_takes_51 : decode c_Mo_takes 51 = .ok (.lcmp, 1) := by decide +kernel
theorem d_Mo_takes_52 : decode c_Mo_takes 52 = .ok (.ifCond .ne 11, 3) := by decide +kernel
theorem d_Mo_takes_55 : decode c_Mo_takes 55 = .ok (.aload_n 0, 1) := by decide +kernel
theorem d_Mo_takes_56 : decode c_Mo_takes 56 = .ok (.bipush 19, 2) := by decide +kernel
theorem d_Mo_takes_58 : decode c_Mo_takes 58 = .ok (.invokevirtual 191, 3) := by decide +kernel
theorem d_Mo_takes_61 : decode c_Mo_takes 61 = .ok (.iconst 1, 1) := by decide +kernel
theorem d_Mo_takes_62 : decode c_Mo_takes 62 = .ok (.ireturn, 1) := by decide +kernel
theorem d_Mo_takes_63 : decode c_Mo_takes 63 = .ok (.aload_n 0, 1) := by decide +kernel
theorem d_Mo_takes_64 : decode c_Mo_takes 64 = .ok (.getfield 184, 3) := by decide +kernel
theorem d_Mo_takes_67 : decode c_Mo_takes 67 = .ok (.ifCond .ne 43, 3) := by decide +kernel
theorem d_Mo_takes_70 : decode c_Mo_takes 70 = .ok (.aload_n 0, 1) := by decide +kernel
theorem d_Mo_takes_71 : decode c_Mo_takes 71 = .ok (.invokevirtual 145, 3) := by decide +kernel
theorem d_Mo_takes_74 : decode c_Mo_takes 74 = .ok (.ldc2_w 202, 3) := by decide +kernel
theorem d_Mo_takes_77 : decode c_Mo_takes 77 = .ok (.lcmp, 1) := by decide +kernel
theorem d_Mo_takes_78 : decode c_Mo_takes 78 = .ok (.ifCond .ne 32, 3) := by decide +kernel
theorem d_Mo_takes_81 : decode c_Mo_takes 81 = .ok (.aload_n 0, 1) := by decide +kernel
theorem d_Mo_takes_82 : decode c_Mo_takes 82 = .ok (.getfield 196, 3) := by decide +kernel
theorem d_Mo_takes_85 : decode c_Mo_takes 85 = .ok (.bipush 8, 2) := by decide +kernel
theorem d_Mo_takes_87 : decode c_Mo_takes 87 = .ok (.if_icmp .ne 5, 3) := by decide +kernel
theorem d_Mo_takes_90 : decode c_Mo_takes 90 = .ok (.iconst 0, 1) := by decide +kernel
theorem d_Mo_takes_91 : decode c_Mo_takes 91 = .ok (.ireturn, 1) := by decide +kernel
theorem d_Mo_takes_92 : decode c_Mo_takes 92 = .ok (.aload_n 0, 1) := by decide +kernel
theorem d_Mo_takes_93 : decode c_Mo_takes 93 = .ok (.bipush 22, 2) := by decide +kernel
theorem d_Mo_takes_95 : decode c_Mo_takes 95 = .ok (.invokevirtual 191, 3) := by decide +kernel
theorem d_Mo_takes_98 : decode c_Mo_takes 98 = .ok (.aload_n 0, 1) := by decide +kernel
theorem d_Mo_takes_99 : decode c_Mo_takes 99 = .ok (.dup, 1) := by decide +kernel
theorem d_Mo_takes_100 : decode c_Mo_takes 100 = .ok (.getfield 196, 3) := by decide +kernel
theorem d_Mo_takes_103 : decode c_Mo_takes 103 = .ok (.iconst 1, 1) := by decide +kernel
theorem d_Mo_takes_104 : decode c_Mo_takes 104 = .ok (.iadd, 1) := by decide +kernel
theorem d_Mo_takes_105 : decode c_Mo_takes 105 = .ok (.putfield 196, 3) := by decide +kernel
theorem d_Mo_takes_108 : decode c_Mo_takes 108 = .ok (.iconst 1, 1) := by decide +kernel
theorem d_Mo_takes_109 : decode c_Mo_takes 109 = .ok (.ireturn, 1) := by decide +kernel
theorem d_Mo_takes_110 : decode c_Mo_takes 110 = .ok (.aload_n 0, 1) := by decide +kernel
theorem d_Mo_takes_111 : decode c_Mo_takes 111 = .ok (.iload_n 1, 1) := by decide +kernel
theorem d_Mo_takes_112 : decode c_Mo_takes 112 = .ok (.invokevirtual 204, 3) := by decide +kernel
theorem d_Mo_takes_115 : decode c_Mo_takes 115 = .ok (.ifCond .ne 5, 3) := by decide +kernel
theorem d_Mo_takes_118 : decode c_Mo_takes 118 = .ok (.iconst 0, 1) := by decide +kernel
theorem d_Mo_takes_119 : decode c_Mo_takes 119 = .ok (.ireturn, 1) := by decide +kernel
theorem d_Mo_takes_120 : decode c_Mo_takes 120 = .ok (.aload_n 0, 1) := by decide +kernel
theorem d_Mo_takes_121 : decode c_Mo_takes 121 = .ok (.aload_n 0, 1) := by decide +kernel
theorem d_Mo_takes_122 : decode c_Mo_takes 122 = .ok (.getfield 184, 3) := by decide +kernel
theorem d_Mo_takes_125 : decode c_Mo_takes 125 = .ok (.iconst 2, 1) := by decide +kernel
theorem d_Mo_takes_126 : decode c_Mo_takes 126 = .ok (.if_icmp .ge 7, 3) := by decide +kernel
theorem d_Mo_takes_129 : decode c_Mo_takes 129 = .ok (.iconst 2, 1) := by decide +kernel
theorem d_Mo_takes_130 : decode c_Mo_takes 130 = .ok (.goto 4, 3) := by decide +kernel
theorem d_Mo_takes_133 : decode c_Mo_takes 133 = .ok (.iconst 4, 1) := by decide +kernel
theorem d_Mo_takes_134 : decode c_Mo_takes 134 = .ok (.putfield 184, 3) := by decide +kernel
theorem d_Mo_takes_137 : decode c_Mo_takes 137 = .ok (.iconst 1, 1) := by decide +kernel
theorem d_Mo_takes_138 : decode c_Mo_takes 138 = .ok (.ireturn, 1) := by decide +kernel
abbrev c_Mo_takesSign : ByteArray := prog_14_method_27_code
abbrev r_Mo_takesSign : Option FieldType := (some FieldType.boolean)
def y_Mo_takesSign : MethodName := ⟨"PinKindChecksModel", "takesSign", "()Z"⟩
theorem d_Mo_takesSign_0 : decode c_Mo_takesSign 0 = .ok (.aload_n 0, 1) := by decide +kernel
theorem d_Mo_takesSign_1 : decode c_Mo_takesSign 1 = .ok (.invokevirtual 181, 3) := by decide +kernel
theorem d_Mo_takesSign_4 : decode c_Mo_takesSign 4 = .ok (.istore_n 1, 1) := by decide +kernel
theorem d_Mo_takesSign_5 : decode c_Mo_takesSign 5 = .ok (.iload_n 1, 1) := by decide +kernel
theorem d_Mo_takesSign_6 : decode c_Mo_takesSign 6 = .ok (.bipush 10, 2) := by decide +kernel
theorem d_Mo_takesSign_8 : decode c_Mo_takesSign 8 = .ok (.if_icmp .lt 13, 3) := by decide +kernel
theorem d_Mo_takesSign_11 : decode c_Mo_takesSign 11 = .ok (.iload_n 1, 1) := by decide +kernel
theorem d_Mo_takesSign_12 : decode c_Mo_takesSign 12 = .ok (.bipush 12, 2) := by decide +kernel
theorem d_Mo_takesSign_14 : decode c_Mo_takesSign 14 = .ok (.if_icmp .gt 7, 3) := by decide +kernel
theorem d_Mo_takesSign_17 : decode c_Mo_takesSign 17 = .ok (.iconst 1, 1) := by decide +kernel
theorem d_Mo_takesSign_18 : decode c_Mo_takesSign 18 = .ok (.goto 4, 3) := by decide +kernel
theorem d_Mo_takesSign_21 : decode c_Mo_takesSign 21 = .ok (.iconst 0, 1) := by decide +kernel
theorem d_Mo_takesSign_22 : decode c_Mo_takesSign 22 = .ok (.istore_n 2, 1) := by decide +kernel
theorem d_Mo_takesSign_23 : decode c_Mo_takesSign 23 = .ok (.aload_n 0, 1) := by decide +kernel
theorem d_Mo_takesSign_24 : decode c_Mo_takesSign 24 = .ok (.getfield 184, 3) := by decide +kernel
theorem d_Mo_takesSign_27 : decode c_Mo_takesSign 27 = .ok (.iconst 5, 1) := by decide +kernel
theorem d_Mo_takesSign_28 : decode c_Mo_takesSign 28 = .ok (.if_icmp .eq 32, 3) := by decide +kernel
theorem d_Mo_takesSign_31 : decode c_Mo_takesSign 31 = .ok (.iload_n 2, 1) := by decide +kernel
theorem d_Mo_takesSign_32 : decode c_Mo_takesSign 32 = .ok (.ifCond .eq 28, 3) := by decide +kernel
theorem d_Mo_takesSign_35 : decode c_Mo_takesSign 35 = .ok (.aload_n 0, 1) := by decide +kernel
theorem d_Mo_takesSign_36 : decode c_Mo_takesSign 36 = .ok (.iload_n 1, 1) := by decide +kernel
theorem d_Mo_takesSign_37 : decode c_Mo_takesSign 37 = .ok (.invokestatic 137, 3) := by decide +kernel
theorem d_Mo_takesSign_40 : decode c_Mo_takesSign 40 = .ok (.invokevirtual 187, 3) := by decide +kernel
theorem d_Mo_takesSign_43 : decode c_Mo_takesSign 43 = .ok (.aload_n 0, 1) := by decide +kernel
theorem d_Mo_takesSign_44 : decode c_Mo_takesSign 44 = .ok (.iload_n 1, 1) := by decide +kernel
theorem d_Mo_takesSign_45 : decode c_Mo_takesSign 45 = .ok (.invokevirtual 191, 3) := by decide +kernel
theorem d_Mo_takesSign_48 : decode c_Mo_takesSign 48 = .ok (.aload_n 0, 1) := by decide +kernel
theorem d_Mo_takesSign_49 : decode c_Mo_takesSign 49 = .ok (.dup, 1) := by decide +kernel
theorem d_Mo_takesSign_50 : decode c_Mo_takesSign 50 = .ok (.getfield 184, 3) := by decide +kernel
theorem d_Mo_takesSign_53 : decode c_Mo_takesSign 53 = .ok (.iconst 1, 1) := by decide +kernel
theorem d_Mo_takesSign_54 : decode c_Mo_takesSign 54 = .ok (.isub, 1) := by decide +kernel
theorem d_Mo_takesSign_55 : decode c_Mo_takesSign 55 = .ok (.putfield 184, 3) := by decide +kernel
theorem d_Mo_takesSign_58 : decode c_Mo_takesSign 58 = .ok (.iconst 1, 1) := by decide +kernel
theorem d_Mo_takesSign_59 : decode c_Mo_takesSign 59 = .ok (.ireturn, 1) := by decide +kernel
theorem d_Mo_takesSign_60 : decode c_Mo_takesSign 60 = .ok (.aload_n 0, 1) := by decide +kernel
theorem d_Mo_takesSign_61 : decode c_Mo_takesSign 61 = .ok (.getfield 184, 3) := by decide +kernel
theorem d_Mo_takesSign_64 : decode c_Mo_takesSign 64 = .ok (.iconst 2, 1) := by decide +kernel
theorem d_Mo_takesSign_65 : decode c_Mo_takesSign 65 = .ok (.if_icmp .ne 37, 3) := by decide +kernel
theorem d_Mo_takesSign_68 : decode c_Mo_takesSign 68 = .ok (.iload_n 1, 1) := by decide +kernel
theorem d_Mo_takesSign_69 : decode c_Mo_takesSign 69 = .ok (.bipush 13, 2) := by decide +kernel
theorem d_Mo_takesSign_71 : decode c_Mo_takesSign 71 = .ok (.if_icmp .lt 9, 3) := by decide +kernel
theorem d_Mo_takesSign_74 : decode c_Mo_takesSign 74 = .ok (.iload_n 1, 1) := by decide +kernel
theorem d_Mo_takesSign_75 : decode c_Mo_takesSign 75 = .ok (.bipush 18, 2) := by decide +kernel
theorem d_Mo_takesSign_77 : decode c_Mo_takesSign 77 = .ok (.if_icmp .le 5, 3) := by decide +kernel
theorem d_Mo_takesSign_80 : decode c_Mo_takesSign 80 = .ok (.iconst 0, 1) := by decide +kernel
theorem d_Mo_takesSign_81 : decode c_Mo_takesSign 81 = .ok (.ireturn, 1) := by decide +kernel
theorem d_Mo_takesSign_82 : decode c_Mo_takesSign 82 = .ok (.aload_n 0, 1) := by decide +kernel
theorem d_Mo_takesSign_83 : decode c_Mo_takesSign 83 = .ok (.iload_n 1, 1) := by decide +kernel
theorem d_Mo_takesSign_84 : decode c_Mo_takesSign 84 = .ok (.invokestatic 137, 3) := by decide +kernel
theorem d_Mo_takesSign_87 : decode c_Mo_takesSign 87 = .ok (.invokevirtual 187, 3) := by decide +kernel
theorem d_Mo_takesSign_90 : decode c_Mo_takesSign 90 = .ok (.aload_n 0, 1) := by decide +kernel
theorem d_Mo_takesSign_91 : decode c_Mo_takesSign 91 = .ok (.iload_n 1, 1) := by decide +kernel
theorem d_Mo_takesSign_92 : decode c_Mo_takesSign 92 = .ok (.invokevirtual 191, 3) := by decide +kernel
theorem d_Mo_takesSign_95 : decode c_Mo_takesSign 95 = .ok (.aload_n 0, 1) := by decide +kernel
theorem d_Mo_takesSign_96 : decode c_Mo_takesSign 96 = .ok (.iconst 3, 1) := by decide +kernel
theorem d_Mo_takesSign_97 : decode c_Mo_takesSign 97 = .ok (.putfield 184, 3) := by decide +kernel
theorem d_Mo_takesSign_100 : decode c_Mo_takesSign 100 = .ok (.iconst 1, 1) := by decide +kernel
theorem d_Mo_takesSign_101 : decode c_Mo_takesSign 101 = .ok (.ireturn, 1) := by decide +kernel
theorem d_Mo_takesSign_102 : decode c_Mo_takesSign 102 = .ok (.iload_n 1, 1) := by decide +kernel
theorem d_Mo_takesSign_103 : decode c_Mo_takesSign 103 = .ok (.bipush 20, 2) := by decide +kernel
theorem d_Mo_takesSign_105 : decode c_Mo_takesSign 105 = .ok (.if_icmp .eq 9, 3) := by decide +kernel
theorem d_Mo_takesSign_108 : decode c_Mo_takesSign 108 = .ok (.iload_n 1, 1) := by decide +kernel
theorem d_Mo_takesSign_109 : decode c_Mo_takesSign 109 = .ok (.bipush 21, 2) := by decide +kernel
theorem d_Mo_takesSign_111 : decode c_Mo_takesSign 111 = .ok (.if_icmp .ne 23, 3) := by decide +kernel
theorem d_Mo_takesSign_114 : decode c_Mo_takesSign 114 = .ok (.aload_n 0, 1) := by decide +kernel
theorem d_Mo_takesSign_115 : decode c_Mo_takesSign 115 = .ok (.iload_n 1, 1) := by decide +kernel
theorem d_Mo_takesSign_116 : decode c_Mo_takesSign 116 = .ok (.invokestatic 137, 3) := by decide +kernel
theorem d_Mo_takesSign_119 : decode c_Mo_takesSign 119 = .ok (.invokevirtual 187, 3) := by decide +kernel
theorem d_Mo_takesSign_122 : decode c_Mo_takesSign 122 = .ok (.aload_n 0, 1) := by decide +kernel
theorem d_Mo_takesSign_123 : decode c_Mo_takesSign 123 = .ok (.iload_n 1, 1) := by decide +kernel
theorem d_Mo_takesSign_124 : decode c_Mo_takesSign 124 = .ok (.invokevirtual 191, 3) := by decide +kernel
theorem d_Mo_takesSign_127 : decode c_Mo_takesSign 127 = .ok (.aload_n 0, 1) := by decide +kernel
theorem d_Mo_takesSign_128 : decode c_Mo_takesSign 128 = .ok (.iconst 0, 1) := by decide +kernel
theorem d_Mo_takesSign_129 : decode c_Mo_takesSign 129 = .ok (.putfield 184, 3) := by decide +kernel
theorem d_Mo_takesSign_132 : decode c_Mo_takesSign 132 = .ok (.iconst 1, 1) := by decide +kernel
theorem d_Mo_takesSign_133 : decode c_Mo_takesSign 133 = .ok (.ireturn, 1) := by decide +kernel
theorem d_Mo_takesSign_134 : decode c_Mo_takesSign 134 = .ok (.aload_n 0, 1) := by decide +kernel
theorem d_Mo_takesSign_135 : decode c_Mo_takesSign 135 = .ok (.invokevirtual 145, 3) := by decide +kernel
theorem d_Mo_takesSign_138 : decode c_Mo_takesSign 138 = .ok (.ldc2_w 194, 3) := by decide +kernel
theorem d_Mo_takesSign_141 : decode c_Mo_takesSign 141 = .ok (.lcmp, 1) := by decide +kernel
theorem d_Mo_takesSign_142 : decode c_Mo_takesSign 142 = .ok (.ifCond .ne 10, 3) := by decide +kernel
theorem d_Mo_takesSign_145 : decode c_Mo_takesSign 145 = .ok (.aload_n 0, 1) := by decide +kernel
theorem d_Mo_takesSign_146 : decode c_Mo_takesSign 146 = .ok (.getfield 196, 3) := by decide +kernel
theorem d_Mo_takesSign_149 : decode c_Mo_takesSign 149 = .ok (.ifCond .ne 5, 3) := by decide +kernel
theorem d_Mo_takesSign_152 : decode c_Mo_takesSign 152 = .ok (.iconst 0, 1) := by decide +kernel
theorem d_Mo_takesSign_153 : decode c_Mo_takesSign 153 = .ok (.ireturn, 1) := by decide +kernel
theorem d_Mo_takesSign_154 : decode c_Mo_takesSign 154 = .ok (.aload_n 0, 1) := by decide +kernel
theorem d_Mo_takesSign_155 : decode c_Mo_takesSign 155 = .ok (.iconst 1, 1) := by decide +kernel
theorem d_Mo_takesSign_156 : decode c_Mo_takesSign 156 = .ok (.invokevirtual 187, 3) := by decide +kernel
theorem d_Mo_takesSign_159 : decode c_Mo_takesSign 159 = .ok (.aload_n 0, 1) := by decide +kernel
theorem d_Mo_takesSign_160 : decode c_Mo_takesSign 160 = .ok (.dup, 1) := by decide +kernel
theorem d_Mo_takesSign_161 : decode c_Mo_takesSign 161 = .ok (.getfield 134, 3) := by decide +kernel
theorem d_Mo_takesSign_164 : decode c_Mo_takesSign 164 = .ok (.iconst 1, 1) := by decide +kernel
theorem d_Mo_takesSign_165 : decode c_Mo_takesSign 165 = .ok (.isub, 1) := by decide +kernel
theorem d_Mo_takesSign_166 : decode c_Mo_takesSign 166 = .ok (.putfield 134, 3) := by decide +kernel
theorem d_Mo_takesSign_169 : decode c_Mo_takesSign 169 = .ok (.aload_n 0, 1) := by decide +kernel
theorem d_Mo_takesSign_170 : decode c_Mo_takesSign 170 = .ok (.dup, 1) := by decide +kernel
theorem d_Mo_takesSign_171 : decode c_Mo_takesSign 171 = .ok (.getfield 196, 3) := by decide +kernel
theorem d_Mo_takesSign_174 : decode c_Mo_takesSign 174 = .ok (.iconst 1, 1) := by decide +kernel
theorem d_Mo_takesSign_175 : decode c_Mo_takesSign 175 = .ok (.isub, 1) := by decide +kernel
theorem d_Mo_takesSign_176 : decode c_Mo_takesSign 176 = .ok (.putfield 196, 3) := by decide +kernel
theorem d_Mo_takesSign_179 : decode c_Mo_takesSign 179 = .ok (.aload_n 0, 1) := by decide +kernel
theorem d_Mo_takesSign_180 : decode c_Mo_takesSign 180 = .ok (.iconst 5, 1) := by decide +kernel
theorem d_Mo_takesSign_181 : decode c_Mo_takesSign 181 = .ok (.putfield 184, 3) := by decide +kernel
theorem d_Mo_takesSign_184 : decode c_Mo_takesSign 184 = .ok (.iconst 1, 1) := by decide +kernel
theorem d_Mo_takesSign_185 : decode c_Mo_takesSign 185 = .ok (.ireturn, 1) := by decide +kernel
abbrev c_Mo_signAt : ByteArray := prog_14_method_26_code
abbrev r_Mo_signAt : Option FieldType := (some FieldType.int)
def y_Mo_signAt : MethodName := ⟨"PinKindChecksModel", "signAt", "()I"⟩
theorem d_Mo_signAt_0 : decode c_Mo_signAt 0 = .ok (.aload_n 0, 1) := by decide +kernel
theorem d_Mo_signAt_1 : decode c_Mo_signAt 1 = .ok (.invokevirtual 145, 3) := by decide +kernel
theorem d_Mo_signAt_4 : decode c_Mo_signAt 4 = .ok (.lstore_n 1, 1) := by decide +kernel
theorem d_Mo_signAt_5 : decode c_Mo_signAt 5 = .ok (.lload_n 1, 1) := by decide +kernel
theorem d_Mo_signAt_6 : decode c_Mo_signAt 6 = .ok (.ldc2_w 167, 3) := by decide +kernel
theorem d_Mo_signAt_9 : decode c_Mo_signAt 9 = .ok (.lcmp, 1) := by decide +kernel
theorem d_Mo_signAt_10 : decode c_Mo_signAt 10 = .ok (.ifCond .ne 6, 3) := by decide +kernel
theorem d_Mo_signAt_13 : decode c_Mo_signAt 13 = .ok (.bipush 10, 2) := by decide +kernel
theorem d_Mo_signAt_15 : decode c_Mo_signAt 15 = .ok (.ireturn, 1) := by decide +kernel
theorem d_Mo_signAt_16 : decode c_Mo_signAt 16 = .ok (.lload_n 1, 1) := by decide +kernel
theorem d_Mo_signAt_17 : decode c_Mo_signAt 17 = .ok (.ldc2_w 169, 3) := by decide +kernel
theorem d_Mo_signAt_20 : decode c_Mo_signAt 20 = .ok (.lcmp, 1) := by decide +kernel
theorem d_Mo_signAt_21 : decode c_Mo_signAt 21 = .ok (.ifCond .ne 6, 3) := by decide +kernel
theorem d_Mo_signAt_24 : decode c_Mo_signAt 24 = .ok (.bipush 11, 2) := by decide +kernel
theorem d_Mo_signAt_26 : decode c_Mo_signAt 26 = .ok (.ireturn, 1) := by decide +kernel
theorem d_Mo_signAt_27 : decode c_Mo_signAt 27 = .ok (.lload_n 1, 1) := by decide +kernel
theorem d_Mo_signAt_28 : decode c_Mo_signAt 28 = .ok (.ldc2_w 171, 3) := by decide +kernel
theorem d_Mo_signAt_31 : decode c_Mo_signAt 31 = .ok (.lcmp, 1) := by decide +kernel
theorem d_Mo_signAt_32 : decode c_Mo_signAt 32 = .ok (.ifCond .ne 6, 3) := by decide +kernel
theorem d_Mo_signAt_35 : decode c_Mo_signAt 35 = .ok (.bipush 12, 2) := by decide +kernel
theorem d_Mo_signAt_37 : decode c_Mo_signAt 37 = .ok (.ireturn, 1) := by decide +kernel
theorem d_Mo_signAt_38 : decode c_Mo_signAt 38 = .ok (.lload_n 1, 1) := by decide +kernel
theorem d_Mo_signAt_39 : decode c_Mo_signAt 39 = .ok (.ldc2_w 173, 3) := by decide +kernel
theorem d_Mo_signAt_42 : decode c_Mo_signAt 42 = .ok (.lcmp, 1) := by decide +kernel
theorem d_Mo_signAt_43 : decode c_Mo_signAt 43 = .ok (.ifCond .ne 6, 3) := by decide +kernel
theorem d_Mo_signAt_46 : decode c_Mo_signAt 46 = .ok (.bipush 13, 2) := by decide +kernel
theorem d_Mo_signAt_48 : decode c_Mo_signAt 48 = .ok (.ireturn, 1) := by decide +kernel
theorem d_Mo_signAt_49 : decode c_Mo_signAt 49 = .ok (.lload_n 1, 1) := by decide +kernel
theorem d_Mo_signAt_50 : decode c_Mo_signAt 50 = .ok (.ldc2_w 175, 3) := by decide +kernel
theorem d_Mo_signAt_53 : decode c_Mo_signAt 53 = .ok (.lcmp, 1) := by decide +kernel
theorem d_Mo_signAt_54 : decode c_Mo_signAt 54 = .ok (.ifCond .ne 6, 3) := by decide +kernel
theorem d_Mo_signAt_57 : decode c_Mo_signAt 57 = .ok (.bipush 14, 2) := by decide +kernel
theorem d_Mo_signAt_59 : decode c_Mo_signAt 59 = .ok (.ireturn, 1) := by decide +kernel
theorem d_Mo_signAt_60 : decode c_Mo_signAt 60 = .ok (.lload_n 1, 1) := by decide +kernel
theorem d_Mo_signAt_61 : decode c_Mo_signAt 61 = .ok (.ldc2_w 177, 3) := by decide +kernel
theorem d_Mo_signAt_64 : decode c_Mo_signAt 64 = .ok (.lcmp, 1) := by decide +kernel
theorem d_Mo_signAt_65 : decode c_Mo_signAt 65 = .ok (.ifCond .ne 6, 3) := by decide +kernel
theorem d_Mo_signAt_68 : decode c_Mo_signAt 68 = .ok (.bipush 15, 2) := by decide +kernel
theorem d_Mo_signAt_70 : decode c_Mo_signAt 70 = .ok (.ireturn, 1) := by decide +kernel
theorem d_Mo_signAt_71 : decode c_Mo_signAt 71 = .ok (.lload_n 1, 1) := by decide +kernel
theorem d_Mo_signAt_72 : decode c_Mo_signAt 72 = .ok (.ldc2_w 179, 3) := by decide +kernel
theorem d_Mo_signAt_75 : decode c_Mo_signAt 75 = .ok (.lcmp, 1) := by decide +kernel
theorem d_Mo_signAt_76 : decode c_Mo_signAt 76 = .ok (.ifCond .ne 6, 3) := by decide +kernel
theorem d_Mo_signAt_79 : decode c_Mo_signAt 79 = .ok (.bipush 16, 2) := by decide +kernel
theorem d_Mo_signAt_81 : decode c_Mo_signAt 81 = .ok (.ireturn, 1) := by decide +kernel
theorem d_Mo_signAt_82 : decode c_Mo_signAt 82 = .ok (.lload_n 1, 1) := by decide +kernel
theorem d_Mo_signAt_83 : decode c_Mo_signAt 83 = .ok (.bipush 60, 2) := by decide +kernel
theorem d_Mo_signAt_85 : decode c_Mo_signAt 85 = .ok (.bipush 61, 2) := by decide +kernel
theorem d_Mo_signAt_87 : decode c_Mo_signAt 87 = .ok (.iconst 0, 1) := by decide +kernel
theorem d_Mo_signAt_88 : decode c_Mo_signAt 88 = .ok (.iconst 0, 1) := by decide +kernel
theorem d_Mo_signAt_89 : decode c_Mo_signAt 89 = .ok (.iconst 0, 1) := by decide +kernel
theorem d_Mo_signAt_90 : decode c_Mo_signAt 90 = .ok (.invokestatic 157, 3) := by decide +kernel
theorem d_Mo_signAt_93 : decode c_Mo_signAt 93 = .ok (.lcmp, 1) := by decide +kernel
theorem d_Mo_signAt_94 : decode c_Mo_signAt 94 = .ok (.ifCond .ne 6, 3) := by decide +kernel
theorem d_Mo_signAt_97 : decode c_Mo_signAt 97 = .ok (.bipush 18, 2) := by decide +kernel
theorem d_Mo_signAt_99 : decode c_Mo_signAt 99 = .ok (.ireturn, 1) := by decide +kernel
theorem d_Mo_signAt_100 : decode c_Mo_signAt 100 = .ok (.lload_n 1, 1) := by decide +kernel
theorem d_Mo_signAt_101 : decode c_Mo_signAt 101 = .ok (.bipush 62, 2) := by decide +kernel
theorem d_Mo_signAt_103 : decode c_Mo_signAt 103 = .ok (.bipush 61, 2) := by decide +kernel
theorem d_Mo_signAt_105 : decode c_Mo_signAt 105 = .ok (.iconst 0, 1) := by decide +kernel
theorem d_Mo_signAt_106 : decode c_Mo_signAt 106 = .ok (.iconst 0, 1) := by decide +kernel
theorem d_Mo_signAt_107 : decode c_Mo_signAt 107 = .ok (.iconst 0, 1) := by decide +kernel
theorem d_Mo_signAt_108 : decode c_Mo_signAt 108 = .ok (.invokestatic 157, 3) := by decide +kernel
theorem d_Mo_signAt_111 : decode c_Mo_signAt 111 = .ok (.lcmp, 1) := by decide +kernel
theorem d_Mo_signAt_112 : decode c_Mo_signAt 112 = .ok (.ifCond .ne 6, 3) := by decide +kernel
theorem d_Mo_signAt_115 : decode c_Mo_signAt 115 = .ok (.bipush 17, 2) := by decide +kernel
theorem d_Mo_signAt_117 : decode c_Mo_signAt 117 = .ok (.ireturn, 1) := by decide +kernel
theorem d_Mo_signAt_118 : decode c_Mo_signAt 118 = .ok (.lload_n 1, 1) := by decide +kernel
theorem d_Mo_signAt_119 : decode c_Mo_signAt 119 = .ok (.bipush 97, 2) := by decide +kernel
theorem d_Mo_signAt_121 : decode c_Mo_signAt 121 = .ok (.bipush 110, 2) := by decide +kernel
theorem d_Mo_signAt_123 : decode c_Mo_signAt 123 = .ok (.bipush 100, 2) := by decide +kernel
theorem d_Mo_signAt_125 : decode c_Mo_signAt 125 = .ok (.iconst 0, 1) := by decide +kernel
theorem d_Mo_signAt_126 : decode c_Mo_signAt 126 = .ok (.iconst 0, 1) := by decide +kernel
theorem d_Mo_signAt_127 : decode c_Mo_signAt 127 = .ok (.invokestatic 157, 3) := by decide +kernel
theorem d_Mo_signAt_130 : decode c_Mo_signAt 130 = .ok (.lcmp, 1) := by decide +kernel
theorem d_Mo_signAt_131 : decode c_Mo_signAt 131 = .ok (.ifCond .ne 6, 3) := by decide +kernel
theorem d_Mo_signAt_134 : decode c_Mo_signAt 134 = .ok (.bipush 20, 2) := by decide +kernel
theorem d_Mo_signAt_136 : decode c_Mo_signAt 136 = .ok (.ireturn, 1) := by decide +kernel
theorem d_Mo_signAt_137 : decode c_Mo_signAt 137 = .ok (.lload_n 1, 1) := by decide +kernel
theorem d_Mo_signAt_138 : decode c_Mo_signAt 138 = .ok (.bipush 111, 2) := by decide +kernel
theorem d_Mo_signAt_140 : decode c_Mo_signAt 140 = .ok (.bipush 114, 2) := by decide +kernel
theorem d_Mo_signAt_142 : decode c_Mo_signAt 142 = .ok (.iconst 0, 1) := by decide +kernel
theorem d_Mo_signAt_143 : decode c_Mo_signAt 143 = .ok (.iconst 0, 1) := by decide +kernel
theorem d_Mo_signAt_144 : decode c_Mo_signAt 144 = .ok (.iconst 0, 1) := by decide +kernel
theorem d_Mo_signAt_145 : decode c_Mo_signAt 145 = .ok (.invokestatic 157, 3) := by decide +kernel
theorem d_Mo_signAt_148 : decode c_Mo_signAt 148 = .ok (.lcmp, 1) := by decide +kernel
theorem d_Mo_signAt_149 : decode c_Mo_signAt 149 = .ok (.ifCond .ne 6, 3) := by decide +kernel
theorem d_Mo_signAt_152 : decode c_Mo_signAt 152 = .ok (.bipush 21, 2) := by decide +kernel
theorem d_Mo_signAt_154 : decode c_Mo_signAt 154 = .ok (.ireturn, 1) := by decide +kernel
theorem d_Mo_signAt_155 : decode c_Mo_signAt 155 = .ok (.iconst (-1), 1) := by decide +kernel
theorem d_Mo_signAt_156 : decode c_Mo_signAt 156 = .ok (.ireturn, 1) := by decide +kernel
abbrev c_Mo_rank : ByteArray := prog_14_method_21_code
abbrev r_Mo_rank : Option FieldType := (some FieldType.int)
def y_Mo_rank : MethodName := ⟨"PinKindChecksModel", "rank", "(I)I"⟩
theorem d_Mo_rank_0 : decode c_Mo_rank 0 = .ok (.iload_n 0, 1) := by decide +kernel
theorem d_Mo_rank_1 : decode c_Mo_rank 1 = .ok (.bipush 10, 2) := by decide +kernel
theorem d_Mo_rank_3 : decode c_Mo_rank 3 = .ok (.if_icmp .ne 6, 3) := by decide +kernel
theorem d_Mo_rank_6 : decode c_Mo_rank 6 = .ok (.bipush 6, 2) := by decide +kernel
theorem d_Mo_rank_8 : decode c_Mo_rank 8 = .ok (.ireturn, 1) := by decide +kernel
theorem d_Mo_rank_9 : decode c_Mo_rank 9 = .ok (.iload_n 0, 1) := by decide +kernel
theorem d_Mo_rank_10 : decode c_Mo_rank 10 = .ok (.bipush 11, 2) := by decide +kernel
theorem d_Mo_rank_12 : decode c_Mo_rank 12 = .ok (.if_icmp .eq 9, 3) := by decide +kernel
theorem d_Mo_rank_15 : decode c_Mo_rank 15 = .ok (.iload_n 0, 1) := by decide +kernel
theorem d_Mo_rank_16 : decode c_Mo_rank 16 = .ok (.bipush 12, 2) := by decide +kernel
theorem d_Mo_rank_18 : decode c_Mo_rank 18 = .ok (.if_icmp .ne 5, 3) := by decide +kernel
theorem d_Mo_rank_21 : decode c_Mo_rank 21 = .ok (.iconst 5, 1) := by decide +kernel
theorem d_Mo_rank_22 : decode c_Mo_rank 22 = .ok (.ireturn, 1) := by decide +kernel
theorem d_Mo_rank_23 : decode c_Mo_rank 23 = .ok (.iload_n 0, 1) := by decide +kernel
theorem d_Mo_rank_24 : decode c_Mo_rank 24 = .ok (.bipush 13, 2) := by decide +kernel
theorem d_Mo_rank_26 : decode c_Mo_rank 26 = .ok (.if_icmp .lt 11, 3) := by decide +kernel
theorem d_Mo_rank_29 : decode c_Mo_rank 29 = .ok (.iload_n 0, 1) := by decide +kernel
theorem d_Mo_rank_30 : decode c_Mo_rank 30 = .ok (.bipush 18, 2) := by decide +kernel
theorem d_Mo_rank_32 : decode c_Mo_rank 32 = .ok (.if_icmp .gt 5, 3) := by decide +kernel
theorem d_Mo_rank_35 : decode c_Mo_rank 35 = .ok (.iconst 4, 1) := by decide +kernel
theorem d_Mo_rank_36 : decode c_Mo_rank 36 = .ok (.ireturn, 1) := by decide +kernel
theorem d_Mo_rank_37 : decode c_Mo_rank 37 = .ok (.iload_n 0, 1) := by decide +kernel
theorem d_Mo_rank_38 : decode c_Mo_rank 38 = .ok (.bipush 19, 2) := by decide +kernel
theorem d_Mo_rank_40 : decode c_Mo_rank 40 = .ok (.if_icmp .ne 7, 3) := by decide +kernel
theorem d_Mo_rank_43 : decode c_Mo_rank 43 = .ok (.iconst 3, 1) := by decide +kernel
theorem d_Mo_rank_44 : decode c_Mo_rank 44 = .ok (.goto 24, 3) := by decide +kernel
theorem d_Mo_rank_47 : decode c_Mo_rank 47 = .ok (.iload_n 0, 1) := by decide +kernel
theorem d_Mo_rank_48 : decode c_Mo_rank 48 = .ok (.bipush 20, 2) := by decide +kernel
theorem d_Mo_rank_50 : decode c_Mo_rank 50 = .ok (.if_icmp .ne 7, 3) := by decide +kernel
theorem d_Mo_rank_53 : decode c_Mo_rank 53 = .ok (.iconst 2, 1) := by decide +kernel
theorem d_Mo_rank_54 : decode c_Mo_rank 54 = .ok (.goto 14, 3) := by decide +kernel
theorem d_Mo_rank_57 : decode c_Mo_rank 57 = .ok (.iload_n 0, 1) := by decide +kernel
theorem d_Mo_rank_58 : decode c_Mo_rank 58 = .ok (.bipush 21, 2) := by decide +kernel
theorem d_Mo_rank_60 : decode c_Mo_rank 60 = .ok (.if_icmp .ne 7, 3) := by decide +kernel
theorem d_Mo_rank_63 : decode c_Mo_rank 63 = .ok (.iconst 1, 1) := by decide +kernel
theorem d_Mo_rank_64 : decode c_Mo_rank 64 = .ok (.goto 4, 3) := by decide +kernel
theorem d_Mo_rank_67 : decode c_Mo_rank 67 = .ok (.iconst 0, 1) := by decide +kernel
theorem d_Mo_rank_68 : decode c_Mo_rank 68 = .ok (.ireturn, 1) := by decide +kernel
abbrev c_Mo_release : ByteArray := prog_14_method_22_code
abbrev r_Mo_release : Option FieldType := none
def y_Mo_release : MethodName := ⟨"PinKindChecksModel", "release", "(I)V"⟩
theorem d_Mo_release_0 : decode c_Mo_release 0 = .ok (.aload_n 0, 1) := by decide +kernel
theorem d_Mo_release_1 : decode c_Mo_release 1 = .ok (.getfield 134, 3) := by decide +kernel
theorem d_Mo_release_4 : decode c_Mo_release 4 = .ok (.ifCond .le 48, 3) := by decide +kernel
theorem d_Mo_release_7 : decode c_Mo_release 7 = .ok (.aload_n 0, 1) := by decide +kernel
theorem d_Mo_release_8 : decode c_Mo_release 8 = .ok (.getfield 85, 3) := by decide +kernel
theorem d_Mo_release_11 : decode c_Mo_release 11 = .ok (.aload_n 0, 1) := by decide +kernel
theorem d_Mo_release_12 : decode c_Mo_release 12 = .ok (.getfield 134, 3) := by decide +kernel
theorem d_Mo_release_15 : decode c_Mo_release 15 = .ok (.iconst 1, 1) := by decide +kernel
theorem d_Mo_release_16 : decode c_Mo_release 16 = .ok (.isub, 1) := by decide +kernel
theorem d_Mo_release_17 : decode c_Mo_release 17 = .ok (.iaload, 1) := by decide +kernel
theorem d_Mo_release_18 : decode c_Mo_release 18 = .ok (.invokestatic 137, 3) := by decide +kernel
theorem d_Mo_release_21 : decode c_Mo_release 21 = .ok (.iload_n 1, 1) := by decide +kernel
theorem d_Mo_release_22 : decode c_Mo_release 22 = .ok (.if_icmp .lt 30, 3) := by decide +kernel
theorem d_Mo_release_25 : decode c_Mo_release 25 = .ok (.aload_n 0, 1) := by decide +kernel
theorem d_Mo_release_26 : decode c_Mo_release 26 = .ok (.dup, 1) := by decide +kernel
theorem d_Mo_release_27 : decode c_Mo_release 27 = .ok (.getfield 134, 3) := by decide +kernel
theorem d_Mo_release_30 : decode c_Mo_release 30 = .ok (.iconst 1, 1) := by decide +kernel
theorem d_Mo_release_31 : decode c_Mo_release 31 = .ok (.isub, 1) := by decide +kernel
theorem d_Mo_release_32 : decode c_Mo_release 32 = .ok (.putfield 134, 3) := by decide +kernel
theorem d_Mo_release_35 : decode c_Mo_release 35 = .ok (.aload_n 0, 1) := by decide +kernel
theorem d_Mo_release_36 : decode c_Mo_release 36 = .ok (.aload_n 0, 1) := by decide +kernel
theorem d_Mo_release_37 : decode c_Mo_release 37 = .ok (.getfield 85, 3) := by decide +kernel
theorem d_Mo_release_40 : decode c_Mo_release 40 = .ok (.aload_n 0, 1) := by decide +kernel
theorem d_Mo_release_41 : decode c_Mo_release 41 = .ok (.getfield 134, 3) := by decide +kernel
theorem d_Mo_release_44 : decode c_Mo_release 44 = .ok (.iaload, 1) := by decide +kernel
theorem d_Mo_release_45 : decode c_Mo_release 45 = .ok (.iconst 0, 1) := by decide +kernel
theorem d_Mo_release_46 : decode c_Mo_release 46 = .ok (.invokevirtual 141, 3) := by decide +kernel
theorem d_Mo_release_49 : decode c_Mo_release 49 = .ok (.goto (-49), 3) := by decide +kernel
theorem d_Mo_release_52 : decode c_Mo_release 52 = .ok (.return_, 1) := by decide +kernel
abbrev c_Mo_put : ByteArray := prog_14_method_20_code
abbrev r_Mo_put : Option FieldType := none
def y_Mo_put : MethodName := ⟨"PinKindChecksModel", "put", "(II)V"⟩
theorem d_Mo_put_0 : decode c_Mo_put 0 = .ok (.bipush 90, 2) := by decide +kernel
theorem d_Mo_put_2 : decode c_Mo_put 2 = .ok (.aload_n 0, 1) := by decide +kernel
theorem d_Mo_put_3 : decode c_Mo_put 3 = .ok (.getfield 131, 3) := by decide +kernel
theorem d_Mo_put_6 : decode c_Mo_put 6 = .ok (.imul, 1) := by decide +kernel
theorem d_Mo_put_7 : decode c_Mo_put 7 = .ok (.aload_n 0, 1) := by decide +kernel
theorem d_Mo_put_8 : decode c_Mo_put 8 = .ok (.getfield 53, 3) := by decide +kernel
theorem d_Mo_put_11 : decode c_Mo_put 11 = .ok (.aload_n 0, 1) := by decide +kernel
theorem d_Mo_put_12 : decode c_Mo_put 12 = .ok (.getfield 131, 3) := by decide +kernel
theorem d_Mo_put_15 : decode c_Mo_put 15 = .ok (.iaload, 1) := by decide +kernel
theorem d_Mo_put_16 : decode c_Mo_put 16 = .ok (.iadd, 1) := by decide +kernel
theorem d_Mo_put_17 : decode c_Mo_put 17 = .ok (.istore_n 3, 1) := by decide +kernel
theorem d_Mo_put_18 : decode c_Mo_put 18 = .ok (.aload_n 0, 1) := by decide +kernel
theorem d_Mo_put_19 : decode c_Mo_put 19 = .ok (.getfield 56, 3) := by decide +kernel
theorem d_Mo_put_22 : decode c_Mo_put 22 = .ok (.iload_n 3, 1) := by decide +kernel
theorem d_Mo_put_23 : decode c_Mo_put 23 = .ok (.iload_n 1, 1) := by decide +kernel
theorem d_Mo_put_24 : decode c_Mo_put 24 = .ok (.iastore, 1) := by decide +kernel
theorem d_Mo_put_25 : decode c_Mo_put 25 = .ok (.aload_n 0, 1) := by decide +kernel
theorem d_Mo_put_26 : decode c_Mo_put 26 = .ok (.getfield 59, 3) := by decide +kernel
theorem d_Mo_put_29 : decode c_Mo_put 29 = .ok (.iload_n 3, 1) := by decide +kernel
theorem d_Mo_put_30 : decode c_Mo_put 30 = .ok (.iload_n 2, 1) := by decide +kernel
theorem d_Mo_put_31 : decode c_Mo_put 31 = .ok (.iastore, 1) := by decide +kernel
theorem d_Mo_put_32 : decode c_Mo_put 32 = .ok (.aload_n 0, 1) := by decide +kernel
theorem d_Mo_put_33 : decode c_Mo_put 33 = .ok (.getfield 53, 3) := by decide +kernel
theorem d_Mo_put_36 : decode c_Mo_put 36 = .ok (.aload_n 0, 1) := by decide +kernel
theorem d_Mo_put_37 : decode c_Mo_put 37 = .ok (.getfield 131, 3) := by decide +kernel
theorem d_Mo_put_40 : decode c_Mo_put 40 = .ok (.dup2, 1) := by decide +kernel
theorem d_Mo_put_41 : decode c_Mo_put 41 = .ok (.iaload, 1) := by decide +kernel
theorem d_Mo_put_42 : decode c_Mo_put 42 = .ok (.iconst 1, 1) := by decide +kernel
theorem d_Mo_put_43 : decode c_Mo_put 43 = .ok (.iadd, 1) := by decide +kernel
theorem d_Mo_put_44 : decode c_Mo_put 44 = .ok (.iastore, 1) := by decide +kernel
theorem d_Mo_put_45 : decode c_Mo_put 45 = .ok (.return_, 1) := by decide +kernel
abbrev c_Mo_wait : ByteArray := prog_14_method_23_code
abbrev r_Mo_wait : Option FieldType := none
def y_Mo_wait : MethodName := ⟨"PinKindChecksModel", "wait", "(I)V"⟩
theorem d_Mo_wait_0 : decode c_Mo_wait 0 = .ok (.aload_n 0, 1) := by decide +kernel
theorem d_Mo_wait_1 : decode c_Mo_wait 1 = .ok (.getfield 85, 3) := by decide +kernel
theorem d_Mo_wait_4 : decode c_Mo_wait 4 = .ok (.aload_n 0, 1) := by decide +kernel
theorem d_Mo_wait_5 : decode c_Mo_wait 5 = .ok (.getfield 134, 3) := by decide +kernel
theorem d_Mo_wait_8 : decode c_Mo_wait 8 = .ok (.iload_n 1, 1) := by decide +kernel
theorem d_Mo_wait_9 : decode c_Mo_wait 9 = .ok (.iastore, 1) := by decide +kernel
theorem d_Mo_wait_10 : decode c_Mo_wait 10 = .ok (.aload_n 0, 1) := by decide +kernel
theorem d_Mo_wait_11 : decode c_Mo_wait 11 = .ok (.dup, 1) := by decide +kernel
theorem d_Mo_wait_12 : decode c_Mo_wait 12 = .ok (.getfield 134, 3) := by decide +kernel
theorem d_Mo_wait_15 : decode c_Mo_wait 15 = .ok (.iconst 1, 1) := by decide +kernel
theorem d_Mo_wait_16 : decode c_Mo_wait 16 = .ok (.iadd, 1) := by decide +kernel
theorem d_Mo_wait_17 : decode c_Mo_wait 17 = .ok (.putfield 134, 3) := by decide +kernel
theorem d_Mo_wait_20 : decode c_Mo_wait 20 = .ok (.return_, 1) := by decide +kernel
abbrev c_Mo_isTerm : ByteArray := prog_14_method_24_code
abbrev r_Mo_isTerm : Option FieldType := (some FieldType.boolean)
def y_Mo_isTerm : MethodName := ⟨"PinKindChecksModel", "isTerm", "(I)Z"⟩
theorem d_Mo_isTerm_0 : decode c_Mo_isTerm 0 = .ok (.aload_n 0, 1) := by decide +kernel
theorem d_Mo_isTerm_1 : decode c_Mo_isTerm 1 = .ok (.invokevirtual 145, 3) := by decide +kernel
theorem d_Mo_isTerm_4 : decode c_Mo_isTerm 4 = .ok (.lstore_n 2, 1) := by decide +kernel
theorem d_Mo_isTerm_5 : decode c_Mo_isTerm 5 = .ok (.aload_n 0, 1) := by decide +kernel
theorem d_Mo_isTerm_6 : decode c_Mo_isTerm 6 = .ok (.invokevirtual 149, 3) := by decide +kernel
theorem d_Mo_isTerm_9 : decode c_Mo_isTerm 9 = .ok (.ifCond .eq 15, 3) := by decide +kernel
theorem d_Mo_isTerm_12 : decode c_Mo_isTerm 12 = .ok (.aload_n 0, 1) := by decide +kernel
theorem d_Mo_isTerm_13 : decode c_Mo_isTerm 13 = .ok (.iconst 0, 1) := by decide +kernel
theorem d_Mo_isTerm_14 : decode c_Mo_isTerm 14 = .ok (.aload_n 0, 1) := by decide +kernel
theorem d_Mo_isTerm_15 : decode c_Mo_isTerm 15 = .ok (.invokevirtual 153, 3) := by decide +kernel
theorem d_Mo_isTerm_18 : decode c_Mo_isTerm 18 = .ok (.invokevirtual 141, 3) := by decide +kernel
theorem d_Mo_isTerm_21 : decode c_Mo_isTerm 21 = .ok (.goto 242, 3) := by decide +kernel
theorem d_Mo_isTerm_24 : decode c_Mo_isTerm 24 = .ok (.aload_n 0, 1) := by decide +kernel
theorem d_Mo_isTerm_25 : decode c_Mo_isTerm 25 = .ok (.getfield 122, 3) := by decide +kernel
theorem d_Mo_isTerm_28 : decode c_Mo_isTerm 28 = .ok (.aload_n 0, 1) := by decide +kernel
theorem d_Mo_isTerm_29 : decode c_Mo_isTerm 29 = .ok (.getfield 125, 3) := by decide +kernel
theorem d_Mo_isTerm_32 : decode c_Mo_isTerm 32 = .ok (.isub, 1) := by decide +kernel
theorem d_Mo_isTerm_33 : decode c_Mo_isTerm 33 = .ok (.iconst 2, 1) := by decide +kernel
theorem d_Mo_isTerm_34 : decode c_Mo_isTerm 34 = .ok (.if_icmp .ne 76, 3) := by decide +kernel
theorem d_Mo_isTerm_37 : decode c_Mo_isTerm 37 = .ok (.aload_n 0, 1) := by decide +kernel
theorem d_Mo_isTerm_38 : decode c_Mo_isTerm 38 = .ok (.getfield 44, 3) := by decide +kernel
theorem d_Mo_isTerm_41 : decode c_Mo_isTerm 41 = .ok (.aload_n 0, 1) := by decide +kernel
theorem d_Mo_isTerm_42 : decode c_Mo_isTerm 42 = .ok (.getfield 125, 3) := by decide +kernel
theorem d_Mo_isTerm_45 : decode c_Mo_isTerm 45 = .ok (.iaload, 1) := by decide +kernel
theorem d_Mo_isTerm_46 : decode c_Mo_isTerm 46 = .ok (.bipush 102, 2) := by decide +kernel
theorem d_Mo_isTerm_48 : decode c_Mo_isTerm 48 = .ok (.if_icmp .ne 62, 3) := by decide +kernel
theorem d_Mo_isTerm_51 : decode c_Mo_isTerm 51 = .ok (.aload_n 0, 1) := by decide +kernel
theorem d_Mo_isTerm_52 : decode c_Mo_isTerm 52 = .ok (.getfield 44, 3) := by decide +kernel
theorem d_Mo_isTerm_55 : decode c_Mo_isTerm 55 = .ok (.aload_n 0, 1) := by decide +kernel
theorem d_Mo_isTerm_56 : decode c_Mo_isTerm 56 = .ok (.getfield 125, 3) := by decide +kernel
theorem d_Mo_isTerm_59 : decode c_Mo_isTerm 59 = .ok (.iconst 1, 1) := by decide +kernel
theorem d_Mo_isTerm_60 : decode c_Mo_isTerm 60 = .ok (.iadd, 1) := by decide +kernel
theorem d_Mo_isTerm_61 : decode c_Mo_isTerm 61 = .ok (.iaload, 1) := by decide +kernel
theorem d_Mo_isTerm_62 : decode c_Mo_isTerm 62 = .ok (.bipush 47, 2) := by decide +kernel
theorem d_Mo_isTerm_64 : decode c_Mo_isTerm 64 = .ok (.if_icmp .le 46, 3) := by decide +kernel
theorem d_Mo_isTerm_67 : decode c_Mo_isTerm 67 = .ok (.aload_n 0, 1) := by decide +kernel
theorem d_Mo_isTerm_68 : decode c_Mo_isTerm 68 = .ok (.getfield 44, 3) := by decide +kernel
theorem d_Mo_isTerm_71 : decode c_Mo_isTerm 71 = .ok (.aload_n 0, 1) := by decide +kernel
theorem d_Mo_isTerm_72 : decode c_Mo_isTerm 72 = .ok (.getfield 125, 3) := by decide +kernel
theorem d_Mo_isTerm_75 : decode c_Mo_isTerm 75 = .ok (.iconst 1, 1) := by decide +kernel
theorem d_Mo_isTerm_76 : decode c_Mo_isTerm 76 = .ok (.iadd, 1) := by decide +kernel
theorem d_Mo_isTerm_77 : decode c_Mo_isTerm 77 = .ok (.iaload, 1) := by decide +kernel
theorem d_Mo_isTerm_78 : decode c_Mo_isTerm 78 = .ok (.bipush 56, 2) := by decide +kernel
theorem d_Mo_isTerm_80 : decode c_Mo_isTerm 80 = .ok (.if_icmp .ge 30, 3) := by decide +kernel
theorem d_Mo_isTerm_83 : decode c_Mo_isTerm 83 = .ok (.iload_n 1, 1) := by decide +kernel
theorem d_Mo_isTerm_84 : decode c_Mo_isTerm 84 = .ok (.iconst 1, 1) := by decide +kernel
theorem d_Mo_isTerm_85 : decode c_Mo_isTerm 85 = .ok (.if_icmp .eq 25, 3) := by decide +kernel
theorem d_Mo_isTerm_88 : decode c_Mo_isTerm 88 = .ok (.aload_n 0, 1) := by decide +kernel
theorem d_Mo_isTerm_89 : decode c_Mo_isTerm 89 = .ok (.iconst 1, 1) := by decide +kernel
theorem d_Mo_isTerm_90 : decode c_Mo_isTerm 90 = .ok (.aload_n 0, 1) := by decide +kernel
theorem d_Mo_isTerm_91 : decode c_Mo_isTerm 91 = .ok (.getfield 44, 3) := by decide +kernel
theorem d_Mo_isTerm_94 : decode c_Mo_isTerm 94 = .ok (.aload_n 0, 1) := by decide +kernel
theorem d_Mo_isTerm_95 : decode c_Mo_isTerm 95 = .ok (.getfield 125, 3) := by decide +kernel
