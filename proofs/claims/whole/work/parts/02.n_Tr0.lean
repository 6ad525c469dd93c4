abbrev c_Tr_isAbout : ByteArray := prog_11_method_7_code
abbrev r_Tr_isAbout : Option FieldType := (some FieldType.boolean)
def y_Tr_isAbout : MethodName := ⟨"PinKindChecks$ToldRule", "isAbout", "(LPinKindChecks$Thing;)Z"⟩
theorem d_Tr_isAbout_0 : decode c_Tr_isAbout 0 = .ok (.aload_n 0, 1) := by decide +kernel
theorem d_Tr_isAbout_1 : decode c_Tr_isAbout 1 = .ok (.getfield 9, 3) := by decide +kernel
theorem d_Tr_isAbout_4 : decode c_Tr_isAbout 4 = .ok (.ifCond .ne 10, 3) := by decide +kernel
theorem d_Tr_isAbout_7 : decode c_Tr_isAbout 7 = .ok (.aload_n 1, 1) := by decide +kernel
theorem d_Tr_isAbout_8 : decode c_Tr_isAbout 8 = .ok (.instanceof 29, 3) := by decide +kernel
theorem d_Tr_isAbout_11 : decode c_Tr_isAbout 11 = .ok (.ifCond .ne 33, 3) := by decide +kernel
theorem d_Tr_isAbout_14 : decode c_Tr_isAbout 14 = .ok (.aload_n 0, 1) := by decide +kernel
theorem d_Tr_isAbout_15 : decode c_Tr_isAbout 15 = .ok (.getfield 9, 3) := by decide +kernel
theorem d_Tr_isAbout_18 : decode c_Tr_isAbout 18 = .ok (.iconst 1, 1) := by decide +kernel
theorem d_Tr_isAbout_19 : decode c_Tr_isAbout 19 = .ok (.if_icmp .ne 10, 3) := by decide +kernel
theorem d_Tr_isAbout_22 : decode c_Tr_isAbout 22 = .ok (.aload_n 1, 1) := by decide +kernel
theorem d_Tr_isAbout_23 : decode c_Tr_isAbout 23 = .ok (.instanceof 31, 3) := by decide +kernel
theorem d_Tr_isAbout_26 : decode c_Tr_isAbout 26 = .ok (.ifCond .ne 18, 3) := by decide +kernel
theorem d_Tr_isAbout_29 : decode c_Tr_isAbout 29 = .ok (.aload_n 0, 1) := by decide +kernel
theorem d_Tr_isAbout_30 : decode c_Tr_isAbout 30 = .ok (.getfield 9, 3) := by decide +kernel
theorem d_Tr_isAbout_33 : decode c_Tr_isAbout 33 = .ok (.iconst 2, 1) := by decide +kernel
theorem d_Tr_isAbout_34 : decode c_Tr_isAbout 34 = .ok (.if_icmp .ne 14, 3) := by decide +kernel
theorem d_Tr_isAbout_37 : decode c_Tr_isAbout 37 = .ok (.aload_n 1, 1) := by decide +kernel
theorem d_Tr_isAbout_38 : decode c_Tr_isAbout 38 = .ok (.instanceof 33, 3) := by decide +kernel
theorem d_Tr_isAbout_41 : decode c_Tr_isAbout 41 = .ok (.ifCond .eq 7, 3) := by decide +kernel
theorem d_Tr_isAbout_44 : decode c_Tr_isAbout 44 = .ok (.iconst 1, 1) := by decide +kernel
theorem d_Tr_isAbout_45 : decode c_Tr_isAbout 45 = .ok (.goto 4, 3) := by decide +kernel
theorem d_Tr_isAbout_48 : decode c_Tr_isAbout 48 = .ok (.iconst 0, 1) := by decide +kernel
theorem d_Tr_isAbout_49 : decode c_Tr_isAbout 49 = .ok (.ireturn, 1) := by decide +kernel
abbrev c_Tr_holdsFor : ByteArray := prog_11_method_8_code
abbrev r_Tr_holdsFor : Option FieldType := (some FieldType.boolean)
def y_Tr_holdsFor : MethodName := ⟨"PinKindChecks$ToldRule", "holdsFor", "(LPinKindChecks$Thing;[J)Z"⟩
theorem d_Tr_holdsFor_0 : decode c_Tr_holdsFor 0 = .ok (.iconst 0, 1) := by decide +kernel
theorem d_Tr_holdsFor_1 : decode c_Tr_holdsFor 1 = .ok (.istore_n 3, 1) := by decide +kernel
theorem d_Tr_holdsFor_2 : decode c_Tr_holdsFor 2 = .ok (.iconst 0, 1) := by decide +kernel
theorem d_Tr_holdsFor_3 : decode c_Tr_holdsFor 3 = .ok (.istore 4, 2) := by decide +kernel
theorem d_Tr_holdsFor_5 : decode c_Tr_holdsFor 5 = .ok (.iload 4, 2) := by decide +kernel
theorem d_Tr_holdsFor_7 : decode c_Tr_holdsFor 7 = .ok (.aload_n 0, 1) := by decide +kernel
theorem d_Tr_holdsFor_8 : decode c_Tr_holdsFor 8 = .ok (.getfield 18, 3) := by decide +kernel
theorem d_Tr_holdsFor_11 : decode c_Tr_holdsFor 11 = .ok (.arraylength, 1) := by decide +kernel
theorem d_Tr_holdsFor_12 : decode c_Tr_holdsFor 12 = .ok (.if_icmp .ge 144, 3) := by decide +kernel
theorem d_Tr_holdsFor_15 : decode c_Tr_holdsFor 15 = .ok (.iload 4, 2) := by decide +kernel
theorem d_Tr_holdsFor_17 : decode c_Tr_holdsFor 17 = .ok (.aload_n 0, 1) := by decide +kernel
theorem d_Tr_holdsFor_18 : decode c_Tr_holdsFor 18 = .ok (.getfield 22, 3) := by decide +kernel
theorem d_Tr_holdsFor_21 : decode c_Tr_holdsFor 21 = .ok (.arraylength, 1) := by decide +kernel
theorem d_Tr_holdsFor_22 : decode c_Tr_holdsFor 22 = .ok (.if_icmp .ge 134, 3) := by decide +kernel
theorem d_Tr_holdsFor_25 : decode c_Tr_holdsFor 25 = .ok (.aload_n 0, 1) := by decide +kernel
theorem d_Tr_holdsFor_26 : decode c_Tr_holdsFor 26 = .ok (.getfield 18, 3) := by decide +kernel
theorem d_Tr_holdsFor_29 : decode c_Tr_holdsFor 29 = .ok (.iload 4, 2) := by decide +kernel
theorem d_Tr_holdsFor_31 : decode c_Tr_holdsFor 31 = .ok (.iaload, 1) := by decide +kernel
theorem d_Tr_holdsFor_32 : decode c_Tr_holdsFor 32 = .ok (.istore 5, 2) := by decide +kernel
theorem d_Tr_holdsFor_34 : decode c_Tr_holdsFor 34 = .ok (.iload 5, 2) := by decide +kernel
theorem d_Tr_holdsFor_36 : decode c_Tr_holdsFor 36 = .ok (.bipush 13, 2) := by decide +kernel
theorem d_Tr_holdsFor_38 : decode c_Tr_holdsFor 38 = .ok (.if_icmp .lt 49, 3) := by decide +kernel
theorem d_Tr_holdsFor_41 : decode c_Tr_holdsFor 41 = .ok (.iload_n 3, 1) := by decide +kernel
theorem d_Tr_holdsFor_42 : decode c_Tr_holdsFor 42 = .ok (.aload_n 2, 1) := by decide +kernel
theorem d_Tr_holdsFor_43 : decode c_Tr_holdsFor 43 = .ok (.arraylength, 1) := by decide +kernel
theorem d_Tr_holdsFor_44 : decode c_Tr_holdsFor 44 = .ok (.if_icmp .ge 106, 3) := by decide +kernel
theorem d_Tr_holdsFor_47 : decode c_Tr_holdsFor 47 = .ok (.aload_n 2, 1) := by decide +kernel
theorem d_Tr_holdsFor_48 : decode c_Tr_holdsFor 48 = .ok (.iload_n 3, 1) := by decide +kernel
theorem d_Tr_holdsFor_49 : decode c_Tr_holdsFor 49 = .ok (.iload 5, 2) := by decide +kernel
theorem d_Tr_holdsFor_51 : decode c_Tr_holdsFor 51 = .ok (.bipush 13, 2) := by decide +kernel
theorem d_Tr_holdsFor_53 : decode c_Tr_holdsFor 53 = .ok (.if_icmp .ne 14, 3) := by decide +kernel
theorem d_Tr_holdsFor_56 : decode c_Tr_holdsFor 56 = .ok (.aload_n 0, 1) := by decide +kernel
theorem d_Tr_holdsFor_57 : decode c_Tr_holdsFor 57 = .ok (.getfield 22, 3) := by decide +kernel
theorem d_Tr_holdsFor_60 : decode c_Tr_holdsFor 60 = .ok (.iload 4, 2) := by decide +kernel
theorem d_Tr_holdsFor_62 : decode c_Tr_holdsFor 62 = .ok (.iaload, 1) := by decide +kernel
theorem d_Tr_holdsFor_63 : decode c_Tr_holdsFor 63 = .ok (.i2l, 1) := by decide +kernel
theorem d_Tr_holdsFor_64 : decode c_Tr_holdsFor 64 = .ok (.goto 16, 3) := by decide +kernel
theorem d_Tr_holdsFor_67 : decode c_Tr_holdsFor 67 = .ok (.aload_n 1, 1) := by decide +kernel
theorem d_Tr_holdsFor_68 : decode c_Tr_holdsFor 68 = .ok (.iload 5, 2) := by decide +kernel
theorem d_Tr_holdsFor_70 : decode c_Tr_holdsFor 70 = .ok (.aload_n 0, 1) := by decide +kernel
theorem d_Tr_holdsFor_71 : decode c_Tr_holdsFor 71 = .ok (.getfield 22, 3) := by decide +kernel
theorem d_Tr_holdsFor_74 : decode c_Tr_holdsFor 74 = .ok (.iload 4, 2) := by decide +kernel
theorem d_Tr_holdsFor_76 : decode c_Tr_holdsFor 76 = .ok (.iaload, 1) := by decide +kernel
theorem d_Tr_holdsFor_77 : decode c_Tr_holdsFor 77 = .ok (.invokevirtual 35, 3) := by decide +kernel
theorem d_Tr_holdsFor_80 : decode c_Tr_holdsFor 80 = .ok (.lastore, 1) := by decide +kernel
theorem d_Tr_holdsFor_81 : decode c_Tr_holdsFor 81 = .ok (.iinc 3 1, 3) := by decide +kernel
theorem d_Tr_holdsFor_84 : decode c_Tr_holdsFor 84 = .ok (.goto 66, 3) := by decide +kernel
theorem d_Tr_holdsFor_87 : decode c_Tr_holdsFor 87 = .ok (.iload 5, 2) := by decide +kernel
theorem d_Tr_holdsFor_89 : decode c_Tr_holdsFor 89 = .ok (.iconst 3, 1) := by decide +kernel
theorem d_Tr_holdsFor_90 : decode c_Tr_holdsFor 90 = .ok (.if_icmp .ne 34, 3) := by decide +kernel
theorem d_Tr_holdsFor_93 : decode c_Tr_holdsFor 93 = .ok (.iload_n 3, 1) := by decide +kernel
theorem d_Tr_holdsFor_94 : decode c_Tr_holdsFor 94 = .ok (.iconst 1, 1) := by decide +kernel
theorem d_Tr_holdsFor_95 : decode c_Tr_holdsFor 95 = .ok (.if_icmp .lt 55, 3) := by decide +kernel
theorem d_Tr_holdsFor_98 : decode c_Tr_holdsFor 98 = .ok (.aload_n 2, 1) := by decide +kernel
theorem d_Tr_holdsFor_99 : decode c_Tr_holdsFor 99 = .ok (.iload_n 3, 1) := by decide +kernel
theorem d_Tr_holdsFor_100 : decode c_Tr_holdsFor 100 = .ok (.iconst 1, 1) := by decide +kernel
theorem d_Tr_holdsFor_101 : decode c_Tr_holdsFor 101 = .ok (.isub, 1) := by decide +kernel
theorem d_Tr_holdsFor_102 : decode c_Tr_holdsFor 102 = .ok (.aload_n 2, 1) := by decide +kernel
theorem d_Tr_holdsFor_103 : decode c_Tr_holdsFor 103 = .ok (.iload_n 3, 1) := by decide +kernel
theorem d_Tr_holdsFor_104 : decode c_Tr_holdsFor 104 = .ok (.iconst 1, 1) := by decide +kernel
theorem d_Tr_holdsFor_105 : decode c_Tr_holdsFor 105 = .ok (.isub, 1) := by decide +kernel
theorem d_Tr_holdsFor_106 : decode c_Tr_holdsFor 106 = .ok (.laload, 1) := by decide +kernel
theorem d_Tr_holdsFor_107 : decode c_Tr_holdsFor 107 = .ok (.lconst 0, 1) := by decide +kernel
theorem d_Tr_holdsFor_108 : decode c_Tr_holdsFor 108 = .ok (.lcmp, 1) := by decide +kernel
theorem d_Tr_holdsFor_109 : decode c_Tr_holdsFor 109 = .ok (.ifCond .ne 7, 3) := by decide +kernel
theorem d_Tr_holdsFor_112 : decode c_Tr_holdsFor 112 = .ok (.iconst 1, 1) := by decide +kernel
theorem d_Tr_holdsFor_113 : decode c_Tr_holdsFor 113 = .ok (.goto 4, 3) := by decide +kernel
theorem d_Tr_holdsFor_116 : decode c_Tr_holdsFor 116 = .ok (.iconst 0, 1) := by decide +kernel
theorem d_Tr_holdsFor_117 : decode c_Tr_holdsFor 117 = .ok (.invokestatic 41, 3) := by decide +kernel
theorem d_Tr_holdsFor_120 : decode c_Tr_holdsFor 120 = .ok (.lastore, 1) := by decide +kernel
theorem d_Tr_holdsFor_121 : decode c_Tr_holdsFor 121 = .ok (.goto 29, 3) := by decide +kernel
theorem d_Tr_holdsFor_124 : decode c_Tr_holdsFor 124 = .ok (.iload_n 3, 1) := by decide +kernel
theorem d_Tr_holdsFor_125 : decode c_Tr_holdsFor 125 = .ok (.iconst 2, 1) := by decide +kernel
theorem d_Tr_holdsFor_126 : decode c_Tr_holdsFor 126 = .ok (.if_icmp .lt 24, 3) := by decide +kernel
theorem d_Tr_holdsFor_129 : decode c_Tr_holdsFor 129 = .ok (.iinc 3 (-1), 3) := by decide +kernel
theorem d_Tr_holdsFor_132 : decode c_Tr_holdsFor 132 = .ok (.aload_n 2, 1) := by decide +kernel
theorem d_Tr_holdsFor_133 : decode c_Tr_holdsFor 133 = .ok (.iload_n 3, 1) := by decide +kernel
theorem d_Tr_holdsFor_134 : decode c_Tr_holdsFor 134 = .ok (.iconst 1, 1) := by decide +kernel
theorem d_Tr_holdsFor_135 : decode c_Tr_holdsFor 135 = .ok (.isub, 1) := by decide +kernel
theorem d_Tr_holdsFor_136 : decode c_Tr_holdsFor 136 = .ok (.iload 5, 2) := by decide +kernel
theorem d_Tr_holdsFor_138 : decode c_Tr_holdsFor 138 = .ok (.aload_n 2, 1) := by decide +kernel
theorem d_Tr_holdsFor_139 : decode c_Tr_holdsFor 139 = .ok (.iload_n 3, 1) := by decide +kernel
theorem d_Tr_holdsFor_140 : decode c_Tr_holdsFor 140 = .ok (.iconst 1, 1) := by decide +kernel
theorem d_Tr_holdsFor_141 : decode c_Tr_holdsFor 141 = .ok (.isub, 1) := by decide +kernel
theorem d_Tr_holdsFor_142 : decode c_Tr_holdsFor 142 = .ok (.laload, 1) := by decide +kernel
theorem d_Tr_holdsFor_143 : decode c_Tr_holdsFor 143 = .ok (.aload_n 2, 1) := by decide +kernel
theorem d_Tr_holdsFor_144 : decode c_Tr_holdsFor 144 = .ok (.iload_n 3, 1) := by decide +kernel
theorem d_Tr_holdsFor_145 : decode c_Tr_holdsFor 145 = .ok (.laload, 1) := by decide +kernel
theorem d_Tr_holdsFor_146 : decode c_Tr_holdsFor 146 = .ok (.invokestatic 45, 3) := by decide +kernel
theorem d_Tr_holdsFor_149 : decode c_Tr_holdsFor 149 = .ok (.lastore, 1) := by decide +kernel
theorem d_Tr_holdsFor_150 : decode c_Tr_holdsFor 150 = .ok (.iinc 4 1, 3) := by decide +kernel
theorem d_Tr_holdsFor_153 : decode c_Tr_holdsFor 153 = .ok (.goto (-148), 3) := by decide +kernel
theorem d_Tr_holdsFor_156 : decode c_Tr_holdsFor 156 = .ok (.iload_n 3, 1) := by decide +kernel
theorem d_Tr_holdsFor_157 : decode c_Tr_holdsFor 157 = .ok (.iconst 1, 1) := by decide +kernel
theorem d_Tr_holdsFor_158 : decode c_Tr_holdsFor 158 = .ok (.if_icmp .ne 15, 3) := by decide +kernel
theorem d_Tr_holdsFor_161 : decode c_Tr_holdsFor 161 = .ok (.aload_n 2, 1) := by decide +kernel
theorem d_Tr_holdsFor_162 : decode c_Tr_holdsFor 162 = .ok (.iconst 0, 1) := by decide +kernel
theorem d_Tr_holdsFor_163 : decode c_Tr_holdsFor 163 = .ok (.laload, 1) := by decide +kernel
theorem d_Tr_holdsFor_164 : decode c_Tr_holdsFor 164 = .ok (.lconst 0, 1) := by decide +kernel
theorem d_Tr_holdsFor_165 : decode c_Tr_holdsFor 165 = .ok (.lcmp, 1) := by decide +kernel
theorem d_Tr_holdsFor_166 : decode c_Tr_holdsFor 166 = .ok (.ifCond .eq 7, 3) := by decide +kernel
theorem d_Tr_holdsFor_169 : decode c_Tr_holdsFor 169 = .ok (.iconst 1, 1) := by decide +kernel
theorem d_Tr_holdsFor_170 : decode c_Tr_holdsFor 170 = .ok (.goto 4, 3) := by decide +kernel
theorem d_Tr_holdsFor_173 : decode c_Tr_holdsFor 173 = .ok (.iconst 0, 1) := by decide +kernel
theorem d_Tr_holdsFor_174 : decode c_Tr_holdsFor 174 = .ok (.ireturn, 1) := by decide +kernel
abbrev c_Tr_truth : ByteArray := prog_11_method_10_code
abbrev r_Tr_truth : Option FieldType := (some FieldType.long)
def y_Tr_truth : MethodName := ⟨"PinKindChecks$ToldRule", "truth", "(Z)J"⟩
theorem d_Tr_truth_0 : decode c_Tr_truth 0 = .ok (.iload_n 0, 1) := by decide +kernel
theorem d_Tr_truth_1 : decode c_Tr_truth 1 = .ok (.ifCond .eq 7, 3) := by decide +kernel
theorem d_Tr_truth_4 : decode c_Tr_truth 4 = .ok (.lconst 1, 1) := by decide +kernel
theorem d_Tr_truth_5 : decode c_Tr_truth 5 = .ok (.goto 4, 3) := by decide +kernel
theorem d_Tr_truth_8 : decode c_Tr_truth 8 = .ok (.lconst 0, 1) := by decide +kernel
theorem d_Tr_truth_9 : decode c_Tr_truth 9 = .ok (.lreturn, 1) := by decide +kernel
abbrev c_Tr_workOut : ByteArray := prog_11_method_9_code
abbrev r_Tr_workOut : Option FieldType := (some FieldType.long)
def y_Tr_workOut : MethodName := ⟨"PinKindChecks$ToldRule", "workOut", "(IJJ)J"⟩
theorem d_Tr_workOut_0 : decode c_Tr_workOut 0 = .ok (.iload_n 0, 1) := by decide +kernel
theorem d_Tr_workOut_1 : decode c_Tr_workOut 1 = .ok (.tableswitch 165 1 11 #[59, 63, 165, 67, 82, 97, 112, 127, 142, 157, 161], 59) := by decide +kernel
theorem d_Tr_workOut_60 : decode c_Tr_workOut 60 = .ok (.lload_n 1, 1) := by decide +kernel
theorem d_Tr_workOut_61 : decode c_Tr_workOut 61 = .ok (.lload_n 3, 1) := by decide +kernel
theorem d_Tr_workOut_62 : decode c_Tr_workOut 62 = .ok (.lor, 1) := by decide +kernel
theorem d_Tr_workOut_63 : decode c_Tr_workOut 63 = .ok (.lreturn, 1) := by decide +kernel
theorem d_Tr_workOut_64 : decode c_Tr_workOut 64 = .ok (.lload_n 1, 1) := by decide +kernel
theorem d_Tr_workOut_65 : decode c_Tr_workOut 65 = .ok (.lload_n 3, 1) := by decide +kernel
theorem d_Tr_workOut_66 : decode c_Tr_workOut 66 = .ok (.land, 1) := by decide +kernel
theorem d_Tr_workOut_67 : decode c_Tr_workOut 67 = .ok (.lreturn, 1) := by decide +kernel
theorem d_Tr_workOut_68 : decode c_Tr_workOut 68 = .ok (.lload_n 1, 1) := by decide +kernel
theorem d_Tr_workOut_69 : decode c_Tr_workOut 69 = .ok (.lload_n 3, 1) := by decide +kernel
theorem d_Tr_workOut_70 : decode c_Tr_workOut 70 = .ok (.lcmp, 1) := by decide +kernel
theorem d_Tr_workOut_71 : decode c_Tr_workOut 71 = .ok (.ifCond .ne 7, 3) := by decide +kernel
theorem d_Tr_workOut_74 : decode c_Tr_workOut 74 = .ok (.iconst 1, 1) := by decide +kernel
theorem d_Tr_workOut_75 : decode c_Tr_workOut 75 = .ok (.goto 4, 3) := by decide +kernel
theorem d_Tr_workOut_78 : decode c_Tr_workOut 78 = .ok (.iconst 0, 1) := by decide +kernel
theorem d_Tr_workOut_79 : decode c_Tr_workOut 79 = .ok (.invokestatic 41, 3) := by decide +kernel
theorem d_Tr_workOut_82 : decode c_Tr_workOut 82 = .ok (.lreturn, 1) := by decide +kernel
theorem d_Tr_workOut_83 : decode c_Tr_workOut 83 = .ok (.lload_n 1, 1) := by decide +kernel
theorem d_Tr_workOut_84 : decode c_Tr_workOut 84 = .ok (.lload_n 3, 1) := by decide +kernel
theorem d_Tr_workOut_85 : decode c_Tr_workOut 85 = .ok (.lcmp, 1) := by decide +kernel
theorem d_Tr_workOut_86 : decode c_Tr_workOut 86 = .ok (.ifCond .eq 7, 3) := by decide +kernel
theorem d_Tr_workOut_89 : decode c_Tr_workOut 89 = .ok (.iconst 1, 1) := by decide +kernel
theorem d_Tr_workOut_90 : decode c_Tr_workOut 90 = .ok (.goto 4, 3) := by decide +kernel
theorem d_Tr_workOut_93 : decode c_Tr_workOut 93 = .ok (.iconst 0, 1) := by decide +kernel
theorem d_Tr_workOut_94 : decode c_Tr_workOut 94 = .ok (.invokestatic 41, 3) := by decide +kernel
theorem d_Tr_workOut_97 : decode c_Tr_workOut 97 = .ok (.lreturn, 1) := by decide +kernel
theorem d_Tr_workOut_98 : decode c_Tr_workOut 98 = .ok (.lload_n 1, 1) := by decide +kernel
theorem d_Tr_workOut_99 : decode c_Tr_workOut 99 = .ok (.lload_n 3, 1) := by decide +kernel
theorem d_Tr_workOut_100 : decode c_Tr_workOut 100 = .ok (.lcmp, 1) := by decide +kernel
theorem d_Tr_workOut_101 : decode c_Tr_workOut 101 = .ok (.ifCond .ge 7, 3) := by decide +kernel
theorem d_Tr_workOut_104 : decode c_Tr_workOut 104 = .ok (.iconst 1, 1) := by decide +kernel
theorem d_Tr_workOut_105 : decode c_Tr_workOut 105 = .ok (.goto 4, 3) := by decide +kernel
theorem d_Tr_workOut_108 : decode c_Tr_workOut 108 = .ok (.iconst 0, 1) := by decide +kernel
theorem d_Tr_workOut_109 : decode c_Tr_workOut 109 = .ok (.invokestatic 41, 3) := by decide +kernel
theorem d_Tr_workOut_112 : decode c_Tr_workOut 112 = .ok (.lreturn, 1) := by decide +kernel
theorem d_Tr_workOut_113 : decode c_Tr_workOut 113 = .ok (.lload_n 1, 1) := by decide +kernel
theorem d_Tr_workOut_114 : decode c_Tr_workOut 114 = .ok (.lload_n 3, 1) := by decide +kernel
theorem d_Tr_workOut_115 : decode c_Tr_workOut 115 = .ok (.lcmp, 1) := by decide +kernel
theorem d_Tr_workOut_116 : decode c_Tr_workOut 116 = .ok (.ifCond .le 7, 3) := by decide +kernel
theorem d_Tr_workOut_119 : decode c_Tr_workOut 119 = .ok (.iconst 1, 1) := by decide +kernel
theorem d_Tr_workOut_120 : decode c_Tr_workOut 120 = .ok (.goto 4, 3) := by decide +kernel
theorem d_Tr_workOut_123 : decode c_Tr_workOut 123 = .ok (.iconst 0, 1) := by decide +kernel
theorem d_Tr_workOut_124 : decode c_Tr_workOut 124 = .ok (.invokestatic 41, 3) := by decide +kernel
theorem d_Tr_workOut_127 : decode c_Tr_workOut 127 = .ok (.lreturn, 1) := by decide +kernel
theorem d_Tr_workOut_128 : decode c_Tr_workOut 128 = .ok (.lload_n 1, 1) := by decide +kernel
theorem d_Tr_workOut_129 : decode c_Tr_workOut 129 = .ok (.lload_n 3, 1) := by decide +kernel
theorem d_Tr_workOut_130 : decode c_Tr_workOut 130 = .ok (.lcmp, 1) := by decide +kernel
theorem d_Tr_workOut_131 : decode c_Tr_workOut 131 = .ok (.ifCond .gt 7, 3) := by decide +kernel
theorem d_Tr_workOut_134 : decode c_Tr_workOut 134 = .ok (.iconst 1, 1) := by decide +kernel
theorem d_Tr_workOut_135 : decode c_Tr_workOut 135 = .ok (.goto 4, 3) := by decide +kernel
theorem d_Tr_workOut_138 : decode c_Tr_workOut 138 = .ok (.iconst 0, 1) := by decide +kernel
theorem d_Tr_workOut_139 : decode c_Tr_workOut 139 = .ok (.invokestatic 41, 3) := by decide +kernel
theorem d_Tr_workOut_142 : decode c_Tr_workOut 142 = .ok (.lreturn, 1) := by decide +kernel
theorem d_Tr_workOut_143 : decode c_Tr_workOut 143 = .ok (.lload_n 1, 1) := by decide +kernel
theorem d_Tr_workOut_144 : decode c_Tr_workOut 144 = .ok (.lload_n 3, 1) := by decide +kernel
theorem d_Tr_workOut_145 : decode c_Tr_workOut 145 = .ok (.lcmp, 1) := by decide +kernel
theorem d_Tr_workOut_146 : decode c_Tr_workOut 146 = .ok (.ifCond .lt 7, 3) := by decide +kernel
theorem d_Tr_workOut_149 : decode c_Tr_workOut 149 = .ok (.iconst 1, 1) := by decide +kernel
theorem d_Tr_workOut_150 : decode c_Tr_workOut 150 = .ok (.goto 4, 3) := by decide +kernel
theorem d_Tr_workOut_153 : decode c_Tr_workOut 153 = .ok (.iconst 0, 1) := by decide +kernel
theorem d_Tr_workOut_154 : decode c_Tr_workOut 154 = .ok (.invokestatic 41, 3) := by decide +kernel
theorem d_Tr_workOut_157 : decode c_Tr_workOut 157 = .ok (.lreturn, 1) := by decide +kernel
theorem d_Tr_workOut_158 : decode c_Tr_workOut 158 = .ok (.lload_n 1, 1) := by decide +kernel
theorem d_Tr_workOut_159 : decode c_Tr_workOut 159 = .ok (.lload_n 3, 1) := by decide +kernel
theorem d_Tr_workOut_160 : decode c_Tr_workOut 160 = .ok (.ladd, 1) := by decide +kernel
theorem d_Tr_workOut_161 : decode c_Tr_workOut 161 = .ok (.lreturn, 1) := by decide +kernel
theorem d_Tr_workOut_162 : decode c_Tr_workOut 162 = .ok (.lload_n 1, 1) := by decide +kernel
theorem d_Tr_workOut_163 : decode c_Tr_workOut 163 = .ok (.lload_n 3, 1) := by decide +kernel
theorem d_Tr_workOut_164 : decode c_Tr_workOut 164 = .ok (.lsub, 1) := by decide +kernel
theorem d_Tr_workOut_165 : decode c_Tr_workOut 165 = .ok (.lreturn, 1) := by decide +kernel
theorem d_Tr_workOut_166 : decode c_Tr_workOut 166 = .ok (.lload_n 1, 1) := by decide +kernel
theorem d_Tr_workOut_167 : decode c_Tr_workOut 167 = .ok (.lload_n 3, 1) := by decide +kernel
theorem d_Tr_workOut_168 : decode c_Tr_workOut 168 = .ok (.lmul, 1) := by decide +kernel
theorem d_Tr_workOut_169 : decode c_Tr_workOut 169 = .ok (.lreturn, 1) := by decide +kernel
abbrev c_Tr_weight : ByteArray := prog_11_method_6_code
abbrev r_Tr_weight : Option FieldType := (some FieldType.int)
def y_Tr_weight : MethodName := ⟨"PinKindChecks$ToldRule", "weight", "()I"⟩
theorem d_Tr_weight_0 : decode c_Tr_weight 0 = .ok (.aload_n 0, 1) := by decide +kernel
theorem d_Tr_weight_1 : decode c_Tr_weight 1 = .ok (.getfield 15, 3) := by decide +kernel
theorem d_Tr_weight_4 : decode c_Tr_weight 4 = .ok (.ireturn, 1) := by decide +kernel
abbrev c_Tr_isJoining : ByteArray := prog_11_method_2_code
abbrev r_Tr_isJoining : Option FieldType := (some FieldType.boolean)
def y_Tr_isJoining : MethodName := ⟨"PinKindChecks$ToldRule", "isJoining", "(I)Z"⟩
theorem d_Tr_isJoining_0 : decode c_Tr_isJoining 0 = .ok (.iload_n 0, 1) := by decide +kernel
theorem d_Tr_isJoining_1 : decode c_Tr_isJoining 1 = .ok (.iconst 1, 1) := by decide +kernel
theorem d_Tr_isJoining_2 : decode c_Tr_isJoining 2 = .ok (.if_icmp .eq 8, 3) := by decide +kernel
theorem d_Tr_isJoining_5 : decode c_Tr_isJoining 5 = .ok (.iload_n 0, 1) := by decide +kernel
theorem d_Tr_isJoining_6 : decode c_Tr_isJoining 6 = .ok (.iconst 2, 1) := by decide +kernel
theorem d_Tr_isJoining_7 : decode c_Tr_isJoining 7 = .ok (.if_icmp .ne 7, 3) := by decide +kernel
theorem d_Tr_isJoining_10 : decode c_Tr_isJoining 10 = .ok (.iconst 1, 1) := by decide +kernel
theorem d_Tr_isJoining_11 : decode c_Tr_isJoining 11 = .ok (.goto 4, 3) := by decide +kernel
theorem d_Tr_isJoining_14 : decode c_Tr_isJoining 14 = .ok (.iconst 0, 1) := by decide +kernel
theorem d_Tr_isJoining_15 : decode c_Tr_isJoining 15 = .ok (.ireturn, 1) := by decide +kernel
abbrev c_Tr_isSign : ByteArray := prog_11_method_3_code
abbrev r_Tr_isSign : Option FieldType := (some FieldType.boolean)
def y_Tr_isSign : MethodName := ⟨"PinKindChecks$ToldRule", "isSign", "(I)Z"⟩
theorem d_Tr_isSign_0 : decode c_Tr_isSign 0 = .ok (.iload_n 0, 1) := by decide +kernel
theorem d_Tr_isSign_1 : decode c_Tr_isSign 1 = .ok (.iconst 4, 1) := by decide +kernel
theorem d_Tr_isSign_2 : decode c_Tr_isSign 2 = .ok (.if_icmp .lt 13, 3) := by decide +kernel
theorem d_Tr_isSign_5 : decode c_Tr_isSign 5 = .ok (.iload_n 0, 1) := by decide +kernel
theorem d_Tr_isSign_6 : decode c_Tr_isSign 6 = .ok (.bipush 9, 2) := by decide +kernel
theorem d_Tr_isSign_8 : decode c_Tr_isSign 8 = .ok (.if_icmp .gt 7, 3) := by decide +kernel
theorem d_Tr_isSign_11 : decode c_Tr_isSign 11 = .ok (.iconst 1, 1) := by decide +kernel
theorem d_Tr_isSign_12 : decode c_Tr_isSign 12 = .ok (.goto 4, 3) := by decide +kernel
theorem d_Tr_isSign_15 : decode c_Tr_isSign 15 = .ok (.iconst 0, 1) := by decide +kernel
theorem d_Tr_isSign_16 : decode c_Tr_isSign 16 = .ok (.ireturn, 1) := by decide +kernel
abbrev c_Tr_isArithmetic : ByteArray := prog_11_method_4_code
abbrev r_Tr_isArithmetic : Option FieldType := (some FieldType.boolean)
def y_Tr_isArithmetic : MethodName := ⟨"PinKindChecks$ToldRule", "isArithmetic", "(I)Z"⟩
theorem d_Tr_isArithmetic_0 : decode c_Tr_isArithmetic 0 = .ok (.iload_n 0, 1) := by decide +kernel
theorem d_Tr_isArithmetic_1 : decode c_Tr_isArithmetic 1 = .ok (.bipush 10, 2) := by decide +kernel
theorem d_Tr_isArithmetic_3 : decode c_Tr_isArithmetic 3 = .ok (.if_icmp .lt 13, 3) := by decide +kernel
theorem d_Tr_isArithmetic_6 : decode c_Tr_isArithmetic 6 = .ok (.iload_n 0, 1) := by decide +kernel
theorem d_Tr_isArithmetic_7 : decode c_Tr_isArithmetic 7 = .ok (.bipush 12, 2) := by decide +kernel
theorem d_Tr_isArithmetic_9 : decode c_Tr_isArithmetic 9 = .ok (.if_icmp .gt 7, 3) := by decide +kernel
theorem d_Tr_isArithmetic_12 : decode c_Tr_isArithmetic 12 = .ok (.iconst 1, 1) := by decide +kernel
theorem d_Tr_isArithmetic_13 : decode c_Tr_isArithmetic 13 = .ok (.goto 4, 3) := by decide +kernel
theorem d_Tr_isArithmetic_16 : decode c_Tr_isArithmetic 16 = .ok (.iconst 0, 1) := by decide +kernel
theorem d_Tr_isArithmetic_17 : decode c_Tr_isArithmetic 17 = .ok (.ireturn, 1) := by decide +kernel
abbrev c_Tr_strength : ByteArray := prog_11_method_5_code
abbrev r_Tr_strength : Option FieldType := (some FieldType.int)
def y_Tr_strength : MethodName := ⟨"PinKindChecks$ToldRule", "strength", "(I)I"⟩
theorem d_Tr_strength_0 : decode c_Tr_strength 0 = .ok (.iload_n 0, 1) := by decide +kernel
theorem d_Tr_strength_1 : decode c_Tr_strength 1 = .ok (.iconst 3, 1) := by decide +kernel
theorem d_Tr_strength_2 : decode c_Tr_strength 2 = .ok (.if_icmp .gt 5, 3) := by decide +kernel
theorem d_Tr_strength_5 : decode c_Tr_strength 5 = .ok (.iload_n 0, 1) := by decide +kernel
theorem d_Tr_strength_6 : decode c_Tr_strength 6 = .ok (.ireturn, 1) := by decide +kernel
theorem d_Tr_strength_7 : decode c_Tr_strength 7 = .ok (.iload_n 0, 1) := by decide +kernel
theorem d_Tr_strength_8 : decode c_Tr_strength 8 = .ok (.invokestatic 25, 3) := by decide +kernel
theorem d_Tr_strength_11 : decode c_Tr_strength 11 = .ok (.ifCond .eq 5, 3) := by decide +kernel
theorem d_Tr_strength_14 : decode c_Tr_strength 14 = .ok (.iconst 4, 1) := by decide +kernel
theorem d_Tr_strength_15 : decode c_Tr_strength 15 = .ok (.ireturn, 1) := by decide +kernel
theorem d_Tr_strength_16 : decode c_Tr_strength 16 = .ok (.iload_n 0, 1) := by decide +kernel
theorem d_Tr_strength_17 : decode c_Tr_strength 17 = .ok (.bipush 12, 2) := by decide +kernel
theorem d_Tr_strength_19 : decode c_Tr_strength 19 = .ok (.if_icmp .ne 8, 3) := by decide +kernel
theorem d_Tr_strength_22 : decode c_Tr_strength 22 = .ok (.bipush 12, 2) := by decide +kernel
theorem d_Tr_strength_24 : decode c_Tr_strength 24 = .ok (.goto 5, 3) := by decide +kernel
theorem d_Tr_strength_27 : decode c_Tr_strength 27 = .ok (.bipush 10, 2) := by decide +kernel
theorem d_Tr_strength_29 : decode c_Tr_strength 29 = .ok (.ireturn, 1) := by decide +kernel
abbrev c_Tr_init : ByteArray := prog_11_method_1_code
abbrev r_Tr_init : Option FieldType := none
def y_Tr_init : MethodName := ⟨"PinKindChecks$ToldRule", "<init>", "(II[I[I)V"⟩
theorem d_Tr_init_0 : decode c_Tr_init 0 = .ok (.aload_n 0, 1) := by decide +kernel
theorem d_Tr_init_1 : decode c_Tr_init 1 = .ok (.invokespecial 3, 3) := by decide +kernel
theorem d_Tr_init_4 : decode c_Tr_init 4 = .ok (.aload_n 0, 1) := by decide +kernel
theorem d_Tr_init_5 : decode c_Tr_init 5 = .ok (.iload_n 1, 1) := by decide +kernel
theorem d_Tr_init_6 : decode c_Tr_init 6 = .ok (.putfield 9, 3) := by decide +kernel
theorem d_Tr_init_9 : decode c_Tr_init 9 = .ok (.aload_n 0, 1) := by decide +kernel
theorem d_Tr_init_10 : decode c_Tr_init 10 = .ok (.iload_n 2, 1) := by decide +kernel
theorem d_Tr_init_11 : decode c_Tr_init 11 = .ok (.putfield 15, 3) := by decide +kernel
theorem d_Tr_init_14 : decode c_Tr_init 14 = .ok (.aload_n 0, 1) := by decide +kernel
theorem d_Tr_init_15 : decode c_Tr_init 15 = .ok (.aload_n 3, 1) := by decide +kernel
theorem d_Tr_init_16 : decode c_Tr_init 16 = .ok (.putfield 18, 3) := by decide +kernel
theorem d_Tr_init_19 : decode c_Tr_init 19 = .ok (.aload_n 0, 1) := by decide +kernel
theorem d_Tr_init_20 : decode c_Tr_init 20 = .ok (.aload 4, 2) := by decide +kernel
theorem d_Tr_init_22 : decode c_Tr_init 22 = .ok (.putfield 22, 3) := by decide +kernel
theorem d_Tr_init_25 : decode c_Tr_init 25 = .ok (.return_, 1) := by decide +kernel
