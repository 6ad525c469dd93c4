abbrev c_Ne_builtInWeight : ByteArray := prog_2_method_4_code
abbrev r_Ne_builtInWeight : Option FieldType := (some FieldType.int)
def y_Ne_builtInWeight : MethodName := ⟨"PinKindChecks$Net", "builtInWeight", "(ILPinKindChecks$Schematic;)I"⟩
theorem d_Ne_builtInWeight_0 : decode c_Ne_builtInWeight 0 = .ok (.iload_n 1, 1) := by decide +kernel
theorem d_Ne_builtInWeight_1 : decode c_Ne_builtInWeight 1 = .ok (.tableswitch 113 2 6 #[35, 50, 72, 86, 100], 35) := by decide +kernel
theorem d_Ne_builtInWeight_36 : decode c_Ne_builtInWeight 36 = .ok (.aload_n 0, 1) := by decide +kernel
theorem d_Ne_builtInWeight_37 : decode c_Ne_builtInWeight 37 = .ok (.iconst 1, 1) := by decide +kernel
theorem d_Ne_builtInWeight_38 : decode c_Ne_builtInWeight 38 = .ok (.invokevirtual 21, 3) := by decide +kernel
theorem d_Ne_builtInWeight_41 : decode c_Ne_builtInWeight 41 = .ok (.iconst 2, 1) := by decide +kernel
theorem d_Ne_builtInWeight_42 : decode c_Ne_builtInWeight 42 = .ok (.if_icmp .lt 7, 3) := by decide +kernel
theorem d_Ne_builtInWeight_45 : decode c_Ne_builtInWeight 45 = .ok (.iconst 2, 1) := by decide +kernel
theorem d_Ne_builtInWeight_46 : decode c_Ne_builtInWeight 46 = .ok (.goto 4, 3) := by decide +kernel
theorem d_Ne_builtInWeight_49 : decode c_Ne_builtInWeight 49 = .ok (.iconst 0, 1) := by decide +kernel
theorem d_Ne_builtInWeight_50 : decode c_Ne_builtInWeight 50 = .ok (.ireturn, 1) := by decide +kernel
theorem d_Ne_builtInWeight_51 : decode c_Ne_builtInWeight 51 = .ok (.aload_n 0, 1) := by decide +kernel
theorem d_Ne_builtInWeight_52 : decode c_Ne_builtInWeight 52 = .ok (.iconst 3, 1) := by decide +kernel
theorem d_Ne_builtInWeight_53 : decode c_Ne_builtInWeight 53 = .ok (.invokevirtual 21, 3) := by decide +kernel
theorem d_Ne_builtInWeight_56 : decode c_Ne_builtInWeight 56 = .ok (.ifCond .le 15, 3) := by decide +kernel
theorem d_Ne_builtInWeight_59 : decode c_Ne_builtInWeight 59 = .ok (.aload_n 0, 1) := by decide +kernel
theorem d_Ne_builtInWeight_60 : decode c_Ne_builtInWeight 60 = .ok (.iconst 4, 1) := by decide +kernel
theorem d_Ne_builtInWeight_61 : decode c_Ne_builtInWeight 61 = .ok (.invokevirtual 21, 3) := by decide +kernel
theorem d_Ne_builtInWeight_64 : decode c_Ne_builtInWeight 64 = .ok (.ifCond .ne 7, 3) := by decide +kernel
theorem d_Ne_builtInWeight_67 : decode c_Ne_builtInWeight 67 = .ok (.iconst 2, 1) := by decide +kernel
theorem d_Ne_builtInWeight_68 : decode c_Ne_builtInWeight 68 = .ok (.goto 4, 3) := by decide +kernel
theorem d_Ne_builtInWeight_71 : decode c_Ne_builtInWeight 71 = .ok (.iconst 0, 1) := by decide +kernel
theorem d_Ne_builtInWeight_72 : decode c_Ne_builtInWeight 72 = .ok (.ireturn, 1) := by decide +kernel
theorem d_Ne_builtInWeight_73 : decode c_Ne_builtInWeight 73 = .ok (.aload_n 0, 1) := by decide +kernel
theorem d_Ne_builtInWeight_74 : decode c_Ne_builtInWeight 74 = .ok (.invokevirtual 25, 3) := by decide +kernel
theorem d_Ne_builtInWeight_77 : decode c_Ne_builtInWeight 77 = .ok (.iconst 1, 1) := by decide +kernel
theorem d_Ne_builtInWeight_78 : decode c_Ne_builtInWeight 78 = .ok (.if_icmp .ne 7, 3) := by decide +kernel
theorem d_Ne_builtInWeight_81 : decode c_Ne_builtInWeight 81 = .ok (.iconst 1, 1) := by decide +kernel
theorem d_Ne_builtInWeight_82 : decode c_Ne_builtInWeight 82 = .ok (.goto 4, 3) := by decide +kernel
theorem d_Ne_builtInWeight_85 : decode c_Ne_builtInWeight 85 = .ok (.iconst 0, 1) := by decide +kernel
theorem d_Ne_builtInWeight_86 : decode c_Ne_builtInWeight 86 = .ok (.ireturn, 1) := by decide +kernel
theorem d_Ne_builtInWeight_87 : decode c_Ne_builtInWeight 87 = .ok (.aload_n 2, 1) := by decide +kernel
theorem d_Ne_builtInWeight_88 : decode c_Ne_builtInWeight 88 = .ok (.aload_n 0, 1) := by decide +kernel
theorem d_Ne_builtInWeight_89 : decode c_Ne_builtInWeight 89 = .ok (.invokevirtual 29, 3) := by decide +kernel
theorem d_Ne_builtInWeight_92 : decode c_Ne_builtInWeight 92 = .ok (.ifCond .eq 7, 3) := by decide +kernel
theorem d_Ne_builtInWeight_95 : decode c_Ne_builtInWeight 95 = .ok (.iconst 2, 1) := by decide +kernel
theorem d_Ne_builtInWeight_96 : decode c_Ne_builtInWeight 96 = .ok (.goto 4, 3) := by decide +kernel
theorem d_Ne_builtInWeight_99 : decode c_Ne_builtInWeight 99 = .ok (.iconst 0, 1) := by decide +kernel
theorem d_Ne_builtInWeight_100 : decode c_Ne_builtInWeight 100 = .ok (.ireturn, 1) := by decide +kernel
theorem d_Ne_builtInWeight_101 : decode c_Ne_builtInWeight 101 = .ok (.aload_n 0, 1) := by decide +kernel
theorem d_Ne_builtInWeight_102 : decode c_Ne_builtInWeight 102 = .ok (.getfield 9, 3) := by decide +kernel
theorem d_Ne_builtInWeight_105 : decode c_Ne_builtInWeight 105 = .ok (.ifCond .eq 7, 3) := by decide +kernel
theorem d_Ne_builtInWeight_108 : decode c_Ne_builtInWeight 108 = .ok (.iconst 1, 1) := by decide +kernel
theorem d_Ne_builtInWeight_109 : decode c_Ne_builtInWeight 109 = .ok (.goto 4, 3) := by decide +kernel
theorem d_Ne_builtInWeight_112 : decode c_Ne_builtInWeight 112 = .ok (.iconst 0, 1) := by decide +kernel
theorem d_Ne_builtInWeight_113 : decode c_Ne_builtInWeight 113 = .ok (.ireturn, 1) := by decide +kernel
theorem d_Ne_builtInWeight_114 : decode c_Ne_builtInWeight 114 = .ok (.iconst 0, 1) := by decide +kernel
theorem d_Ne_builtInWeight_115 : decode c_Ne_builtInWeight 115 = .ok (.ireturn, 1) := by decide +kernel
abbrev c_Ne_name : ByteArray := prog_2_method_2_code
abbrev r_Ne_name : Option FieldType := (some FieldType.int)
def y_Ne_name : MethodName := ⟨"PinKindChecks$Net", "name", "()I"⟩
theorem d_Ne_name_0 : decode c_Ne_name 0 = .ok (.aload_n 0, 1) := by decide +kernel
theorem d_Ne_name_1 : decode c_Ne_name 1 = .ok (.getfield 15, 3) := by decide +kernel
theorem d_Ne_name_4 : decode c_Ne_name 4 = .ok (.ireturn, 1) := by decide +kernel
abbrev c_Ne_ownValueOf : ByteArray := prog_2_method_5_code
abbrev r_Ne_ownValueOf : Option FieldType := (some FieldType.long)
def y_Ne_ownValueOf : MethodName := ⟨"PinKindChecks$Net", "ownValueOf", "(II)J"⟩
theorem d_Ne_ownValueOf_0 : decode c_Ne_ownValueOf 0 = .ok (.iload_n 1, 1) := by decide +kernel
theorem d_Ne_ownValueOf_1 : decode c_Ne_ownValueOf 1 = .ok (.bipush 17, 2) := by decide +kernel
theorem d_Ne_ownValueOf_3 : decode c_Ne_ownValueOf 3 = .ok (.if_icmp .ne 11, 3) := by decide +kernel
theorem d_Ne_ownValueOf_6 : decode c_Ne_ownValueOf 6 = .ok (.aload_n 0, 1) := by decide +kernel
theorem d_Ne_ownValueOf_7 : decode c_Ne_ownValueOf 7 = .ok (.getfield 15, 3) := by decide +kernel
theorem d_Ne_ownValueOf_10 : decode c_Ne_ownValueOf 10 = .ok (.i2l, 1) := by decide +kernel
theorem d_Ne_ownValueOf_11 : decode c_Ne_ownValueOf 11 = .ok (.goto 4, 3) := by decide +kernel
theorem d_Ne_ownValueOf_14 : decode c_Ne_ownValueOf 14 = .ok (.lconst 0, 1) := by decide +kernel
theorem d_Ne_ownValueOf_15 : decode c_Ne_ownValueOf 15 = .ok (.lreturn, 1) := by decide +kernel
abbrev c_Ne_init : ByteArray := prog_2_method_1_code
abbrev r_Ne_init : Option FieldType := none
def y_Ne_init : MethodName := ⟨"PinKindChecks$Net", "<init>", "(III)V"⟩
theorem d_Ne_init_0 : decode c_Ne_init 0 = .ok (.aload_n 0, 1) := by decide +kernel
theorem d_Ne_init_1 : decode c_Ne_init 1 = .ok (.iload_n 1, 1) := by decide +kernel
theorem d_Ne_init_2 : decode c_Ne_init 2 = .ok (.iconst 1, 1) := by decide +kernel
theorem d_Ne_init_3 : decode c_Ne_init 3 = .ok (.iload_n 2, 1) := by decide +kernel
theorem d_Ne_init_4 : decode c_Ne_init 4 = .ok (.invokespecial 3, 3) := by decide +kernel
theorem d_Ne_init_7 : decode c_Ne_init 7 = .ok (.aload_n 0, 1) := by decide +kernel
theorem d_Ne_init_8 : decode c_Ne_init 8 = .ok (.iconst 0, 1) := by decide +kernel
theorem d_Ne_init_9 : decode c_Ne_init 9 = .ok (.putfield 9, 3) := by decide +kernel
theorem d_Ne_init_12 : decode c_Ne_init 12 = .ok (.aload_n 0, 1) := by decide +kernel
theorem d_Ne_init_13 : decode c_Ne_init 13 = .ok (.iload_n 3, 1) := by decide +kernel
theorem d_Ne_init_14 : decode c_Ne_init 14 = .ok (.putfield 15, 3) := by decide +kernel
theorem d_Ne_init_17 : decode c_Ne_init 17 = .ok (.return_, 1) := by decide +kernel
abbrev c_Ne_noteEnd : ByteArray := prog_2_method_3_code
abbrev r_Ne_noteEnd : Option FieldType := none
def y_Ne_noteEnd : MethodName := ⟨"PinKindChecks$Net", "noteEnd", "(JJ)V"⟩
theorem d_Ne_noteEnd_0 : decode c_Ne_noteEnd 0 = .ok (.lload_n 1, 1) := by decide +kernel
theorem d_Ne_noteEnd_1 : decode c_Ne_noteEnd 1 = .ok (.ldc2_w 19, 3) := by decide +kernel
theorem d_Ne_noteEnd_4 : decode c_Ne_noteEnd 4 = .ok (.lrem, 1) := by decide +kernel
theorem d_Ne_noteEnd_5 : decode c_Ne_noteEnd 5 = .ok (.lconst 0, 1) := by decide +kernel
theorem d_Ne_noteEnd_6 : decode c_Ne_noteEnd 6 = .ok (.lcmp, 1) := by decide +kernel
theorem d_Ne_noteEnd_7 : decode c_Ne_noteEnd 7 = .ok (.ifCond .ne 13, 3) := by decide +kernel
theorem d_Ne_noteEnd_10 : decode c_Ne_noteEnd 10 = .ok (.lload_n 3, 1) := by decide +kernel
theorem d_Ne_noteEnd_11 : decode c_Ne_noteEnd 11 = .ok (.ldc2_w 19, 3) := by decide +kernel
theorem d_Ne_noteEnd_14 : decode c_Ne_noteEnd 14 = .ok (.lrem, 1) := by decide +kernel
theorem d_Ne_noteEnd_15 : decode c_Ne_noteEnd 15 = .ok (.lconst 0, 1) := by decide +kernel
theorem d_Ne_noteEnd_16 : decode c_Ne_noteEnd 16 = .ok (.lcmp, 1) := by decide +kernel
theorem d_Ne_noteEnd_17 : decode c_Ne_noteEnd 17 = .ok (.ifCond .eq 8, 3) := by decide +kernel
theorem d_Ne_noteEnd_20 : decode c_Ne_noteEnd 20 = .ok (.aload_n 0, 1) := by decide +kernel
theorem d_Ne_noteEnd_21 : decode c_Ne_noteEnd 21 = .ok (.iconst 1, 1) := by decide +kernel
theorem d_Ne_noteEnd_22 : decode c_Ne_noteEnd 22 = .ok (.putfield 9, 3) := by decide +kernel
theorem d_Ne_noteEnd_25 : decode c_Ne_noteEnd 25 = .ok (.return_, 1) := by decide +kernel
