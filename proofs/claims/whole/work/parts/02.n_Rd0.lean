abbrev c_Rd_init : ByteArray := prog_7_method_1_code
abbrev r_Rd_init : Option FieldType := none
def y_Rd_init : MethodName := ⟨"PinKindChecks$RuleReader", "<init>", "()V"⟩
theorem d_Rd_init_0 : decode c_Rd_init 0 = .ok (.aload_n 0, 1) := by decide +kernel
theorem d_Rd_init_1 : decode c_Rd_init 1 = .ok (.invokespecial 3, 3) := by decide +kernel
theorem d_Rd_init_4 : decode c_Rd_init 4 = .ok (.aload_n 0, 1) := by decide +kernel
theorem d_Rd_init_5 : decode c_Rd_init 5 = .ok (.bipush 80, 2) := by decide +kernel
theorem d_Rd_init_7 : decode c_Rd_init 7 = .ok (.newarray .int, 2) := by decide +kernel
theorem d_Rd_init_9 : decode c_Rd_init 9 = .ok (.putfield 9, 3) := by decide +kernel
theorem d_Rd_init_12 : decode c_Rd_init 12 = .ok (.aload_n 0, 1) := by decide +kernel
theorem d_Rd_init_13 : decode c_Rd_init 13 = .ok (.bipush 80, 2) := by decide +kernel
theorem d_Rd_init_15 : decode c_Rd_init 15 = .ok (.newarray .int, 2) := by decide +kernel
theorem d_Rd_init_17 : decode c_Rd_init 17 = .ok (.putfield 15, 3) := by decide +kernel
theorem d_Rd_init_20 : decode c_Rd_init 20 = .ok (.aload_n 0, 1) := by decide +kernel
theorem d_Rd_init_21 : decode c_Rd_init 21 = .ok (.bipush 80, 2) := by decide +kernel
theorem d_Rd_init_23 : decode c_Rd_init 23 = .ok (.newarray .int, 2) := by decide +kernel
theorem d_Rd_init_25 : decode c_Rd_init 25 = .ok (.putfield 18, 3) := by decide +kernel
theorem d_Rd_init_28 : decode c_Rd_init 28 = .ok (.aload_n 0, 1) := by decide +kernel
theorem d_Rd_init_29 : decode c_Rd_init 29 = .ok (.new 21, 3) := by decide +kernel
theorem d_Rd_init_32 : decode c_Rd_init 32 = .ok (.dup, 1) := by decide +kernel
theorem d_Rd_init_33 : decode c_Rd_init 33 = .ok (.invokespecial 23, 3) := by decide +kernel
theorem d_Rd_init_36 : decode c_Rd_init 36 = .ok (.putfield 24, 3) := by decide +kernel
theorem d_Rd_init_39 : decode c_Rd_init 39 = .ok (.aload_n 0, 1) := by decide +kernel
theorem d_Rd_init_40 : decode c_Rd_init 40 = .ok (.iconst 0, 1) := by decide +kernel
theorem d_Rd_init_41 : decode c_Rd_init 41 = .ok (.putfield 28, 3) := by decide +kernel
theorem d_Rd_init_44 : decode c_Rd_init 44 = .ok (.aload_n 0, 1) := by decide +kernel
theorem d_Rd_init_45 : decode c_Rd_init 45 = .ok (.iconst 0, 1) := by decide +kernel
theorem d_Rd_init_46 : decode c_Rd_init 46 = .ok (.putfield 32, 3) := by decide +kernel
theorem d_Rd_init_49 : decode c_Rd_init 49 = .ok (.aload_n 0, 1) := by decide +kernel
theorem d_Rd_init_50 : decode c_Rd_init 50 = .ok (.iconst 0, 1) := by decide +kernel
theorem d_Rd_init_51 : decode c_Rd_init 51 = .ok (.putfield 35, 3) := by decide +kernel
theorem d_Rd_init_54 : decode c_Rd_init 54 = .ok (.aload_n 0, 1) := by decide +kernel
theorem d_Rd_init_55 : decode c_Rd_init 55 = .ok (.iconst 0, 1) := by decide +kernel
theorem d_Rd_init_56 : decode c_Rd_init 56 = .ok (.putfield 38, 3) := by decide +kernel
theorem d_Rd_init_59 : decode c_Rd_init 59 = .ok (.aload_n 0, 1) := by decide +kernel
theorem d_Rd_init_60 : decode c_Rd_init 60 = .ok (.iconst 0, 1) := by decide +kernel
theorem d_Rd_init_61 : decode c_Rd_init 61 = .ok (.putfield 41, 3) := by decide +kernel
theorem d_Rd_init_64 : decode c_Rd_init 64 = .ok (.aload_n 0, 1) := by decide +kernel
theorem d_Rd_init_65 : decode c_Rd_init 65 = .ok (.iconst 0, 1) := by decide +kernel
theorem d_Rd_init_66 : decode c_Rd_init 66 = .ok (.putfield 44, 3) := by decide +kernel
theorem d_Rd_init_69 : decode c_Rd_init 69 = .ok (.aload_n 0, 1) := by decide +kernel
theorem d_Rd_init_70 : decode c_Rd_init 70 = .ok (.iconst 0, 1) := by decide +kernel
theorem d_Rd_init_71 : decode c_Rd_init 71 = .ok (.putfield 48, 3) := by decide +kernel
theorem d_Rd_init_74 : decode c_Rd_init 74 = .ok (.aload_n 0, 1) := by decide +kernel
theorem d_Rd_init_75 : decode c_Rd_init 75 = .ok (.iconst 1, 1) := by decide +kernel
theorem d_Rd_init_76 : decode c_Rd_init 76 = .ok (.putfield 51, 3) := by decide +kernel
theorem d_Rd_init_79 : decode c_Rd_init 79 = .ok (.return_, 1) := by decide +kernel
abbrev c_Rd_addLetter : ByteArray := prog_7_method_2_code
abbrev r_Rd_addLetter : Option FieldType := (some FieldType.boolean)
def y_Rd_addLetter : MethodName := ⟨"PinKindChecks$RuleReader", "addLetter", "(I)Z"⟩
theorem d_Rd_addLetter_0 : decode c_Rd_addLetter 0 = .ok (.aload_n 0, 1) := by decide +kernel
theorem d_Rd_addLetter_1 : decode c_Rd_addLetter 1 = .ok (.getfield 24, 3) := by decide +kernel
theorem d_Rd_addLetter_4 : decode c_Rd_addLetter 4 = .ok (.iload_n 1, 1) := by decide +kernel
theorem d_Rd_addLetter_5 : decode c_Rd_addLetter 5 = .ok (.invokevirtual 54, 3) := by decide +kernel
theorem d_Rd_addLetter_8 : decode c_Rd_addLetter 8 = .ok (.ireturn, 1) := by decide +kernel
abbrev c_Rd_wipe : ByteArray := prog_7_method_3_code
abbrev r_Rd_wipe : Option FieldType := none
def y_Rd_wipe : MethodName := ⟨"PinKindChecks$RuleReader", "wipe", "()V"⟩
theorem d_Rd_wipe_0 : decode c_Rd_wipe 0 = .ok (.aload_n 0, 1) := by decide +kernel
theorem d_Rd_wipe_1 : decode c_Rd_wipe 1 = .ok (.getfield 24, 3) := by decide +kernel
theorem d_Rd_wipe_4 : decode c_Rd_wipe 4 = .ok (.invokevirtual 58, 3) := by decide +kernel
theorem d_Rd_wipe_7 : decode c_Rd_wipe 7 = .ok (.return_, 1) := by decide +kernel
abbrev c_Rd_readRule : ByteArray := prog_7_method_4_code
abbrev r_Rd_readRule : Option FieldType := (some (FieldType.object "PinKindChecks$ToldRule"))
def y_Rd_readRule : MethodName := ⟨"PinKindChecks$RuleReader", "readRule", "()LPinKindChecks$ToldRule;"⟩
theorem d_Rd_readRule_0 : decode c_Rd_readRule 0 = .ok (.aload_n 0, 1) := by decide +kernel
theorem d_Rd_readRule_1 : decode c_Rd_readRule 1 = .ok (.invokevirtual 61, 3) := by decide +kernel
theorem d_Rd_readRule_4 : decode c_Rd_readRule 4 = .ok (.iconst 1, 1) := by decide +kernel
theorem d_Rd_readRule_5 : decode c_Rd_readRule 5 = .ok (.istore_n 1, 1) := by decide +kernel
theorem d_Rd_readRule_6 : decode c_Rd_readRule 6 = .ok (.iload_n 1, 1) := by decide +kernel
theorem d_Rd_readRule_7 : decode c_Rd_readRule 7 = .ok (.ifCond .eq 44, 3) := by decide +kernel
theorem d_Rd_readRule_10 : decode c_Rd_readRule 10 = .ok (.aload_n 0, 1) := by decide +kernel
theorem d_Rd_readRule_11 : decode c_Rd_readRule 11 = .ok (.getfield 35, 3) := by decide +kernel
theorem d_Rd_readRule_14 : decode c_Rd_readRule 14 = .ok (.bipush 80, 2) := by decide +kernel
theorem d_Rd_readRule_16 : decode c_Rd_readRule 16 = .ok (.if_icmp .ge 35, 3) := by decide +kernel
theorem d_Rd_readRule_19 : decode c_Rd_readRule 19 = .ok (.aload_n 0, 1) := by decide +kernel
theorem d_Rd_readRule_20 : decode c_Rd_readRule 20 = .ok (.getfield 24, 3) := by decide +kernel
theorem d_Rd_readRule_23 : decode c_Rd_readRule 23 = .ok (.invokevirtual 64, 3) := by decide +kernel
theorem d_Rd_readRule_26 : decode c_Rd_readRule 26 = .ok (.ifCond .eq 25, 3) := by decide +kernel
theorem d_Rd_readRule_29 : decode c_Rd_readRule 29 = .ok (.aload_n 0, 1) := by decide +kernel
theorem d_Rd_readRule_30 : decode c_Rd_readRule 30 = .ok (.invokevirtual 68, 3) := by decide +kernel
theorem d_Rd_readRule_33 : decode c_Rd_readRule 33 = .ok (.istore_n 1, 1) := by decide +kernel
theorem d_Rd_readRule_34 : decode c_Rd_readRule 34 = .ok (.iload_n 1, 1) := by decide +kernel
theorem d_Rd_readRule_35 : decode c_Rd_readRule 35 = .ok (.ifCond .eq (-29), 3) := by decide +kernel
theorem d_Rd_readRule_38 : decode c_Rd_readRule 38 = .ok (.aload_n 0, 1) := by decide +kernel
theorem d_Rd_readRule_39 : decode c_Rd_readRule 39 = .ok (.dup, 1) := by decide +kernel
theorem d_Rd_readRule_40 : decode c_Rd_readRule 40 = .ok (.getfield 35, 3) := by decide +kernel
theorem d_Rd_readRule_43 : decode c_Rd_readRule 43 = .ok (.iconst 1, 1) := by decide +kernel
theorem d_Rd_readRule_44 : decode c_Rd_readRule 44 = .ok (.iadd, 1) := by decide +kernel
theorem d_Rd_readRule_45 : decode c_Rd_readRule 45 = .ok (.putfield 35, 3) := by decide +kernel
theorem d_Rd_readRule_48 : decode c_Rd_readRule 48 = .ok (.goto (-42), 3) := by decide +kernel
theorem d_Rd_readRule_51 : decode c_Rd_readRule 51 = .ok (.iload_n 1, 1) := by decide +kernel
theorem d_Rd_readRule_52 : decode c_Rd_readRule 52 = .ok (.ifCond .eq 17, 3) := by decide +kernel
theorem d_Rd_readRule_55 : decode c_Rd_readRule 55 = .ok (.aload_n 0, 1) := by decide +kernel
theorem d_Rd_readRule_56 : decode c_Rd_readRule 56 = .ok (.getfield 41, 3) := by decide +kernel
theorem d_Rd_readRule_59 : decode c_Rd_readRule 59 = .ok (.ifCond .gt 10, 3) := by decide +kernel
theorem d_Rd_readRule_62 : decode c_Rd_readRule 62 = .ok (.aload_n 0, 1) := by decide +kernel
theorem d_Rd_readRule_63 : decode c_Rd_readRule 63 = .ok (.invokevirtual 71, 3) := by decide +kernel
theorem d_Rd_readRule_66 : decode c_Rd_readRule 66 = .ok (.ifCond .ne 5, 3) := by decide +kernel
theorem d_Rd_readRule_69 : decode c_Rd_readRule 69 = .ok (.aconst_null, 1) := by decide +kernel
theorem d_Rd_readRule_70 : decode c_Rd_readRule 70 = .ok (.areturn, 1) := by decide +kernel
theorem d_Rd_readRule_71 : decode c_Rd_readRule 71 = .ok (.aload_n 0, 1) := by decide +kernel
theorem d_Rd_readRule_72 : decode c_Rd_readRule 72 = .ok (.iconst 1, 1) := by decide +kernel
theorem d_Rd_readRule_73 : decode c_Rd_readRule 73 = .ok (.invokevirtual 76, 3) := by decide +kernel
theorem d_Rd_readRule_76 : decode c_Rd_readRule 76 = .ok (.new 74, 3) := by decide +kernel
theorem d_Rd_readRule_79 : decode c_Rd_readRule 79 = .ok (.dup, 1) := by decide +kernel
theorem d_Rd_readRule_80 : decode c_Rd_readRule 80 = .ok (.aload_n 0, 1) := by decide +kernel
theorem d_Rd_readRule_81 : decode c_Rd_readRule 81 = .ok (.getfield 48, 3) := by decide +kernel
theorem d_Rd_readRule_84 : decode c_Rd_readRule 84 = .ok (.aload_n 0, 1) := by decide +kernel
theorem d_Rd_readRule_85 : decode c_Rd_readRule 85 = .ok (.getfield 51, 3) := by decide +kernel
theorem d_Rd_readRule_88 : decode c_Rd_readRule 88 = .ok (.aload_n 0, 1) := by decide +kernel
theorem d_Rd_readRule_89 : decode c_Rd_readRule 89 = .ok (.getfield 9, 3) := by decide +kernel
theorem d_Rd_readRule_92 : decode c_Rd_readRule 92 = .ok (.aload_n 0, 1) := by decide +kernel
theorem d_Rd_readRule_93 : decode c_Rd_readRule 93 = .ok (.getfield 28, 3) := by decide +kernel
theorem d_Rd_readRule_96 : decode c_Rd_readRule 96 = .ok (.invokestatic 80, 3) := by decide +kernel
theorem d_Rd_readRule_99 : decode c_Rd_readRule 99 = .ok (.aload_n 0, 1) := by decide +kernel
theorem d_Rd_readRule_100 : decode c_Rd_readRule 100 = .ok (.getfield 15, 3) := by decide +kernel
theorem d_Rd_readRule_103 : decode c_Rd_readRule 103 = .ok (.aload_n 0, 1) := by decide +kernel
theorem d_Rd_readRule_104 : decode c_Rd_readRule 104 = .ok (.getfield 28, 3) := by decide +kernel
theorem d_Rd_readRule_107 : decode c_Rd_readRule 107 = .ok (.invokestatic 80, 3) := by decide +kernel
theorem d_Rd_readRule_110 : decode c_Rd_readRule 110 = .ok (.invokespecial 86, 3) := by decide +kernel
theorem d_Rd_readRule_113 : decode c_Rd_readRule 113 = .ok (.areturn, 1) := by decide +kernel
abbrev c_Rd_start : ByteArray := prog_7_method_6_code
abbrev r_Rd_start : Option FieldType := none
def y_Rd_start : MethodName := ⟨"PinKindChecks$RuleReader", "start", "()V"⟩
theorem d_Rd_start_0 : decode c_Rd_start 0 = .ok (.aload_n 0, 1) := by decide +kernel
theorem d_Rd_start_1 : decode c_Rd_start 1 = .ok (.getfield 24, 3) := by decide +kernel
theorem d_Rd_start_4 : decode c_Rd_start 4 = .ok (.invokevirtual 89, 3) := by decide +kernel
theorem d_Rd_start_7 : decode c_Rd_start 7 = .ok (.aload_n 0, 1) := by decide +kernel
theorem d_Rd_start_8 : decode c_Rd_start 8 = .ok (.iconst 0, 1) := by decide +kernel
theorem d_Rd_start_9 : decode c_Rd_start 9 = .ok (.putfield 28, 3) := by decide +kernel
theorem d_Rd_start_12 : decode c_Rd_start 12 = .ok (.aload_n 0, 1) := by decide +kernel
theorem d_Rd_start_13 : decode c_Rd_start 13 = .ok (.iconst 0, 1) := by decide +kernel
theorem d_Rd_start_14 : decode c_Rd_start 14 = .ok (.putfield 32, 3) := by decide +kernel
theorem d_Rd_start_17 : decode c_Rd_start 17 = .ok (.aload_n 0, 1) := by decide +kernel
theorem d_Rd_start_18 : decode c_Rd_start 18 = .ok (.iconst 0, 1) := by decide +kernel
theorem d_Rd_start_19 : decode c_Rd_start 19 = .ok (.putfield 35, 3) := by decide +kernel
theorem d_Rd_start_22 : decode c_Rd_start 22 = .ok (.aload_n 0, 1) := by decide +kernel
theorem d_Rd_start_23 : decode c_Rd_start 23 = .ok (.iconst 0, 1) := by decide +kernel
theorem d_Rd_start_24 : decode c_Rd_start 24 = .ok (.putfield 38, 3) := by decide +kernel
theorem d_Rd_start_27 : decode c_Rd_start 27 = .ok (.aload_n 0, 1) := by decide +kernel
theorem d_Rd_start_28 : decode c_Rd_start 28 = .ok (.iconst 0, 1) := by decide +kernel
theorem d_Rd_start_29 : decode c_Rd_start 29 = .ok (.putfield 41, 3) := by decide +kernel
theorem d_Rd_start_32 : decode c_Rd_start 32 = .ok (.aload_n 0, 1) := by decide +kernel
theorem d_Rd_start_33 : decode c_Rd_start 33 = .ok (.iconst 0, 1) := by decide +kernel
theorem d_Rd_start_34 : decode c_Rd_start 34 = .ok (.putfield 44, 3) := by decide +kernel
theorem d_Rd_start_37 : decode c_Rd_start 37 = .ok (.return_, 1) := by decide +kernel
abbrev c_Rd_takeWord : ByteArray := prog_7_method_8_code
abbrev r_Rd_takeWord : Option FieldType := (some FieldType.boolean)
def y_Rd_takeWord : MethodName := ⟨"PinKindChecks$RuleReader", "takeWord", "()Z"⟩
theorem d_Rd_takeWord_0 : decode c_Rd_takeWord 0 = .ok (.aload_n 0, 1) := by decide +kernel
theorem d_Rd_takeWord_1 : decode c_Rd_takeWord 1 = .ok (.getfield 38, 3) := by decide +kernel
theorem d_Rd_takeWord_4 : decode c_Rd_takeWord 4 = .ok (.tableswitch 83 0 4 #[36, 41, 46, 73, 78], 36) := by decide +kernel
theorem d_Rd_takeWord_40 : decode c_Rd_takeWord 40 = .ok (.aload_n 0, 1) := by decide +kernel
theorem d_Rd_takeWord_41 : decode c_Rd_takeWord 41 = .ok (.invokevirtual 92, 3) := by decide +kernel
theorem d_Rd_takeWord_44 : decode c_Rd_takeWord 44 = .ok (.ireturn, 1) := by decide +kernel
theorem d_Rd_takeWord_45 : decode c_Rd_takeWord 45 = .ok (.aload_n 0, 1) := by decide +kernel
theorem d_Rd_takeWord_46 : decode c_Rd_takeWord 46 = .ok (.invokevirtual 95, 3) := by decide +kernel
theorem d_Rd_takeWord_49 : decode c_Rd_takeWord 49 = .ok (.ireturn, 1) := by decide +kernel
theorem d_Rd_takeWord_50 : decode c_Rd_takeWord 50 = .ok (.aload_n 0, 1) := by decide +kernel
theorem d_Rd_takeWord_51 : decode c_Rd_takeWord 51 = .ok (.invokevirtual 98, 3) := by decide +kernel
theorem d_Rd_takeWord_54 : decode c_Rd_takeWord 54 = .ok (.ifCond .ne 17, 3) := by decide +kernel
theorem d_Rd_takeWord_57 : decode c_Rd_takeWord 57 = .ok (.aload_n 0, 1) := by decide +kernel
theorem d_Rd_takeWord_58 : decode c_Rd_takeWord 58 = .ok (.invokevirtual 101, 3) := by decide +kernel
theorem d_Rd_takeWord_61 : decode c_Rd_takeWord 61 = .ok (.ifCond .ne 10, 3) := by decide +kernel
theorem d_Rd_takeWord_64 : decode c_Rd_takeWord 64 = .ok (.aload_n 0, 1) := by decide +kernel
theorem d_Rd_takeWord_65 : decode c_Rd_takeWord 65 = .ok (.invokevirtual 104, 3) := by decide +kernel
theorem d_Rd_takeWord_68 : decode c_Rd_takeWord 68 = .ok (.ifCond .eq 7, 3) := by decide +kernel
theorem d_Rd_takeWord_71 : decode c_Rd_takeWord 71 = .ok (.iconst 1, 1) := by decide +kernel
theorem d_Rd_takeWord_72 : decode c_Rd_takeWord 72 = .ok (.goto 4, 3) := by decide +kernel
theorem d_Rd_takeWord_75 : decode c_Rd_takeWord 75 = .ok (.iconst 0, 1) := by decide +kernel
theorem d_Rd_takeWord_76 : decode c_Rd_takeWord 76 = .ok (.ireturn, 1) := by decide +kernel
theorem d_Rd_takeWord_77 : decode c_Rd_takeWord 77 = .ok (.aload_n 0, 1) := by decide +kernel
theorem d_Rd_takeWord_78 : decode c_Rd_takeWord 78 = .ok (.invokevirtual 104, 3) := by decide +kernel
theorem d_Rd_takeWord_81 : decode c_Rd_takeWord 81 = .ok (.ireturn, 1) := by decide +kernel
theorem d_Rd_takeWord_82 : decode c_Rd_takeWord 82 = .ok (.aload_n 0, 1) := by decide +kernel
theorem d_Rd_takeWord_83 : decode c_Rd_takeWord 83 = .ok (.invokevirtual 107, 3) := by decide +kernel
theorem d_Rd_takeWord_86 : decode c_Rd_takeWord 86 = .ok (.ireturn, 1) := by decide +kernel
theorem d_Rd_takeWord_87 : decode c_Rd_takeWord 87 = .ok (.aload_n 0, 1) := by decide +kernel
theorem d_Rd_takeWord_88 : decode c_Rd_takeWord 88 = .ok (.invokevirtual 110, 3) := by decide +kernel
theorem d_Rd_takeWord_91 : decode c_Rd_takeWord 91 = .ok (.ifCond .ne 10, 3) := by decide +kernel
theorem d_Rd_takeWord_94 : decode c_Rd_takeWord 94 = .ok (.aload_n 0, 1) := by decide +kernel
theorem d_Rd_takeWord_95 : decode c_Rd_takeWord 95 = .ok (.invokevirtual 113, 3) := by decide +kernel
theorem d_Rd_takeWord_98 : decode c_Rd_takeWord 98 = .ok (.ifCond .eq 7, 3) := by decide +kernel
theorem d_Rd_takeWord_101 : decode c_Rd_takeWord 101 = .ok (.iconst 1, 1) := by decide +kernel
theorem d_Rd_takeWord_102 : decode c_Rd_takeWord 102 = .ok (.goto 4, 3) := by decide +kernel
theorem d_Rd_takeWord_105 : decode c_Rd_takeWord 105 = .ok (.iconst 0, 1) := by decide +kernel
theorem d_Rd_takeWord_106 : decode c_Rd_takeWord 106 = .ok (.ireturn, 1) := by decide +kernel
abbrev c_Rd_takeSubject : ByteArray := prog_7_method_9_code
abbrev r_Rd_takeSubject : Option FieldType := (some FieldType.boolean)
def y_Rd_takeSubject : MethodName := ⟨"PinKindChecks$RuleReader", "takeSubject", "()Z"⟩
theorem d_Rd_takeSubject_0 : decode c_Rd_takeSubject 0 = .ok (.aload_n 0, 1) := by decide +kernel
theorem d_Rd_takeSubject_1 : decode c_Rd_takeSubject 1 = .ok (.getfield 24, 3) := by decide +kernel
theorem d_Rd_takeSubject_4 : decode c_Rd_takeSubject 4 = .ok (.ldc 116, 2) := by decide +kernel
theorem d_Rd_takeSubject_6 : decode c_Rd_takeSubject 6 = .ok (.invokevirtual 118, 3) := by decide +kernel
theorem d_Rd_takeSubject_9 : decode c_Rd_takeSubject 9 = .ok (.ifCond .eq 11, 3) := by decide +kernel
theorem d_Rd_takeSubject_12 : decode c_Rd_takeSubject 12 = .ok (.aload_n 0, 1) := by decide +kernel
theorem d_Rd_takeSubject_13 : decode c_Rd_takeSubject 13 = .ok (.iconst 0, 1) := by decide +kernel
theorem d_Rd_takeSubject_14 : decode c_Rd_takeSubject 14 = .ok (.putfield 48, 3) := by decide +kernel
theorem d_Rd_takeSubject_17 : decode c_Rd_takeSubject 17 = .ok (.goto 45, 3) := by decide +kernel
theorem d_Rd_takeSubject_20 : decode c_Rd_takeSubject 20 = .ok (.aload_n 0, 1) := by decide +kernel
theorem d_Rd_takeSubject_21 : decode c_Rd_takeSubject 21 = .ok (.getfield 24, 3) := by decide +kernel
theorem d_Rd_takeSubject_24 : decode c_Rd_takeSubject 24 = .ok (.ldc 122, 2) := by decide +kernel
theorem d_Rd_takeSubject_26 : decode c_Rd_takeSubject 26 = .ok (.invokevirtual 118, 3) := by decide +kernel
theorem d_Rd_takeSubject_29 : decode c_Rd_takeSubject 29 = .ok (.ifCond .eq 11, 3) := by decide +kernel
theorem d_Rd_takeSubject_32 : decode c_Rd_takeSubject 32 = .ok (.aload_n 0, 1) := by decide +kernel
theorem d_Rd_takeSubject_33 : decode c_Rd_takeSubject 33 = .ok (.iconst 1, 1) := by decide +kernel
theorem d_Rd_takeSubject_34 : decode c_Rd_takeSubject 34 = .ok (.putfield 48, 3) := by decide +kernel
theorem d_Rd_takeSubject_37 : decode c_Rd_takeSubject 37 = .ok (.goto 25, 3) := by decide +kernel
theorem d_Rd_takeSubject_40 : decode c_Rd_takeSubject 40 = .ok (.aload_n 0, 1) := by decide +kernel
theorem d_Rd_takeSubject_41 : decode c_Rd_takeSubject 41 = .ok (.getfield 24, 3) := by decide +kernel
theorem d_Rd_takeSubject_44 : decode c_Rd_takeSubject 44 = .ok (.ldc 124, 2) := by decide +kernel
theorem d_Rd_takeSubject_46 : decode c_Rd_takeSubject 46 = .ok (.invokevirtual 118, 3) := by decide +kernel
theorem d_Rd_takeSubject_49 : decode c_Rd_takeSubject 49 = .ok (.ifCond .eq 11, 3) := by decide +kernel
theorem d_Rd_takeSubject_52 : decode c_Rd_takeSubject 52 = .ok (.aload_n 0, 1) := by decide +kernel
theorem d_Rd_takeSubject_53 : decode c_Rd_takeSubject 53 = .ok (.iconst 2, 1) := by decide +kernel
theorem d_Rd_takeSubject_54 : decode c_Rd_takeSubject 54 = .ok (.putfield 48, 3) := by decide +kernel
theorem d_Rd_takeSubject_57 : decode c_Rd_takeSubject 57 = .ok (.goto 5, 3) := by decide +kernel
theorem d_Rd_takeSubject_60 : decode c_Rd_takeSubject 60 = .ok (.iconst 0, 1) := by decide +kernel
theorem d_Rd_takeSubject_61 : decode c_Rd_takeSubject 61 = .ok (.ireturn, 1) := by decide +kernel
theorem d_Rd_takeSubject_62 : decode c_Rd_takeSubject 62 = .ok (.aload_n 0, 1) := by decide +kernel
theorem d_Rd_takeSubject_63 : decode c_Rd_takeSubject 63 = .ok (.iconst 1, 1) := by decide +kernel
theorem d_Rd_takeSubject_64 : decode c_Rd_takeSubject 64 = .ok (.putfield 38, 3) := by decide +kernel
theorem d_Rd_takeSubject_67 : decode c_Rd_takeSubject 67 = .ok (.iconst 1, 1) := by decide +kernel
theorem d_Rd_takeSubject_68 : decode c_Rd_takeSubject 68 = .ok (.ireturn, 1) := by decide +kernel
abbrev c_Rd_takeWeight : ByteArray := prog_7_method_10_code
abbrev r_Rd_takeWeight : Option FieldType := (some FieldType.boolean)
def y_Rd_takeWeight : MethodName := ⟨"PinKindChecks$RuleReader", "takeWeight", "()Z"⟩
theorem d_Rd_takeWeight_0 : decode c_Rd_takeWeight 0 = .ok (.aload_n 0, 1) := by decide +kernel
theorem d_Rd_takeWeight_1 : decode c_Rd_takeWeight 1 = .ok (.getfield 24, 3) := by decide +kernel
theorem d_Rd_takeWeight_4 : decode c_Rd_takeWeight 4 = .ok (.ldc 126, 2) := by decide +kernel
theorem d_Rd_takeWeight_6 : decode c_Rd_takeWeight 6 = .ok (.invokevirtual 118, 3) := by decide +kernel
theorem d_Rd_takeWeight_9 : decode c_Rd_takeWeight 9 = .ok (.ifCond .eq 11, 3) := by decide +kernel
theorem d_Rd_takeWeight_12 : decode c_Rd_takeWeight 12 = .ok (.aload_n 0, 1) := by decide +kernel
theorem d_Rd_takeWeight_13 : decode c_Rd_takeWeight 13 = .ok (.iconst 1, 1) := by decide +kernel
theorem d_Rd_takeWeight_14 : decode c_Rd_takeWeight 14 = .ok (.putfield 51, 3) := by decide +kernel
theorem d_Rd_takeWeight_17 : decode c_Rd_takeWeight 17 = .ok (.goto 25, 3) := by decide +kernel
theorem d_Rd_takeWeight_20 : decode c_Rd_takeWeight 20 = .ok (.aload_n 0, 1) := by decide +kernel
theorem d_Rd_takeWeight_21 : decode c_Rd_takeWeight 21 = .ok (.getfield 24, 3) := by decide +kernel
theorem d_Rd_takeWeight_24 : decode c_Rd_takeWeight 24 = .ok (.ldc 128, 2) := by decide +kernel
theorem d_Rd_takeWeight_26 : decode c_Rd_takeWeight 26 = .ok (.invokevirtual 118, 3) := by decide +kernel
theorem d_Rd_takeWeight_29 : decode c_Rd_takeWeight 29 = .ok (.ifCond .eq 11, 3) := by decide +kernel
theorem d_Rd_takeWeight_32 : decode c_Rd_takeWeight 32 = .ok (.aload_n 0, 1) := by decide +kernel
theorem d_Rd_takeWeight_33 : decode c_Rd_takeWeight 33 = .ok (.iconst 2, 1) := by decide +kernel
theorem d_Rd_takeWeight_34 : decode c_Rd_takeWeight 34 = .ok (.putfield 51, 3) := by decide +kernel
theorem d_Rd_takeWeight_37 : decode c_Rd_takeWeight 37 = .ok (.goto 5, 3) := by decide +kernel
theorem d_Rd_takeWeight_40 : decode c_Rd_takeWeight 40 = .ok (.iconst 0, 1) := by decide +kernel
theorem d_Rd_takeWeight_41 : decode c_Rd_takeWeight 41 = .ok (.ireturn, 1) := by decide +kernel
theorem d_Rd_takeWeight_42 : decode c_Rd_takeWeight 42 = .ok (.aload_n 0, 1) := by decide +kernel
theorem d_Rd_takeWeight_43 : decode c_Rd_takeWeight 43 = .ok (.iconst 2, 1) := by decide +kernel
theorem d_Rd_takeWeight_44 : decode c_Rd_takeWeight 44 = .ok (.putfield 38, 3) := by decide +kernel
theorem d_Rd_takeWeight_47 : decode c_Rd_takeWeight 47 = .ok (.iconst 1, 1) := by decide +kernel
theorem d_Rd_takeWeight_48 : decode c_Rd_takeWeight 48 = .ok (.ireturn, 1) := by decide +kernel
abbrev c_Rd_takeNot : ByteArray := prog_7_method_11_code
abbrev r_Rd_takeNot : Option FieldType := (some FieldType.boolean)
def y_Rd_takeNot : MethodName := ⟨"PinKindChecks$RuleReader", "takeNot", "()Z"⟩
theorem d_Rd_takeNot_0 : decode c_Rd_takeNot 0 = .ok (.aload_n 0, 1) := by decide +kernel
theorem d_Rd_takeNot_1 : decode c_Rd_takeNot 1 = .ok (.getfield 24, 3) := by decide +kernel
theorem d_Rd_takeNot_4 : decode c_Rd_takeNot 4 = .ok (.ldc 130, 2) := by decide +kernel
theorem d_Rd_takeNot_6 : decode c_Rd_takeNot 6 = .ok (.invokevirtual 118, 3) := by decide +kernel
theorem d_Rd_takeNot_9 : decode c_Rd_takeNot 9 = .ok (.ifCond .ne 5, 3) := by decide +kernel
theorem d_Rd_takeNot_12 : decode c_Rd_takeNot 12 = .ok (.iconst 0, 1) := by decide +kernel
theorem d_Rd_takeNot_13 : decode c_Rd_takeNot 13 = .ok (.ireturn, 1) := by decide +kernel
theorem d_Rd_takeNot_14 : decode c_Rd_takeNot 14 = .ok (.aload_n 0, 1) := by decide +kernel
theorem d_Rd_takeNot_15 : decode c_Rd_takeNot 15 = .ok (.iconst 3, 1) := by decide +kernel
theorem d_Rd_takeNot_16 : decode c_Rd_takeNot 16 = .ok (.invokevirtual 132, 3) := by decide +kernel
theorem d_Rd_takeNot_19 : decode c_Rd_takeNot 19 = .ok (.iconst 1, 1) := by decide +kernel
theorem d_Rd_takeNot_20 : decode c_Rd_takeNot 20 = .ok (.ireturn, 1) := by decide +kernel
abbrev c_Rd_putOff : ByteArray := prog_7_method_23_code
abbrev r_Rd_putOff : Option FieldType := none
def y_Rd_putOff : MethodName := ⟨"PinKindChecks$RuleReader", "putOff", "(I)V"⟩
theorem d_Rd_putOff_0 : decode c_Rd_putOff 0 = .ok (.aload_n 0, 1) := by decide +kernel
theorem d_Rd_putOff_1 : decode c_Rd_putOff 1 = .ok (.getfield 32, 3) := by decide +kernel
theorem d_Rd_putOff_4 : decode c_Rd_putOff 4 = .ok (.aload_n 0, 1) := by decide +kernel
theorem d_Rd_putOff_5 : decode c_Rd_putOff 5 = .ok (.getfield 18, 3) := by decide +kernel
theorem d_Rd_putOff_8 : decode c_Rd_putOff 8 = .ok (.arraylength, 1) := by decide +kernel
theorem d_Rd_putOff_9 : decode c_Rd_putOff 9 = .ok (.if_icmp .ge 23, 3) := by decide +kernel
theorem d_Rd_putOff_12 : decode c_Rd_putOff 12 = .ok (.aload_n 0, 1) := by decide +kernel
theorem d_Rd_putOff_13 : decode c_Rd_putOff 13 = .ok (.getfield 18, 3) := by decide +kernel
theorem d_Rd_putOff_16 : decode c_Rd_putOff 16 = .ok (.aload_n 0, 1) := by decide +kernel
theorem d_Rd_putOff_17 : decode c_Rd_putOff 17 = .ok (.getfield 32, 3) := by decide +kernel
theorem d_Rd_putOff_20 : decode c_Rd_putOff 20 = .ok (.iload_n 1, 1) := by decide +kernel
theorem d_Rd_putOff_21 : decode c_Rd_putOff 21 = .ok (.iastore, 1) := by decide +kernel
theorem d_Rd_putOff_22 : decode c_Rd_putOff 22 = .ok (.aload_n 0, 1) := by decide +kernel
theorem d_Rd_putOff_23 : decode c_Rd_putOff 23 = .ok (.dup, 1) := by decide +kernel
theorem d_Rd_putOff_24 : decode c_Rd_putOff 24 = .ok (.getfield 32, 3) := by decide +kernel
theorem d_Rd_putOff_27 : decode c_Rd_putOff 27 = .ok (.iconst 1, 1) := by decide +kernel
theorem d_Rd_putOff_28 : decode c_Rd_putOff 28 = .ok (.iadd, 1) := by decide +kernel
theorem d_Rd_putOff_29 : decode c_Rd_putOff 29 = .ok (.putfield 32, 3) := by decide +kernel
theorem d_Rd_putOff_32 : decode c_Rd_putOff 32 = .ok (.return_, 1) := by decide +kernel
abbrev c_Rd_takeOpening : ByteArray := prog_7_method_12_code
abbrev r_Rd_takeOpening : Option FieldType := (some FieldType.boolean)
def y_Rd_takeOpening : MethodName := ⟨"PinKindChecks$RuleReader", "takeOpening", "()Z"⟩
theorem d_Rd_takeOpening_0 : decode c_Rd_takeOpening 0 = .ok (.aload_n 0, 1) := by decide +kernel
theorem d_Rd_takeOpening_1 : decode c_Rd_takeOpening 1 = .ok (.getfield 24, 3) := by decide +kernel
theorem d_Rd_takeOpening_4 : decode c_Rd_takeOpening 4 = .ok (.ldc 135, 2) := by decide +kernel
theorem d_Rd_takeOpening_6 : decode c_Rd_takeOpening 6 = .ok (.invokevirtual 118, 3) := by decide +kernel
theorem d_Rd_takeOpening_9 : decode c_Rd_takeOpening 9 = .ok (.ifCond .eq 12, 3) := by decide +kernel
theorem d_Rd_takeOpening_12 : decode c_Rd_takeOpening 12 = .ok (.aload_n 0, 1) := by decide +kernel
theorem d_Rd_takeOpening_13 : decode c_Rd_takeOpening 13 = .ok (.getfield 41, 3) := by decide +kernel
theorem d_Rd_takeOpening_16 : decode c_Rd_takeOpening 16 = .ok (.bipush 8, 2) := by decide +kernel
theorem d_Rd_takeOpening_18 : decode c_Rd_takeOpening 18 = .ok (.if_icmp .lt 5, 3) := by decide +kernel
theorem d_Rd_takeOpening_21 : decode c_Rd_takeOpening 21 = .ok (.iconst 0, 1) := by decide +kernel
theorem d_Rd_takeOpening_22 : decode c_Rd_takeOpening 22 = .ok (.ireturn, 1) := by decide +kernel
theorem d_Rd_takeOpening_23 : decode c_Rd_takeOpening 23 = .ok (.aload_n 0, 1) := by decide +kernel
theorem d_Rd_takeOpening_24 : decode c_Rd_takeOpening 24 = .ok (.dup, 1) := by decide +kernel
theorem d_Rd_takeOpening_25 : decode c_Rd_takeOpening 25 = .ok (.getfield 41, 3) := by decide +kernel
theorem d_Rd_takeOpening_28 : decode c_Rd_takeOpening 28 = .ok (.iconst 1, 1) := by decide +kernel
theorem d_Rd_takeOpening_29 : decode c_Rd_takeOpening 29 = .ok (.iadd, 1) := by decide +kernel
theorem d_Rd_takeOpening_30 : decode c_Rd_takeOpening 30 = .ok (.putfield 41, 3) := by decide +kernel
theorem d_Rd_takeOpening_33 : decode c_Rd_takeOpening 33 = .ok (.aload_n 0, 1) := by decide +kernel
theorem d_Rd_takeOpening_34 : decode c_Rd_takeOpening 34 = .ok (.iconst 0, 1) := by decide +kernel
theorem d_Rd_takeOpening_35 : decode c_Rd_takeOpening 35 = .ok (.invokevirtual 132, 3) := by decide +kernel
theorem d_Rd_takeOpening_38 : decode c_Rd_takeOpening 38 = .ok (.iconst 1, 1) := by decide +kernel
theorem d_Rd_takeOpening_39 : decode c_Rd_takeOpening 39 = .ok (.ireturn, 1) := by decide +kernel
abbrev c_Rd_takeTerm : ByteArray := prog_7_method_14_code
abbrev r_Rd_takeTerm : Option FieldType := (some FieldType.boolean)
def y_Rd_takeTerm : MethodName := ⟨"PinKindChecks$RuleReader", "takeTerm", "()Z"⟩
theorem d_Rd_takeTerm_0 : decode c_Rd_takeTerm 0 = .ok (.aload_n 0, 1) := by decide +kernel
theorem d_Rd_takeTerm_1 : decode c_Rd_takeTerm 1 = .ok (.invokevirtual 142, 3) := by decide +kernel
theorem d_Rd_takeTerm_4 : decode c_Rd_takeTerm 4 = .ok (.ifCond .ne 10, 3) := by decide +kernel
theorem d_Rd_takeTerm_7 : decode c_Rd_takeTerm 7 = .ok (.aload_n 0, 1) := by decide +kernel
theorem d_Rd_takeTerm_8 : decode c_Rd_takeTerm 8 = .ok (.invokevirtual 145, 3) := by decide +kernel
theorem d_Rd_takeTerm_11 : decode c_Rd_takeTerm 11 = .ok (.ifCond .eq 5, 3) := by decide +kernel
theorem d_Rd_takeTerm_14 : decode c_Rd_takeTerm 14 = .ok (.iconst 1, 1) := by decide +kernel
theorem d_Rd_takeTerm_15 : decode c_Rd_takeTerm 15 = .ok (.ireturn, 1) := by decide +kernel
theorem d_Rd_takeTerm_16 : decode c_Rd_takeTerm 16 = .ok (.aload_n 0, 1) := by decide +kernel
theorem d_Rd_takeTerm_17 : decode c_Rd_takeTerm 17 = .ok (.getfield 48, 3) := by decide +kernel
theorem d_Rd_takeTerm_20 : decode c_Rd_takeTerm 20 = .ok (.iconst 2, 1) := by decide +kernel
theorem d_Rd_takeTerm_21 : decode c_Rd_takeTerm 21 = .ok (.if_icmp .eq 22, 3) := by decide +kernel
theorem d_Rd_takeTerm_24 : decode c_Rd_takeTerm 24 = .ok (.aload_n 0, 1) := by decide +kernel
theorem d_Rd_takeTerm_25 : decode c_Rd_takeTerm 25 = .ok (.getfield 24, 3) := by decide +kernel
theorem d_Rd_takeTerm_28 : decode c_Rd_takeTerm 28 = .ok (.ldc 148, 2) := by decide +kernel
theorem d_Rd_takeTerm_30 : decode c_Rd_takeTerm 30 = .ok (.invokevirtual 118, 3) := by decide +kernel
theorem d_Rd_takeTerm_33 : decode c_Rd_takeTerm 33 = .ok (.ifCond .eq 10, 3) := by decide +kernel
theorem d_Rd_takeTerm_36 : decode c_Rd_takeTerm 36 = .ok (.aload_n 0, 1) := by decide +kernel
theorem d_Rd_takeTerm_37 : decode c_Rd_takeTerm 37 = .ok (.iconst 4, 1) := by decide +kernel
theorem d_Rd_takeTerm_38 : decode c_Rd_takeTerm 38 = .ok (.putfield 38, 3) := by decide +kernel
theorem d_Rd_takeTerm_41 : decode c_Rd_takeTerm 41 = .ok (.iconst 1, 1) := by decide +kernel
theorem d_Rd_takeTerm_42 : decode c_Rd_takeTerm 42 = .ok (.ireturn, 1) := by decide +kernel
theorem d_Rd_takeTerm_43 : decode c_Rd_takeTerm 43 = .ok (.aload_n 0, 1) := by decide +kernel
theorem d_Rd_takeTerm_44 : decode c_Rd_takeTerm 44 = .ok (.invokevirtual 150, 3) := by decide +kernel
theorem d_Rd_takeTerm_47 : decode c_Rd_takeTerm 47 = .ok (.istore_n 1, 1) := by decide +kernel
theorem d_Rd_takeTerm_48 : decode c_Rd_takeTerm 48 = .ok (.iload_n 1, 1) := by decide +kernel
theorem d_Rd_takeTerm_49 : decode c_Rd_takeTerm 49 = .ok (.iconst (-1), 1) := by decide +kernel
theorem d_Rd_takeTerm_50 : decode c_Rd_takeTerm 50 = .ok (.if_icmp .eq 16, 3) := by decide +kernel
theorem d_Rd_takeTerm_53 : decode c_Rd_takeTerm 53 = .ok (.aload_n 0, 1) := by decide +kernel
theorem d_Rd_takeTerm_54 : decode c_Rd_takeTerm 54 = .ok (.iload_n 1, 1) := by decide +kernel
theorem d_Rd_takeTerm_55 : decode c_Rd_takeTerm 55 = .ok (.iconst 0, 1) := by decide +kernel
theorem d_Rd_takeTerm_56 : decode c_Rd_takeTerm 56 = .ok (.invokevirtual 154, 3) := by decide +kernel
theorem d_Rd_takeTerm_59 : decode c_Rd_takeTerm 59 = .ok (.ifCond .eq 7, 3) := by decide +kernel
theorem d_Rd_takeTerm_62 : decode c_Rd_takeTerm 62 = .ok (.iconst 1, 1) := by decide +kernel
theorem d_Rd_takeTerm_63 : decode c_Rd_takeTerm 63 = .ok (.goto 4, 3) := by decide +kernel
theorem d_Rd_takeTerm_66 : decode c_Rd_takeTerm 66 = .ok (.iconst 0, 1) := by decide +kernel
theorem d_Rd_takeTerm_67 : decode c_Rd_takeTerm 67 = .ok (.ireturn, 1) := by decide +kernel
abbrev c_Rd_takeNumber : ByteArray := prog_7_method_15_code
abbrev r_Rd_takeNumber : Option FieldType := (some FieldType.boolean)
def y_Rd_takeNumber : MethodName := ⟨"PinKindChecks$RuleReader", "takeNumber", "()Z"⟩
theorem d_Rd_takeNumber_0 : decode c_Rd_takeNumber 0 = .ok (.aload_n 0, 1) := by decide +kernel
theorem d_Rd_takeNumber_1 : decode c_Rd_takeNumber 1 = .ok (.getfield 24, 3) := by decide +kernel
theorem d_Rd_takeNumber_4 : decode c_Rd_takeNumber 4 = .ok (.invokevirtual 158, 3) := by decide +kernel
theorem d_Rd_takeNumber_7 : decode c_Rd_takeNumber 7 = .ok (.istore_n 1, 1) := by decide +kernel
theorem d_Rd_takeNumber_8 : decode c_Rd_takeNumber 8 = .ok (.iload_n 1, 1) := by decide +kernel
theorem d_Rd_takeNumber_9 : decode c_Rd_takeNumber 9 = .ok (.bipush 9, 2) := by decide +kernel
theorem d_Rd_takeNumber_11 : decode c_Rd_takeNumber 11 = .ok (.if_icmp .le 5, 3) := by decide +kernel
theorem d_Rd_takeNumber_14 : decode c_Rd_takeNumber 14 = .ok (.iconst 0, 1) := by decide +kernel
theorem d_Rd_takeNumber_15 : decode c_Rd_takeNumber 15 = .ok (.ireturn, 1) := by decide +kernel
theorem d_Rd_takeNumber_16 : decode c_Rd_takeNumber 16 = .ok (.iconst 0, 1) := by decide +kernel
theorem d_Rd_takeNumber_17 : decode c_Rd_takeNumber 17 = .ok (.istore_n 2, 1) := by decide +kernel
theorem d_Rd_takeNumber_18 : decode c_Rd_takeNumber 18 = .ok (.iconst 0, 1) := by decide +kernel
theorem d_Rd_takeNumber_19 : decode c_Rd_takeNumber 19 = .ok (.istore_n 3, 1) := by decide +kernel
theorem d_Rd_takeNumber_20 : decode c_Rd_takeNumber 20 = .ok (.iload_n 3, 1) := by decide +kernel
theorem d_Rd_takeNumber_21 : decode c_Rd_takeNumber 21 = .ok (.iload_n 1, 1) := by decide +kernel
theorem d_Rd_takeNumber_22 : decode c_Rd_takeNumber 22 = .ok (.if_icmp .ge 35, 3) := by decide +kernel
theorem d_Rd_takeNumber_25 : decode c_Rd_takeNumber 25 = .ok (.aload_n 0, 1) := by decide +kernel
theorem d_Rd_takeNumber_26 : decode c_Rd_takeNumber 26 = .ok (.getfield 24, 3) := by decide +kernel
theorem d_Rd_takeNumber_29 : decode c_Rd_takeNumber 29 = .ok (.iload_n 3, 1) := by decide +kernel
theorem d_Rd_takeNumber_30 : decode c_Rd_takeNumber 30 = .ok (.invokevirtual 161, 3) := by decide +kernel
theorem d_Rd_takeNumber_33 : decode c_Rd_takeNumber 33 = .ok (.istore 4, 2) := by decide +kernel
theorem d_Rd_takeNumber_35 : decode c_Rd_takeNumber 35 = .ok (.iload 4, 2) := by decide +kernel
theorem d_Rd_takeNumber_37 : decode c_Rd_takeNumber 37 = .ok (.iconst (-1), 1) := by decide +kernel
theorem d_Rd_takeNumber_38 : decode c_Rd_takeNumber 38 = .ok (.if_icmp .ne 5, 3) := by decide +kernel
theorem d_Rd_takeNumber_41 : decode c_Rd_takeNumber 41 = .ok (.iconst 0, 1) := by decide +kernel
theorem d_Rd_takeNumber_42 : decode c_Rd_takeNumber 42 = .ok (.ireturn, 1) := by decide +kernel
theorem d_Rd_takeNumber_43 : decode c_Rd_takeNumber 43 = .ok (.iload_n 2, 1) := by decide +kernel
theorem d_Rd_takeNumber_44 : decode c_Rd_takeNumber 44 = .ok (.bipush 10, 2) := by decide +kernel
theorem d_Rd_takeNumber_46 : decode c_Rd_takeNumber 46 = .ok (.imul, 1) := by decide +kernel
theorem d_Rd_takeNumber_47 : decode c_Rd_takeNumber 47 = .ok (.iload 4, 2) := by decide +kernel
theorem d_Rd_takeNumber_49 : decode c_Rd_takeNumber 49 = .ok (.iadd, 1) := by decide +kernel
theorem d_Rd_takeNumber_50 : decode c_Rd_takeNumber 50 = .ok (.istore_n 2, 1) := by decide +kernel
theorem d_Rd_takeNumber_51 : decode c_Rd_takeNumber 51 = .ok (.iinc 3 1, 3) := by decide +kernel
theorem d_Rd_takeNumber_54 : decode c_Rd_takeNumber 54 = .ok (.goto (-34), 3) := by decide +kernel
theorem d_Rd_takeNumber_57 : decode c_Rd_takeNumber 57 = .ok (.aload_n 0, 1) := by decide +kernel
theorem d_Rd_takeNumber_58 : decode c_Rd_takeNumber 58 = .ok (.bipush 13, 2) := by decide +kernel
theorem d_Rd_takeNumber_60 : decode c_Rd_takeNumber 60 = .ok (.iload_n 2, 1) := by decide +kernel
theorem d_Rd_takeNumber_61 : decode c_Rd_takeNumber 61 = .ok (.invokevirtual 154, 3) := by decide +kernel
theorem d_Rd_takeNumber_64 : decode c_Rd_takeNumber 64 = .ok (.ireturn, 1) := by decide +kernel
abbrev c_Rd_putTerm : ByteArray := prog_7_method_19_code
abbrev r_Rd_putTerm : Option FieldType := (some FieldType.boolean)
def y_Rd_putTerm : MethodName := ⟨"PinKindChecks$RuleReader", "putTerm", "(II)Z"⟩
theorem d_Rd_putTerm_0 : decode c_Rd_putTerm 0 = .ok (.aload_n 0, 1) := by decide +kernel
theorem d_Rd_putTerm_1 : decode c_Rd_putTerm 1 = .ok (.iload_n 1, 1) := by decide +kernel
theorem d_Rd_putTerm_2 : decode c_Rd_putTerm 2 = .ok (.iload_n 2, 1) := by decide +kernel
theorem d_Rd_putTerm_3 : decode c_Rd_putTerm 3 = .ok (.invokevirtual 180, 3) := by decide +kernel
theorem d_Rd_putTerm_6 : decode c_Rd_putTerm 6 = .ok (.aload_n 0, 1) := by decide +kernel
theorem d_Rd_putTerm_7 : decode c_Rd_putTerm 7 = .ok (.iconst 5, 1) := by decide +kernel
theorem d_Rd_putTerm_8 : decode c_Rd_putTerm 8 = .ok (.putfield 38, 3) := by decide +kernel
theorem d_Rd_putTerm_11 : decode c_Rd_putTerm 11 = .ok (.iconst 1, 1) := by decide +kernel
theorem d_Rd_putTerm_12 : decode c_Rd_putTerm 12 = .ok (.ireturn, 1) := by decide +kernel
abbrev c_Rd_putOut : ByteArray := prog_7_method_24_code
abbrev r_Rd_putOut : Option FieldType := none
def y_Rd_putOut : MethodName := ⟨"PinKindChecks$RuleReader", "putOut", "(II)V"⟩
theorem d_Rd_putOut_0 : decode c_Rd_putOut 0 = .ok (.aload_n 0, 1) := by decide +kernel
theorem d_Rd_putOut_1 : decode c_Rd_putOut 1 = .ok (.getfield 28, 3) := by decide +kernel
theorem d_Rd_putOut_4 : decode c_Rd_putOut 4 = .ok (.aload_n 0, 1) := by decide +kernel
theorem d_Rd_putOut_5 : decode c_Rd_putOut 5 = .ok (.getfield 9, 3) := by decide +kernel
theorem d_Rd_putOut_8 : decode c_Rd_putOut 8 = .ok (.arraylength, 1) := by decide +kernel
theorem d_Rd_putOut_9 : decode c_Rd_putOut 9 = .ok (.if_icmp .ge 45, 3) := by decide +kernel
theorem d_Rd_putOut_12 : decode c_Rd_putOut 12 = .ok (.aload_n 0, 1) := by decide +kernel
theorem d_Rd_putOut_13 : decode c_Rd_putOut 13 = .ok (.getfield 28, 3) := by decide +kernel
theorem d_Rd_putOut_16 : decode c_Rd_putOut 16 = .ok (.aload_n 0, 1) := by decide +kernel
theorem d_Rd_putOut_17 : decode c_Rd_putOut 17 = .ok (.getfield 15, 3) := by decide +kernel
theorem d_Rd_putOut_20 : decode c_Rd_putOut 20 = .ok (.arraylength, 1) := by decide +kernel
theorem d_Rd_putOut_21 : decode c_Rd_putOut 21 = .ok (.if_icmp .ge 33, 3) := by decide +kernel
theorem d_Rd_putOut_24 : decode c_Rd_putOut 24 = .ok (.aload_n 0, 1) := by decide +kernel
theorem d_Rd_putOut_25 : decode c_Rd_putOut 25 = .ok (.getfield 9, 3) := by decide +kernel
theorem d_Rd_putOut_28 : decode c_Rd_putOut 28 = .ok (.aload_n 0, 1) := by decide +kernel
theorem d_Rd_putOut_29 : decode c_Rd_putOut 29 = .ok (.getfield 28, 3) := by decide +kernel
theorem d_Rd_putOut_32 : decode c_Rd_putOut 32 = .ok (.iload_n 1, 1) := by decide +kernel
theorem d_Rd_putOut_33 : decode c_Rd_putOut 33 = .ok (.iastore, 1) := by decide +kernel
theorem d_Rd_putOut_34 : decode c_Rd_putOut 34 = .ok (.aload_n 0, 1) := by decide +kernel
theorem d_Rd_putOut_35 : decode c_Rd_putOut 35 = .ok (.getfield 15, 3) := by decide +kernel
theorem d_Rd_putOut_38 : decode c_Rd_putOut 38 = .ok (.aload_n 0, 1) := by decide +kernel
theorem d_Rd_putOut_39 : decode c_Rd_putOut 39 = .ok (.getfield 28, 3) := by decide +kernel
theorem d_Rd_putOut_42 : decode c_Rd_putOut 42 = .ok (.iload_n 2, 1) := by decide +kernel
theorem d_Rd_putOut_43 : decode c_Rd_putOut 43 = .ok (.iastore, 1) := by decide +kernel
theorem d_Rd_putOut_44 : decode c_Rd_putOut 44 = .ok (.aload_n 0, 1) := by decide +kernel
theorem d_Rd_putOut_45 : decode c_Rd_putOut 45 = .ok (.dup, 1) := by decide +kernel
theorem d_Rd_putOut_46 : decode c_Rd_putOut 46 = .ok (.getfield 28, 3) := by decide +kernel
theorem d_Rd_putOut_49 : decode c_Rd_putOut 49 = .ok (.iconst 1, 1) := by decide +kernel
theorem d_Rd_putOut_50 : decode c_Rd_putOut 50 = .ok (.iadd, 1) := by decide +kernel
theorem d_Rd_putOut_51 : decode c_Rd_putOut 51 = .ok (.putfield 28, 3) := by decide +kernel
theorem d_Rd_putOut_54 : decode c_Rd_putOut 54 = .ok (.return_, 1) := by decide +kernel
abbrev c_Rd_takeField : ByteArray := prog_7_method_16_code
abbrev r_Rd_takeField : Option FieldType := (some FieldType.boolean)
def y_Rd_takeField : MethodName := ⟨"PinKindChecks$RuleReader", "takeField", "()Z"⟩
theorem d_Rd_takeField_0 : decode c_Rd_takeField 0 = .ok (.aload_n 0, 1) := by decide +kernel
theorem d_Rd_takeField_1 : decode c_Rd_takeField 1 = .ok (.getfield 48, 3) := by decide +kernel
theorem d_Rd_takeField_4 : decode c_Rd_takeField 4 = .ok (.iconst 1, 1) := by decide +kernel
theorem d_Rd_takeField_5 : decode c_Rd_takeField 5 = .ok (.if_icmp .eq 27, 3) := by decide +kernel
theorem d_Rd_takeField_8 : decode c_Rd_takeField 8 = .ok (.aload_n 0, 1) := by decide +kernel
theorem d_Rd_takeField_9 : decode c_Rd_takeField 9 = .ok (.getfield 24, 3) := by decide +kernel
theorem d_Rd_takeField_12 : decode c_Rd_takeField 12 = .ok (.invokevirtual 158, 3) := by decide +kernel
theorem d_Rd_takeField_15 : decode c_Rd_takeField 15 = .ok (.iconst 2, 1) := by decide +kernel
theorem d_Rd_takeField_16 : decode c_Rd_takeField 16 = .ok (.if_icmp .ne 16, 3) := by decide +kernel
theorem d_Rd_takeField_19 : decode c_Rd_takeField 19 = .ok (.aload_n 0, 1) := by decide +kernel
theorem d_Rd_takeField_20 : decode c_Rd_takeField 20 = .ok (.getfield 24, 3) := by decide +kernel
theorem d_Rd_takeField_23 : decode c_Rd_takeField 23 = .ok (.iconst 0, 1) := by decide +kernel
theorem d_Rd_takeField_24 : decode c_Rd_takeField 24 = .ok (.invokevirtual 165, 3) := by decide +kernel
theorem d_Rd_takeField_27 : decode c_Rd_takeField 27 = .ok (.bipush 102, 2) := by decide +kernel
theorem d_Rd_takeField_29 : decode c_Rd_takeField 29 = .ok (.if_icmp .eq 5, 3) := by decide +kernel
theorem d_Rd_takeField_32 : decode c_Rd_takeField 32 = .ok (.iconst 0, 1) := by decide +kernel
theorem d_Rd_takeField_33 : decode c_Rd_takeField 33 = .ok (.ireturn, 1) := by decide +kernel
theorem d_Rd_takeField_34 : decode c_Rd_takeField 34 = .ok (.aload_n 0, 1) := by decide +kernel
theorem d_Rd_takeField_35 : decode c_Rd_takeField 35 = .ok (.getfield 24, 3) := by decide +kernel
theorem d_Rd_takeField_38 : decode c_Rd_takeField 38 = .ok (.iconst 1, 1) := by decide +kernel
theorem d_Rd_takeField_39 : decode c_Rd_takeField 39 = .ok (.invokevirtual 161, 3) := by decide +kernel
theorem d_Rd_takeField_42 : decode c_Rd_takeField 42 = .ok (.istore_n 1, 1) := by decide +kernel
theorem d_Rd_takeField_43 : decode c_Rd_takeField 43 = .ok (.iload_n 1, 1) := by decide +kernel
theorem d_Rd_takeField_44 : decode c_Rd_takeField 44 = .ok (.bipush 8, 2) := by decide +kernel
theorem d_Rd_takeField_46 : decode c_Rd_takeField 46 = .ok (.invokestatic 169, 3) := by decide +kernel
theorem d_Rd_takeField_49 : decode c_Rd_takeField 49 = .ok (.ifCond .eq 17, 3) := by decide +kernel
theorem d_Rd_takeField_52 : decode c_Rd_takeField 52 = .ok (.aload_n 0, 1) := by decide +kernel
theorem d_Rd_takeField_53 : decode c_Rd_takeField 53 = .ok (.bipush 14, 2) := by decide +kernel
theorem d_Rd_takeField_55 : decode c_Rd_takeField 55 = .ok (.iload_n 1, 1) := by decide +kernel
theorem d_Rd_takeField_56 : decode c_Rd_takeField 56 = .ok (.invokevirtual 154, 3) := by decide +kernel
theorem d_Rd_takeField_59 : decode c_Rd_takeField 59 = .ok (.ifCond .eq 7, 3) := by decide +kernel
theorem d_Rd_takeField_62 : decode c_Rd_takeField 62 = .ok (.iconst 1, 1) := by decide +kernel
theorem d_Rd_takeField_63 : decode c_Rd_takeField 63 = .ok (.goto 4, 3) := by decide +kernel
theorem d_Rd_takeField_66 : decode c_Rd_takeField 66 = .ok (.iconst 0, 1) := by decide +kernel
theorem d_Rd_takeField_67 : decode c_Rd_takeField 67 = .ok (.ireturn, 1) := by decide +kernel
abbrev c_Rd_plainTerm : ByteArray := prog_7_method_18_code
abbrev r_Rd_plainTerm : Option FieldType := (some FieldType.int)
def y_Rd_plainTerm : MethodName := ⟨"PinKindChecks$RuleReader", "plainTerm", "()I"⟩
theorem d_Rd_plainTerm_0 : decode c_Rd_plainTerm 0 = .ok (.aload_n 0, 1) := by decide +kernel
theorem d_Rd_plainTerm_1 : decode c_Rd_plainTerm 1 = .ok (.getfield 24, 3) := by decide +kernel
theorem d_Rd_plainTerm_4 : decode c_Rd_plainTerm 4 = .ok (.ldc 172, 2) := by decide +kernel
theorem d_Rd_plainTerm_6 : decode c_Rd_plainTerm 6 = .ok (.invokevirtual 118, 3) := by decide +kernel
theorem d_Rd_plainTerm_9 : decode c_Rd_plainTerm 9 = .ok (.ifCond .eq 6, 3) := by decide +kernel
theorem d_Rd_plainTerm_12 : decode c_Rd_plainTerm 12 = .ok (.bipush 18, 2) := by decide +kernel
theorem d_Rd_plainTerm_14 : decode c_Rd_plainTerm 14 = .ok (.ireturn, 1) := by decide +kernel
theorem d_Rd_plainTerm_15 : decode c_Rd_plainTerm 15 = .ok (.aload_n 0, 1) := by decide +kernel
theorem d_Rd_plainTerm_16 : decode c_Rd_plainTerm 16 = .ok (.getfield 48, 3) := by decide +kernel
theorem d_Rd_plainTerm_19 : decode c_Rd_plainTerm 19 = .ok (.iconst 2, 1) := by decide +kernel
theorem d_Rd_plainTerm_20 : decode c_Rd_plainTerm 20 = .ok (.if_icmp .eq 18, 3) := by decide +kernel
theorem d_Rd_plainTerm_23 : decode c_Rd_plainTerm 23 = .ok (.aload_n 0, 1) := by decide +kernel
theorem d_Rd_plainTerm_24 : decode c_Rd_plainTerm 24 = .ok (.getfield 24, 3) := by decide +kernel
theorem d_Rd_plainTerm_27 : decode c_Rd_plainTerm 27 = .ok (.ldc 174, 2) := by decide +kernel
theorem d_Rd_plainTerm_29 : decode c_Rd_plainTerm 29 = .ok (.invokevirtual 118, 3) := by decide +kernel
theorem d_Rd_plainTerm_32 : decode c_Rd_plainTerm 32 = .ok (.ifCond .eq 6, 3) := by decide +kernel
theorem d_Rd_plainTerm_35 : decode c_Rd_plainTerm 35 = .ok (.bipush 15, 2) := by decide +kernel
theorem d_Rd_plainTerm_37 : decode c_Rd_plainTerm 37 = .ok (.ireturn, 1) := by decide +kernel
theorem d_Rd_plainTerm_38 : decode c_Rd_plainTerm 38 = .ok (.aload_n 0, 1) := by decide +kernel
theorem d_Rd_plainTerm_39 : decode c_Rd_plainTerm 39 = .ok (.getfield 48, 3) := by decide +kernel
theorem d_Rd_plainTerm_42 : decode c_Rd_plainTerm 42 = .ok (.iconst 2, 1) := by decide +kernel
theorem d_Rd_plainTerm_43 : decode c_Rd_plainTerm 43 = .ok (.if_icmp .ne 18, 3) := by decide +kernel
theorem d_Rd_plainTerm_46 : decode c_Rd_plainTerm 46 = .ok (.aload_n 0, 1) := by decide +kernel
theorem d_Rd_plainTerm_47 : decode c_Rd_plainTerm 47 = .ok (.getfield 24, 3) := by decide +kernel
theorem d_Rd_plainTerm_50 : decode c_Rd_plainTerm 50 = .ok (.ldc 176, 2) := by decide +kernel
theorem d_Rd_plainTerm_52 : decode c_Rd_plainTerm 52 = .ok (.invokevirtual 118, 3) := by decide +kernel
theorem d_Rd_plainTerm_55 : decode c_Rd_plainTerm 55 = .ok (.ifCond .eq 6, 3) := by decide +kernel
theorem d_Rd_plainTerm_58 : decode c_Rd_plainTerm 58 = .ok (.bipush 16, 2) := by decide +kernel
theorem d_Rd_plainTerm_60 : decode c_Rd_plainTerm 60 = .ok (.ireturn, 1) := by decide +kernel
theorem d_Rd_plainTerm_61 : decode c_Rd_plainTerm 61 = .ok (.aload_n 0, 1) := by decide +kernel
theorem d_Rd_plainTerm_62 : decode c_Rd_plainTerm 62 = .ok (.getfield 48, 3) := by decide +kernel
theorem d_Rd_plainTerm_65 : decode c_Rd_plainTerm 65 = .ok (.ifCond .eq 20, 3) := by decide +kernel
theorem d_Rd_plainTerm_68 : decode c_Rd_plainTerm 68 = .ok (.aload_n 0, 1) := by decide +kernel
theorem d_Rd_plainTerm_69 : decode c_Rd_plainTerm 69 = .ok (.getfield 24, 3) := by decide +kernel
theorem d_Rd_plainTerm_72 : decode c_Rd_plainTerm 72 = .ok (.ldc 178, 2) := by decide +kernel
theorem d_Rd_plainTerm_74 : decode c_Rd_plainTerm 74 = .ok (.invokevirtual 118, 3) := by decide +kernel
theorem d_Rd_plainTerm_77 : decode c_Rd_plainTerm 77 = .ok (.ifCond .eq 8, 3) := by decide +kernel
theorem d_Rd_plainTerm_80 : decode c_Rd_plainTerm 80 = .ok (.bipush 17, 2) := by decide +kernel
theorem d_Rd_plainTerm_82 : decode c_Rd_plainTerm 82 = .ok (.goto 4, 3) := by decide +kernel
theorem d_Rd_plainTerm_85 : decode c_Rd_plainTerm 85 = .ok (.iconst (-1), 1) := by decide +kernel
theorem d_Rd_plainTerm_86 : decode c_Rd_plainTerm 86 = .ok (.ireturn, 1) := by decide +kernel
abbrev c_Rd_takeKind : ByteArray := prog_7_method_17_code
abbrev r_Rd_takeKind : Option FieldType := (some FieldType.boolean)
def y_Rd_takeKind : MethodName := ⟨"PinKindChecks$RuleReader", "takeKind", "()Z"⟩
theorem d_Rd_takeKind_0 : decode c_Rd_takeKind 0 = .ok (.aload_n 0, 1) := by decide +kernel
theorem d_Rd_takeKind_1 : decode c_Rd_takeKind 1 = .ok (.getfield 24, 3) := by decide +kernel
theorem d_Rd_takeKind_4 : decode c_Rd_takeKind 4 = .ok (.iconst 0, 1) := by decide +kernel
theorem d_Rd_takeKind_5 : decode c_Rd_takeKind 5 = .ok (.invokevirtual 161, 3) := by decide +kernel
theorem d_Rd_takeKind_8 : decode c_Rd_takeKind 8 = .ok (.istore_n 1, 1) := by decide +kernel
theorem d_Rd_takeKind_9 : decode c_Rd_takeKind 9 = .ok (.aload_n 0, 1) := by decide +kernel
theorem d_Rd_takeKind_10 : decode c_Rd_takeKind 10 = .ok (.getfield 24, 3) := by decide +kernel
theorem d_Rd_takeKind_13 : decode c_Rd_takeKind 13 = .ok (.invokevirtual 158, 3) := by decide +kernel
theorem d_Rd_takeKind_16 : decode c_Rd_takeKind 16 = .ok (.iconst 1, 1) := by decide +kernel
theorem d_Rd_takeKind_17 : decode c_Rd_takeKind 17 = .ok (.if_icmp .ne 22, 3) := by decide +kernel
theorem d_Rd_takeKind_20 : decode c_Rd_takeKind 20 = .ok (.iload_n 1, 1) := by decide +kernel
theorem d_Rd_takeKind_21 : decode c_Rd_takeKind 21 = .ok (.iconst (-1), 1) := by decide +kernel
theorem d_Rd_takeKind_22 : decode c_Rd_takeKind 22 = .ok (.if_icmp .eq 17, 3) := by decide +kernel
theorem d_Rd_takeKind_25 : decode c_Rd_takeKind 25 = .ok (.aload_n 0, 1) := by decide +kernel
theorem d_Rd_takeKind_26 : decode c_Rd_takeKind 26 = .ok (.bipush 19, 2) := by decide +kernel
theorem d_Rd_takeKind_28 : decode c_Rd_takeKind 28 = .ok (.iload_n 1, 1) := by decide +kernel
theorem d_Rd_takeKind_29 : decode c_Rd_takeKind 29 = .ok (.invokevirtual 154, 3) := by decide +kernel
theorem d_Rd_takeKind_32 : decode c_Rd_takeKind 32 = .ok (.ifCond .eq 7, 3) := by decide +kernel
theorem d_Rd_takeKind_35 : decode c_Rd_takeKind 35 = .ok (.iconst 1, 1) := by decide +kernel
theorem d_Rd_takeKind_36 : decode c_Rd_takeKind 36 = .ok (.goto 4, 3) := by decide +kernel
theorem d_Rd_takeKind_39 : decode c_Rd_takeKind 39 = .ok (.iconst 0, 1) := by decide +kernel
theorem d_Rd_takeKind_40 : decode c_Rd_takeKind 40 = .ok (.ireturn, 1) := by decide +kernel
abbrev c_Rd_takeOperator : ByteArray := prog_7_method_20_code
abbrev r_Rd_takeOperator : Option FieldType := (some FieldType.boolean)
def y_Rd_takeOperator : MethodName := ⟨"PinKindChecks$RuleReader", "takeOperator", "()Z"⟩
theorem d_Rd_takeOperator_0 : decode c_Rd_takeOperator 0 = .ok (.aload_n 0, 1) := by decide +kernel
theorem d_Rd_takeOperator_1 : decode c_Rd_takeOperator 1 = .ok (.invokevirtual 184, 3) := by decide +kernel
theorem d_Rd_takeOperator_4 : decode c_Rd_takeOperator 4 = .ok (.istore_n 1, 1) := by decide +kernel
theorem d_Rd_takeOperator_5 : decode c_Rd_takeOperator 5 = .ok (.iload_n 1, 1) := by decide +kernel
theorem d_Rd_takeOperator_6 : decode c_Rd_takeOperator 6 = .ok (.invokestatic 187, 3) := by decide +kernel
theorem d_Rd_takeOperator_9 : decode c_Rd_takeOperator 9 = .ok (.ifCond .eq 23, 3) := by decide +kernel
theorem d_Rd_takeOperator_12 : decode c_Rd_takeOperator 12 = .ok (.aload_n 0, 1) := by decide +kernel
theorem d_Rd_takeOperator_13 : decode c_Rd_takeOperator 13 = .ok (.invokevirtual 71, 3) := by decide +kernel
theorem d_Rd_takeOperator_16 : decode c_Rd_takeOperator 16 = .ok (.ifCond .eq 16, 3) := by decide +kernel
theorem d_Rd_takeOperator_19 : decode c_Rd_takeOperator 19 = .ok (.aload_n 0, 1) := by decide +kernel
theorem d_Rd_takeOperator_20 : decode c_Rd_takeOperator 20 = .ok (.iconst 0, 1) := by decide +kernel
theorem d_Rd_takeOperator_21 : decode c_Rd_takeOperator 21 = .ok (.putfield 44, 3) := by decide +kernel
theorem d_Rd_takeOperator_24 : decode c_Rd_takeOperator 24 = .ok (.aload_n 0, 1) := by decide +kernel
theorem d_Rd_takeOperator_25 : decode c_Rd_takeOperator 25 = .ok (.iconst 2, 1) := by decide +kernel
theorem d_Rd_takeOperator_26 : decode c_Rd_takeOperator 26 = .ok (.putfield 38, 3) := by decide +kernel
theorem d_Rd_takeOperator_29 : decode c_Rd_takeOperator 29 = .ok (.goto 63, 3) := by decide +kernel
theorem d_Rd_takeOperator_32 : decode c_Rd_takeOperator 32 = .ok (.iload_n 1, 1) := by decide +kernel
theorem d_Rd_takeOperator_33 : decode c_Rd_takeOperator 33 = .ok (.invokestatic 190, 3) := by decide +kernel
theorem d_Rd_takeOperator_36 : decode c_Rd_takeOperator 36 = .ok (.ifCond .eq 31, 3) := by decide +kernel
theorem d_Rd_takeOperator_39 : decode c_Rd_takeOperator 39 = .ok (.aload_n 0, 1) := by decide +kernel
theorem d_Rd_takeOperator_40 : decode c_Rd_takeOperator 40 = .ok (.getfield 38, 3) := by decide +kernel
theorem d_Rd_takeOperator_43 : decode c_Rd_takeOperator 43 = .ok (.iconst 5, 1) := by decide +kernel
theorem d_Rd_takeOperator_44 : decode c_Rd_takeOperator 44 = .ok (.if_icmp .ne 23, 3) := by decide +kernel
theorem d_Rd_takeOperator_47 : decode c_Rd_takeOperator 47 = .ok (.aload_n 0, 1) := by decide +kernel
theorem d_Rd_takeOperator_48 : decode c_Rd_takeOperator 48 = .ok (.getfield 44, 3) := by decide +kernel
theorem d_Rd_takeOperator_51 : decode c_Rd_takeOperator 51 = .ok (.ifCond .ne 16, 3) := by decide +kernel
theorem d_Rd_takeOperator_54 : decode c_Rd_takeOperator 54 = .ok (.aload_n 0, 1) := by decide +kernel
theorem d_Rd_takeOperator_55 : decode c_Rd_takeOperator 55 = .ok (.iconst 1, 1) := by decide +kernel
theorem d_Rd_takeOperator_56 : decode c_Rd_takeOperator 56 = .ok (.putfield 44, 3) := by decide +kernel
theorem d_Rd_takeOperator_59 : decode c_Rd_takeOperator 59 = .ok (.aload_n 0, 1) := by decide +kernel
theorem d_Rd_takeOperator_60 : decode c_Rd_takeOperator 60 = .ok (.iconst 3, 1) := by decide +kernel
theorem d_Rd_takeOperator_61 : decode c_Rd_takeOperator 61 = .ok (.putfield 38, 3) := by decide +kernel
theorem d_Rd_takeOperator_64 : decode c_Rd_takeOperator 64 = .ok (.goto 28, 3) := by decide +kernel
theorem d_Rd_takeOperator_67 : decode c_Rd_takeOperator 67 = .ok (.iload_n 1, 1) := by decide +kernel
theorem d_Rd_takeOperator_68 : decode c_Rd_takeOperator 68 = .ok (.invokestatic 193, 3) := by decide +kernel
theorem d_Rd_takeOperator_71 : decode c_Rd_takeOperator 71 = .ok (.ifCond .eq 19, 3) := by decide +kernel
theorem d_Rd_takeOperator_74 : decode c_Rd_takeOperator 74 = .ok (.aload_n 0, 1) := by decide +kernel
theorem d_Rd_takeOperator_75 : decode c_Rd_takeOperator 75 = .ok (.getfield 38, 3) := by decide +kernel
theorem d_Rd_takeOperator_78 : decode c_Rd_takeOperator 78 = .ok (.iconst 5, 1) := by decide +kernel
theorem d_Rd_takeOperator_79 : decode c_Rd_takeOperator 79 = .ok (.if_icmp .ne 11, 3) := by decide +kernel
theorem d_Rd_takeOperator_82 : decode c_Rd_takeOperator 82 = .ok (.aload_n 0, 1) := by decide +kernel
theorem d_Rd_takeOperator_83 : decode c_Rd_takeOperator 83 = .ok (.iconst 3, 1) := by decide +kernel
theorem d_Rd_takeOperator_84 : decode c_Rd_takeOperator 84 = .ok (.putfield 38, 3) := by decide +kernel
theorem d_Rd_takeOperator_87 : decode c_Rd_takeOperator 87 = .ok (.goto 5, 3) := by decide +kernel
theorem d_Rd_takeOperator_90 : decode c_Rd_takeOperator 90 = .ok (.iconst 0, 1) := by decide +kernel
theorem d_Rd_takeOperator_91 : decode c_Rd_takeOperator 91 = .ok (.ireturn, 1) := by decide +kernel
theorem d_Rd_takeOperator_92 : decode c_Rd_takeOperator 92 = .ok (.aload_n 0, 1) := by decide +kernel
theorem d_Rd_takeOperator_93 : decode c_Rd_takeOperator 93 = .ok (.iload_n 1, 1) := by decide +kernel
theorem d_Rd_takeOperator_94 : decode c_Rd_takeOperator 94 = .ok (.invokevirtual 76, 3) := by decide +kernel
theorem d_Rd_takeOperator_97 : decode c_Rd_takeOperator 97 = .ok (.aload_n 0, 1) := by decide +kernel
theorem d_Rd_takeOperator_98 : decode c_Rd_takeOperator 98 = .ok (.iload_n 1, 1) := by decide +kernel
theorem d_Rd_takeOperator_99 : decode c_Rd_takeOperator 99 = .ok (.invokevirtual 132, 3) := by decide +kernel
theorem d_Rd_takeOperator_102 : decode c_Rd_takeOperator 102 = .ok (.iconst 1, 1) := by decide +kernel
theorem d_Rd_takeOperator_103 : decode c_Rd_takeOperator 103 = .ok (.ireturn, 1) := by decide +kernel
abbrev c_Rd_operatorOfWord : ByteArray := prog_7_method_21_code
abbrev r_Rd_operatorOfWord : Option FieldType := (some FieldType.int)
def y_Rd_operatorOfWord : MethodName := ⟨"PinKindChecks$RuleReader", "operatorOfWord", "()I"⟩
theorem d_Rd_operatorOfWord_0 : decode c_Rd_operatorOfWord 0 = .ok (.aload_n 0, 1) := by decide +kernel
theorem d_Rd_operatorOfWord_1 : decode c_Rd_operatorOfWord 1 = .ok (.getfield 24, 3) := by decide +kernel
theorem d_Rd_operatorOfWord_4 : decode c_Rd_operatorOfWord 4 = .ok (.invokevirtual 158, 3) := by decide +kernel
theorem d_Rd_operatorOfWord_7 : decode c_Rd_operatorOfWord 7 = .ok (.iconst 1, 1) := by decide +kernel
theorem d_Rd_operatorOfWord_8 : decode c_Rd_operatorOfWord 8 = .ok (.if_icmp .ne 15, 3) := by decide +kernel
theorem d_Rd_operatorOfWord_11 : decode c_Rd_operatorOfWord 11 = .ok (.aload_n 0, 1) := by decide +kernel
theorem d_Rd_operatorOfWord_12 : decode c_Rd_operatorOfWord 12 = .ok (.getfield 24, 3) := by decide +kernel
theorem d_Rd_operatorOfWord_15 : decode c_Rd_operatorOfWord 15 = .ok (.iconst 0, 1) := by decide +kernel
theorem d_Rd_operatorOfWord_16 : decode c_Rd_operatorOfWord 16 = .ok (.invokevirtual 165, 3) := by decide +kernel
theorem d_Rd_operatorOfWord_19 : decode c_Rd_operatorOfWord 19 = .ok (.invokestatic 196, 3) := by decide +kernel
theorem d_Rd_operatorOfWord_22 : decode c_Rd_operatorOfWord 22 = .ok (.ireturn, 1) := by decide +kernel
theorem d_Rd_operatorOfWord_23 : decode c_Rd_operatorOfWord 23 = .ok (.aload_n 0, 1) := by decide +kernel
theorem d_Rd_operatorOfWord_24 : decode c_Rd_operatorOfWord 24 = .ok (.getfield 24, 3) := by decide +kernel
theorem d_Rd_operatorOfWord_27 : decode c_Rd_operatorOfWord 27 = .ok (.ldc 200, 2) := by decide +kernel
theorem d_Rd_operatorOfWord_29 : decode c_Rd_operatorOfWord 29 = .ok (.invokevirtual 118, 3) := by decide +kernel
theorem d_Rd_operatorOfWord_32 : decode c_Rd_operatorOfWord 32 = .ok (.ifCond .eq 5, 3) := by decide +kernel
theorem d_Rd_operatorOfWord_35 : decode c_Rd_operatorOfWord 35 = .ok (.iconst 1, 1) := by decide +kernel
theorem d_Rd_operatorOfWord_36 : decode c_Rd_operatorOfWord 36 = .ok (.ireturn, 1) := by decide +kernel
theorem d_Rd_operatorOfWord_37 : decode c_Rd_operatorOfWord 37 = .ok (.aload_n 0, 1) := by decide +kernel
theorem d_Rd_operatorOfWord_38 : decode c_Rd_operatorOfWord 38 = .ok (.getfield 24, 3) := by decide +kernel
theorem d_Rd_operatorOfWord_41 : decode c_Rd_operatorOfWord 41 = .ok (.ldc 202, 2) := by decide +kernel
theorem d_Rd_operatorOfWord_43 : decode c_Rd_operatorOfWord 43 = .ok (.invokevirtual 118, 3) := by decide +kernel
theorem d_Rd_operatorOfWord_46 : decode c_Rd_operatorOfWord 46 = .ok (.ifCond .eq 5, 3) := by decide +kernel
theorem d_Rd_operatorOfWord_49 : decode c_Rd_operatorOfWord 49 = .ok (.iconst 2, 1) := by decide +kernel
theorem d_Rd_operatorOfWord_50 : decode c_Rd_operatorOfWord 50 = .ok (.ireturn, 1) := by decide +kernel
theorem d_Rd_operatorOfWord_51 : decode c_Rd_operatorOfWord 51 = .ok (.aload_n 0, 1) := by decide +kernel
theorem d_Rd_operatorOfWord_52 : decode c_Rd_operatorOfWord 52 = .ok (.getfield 24, 3) := by decide +kernel
theorem d_Rd_operatorOfWord_55 : decode c_Rd_operatorOfWord 55 = .ok (.ldc 204, 2) := by decide +kernel
theorem d_Rd_operatorOfWord_57 : decode c_Rd_operatorOfWord 57 = .ok (.invokevirtual 118, 3) := by decide +kernel
theorem d_Rd_operatorOfWord_60 : decode c_Rd_operatorOfWord 60 = .ok (.ifCond .eq 6, 3) := by decide +kernel
theorem d_Rd_operatorOfWord_63 : decode c_Rd_operatorOfWord 63 = .ok (.bipush 8, 2) := by decide +kernel
theorem d_Rd_operatorOfWord_65 : decode c_Rd_operatorOfWord 65 = .ok (.ireturn, 1) := by decide +kernel
theorem d_Rd_operatorOfWord_66 : decode c_Rd_operatorOfWord 66 = .ok (.aload_n 0, 1) := by decide +kernel
theorem d_Rd_operatorOfWord_67 : decode c_Rd_operatorOfWord 67 = .ok (.getfield 24, 3) := by decide +kernel
theorem d_Rd_operatorOfWord_70 : decode c_Rd_operatorOfWord 70 = .ok (.ldc 206, 2) := by decide +kernel
theorem d_Rd_operatorOfWord_72 : decode c_Rd_operatorOfWord 72 = .ok (.invokevirtual 118, 3) := by decide +kernel
theorem d_Rd_operatorOfWord_75 : decode c_Rd_operatorOfWord 75 = .ok (.ifCond .eq 8, 3) := by decide +kernel
theorem d_Rd_operatorOfWord_78 : decode c_Rd_operatorOfWord 78 = .ok (.bipush 9, 2) := by decide +kernel
theorem d_Rd_operatorOfWord_80 : decode c_Rd_operatorOfWord 80 = .ok (.goto 4, 3) := by decide +kernel
theorem d_Rd_operatorOfWord_83 : decode c_Rd_operatorOfWord 83 = .ok (.iconst (-1), 1) := by decide +kernel
theorem d_Rd_operatorOfWord_84 : decode c_Rd_operatorOfWord 84 = .ok (.ireturn, 1) := by decide +kernel
abbrev c_Rd_operatorOfLetter : ByteArray := prog_7_method_22_code
abbrev r_Rd_operatorOfLetter : Option FieldType := (some FieldType.int)
def y_Rd_operatorOfLetter : MethodName := ⟨"PinKindChecks$RuleReader", "operatorOfLetter", "(C)I"⟩
theorem d_Rd_operatorOfLetter_0 : decode c_Rd_operatorOfLetter 0 = .ok (.iload_n 0, 1) := by decide +kernel
theorem d_Rd_operatorOfLetter_1 : decode c_Rd_operatorOfLetter 1 = .ok (.lookupswitch 86 #[(35, 69), (42, 83), (43, 77), (45, 80), (60, 71), (61, 67), (62, 74)], 67) := by decide +kernel
theorem d_Rd_operatorOfLetter_68 : decode c_Rd_operatorOfLetter 68 = .ok (.iconst 4, 1) := by decide +kernel
theorem d_Rd_operatorOfLetter_69 : decode c_Rd_operatorOfLetter 69 = .ok (.ireturn, 1) := by decide +kernel
theorem d_Rd_operatorOfLetter_70 : decode c_Rd_operatorOfLetter 70 = .ok (.iconst 5, 1) := by decide +kernel
theorem d_Rd_operatorOfLetter_71 : decode c_Rd_operatorOfLetter 71 = .ok (.ireturn, 1) := by decide +kernel
theorem d_Rd_operatorOfLetter_72 : decode c_Rd_operatorOfLetter 72 = .ok (.bipush 6, 2) := by decide +kernel
theorem d_Rd_operatorOfLetter_74 : decode c_Rd_operatorOfLetter 74 = .ok (.ireturn, 1) := by decide +kernel
theorem d_Rd_operatorOfLetter_75 : decode c_Rd_operatorOfLetter 75 = .ok (.bipush 7, 2) := by decide +kernel
theorem d_Rd_operatorOfLetter_77 : decode c_Rd_operatorOfLetter 77 = .ok (.ireturn, 1) := by decide +kernel
theorem d_Rd_operatorOfLetter_78 : decode c_Rd_operatorOfLetter 78 = .ok (.bipush 10, 2) := by decide +kernel
theorem d_Rd_operatorOfLetter_80 : decode c_Rd_operatorOfLetter 80 = .ok (.ireturn, 1) := by decide +kernel
theorem d_Rd_operatorOfLetter_81 : decode c_Rd_operatorOfLetter 81 = .ok (.bipush 11, 2) := by decide +kernel
theorem d_Rd_operatorOfLetter_83 : decode c_Rd_operatorOfLetter 83 = .ok (.ireturn, 1) := by decide +kernel
theorem d_Rd_operatorOfLetter_84 : decode c_Rd_operatorOfLetter 84 = .ok (.bipush 12, 2) := by decide +kernel
theorem d_Rd_operatorOfLetter_86 : decode c_Rd_operatorOfLetter 86 = .ok (.ireturn, 1) := by decide +kernel
theorem d_Rd_operatorOfLetter_87 : decode c_Rd_operatorOfLetter 87 = .ok (.iconst (-1), 1) := by decide +kernel
theorem d_Rd_operatorOfLetter_88 : decode c_Rd_operatorOfLetter 88 = .ok (.ireturn, 1) := by decide +kernel
abbrev c_Rd_isBehindCondition : ByteArray := prog_7_method_7_code
abbrev r_Rd_isBehindCondition : Option FieldType := (some FieldType.boolean)
def y_Rd_isBehindCondition : MethodName := ⟨"PinKindChecks$RuleReader", "isBehindCondition", "()Z"⟩
theorem d_Rd_isBehindCondition_0 : decode c_Rd_isBehindCondition 0 = .ok (.aload_n 0, 1) := by decide +kernel
theorem d_Rd_isBehindCondition_1 : decode c_Rd_isBehindCondition 1 = .ok (.getfield 38, 3) := by decide +kernel
theorem d_Rd_isBehindCondition_4 : decode c_Rd_isBehindCondition 4 = .ok (.bipush 6, 2) := by decide +kernel
theorem d_Rd_isBehindCondition_6 : decode c_Rd_isBehindCondition 6 = .ok (.if_icmp .eq 18, 3) := by decide +kernel
theorem d_Rd_isBehindCondition_9 : decode c_Rd_isBehindCondition 9 = .ok (.aload_n 0, 1) := by decide +kernel
theorem d_Rd_isBehindCondition_10 : decode c_Rd_isBehindCondition 10 = .ok (.getfield 38, 3) := by decide +kernel
theorem d_Rd_isBehindCondition_13 : decode c_Rd_isBehindCondition 13 = .ok (.iconst 5, 1) := by decide +kernel
theorem d_Rd_isBehindCondition_14 : decode c_Rd_isBehindCondition 14 = .ok (.if_icmp .ne 14, 3) := by decide +kernel
theorem d_Rd_isBehindCondition_17 : decode c_Rd_isBehindCondition 17 = .ok (.aload_n 0, 1) := by decide +kernel
theorem d_Rd_isBehindCondition_18 : decode c_Rd_isBehindCondition 18 = .ok (.getfield 44, 3) := by decide +kernel
theorem d_Rd_isBehindCondition_21 : decode c_Rd_isBehindCondition 21 = .ok (.ifCond .eq 7, 3) := by decide +kernel
theorem d_Rd_isBehindCondition_24 : decode c_Rd_isBehindCondition 24 = .ok (.iconst 1, 1) := by decide +kernel
theorem d_Rd_isBehindCondition_25 : decode c_Rd_isBehindCondition 25 = .ok (.goto 4, 3) := by decide +kernel
theorem d_Rd_isBehindCondition_28 : decode c_Rd_isBehindCondition 28 = .ok (.iconst 0, 1) := by decide +kernel
theorem d_Rd_isBehindCondition_29 : decode c_Rd_isBehindCondition 29 = .ok (.ireturn, 1) := by decide +kernel
abbrev c_Rd_putOutDownTo : ByteArray := prog_7_method_26_code
abbrev r_Rd_putOutDownTo : Option FieldType := none
def y_Rd_putOutDownTo : MethodName := ⟨"PinKindChecks$RuleReader", "putOutDownTo", "(I)V"⟩
theorem d_Rd_putOutDownTo_0 : decode c_Rd_putOutDownTo 0 = .ok (.aload_n 0, 1) := by decide +kernel
theorem d_Rd_putOutDownTo_1 : decode c_Rd_putOutDownTo 1 = .ok (.getfield 32, 3) := by decide +kernel
theorem d_Rd_putOutDownTo_4 : decode c_Rd_putOutDownTo 4 = .ok (.ifCond .le 51, 3) := by decide +kernel
theorem d_Rd_putOutDownTo_7 : decode c_Rd_putOutDownTo 7 = .ok (.aload_n 0, 1) := by decide +kernel
theorem d_Rd_putOutDownTo_8 : decode c_Rd_putOutDownTo 8 = .ok (.getfield 18, 3) := by decide +kernel
theorem d_Rd_putOutDownTo_11 : decode c_Rd_putOutDownTo 11 = .ok (.aload_n 0, 1) := by decide +kernel
theorem d_Rd_putOutDownTo_12 : decode c_Rd_putOutDownTo 12 = .ok (.getfield 32, 3) := by decide +kernel
