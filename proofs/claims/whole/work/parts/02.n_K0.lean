abbrev c_K_init : ByteArray := prog_1_method_1_code
abbrev r_K_init : Option FieldType := none
def y_K_init : MethodName := ⟨"PinKindChecks", "<init>", "()V"⟩
theorem d_K_init_0 : decode c_K_init 0 = .ok (.aload_n 0, 1) := by decide +kernel
theorem d_K_init_1 : decode c_K_init 1 = .ok (.invokespecial 3, 3) := by decide +kernel
theorem d_K_init_4 : decode c_K_init 4 = .ok (.aload_n 0, 1) := by decide +kernel
theorem d_K_init_5 : decode c_K_init 5 = .ok (.new 9, 3) := by decide +kernel
theorem d_K_init_8 : decode c_K_init 8 = .ok (.dup, 1) := by decide +kernel
theorem d_K_init_9 : decode c_K_init 9 = .ok (.invokespecial 11, 3) := by decide +kernel
theorem d_K_init_12 : decode c_K_init 12 = .ok (.putfield 12, 3) := by decide +kernel
theorem d_K_init_15 : decode c_K_init 15 = .ok (.aload_n 0, 1) := by decide +kernel
theorem d_K_init_16 : decode c_K_init 16 = .ok (.new 16, 3) := by decide +kernel
theorem d_K_init_19 : decode c_K_init 19 = .ok (.dup, 1) := by decide +kernel
theorem d_K_init_20 : decode c_K_init 20 = .ok (.invokespecial 18, 3) := by decide +kernel
theorem d_K_init_23 : decode c_K_init 23 = .ok (.putfield 19, 3) := by decide +kernel
theorem d_K_init_26 : decode c_K_init 26 = .ok (.aload_n 0, 1) := by decide +kernel
theorem d_K_init_27 : decode c_K_init 27 = .ok (.bipush 20, 2) := by decide +kernel
theorem d_K_init_29 : decode c_K_init 29 = .ok (.anewarray 23, 3) := by decide +kernel
theorem d_K_init_32 : decode c_K_init 32 = .ok (.putfield 25, 3) := by decide +kernel
theorem d_K_init_35 : decode c_K_init 35 = .ok (.aload_n 0, 1) := by decide +kernel
theorem d_K_init_36 : decode c_K_init 36 = .ok (.bipush 27, 2) := by decide +kernel
theorem d_K_init_38 : decode c_K_init 38 = .ok (.newarray .boolean, 2) := by decide +kernel
theorem d_K_init_40 : decode c_K_init 40 = .ok (.putfield 29, 3) := by decide +kernel
theorem d_K_init_43 : decode c_K_init 43 = .ok (.aload_n 0, 1) := by decide +kernel
theorem d_K_init_44 : decode c_K_init 44 = .ok (.new 33, 3) := by decide +kernel
theorem d_K_init_47 : decode c_K_init 47 = .ok (.dup, 1) := by decide +kernel
theorem d_K_init_48 : decode c_K_init 48 = .ok (.invokespecial 35, 3) := by decide +kernel
theorem d_K_init_51 : decode c_K_init 51 = .ok (.putfield 36, 3) := by decide +kernel
theorem d_K_init_54 : decode c_K_init 54 = .ok (.aload_n 0, 1) := by decide +kernel
theorem d_K_init_55 : decode c_K_init 55 = .ok (.new 40, 3) := by decide +kernel
theorem d_K_init_58 : decode c_K_init 58 = .ok (.dup, 1) := by decide +kernel
theorem d_K_init_59 : decode c_K_init 59 = .ok (.invokespecial 42, 3) := by decide +kernel
theorem d_K_init_62 : decode c_K_init 62 = .ok (.putfield 43, 3) := by decide +kernel
theorem d_K_init_65 : decode c_K_init 65 = .ok (.aload_n 0, 1) := by decide +kernel
theorem d_K_init_66 : decode c_K_init 66 = .ok (.bipush 80, 2) := by decide +kernel
theorem d_K_init_68 : decode c_K_init 68 = .ok (.newarray .long, 2) := by decide +kernel
theorem d_K_init_70 : decode c_K_init 70 = .ok (.putfield 47, 3) := by decide +kernel
theorem d_K_init_73 : decode c_K_init 73 = .ok (.aload_n 0, 1) := by decide +kernel
theorem d_K_init_74 : decode c_K_init 74 = .ok (.new 40, 3) := by decide +kernel
theorem d_K_init_77 : decode c_K_init 77 = .ok (.dup, 1) := by decide +kernel
theorem d_K_init_78 : decode c_K_init 78 = .ok (.invokespecial 42, 3) := by decide +kernel
theorem d_K_init_81 : decode c_K_init 81 = .ok (.putfield 51, 3) := by decide +kernel
theorem d_K_init_84 : decode c_K_init 84 = .ok (.aload_n 0, 1) := by decide +kernel
theorem d_K_init_85 : decode c_K_init 85 = .ok (.new 40, 3) := by decide +kernel
theorem d_K_init_88 : decode c_K_init 88 = .ok (.dup, 1) := by decide +kernel
theorem d_K_init_89 : decode c_K_init 89 = .ok (.invokespecial 42, 3) := by decide +kernel
theorem d_K_init_92 : decode c_K_init 92 = .ok (.putfield 54, 3) := by decide +kernel
theorem d_K_init_95 : decode c_K_init 95 = .ok (.aload_n 0, 1) := by decide +kernel
theorem d_K_init_96 : decode c_K_init 96 = .ok (.iconst 0, 1) := by decide +kernel
theorem d_K_init_97 : decode c_K_init 97 = .ok (.putfield 57, 3) := by decide +kernel
theorem d_K_init_100 : decode c_K_init 100 = .ok (.aload_n 0, 1) := by decide +kernel
theorem d_K_init_101 : decode c_K_init 101 = .ok (.iconst 1, 1) := by decide +kernel
theorem d_K_init_102 : decode c_K_init 102 = .ok (.putfield 61, 3) := by decide +kernel
theorem d_K_init_105 : decode c_K_init 105 = .ok (.return_, 1) := by decide +kernel
abbrev c_K_unit : ByteArray := prog_1_method_9_code
abbrev r_K_unit : Option FieldType := (some FieldType.boolean)
def y_K_unit : MethodName := ⟨"PinKindChecks", "unit", "(I)Z"⟩
theorem d_K_unit_0 : decode c_K_unit 0 = .ok (.aload_n 0, 1) := by decide +kernel
theorem d_K_unit_1 : decode c_K_unit 1 = .ok (.getfield 19, 3) := by decide +kernel
theorem d_K_unit_4 : decode c_K_unit 4 = .ok (.iload_n 1, 1) := by decide +kernel
theorem d_K_unit_5 : decode c_K_unit 5 = .ok (.invokevirtual 142, 3) := by decide +kernel
theorem d_K_unit_8 : decode c_K_unit 8 = .ok (.ireturn, 1) := by decide +kernel
abbrev c_K_run : ByteArray := prog_1_method_12_code
abbrev r_K_run : Option FieldType := (some FieldType.int)
def y_K_run : MethodName := ⟨"PinKindChecks", "run", "()I"⟩
theorem d_K_run_0 : decode c_K_run 0 = .ok (.aload_n 0, 1) := by decide +kernel
theorem d_K_run_1 : decode c_K_run 1 = .ok (.getfield 54, 3) := by decide +kernel
theorem d_K_run_4 : decode c_K_run 4 = .ok (.astore_n 1, 1) := by decide +kernel
theorem d_K_run_5 : decode c_K_run 5 = .ok (.aload_n 0, 1) := by decide +kernel
theorem d_K_run_6 : decode c_K_run 6 = .ok (.aload_n 0, 1) := by decide +kernel
theorem d_K_run_7 : decode c_K_run 7 = .ok (.getfield 51, 3) := by decide +kernel
theorem d_K_run_10 : decode c_K_run 10 = .ok (.putfield 54, 3) := by decide +kernel
theorem d_K_run_13 : decode c_K_run 13 = .ok (.aload_n 0, 1) := by decide +kernel
theorem d_K_run_14 : decode c_K_run 14 = .ok (.aload_n 1, 1) := by decide +kernel
theorem d_K_run_15 : decode c_K_run 15 = .ok (.putfield 51, 3) := by decide +kernel
theorem d_K_run_18 : decode c_K_run 18 = .ok (.aload_n 0, 1) := by decide +kernel
theorem d_K_run_19 : decode c_K_run 19 = .ok (.getfield 51, 3) := by decide +kernel
theorem d_K_run_22 : decode c_K_run 22 = .ok (.invokevirtual 169, 3) := by decide +kernel
theorem d_K_run_25 : decode c_K_run 25 = .ok (.iconst 0, 1) := by decide +kernel
theorem d_K_run_26 : decode c_K_run 26 = .ok (.istore_n 2, 1) := by decide +kernel
theorem d_K_run_27 : decode c_K_run 27 = .ok (.iload_n 2, 1) := by decide +kernel
theorem d_K_run_28 : decode c_K_run 28 = .ok (.aload_n 0, 1) := by decide +kernel
theorem d_K_run_29 : decode c_K_run 29 = .ok (.getfield 12, 3) := by decide +kernel
theorem d_K_run_32 : decode c_K_run 32 = .ok (.invokevirtual 170, 3) := by decide +kernel
theorem d_K_run_35 : decode c_K_run 35 = .ok (.if_icmp .ge 21, 3) := by decide +kernel
theorem d_K_run_38 : decode c_K_run 38 = .ok (.aload_n 0, 1) := by decide +kernel
theorem d_K_run_39 : decode c_K_run 39 = .ok (.aload_n 0, 1) := by decide +kernel
theorem d_K_run_40 : decode c_K_run 40 = .ok (.getfield 12, 3) := by decide +kernel
theorem d_K_run_43 : decode c_K_run 43 = .ok (.iload_n 2, 1) := by decide +kernel
theorem d_K_run_44 : decode c_K_run 44 = .ok (.invokevirtual 173, 3) := by decide +kernel
theorem d_K_run_47 : decode c_K_run 47 = .ok (.invokevirtual 177, 3) := by decide +kernel
theorem d_K_run_50 : decode c_K_run 50 = .ok (.iinc 2 1, 3) := by decide +kernel
theorem d_K_run_53 : decode c_K_run 53 = .ok (.goto (-26), 3) := by decide +kernel
theorem d_K_run_56 : decode c_K_run 56 = .ok (.aload_n 0, 1) := by decide +kernel
theorem d_K_run_57 : decode c_K_run 57 = .ok (.invokevirtual 181, 3) := by decide +kernel
theorem d_K_run_60 : decode c_K_run 60 = .ok (.aload_n 0, 1) := by decide +kernel
theorem d_K_run_61 : decode c_K_run 61 = .ok (.invokevirtual 184, 3) := by decide +kernel
theorem d_K_run_64 : decode c_K_run 64 = .ok (.ireturn, 1) := by decide +kernel
abbrev c_K_isBelow : ByteArray := prog_1_method_19_code
abbrev r_K_isBelow : Option FieldType := (some FieldType.boolean)
def y_K_isBelow : MethodName := ⟨"PinKindChecks", "isBelow", "(II)Z"⟩
theorem d_K_isBelow_0 : decode c_K_isBelow 0 = .ok (.iload_n 0, 1) := by decide +kernel
theorem d_K_isBelow_1 : decode c_K_isBelow 1 = .ok (.ifCond .lt 12, 3) := by decide +kernel
theorem d_K_isBelow_4 : decode c_K_isBelow 4 = .ok (.iload_n 0, 1) := by decide +kernel
theorem d_K_isBelow_5 : decode c_K_isBelow 5 = .ok (.iload_n 1, 1) := by decide +kernel
theorem d_K_isBelow_6 : decode c_K_isBelow 6 = .ok (.if_icmp .ge 7, 3) := by decide +kernel
theorem d_K_isBelow_9 : decode c_K_isBelow 9 = .ok (.iconst 1, 1) := by decide +kernel
theorem d_K_isBelow_10 : decode c_K_isBelow 10 = .ok (.goto 4, 3) := by decide +kernel
theorem d_K_isBelow_13 : decode c_K_isBelow 13 = .ok (.iconst 0, 1) := by decide +kernel
theorem d_K_isBelow_14 : decode c_K_isBelow 14 = .ok (.ireturn, 1) := by decide +kernel
abbrev c_K_checkThing : ByteArray := prog_1_method_23_code
abbrev r_K_checkThing : Option FieldType := none
def y_K_checkThing : MethodName := ⟨"PinKindChecks", "checkThing", "(LPinKindChecks$Thing;)V"⟩
theorem d_K_checkThing_0 : decode c_K_checkThing 0 = .ok (.aload_n 1, 1) := by decide +kernel
theorem d_K_checkThing_1 : decode c_K_checkThing 1 = .ok (.ifnonnull 4, 3) := by decide +kernel
theorem d_K_checkThing_4 : decode c_K_checkThing 4 = .ok (.return_, 1) := by decide +kernel
theorem d_K_checkThing_5 : decode c_K_checkThing 5 = .ok (.iconst 0, 1) := by decide +kernel
theorem d_K_checkThing_6 : decode c_K_checkThing 6 = .ok (.istore_n 2, 1) := by decide +kernel
theorem d_K_checkThing_7 : decode c_K_checkThing 7 = .ok (.iload_n 2, 1) := by decide +kernel
theorem d_K_checkThing_8 : decode c_K_checkThing 8 = .ok (.aload_n 0, 1) := by decide +kernel
theorem d_K_checkThing_9 : decode c_K_checkThing 9 = .ok (.invokevirtual 161, 3) := by decide +kernel
theorem d_K_checkThing_12 : decode c_K_checkThing 12 = .ok (.if_icmp .ge 59, 3) := by decide +kernel
theorem d_K_checkThing_15 : decode c_K_checkThing 15 = .ok (.iload_n 2, 1) := by decide +kernel
theorem d_K_checkThing_16 : decode c_K_checkThing 16 = .ok (.aload_n 0, 1) := by decide +kernel
theorem d_K_checkThing_17 : decode c_K_checkThing 17 = .ok (.getfield 29, 3) := by decide +kernel
theorem d_K_checkThing_20 : decode c_K_checkThing 20 = .ok (.arraylength, 1) := by decide +kernel
theorem d_K_checkThing_21 : decode c_K_checkThing 21 = .ok (.if_icmp .ge 50, 3) := by decide +kernel
theorem d_K_checkThing_24 : decode c_K_checkThing 24 = .ok (.aload_n 0, 1) := by decide +kernel
theorem d_K_checkThing_25 : decode c_K_checkThing 25 = .ok (.getfield 29, 3) := by decide +kernel
theorem d_K_checkThing_28 : decode c_K_checkThing 28 = .ok (.iload_n 2, 1) := by decide +kernel
theorem d_K_checkThing_29 : decode c_K_checkThing 29 = .ok (.baload, 1) := by decide +kernel
theorem d_K_checkThing_30 : decode c_K_checkThing 30 = .ok (.ifCond .eq 7, 3) := by decide +kernel
theorem d_K_checkThing_33 : decode c_K_checkThing 33 = .ok (.iconst 0, 1) := by decide +kernel
theorem d_K_checkThing_34 : decode c_K_checkThing 34 = .ok (.goto 9, 3) := by decide +kernel
theorem d_K_checkThing_37 : decode c_K_checkThing 37 = .ok (.aload_n 0, 1) := by decide +kernel
theorem d_K_checkThing_38 : decode c_K_checkThing 38 = .ok (.iload_n 2, 1) := by decide +kernel
theorem d_K_checkThing_39 : decode c_K_checkThing 39 = .ok (.aload_n 1, 1) := by decide +kernel
theorem d_K_checkThing_40 : decode c_K_checkThing 40 = .ok (.invokevirtual 227, 3) := by decide +kernel
theorem d_K_checkThing_43 : decode c_K_checkThing 43 = .ok (.istore_n 3, 1) := by decide +kernel
theorem d_K_checkThing_44 : decode c_K_checkThing 44 = .ok (.iload_n 3, 1) := by decide +kernel
theorem d_K_checkThing_45 : decode c_K_checkThing 45 = .ok (.ifCond .le 20, 3) := by decide +kernel
theorem d_K_checkThing_48 : decode c_K_checkThing 48 = .ok (.aload_n 0, 1) := by decide +kernel
theorem d_K_checkThing_49 : decode c_K_checkThing 49 = .ok (.getfield 51, 3) := by decide +kernel
theorem d_K_checkThing_52 : decode c_K_checkThing 52 = .ok (.aload_n 1, 1) := by decide +kernel
theorem d_K_checkThing_53 : decode c_K_checkThing 53 = .ok (.iload_n 2, 1) := by decide +kernel
theorem d_K_checkThing_54 : decode c_K_checkThing 54 = .ok (.invokevirtual 217, 3) := by decide +kernel
theorem d_K_checkThing_57 : decode c_K_checkThing 57 = .ok (.iload_n 3, 1) := by decide +kernel
theorem d_K_checkThing_58 : decode c_K_checkThing 58 = .ok (.aload_n 0, 1) := by decide +kernel
theorem d_K_checkThing_59 : decode c_K_checkThing 59 = .ok (.getfield 61, 3) := by decide +kernel
theorem d_K_checkThing_62 : decode c_K_checkThing 62 = .ok (.invokevirtual 230, 3) := by decide +kernel
theorem d_K_checkThing_65 : decode c_K_checkThing 65 = .ok (.iinc 2 1, 3) := by decide +kernel
theorem d_K_checkThing_68 : decode c_K_checkThing 68 = .ok (.goto (-61), 3) := by decide +kernel
theorem d_K_checkThing_71 : decode c_K_checkThing 71 = .ok (.return_, 1) := by decide +kernel
abbrev c_K_ruleCount : ByteArray := prog_1_method_21_code
abbrev r_K_ruleCount : Option FieldType := (some FieldType.int)
def y_K_ruleCount : MethodName := ⟨"PinKindChecks", "ruleCount", "()I"⟩
theorem d_K_ruleCount_0 : decode c_K_ruleCount 0 = .ok (.bipush 7, 2) := by decide +kernel
theorem d_K_ruleCount_2 : decode c_K_ruleCount 2 = .ok (.aload_n 0, 1) := by decide +kernel
theorem d_K_ruleCount_3 : decode c_K_ruleCount 3 = .ok (.getfield 57, 3) := by decide +kernel
theorem d_K_ruleCount_6 : decode c_K_ruleCount 6 = .ok (.iadd, 1) := by decide +kernel
theorem d_K_ruleCount_7 : decode c_K_ruleCount 7 = .ok (.ireturn, 1) := by decide +kernel
abbrev c_K_weightOf : ByteArray := prog_1_method_24_code
abbrev r_K_weightOf : Option FieldType := (some FieldType.int)
def y_K_weightOf : MethodName := ⟨"PinKindChecks", "weightOf", "(ILPinKindChecks$Thing;)I"⟩
theorem d_K_weightOf_0 : decode c_K_weightOf 0 = .ok (.iload_n 1, 1) := by decide +kernel
theorem d_K_weightOf_1 : decode c_K_weightOf 1 = .ok (.bipush 7, 2) := by decide +kernel
theorem d_K_weightOf_3 : decode c_K_weightOf 3 = .ok (.if_icmp .ge 13, 3) := by decide +kernel
theorem d_K_weightOf_6 : decode c_K_weightOf 6 = .ok (.aload_n 2, 1) := by decide +kernel
theorem d_K_weightOf_7 : decode c_K_weightOf 7 = .ok (.iload_n 1, 1) := by decide +kernel
theorem d_K_weightOf_8 : decode c_K_weightOf 8 = .ok (.aload_n 0, 1) := by decide +kernel
theorem d_K_weightOf_9 : decode c_K_weightOf 9 = .ok (.getfield 12, 3) := by decide +kernel
theorem d_K_weightOf_12 : decode c_K_weightOf 12 = .ok (.invokevirtual 234, 3) := by decide +kernel
theorem d_K_weightOf_15 : decode c_K_weightOf 15 = .ok (.ireturn, 1) := by decide +kernel
theorem d_K_weightOf_16 : decode c_K_weightOf 16 = .ok (.iload_n 1, 1) := by decide +kernel
theorem d_K_weightOf_17 : decode c_K_weightOf 17 = .ok (.bipush 7, 2) := by decide +kernel
theorem d_K_weightOf_19 : decode c_K_weightOf 19 = .ok (.isub, 1) := by decide +kernel
theorem d_K_weightOf_20 : decode c_K_weightOf 20 = .ok (.istore_n 3, 1) := by decide +kernel
theorem d_K_weightOf_21 : decode c_K_weightOf 21 = .ok (.iload_n 3, 1) := by decide +kernel
theorem d_K_weightOf_22 : decode c_K_weightOf 22 = .ok (.aload_n 0, 1) := by decide +kernel
theorem d_K_weightOf_23 : decode c_K_weightOf 23 = .ok (.getfield 25, 3) := by decide +kernel
theorem d_K_weightOf_26 : decode c_K_weightOf 26 = .ok (.arraylength, 1) := by decide +kernel
theorem d_K_weightOf_27 : decode c_K_weightOf 27 = .ok (.invokestatic 64, 3) := by decide +kernel
theorem d_K_weightOf_30 : decode c_K_weightOf 30 = .ok (.ifCond .eq 12, 3) := by decide +kernel
theorem d_K_weightOf_33 : decode c_K_weightOf 33 = .ok (.aload_n 0, 1) := by decide +kernel
theorem d_K_weightOf_34 : decode c_K_weightOf 34 = .ok (.getfield 25, 3) := by decide +kernel
theorem d_K_weightOf_37 : decode c_K_weightOf 37 = .ok (.iload_n 3, 1) := by decide +kernel
theorem d_K_weightOf_38 : decode c_K_weightOf 38 = .ok (.aaload, 1) := by decide +kernel
theorem d_K_weightOf_39 : decode c_K_weightOf 39 = .ok (.goto 4, 3) := by decide +kernel
theorem d_K_weightOf_42 : decode c_K_weightOf 42 = .ok (.aconst_null, 1) := by decide +kernel
theorem d_K_weightOf_43 : decode c_K_weightOf 43 = .ok (.astore 4, 2) := by decide +kernel
theorem d_K_weightOf_45 : decode c_K_weightOf 45 = .ok (.aload 4, 2) := by decide +kernel
theorem d_K_weightOf_47 : decode c_K_weightOf 47 = .ok (.ifnull 33, 3) := by decide +kernel
theorem d_K_weightOf_50 : decode c_K_weightOf 50 = .ok (.aload 4, 2) := by decide +kernel
theorem d_K_weightOf_52 : decode c_K_weightOf 52 = .ok (.aload_n 2, 1) := by decide +kernel
theorem d_K_weightOf_53 : decode c_K_weightOf 53 = .ok (.invokevirtual 238, 3) := by decide +kernel
theorem d_K_weightOf_56 : decode c_K_weightOf 56 = .ok (.ifCond .eq 24, 3) := by decide +kernel
theorem d_K_weightOf_59 : decode c_K_weightOf 59 = .ok (.aload 4, 2) := by decide +kernel
theorem d_K_weightOf_61 : decode c_K_weightOf 61 = .ok (.aload_n 2, 1) := by decide +kernel
theorem d_K_weightOf_62 : decode c_K_weightOf 62 = .ok (.aload_n 0, 1) := by decide +kernel
theorem d_K_weightOf_63 : decode c_K_weightOf 63 = .ok (.getfield 47, 3) := by decide +kernel
theorem d_K_weightOf_66 : decode c_K_weightOf 66 = .ok (.invokevirtual 242, 3) := by decide +kernel
theorem d_K_weightOf_69 : decode c_K_weightOf 69 = .ok (.ifCond .eq 11, 3) := by decide +kernel
theorem d_K_weightOf_72 : decode c_K_weightOf 72 = .ok (.aload 4, 2) := by decide +kernel
theorem d_K_weightOf_74 : decode c_K_weightOf 74 = .ok (.invokevirtual 246, 3) := by decide +kernel
theorem d_K_weightOf_77 : decode c_K_weightOf 77 = .ok (.goto 4, 3) := by decide +kernel
theorem d_K_weightOf_80 : decode c_K_weightOf 80 = .ok (.iconst 0, 1) := by decide +kernel
theorem d_K_weightOf_81 : decode c_K_weightOf 81 = .ok (.ireturn, 1) := by decide +kernel
abbrev c_K_compareWithBefore : ByteArray := prog_1_method_25_code
abbrev r_K_compareWithBefore : Option FieldType := none
def y_K_compareWithBefore : MethodName := ⟨"PinKindChecks", "compareWithBefore", "()V"⟩
theorem d_K_compareWithBefore_0 : decode c_K_compareWithBefore 0 = .ok (.aload_n 0, 1) := by decide +kernel
theorem d_K_compareWithBefore_1 : decode c_K_compareWithBefore 1 = .ok (.getfield 43, 3) := by decide +kernel
theorem d_K_compareWithBefore_4 : decode c_K_compareWithBefore 4 = .ok (.invokevirtual 169, 3) := by decide +kernel
theorem d_K_compareWithBefore_7 : decode c_K_compareWithBefore 7 = .ok (.iconst 0, 1) := by decide +kernel
theorem d_K_compareWithBefore_8 : decode c_K_compareWithBefore 8 = .ok (.istore_n 1, 1) := by decide +kernel
theorem d_K_compareWithBefore_9 : decode c_K_compareWithBefore 9 = .ok (.iconst 0, 1) := by decide +kernel
theorem d_K_compareWithBefore_10 : decode c_K_compareWithBefore 10 = .ok (.istore_n 2, 1) := by decide +kernel
theorem d_K_compareWithBefore_11 : decode c_K_compareWithBefore 11 = .ok (.iload_n 2, 1) := by decide +kernel
theorem d_K_compareWithBefore_12 : decode c_K_compareWithBefore 12 = .ok (.aload_n 0, 1) := by decide +kernel
theorem d_K_compareWithBefore_13 : decode c_K_compareWithBefore 13 = .ok (.getfield 54, 3) := by decide +kernel
theorem d_K_compareWithBefore_16 : decode c_K_compareWithBefore 16 = .ok (.invokevirtual 187, 3) := by decide +kernel
theorem d_K_compareWithBefore_19 : decode c_K_compareWithBefore 19 = .ok (.if_icmp .ge 113, 3) := by decide +kernel
theorem d_K_compareWithBefore_22 : decode c_K_compareWithBefore 22 = .ok (.aload_n 0, 1) := by decide +kernel
theorem d_K_compareWithBefore_23 : decode c_K_compareWithBefore 23 = .ok (.getfield 54, 3) := by decide +kernel
theorem d_K_compareWithBefore_26 : decode c_K_compareWithBefore 26 = .ok (.iload_n 2, 1) := by decide +kernel
theorem d_K_compareWithBefore_27 : decode c_K_compareWithBefore 27 = .ok (.invokevirtual 198, 3) := by decide +kernel
theorem d_K_compareWithBefore_30 : decode c_K_compareWithBefore 30 = .ok (.istore_n 3, 1) := by decide +kernel
theorem d_K_compareWithBefore_31 : decode c_K_compareWithBefore 31 = .ok (.iload_n 1, 1) := by decide +kernel
theorem d_K_compareWithBefore_32 : decode c_K_compareWithBefore 32 = .ok (.aload_n 0, 1) := by decide +kernel
theorem d_K_compareWithBefore_33 : decode c_K_compareWithBefore 33 = .ok (.getfield 51, 3) := by decide +kernel
theorem d_K_compareWithBefore_36 : decode c_K_compareWithBefore 36 = .ok (.invokevirtual 187, 3) := by decide +kernel
theorem d_K_compareWithBefore_39 : decode c_K_compareWithBefore 39 = .ok (.if_icmp .ge 21, 3) := by decide +kernel
theorem d_K_compareWithBefore_42 : decode c_K_compareWithBefore 42 = .ok (.aload_n 0, 1) := by decide +kernel
theorem d_K_compareWithBefore_43 : decode c_K_compareWithBefore 43 = .ok (.getfield 51, 3) := by decide +kernel
theorem d_K_compareWithBefore_46 : decode c_K_compareWithBefore 46 = .ok (.iload_n 1, 1) := by decide +kernel
theorem d_K_compareWithBefore_47 : decode c_K_compareWithBefore 47 = .ok (.invokevirtual 198, 3) := by decide +kernel
theorem d_K_compareWithBefore_50 : decode c_K_compareWithBefore 50 = .ok (.iload_n 3, 1) := by decide +kernel
theorem d_K_compareWithBefore_51 : decode c_K_compareWithBefore 51 = .ok (.if_icmp .ge 9, 3) := by decide +kernel
theorem d_K_compareWithBefore_54 : decode c_K_compareWithBefore 54 = .ok (.iinc 1 1, 3) := by decide +kernel
theorem d_K_compareWithBefore_57 : decode c_K_compareWithBefore 57 = .ok (.goto (-26), 3) := by decide +kernel
theorem d_K_compareWithBefore_60 : decode c_K_compareWithBefore 60 = .ok (.iload_n 1, 1) := by decide +kernel
theorem d_K_compareWithBefore_61 : decode c_K_compareWithBefore 61 = .ok (.aload_n 0, 1) := by decide +kernel
theorem d_K_compareWithBefore_62 : decode c_K_compareWithBefore 62 = .ok (.getfield 51, 3) := by decide +kernel
theorem d_K_compareWithBefore_65 : decode c_K_compareWithBefore 65 = .ok (.invokevirtual 187, 3) := by decide +kernel
theorem d_K_compareWithBefore_68 : decode c_K_compareWithBefore 68 = .ok (.if_icmp .ge 34, 3) := by decide +kernel
theorem d_K_compareWithBefore_71 : decode c_K_compareWithBefore 71 = .ok (.aload_n 0, 1) := by decide +kernel
theorem d_K_compareWithBefore_72 : decode c_K_compareWithBefore 72 = .ok (.getfield 51, 3) := by decide +kernel
theorem d_K_compareWithBefore_75 : decode c_K_compareWithBefore 75 = .ok (.iload_n 1, 1) := by decide +kernel
theorem d_K_compareWithBefore_76 : decode c_K_compareWithBefore 76 = .ok (.invokevirtual 198, 3) := by decide +kernel
theorem d_K_compareWithBefore_79 : decode c_K_compareWithBefore 79 = .ok (.iload_n 3, 1) := by decide +kernel
theorem d_K_compareWithBefore_80 : decode c_K_compareWithBefore 80 = .ok (.if_icmp .ne 22, 3) := by decide +kernel
theorem d_K_compareWithBefore_83 : decode c_K_compareWithBefore 83 = .ok (.aload_n 0, 1) := by decide +kernel
theorem d_K_compareWithBefore_84 : decode c_K_compareWithBefore 84 = .ok (.getfield 51, 3) := by decide +kernel
theorem d_K_compareWithBefore_87 : decode c_K_compareWithBefore 87 = .ok (.iload_n 1, 1) := by decide +kernel
theorem d_K_compareWithBefore_88 : decode c_K_compareWithBefore 88 = .ok (.aload_n 0, 1) := by decide +kernel
theorem d_K_compareWithBefore_89 : decode c_K_compareWithBefore 89 = .ok (.getfield 54, 3) := by decide +kernel
theorem d_K_compareWithBefore_92 : decode c_K_compareWithBefore 92 = .ok (.iload_n 2, 1) := by decide +kernel
theorem d_K_compareWithBefore_93 : decode c_K_compareWithBefore 93 = .ok (.invokevirtual 195, 3) := by decide +kernel
theorem d_K_compareWithBefore_96 : decode c_K_compareWithBefore 96 = .ok (.invokevirtual 249, 3) := by decide +kernel
theorem d_K_compareWithBefore_99 : decode c_K_compareWithBefore 99 = .ok (.goto 27, 3) := by decide +kernel
theorem d_K_compareWithBefore_102 : decode c_K_compareWithBefore 102 = .ok (.aload_n 0, 1) := by decide +kernel
theorem d_K_compareWithBefore_103 : decode c_K_compareWithBefore 103 = .ok (.getfield 43, 3) := by decide +kernel
theorem d_K_compareWithBefore_106 : decode c_K_compareWithBefore 106 = .ok (.iload_n 3, 1) := by decide +kernel
theorem d_K_compareWithBefore_107 : decode c_K_compareWithBefore 107 = .ok (.aload_n 0, 1) := by decide +kernel
theorem d_K_compareWithBefore_108 : decode c_K_compareWithBefore 108 = .ok (.getfield 54, 3) := by decide +kernel
theorem d_K_compareWithBefore_111 : decode c_K_compareWithBefore 111 = .ok (.iload_n 2, 1) := by decide +kernel
theorem d_K_compareWithBefore_112 : decode c_K_compareWithBefore 112 = .ok (.invokevirtual 192, 3) := by decide +kernel
theorem d_K_compareWithBefore_115 : decode c_K_compareWithBefore 115 = .ok (.aload_n 0, 1) := by decide +kernel
theorem d_K_compareWithBefore_116 : decode c_K_compareWithBefore 116 = .ok (.getfield 54, 3) := by decide +kernel
theorem d_K_compareWithBefore_119 : decode c_K_compareWithBefore 119 = .ok (.iload_n 2, 1) := by decide +kernel
theorem d_K_compareWithBefore_120 : decode c_K_compareWithBefore 120 = .ok (.invokevirtual 195, 3) := by decide +kernel
theorem d_K_compareWithBefore_123 : decode c_K_compareWithBefore 123 = .ok (.invokevirtual 230, 3) := by decide +kernel
theorem d_K_compareWithBefore_126 : decode c_K_compareWithBefore 126 = .ok (.iinc 2 1, 3) := by decide +kernel
theorem d_K_compareWithBefore_129 : decode c_K_compareWithBefore 129 = .ok (.goto (-118), 3) := by decide +kernel
theorem d_K_compareWithBefore_132 : decode c_K_compareWithBefore 132 = .ok (.return_, 1) := by decide +kernel
abbrev c_K_countOpen : ByteArray := prog_1_method_26_code
abbrev r_K_countOpen : Option FieldType := (some FieldType.int)
def y_K_countOpen : MethodName := ⟨"PinKindChecks", "countOpen", "()I"⟩
theorem d_K_countOpen_0 : decode c_K_countOpen 0 = .ok (.iconst 0, 1) := by decide +kernel
theorem d_K_countOpen_1 : decode c_K_countOpen 1 = .ok (.istore_n 1, 1) := by decide +kernel
theorem d_K_countOpen_2 : decode c_K_countOpen 2 = .ok (.iconst 0, 1) := by decide +kernel
theorem d_K_countOpen_3 : decode c_K_countOpen 3 = .ok (.istore_n 2, 1) := by decide +kernel
theorem d_K_countOpen_4 : decode c_K_countOpen 4 = .ok (.iload_n 2, 1) := by decide +kernel
theorem d_K_countOpen_5 : decode c_K_countOpen 5 = .ok (.aload_n 0, 1) := by decide +kernel
theorem d_K_countOpen_6 : decode c_K_countOpen 6 = .ok (.getfield 51, 3) := by decide +kernel
theorem d_K_countOpen_9 : decode c_K_countOpen 9 = .ok (.invokevirtual 187, 3) := by decide +kernel
theorem d_K_countOpen_12 : decode c_K_countOpen 12 = .ok (.if_icmp .ge 31, 3) := by decide +kernel
theorem d_K_countOpen_15 : decode c_K_countOpen 15 = .ok (.aload_n 0, 1) := by decide +kernel
theorem d_K_countOpen_16 : decode c_K_countOpen 16 = .ok (.getfield 36, 3) := by decide +kernel
theorem d_K_countOpen_19 : decode c_K_countOpen 19 = .ok (.aload_n 0, 1) := by decide +kernel
theorem d_K_countOpen_20 : decode c_K_countOpen 20 = .ok (.getfield 51, 3) := by decide +kernel
theorem d_K_countOpen_23 : decode c_K_countOpen 23 = .ok (.iload_n 2, 1) := by decide +kernel
theorem d_K_countOpen_24 : decode c_K_countOpen 24 = .ok (.invokevirtual 198, 3) := by decide +kernel
theorem d_K_countOpen_27 : decode c_K_countOpen 27 = .ok (.invokevirtual 201, 3) := by decide +kernel
theorem d_K_countOpen_30 : decode c_K_countOpen 30 = .ok (.iconst (-1), 1) := by decide +kernel
theorem d_K_countOpen_31 : decode c_K_countOpen 31 = .ok (.if_icmp .ne 6, 3) := by decide +kernel
theorem d_K_countOpen_34 : decode c_K_countOpen 34 = .ok (.iinc 1 1, 3) := by decide +kernel
theorem d_K_countOpen_37 : decode c_K_countOpen 37 = .ok (.iinc 2 1, 3) := by decide +kernel
theorem d_K_countOpen_40 : decode c_K_countOpen 40 = .ok (.goto (-36), 3) := by decide +kernel
theorem d_K_countOpen_43 : decode c_K_countOpen 43 = .ok (.iload_n 1, 1) := by decide +kernel
theorem d_K_countOpen_44 : decode c_K_countOpen 44 = .ok (.ireturn, 1) := by decide +kernel
abbrev c_K_next : ByteArray := prog_1_method_16_code
abbrev r_K_next : Option FieldType := (some FieldType.int)
def y_K_next : MethodName := ⟨"PinKindChecks", "next", "()I"⟩
theorem d_K_next_0 : decode c_K_next 0 = .ok (.aload_n 0, 1) := by decide +kernel
theorem d_K_next_1 : decode c_K_next 1 = .ok (.dup, 1) := by decide +kernel
theorem d_K_next_2 : decode c_K_next 2 = .ok (.getfield 61, 3) := by decide +kernel
theorem d_K_next_5 : decode c_K_next 5 = .ok (.iconst 1, 1) := by decide +kernel
theorem d_K_next_6 : decode c_K_next 6 = .ok (.iadd, 1) := by decide +kernel
theorem d_K_next_7 : decode c_K_next 7 = .ok (.putfield 61, 3) := by decide +kernel
theorem d_K_next_10 : decode c_K_next 10 = .ok (.aload_n 0, 1) := by decide +kernel
theorem d_K_next_11 : decode c_K_next 11 = .ok (.getfield 61, 3) := by decide +kernel
theorem d_K_next_14 : decode c_K_next 14 = .ok (.ireturn, 1) := by decide +kernel
abbrev c_K_offRule : ByteArray := prog_1_method_17_code
abbrev r_K_offRule : Option FieldType := (some FieldType.int)
def y_K_offRule : MethodName := ⟨"PinKindChecks", "offRule", "(I)I"⟩
theorem d_K_offRule_0 : decode c_K_offRule 0 = .ok (.iconst 0, 1) := by decide +kernel
theorem d_K_offRule_1 : decode c_K_offRule 1 = .ok (.istore_n 2, 1) := by decide +kernel
theorem d_K_offRule_2 : decode c_K_offRule 2 = .ok (.iconst 0, 1) := by decide +kernel
theorem d_K_offRule_3 : decode c_K_offRule 3 = .ok (.istore_n 3, 1) := by decide +kernel
theorem d_K_offRule_4 : decode c_K_offRule 4 = .ok (.iload_n 3, 1) := by decide +kernel
theorem d_K_offRule_5 : decode c_K_offRule 5 = .ok (.aload_n 0, 1) := by decide +kernel
theorem d_K_offRule_6 : decode c_K_offRule 6 = .ok (.getfield 29, 3) := by decide +kernel
theorem d_K_offRule_9 : decode c_K_offRule 9 = .ok (.arraylength, 1) := by decide +kernel
theorem d_K_offRule_10 : decode c_K_offRule 10 = .ok (.if_icmp .ge 28, 3) := by decide +kernel
theorem d_K_offRule_13 : decode c_K_offRule 13 = .ok (.aload_n 0, 1) := by decide +kernel
theorem d_K_offRule_14 : decode c_K_offRule 14 = .ok (.getfield 29, 3) := by decide +kernel
theorem d_K_offRule_17 : decode c_K_offRule 17 = .ok (.iload_n 3, 1) := by decide +kernel
theorem d_K_offRule_18 : decode c_K_offRule 18 = .ok (.baload, 1) := by decide +kernel
theorem d_K_offRule_19 : decode c_K_offRule 19 = .ok (.ifCond .eq 13, 3) := by decide +kernel
theorem d_K_offRule_22 : decode c_K_offRule 22 = .ok (.iload_n 2, 1) := by decide +kernel
theorem d_K_offRule_23 : decode c_K_offRule 23 = .ok (.iload_n 1, 1) := by decide +kernel
theorem d_K_offRule_24 : decode c_K_offRule 24 = .ok (.if_icmp .ne 5, 3) := by decide +kernel
theorem d_K_offRule_27 : decode c_K_offRule 27 = .ok (.iload_n 3, 1) := by decide +kernel
theorem d_K_offRule_28 : decode c_K_offRule 28 = .ok (.ireturn, 1) := by decide +kernel
theorem d_K_offRule_29 : decode c_K_offRule 29 = .ok (.iinc 2 1, 3) := by decide +kernel
theorem d_K_offRule_32 : decode c_K_offRule 32 = .ok (.iinc 3 1, 3) := by decide +kernel
theorem d_K_offRule_35 : decode c_K_offRule 35 = .ok (.goto (-31), 3) := by decide +kernel
theorem d_K_offRule_38 : decode c_K_offRule 38 = .ok (.iconst (-1), 1) := by decide +kernel
theorem d_K_offRule_39 : decode c_K_offRule 39 = .ok (.ireturn, 1) := by decide +kernel
abbrev c_K_clear : ByteArray := prog_1_method_18_code
abbrev r_K_clear : Option FieldType := none
def y_K_clear : MethodName := ⟨"PinKindChecks", "clear", "()V"⟩
theorem d_K_clear_0 : decode c_K_clear 0 = .ok (.aload_n 0, 1) := by decide +kernel
theorem d_K_clear_1 : decode c_K_clear 1 = .ok (.getfield 12, 3) := by decide +kernel
theorem d_K_clear_4 : decode c_K_clear 4 = .ok (.invokevirtual 225, 3) := by decide +kernel
theorem d_K_clear_7 : decode c_K_clear 7 = .ok (.aload_n 0, 1) := by decide +kernel
theorem d_K_clear_8 : decode c_K_clear 8 = .ok (.getfield 19, 3) := by decide +kernel
theorem d_K_clear_11 : decode c_K_clear 11 = .ok (.invokevirtual 154, 3) := by decide +kernel
theorem d_K_clear_14 : decode c_K_clear 14 = .ok (.aload_n 0, 1) := by decide +kernel
theorem d_K_clear_15 : decode c_K_clear 15 = .ok (.getfield 36, 3) := by decide +kernel
theorem d_K_clear_18 : decode c_K_clear 18 = .ok (.invokevirtual 226, 3) := by decide +kernel
theorem d_K_clear_21 : decode c_K_clear 21 = .ok (.aload_n 0, 1) := by decide +kernel
theorem d_K_clear_22 : decode c_K_clear 22 = .ok (.getfield 51, 3) := by decide +kernel
theorem d_K_clear_25 : decode c_K_clear 25 = .ok (.invokevirtual 169, 3) := by decide +kernel
theorem d_K_clear_28 : decode c_K_clear 28 = .ok (.aload_n 0, 1) := by decide +kernel
theorem d_K_clear_29 : decode c_K_clear 29 = .ok (.getfield 54, 3) := by decide +kernel
theorem d_K_clear_32 : decode c_K_clear 32 = .ok (.invokevirtual 169, 3) := by decide +kernel
theorem d_K_clear_35 : decode c_K_clear 35 = .ok (.aload_n 0, 1) := by decide +kernel
theorem d_K_clear_36 : decode c_K_clear 36 = .ok (.getfield 43, 3) := by decide +kernel
theorem d_K_clear_39 : decode c_K_clear 39 = .ok (.invokevirtual 169, 3) := by decide +kernel
theorem d_K_clear_42 : decode c_K_clear 42 = .ok (.iconst 0, 1) := by decide +kernel
theorem d_K_clear_43 : decode c_K_clear 43 = .ok (.istore_n 1, 1) := by decide +kernel
theorem d_K_clear_44 : decode c_K_clear 44 = .ok (.iload_n 1, 1) := by decide +kernel
theorem d_K_clear_45 : decode c_K_clear 45 = .ok (.aload_n 0, 1) := by decide +kernel
theorem d_K_clear_46 : decode c_K_clear 46 = .ok (.getfield 29, 3) := by decide +kernel
theorem d_K_clear_49 : decode c_K_clear 49 = .ok (.arraylength, 1) := by decide +kernel
theorem d_K_clear_50 : decode c_K_clear 50 = .ok (.if_icmp .ge 16, 3) := by decide +kernel
theorem d_K_clear_53 : decode c_K_clear 53 = .ok (.aload_n 0, 1) := by decide +kernel
theorem d_K_clear_54 : decode c_K_clear 54 = .ok (.getfield 29, 3) := by decide +kernel
theorem d_K_clear_57 : decode c_K_clear 57 = .ok (.iload_n 1, 1) := by decide +kernel
theorem d_K_clear_58 : decode c_K_clear 58 = .ok (.iconst 0, 1) := by decide +kernel
theorem d_K_clear_59 : decode c_K_clear 59 = .ok (.bastore, 1) := by decide +kernel
theorem d_K_clear_60 : decode c_K_clear 60 = .ok (.iinc 1 1, 3) := by decide +kernel
theorem d_K_clear_63 : decode c_K_clear 63 = .ok (.goto (-19), 3) := by decide +kernel
theorem d_K_clear_66 : decode c_K_clear 66 = .ok (.aload_n 0, 1) := by decide +kernel
theorem d_K_clear_67 : decode c_K_clear 67 = .ok (.iconst 0, 1) := by decide +kernel
theorem d_K_clear_68 : decode c_K_clear 68 = .ok (.putfield 57, 3) := by decide +kernel
theorem d_K_clear_71 : decode c_K_clear 71 = .ok (.aload_n 0, 1) := by decide +kernel
theorem d_K_clear_72 : decode c_K_clear 72 = .ok (.iconst 1, 1) := by decide +kernel
theorem d_K_clear_73 : decode c_K_clear 73 = .ok (.putfield 61, 3) := by decide +kernel
theorem d_K_clear_76 : decode c_K_clear 76 = .ok (.return_, 1) := by decide +kernel
abbrev c_K_table : ByteArray := prog_1_method_2_code
abbrev r_K_table : Option FieldType := (some FieldType.boolean)
def y_K_table : MethodName := ⟨"PinKindChecks", "table", "(III)Z"⟩
theorem d_K_table_0 : decode c_K_table 0 = .ok (.iload_n 1, 1) := by decide +kernel
theorem d_K_table_1 : decode c_K_table 1 = .ok (.bipush 10, 2) := by decide +kernel
theorem d_K_table_3 : decode c_K_table 3 = .ok (.invokestatic 64, 3) := by decide +kernel
theorem d_K_table_6 : decode c_K_table 6 = .ok (.ifCond .eq 12, 3) := by decide +kernel
theorem d_K_table_9 : decode c_K_table 9 = .ok (.iload_n 2, 1) := by decide +kernel
theorem d_K_table_10 : decode c_K_table 10 = .ok (.bipush 10, 2) := by decide +kernel
theorem d_K_table_12 : decode c_K_table 12 = .ok (.invokestatic 64, 3) := by decide +kernel
theorem d_K_table_15 : decode c_K_table 15 = .ok (.ifCond .ne 13, 3) := by decide +kernel
theorem d_K_table_18 : decode c_K_table 18 = .ok (.new 68, 3) := by decide +kernel
theorem d_K_table_21 : decode c_K_table 21 = .ok (.dup, 1) := by decide +kernel
theorem d_K_table_22 : decode c_K_table 22 = .ok (.ldc 70, 2) := by decide +kernel
theorem d_K_table_24 : decode c_K_table 24 = .ok (.invokespecial 72, 3) := by decide +kernel
theorem d_K_table_27 : decode c_K_table 27 = .ok (.athrow, 1) := by decide +kernel
theorem d_K_table_28 : decode c_K_table 28 = .ok (.iload_n 3, 1) := by decide +kernel
theorem d_K_table_29 : decode c_K_table 29 = .ok (.iconst 3, 1) := by decide +kernel
theorem d_K_table_30 : decode c_K_table 30 = .ok (.invokestatic 64, 3) := by decide +kernel
theorem d_K_table_33 : decode c_K_table 33 = .ok (.ifCond .ne 13, 3) := by decide +kernel
theorem d_K_table_36 : decode c_K_table 36 = .ok (.new 75, 3) := by decide +kernel
theorem d_K_table_39 : decode c_K_table 39 = .ok (.dup, 1) := by decide +kernel
theorem d_K_table_40 : decode c_K_table 40 = .ok (.ldc 77, 2) := by decide +kernel
theorem d_K_table_42 : decode c_K_table 42 = .ok (.invokespecial 79, 3) := by decide +kernel
theorem d_K_table_45 : decode c_K_table 45 = .ok (.athrow, 1) := by decide +kernel
theorem d_K_table_46 : decode c_K_table 46 = .ok (.aload_n 0, 1) := by decide +kernel
theorem d_K_table_47 : decode c_K_table 47 = .ok (.getfield 12, 3) := by decide +kernel
theorem d_K_table_50 : decode c_K_table 50 = .ok (.iload_n 1, 1) := by decide +kernel
theorem d_K_table_51 : decode c_K_table 51 = .ok (.iload_n 2, 1) := by decide +kernel
theorem d_K_table_52 : decode c_K_table 52 = .ok (.iload_n 3, 1) := by decide +kernel
theorem d_K_table_53 : decode c_K_table 53 = .ok (.invokevirtual 80, 3) := by decide +kernel
theorem d_K_table_56 : decode c_K_table 56 = .ok (.ireturn, 1) := by decide +kernel
abbrev c_K_part : ByteArray := prog_1_method_3_code
abbrev r_K_part : Option FieldType := (some FieldType.int)
def y_K_part : MethodName := ⟨"PinKindChecks", "part", "(I)I"⟩
theorem d_K_part_0 : decode c_K_part 0 = .ok (.iload_n 1, 1) := by decide +kernel
theorem d_K_part_1 : decode c_K_part 1 = .ok (.bipush 16, 2) := by decide +kernel
theorem d_K_part_3 : decode c_K_part 3 = .ok (.invokestatic 64, 3) := by decide +kernel
theorem d_K_part_6 : decode c_K_part 6 = .ok (.ifCond .ne 13, 3) := by decide +kernel
theorem d_K_part_9 : decode c_K_part 9 = .ok (.new 68, 3) := by decide +kernel
theorem d_K_part_12 : decode c_K_part 12 = .ok (.dup, 1) := by decide +kernel
theorem d_K_part_13 : decode c_K_part 13 = .ok (.ldc 84, 2) := by decide +kernel
theorem d_K_part_15 : decode c_K_part 15 = .ok (.invokespecial 72, 3) := by decide +kernel
theorem d_K_part_18 : decode c_K_part 18 = .ok (.athrow, 1) := by decide +kernel
theorem d_K_part_19 : decode c_K_part 19 = .ok (.aload_n 0, 1) := by decide +kernel
theorem d_K_part_20 : decode c_K_part 20 = .ok (.getfield 12, 3) := by decide +kernel
theorem d_K_part_23 : decode c_K_part 23 = .ok (.iload_n 1, 1) := by decide +kernel
theorem d_K_part_24 : decode c_K_part 24 = .ok (.invokevirtual 86, 3) := by decide +kernel
theorem d_K_part_27 : decode c_K_part 27 = .ok (.ireturn, 1) := by decide +kernel
abbrev c_K_net : ByteArray := prog_1_method_4_code
abbrev r_K_net : Option FieldType := (some FieldType.int)
def y_K_net : MethodName := ⟨"PinKindChecks", "net", "(II)I"⟩
theorem d_K_net_0 : decode c_K_net 0 = .ok (.iload_n 1, 1) := by decide +kernel
theorem d_K_net_1 : decode c_K_net 1 = .ok (.bipush 16, 2) := by decide +kernel
theorem d_K_net_3 : decode c_K_net 3 = .ok (.invokestatic 64, 3) := by decide +kernel
theorem d_K_net_6 : decode c_K_net 6 = .ok (.ifCond .ne 13, 3) := by decide +kernel
theorem d_K_net_9 : decode c_K_net 9 = .ok (.new 68, 3) := by decide +kernel
theorem d_K_net_12 : decode c_K_net 12 = .ok (.dup, 1) := by decide +kernel
theorem d_K_net_13 : decode c_K_net 13 = .ok (.ldc 84, 2) := by decide +kernel
theorem d_K_net_15 : decode c_K_net 15 = .ok (.invokespecial 72, 3) := by decide +kernel
theorem d_K_net_18 : decode c_K_net 18 = .ok (.athrow, 1) := by decide +kernel
theorem d_K_net_19 : decode c_K_net 19 = .ok (.iload_n 2, 1) := by decide +kernel
theorem d_K_net_20 : decode c_K_net 20 = .ok (.sipush 1000, 3) := by decide +kernel
theorem d_K_net_23 : decode c_K_net 23 = .ok (.invokestatic 64, 3) := by decide +kernel
theorem d_K_net_26 : decode c_K_net 26 = .ok (.ifCond .ne 13, 3) := by decide +kernel
theorem d_K_net_29 : decode c_K_net 29 = .ok (.new 75, 3) := by decide +kernel
theorem d_K_net_32 : decode c_K_net 32 = .ok (.dup, 1) := by decide +kernel
theorem d_K_net_33 : decode c_K_net 33 = .ok (.ldc 90, 2) := by decide +kernel
theorem d_K_net_35 : decode c_K_net 35 = .ok (.invokespecial 79, 3) := by decide +kernel
theorem d_K_net_38 : decode c_K_net 38 = .ok (.athrow, 1) := by decide +kernel
theorem d_K_net_39 : decode c_K_net 39 = .ok (.aload_n 0, 1) := by decide +kernel
theorem d_K_net_40 : decode c_K_net 40 = .ok (.getfield 12, 3) := by decide +kernel
theorem d_K_net_43 : decode c_K_net 43 = .ok (.iload_n 1, 1) := by decide +kernel
theorem d_K_net_44 : decode c_K_net 44 = .ok (.iload_n 2, 1) := by decide +kernel
theorem d_K_net_45 : decode c_K_net 45 = .ok (.invokevirtual 92, 3) := by decide +kernel
theorem d_K_net_48 : decode c_K_net 48 = .ok (.ireturn, 1) := by decide +kernel
abbrev c_K_pin : ByteArray := prog_1_method_5_code
abbrev r_K_pin : Option FieldType := (some FieldType.int)
def y_K_pin : MethodName := ⟨"PinKindChecks", "pin", "(III)I"⟩
theorem d_K_pin_0 : decode c_K_pin 0 = .ok (.aload_n 0, 1) := by decide +kernel
theorem d_K_pin_1 : decode c_K_pin 1 = .ok (.getfield 12, 3) := by decide +kernel
theorem d_K_pin_4 : decode c_K_pin 4 = .ok (.iload_n 1, 1) := by decide +kernel
theorem d_K_pin_5 : decode c_K_pin 5 = .ok (.invokevirtual 96, 3) := by decide +kernel
theorem d_K_pin_8 : decode c_K_pin 8 = .ok (.astore 4, 2) := by decide +kernel
theorem d_K_pin_10 : decode c_K_pin 10 = .ok (.aload 4, 2) := by decide +kernel
theorem d_K_pin_12 : decode c_K_pin 12 = .ok (.ifnull 11, 3) := by decide +kernel
theorem d_K_pin_15 : decode c_K_pin 15 = .ok (.aload_n 0, 1) := by decide +kernel
theorem d_K_pin_16 : decode c_K_pin 16 = .ok (.iload_n 2, 1) := by decide +kernel
theorem d_K_pin_17 : decode c_K_pin 17 = .ok (.invokevirtual 100, 3) := by decide +kernel
theorem d_K_pin_20 : decode c_K_pin 20 = .ok (.ifCond .ne 13, 3) := by decide +kernel
theorem d_K_pin_23 : decode c_K_pin 23 = .ok (.new 68, 3) := by decide +kernel
theorem d_K_pin_26 : decode c_K_pin 26 = .ok (.dup, 1) := by decide +kernel
theorem d_K_pin_27 : decode c_K_pin 27 = .ok (.ldc 104, 2) := by decide +kernel
theorem d_K_pin_29 : decode c_K_pin 29 = .ok (.invokespecial 72, 3) := by decide +kernel
theorem d_K_pin_32 : decode c_K_pin 32 = .ok (.athrow, 1) := by decide +kernel
theorem d_K_pin_33 : decode c_K_pin 33 = .ok (.iload_n 3, 1) := by decide +kernel
theorem d_K_pin_34 : decode c_K_pin 34 = .ok (.bipush 10, 2) := by decide +kernel
theorem d_K_pin_36 : decode c_K_pin 36 = .ok (.invokestatic 64, 3) := by decide +kernel
theorem d_K_pin_39 : decode c_K_pin 39 = .ok (.ifCond .ne 13, 3) := by decide +kernel
theorem d_K_pin_42 : decode c_K_pin 42 = .ok (.new 75, 3) := by decide +kernel
theorem d_K_pin_45 : decode c_K_pin 45 = .ok (.dup, 1) := by decide +kernel
theorem d_K_pin_46 : decode c_K_pin 46 = .ok (.ldc 106, 2) := by decide +kernel
theorem d_K_pin_48 : decode c_K_pin 48 = .ok (.invokespecial 79, 3) := by decide +kernel
theorem d_K_pin_51 : decode c_K_pin 51 = .ok (.athrow, 1) := by decide +kernel
theorem d_K_pin_52 : decode c_K_pin 52 = .ok (.aload_n 0, 1) := by decide +kernel
theorem d_K_pin_53 : decode c_K_pin 53 = .ok (.getfield 12, 3) := by decide +kernel
theorem d_K_pin_56 : decode c_K_pin 56 = .ok (.aload 4, 2) := by decide +kernel
theorem d_K_pin_58 : decode c_K_pin 58 = .ok (.aload_n 0, 1) := by decide +kernel
theorem d_K_pin_59 : decode c_K_pin 59 = .ok (.getfield 12, 3) := by decide +kernel
theorem d_K_pin_62 : decode c_K_pin 62 = .ok (.iload_n 2, 1) := by decide +kernel
theorem d_K_pin_63 : decode c_K_pin 63 = .ok (.invokevirtual 108, 3) := by decide +kernel
theorem d_K_pin_66 : decode c_K_pin 66 = .ok (.iload_n 3, 1) := by decide +kernel
theorem d_K_pin_67 : decode c_K_pin 67 = .ok (.invokevirtual 112, 3) := by decide +kernel
theorem d_K_pin_70 : decode c_K_pin 70 = .ok (.ireturn, 1) := by decide +kernel
abbrev c_K_isNetOrNone : ByteArray := prog_1_method_20_code
abbrev r_K_isNetOrNone : Option FieldType := (some FieldType.boolean)
def y_K_isNetOrNone : MethodName := ⟨"PinKindChecks", "isNetOrNone", "(I)Z"⟩
theorem d_K_isNetOrNone_0 : decode c_K_isNetOrNone 0 = .ok (.iload_n 1, 1) := by decide +kernel
theorem d_K_isNetOrNone_1 : decode c_K_isNetOrNone 1 = .ok (.iconst (-1), 1) := by decide +kernel
theorem d_K_isNetOrNone_2 : decode c_K_isNetOrNone 2 = .ok (.if_icmp .eq 14, 3) := by decide +kernel
theorem d_K_isNetOrNone_5 : decode c_K_isNetOrNone 5 = .ok (.aload_n 0, 1) := by decide +kernel
theorem d_K_isNetOrNone_6 : decode c_K_isNetOrNone 6 = .ok (.getfield 12, 3) := by decide +kernel
theorem d_K_isNetOrNone_9 : decode c_K_isNetOrNone 9 = .ok (.iload_n 1, 1) := by decide +kernel
theorem d_K_isNetOrNone_10 : decode c_K_isNetOrNone 10 = .ok (.invokevirtual 108, 3) := by decide +kernel
theorem d_K_isNetOrNone_13 : decode c_K_isNetOrNone 13 = .ok (.ifnull 7, 3) := by decide +kernel
theorem d_K_isNetOrNone_16 : decode c_K_isNetOrNone 16 = .ok (.iconst 1, 1) := by decide +kernel
theorem d_K_isNetOrNone_17 : decode c_K_isNetOrNone 17 = .ok (.goto 4, 3) := by decide +kernel
theorem d_K_isNetOrNone_20 : decode c_K_isNetOrNone 20 = .ok (.iconst 0, 1) := by decide +kernel
theorem d_K_isNetOrNone_21 : decode c_K_isNetOrNone 21 = .ok (.ireturn, 1) := by decide +kernel
abbrev c_K_join : ByteArray := prog_1_method_6_code
abbrev r_K_join : Option FieldType := (some FieldType.boolean)
def y_K_join : MethodName := ⟨"PinKindChecks", "join", "(II)Z"⟩
theorem d_K_join_0 : decode c_K_join 0 = .ok (.aload_n 0, 1) := by decide +kernel
theorem d_K_join_1 : decode c_K_join 1 = .ok (.getfield 12, 3) := by decide +kernel
theorem d_K_join_4 : decode c_K_join 4 = .ok (.iload_n 1, 1) := by decide +kernel
theorem d_K_join_5 : decode c_K_join 5 = .ok (.invokevirtual 116, 3) := by decide +kernel
theorem d_K_join_8 : decode c_K_join 8 = .ok (.astore_n 3, 1) := by decide +kernel
theorem d_K_join_9 : decode c_K_join 9 = .ok (.aload_n 3, 1) := by decide +kernel
theorem d_K_join_10 : decode c_K_join 10 = .ok (.ifnull 11, 3) := by decide +kernel
theorem d_K_join_13 : decode c_K_join 13 = .ok (.aload_n 0, 1) := by decide +kernel
theorem d_K_join_14 : decode c_K_join 14 = .ok (.iload_n 2, 1) := by decide +kernel
theorem d_K_join_15 : decode c_K_join 15 = .ok (.invokevirtual 100, 3) := by decide +kernel
theorem d_K_join_18 : decode c_K_join 18 = .ok (.ifCond .ne 13, 3) := by decide +kernel
theorem d_K_join_21 : decode c_K_join 21 = .ok (.new 68, 3) := by decide +kernel
theorem d_K_join_24 : decode c_K_join 24 = .ok (.dup, 1) := by decide +kernel
theorem d_K_join_25 : decode c_K_join 25 = .ok (.ldc 120, 2) := by decide +kernel
theorem d_K_join_27 : decode c_K_join 27 = .ok (.invokespecial 72, 3) := by decide +kernel
theorem d_K_join_30 : decode c_K_join 30 = .ok (.athrow, 1) := by decide +kernel
theorem d_K_join_31 : decode c_K_join 31 = .ok (.aload_n 3, 1) := by decide +kernel
theorem d_K_join_32 : decode c_K_join 32 = .ok (.aload_n 0, 1) := by decide +kernel
theorem d_K_join_33 : decode c_K_join 33 = .ok (.getfield 12, 3) := by decide +kernel
theorem d_K_join_36 : decode c_K_join 36 = .ok (.iload_n 2, 1) := by decide +kernel
theorem d_K_join_37 : decode c_K_join 37 = .ok (.invokevirtual 108, 3) := by decide +kernel
theorem d_K_join_40 : decode c_K_join 40 = .ok (.invokevirtual 122, 3) := by decide +kernel
theorem d_K_join_43 : decode c_K_join 43 = .ok (.ireturn, 1) := by decide +kernel
abbrev c_K_field : ByteArray := prog_1_method_7_code
abbrev r_K_field : Option FieldType := (some FieldType.boolean)
def y_K_field : MethodName := ⟨"PinKindChecks", "field", "(IIJ)Z"⟩
theorem d_K_field_0 : decode c_K_field 0 = .ok (.aload_n 0, 1) := by decide +kernel
theorem d_K_field_1 : decode c_K_field 1 = .ok (.getfield 12, 3) := by decide +kernel
theorem d_K_field_4 : decode c_K_field 4 = .ok (.iload_n 1, 1) := by decide +kernel
theorem d_K_field_5 : decode c_K_field 5 = .ok (.invokevirtual 96, 3) := by decide +kernel
theorem d_K_field_8 : decode c_K_field 8 = .ok (.astore 5, 2) := by decide +kernel
theorem d_K_field_10 : decode c_K_field 10 = .ok (.aload 5, 2) := by decide +kernel
theorem d_K_field_12 : decode c_K_field 12 = .ok (.ifnull 12, 3) := by decide +kernel
theorem d_K_field_15 : decode c_K_field 15 = .ok (.iload_n 2, 1) := by decide +kernel
theorem d_K_field_16 : decode c_K_field 16 = .ok (.bipush 8, 2) := by decide +kernel
theorem d_K_field_18 : decode c_K_field 18 = .ok (.invokestatic 64, 3) := by decide +kernel
theorem d_K_field_21 : decode c_K_field 21 = .ok (.ifCond .ne 13, 3) := by decide +kernel
theorem d_K_field_24 : decode c_K_field 24 = .ok (.new 68, 3) := by decide +kernel
theorem d_K_field_27 : decode c_K_field 27 = .ok (.dup, 1) := by decide +kernel
theorem d_K_field_28 : decode c_K_field 28 = .ok (.ldc 128, 2) := by decide +kernel
theorem d_K_field_30 : decode c_K_field 30 = .ok (.invokespecial 72, 3) := by decide +kernel
theorem d_K_field_33 : decode c_K_field 33 = .ok (.athrow, 1) := by decide +kernel
theorem d_K_field_34 : decode c_K_field 34 = .ok (.aload 5, 2) := by decide +kernel
theorem d_K_field_36 : decode c_K_field 36 = .ok (.iload_n 2, 1) := by decide +kernel
theorem d_K_field_37 : decode c_K_field 37 = .ok (.lload_n 3, 1) := by decide +kernel
theorem d_K_field_38 : decode c_K_field 38 = .ok (.invokevirtual 130, 3) := by decide +kernel
theorem d_K_field_41 : decode c_K_field 41 = .ok (.ireturn, 1) := by decide +kernel
abbrev c_K_end : ByteArray := prog_1_method_8_code
abbrev r_K_end : Option FieldType := (some FieldType.boolean)
def y_K_end : MethodName := ⟨"PinKindChecks", "end", "(IJJ)Z"⟩
theorem d_K_end_0 : decode c_K_end 0 = .ok (.aload_n 0, 1) := by decide +kernel
theorem d_K_end_1 : decode c_K_end 1 = .ok (.getfield 12, 3) := by decide +kernel
theorem d_K_end_4 : decode c_K_end 4 = .ok (.iload_n 1, 1) := by decide +kernel
theorem d_K_end_5 : decode c_K_end 5 = .ok (.invokevirtual 108, 3) := by decide +kernel
theorem d_K_end_8 : decode c_K_end 8 = .ok (.astore 6, 2) := by decide +kernel
theorem d_K_end_10 : decode c_K_end 10 = .ok (.aload 6, 2) := by decide +kernel
theorem d_K_end_12 : decode c_K_end 12 = .ok (.ifnonnull 13, 3) := by decide +kernel
theorem d_K_end_15 : decode c_K_end 15 = .ok (.new 68, 3) := by decide +kernel
theorem d_K_end_18 : decode c_K_end 18 = .ok (.dup, 1) := by decide +kernel
theorem d_K_end_19 : decode c_K_end 19 = .ok (.ldc 136, 2) := by decide +kernel
theorem d_K_end_21 : decode c_K_end 21 = .ok (.invokespecial 72, 3) := by decide +kernel
theorem d_K_end_24 : decode c_K_end 24 = .ok (.athrow, 1) := by decide +kernel
theorem d_K_end_25 : decode c_K_end 25 = .ok (.aload_n 0, 1) := by decide +kernel
theorem d_K_end_26 : decode c_K_end 26 = .ok (.getfield 12, 3) := by decide +kernel
theorem d_K_end_29 : decode c_K_end 29 = .ok (.aload 6, 2) := by decide +kernel
theorem d_K_end_31 : decode c_K_end 31 = .ok (.lload_n 2, 1) := by decide +kernel
theorem d_K_end_32 : decode c_K_end 32 = .ok (.lload 4, 2) := by decide +kernel
theorem d_K_end_34 : decode c_K_end 34 = .ok (.invokevirtual 138, 3) := by decide +kernel
theorem d_K_end_37 : decode c_K_end 37 = .ok (.ireturn, 1) := by decide +kernel
abbrev c_K_rule : ByteArray := prog_1_method_10_code
abbrev r_K_rule : Option FieldType := (some FieldType.int)
def y_K_rule : MethodName := ⟨"PinKindChecks", "rule", "()I"⟩
theorem d_K_rule_0 : decode c_K_rule 0 = .ok (.aload_n 0, 1) := by decide +kernel
theorem d_K_rule_1 : decode c_K_rule 1 = .ok (.getfield 57, 3) := by decide +kernel
theorem d_K_rule_4 : decode c_K_rule 4 = .ok (.aload_n 0, 1) := by decide +kernel
theorem d_K_rule_5 : decode c_K_rule 5 = .ok (.getfield 25, 3) := by decide +kernel
theorem d_K_rule_8 : decode c_K_rule 8 = .ok (.arraylength, 1) := by decide +kernel
theorem d_K_rule_9 : decode c_K_rule 9 = .ok (.if_icmp .lt 13, 3) := by decide +kernel
theorem d_K_rule_12 : decode c_K_rule 12 = .ok (.new 145, 3) := by decide +kernel
theorem d_K_rule_15 : decode c_K_rule 15 = .ok (.dup, 1) := by decide +kernel
theorem d_K_rule_16 : decode c_K_rule 16 = .ok (.ldc 147, 2) := by decide +kernel
theorem d_K_rule_18 : decode c_K_rule 18 = .ok (.invokespecial 149, 3) := by decide +kernel
theorem d_K_rule_21 : decode c_K_rule 21 = .ok (.athrow, 1) := by decide +kernel
theorem d_K_rule_22 : decode c_K_rule 22 = .ok (.aload_n 0, 1) := by decide +kernel
theorem d_K_rule_23 : decode c_K_rule 23 = .ok (.getfield 19, 3) := by decide +kernel
theorem d_K_rule_26 : decode c_K_rule 26 = .ok (.invokevirtual 150, 3) := by decide +kernel
theorem d_K_rule_29 : decode c_K_rule 29 = .ok (.astore_n 1, 1) := by decide +kernel
theorem d_K_rule_30 : decode c_K_rule 30 = .ok (.aload_n 0, 1) := by decide +kernel
theorem d_K_rule_31 : decode c_K_rule 31 = .ok (.getfield 19, 3) := by decide +kernel
theorem d_K_rule_34 : decode c_K_rule 34 = .ok (.invokevirtual 154, 3) := by decide +kernel
theorem d_K_rule_37 : decode c_K_rule 37 = .ok (.aload_n 1, 1) := by decide +kernel
theorem d_K_rule_38 : decode c_K_rule 38 = .ok (.ifnonnull 13, 3) := by decide +kernel
theorem d_K_rule_41 : decode c_K_rule 41 = .ok (.iconst (-1), 1) := by decide +kernel
theorem d_K_rule_42 : decode c_K_rule 42 = .ok (.aload_n 0, 1) := by decide +kernel
theorem d_K_rule_43 : decode c_K_rule 43 = .ok (.getfield 19, 3) := by decide +kernel
theorem d_K_rule_46 : decode c_K_rule 46 = .ok (.invokevirtual 157, 3) := by decide +kernel
theorem d_K_rule_49 : decode c_K_rule 49 = .ok (.isub, 1) := by decide +kernel
theorem d_K_rule_50 : decode c_K_rule 50 = .ok (.ireturn, 1) := by decide +kernel
theorem d_K_rule_51 : decode c_K_rule 51 = .ok (.aload_n 0, 1) := by decide +kernel
theorem d_K_rule_52 : decode c_K_rule 52 = .ok (.getfield 25, 3) := by decide +kernel
theorem d_K_rule_55 : decode c_K_rule 55 = .ok (.aload_n 0, 1) := by decide +kernel
theorem d_K_rule_56 : decode c_K_rule 56 = .ok (.getfield 57, 3) := by decide +kernel
theorem d_K_rule_59 : decode c_K_rule 59 = .ok (.aload_n 1, 1) := by decide +kernel
theorem d_K_rule_60 : decode c_K_rule 60 = .ok (.aastore, 1) := by decide +kernel
theorem d_K_rule_61 : decode c_K_rule 61 = .ok (.aload_n 0, 1) := by decide +kernel
theorem d_K_rule_62 : decode c_K_rule 62 = .ok (.dup, 1) := by decide +kernel
theorem d_K_rule_63 : decode c_K_rule 63 = .ok (.getfield 57, 3) := by decide +kernel
theorem d_K_rule_66 : decode c_K_rule 66 = .ok (.iconst 1, 1) := by decide +kernel
theorem d_K_rule_67 : decode c_K_rule 67 = .ok (.iadd, 1) := by decide +kernel
theorem d_K_rule_68 : decode c_K_rule 68 = .ok (.putfield 57, 3) := by decide +kernel
theorem d_K_rule_71 : decode c_K_rule 71 = .ok (.aload_n 0, 1) := by decide +kernel
theorem d_K_rule_72 : decode c_K_rule 72 = .ok (.invokevirtual 161, 3) := by decide +kernel
theorem d_K_rule_75 : decode c_K_rule 75 = .ok (.iconst 1, 1) := by decide +kernel
theorem d_K_rule_76 : decode c_K_rule 76 = .ok (.isub, 1) := by decide +kernel
theorem d_K_rule_77 : decode c_K_rule 77 = .ok (.ireturn, 1) := by decide +kernel
abbrev c_K_off : ByteArray := prog_1_method_11_code
abbrev r_K_off : Option FieldType := (some FieldType.boolean)
def y_K_off : MethodName := ⟨"PinKindChecks", "off", "(IZ)Z"⟩
theorem d_K_off_0 : decode c_K_off 0 = .ok (.aload_n 0, 1) := by decide +kernel
theorem d_K_off_1 : decode c_K_off 1 = .ok (.iload_n 1, 1) := by decide +kernel
theorem d_K_off_2 : decode c_K_off 2 = .ok (.invokevirtual 164, 3) := by decide +kernel
theorem d_K_off_5 : decode c_K_off 5 = .ok (.ifCond .ne 13, 3) := by decide +kernel
theorem d_K_off_8 : decode c_K_off 8 = .ok (.new 68, 3) := by decide +kernel
theorem d_K_off_11 : decode c_K_off 11 = .ok (.dup, 1) := by decide +kernel
theorem d_K_off_12 : decode c_K_off 12 = .ok (.ldc 167, 2) := by decide +kernel
theorem d_K_off_14 : decode c_K_off 14 = .ok (.invokespecial 72, 3) := by decide +kernel
theorem d_K_off_17 : decode c_K_off 17 = .ok (.athrow, 1) := by decide +kernel
theorem d_K_off_18 : decode c_K_off 18 = .ok (.aload_n 0, 1) := by decide +kernel
theorem d_K_off_19 : decode c_K_off 19 = .ok (.getfield 29, 3) := by decide +kernel
theorem d_K_off_22 : decode c_K_off 22 = .ok (.iload_n 1, 1) := by decide +kernel
theorem d_K_off_23 : decode c_K_off 23 = .ok (.baload, 1) := by decide +kernel
theorem d_K_off_24 : decode c_K_off 24 = .ok (.iload_n 2, 1) := by decide +kernel
theorem d_K_off_25 : decode c_K_off 25 = .ok (.if_icmp .eq 7, 3) := by decide +kernel
theorem d_K_off_28 : decode c_K_off 28 = .ok (.iconst 1, 1) := by decide +kernel
theorem d_K_off_29 : decode c_K_off 29 = .ok (.goto 4, 3) := by decide +kernel
theorem d_K_off_32 : decode c_K_off 32 = .ok (.iconst 0, 1) := by decide +kernel
theorem d_K_off_33 : decode c_K_off 33 = .ok (.istore_n 3, 1) := by decide +kernel
theorem d_K_off_34 : decode c_K_off 34 = .ok (.aload_n 0, 1) := by decide +kernel
theorem d_K_off_35 : decode c_K_off 35 = .ok (.getfield 29, 3) := by decide +kernel
theorem d_K_off_38 : decode c_K_off 38 = .ok (.iload_n 1, 1) := by decide +kernel
theorem d_K_off_39 : decode c_K_off 39 = .ok (.iload_n 2, 1) := by decide +kernel
theorem d_K_off_40 : decode c_K_off 40 = .ok (.bastore, 1) := by decide +kernel
theorem d_K_off_41 : decode c_K_off 41 = .ok (.iload_n 3, 1) := by decide +kernel
theorem d_K_off_42 : decode c_K_off 42 = .ok (.ireturn, 1) := by decide +kernel
abbrev c_K_isRule : ByteArray := prog_1_method_22_code
abbrev r_K_isRule : Option FieldType := (some FieldType.boolean)
def y_K_isRule : MethodName := ⟨"PinKindChecks", "isRule", "(I)Z"⟩
theorem d_K_isRule_0 : decode c_K_isRule 0 = .ok (.iload_n 1, 1) := by decide +kernel
theorem d_K_isRule_1 : decode c_K_isRule 1 = .ok (.aload_n 0, 1) := by decide +kernel
theorem d_K_isRule_2 : decode c_K_isRule 2 = .ok (.invokevirtual 161, 3) := by decide +kernel
theorem d_K_isRule_5 : decode c_K_isRule 5 = .ok (.invokestatic 64, 3) := by decide +kernel
theorem d_K_isRule_8 : decode c_K_isRule 8 = .ok (.ifCond .eq 16, 3) := by decide +kernel
theorem d_K_isRule_11 : decode c_K_isRule 11 = .ok (.iload_n 1, 1) := by decide +kernel
theorem d_K_isRule_12 : decode c_K_isRule 12 = .ok (.aload_n 0, 1) := by decide +kernel
theorem d_K_isRule_13 : decode c_K_isRule 13 = .ok (.getfield 29, 3) := by decide +kernel
theorem d_K_isRule_16 : decode c_K_isRule 16 = .ok (.arraylength, 1) := by decide +kernel
theorem d_K_isRule_17 : decode c_K_isRule 17 = .ok (.if_icmp .ge 7, 3) := by decide +kernel
theorem d_K_isRule_20 : decode c_K_isRule 20 = .ok (.iconst 1, 1) := by decide +kernel
theorem d_K_isRule_21 : decode c_K_isRule 21 = .ok (.goto 4, 3) := by decide +kernel
theorem d_K_isRule_24 : decode c_K_isRule 24 = .ok (.iconst 0, 1) := by decide +kernel
theorem d_K_isRule_25 : decode c_K_isRule 25 = .ok (.ireturn, 1) := by decide +kernel
abbrev c_K_remark : ByteArray := prog_1_method_13_code
abbrev r_K_remark : Option FieldType := (some FieldType.int)
def y_K_remark : MethodName := ⟨"PinKindChecks", "remark", "(II)I"⟩
theorem d_K_remark_0 : decode c_K_remark 0 = .ok (.iload_n 1, 1) := by decide +kernel
theorem d_K_remark_1 : decode c_K_remark 1 = .ok (.aload_n 0, 1) := by decide +kernel
theorem d_K_remark_2 : decode c_K_remark 2 = .ok (.getfield 51, 3) := by decide +kernel
theorem d_K_remark_5 : decode c_K_remark 5 = .ok (.invokevirtual 187, 3) := by decide +kernel
theorem d_K_remark_8 : decode c_K_remark 8 = .ok (.invokestatic 64, 3) := by decide +kernel
theorem d_K_remark_11 : decode c_K_remark 11 = .ok (.ifCond .eq 12, 3) := by decide +kernel
theorem d_K_remark_14 : decode c_K_remark 14 = .ok (.iload_n 2, 1) := by decide +kernel
theorem d_K_remark_15 : decode c_K_remark 15 = .ok (.bipush 6, 2) := by decide +kernel
theorem d_K_remark_17 : decode c_K_remark 17 = .ok (.invokestatic 64, 3) := by decide +kernel
theorem d_K_remark_20 : decode c_K_remark 20 = .ok (.ifCond .ne 13, 3) := by decide +kernel
theorem d_K_remark_23 : decode c_K_remark 23 = .ok (.new 68, 3) := by decide +kernel
theorem d_K_remark_26 : decode c_K_remark 26 = .ok (.dup, 1) := by decide +kernel
theorem d_K_remark_27 : decode c_K_remark 27 = .ok (.ldc 190, 2) := by decide +kernel
theorem d_K_remark_29 : decode c_K_remark 29 = .ok (.invokespecial 72, 3) := by decide +kernel
theorem d_K_remark_32 : decode c_K_remark 32 = .ok (.athrow, 1) := by decide +kernel
theorem d_K_remark_33 : decode c_K_remark 33 = .ok (.iload_n 2, 1) := by decide +kernel
theorem d_K_remark_34 : decode c_K_remark 34 = .ok (.tableswitch 60 3 5 #[26, 35, 44], 26) := by decide +kernel
theorem d_K_remark_60 : decode c_K_remark 60 = .ok (.aload_n 0, 1) := by decide +kernel
theorem d_K_remark_61 : decode c_K_remark 61 = .ok (.getfield 51, 3) := by decide +kernel
theorem d_K_remark_64 : decode c_K_remark 64 = .ok (.iload_n 1, 1) := by decide +kernel
theorem d_K_remark_65 : decode c_K_remark 65 = .ok (.invokevirtual 192, 3) := by decide +kernel
theorem d_K_remark_68 : decode c_K_remark 68 = .ok (.ireturn, 1) := by decide +kernel
