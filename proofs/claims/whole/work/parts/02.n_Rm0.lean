abbrev c_Rm_init : ByteArray := prog_6_method_1_code
abbrev r_Rm_init : Option FieldType := none
def y_Rm_init : MethodName := ⟨"PinKindChecks$Remarks", "<init>", "()V"⟩
theorem d_Rm_init_0 : decode c_Rm_init 0 = .ok (.aload_n 0, 1) := by decide +kernel
theorem d_Rm_init_1 : decode c_Rm_init 1 = .ok (.invokespecial 3, 3) := by decide +kernel
theorem d_Rm_init_4 : decode c_Rm_init 4 = .ok (.aload_n 0, 1) := by decide +kernel
theorem d_Rm_init_5 : decode c_Rm_init 5 = .ok (.bipush 32, 2) := by decide +kernel
theorem d_Rm_init_7 : decode c_Rm_init 7 = .ok (.newarray .int, 2) := by decide +kernel
theorem d_Rm_init_9 : decode c_Rm_init 9 = .ok (.putfield 11, 3) := by decide +kernel
theorem d_Rm_init_12 : decode c_Rm_init 12 = .ok (.aload_n 0, 1) := by decide +kernel
theorem d_Rm_init_13 : decode c_Rm_init 13 = .ok (.bipush 32, 2) := by decide +kernel
theorem d_Rm_init_15 : decode c_Rm_init 15 = .ok (.newarray .int, 2) := by decide +kernel
theorem d_Rm_init_17 : decode c_Rm_init 17 = .ok (.putfield 15, 3) := by decide +kernel
theorem d_Rm_init_20 : decode c_Rm_init 20 = .ok (.aload_n 0, 1) := by decide +kernel
theorem d_Rm_init_21 : decode c_Rm_init 21 = .ok (.bipush 32, 2) := by decide +kernel
theorem d_Rm_init_23 : decode c_Rm_init 23 = .ok (.newarray .int, 2) := by decide +kernel
theorem d_Rm_init_25 : decode c_Rm_init 25 = .ok (.putfield 18, 3) := by decide +kernel
theorem d_Rm_init_28 : decode c_Rm_init 28 = .ok (.aload_n 0, 1) := by decide +kernel
theorem d_Rm_init_29 : decode c_Rm_init 29 = .ok (.iconst 0, 1) := by decide +kernel
theorem d_Rm_init_30 : decode c_Rm_init 30 = .ok (.putfield 21, 3) := by decide +kernel
theorem d_Rm_init_33 : decode c_Rm_init 33 = .ok (.return_, 1) := by decide +kernel
abbrev c_Rm_wipe : ByteArray := prog_6_method_2_code
abbrev r_Rm_wipe : Option FieldType := none
def y_Rm_wipe : MethodName := ⟨"PinKindChecks$Remarks", "wipe", "()V"⟩
theorem d_Rm_wipe_0 : decode c_Rm_wipe 0 = .ok (.aload_n 0, 1) := by decide +kernel
theorem d_Rm_wipe_1 : decode c_Rm_wipe 1 = .ok (.iconst 0, 1) := by decide +kernel
theorem d_Rm_wipe_2 : decode c_Rm_wipe 2 = .ok (.putfield 21, 3) := by decide +kernel
theorem d_Rm_wipe_5 : decode c_Rm_wipe 5 = .ok (.return_, 1) := by decide +kernel
abbrev c_Rm_add : ByteArray := prog_6_method_4_code
abbrev r_Rm_add : Option FieldType := none
def y_Rm_add : MethodName := ⟨"PinKindChecks$Remarks", "add", "(III)V"⟩
theorem d_Rm_add_0 : decode c_Rm_add 0 = .ok (.aload_n 0, 1) := by decide +kernel
theorem d_Rm_add_1 : decode c_Rm_add 1 = .ok (.getfield 21, 3) := by decide +kernel
theorem d_Rm_add_4 : decode c_Rm_add 4 = .ok (.aload_n 0, 1) := by decide +kernel
theorem d_Rm_add_5 : decode c_Rm_add 5 = .ok (.getfield 11, 3) := by decide +kernel
theorem d_Rm_add_8 : decode c_Rm_add 8 = .ok (.arraylength, 1) := by decide +kernel
theorem d_Rm_add_9 : decode c_Rm_add 9 = .ok (.if_icmp .lt 7, 3) := by decide +kernel
theorem d_Rm_add_12 : decode c_Rm_add 12 = .ok (.aload_n 0, 1) := by decide +kernel
theorem d_Rm_add_13 : decode c_Rm_add 13 = .ok (.invokevirtual 25, 3) := by decide +kernel
theorem d_Rm_add_16 : decode c_Rm_add 16 = .ok (.aload_n 0, 1) := by decide +kernel
theorem d_Rm_add_17 : decode c_Rm_add 17 = .ok (.getfield 21, 3) := by decide +kernel
theorem d_Rm_add_20 : decode c_Rm_add 20 = .ok (.aload_n 0, 1) := by decide +kernel
theorem d_Rm_add_21 : decode c_Rm_add 21 = .ok (.getfield 11, 3) := by decide +kernel
theorem d_Rm_add_24 : decode c_Rm_add 24 = .ok (.arraylength, 1) := by decide +kernel
theorem d_Rm_add_25 : decode c_Rm_add 25 = .ok (.if_icmp .ge 67, 3) := by decide +kernel
theorem d_Rm_add_28 : decode c_Rm_add 28 = .ok (.aload_n 0, 1) := by decide +kernel
theorem d_Rm_add_29 : decode c_Rm_add 29 = .ok (.getfield 21, 3) := by decide +kernel
theorem d_Rm_add_32 : decode c_Rm_add 32 = .ok (.aload_n 0, 1) := by decide +kernel
theorem d_Rm_add_33 : decode c_Rm_add 33 = .ok (.getfield 15, 3) := by decide +kernel
theorem d_Rm_add_36 : decode c_Rm_add 36 = .ok (.arraylength, 1) := by decide +kernel
theorem d_Rm_add_37 : decode c_Rm_add 37 = .ok (.if_icmp .ge 55, 3) := by decide +kernel
theorem d_Rm_add_40 : decode c_Rm_add 40 = .ok (.aload_n 0, 1) := by decide +kernel
theorem d_Rm_add_41 : decode c_Rm_add 41 = .ok (.getfield 21, 3) := by decide +kernel
theorem d_Rm_add_44 : decode c_Rm_add 44 = .ok (.aload_n 0, 1) := by decide +kernel
theorem d_Rm_add_45 : decode c_Rm_add 45 = .ok (.getfield 18, 3) := by decide +kernel
theorem d_Rm_add_48 : decode c_Rm_add 48 = .ok (.arraylength, 1) := by decide +kernel
theorem d_Rm_add_49 : decode c_Rm_add 49 = .ok (.if_icmp .ge 43, 3) := by decide +kernel
theorem d_Rm_add_52 : decode c_Rm_add 52 = .ok (.aload_n 0, 1) := by decide +kernel
theorem d_Rm_add_53 : decode c_Rm_add 53 = .ok (.getfield 11, 3) := by decide +kernel
theorem d_Rm_add_56 : decode c_Rm_add 56 = .ok (.aload_n 0, 1) := by decide +kernel
theorem d_Rm_add_57 : decode c_Rm_add 57 = .ok (.getfield 21, 3) := by decide +kernel
theorem d_Rm_add_60 : decode c_Rm_add 60 = .ok (.iload_n 1, 1) := by decide +kernel
theorem d_Rm_add_61 : decode c_Rm_add 61 = .ok (.iastore, 1) := by decide +kernel
theorem d_Rm_add_62 : decode c_Rm_add 62 = .ok (.aload_n 0, 1) := by decide +kernel
theorem d_Rm_add_63 : decode c_Rm_add 63 = .ok (.getfield 15, 3) := by decide +kernel
theorem d_Rm_add_66 : decode c_Rm_add 66 = .ok (.aload_n 0, 1) := by decide +kernel
theorem d_Rm_add_67 : decode c_Rm_add 67 = .ok (.getfield 21, 3) := by decide +kernel
theorem d_Rm_add_70 : decode c_Rm_add 70 = .ok (.iload_n 2, 1) := by decide +kernel
theorem d_Rm_add_71 : decode c_Rm_add 71 = .ok (.iastore, 1) := by decide +kernel
theorem d_Rm_add_72 : decode c_Rm_add 72 = .ok (.aload_n 0, 1) := by decide +kernel
theorem d_Rm_add_73 : decode c_Rm_add 73 = .ok (.getfield 18, 3) := by decide +kernel
theorem d_Rm_add_76 : decode c_Rm_add 76 = .ok (.aload_n 0, 1) := by decide +kernel
theorem d_Rm_add_77 : decode c_Rm_add 77 = .ok (.getfield 21, 3) := by decide +kernel
theorem d_Rm_add_80 : decode c_Rm_add 80 = .ok (.iload_n 3, 1) := by decide +kernel
theorem d_Rm_add_81 : decode c_Rm_add 81 = .ok (.iastore, 1) := by decide +kernel
theorem d_Rm_add_82 : decode c_Rm_add 82 = .ok (.aload_n 0, 1) := by decide +kernel
theorem d_Rm_add_83 : decode c_Rm_add 83 = .ok (.dup, 1) := by decide +kernel
theorem d_Rm_add_84 : decode c_Rm_add 84 = .ok (.getfield 21, 3) := by decide +kernel
theorem d_Rm_add_87 : decode c_Rm_add 87 = .ok (.iconst 1, 1) := by decide +kernel
theorem d_Rm_add_88 : decode c_Rm_add 88 = .ok (.iadd, 1) := by decide +kernel
theorem d_Rm_add_89 : decode c_Rm_add 89 = .ok (.putfield 21, 3) := by decide +kernel
theorem d_Rm_add_92 : decode c_Rm_add 92 = .ok (.return_, 1) := by decide +kernel
abbrev c_Rm_grow : ByteArray := prog_6_method_5_code
abbrev r_Rm_grow : Option FieldType := none
def y_Rm_grow : MethodName := ⟨"PinKindChecks$Remarks", "grow", "()V"⟩
theorem d_Rm_grow_0 : decode c_Rm_grow 0 = .ok (.iconst 2, 1) := by decide +kernel
theorem d_Rm_grow_1 : decode c_Rm_grow 1 = .ok (.aload_n 0, 1) := by decide +kernel
theorem d_Rm_grow_2 : decode c_Rm_grow 2 = .ok (.getfield 11, 3) := by decide +kernel
theorem d_Rm_grow_5 : decode c_Rm_grow 5 = .ok (.arraylength, 1) := by decide +kernel
theorem d_Rm_grow_6 : decode c_Rm_grow 6 = .ok (.imul, 1) := by decide +kernel
theorem d_Rm_grow_7 : decode c_Rm_grow 7 = .ok (.sipush 3720, 3) := by decide +kernel
theorem d_Rm_grow_10 : decode c_Rm_grow 10 = .ok (.invokestatic 28, 3) := by decide +kernel
theorem d_Rm_grow_13 : decode c_Rm_grow 13 = .ok (.istore_n 1, 1) := by decide +kernel
theorem d_Rm_grow_14 : decode c_Rm_grow 14 = .ok (.iload_n 1, 1) := by decide +kernel
theorem d_Rm_grow_15 : decode c_Rm_grow 15 = .ok (.aload_n 0, 1) := by decide +kernel
theorem d_Rm_grow_16 : decode c_Rm_grow 16 = .ok (.getfield 11, 3) := by decide +kernel
theorem d_Rm_grow_19 : decode c_Rm_grow 19 = .ok (.arraylength, 1) := by decide +kernel
theorem d_Rm_grow_20 : decode c_Rm_grow 20 = .ok (.if_icmp .le 39, 3) := by decide +kernel
theorem d_Rm_grow_23 : decode c_Rm_grow 23 = .ok (.aload_n 0, 1) := by decide +kernel
theorem d_Rm_grow_24 : decode c_Rm_grow 24 = .ok (.aload_n 0, 1) := by decide +kernel
theorem d_Rm_grow_25 : decode c_Rm_grow 25 = .ok (.getfield 11, 3) := by decide +kernel
theorem d_Rm_grow_28 : decode c_Rm_grow 28 = .ok (.iload_n 1, 1) := by decide +kernel
theorem d_Rm_grow_29 : decode c_Rm_grow 29 = .ok (.invokestatic 34, 3) := by decide +kernel
theorem d_Rm_grow_32 : decode c_Rm_grow 32 = .ok (.putfield 11, 3) := by decide +kernel
theorem d_Rm_grow_35 : decode c_Rm_grow 35 = .ok (.aload_n 0, 1) := by decide +kernel
theorem d_Rm_grow_36 : decode c_Rm_grow 36 = .ok (.aload_n 0, 1) := by decide +kernel
theorem d_Rm_grow_37 : decode c_Rm_grow 37 = .ok (.getfield 15, 3) := by decide +kernel
theorem d_Rm_grow_40 : decode c_Rm_grow 40 = .ok (.iload_n 1, 1) := by decide +kernel
theorem d_Rm_grow_41 : decode c_Rm_grow 41 = .ok (.invokestatic 34, 3) := by decide +kernel
theorem d_Rm_grow_44 : decode c_Rm_grow 44 = .ok (.putfield 15, 3) := by decide +kernel
theorem d_Rm_grow_47 : decode c_Rm_grow 47 = .ok (.aload_n 0, 1) := by decide +kernel
theorem d_Rm_grow_48 : decode c_Rm_grow 48 = .ok (.aload_n 0, 1) := by decide +kernel
theorem d_Rm_grow_49 : decode c_Rm_grow 49 = .ok (.getfield 18, 3) := by decide +kernel
theorem d_Rm_grow_52 : decode c_Rm_grow 52 = .ok (.iload_n 1, 1) := by decide +kernel
theorem d_Rm_grow_53 : decode c_Rm_grow 53 = .ok (.invokestatic 34, 3) := by decide +kernel
theorem d_Rm_grow_56 : decode c_Rm_grow 56 = .ok (.putfield 18, 3) := by decide +kernel
theorem d_Rm_grow_59 : decode c_Rm_grow 59 = .ok (.return_, 1) := by decide +kernel
abbrev c_Rm_count : ByteArray := prog_6_method_3_code
abbrev r_Rm_count : Option FieldType := (some FieldType.int)
def y_Rm_count : MethodName := ⟨"PinKindChecks$Remarks", "count", "()I"⟩
theorem d_Rm_count_0 : decode c_Rm_count 0 = .ok (.aload_n 0, 1) := by decide +kernel
theorem d_Rm_count_1 : decode c_Rm_count 1 = .ok (.getfield 21, 3) := by decide +kernel
theorem d_Rm_count_4 : decode c_Rm_count 4 = .ok (.ireturn, 1) := by decide +kernel
abbrev c_Rm_keyOf : ByteArray := prog_6_method_6_code
abbrev r_Rm_keyOf : Option FieldType := (some FieldType.int)
def y_Rm_keyOf : MethodName := ⟨"PinKindChecks$Remarks", "keyOf", "(I)I"⟩
theorem d_Rm_keyOf_0 : decode c_Rm_keyOf 0 = .ok (.iload_n 1, 1) := by decide +kernel
theorem d_Rm_keyOf_1 : decode c_Rm_keyOf 1 = .ok (.aload_n 0, 1) := by decide +kernel
theorem d_Rm_keyOf_2 : decode c_Rm_keyOf 2 = .ok (.getfield 21, 3) := by decide +kernel
theorem d_Rm_keyOf_5 : decode c_Rm_keyOf 5 = .ok (.invokestatic 40, 3) := by decide +kernel
theorem d_Rm_keyOf_8 : decode c_Rm_keyOf 8 = .ok (.ifCond .eq 21, 3) := by decide +kernel
theorem d_Rm_keyOf_11 : decode c_Rm_keyOf 11 = .ok (.iload_n 1, 1) := by decide +kernel
theorem d_Rm_keyOf_12 : decode c_Rm_keyOf 12 = .ok (.aload_n 0, 1) := by decide +kernel
theorem d_Rm_keyOf_13 : decode c_Rm_keyOf 13 = .ok (.getfield 11, 3) := by decide +kernel
theorem d_Rm_keyOf_16 : decode c_Rm_keyOf 16 = .ok (.arraylength, 1) := by decide +kernel
theorem d_Rm_keyOf_17 : decode c_Rm_keyOf 17 = .ok (.if_icmp .ge 12, 3) := by decide +kernel
theorem d_Rm_keyOf_20 : decode c_Rm_keyOf 20 = .ok (.aload_n 0, 1) := by decide +kernel
theorem d_Rm_keyOf_21 : decode c_Rm_keyOf 21 = .ok (.getfield 11, 3) := by decide +kernel
theorem d_Rm_keyOf_24 : decode c_Rm_keyOf 24 = .ok (.iload_n 1, 1) := by decide +kernel
theorem d_Rm_keyOf_25 : decode c_Rm_keyOf 25 = .ok (.iaload, 1) := by decide +kernel
theorem d_Rm_keyOf_26 : decode c_Rm_keyOf 26 = .ok (.goto 4, 3) := by decide +kernel
theorem d_Rm_keyOf_29 : decode c_Rm_keyOf 29 = .ok (.iconst (-1), 1) := by decide +kernel
theorem d_Rm_keyOf_30 : decode c_Rm_keyOf 30 = .ok (.ireturn, 1) := by decide +kernel
abbrev c_Rm_firstOf : ByteArray := prog_6_method_8_code
abbrev r_Rm_firstOf : Option FieldType := (some FieldType.int)
def y_Rm_firstOf : MethodName := ⟨"PinKindChecks$Remarks", "firstOf", "(I)I"⟩
theorem d_Rm_firstOf_0 : decode c_Rm_firstOf 0 = .ok (.iload_n 1, 1) := by decide +kernel
theorem d_Rm_firstOf_1 : decode c_Rm_firstOf 1 = .ok (.aload_n 0, 1) := by decide +kernel
theorem d_Rm_firstOf_2 : decode c_Rm_firstOf 2 = .ok (.getfield 21, 3) := by decide +kernel
theorem d_Rm_firstOf_5 : decode c_Rm_firstOf 5 = .ok (.invokestatic 40, 3) := by decide +kernel
theorem d_Rm_firstOf_8 : decode c_Rm_firstOf 8 = .ok (.ifCond .eq 21, 3) := by decide +kernel
theorem d_Rm_firstOf_11 : decode c_Rm_firstOf 11 = .ok (.iload_n 1, 1) := by decide +kernel
theorem d_Rm_firstOf_12 : decode c_Rm_firstOf 12 = .ok (.aload_n 0, 1) := by decide +kernel
theorem d_Rm_firstOf_13 : decode c_Rm_firstOf 13 = .ok (.getfield 18, 3) := by decide +kernel
theorem d_Rm_firstOf_16 : decode c_Rm_firstOf 16 = .ok (.arraylength, 1) := by decide +kernel
theorem d_Rm_firstOf_17 : decode c_Rm_firstOf 17 = .ok (.if_icmp .ge 12, 3) := by decide +kernel
theorem d_Rm_firstOf_20 : decode c_Rm_firstOf 20 = .ok (.aload_n 0, 1) := by decide +kernel
theorem d_Rm_firstOf_21 : decode c_Rm_firstOf 21 = .ok (.getfield 18, 3) := by decide +kernel
theorem d_Rm_firstOf_24 : decode c_Rm_firstOf 24 = .ok (.iload_n 1, 1) := by decide +kernel
theorem d_Rm_firstOf_25 : decode c_Rm_firstOf 25 = .ok (.iaload, 1) := by decide +kernel
theorem d_Rm_firstOf_26 : decode c_Rm_firstOf 26 = .ok (.goto 4, 3) := by decide +kernel
theorem d_Rm_firstOf_29 : decode c_Rm_firstOf 29 = .ok (.iconst (-1), 1) := by decide +kernel
theorem d_Rm_firstOf_30 : decode c_Rm_firstOf 30 = .ok (.ireturn, 1) := by decide +kernel
abbrev c_Rm_setFirst : ByteArray := prog_6_method_9_code
abbrev r_Rm_setFirst : Option FieldType := none
def y_Rm_setFirst : MethodName := ⟨"PinKindChecks$Remarks", "setFirst", "(II)V"⟩
theorem d_Rm_setFirst_0 : decode c_Rm_setFirst 0 = .ok (.iload_n 1, 1) := by decide +kernel
theorem d_Rm_setFirst_1 : decode c_Rm_setFirst 1 = .ok (.aload_n 0, 1) := by decide +kernel
theorem d_Rm_setFirst_2 : decode c_Rm_setFirst 2 = .ok (.getfield 21, 3) := by decide +kernel
theorem d_Rm_setFirst_5 : decode c_Rm_setFirst 5 = .ok (.invokestatic 40, 3) := by decide +kernel
theorem d_Rm_setFirst_8 : decode c_Rm_setFirst 8 = .ok (.ifCond .eq 19, 3) := by decide +kernel
theorem d_Rm_setFirst_11 : decode c_Rm_setFirst 11 = .ok (.iload_n 1, 1) := by decide +kernel
theorem d_Rm_setFirst_12 : decode c_Rm_setFirst 12 = .ok (.aload_n 0, 1) := by decide +kernel
theorem d_Rm_setFirst_13 : decode c_Rm_setFirst 13 = .ok (.getfield 18, 3) := by decide +kernel
theorem d_Rm_setFirst_16 : decode c_Rm_setFirst 16 = .ok (.arraylength, 1) := by decide +kernel
theorem d_Rm_setFirst_17 : decode c_Rm_setFirst 17 = .ok (.if_icmp .ge 10, 3) := by decide +kernel
theorem d_Rm_setFirst_20 : decode c_Rm_setFirst 20 = .ok (.aload_n 0, 1) := by decide +kernel
theorem d_Rm_setFirst_21 : decode c_Rm_setFirst 21 = .ok (.getfield 18, 3) := by decide +kernel
theorem d_Rm_setFirst_24 : decode c_Rm_setFirst 24 = .ok (.iload_n 1, 1) := by decide +kernel
theorem d_Rm_setFirst_25 : decode c_Rm_setFirst 25 = .ok (.iload_n 2, 1) := by decide +kernel
theorem d_Rm_setFirst_26 : decode c_Rm_setFirst 26 = .ok (.iastore, 1) := by decide +kernel
theorem d_Rm_setFirst_27 : decode c_Rm_setFirst 27 = .ok (.return_, 1) := by decide +kernel
abbrev c_Rm_weightOf : ByteArray := prog_6_method_7_code
abbrev r_Rm_weightOf : Option FieldType := (some FieldType.int)
def y_Rm_weightOf : MethodName := ⟨"PinKindChecks$Remarks", "weightOf", "(I)I"⟩
theorem d_Rm_weightOf_0 : decode c_Rm_weightOf 0 = .ok (.iload_n 1, 1) := by decide +kernel
theorem d_Rm_weightOf_1 : decode c_Rm_weightOf 1 = .ok (.aload_n 0, 1) := by decide +kernel
theorem d_Rm_weightOf_2 : decode c_Rm_weightOf 2 = .ok (.getfield 21, 3) := by decide +kernel
theorem d_Rm_weightOf_5 : decode c_Rm_weightOf 5 = .ok (.invokestatic 40, 3) := by decide +kernel
theorem d_Rm_weightOf_8 : decode c_Rm_weightOf 8 = .ok (.ifCond .eq 21, 3) := by decide +kernel
theorem d_Rm_weightOf_11 : decode c_Rm_weightOf 11 = .ok (.iload_n 1, 1) := by decide +kernel
theorem d_Rm_weightOf_12 : decode c_Rm_weightOf 12 = .ok (.aload_n 0, 1) := by decide +kernel
theorem d_Rm_weightOf_13 : decode c_Rm_weightOf 13 = .ok (.getfield 15, 3) := by decide +kernel
theorem d_Rm_weightOf_16 : decode c_Rm_weightOf 16 = .ok (.arraylength, 1) := by decide +kernel
theorem d_Rm_weightOf_17 : decode c_Rm_weightOf 17 = .ok (.if_icmp .ge 12, 3) := by decide +kernel
theorem d_Rm_weightOf_20 : decode c_Rm_weightOf 20 = .ok (.aload_n 0, 1) := by decide +kernel
theorem d_Rm_weightOf_21 : decode c_Rm_weightOf 21 = .ok (.getfield 15, 3) := by decide +kernel
theorem d_Rm_weightOf_24 : decode c_Rm_weightOf 24 = .ok (.iload_n 1, 1) := by decide +kernel
theorem d_Rm_weightOf_25 : decode c_Rm_weightOf 25 = .ok (.iaload, 1) := by decide +kernel
theorem d_Rm_weightOf_26 : decode c_Rm_weightOf 26 = .ok (.goto 4, 3) := by decide +kernel
theorem d_Rm_weightOf_29 : decode c_Rm_weightOf 29 = .ok (.iconst (-1), 1) := by decide +kernel
theorem d_Rm_weightOf_30 : decode c_Rm_weightOf 30 = .ok (.ireturn, 1) := by decide +kernel
