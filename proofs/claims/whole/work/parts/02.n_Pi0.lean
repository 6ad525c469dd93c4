abbrev c_Pi_builtInWeight : ByteArray := prog_4_method_5_code
abbrev r_Pi_builtInWeight : Option FieldType := (some FieldType.int)
def y_Pi_builtInWeight : MethodName := ⟨"PinKindChecks$Pin", "builtInWeight", "(ILPinKindChecks$Schematic;)I"⟩
theorem d_Pi_builtInWeight_0 : decode c_Pi_builtInWeight 0 = .ok (.iload_n 1, 1) := by decide +kernel
theorem d_Pi_builtInWeight_1 : decode c_Pi_builtInWeight 1 = .ok (.lookupswitch 55 #[(0, 27), (1, 49)], 27) := by decide +kernel
theorem d_Pi_builtInWeight_28 : decode c_Pi_builtInWeight 28 = .ok (.aload_n 0, 1) := by decide +kernel
theorem d_Pi_builtInWeight_29 : decode c_Pi_builtInWeight 29 = .ok (.getfield 15, 3) := by decide +kernel
theorem d_Pi_builtInWeight_32 : decode c_Pi_builtInWeight 32 = .ok (.ifnonnull 16, 3) := by decide +kernel
theorem d_Pi_builtInWeight_35 : decode c_Pi_builtInWeight 35 = .ok (.aload_n 0, 1) := by decide +kernel
theorem d_Pi_builtInWeight_36 : decode c_Pi_builtInWeight 36 = .ok (.getfield 25, 3) := by decide +kernel
theorem d_Pi_builtInWeight_39 : decode c_Pi_builtInWeight 39 = .ok (.bipush 9, 2) := by decide +kernel
theorem d_Pi_builtInWeight_41 : decode c_Pi_builtInWeight 41 = .ok (.if_icmp .eq 7, 3) := by decide +kernel
theorem d_Pi_builtInWeight_44 : decode c_Pi_builtInWeight 44 = .ok (.iconst 2, 1) := by decide +kernel
theorem d_Pi_builtInWeight_45 : decode c_Pi_builtInWeight 45 = .ok (.goto 4, 3) := by decide +kernel
theorem d_Pi_builtInWeight_48 : decode c_Pi_builtInWeight 48 = .ok (.iconst 0, 1) := by decide +kernel
theorem d_Pi_builtInWeight_49 : decode c_Pi_builtInWeight 49 = .ok (.ireturn, 1) := by decide +kernel
theorem d_Pi_builtInWeight_50 : decode c_Pi_builtInWeight 50 = .ok (.aload_n 2, 1) := by decide +kernel
theorem d_Pi_builtInWeight_51 : decode c_Pi_builtInWeight 51 = .ok (.aload_n 0, 1) := by decide +kernel
theorem d_Pi_builtInWeight_52 : decode c_Pi_builtInWeight 52 = .ok (.invokevirtual 35, 3) := by decide +kernel
theorem d_Pi_builtInWeight_55 : decode c_Pi_builtInWeight 55 = .ok (.ireturn, 1) := by decide +kernel
theorem d_Pi_builtInWeight_56 : decode c_Pi_builtInWeight 56 = .ok (.iconst 0, 1) := by decide +kernel
theorem d_Pi_builtInWeight_57 : decode c_Pi_builtInWeight 57 = .ok (.ireturn, 1) := by decide +kernel
abbrev c_Pi_netOrNull : ByteArray := prog_4_method_3_code
abbrev r_Pi_netOrNull : Option FieldType := (some (FieldType.object "PinKindChecks$Net"))
def y_Pi_netOrNull : MethodName := ⟨"PinKindChecks$Pin", "netOrNull", "()LPinKindChecks$Net;"⟩
theorem d_Pi_netOrNull_0 : decode c_Pi_netOrNull 0 = .ok (.aload_n 0, 1) := by decide +kernel
theorem d_Pi_netOrNull_1 : decode c_Pi_netOrNull 1 = .ok (.getfield 15, 3) := by decide +kernel
theorem d_Pi_netOrNull_4 : decode c_Pi_netOrNull 4 = .ok (.areturn, 1) := by decide +kernel
abbrev c_Pi_kind : ByteArray := prog_4_method_2_code
abbrev r_Pi_kind : Option FieldType := (some FieldType.int)
def y_Pi_kind : MethodName := ⟨"PinKindChecks$Pin", "kind", "()I"⟩
theorem d_Pi_kind_0 : decode c_Pi_kind 0 = .ok (.aload_n 0, 1) := by decide +kernel
theorem d_Pi_kind_1 : decode c_Pi_kind 1 = .ok (.getfield 25, 3) := by decide +kernel
theorem d_Pi_kind_4 : decode c_Pi_kind 4 = .ok (.ireturn, 1) := by decide +kernel
abbrev c_Pi_valueOf : ByteArray := prog_4_method_6_code
abbrev r_Pi_valueOf : Option FieldType := (some FieldType.long)
def y_Pi_valueOf : MethodName := ⟨"PinKindChecks$Pin", "valueOf", "(II)J"⟩
theorem d_Pi_valueOf_0 : decode c_Pi_valueOf 0 = .ok (.iload_n 1, 1) := by decide +kernel
theorem d_Pi_valueOf_1 : decode c_Pi_valueOf 1 = .ok (.tableswitch 78 14 18 #[35, 78, 44, 50, 72], 35) := by decide +kernel
theorem d_Pi_valueOf_36 : decode c_Pi_valueOf 36 = .ok (.aload_n 0, 1) := by decide +kernel
theorem d_Pi_valueOf_37 : decode c_Pi_valueOf 37 = .ok (.getfield 21, 3) := by decide +kernel
theorem d_Pi_valueOf_40 : decode c_Pi_valueOf 40 = .ok (.iload_n 2, 1) := by decide +kernel
theorem d_Pi_valueOf_41 : decode c_Pi_valueOf 41 = .ok (.invokevirtual 41, 3) := by decide +kernel
theorem d_Pi_valueOf_44 : decode c_Pi_valueOf 44 = .ok (.lreturn, 1) := by decide +kernel
theorem d_Pi_valueOf_45 : decode c_Pi_valueOf 45 = .ok (.aload_n 0, 1) := by decide +kernel
theorem d_Pi_valueOf_46 : decode c_Pi_valueOf 46 = .ok (.getfield 25, 3) := by decide +kernel
theorem d_Pi_valueOf_49 : decode c_Pi_valueOf 49 = .ok (.i2l, 1) := by decide +kernel
theorem d_Pi_valueOf_50 : decode c_Pi_valueOf 50 = .ok (.lreturn, 1) := by decide +kernel
theorem d_Pi_valueOf_51 : decode c_Pi_valueOf 51 = .ok (.aload_n 0, 1) := by decide +kernel
theorem d_Pi_valueOf_52 : decode c_Pi_valueOf 52 = .ok (.getfield 15, 3) := by decide +kernel
theorem d_Pi_valueOf_55 : decode c_Pi_valueOf 55 = .ok (.ifnonnull 9, 3) := by decide +kernel
theorem d_Pi_valueOf_58 : decode c_Pi_valueOf 58 = .ok (.ldc2_w 45, 3) := by decide +kernel
theorem d_Pi_valueOf_61 : decode c_Pi_valueOf 61 = .ok (.goto 11, 3) := by decide +kernel
theorem d_Pi_valueOf_64 : decode c_Pi_valueOf 64 = .ok (.aload_n 0, 1) := by decide +kernel
theorem d_Pi_valueOf_65 : decode c_Pi_valueOf 65 = .ok (.getfield 15, 3) := by decide +kernel
theorem d_Pi_valueOf_68 : decode c_Pi_valueOf 68 = .ok (.invokevirtual 47, 3) := by decide +kernel
theorem d_Pi_valueOf_71 : decode c_Pi_valueOf 71 = .ok (.i2l, 1) := by decide +kernel
theorem d_Pi_valueOf_72 : decode c_Pi_valueOf 72 = .ok (.lreturn, 1) := by decide +kernel
theorem d_Pi_valueOf_73 : decode c_Pi_valueOf 73 = .ok (.aload_n 0, 1) := by decide +kernel
theorem d_Pi_valueOf_74 : decode c_Pi_valueOf 74 = .ok (.invokevirtual 50, 3) := by decide +kernel
theorem d_Pi_valueOf_77 : decode c_Pi_valueOf 77 = .ok (.i2l, 1) := by decide +kernel
theorem d_Pi_valueOf_78 : decode c_Pi_valueOf 78 = .ok (.lreturn, 1) := by decide +kernel
theorem d_Pi_valueOf_79 : decode c_Pi_valueOf 79 = .ok (.lconst 0, 1) := by decide +kernel
theorem d_Pi_valueOf_80 : decode c_Pi_valueOf 80 = .ok (.lreturn, 1) := by decide +kernel
abbrev c_Pi_init : ByteArray := prog_4_method_1_code
abbrev r_Pi_init : Option FieldType := none
def y_Pi_init : MethodName := ⟨"PinKindChecks$Pin", "<init>", "(LPinKindChecks$Part;II)V"⟩
theorem d_Pi_init_0 : decode c_Pi_init 0 = .ok (.aload_n 0, 1) := by decide +kernel
theorem d_Pi_init_1 : decode c_Pi_init 1 = .ok (.aload_n 1, 1) := by decide +kernel
theorem d_Pi_init_2 : decode c_Pi_init 2 = .ok (.invokevirtual 3, 3) := by decide +kernel
theorem d_Pi_init_5 : decode c_Pi_init 5 = .ok (.iconst 2, 1) := by decide +kernel
theorem d_Pi_init_6 : decode c_Pi_init 6 = .ok (.iload_n 2, 1) := by decide +kernel
theorem d_Pi_init_7 : decode c_Pi_init 7 = .ok (.invokespecial 9, 3) := by decide +kernel
theorem d_Pi_init_10 : decode c_Pi_init 10 = .ok (.aload_n 0, 1) := by decide +kernel
theorem d_Pi_init_11 : decode c_Pi_init 11 = .ok (.aconst_null, 1) := by decide +kernel
theorem d_Pi_init_12 : decode c_Pi_init 12 = .ok (.putfield 15, 3) := by decide +kernel
theorem d_Pi_init_15 : decode c_Pi_init 15 = .ok (.aload_n 0, 1) := by decide +kernel
theorem d_Pi_init_16 : decode c_Pi_init 16 = .ok (.aload_n 1, 1) := by decide +kernel
theorem d_Pi_init_17 : decode c_Pi_init 17 = .ok (.putfield 21, 3) := by decide +kernel
theorem d_Pi_init_20 : decode c_Pi_init 20 = .ok (.aload_n 0, 1) := by decide +kernel
theorem d_Pi_init_21 : decode c_Pi_init 21 = .ok (.iload_n 3, 1) := by decide +kernel
theorem d_Pi_init_22 : decode c_Pi_init 22 = .ok (.putfield 25, 3) := by decide +kernel
theorem d_Pi_init_25 : decode c_Pi_init 25 = .ok (.return_, 1) := by decide +kernel
abbrev c_Pi_moveTo : ByteArray := prog_4_method_4_code
abbrev r_Pi_moveTo : Option FieldType := (some FieldType.boolean)
def y_Pi_moveTo : MethodName := ⟨"PinKindChecks$Pin", "moveTo", "(LPinKindChecks$Net;)Z"⟩
theorem d_Pi_moveTo_0 : decode c_Pi_moveTo 0 = .ok (.aload_n 0, 1) := by decide +kernel
theorem d_Pi_moveTo_1 : decode c_Pi_moveTo 1 = .ok (.getfield 15, 3) := by decide +kernel
theorem d_Pi_moveTo_4 : decode c_Pi_moveTo 4 = .ok (.aload_n 1, 1) := by decide +kernel
theorem d_Pi_moveTo_5 : decode c_Pi_moveTo 5 = .ok (.if_acmp .ne 5, 3) := by decide +kernel
theorem d_Pi_moveTo_8 : decode c_Pi_moveTo 8 = .ok (.iconst 0, 1) := by decide +kernel
theorem d_Pi_moveTo_9 : decode c_Pi_moveTo 9 = .ok (.ireturn, 1) := by decide +kernel
theorem d_Pi_moveTo_10 : decode c_Pi_moveTo 10 = .ok (.aload_n 0, 1) := by decide +kernel
theorem d_Pi_moveTo_11 : decode c_Pi_moveTo 11 = .ok (.getfield 15, 3) := by decide +kernel
theorem d_Pi_moveTo_14 : decode c_Pi_moveTo 14 = .ok (.ifnull 15, 3) := by decide +kernel
theorem d_Pi_moveTo_17 : decode c_Pi_moveTo 17 = .ok (.aload_n 0, 1) := by decide +kernel
theorem d_Pi_moveTo_18 : decode c_Pi_moveTo 18 = .ok (.getfield 15, 3) := by decide +kernel
theorem d_Pi_moveTo_21 : decode c_Pi_moveTo 21 = .ok (.aload_n 0, 1) := by decide +kernel
theorem d_Pi_moveTo_22 : decode c_Pi_moveTo 22 = .ok (.getfield 25, 3) := by decide +kernel
theorem d_Pi_moveTo_25 : decode c_Pi_moveTo 25 = .ok (.iconst (-1), 1) := by decide +kernel
theorem d_Pi_moveTo_26 : decode c_Pi_moveTo 26 = .ok (.invokevirtual 29, 3) := by decide +kernel
theorem d_Pi_moveTo_29 : decode c_Pi_moveTo 29 = .ok (.aload_n 1, 1) := by decide +kernel
theorem d_Pi_moveTo_30 : decode c_Pi_moveTo 30 = .ok (.ifnull 12, 3) := by decide +kernel
theorem d_Pi_moveTo_33 : decode c_Pi_moveTo 33 = .ok (.aload_n 1, 1) := by decide +kernel
theorem d_Pi_moveTo_34 : decode c_Pi_moveTo 34 = .ok (.aload_n 0, 1) := by decide +kernel
theorem d_Pi_moveTo_35 : decode c_Pi_moveTo 35 = .ok (.getfield 25, 3) := by decide +kernel
theorem d_Pi_moveTo_38 : decode c_Pi_moveTo 38 = .ok (.iconst 1, 1) := by decide +kernel
theorem d_Pi_moveTo_39 : decode c_Pi_moveTo 39 = .ok (.invokevirtual 29, 3) := by decide +kernel
theorem d_Pi_moveTo_42 : decode c_Pi_moveTo 42 = .ok (.aload_n 0, 1) := by decide +kernel
theorem d_Pi_moveTo_43 : decode c_Pi_moveTo 43 = .ok (.aload_n 1, 1) := by decide +kernel
theorem d_Pi_moveTo_44 : decode c_Pi_moveTo 44 = .ok (.putfield 15, 3) := by decide +kernel
theorem d_Pi_moveTo_47 : decode c_Pi_moveTo 47 = .ok (.iconst 1, 1) := by decide +kernel
theorem d_Pi_moveTo_48 : decode c_Pi_moveTo 48 = .ok (.ireturn, 1) := by decide +kernel
