abbrev c_Sc_init : ByteArray := prog_9_method_1_code
abbrev r_Sc_init : Option FieldType := none
def y_Sc_init : MethodName := ⟨"PinKindChecks$Schematic", "<init>", "()V"⟩
theorem d_Sc_init_0 : decode c_Sc_init 0 = .ok (.aload_n 0, 1) := by decide +kernel
theorem d_Sc_init_1 : decode c_Sc_init 1 = .ok (.invokespecial 3, 3) := by decide +kernel
theorem d_Sc_init_4 : decode c_Sc_init 4 = .ok (.aload_n 0, 1) := by decide +kernel
theorem d_Sc_init_5 : decode c_Sc_init 5 = .ok (.bipush 100, 2) := by decide +kernel
theorem d_Sc_init_7 : decode c_Sc_init 7 = .ok (.newarray .int, 2) := by decide +kernel
theorem d_Sc_init_9 : decode c_Sc_init 9 = .ok (.putfield 9, 3) := by decide +kernel
theorem d_Sc_init_12 : decode c_Sc_init 12 = .ok (.aload_n 0, 1) := by decide +kernel
theorem d_Sc_init_13 : decode c_Sc_init 13 = .ok (.bipush 40, 2) := by decide +kernel
theorem d_Sc_init_15 : decode c_Sc_init 15 = .ok (.anewarray 15, 3) := by decide +kernel
theorem d_Sc_init_18 : decode c_Sc_init 18 = .ok (.putfield 17, 3) := by decide +kernel
theorem d_Sc_init_21 : decode c_Sc_init 21 = .ok (.aload_n 0, 1) := by decide +kernel
theorem d_Sc_init_22 : decode c_Sc_init 22 = .ok (.bipush 40, 2) := by decide +kernel
theorem d_Sc_init_24 : decode c_Sc_init 24 = .ok (.anewarray 21, 3) := by decide +kernel
theorem d_Sc_init_27 : decode c_Sc_init 27 = .ok (.putfield 23, 3) := by decide +kernel
theorem d_Sc_init_30 : decode c_Sc_init 30 = .ok (.aload_n 0, 1) := by decide +kernel
theorem d_Sc_init_31 : decode c_Sc_init 31 = .ok (.sipush 160, 3) := by decide +kernel
theorem d_Sc_init_34 : decode c_Sc_init 34 = .ok (.anewarray 27, 3) := by decide +kernel
theorem d_Sc_init_37 : decode c_Sc_init 37 = .ok (.putfield 29, 3) := by decide +kernel
theorem d_Sc_init_40 : decode c_Sc_init 40 = .ok (.aload_n 0, 1) := by decide +kernel
theorem d_Sc_init_41 : decode c_Sc_init 41 = .ok (.sipush 240, 3) := by decide +kernel
theorem d_Sc_init_44 : decode c_Sc_init 44 = .ok (.anewarray 33, 3) := by decide +kernel
theorem d_Sc_init_47 : decode c_Sc_init 47 = .ok (.putfield 35, 3) := by decide +kernel
theorem d_Sc_init_50 : decode c_Sc_init 50 = .ok (.aload_n 0, 1) := by decide +kernel
theorem d_Sc_init_51 : decode c_Sc_init 51 = .ok (.iconst 0, 1) := by decide +kernel
theorem d_Sc_init_52 : decode c_Sc_init 52 = .ok (.putfield 39, 3) := by decide +kernel
theorem d_Sc_init_55 : decode c_Sc_init 55 = .ok (.aload_n 0, 1) := by decide +kernel
theorem d_Sc_init_56 : decode c_Sc_init 56 = .ok (.iconst 0, 1) := by decide +kernel
theorem d_Sc_init_57 : decode c_Sc_init 57 = .ok (.putfield 43, 3) := by decide +kernel
theorem d_Sc_init_60 : decode c_Sc_init 60 = .ok (.aload_n 0, 1) := by decide +kernel
theorem d_Sc_init_61 : decode c_Sc_init 61 = .ok (.iconst 0, 1) := by decide +kernel
theorem d_Sc_init_62 : decode c_Sc_init 62 = .ok (.putfield 46, 3) := by decide +kernel
theorem d_Sc_init_65 : decode c_Sc_init 65 = .ok (.aload_n 0, 1) := by decide +kernel
theorem d_Sc_init_66 : decode c_Sc_init 66 = .ok (.iconst 0, 1) := by decide +kernel
theorem d_Sc_init_67 : decode c_Sc_init 67 = .ok (.putfield 49, 3) := by decide +kernel
theorem d_Sc_init_70 : decode c_Sc_init 70 = .ok (.return_, 1) := by decide +kernel
abbrev c_Sc_thingCount : ByteArray := prog_9_method_13_code
abbrev r_Sc_thingCount : Option FieldType := (some FieldType.int)
def y_Sc_thingCount : MethodName := ⟨"PinKindChecks$Schematic", "thingCount", "()I"⟩
theorem d_Sc_thingCount_0 : decode c_Sc_thingCount 0 = .ok (.aload_n 0, 1) := by decide +kernel
theorem d_Sc_thingCount_1 : decode c_Sc_thingCount 1 = .ok (.getfield 39, 3) := by decide +kernel
theorem d_Sc_thingCount_4 : decode c_Sc_thingCount 4 = .ok (.aload_n 0, 1) := by decide +kernel
theorem d_Sc_thingCount_5 : decode c_Sc_thingCount 5 = .ok (.getfield 43, 3) := by decide +kernel
theorem d_Sc_thingCount_8 : decode c_Sc_thingCount 8 = .ok (.iadd, 1) := by decide +kernel
theorem d_Sc_thingCount_9 : decode c_Sc_thingCount 9 = .ok (.aload_n 0, 1) := by decide +kernel
theorem d_Sc_thingCount_10 : decode c_Sc_thingCount 10 = .ok (.getfield 46, 3) := by decide +kernel
theorem d_Sc_thingCount_13 : decode c_Sc_thingCount 13 = .ok (.iadd, 1) := by decide +kernel
theorem d_Sc_thingCount_14 : decode c_Sc_thingCount 14 = .ok (.ireturn, 1) := by decide +kernel
abbrev c_Sc_thingInOrder : ByteArray := prog_9_method_14_code
abbrev r_Sc_thingInOrder : Option FieldType := (some (FieldType.object "PinKindChecks$Thing"))
def y_Sc_thingInOrder : MethodName := ⟨"PinKindChecks$Schematic", "thingInOrder", "(I)LPinKindChecks$Thing;"⟩
theorem d_Sc_thingInOrder_0 : decode c_Sc_thingInOrder 0 = .ok (.iload_n 1, 1) := by decide +kernel
theorem d_Sc_thingInOrder_1 : decode c_Sc_thingInOrder 1 = .ok (.aload_n 0, 1) := by decide +kernel
theorem d_Sc_thingInOrder_2 : decode c_Sc_thingInOrder 2 = .ok (.invokevirtual 108, 3) := by decide +kernel
theorem d_Sc_thingInOrder_5 : decode c_Sc_thingInOrder 5 = .ok (.invokestatic 58, 3) := by decide +kernel
theorem d_Sc_thingInOrder_8 : decode c_Sc_thingInOrder 8 = .ok (.ifCond .eq 21, 3) := by decide +kernel
theorem d_Sc_thingInOrder_11 : decode c_Sc_thingInOrder 11 = .ok (.iload_n 1, 1) := by decide +kernel
theorem d_Sc_thingInOrder_12 : decode c_Sc_thingInOrder 12 = .ok (.aload_n 0, 1) := by decide +kernel
theorem d_Sc_thingInOrder_13 : decode c_Sc_thingInOrder 13 = .ok (.getfield 35, 3) := by decide +kernel
theorem d_Sc_thingInOrder_16 : decode c_Sc_thingInOrder 16 = .ok (.arraylength, 1) := by decide +kernel
theorem d_Sc_thingInOrder_17 : decode c_Sc_thingInOrder 17 = .ok (.if_icmp .ge 12, 3) := by decide +kernel
theorem d_Sc_thingInOrder_20 : decode c_Sc_thingInOrder 20 = .ok (.aload_n 0, 1) := by decide +kernel
theorem d_Sc_thingInOrder_21 : decode c_Sc_thingInOrder 21 = .ok (.getfield 35, 3) := by decide +kernel
theorem d_Sc_thingInOrder_24 : decode c_Sc_thingInOrder 24 = .ok (.iload_n 1, 1) := by decide +kernel
theorem d_Sc_thingInOrder_25 : decode c_Sc_thingInOrder 25 = .ok (.aaload, 1) := by decide +kernel
theorem d_Sc_thingInOrder_26 : decode c_Sc_thingInOrder 26 = .ok (.goto 4, 3) := by decide +kernel
theorem d_Sc_thingInOrder_29 : decode c_Sc_thingInOrder 29 = .ok (.aconst_null, 1) := by decide +kernel
theorem d_Sc_thingInOrder_30 : decode c_Sc_thingInOrder 30 = .ok (.areturn, 1) := by decide +kernel
abbrev c_Sc_hasLowerNamesake : ByteArray := prog_9_method_16_code
abbrev r_Sc_hasLowerNamesake : Option FieldType := (some FieldType.boolean)
def y_Sc_hasLowerNamesake : MethodName := ⟨"PinKindChecks$Schematic", "hasLowerNamesake", "(LPinKindChecks$Net;)Z"⟩
theorem d_Sc_hasLowerNamesake_0 : decode c_Sc_hasLowerNamesake 0 = .ok (.iconst 0, 1) := by decide +kernel
theorem d_Sc_hasLowerNamesake_1 : decode c_Sc_hasLowerNamesake 1 = .ok (.istore_n 2, 1) := by decide +kernel
theorem d_Sc_hasLowerNamesake_2 : decode c_Sc_hasLowerNamesake 2 = .ok (.iload_n 2, 1) := by decide +kernel
theorem d_Sc_hasLowerNamesake_3 : decode c_Sc_hasLowerNamesake 3 = .ok (.aload_n 1, 1) := by decide +kernel
theorem d_Sc_hasLowerNamesake_4 : decode c_Sc_hasLowerNamesake 4 = .ok (.invokevirtual 80, 3) := by decide +kernel
theorem d_Sc_hasLowerNamesake_7 : decode c_Sc_hasLowerNamesake 7 = .ok (.if_icmp .ge 32, 3) := by decide +kernel
theorem d_Sc_hasLowerNamesake_10 : decode c_Sc_hasLowerNamesake 10 = .ok (.aload_n 0, 1) := by decide +kernel
theorem d_Sc_hasLowerNamesake_11 : decode c_Sc_hasLowerNamesake 11 = .ok (.iload_n 2, 1) := by decide +kernel
theorem d_Sc_hasLowerNamesake_12 : decode c_Sc_hasLowerNamesake 12 = .ok (.invokevirtual 100, 3) := by decide +kernel
theorem d_Sc_hasLowerNamesake_15 : decode c_Sc_hasLowerNamesake 15 = .ok (.astore_n 3, 1) := by decide +kernel
theorem d_Sc_hasLowerNamesake_16 : decode c_Sc_hasLowerNamesake 16 = .ok (.aload_n 3, 1) := by decide +kernel
theorem d_Sc_hasLowerNamesake_17 : decode c_Sc_hasLowerNamesake 17 = .ok (.ifnull 16, 3) := by decide +kernel
theorem d_Sc_hasLowerNamesake_20 : decode c_Sc_hasLowerNamesake 20 = .ok (.aload_n 3, 1) := by decide +kernel
theorem d_Sc_hasLowerNamesake_21 : decode c_Sc_hasLowerNamesake 21 = .ok (.invokevirtual 115, 3) := by decide +kernel
theorem d_Sc_hasLowerNamesake_24 : decode c_Sc_hasLowerNamesake 24 = .ok (.aload_n 1, 1) := by decide +kernel
theorem d_Sc_hasLowerNamesake_25 : decode c_Sc_hasLowerNamesake 25 = .ok (.invokevirtual 115, 3) := by decide +kernel
theorem d_Sc_hasLowerNamesake_28 : decode c_Sc_hasLowerNamesake 28 = .ok (.if_icmp .ne 5, 3) := by decide +kernel
theorem d_Sc_hasLowerNamesake_31 : decode c_Sc_hasLowerNamesake 31 = .ok (.iconst 1, 1) := by decide +kernel
theorem d_Sc_hasLowerNamesake_32 : decode c_Sc_hasLowerNamesake 32 = .ok (.ireturn, 1) := by decide +kernel
theorem d_Sc_hasLowerNamesake_33 : decode c_Sc_hasLowerNamesake 33 = .ok (.iinc 2 1, 3) := by decide +kernel
theorem d_Sc_hasLowerNamesake_36 : decode c_Sc_hasLowerNamesake 36 = .ok (.goto (-34), 3) := by decide +kernel
theorem d_Sc_hasLowerNamesake_39 : decode c_Sc_hasLowerNamesake 39 = .ok (.iconst 0, 1) := by decide +kernel
theorem d_Sc_hasLowerNamesake_40 : decode c_Sc_hasLowerNamesake 40 = .ok (.ireturn, 1) := by decide +kernel
abbrev c_Sc_netAt : ByteArray := prog_9_method_10_code
abbrev r_Sc_netAt : Option FieldType := (some (FieldType.object "PinKindChecks$Net"))
def y_Sc_netAt : MethodName := ⟨"PinKindChecks$Schematic", "netAt", "(I)LPinKindChecks$Net;"⟩
theorem d_Sc_netAt_0 : decode c_Sc_netAt 0 = .ok (.iload_n 1, 1) := by decide +kernel
theorem d_Sc_netAt_1 : decode c_Sc_netAt 1 = .ok (.aload_n 0, 1) := by decide +kernel
theorem d_Sc_netAt_2 : decode c_Sc_netAt 2 = .ok (.getfield 43, 3) := by decide +kernel
theorem d_Sc_netAt_5 : decode c_Sc_netAt 5 = .ok (.invokestatic 58, 3) := by decide +kernel
theorem d_Sc_netAt_8 : decode c_Sc_netAt 8 = .ok (.ifCond .eq 21, 3) := by decide +kernel
theorem d_Sc_netAt_11 : decode c_Sc_netAt 11 = .ok (.iload_n 1, 1) := by decide +kernel
theorem d_Sc_netAt_12 : decode c_Sc_netAt 12 = .ok (.aload_n 0, 1) := by decide +kernel
theorem d_Sc_netAt_13 : decode c_Sc_netAt 13 = .ok (.getfield 23, 3) := by decide +kernel
theorem d_Sc_netAt_16 : decode c_Sc_netAt 16 = .ok (.arraylength, 1) := by decide +kernel
theorem d_Sc_netAt_17 : decode c_Sc_netAt 17 = .ok (.if_icmp .ge 12, 3) := by decide +kernel
theorem d_Sc_netAt_20 : decode c_Sc_netAt 20 = .ok (.aload_n 0, 1) := by decide +kernel
theorem d_Sc_netAt_21 : decode c_Sc_netAt 21 = .ok (.getfield 23, 3) := by decide +kernel
theorem d_Sc_netAt_24 : decode c_Sc_netAt 24 = .ok (.iload_n 1, 1) := by decide +kernel
theorem d_Sc_netAt_25 : decode c_Sc_netAt 25 = .ok (.aaload, 1) := by decide +kernel
theorem d_Sc_netAt_26 : decode c_Sc_netAt 26 = .ok (.goto 4, 3) := by decide +kernel
theorem d_Sc_netAt_29 : decode c_Sc_netAt 29 = .ok (.aconst_null, 1) := by decide +kernel
theorem d_Sc_netAt_30 : decode c_Sc_netAt 30 = .ok (.areturn, 1) := by decide +kernel
abbrev c_Sc_worstVerdictBelow : ByteArray := prog_9_method_17_code
abbrev r_Sc_worstVerdictBelow : Option FieldType := (some FieldType.int)
def y_Sc_worstVerdictBelow : MethodName := ⟨"PinKindChecks$Schematic", "worstVerdictBelow", "(LPinKindChecks$Pin;)I"⟩
theorem d_Sc_worstVerdictBelow_0 : decode c_Sc_worstVerdictBelow 0 = .ok (.aload_n 1, 1) := by decide +kernel
theorem d_Sc_worstVerdictBelow_1 : decode c_Sc_worstVerdictBelow 1 = .ok (.invokevirtual 118, 3) := by decide +kernel
theorem d_Sc_worstVerdictBelow_4 : decode c_Sc_worstVerdictBelow 4 = .ok (.astore_n 2, 1) := by decide +kernel
theorem d_Sc_worstVerdictBelow_5 : decode c_Sc_worstVerdictBelow 5 = .ok (.aload_n 2, 1) := by decide +kernel
theorem d_Sc_worstVerdictBelow_6 : decode c_Sc_worstVerdictBelow 6 = .ok (.ifnonnull 5, 3) := by decide +kernel
theorem d_Sc_worstVerdictBelow_9 : decode c_Sc_worstVerdictBelow 9 = .ok (.iconst 0, 1) := by decide +kernel
theorem d_Sc_worstVerdictBelow_10 : decode c_Sc_worstVerdictBelow 10 = .ok (.ireturn, 1) := by decide +kernel
theorem d_Sc_worstVerdictBelow_11 : decode c_Sc_worstVerdictBelow 11 = .ok (.iconst 0, 1) := by decide +kernel
theorem d_Sc_worstVerdictBelow_12 : decode c_Sc_worstVerdictBelow 12 = .ok (.istore_n 3, 1) := by decide +kernel
theorem d_Sc_worstVerdictBelow_13 : decode c_Sc_worstVerdictBelow 13 = .ok (.iconst 0, 1) := by decide +kernel
theorem d_Sc_worstVerdictBelow_14 : decode c_Sc_worstVerdictBelow 14 = .ok (.istore 4, 2) := by decide +kernel
theorem d_Sc_worstVerdictBelow_16 : decode c_Sc_worstVerdictBelow 16 = .ok (.iload 4, 2) := by decide +kernel
theorem d_Sc_worstVerdictBelow_18 : decode c_Sc_worstVerdictBelow 18 = .ok (.aload_n 1, 1) := by decide +kernel
theorem d_Sc_worstVerdictBelow_19 : decode c_Sc_worstVerdictBelow 19 = .ok (.invokevirtual 91, 3) := by decide +kernel
theorem d_Sc_worstVerdictBelow_22 : decode c_Sc_worstVerdictBelow 22 = .ok (.if_icmp .ge 49, 3) := by decide +kernel
theorem d_Sc_worstVerdictBelow_25 : decode c_Sc_worstVerdictBelow 25 = .ok (.aload_n 0, 1) := by decide +kernel
theorem d_Sc_worstVerdictBelow_26 : decode c_Sc_worstVerdictBelow 26 = .ok (.iload 4, 2) := by decide +kernel
theorem d_Sc_worstVerdictBelow_28 : decode c_Sc_worstVerdictBelow 28 = .ok (.invokevirtual 104, 3) := by decide +kernel
theorem d_Sc_worstVerdictBelow_31 : decode c_Sc_worstVerdictBelow 31 = .ok (.astore 5, 2) := by decide +kernel
theorem d_Sc_worstVerdictBelow_33 : decode c_Sc_worstVerdictBelow 33 = .ok (.aload 5, 2) := by decide +kernel
theorem d_Sc_worstVerdictBelow_35 : decode c_Sc_worstVerdictBelow 35 = .ok (.ifnull 30, 3) := by decide +kernel
theorem d_Sc_worstVerdictBelow_38 : decode c_Sc_worstVerdictBelow 38 = .ok (.aload 5, 2) := by decide +kernel
theorem d_Sc_worstVerdictBelow_40 : decode c_Sc_worstVerdictBelow 40 = .ok (.invokevirtual 118, 3) := by decide +kernel
theorem d_Sc_worstVerdictBelow_43 : decode c_Sc_worstVerdictBelow 43 = .ok (.aload_n 2, 1) := by decide +kernel
theorem d_Sc_worstVerdictBelow_44 : decode c_Sc_worstVerdictBelow 44 = .ok (.if_acmp .ne 21, 3) := by decide +kernel
theorem d_Sc_worstVerdictBelow_47 : decode c_Sc_worstVerdictBelow 47 = .ok (.iload_n 3, 1) := by decide +kernel
theorem d_Sc_worstVerdictBelow_48 : decode c_Sc_worstVerdictBelow 48 = .ok (.aload_n 0, 1) := by decide +kernel
theorem d_Sc_worstVerdictBelow_49 : decode c_Sc_worstVerdictBelow 49 = .ok (.aload_n 1, 1) := by decide +kernel
theorem d_Sc_worstVerdictBelow_50 : decode c_Sc_worstVerdictBelow 50 = .ok (.invokevirtual 122, 3) := by decide +kernel
theorem d_Sc_worstVerdictBelow_53 : decode c_Sc_worstVerdictBelow 53 = .ok (.aload 5, 2) := by decide +kernel
theorem d_Sc_worstVerdictBelow_55 : decode c_Sc_worstVerdictBelow 55 = .ok (.invokevirtual 122, 3) := by decide +kernel
theorem d_Sc_worstVerdictBelow_58 : decode c_Sc_worstVerdictBelow 58 = .ok (.invokevirtual 62, 3) := by decide +kernel
theorem d_Sc_worstVerdictBelow_61 : decode c_Sc_worstVerdictBelow 61 = .ok (.invokestatic 125, 3) := by decide +kernel
theorem d_Sc_worstVerdictBelow_64 : decode c_Sc_worstVerdictBelow 64 = .ok (.istore_n 3, 1) := by decide +kernel
theorem d_Sc_worstVerdictBelow_65 : decode c_Sc_worstVerdictBelow 65 = .ok (.iinc 4 1, 3) := by decide +kernel
theorem d_Sc_worstVerdictBelow_68 : decode c_Sc_worstVerdictBelow 68 = .ok (.goto (-52), 3) := by decide +kernel
theorem d_Sc_worstVerdictBelow_71 : decode c_Sc_worstVerdictBelow 71 = .ok (.iload_n 3, 1) := by decide +kernel
theorem d_Sc_worstVerdictBelow_72 : decode c_Sc_worstVerdictBelow 72 = .ok (.ireturn, 1) := by decide +kernel
abbrev c_Sc_pinAt : ByteArray := prog_9_method_11_code
abbrev r_Sc_pinAt : Option FieldType := (some (FieldType.object "PinKindChecks$Pin"))
def y_Sc_pinAt : MethodName := ⟨"PinKindChecks$Schematic", "pinAt", "(I)LPinKindChecks$Pin;"⟩
theorem d_Sc_pinAt_0 : decode c_Sc_pinAt 0 = .ok (.iload_n 1, 1) := by decide +kernel
theorem d_Sc_pinAt_1 : decode c_Sc_pinAt 1 = .ok (.aload_n 0, 1) := by decide +kernel
theorem d_Sc_pinAt_2 : decode c_Sc_pinAt 2 = .ok (.getfield 46, 3) := by decide +kernel
theorem d_Sc_pinAt_5 : decode c_Sc_pinAt 5 = .ok (.invokestatic 58, 3) := by decide +kernel
theorem d_Sc_pinAt_8 : decode c_Sc_pinAt 8 = .ok (.ifCond .eq 21, 3) := by decide +kernel
theorem d_Sc_pinAt_11 : decode c_Sc_pinAt 11 = .ok (.iload_n 1, 1) := by decide +kernel
theorem d_Sc_pinAt_12 : decode c_Sc_pinAt 12 = .ok (.aload_n 0, 1) := by decide +kernel
theorem d_Sc_pinAt_13 : decode c_Sc_pinAt 13 = .ok (.getfield 29, 3) := by decide +kernel
theorem d_Sc_pinAt_16 : decode c_Sc_pinAt 16 = .ok (.arraylength, 1) := by decide +kernel
theorem d_Sc_pinAt_17 : decode c_Sc_pinAt 17 = .ok (.if_icmp .ge 12, 3) := by decide +kernel
theorem d_Sc_pinAt_20 : decode c_Sc_pinAt 20 = .ok (.aload_n 0, 1) := by decide +kernel
theorem d_Sc_pinAt_21 : decode c_Sc_pinAt 21 = .ok (.getfield 29, 3) := by decide +kernel
theorem d_Sc_pinAt_24 : decode c_Sc_pinAt 24 = .ok (.iload_n 1, 1) := by decide +kernel
theorem d_Sc_pinAt_25 : decode c_Sc_pinAt 25 = .ok (.aaload, 1) := by decide +kernel
theorem d_Sc_pinAt_26 : decode c_Sc_pinAt 26 = .ok (.goto 4, 3) := by decide +kernel
theorem d_Sc_pinAt_29 : decode c_Sc_pinAt 29 = .ok (.aconst_null, 1) := by decide +kernel
theorem d_Sc_pinAt_30 : decode c_Sc_pinAt 30 = .ok (.areturn, 1) := by decide +kernel
abbrev c_Sc_verdictOf : ByteArray := prog_9_method_4_code
abbrev r_Sc_verdictOf : Option FieldType := (some FieldType.int)
def y_Sc_verdictOf : MethodName := ⟨"PinKindChecks$Schematic", "verdictOf", "(II)I"⟩
theorem d_Sc_verdictOf_0 : decode c_Sc_verdictOf 0 = .ok (.iload_n 1, 1) := by decide +kernel
theorem d_Sc_verdictOf_1 : decode c_Sc_verdictOf 1 = .ok (.bipush 10, 2) := by decide +kernel
theorem d_Sc_verdictOf_3 : decode c_Sc_verdictOf 3 = .ok (.imul, 1) := by decide +kernel
theorem d_Sc_verdictOf_4 : decode c_Sc_verdictOf 4 = .ok (.iload_n 2, 1) := by decide +kernel
theorem d_Sc_verdictOf_5 : decode c_Sc_verdictOf 5 = .ok (.iadd, 1) := by decide +kernel
theorem d_Sc_verdictOf_6 : decode c_Sc_verdictOf 6 = .ok (.istore_n 3, 1) := by decide +kernel
theorem d_Sc_verdictOf_7 : decode c_Sc_verdictOf 7 = .ok (.iload_n 3, 1) := by decide +kernel
theorem d_Sc_verdictOf_8 : decode c_Sc_verdictOf 8 = .ok (.aload_n 0, 1) := by decide +kernel
theorem d_Sc_verdictOf_9 : decode c_Sc_verdictOf 9 = .ok (.getfield 9, 3) := by decide +kernel
theorem d_Sc_verdictOf_12 : decode c_Sc_verdictOf 12 = .ok (.arraylength, 1) := by decide +kernel
theorem d_Sc_verdictOf_13 : decode c_Sc_verdictOf 13 = .ok (.invokestatic 58, 3) := by decide +kernel
theorem d_Sc_verdictOf_16 : decode c_Sc_verdictOf 16 = .ok (.ifCond .eq 12, 3) := by decide +kernel
theorem d_Sc_verdictOf_19 : decode c_Sc_verdictOf 19 = .ok (.aload_n 0, 1) := by decide +kernel
theorem d_Sc_verdictOf_20 : decode c_Sc_verdictOf 20 = .ok (.getfield 9, 3) := by decide +kernel
theorem d_Sc_verdictOf_23 : decode c_Sc_verdictOf 23 = .ok (.iload_n 3, 1) := by decide +kernel
theorem d_Sc_verdictOf_24 : decode c_Sc_verdictOf 24 = .ok (.iaload, 1) := by decide +kernel
theorem d_Sc_verdictOf_25 : decode c_Sc_verdictOf 25 = .ok (.goto 4, 3) := by decide +kernel
theorem d_Sc_verdictOf_28 : decode c_Sc_verdictOf 28 = .ok (.iconst 0, 1) := by decide +kernel
theorem d_Sc_verdictOf_29 : decode c_Sc_verdictOf 29 = .ok (.ireturn, 1) := by decide +kernel
abbrev c_Sc_wipe : ByteArray := prog_9_method_2_code
abbrev r_Sc_wipe : Option FieldType := none
def y_Sc_wipe : MethodName := ⟨"PinKindChecks$Schematic", "wipe", "()V"⟩
theorem d_Sc_wipe_0 : decode c_Sc_wipe 0 = .ok (.aload_n 0, 1) := by decide +kernel
theorem d_Sc_wipe_1 : decode c_Sc_wipe 1 = .ok (.getfield 9, 3) := by decide +kernel
theorem d_Sc_wipe_4 : decode c_Sc_wipe 4 = .ok (.iconst 0, 1) := by decide +kernel
theorem d_Sc_wipe_5 : decode c_Sc_wipe 5 = .ok (.invokestatic 52, 3) := by decide +kernel
theorem d_Sc_wipe_8 : decode c_Sc_wipe 8 = .ok (.aload_n 0, 1) := by decide +kernel
theorem d_Sc_wipe_9 : decode c_Sc_wipe 9 = .ok (.iconst 0, 1) := by decide +kernel
theorem d_Sc_wipe_10 : decode c_Sc_wipe 10 = .ok (.putfield 39, 3) := by decide +kernel
theorem d_Sc_wipe_13 : decode c_Sc_wipe 13 = .ok (.aload_n 0, 1) := by decide +kernel
theorem d_Sc_wipe_14 : decode c_Sc_wipe 14 = .ok (.iconst 0, 1) := by decide +kernel
theorem d_Sc_wipe_15 : decode c_Sc_wipe 15 = .ok (.putfield 43, 3) := by decide +kernel
theorem d_Sc_wipe_18 : decode c_Sc_wipe 18 = .ok (.aload_n 0, 1) := by decide +kernel
theorem d_Sc_wipe_19 : decode c_Sc_wipe 19 = .ok (.iconst 0, 1) := by decide +kernel
theorem d_Sc_wipe_20 : decode c_Sc_wipe 20 = .ok (.putfield 46, 3) := by decide +kernel
theorem d_Sc_wipe_23 : decode c_Sc_wipe 23 = .ok (.aload_n 0, 1) := by decide +kernel
theorem d_Sc_wipe_24 : decode c_Sc_wipe 24 = .ok (.iconst 0, 1) := by decide +kernel
theorem d_Sc_wipe_25 : decode c_Sc_wipe 25 = .ok (.putfield 49, 3) := by decide +kernel
theorem d_Sc_wipe_28 : decode c_Sc_wipe 28 = .ok (.return_, 1) := by decide +kernel
abbrev c_Sc_setVerdict : ByteArray := prog_9_method_3_code
abbrev r_Sc_setVerdict : Option FieldType := (some FieldType.boolean)
def y_Sc_setVerdict : MethodName := ⟨"PinKindChecks$Schematic", "setVerdict", "(III)Z"⟩
theorem d_Sc_setVerdict_0 : decode c_Sc_setVerdict 0 = .ok (.iload_n 1, 1) := by decide +kernel
theorem d_Sc_setVerdict_1 : decode c_Sc_setVerdict 1 = .ok (.bipush 10, 2) := by decide +kernel
theorem d_Sc_setVerdict_3 : decode c_Sc_setVerdict 3 = .ok (.invokestatic 58, 3) := by decide +kernel
theorem d_Sc_setVerdict_6 : decode c_Sc_setVerdict 6 = .ok (.ifCond .eq 12, 3) := by decide +kernel
theorem d_Sc_setVerdict_9 : decode c_Sc_setVerdict 9 = .ok (.iload_n 2, 1) := by decide +kernel
theorem d_Sc_setVerdict_10 : decode c_Sc_setVerdict 10 = .ok (.bipush 10, 2) := by decide +kernel
theorem d_Sc_setVerdict_12 : decode c_Sc_setVerdict 12 = .ok (.invokestatic 58, 3) := by decide +kernel
theorem d_Sc_setVerdict_15 : decode c_Sc_setVerdict 15 = .ok (.ifCond .ne 5, 3) := by decide +kernel
theorem d_Sc_setVerdict_18 : decode c_Sc_setVerdict 18 = .ok (.iconst 0, 1) := by decide +kernel
theorem d_Sc_setVerdict_19 : decode c_Sc_setVerdict 19 = .ok (.ireturn, 1) := by decide +kernel
theorem d_Sc_setVerdict_20 : decode c_Sc_setVerdict 20 = .ok (.aload_n 0, 1) := by decide +kernel
theorem d_Sc_setVerdict_21 : decode c_Sc_setVerdict 21 = .ok (.iload_n 1, 1) := by decide +kernel
theorem d_Sc_setVerdict_22 : decode c_Sc_setVerdict 22 = .ok (.iload_n 2, 1) := by decide +kernel
theorem d_Sc_setVerdict_23 : decode c_Sc_setVerdict 23 = .ok (.invokevirtual 62, 3) := by decide +kernel
theorem d_Sc_setVerdict_26 : decode c_Sc_setVerdict 26 = .ok (.iload_n 3, 1) := by decide +kernel
theorem d_Sc_setVerdict_27 : decode c_Sc_setVerdict 27 = .ok (.if_icmp .eq 7, 3) := by decide +kernel
theorem d_Sc_setVerdict_30 : decode c_Sc_setVerdict 30 = .ok (.iconst 1, 1) := by decide +kernel
theorem d_Sc_setVerdict_31 : decode c_Sc_setVerdict 31 = .ok (.goto 4, 3) := by decide +kernel
theorem d_Sc_setVerdict_34 : decode c_Sc_setVerdict 34 = .ok (.iconst 0, 1) := by decide +kernel
theorem d_Sc_setVerdict_35 : decode c_Sc_setVerdict 35 = .ok (.istore 4, 2) := by decide +kernel
theorem d_Sc_setVerdict_37 : decode c_Sc_setVerdict 37 = .ok (.aload_n 0, 1) := by decide +kernel
theorem d_Sc_setVerdict_38 : decode c_Sc_setVerdict 38 = .ok (.getfield 9, 3) := by decide +kernel
theorem d_Sc_setVerdict_41 : decode c_Sc_setVerdict 41 = .ok (.iload_n 1, 1) := by decide +kernel
theorem d_Sc_setVerdict_42 : decode c_Sc_setVerdict 42 = .ok (.bipush 10, 2) := by decide +kernel
theorem d_Sc_setVerdict_44 : decode c_Sc_setVerdict 44 = .ok (.imul, 1) := by decide +kernel
theorem d_Sc_setVerdict_45 : decode c_Sc_setVerdict 45 = .ok (.iload_n 2, 1) := by decide +kernel
theorem d_Sc_setVerdict_46 : decode c_Sc_setVerdict 46 = .ok (.iadd, 1) := by decide +kernel
theorem d_Sc_setVerdict_47 : decode c_Sc_setVerdict 47 = .ok (.iload_n 3, 1) := by decide +kernel
theorem d_Sc_setVerdict_48 : decode c_Sc_setVerdict 48 = .ok (.iastore, 1) := by decide +kernel
theorem d_Sc_setVerdict_49 : decode c_Sc_setVerdict 49 = .ok (.aload_n 0, 1) := by decide +kernel
theorem d_Sc_setVerdict_50 : decode c_Sc_setVerdict 50 = .ok (.getfield 9, 3) := by decide +kernel
theorem d_Sc_setVerdict_53 : decode c_Sc_setVerdict 53 = .ok (.iload_n 2, 1) := by decide +kernel
theorem d_Sc_setVerdict_54 : decode c_Sc_setVerdict 54 = .ok (.bipush 10, 2) := by decide +kernel
theorem d_Sc_setVerdict_56 : decode c_Sc_setVerdict 56 = .ok (.imul, 1) := by decide +kernel
theorem d_Sc_setVerdict_57 : decode c_Sc_setVerdict 57 = .ok (.iload_n 1, 1) := by decide +kernel
theorem d_Sc_setVerdict_58 : decode c_Sc_setVerdict 58 = .ok (.iadd, 1) := by decide +kernel
theorem d_Sc_setVerdict_59 : decode c_Sc_setVerdict 59 = .ok (.iload_n 3, 1) := by decide +kernel
theorem d_Sc_setVerdict_60 : decode c_Sc_setVerdict 60 = .ok (.iastore, 1) := by decide +kernel
theorem d_Sc_setVerdict_61 : decode c_Sc_setVerdict 61 = .ok (.iload 4, 2) := by decide +kernel
theorem d_Sc_setVerdict_63 : decode c_Sc_setVerdict 63 = .ok (.ireturn, 1) := by decide +kernel
abbrev c_Sc_addPart : ByteArray := prog_9_method_5_code
abbrev r_Sc_addPart : Option FieldType := (some FieldType.int)
def y_Sc_addPart : MethodName := ⟨"PinKindChecks$Schematic", "addPart", "(I)I"⟩
theorem d_Sc_addPart_0 : decode c_Sc_addPart 0 = .ok (.aload_n 0, 1) := by decide +kernel
theorem d_Sc_addPart_1 : decode c_Sc_addPart 1 = .ok (.getfield 39, 3) := by decide +kernel
theorem d_Sc_addPart_4 : decode c_Sc_addPart 4 = .ok (.aload_n 0, 1) := by decide +kernel
theorem d_Sc_addPart_5 : decode c_Sc_addPart 5 = .ok (.getfield 17, 3) := by decide +kernel
theorem d_Sc_addPart_8 : decode c_Sc_addPart 8 = .ok (.arraylength, 1) := by decide +kernel
theorem d_Sc_addPart_9 : decode c_Sc_addPart 9 = .ok (.if_icmp .lt 5, 3) := by decide +kernel
theorem d_Sc_addPart_12 : decode c_Sc_addPart 12 = .ok (.iconst (-1), 1) := by decide +kernel
theorem d_Sc_addPart_13 : decode c_Sc_addPart 13 = .ok (.ireturn, 1) := by decide +kernel
theorem d_Sc_addPart_14 : decode c_Sc_addPart 14 = .ok (.new 15, 3) := by decide +kernel
theorem d_Sc_addPart_17 : decode c_Sc_addPart 17 = .ok (.dup, 1) := by decide +kernel
theorem d_Sc_addPart_18 : decode c_Sc_addPart 18 = .ok (.iload_n 1, 1) := by decide +kernel
theorem d_Sc_addPart_19 : decode c_Sc_addPart 19 = .ok (.aload_n 0, 1) := by decide +kernel
theorem d_Sc_addPart_20 : decode c_Sc_addPart 20 = .ok (.getfield 39, 3) := by decide +kernel
theorem d_Sc_addPart_23 : decode c_Sc_addPart 23 = .ok (.invokespecial 66, 3) := by decide +kernel
theorem d_Sc_addPart_26 : decode c_Sc_addPart 26 = .ok (.astore_n 2, 1) := by decide +kernel
theorem d_Sc_addPart_27 : decode c_Sc_addPart 27 = .ok (.aload_n 0, 1) := by decide +kernel
theorem d_Sc_addPart_28 : decode c_Sc_addPart 28 = .ok (.aload_n 2, 1) := by decide +kernel
theorem d_Sc_addPart_29 : decode c_Sc_addPart 29 = .ok (.invokevirtual 69, 3) := by decide +kernel
theorem d_Sc_addPart_32 : decode c_Sc_addPart 32 = .ok (.aload_n 0, 1) := by decide +kernel
theorem d_Sc_addPart_33 : decode c_Sc_addPart 33 = .ok (.getfield 17, 3) := by decide +kernel
theorem d_Sc_addPart_36 : decode c_Sc_addPart 36 = .ok (.aload_n 0, 1) := by decide +kernel
theorem d_Sc_addPart_37 : decode c_Sc_addPart 37 = .ok (.getfield 39, 3) := by decide +kernel
theorem d_Sc_addPart_40 : decode c_Sc_addPart 40 = .ok (.aload_n 2, 1) := by decide +kernel
theorem d_Sc_addPart_41 : decode c_Sc_addPart 41 = .ok (.aastore, 1) := by decide +kernel
theorem d_Sc_addPart_42 : decode c_Sc_addPart 42 = .ok (.aload_n 0, 1) := by decide +kernel
theorem d_Sc_addPart_43 : decode c_Sc_addPart 43 = .ok (.dup, 1) := by decide +kernel
theorem d_Sc_addPart_44 : decode c_Sc_addPart 44 = .ok (.getfield 39, 3) := by decide +kernel
theorem d_Sc_addPart_47 : decode c_Sc_addPart 47 = .ok (.iconst 1, 1) := by decide +kernel
theorem d_Sc_addPart_48 : decode c_Sc_addPart 48 = .ok (.iadd, 1) := by decide +kernel
theorem d_Sc_addPart_49 : decode c_Sc_addPart 49 = .ok (.putfield 39, 3) := by decide +kernel
theorem d_Sc_addPart_52 : decode c_Sc_addPart 52 = .ok (.aload_n 2, 1) := by decide +kernel
theorem d_Sc_addPart_53 : decode c_Sc_addPart 53 = .ok (.invokevirtual 73, 3) := by decide +kernel
theorem d_Sc_addPart_56 : decode c_Sc_addPart 56 = .ok (.ireturn, 1) := by decide +kernel
abbrev c_Sc_putInOrder : ByteArray := prog_9_method_15_code
abbrev r_Sc_putInOrder : Option FieldType := none
def y_Sc_putInOrder : MethodName := ⟨"PinKindChecks$Schematic", "putInOrder", "(LPinKindChecks$Thing;)V"⟩
theorem d_Sc_putInOrder_0 : decode c_Sc_putInOrder 0 = .ok (.aload_n 0, 1) := by decide +kernel
theorem d_Sc_putInOrder_1 : decode c_Sc_putInOrder 1 = .ok (.invokevirtual 108, 3) := by decide +kernel
theorem d_Sc_putInOrder_4 : decode c_Sc_putInOrder 4 = .ok (.istore_n 2, 1) := by decide +kernel
theorem d_Sc_putInOrder_5 : decode c_Sc_putInOrder 5 = .ok (.iload_n 2, 1) := by decide +kernel
theorem d_Sc_putInOrder_6 : decode c_Sc_putInOrder 6 = .ok (.aload_n 0, 1) := by decide +kernel
theorem d_Sc_putInOrder_7 : decode c_Sc_putInOrder 7 = .ok (.getfield 35, 3) := by decide +kernel
theorem d_Sc_putInOrder_10 : decode c_Sc_putInOrder 10 = .ok (.arraylength, 1) := by decide +kernel
theorem d_Sc_putInOrder_11 : decode c_Sc_putInOrder 11 = .ok (.if_icmp .lt 4, 3) := by decide +kernel
theorem d_Sc_putInOrder_14 : decode c_Sc_putInOrder 14 = .ok (.return_, 1) := by decide +kernel
theorem d_Sc_putInOrder_15 : decode c_Sc_putInOrder 15 = .ok (.iload_n 2, 1) := by decide +kernel
theorem d_Sc_putInOrder_16 : decode c_Sc_putInOrder 16 = .ok (.ifCond .le 38, 3) := by decide +kernel
theorem d_Sc_putInOrder_19 : decode c_Sc_putInOrder 19 = .ok (.aload_n 1, 1) := by decide +kernel
theorem d_Sc_putInOrder_20 : decode c_Sc_putInOrder 20 = .ok (.aload_n 0, 1) := by decide +kernel
theorem d_Sc_putInOrder_21 : decode c_Sc_putInOrder 21 = .ok (.getfield 35, 3) := by decide +kernel
theorem d_Sc_putInOrder_24 : decode c_Sc_putInOrder 24 = .ok (.iload_n 2, 1) := by decide +kernel
theorem d_Sc_putInOrder_25 : decode c_Sc_putInOrder 25 = .ok (.iconst 1, 1) := by decide +kernel
theorem d_Sc_putInOrder_26 : decode c_Sc_putInOrder 26 = .ok (.isub, 1) := by decide +kernel
theorem d_Sc_putInOrder_27 : decode c_Sc_putInOrder 27 = .ok (.aaload, 1) := by decide +kernel
theorem d_Sc_putInOrder_28 : decode c_Sc_putInOrder 28 = .ok (.invokevirtual 111, 3) := by decide +kernel
theorem d_Sc_putInOrder_31 : decode c_Sc_putInOrder 31 = .ok (.ifCond .eq 23, 3) := by decide +kernel
theorem d_Sc_putInOrder_34 : decode c_Sc_putInOrder 34 = .ok (.aload_n 0, 1) := by decide +kernel
theorem d_Sc_putInOrder_35 : decode c_Sc_putInOrder 35 = .ok (.getfield 35, 3) := by decide +kernel
theorem d_Sc_putInOrder_38 : decode c_Sc_putInOrder 38 = .ok (.iload_n 2, 1) := by decide +kernel
theorem d_Sc_putInOrder_39 : decode c_Sc_putInOrder 39 = .ok (.aload_n 0, 1) := by decide +kernel
theorem d_Sc_putInOrder_40 : decode c_Sc_putInOrder 40 = .ok (.getfield 35, 3) := by decide +kernel
theorem d_Sc_putInOrder_43 : decode c_Sc_putInOrder 43 = .ok (.iload_n 2, 1) := by decide +kernel
theorem d_Sc_putInOrder_44 : decode c_Sc_putInOrder 44 = .ok (.iconst 1, 1) := by decide +kernel
theorem d_Sc_putInOrder_45 : decode c_Sc_putInOrder 45 = .ok (.isub, 1) := by decide +kernel
theorem d_Sc_putInOrder_46 : decode c_Sc_putInOrder 46 = .ok (.aaload, 1) := by decide +kernel
theorem d_Sc_putInOrder_47 : decode c_Sc_putInOrder 47 = .ok (.aastore, 1) := by decide +kernel
theorem d_Sc_putInOrder_48 : decode c_Sc_putInOrder 48 = .ok (.iinc 2 (-1), 3) := by decide +kernel
theorem d_Sc_putInOrder_51 : decode c_Sc_putInOrder 51 = .ok (.goto (-36), 3) := by decide +kernel
theorem d_Sc_putInOrder_54 : decode c_Sc_putInOrder 54 = .ok (.aload_n 0, 1) := by decide +kernel
theorem d_Sc_putInOrder_55 : decode c_Sc_putInOrder 55 = .ok (.getfield 35, 3) := by decide +kernel
theorem d_Sc_putInOrder_58 : decode c_Sc_putInOrder 58 = .ok (.iload_n 2, 1) := by decide +kernel
theorem d_Sc_putInOrder_59 : decode c_Sc_putInOrder 59 = .ok (.aload_n 1, 1) := by decide +kernel
theorem d_Sc_putInOrder_60 : decode c_Sc_putInOrder 60 = .ok (.aastore, 1) := by decide +kernel
theorem d_Sc_putInOrder_61 : decode c_Sc_putInOrder 61 = .ok (.return_, 1) := by decide +kernel
abbrev c_Sc_addNet : ByteArray := prog_9_method_6_code
abbrev r_Sc_addNet : Option FieldType := (some FieldType.int)
def y_Sc_addNet : MethodName := ⟨"PinKindChecks$Schematic", "addNet", "(II)I"⟩
theorem d_Sc_addNet_0 : decode c_Sc_addNet 0 = .ok (.aload_n 0, 1) := by decide +kernel
theorem d_Sc_addNet_1 : decode c_Sc_addNet 1 = .ok (.getfield 43, 3) := by decide +kernel
theorem d_Sc_addNet_4 : decode c_Sc_addNet 4 = .ok (.aload_n 0, 1) := by decide +kernel
theorem d_Sc_addNet_5 : decode c_Sc_addNet 5 = .ok (.getfield 23, 3) := by decide +kernel
theorem d_Sc_addNet_8 : decode c_Sc_addNet 8 = .ok (.arraylength, 1) := by decide +kernel
theorem d_Sc_addNet_9 : decode c_Sc_addNet 9 = .ok (.if_icmp .lt 5, 3) := by decide +kernel
theorem d_Sc_addNet_12 : decode c_Sc_addNet 12 = .ok (.iconst (-1), 1) := by decide +kernel
theorem d_Sc_addNet_13 : decode c_Sc_addNet 13 = .ok (.ireturn, 1) := by decide +kernel
theorem d_Sc_addNet_14 : decode c_Sc_addNet 14 = .ok (.new 21, 3) := by decide +kernel
theorem d_Sc_addNet_17 : decode c_Sc_addNet 17 = .ok (.dup, 1) := by decide +kernel
theorem d_Sc_addNet_18 : decode c_Sc_addNet 18 = .ok (.iload_n 1, 1) := by decide +kernel
theorem d_Sc_addNet_19 : decode c_Sc_addNet 19 = .ok (.aload_n 0, 1) := by decide +kernel
theorem d_Sc_addNet_20 : decode c_Sc_addNet 20 = .ok (.getfield 43, 3) := by decide +kernel
theorem d_Sc_addNet_23 : decode c_Sc_addNet 23 = .ok (.iload_n 2, 1) := by decide +kernel
theorem d_Sc_addNet_24 : decode c_Sc_addNet 24 = .ok (.invokespecial 77, 3) := by decide +kernel
theorem d_Sc_addNet_27 : decode c_Sc_addNet 27 = .ok (.astore_n 3, 1) := by decide +kernel
theorem d_Sc_addNet_28 : decode c_Sc_addNet 28 = .ok (.aload_n 0, 1) := by decide +kernel
theorem d_Sc_addNet_29 : decode c_Sc_addNet 29 = .ok (.aload_n 3, 1) := by decide +kernel
theorem d_Sc_addNet_30 : decode c_Sc_addNet 30 = .ok (.invokevirtual 69, 3) := by decide +kernel
theorem d_Sc_addNet_33 : decode c_Sc_addNet 33 = .ok (.aload_n 0, 1) := by decide +kernel
theorem d_Sc_addNet_34 : decode c_Sc_addNet 34 = .ok (.getfield 23, 3) := by decide +kernel
theorem d_Sc_addNet_37 : decode c_Sc_addNet 37 = .ok (.aload_n 0, 1) := by decide +kernel
theorem d_Sc_addNet_38 : decode c_Sc_addNet 38 = .ok (.getfield 43, 3) := by decide +kernel
theorem d_Sc_addNet_41 : decode c_Sc_addNet 41 = .ok (.aload_n 3, 1) := by decide +kernel
theorem d_Sc_addNet_42 : decode c_Sc_addNet 42 = .ok (.aastore, 1) := by decide +kernel
theorem d_Sc_addNet_43 : decode c_Sc_addNet 43 = .ok (.aload_n 0, 1) := by decide +kernel
theorem d_Sc_addNet_44 : decode c_Sc_addNet 44 = .ok (.dup, 1) := by decide +kernel
theorem d_Sc_addNet_45 : decode c_Sc_addNet 45 = .ok (.getfield 43, 3) := by decide +kernel
theorem d_Sc_addNet_48 : decode c_Sc_addNet 48 = .ok (.iconst 1, 1) := by decide +kernel
theorem d_Sc_addNet_49 : decode c_Sc_addNet 49 = .ok (.iadd, 1) := by decide +kernel
theorem d_Sc_addNet_50 : decode c_Sc_addNet 50 = .ok (.putfield 43, 3) := by decide +kernel
theorem d_Sc_addNet_53 : decode c_Sc_addNet 53 = .ok (.aload_n 3, 1) := by decide +kernel
theorem d_Sc_addNet_54 : decode c_Sc_addNet 54 = .ok (.invokevirtual 80, 3) := by decide +kernel
theorem d_Sc_addNet_57 : decode c_Sc_addNet 57 = .ok (.ireturn, 1) := by decide +kernel
abbrev c_Sc_partAt : ByteArray := prog_9_method_9_code
abbrev r_Sc_partAt : Option FieldType := (some (FieldType.object "PinKindChecks$Part"))
def y_Sc_partAt : MethodName := ⟨"PinKindChecks$Schematic", "partAt", "(I)LPinKindChecks$Part;"⟩
theorem d_Sc_partAt_0 : decode c_Sc_partAt 0 = .ok (.iload_n 1, 1) := by decide +kernel
theorem d_Sc_partAt_1 : decode c_Sc_partAt 1 = .ok (.aload_n 0, 1) := by decide +kernel
theorem d_Sc_partAt_2 : decode c_Sc_partAt 2 = .ok (.getfield 39, 3) := by decide +kernel
theorem d_Sc_partAt_5 : decode c_Sc_partAt 5 = .ok (.invokestatic 58, 3) := by decide +kernel
theorem d_Sc_partAt_8 : decode c_Sc_partAt 8 = .ok (.ifCond .eq 21, 3) := by decide +kernel
theorem d_Sc_partAt_11 : decode c_Sc_partAt 11 = .ok (.iload_n 1, 1) := by decide +kernel
theorem d_Sc_partAt_12 : decode c_Sc_partAt 12 = .ok (.aload_n 0, 1) := by decide +kernel
theorem d_Sc_partAt_13 : decode c_Sc_partAt 13 = .ok (.getfield 17, 3) := by decide +kernel
theorem d_Sc_partAt_16 : decode c_Sc_partAt 16 = .ok (.arraylength, 1) := by decide +kernel
theorem d_Sc_partAt_17 : decode c_Sc_partAt 17 = .ok (.if_icmp .ge 12, 3) := by decide +kernel
theorem d_Sc_partAt_20 : decode c_Sc_partAt 20 = .ok (.aload_n 0, 1) := by decide +kernel
theorem d_Sc_partAt_21 : decode c_Sc_partAt 21 = .ok (.getfield 17, 3) := by decide +kernel
theorem d_Sc_partAt_24 : decode c_Sc_partAt 24 = .ok (.iload_n 1, 1) := by decide +kernel
theorem d_Sc_partAt_25 : decode c_Sc_partAt 25 = .ok (.aaload, 1) := by decide +kernel
theorem d_Sc_partAt_26 : decode c_Sc_partAt 26 = .ok (.goto 4, 3) := by decide +kernel
theorem d_Sc_partAt_29 : decode c_Sc_partAt 29 = .ok (.aconst_null, 1) := by decide +kernel
theorem d_Sc_partAt_30 : decode c_Sc_partAt 30 = .ok (.areturn, 1) := by decide +kernel
abbrev c_Sc_addPin : ByteArray := prog_9_method_7_code
abbrev r_Sc_addPin : Option FieldType := (some FieldType.int)
def y_Sc_addPin : MethodName := ⟨"PinKindChecks$Schematic", "addPin", "(LPinKindChecks$Part;LPinKindChecks$Net;I)I"⟩
theorem d_Sc_addPin_0 : decode c_Sc_addPin 0 = .ok (.aload_n 1, 1) := by decide +kernel
theorem d_Sc_addPin_1 : decode c_Sc_addPin 1 = .ok (.ifnull 15, 3) := by decide +kernel
theorem d_Sc_addPin_4 : decode c_Sc_addPin 4 = .ok (.aload_n 0, 1) := by decide +kernel
theorem d_Sc_addPin_5 : decode c_Sc_addPin 5 = .ok (.getfield 46, 3) := by decide +kernel
theorem d_Sc_addPin_8 : decode c_Sc_addPin 8 = .ok (.aload_n 0, 1) := by decide +kernel
theorem d_Sc_addPin_9 : decode c_Sc_addPin 9 = .ok (.getfield 29, 3) := by decide +kernel
theorem d_Sc_addPin_12 : decode c_Sc_addPin 12 = .ok (.arraylength, 1) := by decide +kernel
theorem d_Sc_addPin_13 : decode c_Sc_addPin 13 = .ok (.if_icmp .lt 5, 3) := by decide +kernel
theorem d_Sc_addPin_16 : decode c_Sc_addPin 16 = .ok (.iconst (-1), 1) := by decide +kernel
theorem d_Sc_addPin_17 : decode c_Sc_addPin 17 = .ok (.ireturn, 1) := by decide +kernel
theorem d_Sc_addPin_18 : decode c_Sc_addPin 18 = .ok (.new 27, 3) := by decide +kernel
theorem d_Sc_addPin_21 : decode c_Sc_addPin 21 = .ok (.dup, 1) := by decide +kernel
theorem d_Sc_addPin_22 : decode c_Sc_addPin 22 = .ok (.aload_n 1, 1) := by decide +kernel
theorem d_Sc_addPin_23 : decode c_Sc_addPin 23 = .ok (.aload_n 0, 1) := by decide +kernel
theorem d_Sc_addPin_24 : decode c_Sc_addPin 24 = .ok (.getfield 46, 3) := by decide +kernel
theorem d_Sc_addPin_27 : decode c_Sc_addPin 27 = .ok (.iload_n 3, 1) := by decide +kernel
theorem d_Sc_addPin_28 : decode c_Sc_addPin 28 = .ok (.invokespecial 81, 3) := by decide +kernel
theorem d_Sc_addPin_31 : decode c_Sc_addPin 31 = .ok (.astore 4, 2) := by decide +kernel
theorem d_Sc_addPin_33 : decode c_Sc_addPin 33 = .ok (.aload_n 1, 1) := by decide +kernel
theorem d_Sc_addPin_34 : decode c_Sc_addPin 34 = .ok (.iload_n 3, 1) := by decide +kernel
theorem d_Sc_addPin_35 : decode c_Sc_addPin 35 = .ok (.iconst 1, 1) := by decide +kernel
theorem d_Sc_addPin_36 : decode c_Sc_addPin 36 = .ok (.invokevirtual 84, 3) := by decide +kernel
theorem d_Sc_addPin_39 : decode c_Sc_addPin 39 = .ok (.aload 4, 2) := by decide +kernel
theorem d_Sc_addPin_41 : decode c_Sc_addPin 41 = .ok (.aload_n 2, 1) := by decide +kernel
theorem d_Sc_addPin_42 : decode c_Sc_addPin 42 = .ok (.invokevirtual 87, 3) := by decide +kernel
theorem d_Sc_addPin_45 : decode c_Sc_addPin 45 = .ok (.pop, 1) := by decide +kernel
theorem d_Sc_addPin_46 : decode c_Sc_addPin 46 = .ok (.aload_n 0, 1) := by decide +kernel
theorem d_Sc_addPin_47 : decode c_Sc_addPin 47 = .ok (.aload 4, 2) := by decide +kernel
theorem d_Sc_addPin_49 : decode c_Sc_addPin 49 = .ok (.invokevirtual 69, 3) := by decide +kernel
theorem d_Sc_addPin_52 : decode c_Sc_addPin 52 = .ok (.aload_n 0, 1) := by decide +kernel
theorem d_Sc_addPin_53 : decode c_Sc_addPin 53 = .ok (.getfield 29, 3) := by decide +kernel
theorem d_Sc_addPin_56 : decode c_Sc_addPin 56 = .ok (.aload_n 0, 1) := by decide +kernel
theorem d_Sc_addPin_57 : decode c_Sc_addPin 57 = .ok (.getfield 46, 3) := by decide +kernel
theorem d_Sc_addPin_60 : decode c_Sc_addPin 60 = .ok (.aload 4, 2) := by decide +kernel
theorem d_Sc_addPin_62 : decode c_Sc_addPin 62 = .ok (.aastore, 1) := by decide +kernel
theorem d_Sc_addPin_63 : decode c_Sc_addPin 63 = .ok (.aload_n 0, 1) := by decide +kernel
theorem d_Sc_addPin_64 : decode c_Sc_addPin 64 = .ok (.dup, 1) := by decide +kernel
theorem d_Sc_addPin_65 : decode c_Sc_addPin 65 = .ok (.getfield 46, 3) := by decide +kernel
theorem d_Sc_addPin_68 : decode c_Sc_addPin 68 = .ok (.iconst 1, 1) := by decide +kernel
theorem d_Sc_addPin_69 : decode c_Sc_addPin 69 = .ok (.iadd, 1) := by decide +kernel
theorem d_Sc_addPin_70 : decode c_Sc_addPin 70 = .ok (.putfield 46, 3) := by decide +kernel
theorem d_Sc_addPin_73 : decode c_Sc_addPin 73 = .ok (.aload 4, 2) := by decide +kernel
theorem d_Sc_addPin_75 : decode c_Sc_addPin 75 = .ok (.invokevirtual 91, 3) := by decide +kernel
theorem d_Sc_addPin_78 : decode c_Sc_addPin 78 = .ok (.ireturn, 1) := by decide +kernel
abbrev c_Sc_addEnd : ByteArray := prog_9_method_8_code
abbrev r_Sc_addEnd : Option FieldType := (some FieldType.boolean)
def y_Sc_addEnd : MethodName := ⟨"PinKindChecks$Schematic", "addEnd", "(LPinKindChecks$Net;JJ)Z"⟩
theorem d_Sc_addEnd_0 : decode c_Sc_addEnd 0 = .ok (.aload_n 1, 1) := by decide +kernel
theorem d_Sc_addEnd_1 : decode c_Sc_addEnd 1 = .ok (.ifnull 12, 3) := by decide +kernel
theorem d_Sc_addEnd_4 : decode c_Sc_addEnd 4 = .ok (.aload_n 0, 1) := by decide +kernel
theorem d_Sc_addEnd_5 : decode c_Sc_addEnd 5 = .ok (.getfield 49, 3) := by decide +kernel
theorem d_Sc_addEnd_8 : decode c_Sc_addEnd 8 = .ok (.bipush 100, 2) := by decide +kernel
theorem d_Sc_addEnd_10 : decode c_Sc_addEnd 10 = .ok (.if_icmp .lt 5, 3) := by decide +kernel
theorem d_Sc_addEnd_13 : decode c_Sc_addEnd 13 = .ok (.iconst 0, 1) := by decide +kernel
theorem d_Sc_addEnd_14 : decode c_Sc_addEnd 14 = .ok (.ireturn, 1) := by decide +kernel
theorem d_Sc_addEnd_15 : decode c_Sc_addEnd 15 = .ok (.aload_n 1, 1) := by decide +kernel
theorem d_Sc_addEnd_16 : decode c_Sc_addEnd 16 = .ok (.lload_n 2, 1) := by decide +kernel
theorem d_Sc_addEnd_17 : decode c_Sc_addEnd 17 = .ok (.lload 4, 2) := by decide +kernel
theorem d_Sc_addEnd_19 : decode c_Sc_addEnd 19 = .ok (.invokevirtual 92, 3) := by decide +kernel
theorem d_Sc_addEnd_22 : decode c_Sc_addEnd 22 = .ok (.aload_n 0, 1) := by decide +kernel
theorem d_Sc_addEnd_23 : decode c_Sc_addEnd 23 = .ok (.dup, 1) := by decide +kernel
theorem d_Sc_addEnd_24 : decode c_Sc_addEnd 24 = .ok (.getfield 49, 3) := by decide +kernel
theorem d_Sc_addEnd_27 : decode c_Sc_addEnd 27 = .ok (.iconst 1, 1) := by decide +kernel
theorem d_Sc_addEnd_28 : decode c_Sc_addEnd 28 = .ok (.iadd, 1) := by decide +kernel
theorem d_Sc_addEnd_29 : decode c_Sc_addEnd 29 = .ok (.putfield 49, 3) := by decide +kernel
theorem d_Sc_addEnd_32 : decode c_Sc_addEnd 32 = .ok (.iconst 1, 1) := by decide +kernel
theorem d_Sc_addEnd_33 : decode c_Sc_addEnd 33 = .ok (.ireturn, 1) := by decide +kernel
abbrev c_Sc_thingOf : ByteArray := prog_9_method_12_code
abbrev r_Sc_thingOf : Option FieldType := (some (FieldType.object "PinKindChecks$Thing"))
def y_Sc_thingOf : MethodName := ⟨"PinKindChecks$Schematic", "thingOf", "(II)LPinKindChecks$Thing;"⟩
theorem d_Sc_thingOf_0 : decode c_Sc_thingOf 0 = .ok (.iload_n 1, 1) := by decide +kernel
theorem d_Sc_thingOf_1 : decode c_Sc_thingOf 1 = .ok (.tableswitch 45 0 2 #[27, 33, 39], 27) := by decide +kernel
theorem d_Sc_thingOf_28 : decode c_Sc_thingOf 28 = .ok (.aload_n 0, 1) := by decide +kernel
theorem d_Sc_thingOf_29 : decode c_Sc_thingOf 29 = .ok (.iload_n 2, 1) := by decide +kernel
theorem d_Sc_thingOf_30 : decode c_Sc_thingOf 30 = .ok (.invokevirtual 96, 3) := by decide +kernel
theorem d_Sc_thingOf_33 : decode c_Sc_thingOf 33 = .ok (.areturn, 1) := by decide +kernel
theorem d_Sc_thingOf_34 : decode c_Sc_thingOf 34 = .ok (.aload_n 0, 1) := by decide +kernel
theorem d_Sc_thingOf_35 : decode c_Sc_thingOf 35 = .ok (.iload_n 2, 1) := by decide +kernel
theorem d_Sc_thingOf_36 : decode c_Sc_thingOf 36 = .ok (.invokevirtual 100, 3) := by decide +kernel
theorem d_Sc_thingOf_39 : decode c_Sc_thingOf 39 = .ok (.areturn, 1) := by decide +kernel
theorem d_Sc_thingOf_40 : decode c_Sc_thingOf 40 = .ok (.aload_n 0, 1) := by decide +kernel
theorem d_Sc_thingOf_41 : decode c_Sc_thingOf 41 = .ok (.iload_n 2, 1) := by decide +kernel
theorem d_Sc_thingOf_42 : decode c_Sc_thingOf 42 = .ok (.invokevirtual 104, 3) := by decide +kernel
theorem d_Sc_thingOf_45 : decode c_Sc_thingOf 45 = .ok (.areturn, 1) := by decide +kernel
theorem d_Sc_thingOf_46 : decode c_Sc_thingOf 46 = .ok (.aconst_null, 1) := by decide +kernel
theorem d_Sc_thingOf_47 : decode c_Sc_thingOf 47 = .ok (.areturn, 1) := by decide +kernel
