abbrev c_Ph_pinsOfKind : ByteArray := prog_5_method_4_code
abbrev r_Ph_pinsOfKind : Option FieldType := (some FieldType.int)
def y_Ph_pinsOfKind : MethodName := ⟨"PinKindChecks$PinHolder", "pinsOfKind", "(I)I"⟩
theorem d_Ph_pinsOfKind_0 : decode c_Ph_pinsOfKind 0 = .ok (.iload_n 1, 1) := by decide +kernel
theorem d_Ph_pinsOfKind_1 : decode c_Ph_pinsOfKind 1 = .ok (.aload_n 0, 1) := by decide +kernel
theorem d_Ph_pinsOfKind_2 : decode c_Ph_pinsOfKind 2 = .ok (.getfield 9, 3) := by decide +kernel
theorem d_Ph_pinsOfKind_5 : decode c_Ph_pinsOfKind 5 = .ok (.arraylength, 1) := by decide +kernel
theorem d_Ph_pinsOfKind_6 : decode c_Ph_pinsOfKind 6 = .ok (.invokestatic 19, 3) := by decide +kernel
theorem d_Ph_pinsOfKind_9 : decode c_Ph_pinsOfKind 9 = .ok (.ifCond .eq 12, 3) := by decide +kernel
theorem d_Ph_pinsOfKind_12 : decode c_Ph_pinsOfKind 12 = .ok (.aload_n 0, 1) := by decide +kernel
theorem d_Ph_pinsOfKind_13 : decode c_Ph_pinsOfKind 13 = .ok (.getfield 9, 3) := by decide +kernel
theorem d_Ph_pinsOfKind_16 : decode c_Ph_pinsOfKind 16 = .ok (.iload_n 1, 1) := by decide +kernel
theorem d_Ph_pinsOfKind_17 : decode c_Ph_pinsOfKind 17 = .ok (.iaload, 1) := by decide +kernel
theorem d_Ph_pinsOfKind_18 : decode c_Ph_pinsOfKind 18 = .ok (.goto 4, 3) := by decide +kernel
theorem d_Ph_pinsOfKind_21 : decode c_Ph_pinsOfKind 21 = .ok (.iconst 0, 1) := by decide +kernel
theorem d_Ph_pinsOfKind_22 : decode c_Ph_pinsOfKind 22 = .ok (.ireturn, 1) := by decide +kernel
abbrev c_Ph_pinCount : ByteArray := prog_5_method_3_code
abbrev r_Ph_pinCount : Option FieldType := (some FieldType.int)
def y_Ph_pinCount : MethodName := ⟨"PinKindChecks$PinHolder", "pinCount", "()I"⟩
theorem d_Ph_pinCount_0 : decode c_Ph_pinCount 0 = .ok (.aload_n 0, 1) := by decide +kernel
theorem d_Ph_pinCount_1 : decode c_Ph_pinCount 1 = .ok (.getfield 15, 3) := by decide +kernel
theorem d_Ph_pinCount_4 : decode c_Ph_pinCount 4 = .ok (.ireturn, 1) := by decide +kernel
abbrev c_Ph_valueOf : ByteArray := prog_5_method_5_code
abbrev r_Ph_valueOf : Option FieldType := (some FieldType.long)
def y_Ph_valueOf : MethodName := ⟨"PinKindChecks$PinHolder", "valueOf", "(II)J"⟩
theorem d_Ph_valueOf_0 : decode c_Ph_valueOf 0 = .ok (.iload_n 1, 1) := by decide +kernel
theorem d_Ph_valueOf_1 : decode c_Ph_valueOf 1 = .ok (.tableswitch 54 15 19 #[35, 54, 54, 48, 41], 35) := by decide +kernel
theorem d_Ph_valueOf_36 : decode c_Ph_valueOf 36 = .ok (.aload_n 0, 1) := by decide +kernel
theorem d_Ph_valueOf_37 : decode c_Ph_valueOf 37 = .ok (.getfield 15, 3) := by decide +kernel
theorem d_Ph_valueOf_40 : decode c_Ph_valueOf 40 = .ok (.i2l, 1) := by decide +kernel
theorem d_Ph_valueOf_41 : decode c_Ph_valueOf 41 = .ok (.lreturn, 1) := by decide +kernel
theorem d_Ph_valueOf_42 : decode c_Ph_valueOf 42 = .ok (.aload_n 0, 1) := by decide +kernel
theorem d_Ph_valueOf_43 : decode c_Ph_valueOf 43 = .ok (.iload_n 2, 1) := by decide +kernel
theorem d_Ph_valueOf_44 : decode c_Ph_valueOf 44 = .ok (.invokevirtual 23, 3) := by decide +kernel
theorem d_Ph_valueOf_47 : decode c_Ph_valueOf 47 = .ok (.i2l, 1) := by decide +kernel
theorem d_Ph_valueOf_48 : decode c_Ph_valueOf 48 = .ok (.lreturn, 1) := by decide +kernel
theorem d_Ph_valueOf_49 : decode c_Ph_valueOf 49 = .ok (.aload_n 0, 1) := by decide +kernel
theorem d_Ph_valueOf_50 : decode c_Ph_valueOf 50 = .ok (.invokevirtual 26, 3) := by decide +kernel
theorem d_Ph_valueOf_53 : decode c_Ph_valueOf 53 = .ok (.i2l, 1) := by decide +kernel
theorem d_Ph_valueOf_54 : decode c_Ph_valueOf 54 = .ok (.lreturn, 1) := by decide +kernel
theorem d_Ph_valueOf_55 : decode c_Ph_valueOf 55 = .ok (.aload_n 0, 1) := by decide +kernel
theorem d_Ph_valueOf_56 : decode c_Ph_valueOf 56 = .ok (.iload_n 1, 1) := by decide +kernel
theorem d_Ph_valueOf_57 : decode c_Ph_valueOf 57 = .ok (.iload_n 2, 1) := by decide +kernel
theorem d_Ph_valueOf_58 : decode c_Ph_valueOf 58 = .ok (.invokevirtual 30, 3) := by decide +kernel
theorem d_Ph_valueOf_61 : decode c_Ph_valueOf 61 = .ok (.lreturn, 1) := by decide +kernel
abbrev c_Ph_init : ByteArray := prog_5_method_1_code
abbrev r_Ph_init : Option FieldType := none
def y_Ph_init : MethodName := ⟨"PinKindChecks$PinHolder", "<init>", "(III)V"⟩
theorem d_Ph_init_0 : decode c_Ph_init 0 = .ok (.aload_n 0, 1) := by decide +kernel
theorem d_Ph_init_1 : decode c_Ph_init 1 = .ok (.iload_n 1, 1) := by decide +kernel
theorem d_Ph_init_2 : decode c_Ph_init 2 = .ok (.iload_n 2, 1) := by decide +kernel
theorem d_Ph_init_3 : decode c_Ph_init 3 = .ok (.iload_n 3, 1) := by decide +kernel
theorem d_Ph_init_4 : decode c_Ph_init 4 = .ok (.invokespecial 3, 3) := by decide +kernel
theorem d_Ph_init_7 : decode c_Ph_init 7 = .ok (.aload_n 0, 1) := by decide +kernel
theorem d_Ph_init_8 : decode c_Ph_init 8 = .ok (.bipush 10, 2) := by decide +kernel
theorem d_Ph_init_10 : decode c_Ph_init 10 = .ok (.newarray .int, 2) := by decide +kernel
theorem d_Ph_init_12 : decode c_Ph_init 12 = .ok (.putfield 9, 3) := by decide +kernel
theorem d_Ph_init_15 : decode c_Ph_init 15 = .ok (.aload_n 0, 1) := by decide +kernel
theorem d_Ph_init_16 : decode c_Ph_init 16 = .ok (.iconst 0, 1) := by decide +kernel
theorem d_Ph_init_17 : decode c_Ph_init 17 = .ok (.putfield 15, 3) := by decide +kernel
theorem d_Ph_init_20 : decode c_Ph_init 20 = .ok (.return_, 1) := by decide +kernel
abbrev c_Ph_countPins : ByteArray := prog_5_method_2_code
abbrev r_Ph_countPins : Option FieldType := none
def y_Ph_countPins : MethodName := ⟨"PinKindChecks$PinHolder", "countPins", "(II)V"⟩
theorem d_Ph_countPins_0 : decode c_Ph_countPins 0 = .ok (.iload_n 1, 1) := by decide +kernel
theorem d_Ph_countPins_1 : decode c_Ph_countPins 1 = .ok (.aload_n 0, 1) := by decide +kernel
theorem d_Ph_countPins_2 : decode c_Ph_countPins 2 = .ok (.getfield 9, 3) := by decide +kernel
theorem d_Ph_countPins_5 : decode c_Ph_countPins 5 = .ok (.arraylength, 1) := by decide +kernel
theorem d_Ph_countPins_6 : decode c_Ph_countPins 6 = .ok (.invokestatic 19, 3) := by decide +kernel
theorem d_Ph_countPins_9 : decode c_Ph_countPins 9 = .ok (.ifCond .eq 23, 3) := by decide +kernel
theorem d_Ph_countPins_12 : decode c_Ph_countPins 12 = .ok (.aload_n 0, 1) := by decide +kernel
theorem d_Ph_countPins_13 : decode c_Ph_countPins 13 = .ok (.getfield 9, 3) := by decide +kernel
theorem d_Ph_countPins_16 : decode c_Ph_countPins 16 = .ok (.iload_n 1, 1) := by decide +kernel
theorem d_Ph_countPins_17 : decode c_Ph_countPins 17 = .ok (.dup2, 1) := by decide +kernel
theorem d_Ph_countPins_18 : decode c_Ph_countPins 18 = .ok (.iaload, 1) := by decide +kernel
theorem d_Ph_countPins_19 : decode c_Ph_countPins 19 = .ok (.iload_n 2, 1) := by decide +kernel
theorem d_Ph_countPins_20 : decode c_Ph_countPins 20 = .ok (.iadd, 1) := by decide +kernel
theorem d_Ph_countPins_21 : decode c_Ph_countPins 21 = .ok (.iastore, 1) := by decide +kernel
theorem d_Ph_countPins_22 : decode c_Ph_countPins 22 = .ok (.aload_n 0, 1) := by decide +kernel
theorem d_Ph_countPins_23 : decode c_Ph_countPins 23 = .ok (.dup, 1) := by decide +kernel
theorem d_Ph_countPins_24 : decode c_Ph_countPins 24 = .ok (.getfield 15, 3) := by decide +kernel
theorem d_Ph_countPins_27 : decode c_Ph_countPins 27 = .ok (.iload_n 2, 1) := by decide +kernel
theorem d_Ph_countPins_28 : decode c_Ph_countPins 28 = .ok (.iadd, 1) := by decide +kernel
theorem d_Ph_countPins_29 : decode c_Ph_countPins 29 = .ok (.putfield 15, 3) := by decide +kernel
theorem d_Ph_countPins_32 : decode c_Ph_countPins 32 = .ok (.return_, 1) := by decide +kernel
