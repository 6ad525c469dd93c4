abbrev c_Th_number : ByteArray := prog_10_method_3_code
abbrev r_Th_number : Option FieldType := (some FieldType.int)
def y_Th_number : MethodName := ⟨"PinKindChecks$Thing", "number", "()I"⟩
theorem d_Th_number_0 : decode c_Th_number 0 = .ok (.aload_n 0, 1) := by decide +kernel
theorem d_Th_number_1 : decode c_Th_number 1 = .ok (.getfield 15, 3) := by decide +kernel
theorem d_Th_number_4 : decode c_Th_number 4 = .ok (.sipush 160, 3) := by decide +kernel
theorem d_Th_number_7 : decode c_Th_number 7 = .ok (.irem, 1) := by decide +kernel
theorem d_Th_number_8 : decode c_Th_number 8 = .ok (.ireturn, 1) := by decide +kernel
abbrev c_Th_sheet : ByteArray := prog_10_method_2_code
abbrev r_Th_sheet : Option FieldType := (some FieldType.int)
def y_Th_sheet : MethodName := ⟨"PinKindChecks$Thing", "sheet", "()I"⟩
theorem d_Th_sheet_0 : decode c_Th_sheet 0 = .ok (.aload_n 0, 1) := by decide +kernel
theorem d_Th_sheet_1 : decode c_Th_sheet 1 = .ok (.getfield 9, 3) := by decide +kernel
theorem d_Th_sheet_4 : decode c_Th_sheet 4 = .ok (.ireturn, 1) := by decide +kernel
abbrev c_Th_keyWith : ByteArray := prog_10_method_5_code
abbrev r_Th_keyWith : Option FieldType := (some FieldType.int)
def y_Th_keyWith : MethodName := ⟨"PinKindChecks$Thing", "keyWith", "(I)I"⟩
theorem d_Th_keyWith_0 : decode c_Th_keyWith 0 = .ok (.aload_n 0, 1) := by decide +kernel
theorem d_Th_keyWith_1 : decode c_Th_keyWith 1 = .ok (.getfield 15, 3) := by decide +kernel
theorem d_Th_keyWith_4 : decode c_Th_keyWith 4 = .ok (.bipush 27, 2) := by decide +kernel
theorem d_Th_keyWith_6 : decode c_Th_keyWith 6 = .ok (.imul, 1) := by decide +kernel
theorem d_Th_keyWith_7 : decode c_Th_keyWith 7 = .ok (.iload_n 1, 1) := by decide +kernel
theorem d_Th_keyWith_8 : decode c_Th_keyWith 8 = .ok (.iadd, 1) := by decide +kernel
theorem d_Th_keyWith_9 : decode c_Th_keyWith 9 = .ok (.ireturn, 1) := by decide +kernel
abbrev c_Th_init : ByteArray := prog_10_method_1_code
abbrev r_Th_init : Option FieldType := none
def y_Th_init : MethodName := ⟨"PinKindChecks$Thing", "<init>", "(III)V"⟩
theorem d_Th_init_0 : decode c_Th_init 0 = .ok (.aload_n 0, 1) := by decide +kernel
theorem d_Th_init_1 : decode c_Th_init 1 = .ok (.invokespecial 3, 3) := by decide +kernel
theorem d_Th_init_4 : decode c_Th_init 4 = .ok (.aload_n 0, 1) := by decide +kernel
theorem d_Th_init_5 : decode c_Th_init 5 = .ok (.iload_n 1, 1) := by decide +kernel
theorem d_Th_init_6 : decode c_Th_init 6 = .ok (.putfield 9, 3) := by decide +kernel
theorem d_Th_init_9 : decode c_Th_init 9 = .ok (.aload_n 0, 1) := by decide +kernel
theorem d_Th_init_10 : decode c_Th_init 10 = .ok (.iload_n 1, 1) := by decide +kernel
theorem d_Th_init_11 : decode c_Th_init 11 = .ok (.iconst 3, 1) := by decide +kernel
theorem d_Th_init_12 : decode c_Th_init 12 = .ok (.imul, 1) := by decide +kernel
theorem d_Th_init_13 : decode c_Th_init 13 = .ok (.iload_n 2, 1) := by decide +kernel
theorem d_Th_init_14 : decode c_Th_init 14 = .ok (.iadd, 1) := by decide +kernel
theorem d_Th_init_15 : decode c_Th_init 15 = .ok (.sipush 160, 3) := by decide +kernel
theorem d_Th_init_18 : decode c_Th_init 18 = .ok (.imul, 1) := by decide +kernel
theorem d_Th_init_19 : decode c_Th_init 19 = .ok (.iload_n 3, 1) := by decide +kernel
theorem d_Th_init_20 : decode c_Th_init 20 = .ok (.iadd, 1) := by decide +kernel
theorem d_Th_init_21 : decode c_Th_init 21 = .ok (.putfield 15, 3) := by decide +kernel
theorem d_Th_init_24 : decode c_Th_init 24 = .ok (.return_, 1) := by decide +kernel
abbrev c_Th_isBefore : ByteArray := prog_10_method_4_code
abbrev r_Th_isBefore : Option FieldType := (some FieldType.boolean)
def y_Th_isBefore : MethodName := ⟨"PinKindChecks$Thing", "isBefore", "(LPinKindChecks$Thing;)Z"⟩
theorem d_Th_isBefore_0 : decode c_Th_isBefore 0 = .ok (.aload_n 1, 1) := by decide +kernel
theorem d_Th_isBefore_1 : decode c_Th_isBefore 1 = .ok (.ifnull 18, 3) := by decide +kernel
theorem d_Th_isBefore_4 : decode c_Th_isBefore 4 = .ok (.aload_n 0, 1) := by decide +kernel
theorem d_Th_isBefore_5 : decode c_Th_isBefore 5 = .ok (.getfield 15, 3) := by decide +kernel
theorem d_Th_isBefore_8 : decode c_Th_isBefore 8 = .ok (.aload_n 1, 1) := by decide +kernel
theorem d_Th_isBefore_9 : decode c_Th_isBefore 9 = .ok (.getfield 15, 3) := by decide +kernel
theorem d_Th_isBefore_12 : decode c_Th_isBefore 12 = .ok (.if_icmp .ge 7, 3) := by decide +kernel
theorem d_Th_isBefore_15 : decode c_Th_isBefore 15 = .ok (.iconst 1, 1) := by decide +kernel
theorem d_Th_isBefore_16 : decode c_Th_isBefore 16 = .ok (.goto 4, 3) := by decide +kernel
theorem d_Th_isBefore_19 : decode c_Th_isBefore 19 = .ok (.iconst 0, 1) := by decide +kernel
theorem d_Th_isBefore_20 : decode c_Th_isBefore 20 = .ok (.ireturn, 1) := by decide +kernel
