abbrev c_Wv_init : ByteArray := prog_12_method_1_code
abbrev r_Wv_init : Option FieldType := none
def y_Wv_init : MethodName := ⟨"PinKindChecks$Waivers", "<init>", "()V"⟩
theorem d_Wv_init_0 : decode c_Wv_init 0 = .ok (.aload_n 0, 1) := by decide +kernel
theorem d_Wv_init_1 : decode c_Wv_init 1 = .ok (.invokespecial 3, 3) := by decide +kernel
theorem d_Wv_init_4 : decode c_Wv_init 4 = .ok (.aload_n 0, 1) := by decide +kernel
theorem d_Wv_init_5 : decode c_Wv_init 5 = .ok (.bipush 50, 2) := by decide +kernel
theorem d_Wv_init_7 : decode c_Wv_init 7 = .ok (.newarray .int, 2) := by decide +kernel
theorem d_Wv_init_9 : decode c_Wv_init 9 = .ok (.putfield 9, 3) := by decide +kernel
theorem d_Wv_init_12 : decode c_Wv_init 12 = .ok (.aload_n 0, 1) := by decide +kernel
theorem d_Wv_init_13 : decode c_Wv_init 13 = .ok (.bipush 50, 2) := by decide +kernel
theorem d_Wv_init_15 : decode c_Wv_init 15 = .ok (.newarray .int, 2) := by decide +kernel
theorem d_Wv_init_17 : decode c_Wv_init 17 = .ok (.putfield 15, 3) := by decide +kernel
theorem d_Wv_init_20 : decode c_Wv_init 20 = .ok (.aload_n 0, 1) := by decide +kernel
theorem d_Wv_init_21 : decode c_Wv_init 21 = .ok (.iconst 0, 1) := by decide +kernel
theorem d_Wv_init_22 : decode c_Wv_init 22 = .ok (.putfield 18, 3) := by decide +kernel
theorem d_Wv_init_25 : decode c_Wv_init 25 = .ok (.return_, 1) := by decide +kernel
abbrev c_Wv_reasonFor : ByteArray := prog_12_method_3_code
abbrev r_Wv_reasonFor : Option FieldType := (some FieldType.int)
def y_Wv_reasonFor : MethodName := ⟨"PinKindChecks$Waivers", "reasonFor", "(I)I"⟩
theorem d_Wv_reasonFor_0 : decode c_Wv_reasonFor 0 = .ok (.aload_n 0, 1) := by decide +kernel
theorem d_Wv_reasonFor_1 : decode c_Wv_reasonFor 1 = .ok (.iload_n 1, 1) := by decide +kernel
theorem d_Wv_reasonFor_2 : decode c_Wv_reasonFor 2 = .ok (.invokevirtual 22, 3) := by decide +kernel
theorem d_Wv_reasonFor_5 : decode c_Wv_reasonFor 5 = .ok (.istore_n 2, 1) := by decide +kernel
theorem d_Wv_reasonFor_6 : decode c_Wv_reasonFor 6 = .ok (.iload_n 2, 1) := by decide +kernel
theorem d_Wv_reasonFor_7 : decode c_Wv_reasonFor 7 = .ok (.aload_n 0, 1) := by decide +kernel
theorem d_Wv_reasonFor_8 : decode c_Wv_reasonFor 8 = .ok (.getfield 15, 3) := by decide +kernel
theorem d_Wv_reasonFor_11 : decode c_Wv_reasonFor 11 = .ok (.arraylength, 1) := by decide +kernel
theorem d_Wv_reasonFor_12 : decode c_Wv_reasonFor 12 = .ok (.invokestatic 26, 3) := by decide +kernel
theorem d_Wv_reasonFor_15 : decode c_Wv_reasonFor 15 = .ok (.ifCond .eq 12, 3) := by decide +kernel
theorem d_Wv_reasonFor_18 : decode c_Wv_reasonFor 18 = .ok (.aload_n 0, 1) := by decide +kernel
theorem d_Wv_reasonFor_19 : decode c_Wv_reasonFor 19 = .ok (.getfield 15, 3) := by decide +kernel
theorem d_Wv_reasonFor_22 : decode c_Wv_reasonFor 22 = .ok (.iload_n 2, 1) := by decide +kernel
theorem d_Wv_reasonFor_23 : decode c_Wv_reasonFor 23 = .ok (.iaload, 1) := by decide +kernel
theorem d_Wv_reasonFor_24 : decode c_Wv_reasonFor 24 = .ok (.goto 4, 3) := by decide +kernel
theorem d_Wv_reasonFor_27 : decode c_Wv_reasonFor 27 = .ok (.iconst (-1), 1) := by decide +kernel
theorem d_Wv_reasonFor_28 : decode c_Wv_reasonFor 28 = .ok (.ireturn, 1) := by decide +kernel
abbrev c_Wv_indexOf : ByteArray := prog_12_method_5_code
abbrev r_Wv_indexOf : Option FieldType := (some FieldType.int)
def y_Wv_indexOf : MethodName := ⟨"PinKindChecks$Waivers", "indexOf", "(I)I"⟩
theorem d_Wv_indexOf_0 : decode c_Wv_indexOf 0 = .ok (.iconst 0, 1) := by decide +kernel
theorem d_Wv_indexOf_1 : decode c_Wv_indexOf 1 = .ok (.istore_n 2, 1) := by decide +kernel
theorem d_Wv_indexOf_2 : decode c_Wv_indexOf 2 = .ok (.iload_n 2, 1) := by decide +kernel
theorem d_Wv_indexOf_3 : decode c_Wv_indexOf 3 = .ok (.aload_n 0, 1) := by decide +kernel
theorem d_Wv_indexOf_4 : decode c_Wv_indexOf 4 = .ok (.getfield 18, 3) := by decide +kernel
theorem d_Wv_indexOf_7 : decode c_Wv_indexOf 7 = .ok (.if_icmp .ge 30, 3) := by decide +kernel
theorem d_Wv_indexOf_10 : decode c_Wv_indexOf 10 = .ok (.iload_n 2, 1) := by decide +kernel
theorem d_Wv_indexOf_11 : decode c_Wv_indexOf 11 = .ok (.aload_n 0, 1) := by decide +kernel
theorem d_Wv_indexOf_12 : decode c_Wv_indexOf 12 = .ok (.getfield 9, 3) := by decide +kernel
theorem d_Wv_indexOf_15 : decode c_Wv_indexOf 15 = .ok (.arraylength, 1) := by decide +kernel
theorem d_Wv_indexOf_16 : decode c_Wv_indexOf 16 = .ok (.if_icmp .ge 21, 3) := by decide +kernel
theorem d_Wv_indexOf_19 : decode c_Wv_indexOf 19 = .ok (.aload_n 0, 1) := by decide +kernel
theorem d_Wv_indexOf_20 : decode c_Wv_indexOf 20 = .ok (.getfield 9, 3) := by decide +kernel
theorem d_Wv_indexOf_23 : decode c_Wv_indexOf 23 = .ok (.iload_n 2, 1) := by decide +kernel
theorem d_Wv_indexOf_24 : decode c_Wv_indexOf 24 = .ok (.iaload, 1) := by decide +kernel
theorem d_Wv_indexOf_25 : decode c_Wv_indexOf 25 = .ok (.iload_n 1, 1) := by decide +kernel
theorem d_Wv_indexOf_26 : decode c_Wv_indexOf 26 = .ok (.if_icmp .ne 5, 3) := by decide +kernel
theorem d_Wv_indexOf_29 : decode c_Wv_indexOf 29 = .ok (.iload_n 2, 1) := by decide +kernel
theorem d_Wv_indexOf_30 : decode c_Wv_indexOf 30 = .ok (.ireturn, 1) := by decide +kernel
theorem d_Wv_indexOf_31 : decode c_Wv_indexOf 31 = .ok (.iinc 2 1, 3) := by decide +kernel
theorem d_Wv_indexOf_34 : decode c_Wv_indexOf 34 = .ok (.goto (-32), 3) := by decide +kernel
theorem d_Wv_indexOf_37 : decode c_Wv_indexOf 37 = .ok (.iconst (-1), 1) := by decide +kernel
theorem d_Wv_indexOf_38 : decode c_Wv_indexOf 38 = .ok (.ireturn, 1) := by decide +kernel
abbrev c_Wv_wipe : ByteArray := prog_12_method_2_code
abbrev r_Wv_wipe : Option FieldType := none
def y_Wv_wipe : MethodName := ⟨"PinKindChecks$Waivers", "wipe", "()V"⟩
theorem d_Wv_wipe_0 : decode c_Wv_wipe 0 = .ok (.aload_n 0, 1) := by decide +kernel
theorem d_Wv_wipe_1 : decode c_Wv_wipe 1 = .ok (.iconst 0, 1) := by decide +kernel
theorem d_Wv_wipe_2 : decode c_Wv_wipe 2 = .ok (.putfield 18, 3) := by decide +kernel
theorem d_Wv_wipe_5 : decode c_Wv_wipe 5 = .ok (.return_, 1) := by decide +kernel
abbrev c_Wv_setReason : ByteArray := prog_12_method_4_code
abbrev r_Wv_setReason : Option FieldType := (some FieldType.boolean)
def y_Wv_setReason : MethodName := ⟨"PinKindChecks$Waivers", "setReason", "(II)Z"⟩
theorem d_Wv_setReason_0 : decode c_Wv_setReason 0 = .ok (.aload_n 0, 1) := by decide +kernel
theorem d_Wv_setReason_1 : decode c_Wv_setReason 1 = .ok (.iload_n 1, 1) := by decide +kernel
theorem d_Wv_setReason_2 : decode c_Wv_setReason 2 = .ok (.invokevirtual 30, 3) := by decide +kernel
theorem d_Wv_setReason_5 : decode c_Wv_setReason 5 = .ok (.iload_n 2, 1) := by decide +kernel
theorem d_Wv_setReason_6 : decode c_Wv_setReason 6 = .ok (.if_icmp .ne 5, 3) := by decide +kernel
theorem d_Wv_setReason_9 : decode c_Wv_setReason 9 = .ok (.iconst 0, 1) := by decide +kernel
theorem d_Wv_setReason_10 : decode c_Wv_setReason 10 = .ok (.ireturn, 1) := by decide +kernel
theorem d_Wv_setReason_11 : decode c_Wv_setReason 11 = .ok (.aload_n 0, 1) := by decide +kernel
theorem d_Wv_setReason_12 : decode c_Wv_setReason 12 = .ok (.iload_n 1, 1) := by decide +kernel
theorem d_Wv_setReason_13 : decode c_Wv_setReason 13 = .ok (.invokevirtual 22, 3) := by decide +kernel
theorem d_Wv_setReason_16 : decode c_Wv_setReason 16 = .ok (.istore_n 3, 1) := by decide +kernel
theorem d_Wv_setReason_17 : decode c_Wv_setReason 17 = .ok (.iload_n 3, 1) := by decide +kernel
theorem d_Wv_setReason_18 : decode c_Wv_setReason 18 = .ok (.iconst (-1), 1) := by decide +kernel
theorem d_Wv_setReason_19 : decode c_Wv_setReason 19 = .ok (.if_icmp .ne 10, 3) := by decide +kernel
theorem d_Wv_setReason_22 : decode c_Wv_setReason 22 = .ok (.aload_n 0, 1) := by decide +kernel
theorem d_Wv_setReason_23 : decode c_Wv_setReason 23 = .ok (.iload_n 1, 1) := by decide +kernel
theorem d_Wv_setReason_24 : decode c_Wv_setReason 24 = .ok (.iload_n 2, 1) := by decide +kernel
theorem d_Wv_setReason_25 : decode c_Wv_setReason 25 = .ok (.invokevirtual 33, 3) := by decide +kernel
theorem d_Wv_setReason_28 : decode c_Wv_setReason 28 = .ok (.ireturn, 1) := by decide +kernel
theorem d_Wv_setReason_29 : decode c_Wv_setReason 29 = .ok (.iload_n 2, 1) := by decide +kernel
theorem d_Wv_setReason_30 : decode c_Wv_setReason 30 = .ok (.iconst (-1), 1) := by decide +kernel
theorem d_Wv_setReason_31 : decode c_Wv_setReason 31 = .ok (.if_icmp .ne 11, 3) := by decide +kernel
theorem d_Wv_setReason_34 : decode c_Wv_setReason 34 = .ok (.aload_n 0, 1) := by decide +kernel
theorem d_Wv_setReason_35 : decode c_Wv_setReason 35 = .ok (.iload_n 3, 1) := by decide +kernel
theorem d_Wv_setReason_36 : decode c_Wv_setReason 36 = .ok (.invokevirtual 36, 3) := by decide +kernel
theorem d_Wv_setReason_39 : decode c_Wv_setReason 39 = .ok (.goto 22, 3) := by decide +kernel
theorem d_Wv_setReason_42 : decode c_Wv_setReason 42 = .ok (.iload_n 3, 1) := by decide +kernel
theorem d_Wv_setReason_43 : decode c_Wv_setReason 43 = .ok (.aload_n 0, 1) := by decide +kernel
theorem d_Wv_setReason_44 : decode c_Wv_setReason 44 = .ok (.getfield 15, 3) := by decide +kernel
theorem d_Wv_setReason_47 : decode c_Wv_setReason 47 = .ok (.arraylength, 1) := by decide +kernel
theorem d_Wv_setReason_48 : decode c_Wv_setReason 48 = .ok (.invokestatic 26, 3) := by decide +kernel
theorem d_Wv_setReason_51 : decode c_Wv_setReason 51 = .ok (.ifCond .eq 10, 3) := by decide +kernel
theorem d_Wv_setReason_54 : decode c_Wv_setReason 54 = .ok (.aload_n 0, 1) := by decide +kernel
theorem d_Wv_setReason_55 : decode c_Wv_setReason 55 = .ok (.getfield 15, 3) := by decide +kernel
theorem d_Wv_setReason_58 : decode c_Wv_setReason 58 = .ok (.iload_n 3, 1) := by decide +kernel
theorem d_Wv_setReason_59 : decode c_Wv_setReason 59 = .ok (.iload_n 2, 1) := by decide +kernel
theorem d_Wv_setReason_60 : decode c_Wv_setReason 60 = .ok (.iastore, 1) := by decide +kernel
theorem d_Wv_setReason_61 : decode c_Wv_setReason 61 = .ok (.iconst 1, 1) := by decide +kernel
theorem d_Wv_setReason_62 : decode c_Wv_setReason 62 = .ok (.ireturn, 1) := by decide +kernel
abbrev c_Wv_append : ByteArray := prog_12_method_6_code
abbrev r_Wv_append : Option FieldType := (some FieldType.boolean)
def y_Wv_append : MethodName := ⟨"PinKindChecks$Waivers", "append", "(II)Z"⟩
theorem d_Wv_append_0 : decode c_Wv_append 0 = .ok (.aload_n 0, 1) := by decide +kernel
theorem d_Wv_append_1 : decode c_Wv_append 1 = .ok (.getfield 18, 3) := by decide +kernel
theorem d_Wv_append_4 : decode c_Wv_append 4 = .ok (.aload_n 0, 1) := by decide +kernel
theorem d_Wv_append_5 : decode c_Wv_append 5 = .ok (.getfield 9, 3) := by decide +kernel
theorem d_Wv_append_8 : decode c_Wv_append 8 = .ok (.arraylength, 1) := by decide +kernel
theorem d_Wv_append_9 : decode c_Wv_append 9 = .ok (.if_icmp .ge 15, 3) := by decide +kernel
theorem d_Wv_append_12 : decode c_Wv_append 12 = .ok (.aload_n 0, 1) := by decide +kernel
theorem d_Wv_append_13 : decode c_Wv_append 13 = .ok (.getfield 18, 3) := by decide +kernel
theorem d_Wv_append_16 : decode c_Wv_append 16 = .ok (.aload_n 0, 1) := by decide +kernel
theorem d_Wv_append_17 : decode c_Wv_append 17 = .ok (.getfield 15, 3) := by decide +kernel
theorem d_Wv_append_20 : decode c_Wv_append 20 = .ok (.arraylength, 1) := by decide +kernel
theorem d_Wv_append_21 : decode c_Wv_append 21 = .ok (.if_icmp .lt 5, 3) := by decide +kernel
theorem d_Wv_append_24 : decode c_Wv_append 24 = .ok (.iconst 0, 1) := by decide +kernel
theorem d_Wv_append_25 : decode c_Wv_append 25 = .ok (.ireturn, 1) := by decide +kernel
theorem d_Wv_append_26 : decode c_Wv_append 26 = .ok (.aload_n 0, 1) := by decide +kernel
theorem d_Wv_append_27 : decode c_Wv_append 27 = .ok (.getfield 9, 3) := by decide +kernel
theorem d_Wv_append_30 : decode c_Wv_append 30 = .ok (.aload_n 0, 1) := by decide +kernel
theorem d_Wv_append_31 : decode c_Wv_append 31 = .ok (.getfield 18, 3) := by decide +kernel
theorem d_Wv_append_34 : decode c_Wv_append 34 = .ok (.iload_n 1, 1) := by decide +kernel
theorem d_Wv_append_35 : decode c_Wv_append 35 = .ok (.iastore, 1) := by decide +kernel
theorem d_Wv_append_36 : decode c_Wv_append 36 = .ok (.aload_n 0, 1) := by decide +kernel
theorem d_Wv_append_37 : decode c_Wv_append 37 = .ok (.getfield 15, 3) := by decide +kernel
theorem d_Wv_append_40 : decode c_Wv_append 40 = .ok (.aload_n 0, 1) := by decide +kernel
theorem d_Wv_append_41 : decode c_Wv_append 41 = .ok (.getfield 18, 3) := by decide +kernel
theorem d_Wv_append_44 : decode c_Wv_append 44 = .ok (.iload_n 2, 1) := by decide +kernel
theorem d_Wv_append_45 : decode c_Wv_append 45 = .ok (.iastore, 1) := by decide +kernel
theorem d_Wv_append_46 : decode c_Wv_append 46 = .ok (.aload_n 0, 1) := by decide +kernel
theorem d_Wv_append_47 : decode c_Wv_append 47 = .ok (.dup, 1) := by decide +kernel
theorem d_Wv_append_48 : decode c_Wv_append 48 = .ok (.getfield 18, 3) := by decide +kernel
theorem d_Wv_append_51 : decode c_Wv_append 51 = .ok (.iconst 1, 1) := by decide +kernel
theorem d_Wv_append_52 : decode c_Wv_append 52 = .ok (.iadd, 1) := by decide +kernel
theorem d_Wv_append_53 : decode c_Wv_append 53 = .ok (.putfield 18, 3) := by decide +kernel
theorem d_Wv_append_56 : decode c_Wv_append 56 = .ok (.iconst 1, 1) := by decide +kernel
theorem d_Wv_append_57 : decode c_Wv_append 57 = .ok (.ireturn, 1) := by decide +kernel
abbrev c_Wv_remove : ByteArray := prog_12_method_7_code
abbrev r_Wv_remove : Option FieldType := none
def y_Wv_remove : MethodName := ⟨"PinKindChecks$Waivers", "remove", "(I)V"⟩
theorem d_Wv_remove_0 : decode c_Wv_remove 0 = .ok (.aload_n 0, 1) := by decide +kernel
theorem d_Wv_remove_1 : decode c_Wv_remove 1 = .ok (.getfield 18, 3) := by decide +kernel
theorem d_Wv_remove_4 : decode c_Wv_remove 4 = .ok (.iconst 1, 1) := by decide +kernel
theorem d_Wv_remove_5 : decode c_Wv_remove 5 = .ok (.isub, 1) := by decide +kernel
theorem d_Wv_remove_6 : decode c_Wv_remove 6 = .ok (.istore_n 2, 1) := by decide +kernel
theorem d_Wv_remove_7 : decode c_Wv_remove 7 = .ok (.iload_n 1, 1) := by decide +kernel
theorem d_Wv_remove_8 : decode c_Wv_remove 8 = .ok (.aload_n 0, 1) := by decide +kernel
theorem d_Wv_remove_9 : decode c_Wv_remove 9 = .ok (.getfield 18, 3) := by decide +kernel
theorem d_Wv_remove_12 : decode c_Wv_remove 12 = .ok (.invokestatic 26, 3) := by decide +kernel
theorem d_Wv_remove_15 : decode c_Wv_remove 15 = .ok (.ifCond .eq 50, 3) := by decide +kernel
theorem d_Wv_remove_18 : decode c_Wv_remove 18 = .ok (.iload_n 2, 1) := by decide +kernel
theorem d_Wv_remove_19 : decode c_Wv_remove 19 = .ok (.aload_n 0, 1) := by decide +kernel
theorem d_Wv_remove_20 : decode c_Wv_remove 20 = .ok (.getfield 9, 3) := by decide +kernel
theorem d_Wv_remove_23 : decode c_Wv_remove 23 = .ok (.arraylength, 1) := by decide +kernel
theorem d_Wv_remove_24 : decode c_Wv_remove 24 = .ok (.if_icmp .ge 41, 3) := by decide +kernel
theorem d_Wv_remove_27 : decode c_Wv_remove 27 = .ok (.iload_n 2, 1) := by decide +kernel
theorem d_Wv_remove_28 : decode c_Wv_remove 28 = .ok (.aload_n 0, 1) := by decide +kernel
theorem d_Wv_remove_29 : decode c_Wv_remove 29 = .ok (.getfield 15, 3) := by decide +kernel
theorem d_Wv_remove_32 : decode c_Wv_remove 32 = .ok (.arraylength, 1) := by decide +kernel
theorem d_Wv_remove_33 : decode c_Wv_remove 33 = .ok (.if_icmp .ge 32, 3) := by decide +kernel
theorem d_Wv_remove_36 : decode c_Wv_remove 36 = .ok (.aload_n 0, 1) := by decide +kernel
theorem d_Wv_remove_37 : decode c_Wv_remove 37 = .ok (.getfield 9, 3) := by decide +kernel
theorem d_Wv_remove_40 : decode c_Wv_remove 40 = .ok (.iload_n 1, 1) := by decide +kernel
theorem d_Wv_remove_41 : decode c_Wv_remove 41 = .ok (.aload_n 0, 1) := by decide +kernel
theorem d_Wv_remove_42 : decode c_Wv_remove 42 = .ok (.getfield 9, 3) := by decide +kernel
theorem d_Wv_remove_45 : decode c_Wv_remove 45 = .ok (.iload_n 2, 1) := by decide +kernel
theorem d_Wv_remove_46 : decode c_Wv_remove 46 = .ok (.iaload, 1) := by decide +kernel
theorem d_Wv_remove_47 : decode c_Wv_remove 47 = .ok (.iastore, 1) := by decide +kernel
theorem d_Wv_remove_48 : decode c_Wv_remove 48 = .ok (.aload_n 0, 1) := by decide +kernel
theorem d_Wv_remove_49 : decode c_Wv_remove 49 = .ok (.getfield 15, 3) := by decide +kernel
theorem d_Wv_remove_52 : decode c_Wv_remove 52 = .ok (.iload_n 1, 1) := by decide +kernel
theorem d_Wv_remove_53 : decode c_Wv_remove 53 = .ok (.aload_n 0, 1) := by decide +kernel
theorem d_Wv_remove_54 : decode c_Wv_remove 54 = .ok (.getfield 15, 3) := by decide +kernel
theorem d_Wv_remove_57 : decode c_Wv_remove 57 = .ok (.iload_n 2, 1) := by decide +kernel
theorem d_Wv_remove_58 : decode c_Wv_remove 58 = .ok (.iaload, 1) := by decide +kernel
theorem d_Wv_remove_59 : decode c_Wv_remove 59 = .ok (.iastore, 1) := by decide +kernel
theorem d_Wv_remove_60 : decode c_Wv_remove 60 = .ok (.aload_n 0, 1) := by decide +kernel
theorem d_Wv_remove_61 : decode c_Wv_remove 61 = .ok (.iload_n 2, 1) := by decide +kernel
theorem d_Wv_remove_62 : decode c_Wv_remove 62 = .ok (.putfield 18, 3) := by decide +kernel
theorem d_Wv_remove_65 : decode c_Wv_remove 65 = .ok (.return_, 1) := by decide +kernel
