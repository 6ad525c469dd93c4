abbrev c_Tx_init : ByteArray := prog_8_method_1_code
abbrev r_Tx_init : Option FieldType := none
def y_Tx_init : MethodName := ⟨"PinKindChecks$RuleText", "<init>", "()V"⟩
theorem d_Tx_init_0 : decode c_Tx_init 0 = .ok (.aload_n 0, 1) := by decide +kernel
theorem d_Tx_init_1 : decode c_Tx_init 1 = .ok (.invokespecial 3, 3) := by decide +kernel
theorem d_Tx_init_4 : decode c_Tx_init 4 = .ok (.aload_n 0, 1) := by decide +kernel
theorem d_Tx_init_5 : decode c_Tx_init 5 = .ok (.sipush 160, 3) := by decide +kernel
theorem d_Tx_init_8 : decode c_Tx_init 8 = .ok (.newarray .char, 2) := by decide +kernel
theorem d_Tx_init_10 : decode c_Tx_init 10 = .ok (.putfield 9, 3) := by decide +kernel
theorem d_Tx_init_13 : decode c_Tx_init 13 = .ok (.aload_n 0, 1) := by decide +kernel
theorem d_Tx_init_14 : decode c_Tx_init 14 = .ok (.iconst 0, 1) := by decide +kernel
theorem d_Tx_init_15 : decode c_Tx_init 15 = .ok (.putfield 15, 3) := by decide +kernel
theorem d_Tx_init_18 : decode c_Tx_init 18 = .ok (.aload_n 0, 1) := by decide +kernel
theorem d_Tx_init_19 : decode c_Tx_init 19 = .ok (.iconst 0, 1) := by decide +kernel
theorem d_Tx_init_20 : decode c_Tx_init 20 = .ok (.putfield 19, 3) := by decide +kernel
theorem d_Tx_init_23 : decode c_Tx_init 23 = .ok (.aload_n 0, 1) := by decide +kernel
theorem d_Tx_init_24 : decode c_Tx_init 24 = .ok (.iconst 0, 1) := by decide +kernel
theorem d_Tx_init_25 : decode c_Tx_init 25 = .ok (.putfield 22, 3) := by decide +kernel
theorem d_Tx_init_28 : decode c_Tx_init 28 = .ok (.return_, 1) := by decide +kernel
abbrev c_Tx_addLetter : ByteArray := prog_8_method_2_code
abbrev r_Tx_addLetter : Option FieldType := (some FieldType.boolean)
def y_Tx_addLetter : MethodName := ⟨"PinKindChecks$RuleText", "addLetter", "(I)Z"⟩
theorem d_Tx_addLetter_0 : decode c_Tx_addLetter 0 = .ok (.iload_n 1, 1) := by decide +kernel
theorem d_Tx_addLetter_1 : decode c_Tx_addLetter 1 = .ok (.bipush 32, 2) := by decide +kernel
theorem d_Tx_addLetter_3 : decode c_Tx_addLetter 3 = .ok (.if_icmp .lt 21, 3) := by decide +kernel
theorem d_Tx_addLetter_6 : decode c_Tx_addLetter 6 = .ok (.iload_n 1, 1) := by decide +kernel
theorem d_Tx_addLetter_7 : decode c_Tx_addLetter 7 = .ok (.bipush 126, 2) := by decide +kernel
theorem d_Tx_addLetter_9 : decode c_Tx_addLetter 9 = .ok (.if_icmp .gt 15, 3) := by decide +kernel
theorem d_Tx_addLetter_12 : decode c_Tx_addLetter 12 = .ok (.aload_n 0, 1) := by decide +kernel
theorem d_Tx_addLetter_13 : decode c_Tx_addLetter 13 = .ok (.getfield 15, 3) := by decide +kernel
theorem d_Tx_addLetter_16 : decode c_Tx_addLetter 16 = .ok (.aload_n 0, 1) := by decide +kernel
theorem d_Tx_addLetter_17 : decode c_Tx_addLetter 17 = .ok (.getfield 9, 3) := by decide +kernel
theorem d_Tx_addLetter_20 : decode c_Tx_addLetter 20 = .ok (.arraylength, 1) := by decide +kernel
theorem d_Tx_addLetter_21 : decode c_Tx_addLetter 21 = .ok (.if_icmp .lt 5, 3) := by decide +kernel
theorem d_Tx_addLetter_24 : decode c_Tx_addLetter 24 = .ok (.iconst 0, 1) := by decide +kernel
theorem d_Tx_addLetter_25 : decode c_Tx_addLetter 25 = .ok (.ireturn, 1) := by decide +kernel
theorem d_Tx_addLetter_26 : decode c_Tx_addLetter 26 = .ok (.aload_n 0, 1) := by decide +kernel
theorem d_Tx_addLetter_27 : decode c_Tx_addLetter 27 = .ok (.getfield 9, 3) := by decide +kernel
theorem d_Tx_addLetter_30 : decode c_Tx_addLetter 30 = .ok (.aload_n 0, 1) := by decide +kernel
theorem d_Tx_addLetter_31 : decode c_Tx_addLetter 31 = .ok (.getfield 15, 3) := by decide +kernel
theorem d_Tx_addLetter_34 : decode c_Tx_addLetter 34 = .ok (.iload_n 1, 1) := by decide +kernel
theorem d_Tx_addLetter_35 : decode c_Tx_addLetter 35 = .ok (.i2c, 1) := by decide +kernel
theorem d_Tx_addLetter_36 : decode c_Tx_addLetter 36 = .ok (.castore, 1) := by decide +kernel
theorem d_Tx_addLetter_37 : decode c_Tx_addLetter 37 = .ok (.aload_n 0, 1) := by decide +kernel
theorem d_Tx_addLetter_38 : decode c_Tx_addLetter 38 = .ok (.dup, 1) := by decide +kernel
theorem d_Tx_addLetter_39 : decode c_Tx_addLetter 39 = .ok (.getfield 15, 3) := by decide +kernel
theorem d_Tx_addLetter_42 : decode c_Tx_addLetter 42 = .ok (.iconst 1, 1) := by decide +kernel
theorem d_Tx_addLetter_43 : decode c_Tx_addLetter 43 = .ok (.iadd, 1) := by decide +kernel
theorem d_Tx_addLetter_44 : decode c_Tx_addLetter 44 = .ok (.putfield 15, 3) := by decide +kernel
theorem d_Tx_addLetter_47 : decode c_Tx_addLetter 47 = .ok (.iconst 1, 1) := by decide +kernel
theorem d_Tx_addLetter_48 : decode c_Tx_addLetter 48 = .ok (.ireturn, 1) := by decide +kernel
abbrev c_Tx_wipe : ByteArray := prog_8_method_3_code
abbrev r_Tx_wipe : Option FieldType := none
def y_Tx_wipe : MethodName := ⟨"PinKindChecks$RuleText", "wipe", "()V"⟩
theorem d_Tx_wipe_0 : decode c_Tx_wipe 0 = .ok (.aload_n 0, 1) := by decide +kernel
theorem d_Tx_wipe_1 : decode c_Tx_wipe 1 = .ok (.iconst 0, 1) := by decide +kernel
theorem d_Tx_wipe_2 : decode c_Tx_wipe 2 = .ok (.putfield 15, 3) := by decide +kernel
theorem d_Tx_wipe_5 : decode c_Tx_wipe 5 = .ok (.return_, 1) := by decide +kernel
abbrev c_Tx_toStart : ByteArray := prog_8_method_4_code
abbrev r_Tx_toStart : Option FieldType := none
def y_Tx_toStart : MethodName := ⟨"PinKindChecks$RuleText", "toStart", "()V"⟩
theorem d_Tx_toStart_0 : decode c_Tx_toStart 0 = .ok (.aload_n 0, 1) := by decide +kernel
theorem d_Tx_toStart_1 : decode c_Tx_toStart 1 = .ok (.iconst 0, 1) := by decide +kernel
theorem d_Tx_toStart_2 : decode c_Tx_toStart 2 = .ok (.putfield 22, 3) := by decide +kernel
theorem d_Tx_toStart_5 : decode c_Tx_toStart 5 = .ok (.return_, 1) := by decide +kernel
abbrev c_Tx_toNextWord : ByteArray := prog_8_method_5_code
abbrev r_Tx_toNextWord : Option FieldType := (some FieldType.boolean)
def y_Tx_toNextWord : MethodName := ⟨"PinKindChecks$RuleText", "toNextWord", "()Z"⟩
theorem d_Tx_toNextWord_0 : decode c_Tx_toNextWord 0 = .ok (.aload_n 0, 1) := by decide +kernel
theorem d_Tx_toNextWord_1 : decode c_Tx_toNextWord 1 = .ok (.getfield 15, 3) := by decide +kernel
theorem d_Tx_toNextWord_4 : decode c_Tx_toNextWord 4 = .ok (.aload_n 0, 1) := by decide +kernel
theorem d_Tx_toNextWord_5 : decode c_Tx_toNextWord 5 = .ok (.getfield 9, 3) := by decide +kernel
theorem d_Tx_toNextWord_8 : decode c_Tx_toNextWord 8 = .ok (.arraylength, 1) := by decide +kernel
theorem d_Tx_toNextWord_9 : decode c_Tx_toNextWord 9 = .ok (.invokestatic 25, 3) := by decide +kernel
theorem d_Tx_toNextWord_12 : decode c_Tx_toNextWord 12 = .ok (.istore_n 1, 1) := by decide +kernel
theorem d_Tx_toNextWord_13 : decode c_Tx_toNextWord 13 = .ok (.aload_n 0, 1) := by decide +kernel
theorem d_Tx_toNextWord_14 : decode c_Tx_toNextWord 14 = .ok (.getfield 22, 3) := by decide +kernel
theorem d_Tx_toNextWord_17 : decode c_Tx_toNextWord 17 = .ok (.iconst 0, 1) := by decide +kernel
theorem d_Tx_toNextWord_18 : decode c_Tx_toNextWord 18 = .ok (.invokestatic 31, 3) := by decide +kernel
theorem d_Tx_toNextWord_21 : decode c_Tx_toNextWord 21 = .ok (.istore_n 2, 1) := by decide +kernel
theorem d_Tx_toNextWord_22 : decode c_Tx_toNextWord 22 = .ok (.iload_n 2, 1) := by decide +kernel
theorem d_Tx_toNextWord_23 : decode c_Tx_toNextWord 23 = .ok (.iload_n 1, 1) := by decide +kernel
theorem d_Tx_toNextWord_24 : decode c_Tx_toNextWord 24 = .ok (.if_icmp .ge 20, 3) := by decide +kernel
theorem d_Tx_toNextWord_27 : decode c_Tx_toNextWord 27 = .ok (.aload_n 0, 1) := by decide +kernel
theorem d_Tx_toNextWord_28 : decode c_Tx_toNextWord 28 = .ok (.getfield 9, 3) := by decide +kernel
theorem d_Tx_toNextWord_31 : decode c_Tx_toNextWord 31 = .ok (.iload_n 2, 1) := by decide +kernel
theorem d_Tx_toNextWord_32 : decode c_Tx_toNextWord 32 = .ok (.caload, 1) := by decide +kernel
theorem d_Tx_toNextWord_33 : decode c_Tx_toNextWord 33 = .ok (.bipush 32, 2) := by decide +kernel
theorem d_Tx_toNextWord_35 : decode c_Tx_toNextWord 35 = .ok (.if_icmp .ne 9, 3) := by decide +kernel
theorem d_Tx_toNextWord_38 : decode c_Tx_toNextWord 38 = .ok (.iinc 2 1, 3) := by decide +kernel
theorem d_Tx_toNextWord_41 : decode c_Tx_toNextWord 41 = .ok (.goto (-19), 3) := by decide +kernel
theorem d_Tx_toNextWord_44 : decode c_Tx_toNextWord 44 = .ok (.iload_n 2, 1) := by decide +kernel
theorem d_Tx_toNextWord_45 : decode c_Tx_toNextWord 45 = .ok (.istore_n 3, 1) := by decide +kernel
theorem d_Tx_toNextWord_46 : decode c_Tx_toNextWord 46 = .ok (.iload_n 3, 1) := by decide +kernel
theorem d_Tx_toNextWord_47 : decode c_Tx_toNextWord 47 = .ok (.iload_n 1, 1) := by decide +kernel
theorem d_Tx_toNextWord_48 : decode c_Tx_toNextWord 48 = .ok (.if_icmp .ge 20, 3) := by decide +kernel
theorem d_Tx_toNextWord_51 : decode c_Tx_toNextWord 51 = .ok (.aload_n 0, 1) := by decide +kernel
theorem d_Tx_toNextWord_52 : decode c_Tx_toNextWord 52 = .ok (.getfield 9, 3) := by decide +kernel
theorem d_Tx_toNextWord_55 : decode c_Tx_toNextWord 55 = .ok (.iload_n 3, 1) := by decide +kernel
theorem d_Tx_toNextWord_56 : decode c_Tx_toNextWord 56 = .ok (.caload, 1) := by decide +kernel
theorem d_Tx_toNextWord_57 : decode c_Tx_toNextWord 57 = .ok (.bipush 32, 2) := by decide +kernel
theorem d_Tx_toNextWord_59 : decode c_Tx_toNextWord 59 = .ok (.if_icmp .eq 9, 3) := by decide +kernel
theorem d_Tx_toNextWord_62 : decode c_Tx_toNextWord 62 = .ok (.iinc 3 1, 3) := by decide +kernel
theorem d_Tx_toNextWord_65 : decode c_Tx_toNextWord 65 = .ok (.goto (-19), 3) := by decide +kernel
theorem d_Tx_toNextWord_68 : decode c_Tx_toNextWord 68 = .ok (.aload_n 0, 1) := by decide +kernel
theorem d_Tx_toNextWord_69 : decode c_Tx_toNextWord 69 = .ok (.iload_n 2, 1) := by decide +kernel
theorem d_Tx_toNextWord_70 : decode c_Tx_toNextWord 70 = .ok (.putfield 19, 3) := by decide +kernel
theorem d_Tx_toNextWord_73 : decode c_Tx_toNextWord 73 = .ok (.aload_n 0, 1) := by decide +kernel
theorem d_Tx_toNextWord_74 : decode c_Tx_toNextWord 74 = .ok (.iload_n 3, 1) := by decide +kernel
theorem d_Tx_toNextWord_75 : decode c_Tx_toNextWord 75 = .ok (.putfield 22, 3) := by decide +kernel
theorem d_Tx_toNextWord_78 : decode c_Tx_toNextWord 78 = .ok (.iload_n 3, 1) := by decide +kernel
theorem d_Tx_toNextWord_79 : decode c_Tx_toNextWord 79 = .ok (.iload_n 2, 1) := by decide +kernel
theorem d_Tx_toNextWord_80 : decode c_Tx_toNextWord 80 = .ok (.if_icmp .le 7, 3) := by decide +kernel
theorem d_Tx_toNextWord_83 : decode c_Tx_toNextWord 83 = .ok (.iconst 1, 1) := by decide +kernel
theorem d_Tx_toNextWord_84 : decode c_Tx_toNextWord 84 = .ok (.goto 4, 3) := by decide +kernel
theorem d_Tx_toNextWord_87 : decode c_Tx_toNextWord 87 = .ok (.iconst 0, 1) := by decide +kernel
theorem d_Tx_toNextWord_88 : decode c_Tx_toNextWord 88 = .ok (.ireturn, 1) := by decide +kernel
abbrev c_Tx_wordIs : ByteArray := prog_8_method_6_code
abbrev r_Tx_wordIs : Option FieldType := (some FieldType.boolean)
def y_Tx_wordIs : MethodName := ⟨"PinKindChecks$RuleText", "wordIs", "(Ljava/lang/String;)Z"⟩
theorem d_Tx_wordIs_0 : decode c_Tx_wordIs 0 = .ok (.aload_n 1, 1) := by decide +kernel
theorem d_Tx_wordIs_1 : decode c_Tx_wordIs 1 = .ok (.invokevirtual 34, 3) := by decide +kernel
theorem d_Tx_wordIs_4 : decode c_Tx_wordIs 4 = .ok (.aload_n 0, 1) := by decide +kernel
theorem d_Tx_wordIs_5 : decode c_Tx_wordIs 5 = .ok (.invokevirtual 39, 3) := by decide +kernel
theorem d_Tx_wordIs_8 : decode c_Tx_wordIs 8 = .ok (.if_icmp .eq 5, 3) := by decide +kernel
theorem d_Tx_wordIs_11 : decode c_Tx_wordIs 11 = .ok (.iconst 0, 1) := by decide +kernel
theorem d_Tx_wordIs_12 : decode c_Tx_wordIs 12 = .ok (.ireturn, 1) := by decide +kernel
theorem d_Tx_wordIs_13 : decode c_Tx_wordIs 13 = .ok (.iconst 0, 1) := by decide +kernel
theorem d_Tx_wordIs_14 : decode c_Tx_wordIs 14 = .ok (.istore_n 2, 1) := by decide +kernel
theorem d_Tx_wordIs_15 : decode c_Tx_wordIs 15 = .ok (.iload_n 2, 1) := by decide +kernel
theorem d_Tx_wordIs_16 : decode c_Tx_wordIs 16 = .ok (.aload_n 1, 1) := by decide +kernel
theorem d_Tx_wordIs_17 : decode c_Tx_wordIs 17 = .ok (.invokevirtual 34, 3) := by decide +kernel
theorem d_Tx_wordIs_20 : decode c_Tx_wordIs 20 = .ok (.if_icmp .ge 24, 3) := by decide +kernel
theorem d_Tx_wordIs_23 : decode c_Tx_wordIs 23 = .ok (.aload_n 1, 1) := by decide +kernel
theorem d_Tx_wordIs_24 : decode c_Tx_wordIs 24 = .ok (.iload_n 2, 1) := by decide +kernel
theorem d_Tx_wordIs_25 : decode c_Tx_wordIs 25 = .ok (.invokevirtual 42, 3) := by decide +kernel
theorem d_Tx_wordIs_28 : decode c_Tx_wordIs 28 = .ok (.aload_n 0, 1) := by decide +kernel
theorem d_Tx_wordIs_29 : decode c_Tx_wordIs 29 = .ok (.iload_n 2, 1) := by decide +kernel
theorem d_Tx_wordIs_30 : decode c_Tx_wordIs 30 = .ok (.invokevirtual 46, 3) := by decide +kernel
theorem d_Tx_wordIs_33 : decode c_Tx_wordIs 33 = .ok (.if_icmp .eq 5, 3) := by decide +kernel
theorem d_Tx_wordIs_36 : decode c_Tx_wordIs 36 = .ok (.iconst 0, 1) := by decide +kernel
theorem d_Tx_wordIs_37 : decode c_Tx_wordIs 37 = .ok (.ireturn, 1) := by decide +kernel
theorem d_Tx_wordIs_38 : decode c_Tx_wordIs 38 = .ok (.iinc 2 1, 3) := by decide +kernel
theorem d_Tx_wordIs_41 : decode c_Tx_wordIs 41 = .ok (.goto (-26), 3) := by decide +kernel
theorem d_Tx_wordIs_44 : decode c_Tx_wordIs 44 = .ok (.iconst 1, 1) := by decide +kernel
theorem d_Tx_wordIs_45 : decode c_Tx_wordIs 45 = .ok (.ireturn, 1) := by decide +kernel
abbrev c_Tx_wordLength : ByteArray := prog_8_method_7_code
abbrev r_Tx_wordLength : Option FieldType := (some FieldType.int)
def y_Tx_wordLength : MethodName := ⟨"PinKindChecks$RuleText", "wordLength", "()I"⟩
theorem d_Tx_wordLength_0 : decode c_Tx_wordLength 0 = .ok (.aload_n 0, 1) := by decide +kernel
theorem d_Tx_wordLength_1 : decode c_Tx_wordLength 1 = .ok (.getfield 22, 3) := by decide +kernel
theorem d_Tx_wordLength_4 : decode c_Tx_wordLength 4 = .ok (.aload_n 0, 1) := by decide +kernel
theorem d_Tx_wordLength_5 : decode c_Tx_wordLength 5 = .ok (.getfield 19, 3) := by decide +kernel
theorem d_Tx_wordLength_8 : decode c_Tx_wordLength 8 = .ok (.isub, 1) := by decide +kernel
theorem d_Tx_wordLength_9 : decode c_Tx_wordLength 9 = .ok (.ireturn, 1) := by decide +kernel
abbrev c_Tx_letterOfWord : ByteArray := prog_8_method_8_code
abbrev r_Tx_letterOfWord : Option FieldType := (some FieldType.char)
def y_Tx_letterOfWord : MethodName := ⟨"PinKindChecks$RuleText", "letterOfWord", "(I)C"⟩
theorem d_Tx_letterOfWord_0 : decode c_Tx_letterOfWord 0 = .ok (.aload_n 0, 1) := by decide +kernel
theorem d_Tx_letterOfWord_1 : decode c_Tx_letterOfWord 1 = .ok (.getfield 19, 3) := by decide +kernel
theorem d_Tx_letterOfWord_4 : decode c_Tx_letterOfWord 4 = .ok (.iload_n 1, 1) := by decide +kernel
theorem d_Tx_letterOfWord_5 : decode c_Tx_letterOfWord 5 = .ok (.iadd, 1) := by decide +kernel
theorem d_Tx_letterOfWord_6 : decode c_Tx_letterOfWord 6 = .ok (.istore_n 2, 1) := by decide +kernel
theorem d_Tx_letterOfWord_7 : decode c_Tx_letterOfWord 7 = .ok (.iload_n 2, 1) := by decide +kernel
theorem d_Tx_letterOfWord_8 : decode c_Tx_letterOfWord 8 = .ok (.aload_n 0, 1) := by decide +kernel
theorem d_Tx_letterOfWord_9 : decode c_Tx_letterOfWord 9 = .ok (.getfield 19, 3) := by decide +kernel
theorem d_Tx_letterOfWord_12 : decode c_Tx_letterOfWord 12 = .ok (.if_icmp .lt 29, 3) := by decide +kernel
theorem d_Tx_letterOfWord_15 : decode c_Tx_letterOfWord 15 = .ok (.iload_n 2, 1) := by decide +kernel
theorem d_Tx_letterOfWord_16 : decode c_Tx_letterOfWord 16 = .ok (.aload_n 0, 1) := by decide +kernel
theorem d_Tx_letterOfWord_17 : decode c_Tx_letterOfWord 17 = .ok (.getfield 22, 3) := by decide +kernel
theorem d_Tx_letterOfWord_20 : decode c_Tx_letterOfWord 20 = .ok (.if_icmp .ge 21, 3) := by decide +kernel
theorem d_Tx_letterOfWord_23 : decode c_Tx_letterOfWord 23 = .ok (.iload_n 2, 1) := by decide +kernel
theorem d_Tx_letterOfWord_24 : decode c_Tx_letterOfWord 24 = .ok (.aload_n 0, 1) := by decide +kernel
theorem d_Tx_letterOfWord_25 : decode c_Tx_letterOfWord 25 = .ok (.getfield 9, 3) := by decide +kernel
theorem d_Tx_letterOfWord_28 : decode c_Tx_letterOfWord 28 = .ok (.arraylength, 1) := by decide +kernel
theorem d_Tx_letterOfWord_29 : decode c_Tx_letterOfWord 29 = .ok (.if_icmp .ge 12, 3) := by decide +kernel
theorem d_Tx_letterOfWord_32 : decode c_Tx_letterOfWord 32 = .ok (.aload_n 0, 1) := by decide +kernel
theorem d_Tx_letterOfWord_33 : decode c_Tx_letterOfWord 33 = .ok (.getfield 9, 3) := by decide +kernel
theorem d_Tx_letterOfWord_36 : decode c_Tx_letterOfWord 36 = .ok (.iload_n 2, 1) := by decide +kernel
theorem d_Tx_letterOfWord_37 : decode c_Tx_letterOfWord 37 = .ok (.caload, 1) := by decide +kernel
theorem d_Tx_letterOfWord_38 : decode c_Tx_letterOfWord 38 = .ok (.goto 5, 3) := by decide +kernel
theorem d_Tx_letterOfWord_41 : decode c_Tx_letterOfWord 41 = .ok (.bipush 32, 2) := by decide +kernel
theorem d_Tx_letterOfWord_43 : decode c_Tx_letterOfWord 43 = .ok (.ireturn, 1) := by decide +kernel
abbrev c_Tx_digitOfWord : ByteArray := prog_8_method_9_code
abbrev r_Tx_digitOfWord : Option FieldType := (some FieldType.int)
def y_Tx_digitOfWord : MethodName := ⟨"PinKindChecks$RuleText", "digitOfWord", "(I)I"⟩
theorem d_Tx_digitOfWord_0 : decode c_Tx_digitOfWord 0 = .ok (.aload_n 0, 1) := by decide +kernel
theorem d_Tx_digitOfWord_1 : decode c_Tx_digitOfWord 1 = .ok (.iload_n 1, 1) := by decide +kernel
theorem d_Tx_digitOfWord_2 : decode c_Tx_digitOfWord 2 = .ok (.invokevirtual 46, 3) := by decide +kernel
theorem d_Tx_digitOfWord_5 : decode c_Tx_digitOfWord 5 = .ok (.istore_n 2, 1) := by decide +kernel
theorem d_Tx_digitOfWord_6 : decode c_Tx_digitOfWord 6 = .ok (.iload_n 2, 1) := by decide +kernel
theorem d_Tx_digitOfWord_7 : decode c_Tx_digitOfWord 7 = .ok (.bipush 48, 2) := by decide +kernel
theorem d_Tx_digitOfWord_9 : decode c_Tx_digitOfWord 9 = .ok (.if_icmp .lt 16, 3) := by decide +kernel
theorem d_Tx_digitOfWord_12 : decode c_Tx_digitOfWord 12 = .ok (.iload_n 2, 1) := by decide +kernel
theorem d_Tx_digitOfWord_13 : decode c_Tx_digitOfWord 13 = .ok (.bipush 57, 2) := by decide +kernel
theorem d_Tx_digitOfWord_15 : decode c_Tx_digitOfWord 15 = .ok (.if_icmp .gt 10, 3) := by decide +kernel
theorem d_Tx_digitOfWord_18 : decode c_Tx_digitOfWord 18 = .ok (.iload_n 2, 1) := by decide +kernel
theorem d_Tx_digitOfWord_19 : decode c_Tx_digitOfWord 19 = .ok (.bipush 48, 2) := by decide +kernel
theorem d_Tx_digitOfWord_21 : decode c_Tx_digitOfWord 21 = .ok (.isub, 1) := by decide +kernel
theorem d_Tx_digitOfWord_22 : decode c_Tx_digitOfWord 22 = .ok (.goto 4, 3) := by decide +kernel
theorem d_Tx_digitOfWord_25 : decode c_Tx_digitOfWord 25 = .ok (.iconst (-1), 1) := by decide +kernel
theorem d_Tx_digitOfWord_26 : decode c_Tx_digitOfWord 26 = .ok (.ireturn, 1) := by decide +kernel
