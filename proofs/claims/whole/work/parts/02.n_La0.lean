abbrev c_La_table : ByteArray := method_3_code
abbrev r_La_table : Option FieldType := (some FieldType.int)
def y_La_table : MethodName := ⟨"PinKindChecksLaw", "table", "(LPinKindChecks;III[J)I"⟩
theorem d_La_table_0 : decode c_La_table 0 = .ok (.aload 4, 2) := by decide +kernel
theorem d_La_table_2 : decode c_La_table 2 = .ok (.iconst 0, 1) := by decide +kernel
theorem d_La_table_3 : decode c_La_table 3 = .ok (.aload_n 0, 1) := by decide +kernel
theorem d_La_table_4 : decode c_La_table 4 = .ok (.iload_n 1, 1) := by decide +kernel
theorem d_La_table_5 : decode c_La_table 5 = .ok (.iload_n 2, 1) := by decide +kernel
theorem d_La_table_6 : decode c_La_table 6 = .ok (.iload_n 3, 1) := by decide +kernel
theorem d_La_table_7 : decode c_La_table 7 = .ok (.invokevirtual 7, 3) := by decide +kernel
theorem d_La_table_10 : decode c_La_table 10 = .ok (.ifCond .eq 7, 3) := by decide +kernel
theorem d_La_table_13 : decode c_La_table 13 = .ok (.lconst 1, 1) := by decide +kernel
theorem d_La_table_14 : decode c_La_table 14 = .ok (.goto 4, 3) := by decide +kernel
theorem d_La_table_17 : decode c_La_table 17 = .ok (.lconst 0, 1) := by decide +kernel
theorem d_La_table_18 : decode c_La_table 18 = .ok (.lastore, 1) := by decide +kernel
theorem d_La_table_19 : decode c_La_table 19 = .ok (.goto 11, 3) := by decide +kernel
theorem d_La_table_22 : decode c_La_table 22 = .ok (.astore 5, 2) := by decide +kernel
theorem d_La_table_24 : decode c_La_table 24 = .ok (.iconst 1, 1) := by decide +kernel
theorem d_La_table_25 : decode c_La_table 25 = .ok (.ireturn, 1) := by decide +kernel
theorem d_La_table_26 : decode c_La_table 26 = .ok (.astore 5, 2) := by decide +kernel
theorem d_La_table_28 : decode c_La_table 28 = .ok (.iconst 2, 1) := by decide +kernel
theorem d_La_table_29 : decode c_La_table 29 = .ok (.ireturn, 1) := by decide +kernel
theorem d_La_table_30 : decode c_La_table 30 = .ok (.iconst 0, 1) := by decide +kernel
theorem d_La_table_31 : decode c_La_table 31 = .ok (.ireturn, 1) := by decide +kernel
abbrev c_La_part : ByteArray := method_4_code
abbrev r_La_part : Option FieldType := (some FieldType.int)
def y_La_part : MethodName := ⟨"PinKindChecksLaw", "part", "(LPinKindChecks;I[J)I"⟩
theorem d_La_part_0 : decode c_La_part 0 = .ok (.aload_n 2, 1) := by decide +kernel
theorem d_La_part_1 : decode c_La_part 1 = .ok (.iconst 0, 1) := by decide +kernel
theorem d_La_part_2 : decode c_La_part 2 = .ok (.aload_n 0, 1) := by decide +kernel
theorem d_La_part_3 : decode c_La_part 3 = .ok (.iload_n 1, 1) := by decide +kernel
theorem d_La_part_4 : decode c_La_part 4 = .ok (.invokevirtual 17, 3) := by decide +kernel
theorem d_La_part_7 : decode c_La_part 7 = .ok (.i2l, 1) := by decide +kernel
theorem d_La_part_8 : decode c_La_part 8 = .ok (.lastore, 1) := by decide +kernel
theorem d_La_part_9 : decode c_La_part 9 = .ok (.goto 6, 3) := by decide +kernel
theorem d_La_part_12 : decode c_La_part 12 = .ok (.astore_n 3, 1) := by decide +kernel
theorem d_La_part_13 : decode c_La_part 13 = .ok (.iconst 1, 1) := by decide +kernel
theorem d_La_part_14 : decode c_La_part 14 = .ok (.ireturn, 1) := by decide +kernel
theorem d_La_part_15 : decode c_La_part 15 = .ok (.iconst 0, 1) := by decide +kernel
theorem d_La_part_16 : decode c_La_part 16 = .ok (.ireturn, 1) := by decide +kernel
abbrev c_La_net : ByteArray := method_5_code
abbrev r_La_net : Option FieldType := (some FieldType.int)
def y_La_net : MethodName := ⟨"PinKindChecksLaw", "net", "(LPinKindChecks;II[J)I"⟩
theorem d_La_net_0 : decode c_La_net 0 = .ok (.aload_n 3, 1) := by decide +kernel
theorem d_La_net_1 : decode c_La_net 1 = .ok (.iconst 0, 1) := by decide +kernel
theorem d_La_net_2 : decode c_La_net 2 = .ok (.aload_n 0, 1) := by decide +kernel
theorem d_La_net_3 : decode c_La_net 3 = .ok (.iload_n 1, 1) := by decide +kernel
theorem d_La_net_4 : decode c_La_net 4 = .ok (.iload_n 2, 1) := by decide +kernel
theorem d_La_net_5 : decode c_La_net 5 = .ok (.invokevirtual 21, 3) := by decide +kernel
theorem d_La_net_8 : decode c_La_net 8 = .ok (.i2l, 1) := by decide +kernel
theorem d_La_net_9 : decode c_La_net 9 = .ok (.lastore, 1) := by decide +kernel
theorem d_La_net_10 : decode c_La_net 10 = .ok (.goto 11, 3) := by decide +kernel
theorem d_La_net_13 : decode c_La_net 13 = .ok (.astore 4, 2) := by decide +kernel
theorem d_La_net_15 : decode c_La_net 15 = .ok (.iconst 1, 1) := by decide +kernel
theorem d_La_net_16 : decode c_La_net 16 = .ok (.ireturn, 1) := by decide +kernel
theorem d_La_net_17 : decode c_La_net 17 = .ok (.astore 4, 2) := by decide +kernel
theorem d_La_net_19 : decode c_La_net 19 = .ok (.iconst 2, 1) := by decide +kernel
theorem d_La_net_20 : decode c_La_net 20 = .ok (.ireturn, 1) := by decide +kernel
theorem d_La_net_21 : decode c_La_net 21 = .ok (.iconst 0, 1) := by decide +kernel
theorem d_La_net_22 : decode c_La_net 22 = .ok (.ireturn, 1) := by decide +kernel
abbrev c_La_pin : ByteArray := method_6_code
abbrev r_La_pin : Option FieldType := (some FieldType.int)
def y_La_pin : MethodName := ⟨"PinKindChecksLaw", "pin", "(LPinKindChecks;III[J)I"⟩
theorem d_La_pin_0 : decode c_La_pin 0 = .ok (.aload 4, 2) := by decide +kernel
theorem d_La_pin_2 : decode c_La_pin 2 = .ok (.iconst 0, 1) := by decide +kernel
theorem d_La_pin_3 : decode c_La_pin 3 = .ok (.aload_n 0, 1) := by decide +kernel
theorem d_La_pin_4 : decode c_La_pin 4 = .ok (.iload_n 1, 1) := by decide +kernel
theorem d_La_pin_5 : decode c_La_pin 5 = .ok (.iload_n 2, 1) := by decide +kernel
theorem d_La_pin_6 : decode c_La_pin 6 = .ok (.iload_n 3, 1) := by decide +kernel
theorem d_La_pin_7 : decode c_La_pin 7 = .ok (.invokevirtual 25, 3) := by decide +kernel
theorem d_La_pin_10 : decode c_La_pin 10 = .ok (.i2l, 1) := by decide +kernel
theorem d_La_pin_11 : decode c_La_pin 11 = .ok (.lastore, 1) := by decide +kernel
theorem d_La_pin_12 : decode c_La_pin 12 = .ok (.goto 11, 3) := by decide +kernel
theorem d_La_pin_15 : decode c_La_pin 15 = .ok (.astore 5, 2) := by decide +kernel
theorem d_La_pin_17 : decode c_La_pin 17 = .ok (.iconst 1, 1) := by decide +kernel
theorem d_La_pin_18 : decode c_La_pin 18 = .ok (.ireturn, 1) := by decide +kernel
theorem d_La_pin_19 : decode c_La_pin 19 = .ok (.astore 5, 2) := by decide +kernel
theorem d_La_pin_21 : decode c_La_pin 21 = .ok (.iconst 2, 1) := by decide +kernel
theorem d_La_pin_22 : decode c_La_pin 22 = .ok (.ireturn, 1) := by decide +kernel
theorem d_La_pin_23 : decode c_La_pin 23 = .ok (.iconst 0, 1) := by decide +kernel
theorem d_La_pin_24 : decode c_La_pin 24 = .ok (.ireturn, 1) := by decide +kernel
abbrev c_La_join : ByteArray := method_7_code
abbrev r_La_join : Option FieldType := (some FieldType.int)
def y_La_join : MethodName := ⟨"PinKindChecksLaw", "join", "(LPinKindChecks;II[J)I"⟩
theorem d_La_join_0 : decode c_La_join 0 = .ok (.aload_n 3, 1) := by decide +kernel
theorem d_La_join_1 : decode c_La_join 1 = .ok (.iconst 0, 1) := by decide +kernel
theorem d_La_join_2 : decode c_La_join 2 = .ok (.aload_n 0, 1) := by decide +kernel
theorem d_La_join_3 : decode c_La_join 3 = .ok (.iload_n 1, 1) := by decide +kernel
theorem d_La_join_4 : decode c_La_join 4 = .ok (.iload_n 2, 1) := by decide +kernel
theorem d_La_join_5 : decode c_La_join 5 = .ok (.invokevirtual 29, 3) := by decide +kernel
theorem d_La_join_8 : decode c_La_join 8 = .ok (.ifCond .eq 7, 3) := by decide +kernel
theorem d_La_join_11 : decode c_La_join 11 = .ok (.lconst 1, 1) := by decide +kernel
theorem d_La_join_12 : decode c_La_join 12 = .ok (.goto 4, 3) := by decide +kernel
theorem d_La_join_15 : decode c_La_join 15 = .ok (.lconst 0, 1) := by decide +kernel
theorem d_La_join_16 : decode c_La_join 16 = .ok (.lastore, 1) := by decide +kernel
theorem d_La_join_17 : decode c_La_join 17 = .ok (.goto 7, 3) := by decide +kernel
theorem d_La_join_20 : decode c_La_join 20 = .ok (.astore 4, 2) := by decide +kernel
theorem d_La_join_22 : decode c_La_join 22 = .ok (.iconst 1, 1) := by decide +kernel
theorem d_La_join_23 : decode c_La_join 23 = .ok (.ireturn, 1) := by decide +kernel
theorem d_La_join_24 : decode c_La_join 24 = .ok (.iconst 0, 1) := by decide +kernel
theorem d_La_join_25 : decode c_La_join 25 = .ok (.ireturn, 1) := by decide +kernel
abbrev c_La_field : ByteArray := method_8_code
abbrev r_La_field : Option FieldType := (some FieldType.int)
def y_La_field : MethodName := ⟨"PinKindChecksLaw", "field", "(LPinKindChecks;IIJ[J)I"⟩
theorem d_La_field_0 : decode c_La_field 0 = .ok (.aload 5, 2) := by decide +kernel
theorem d_La_field_2 : decode c_La_field 2 = .ok (.iconst 0, 1) := by decide +kernel
theorem d_La_field_3 : decode c_La_field 3 = .ok (.aload_n 0, 1) := by decide +kernel
theorem d_La_field_4 : decode c_La_field 4 = .ok (.iload_n 1, 1) := by decide +kernel
theorem d_La_field_5 : decode c_La_field 5 = .ok (.iload_n 2, 1) := by decide +kernel
theorem d_La_field_6 : decode c_La_field 6 = .ok (.lload_n 3, 1) := by decide +kernel
theorem d_La_field_7 : decode c_La_field 7 = .ok (.invokevirtual 33, 3) := by decide +kernel
theorem d_La_field_10 : decode c_La_field 10 = .ok (.ifCond .eq 7, 3) := by decide +kernel
theorem d_La_field_13 : decode c_La_field 13 = .ok (.lconst 1, 1) := by decide +kernel
theorem d_La_field_14 : decode c_La_field 14 = .ok (.goto 4, 3) := by decide +kernel
theorem d_La_field_17 : decode c_La_field 17 = .ok (.lconst 0, 1) := by decide +kernel
theorem d_La_field_18 : decode c_La_field 18 = .ok (.lastore, 1) := by decide +kernel
theorem d_La_field_19 : decode c_La_field 19 = .ok (.goto 7, 3) := by decide +kernel
theorem d_La_field_22 : decode c_La_field 22 = .ok (.astore 6, 2) := by decide +kernel
theorem d_La_field_24 : decode c_La_field 24 = .ok (.iconst 1, 1) := by decide +kernel
theorem d_La_field_25 : decode c_La_field 25 = .ok (.ireturn, 1) := by decide +kernel
theorem d_La_field_26 : decode c_La_field 26 = .ok (.iconst 0, 1) := by decide +kernel
theorem d_La_field_27 : decode c_La_field 27 = .ok (.ireturn, 1) := by decide +kernel
abbrev c_La_end : ByteArray := method_9_code
abbrev r_La_end : Option FieldType := (some FieldType.int)
def y_La_end : MethodName := ⟨"PinKindChecksLaw", "end", "(LPinKindChecks;IJJ[J)I"⟩
theorem d_La_end_0 : decode c_La_end 0 = .ok (.aload 6, 2) := by decide +kernel
theorem d_La_end_2 : decode c_La_end 2 = .ok (.iconst 0, 1) := by decide +kernel
theorem d_La_end_3 : decode c_La_end 3 = .ok (.aload_n 0, 1) := by decide +kernel
theorem d_La_end_4 : decode c_La_end 4 = .ok (.iload_n 1, 1) := by decide +kernel
theorem d_La_end_5 : decode c_La_end 5 = .ok (.lload_n 2, 1) := by decide +kernel
theorem d_La_end_6 : decode c_La_end 6 = .ok (.lload 4, 2) := by decide +kernel
theorem d_La_end_8 : decode c_La_end 8 = .ok (.invokevirtual 37, 3) := by decide +kernel
theorem d_La_end_11 : decode c_La_end 11 = .ok (.ifCond .eq 7, 3) := by decide +kernel
theorem d_La_end_14 : decode c_La_end 14 = .ok (.lconst 1, 1) := by decide +kernel
theorem d_La_end_15 : decode c_La_end 15 = .ok (.goto 4, 3) := by decide +kernel
theorem d_La_end_18 : decode c_La_end 18 = .ok (.lconst 0, 1) := by decide +kernel
theorem d_La_end_19 : decode c_La_end 19 = .ok (.lastore, 1) := by decide +kernel
theorem d_La_end_20 : decode c_La_end 20 = .ok (.goto 7, 3) := by decide +kernel
theorem d_La_end_23 : decode c_La_end 23 = .ok (.astore 7, 2) := by decide +kernel
theorem d_La_end_25 : decode c_La_end 25 = .ok (.iconst 1, 1) := by decide +kernel
theorem d_La_end_26 : decode c_La_end 26 = .ok (.ireturn, 1) := by decide +kernel
theorem d_La_end_27 : decode c_La_end 27 = .ok (.iconst 0, 1) := by decide +kernel
theorem d_La_end_28 : decode c_La_end 28 = .ok (.ireturn, 1) := by decide +kernel
abbrev c_La_rule : ByteArray := method_10_code
abbrev r_La_rule : Option FieldType := (some FieldType.int)
def y_La_rule : MethodName := ⟨"PinKindChecksLaw", "rule", "(LPinKindChecks;[J)I"⟩
theorem d_La_rule_0 : decode c_La_rule 0 = .ok (.aload_n 1, 1) := by decide +kernel
theorem d_La_rule_1 : decode c_La_rule 1 = .ok (.iconst 0, 1) := by decide +kernel
theorem d_La_rule_2 : decode c_La_rule 2 = .ok (.aload_n 0, 1) := by decide +kernel
theorem d_La_rule_3 : decode c_La_rule 3 = .ok (.invokevirtual 41, 3) := by decide +kernel
theorem d_La_rule_6 : decode c_La_rule 6 = .ok (.i2l, 1) := by decide +kernel
theorem d_La_rule_7 : decode c_La_rule 7 = .ok (.lastore, 1) := by decide +kernel
theorem d_La_rule_8 : decode c_La_rule 8 = .ok (.goto 6, 3) := by decide +kernel
theorem d_La_rule_11 : decode c_La_rule 11 = .ok (.astore_n 2, 1) := by decide +kernel
theorem d_La_rule_12 : decode c_La_rule 12 = .ok (.iconst 1, 1) := by decide +kernel
theorem d_La_rule_13 : decode c_La_rule 13 = .ok (.ireturn, 1) := by decide +kernel
theorem d_La_rule_14 : decode c_La_rule 14 = .ok (.iconst 0, 1) := by decide +kernel
theorem d_La_rule_15 : decode c_La_rule 15 = .ok (.ireturn, 1) := by decide +kernel
abbrev c_La_off : ByteArray := method_11_code
abbrev r_La_off : Option FieldType := (some FieldType.int)
def y_La_off : MethodName := ⟨"PinKindChecksLaw", "off", "(LPinKindChecks;IZ[J)I"⟩
theorem d_La_off_0 : decode c_La_off 0 = .ok (.aload_n 3, 1) := by decide +kernel
theorem d_La_off_1 : decode c_La_off 1 = .ok (.iconst 0, 1) := by decide +kernel
theorem d_La_off_2 : decode c_La_off 2 = .ok (.aload_n 0, 1) := by decide +kernel
theorem d_La_off_3 : decode c_La_off 3 = .ok (.iload_n 1, 1) := by decide +kernel
theorem d_La_off_4 : decode c_La_off 4 = .ok (.iload_n 2, 1) := by decide +kernel
theorem d_La_off_5 : decode c_La_off 5 = .ok (.invokevirtual 47, 3) := by decide +kernel
theorem d_La_off_8 : decode c_La_off 8 = .ok (.ifCond .eq 7, 3) := by decide +kernel
theorem d_La_off_11 : decode c_La_off 11 = .ok (.lconst 1, 1) := by decide +kernel
theorem d_La_off_12 : decode c_La_off 12 = .ok (.goto 4, 3) := by decide +kernel
theorem d_La_off_15 : decode c_La_off 15 = .ok (.lconst 0, 1) := by decide +kernel
theorem d_La_off_16 : decode c_La_off 16 = .ok (.lastore, 1) := by decide +kernel
theorem d_La_off_17 : decode c_La_off 17 = .ok (.goto 7, 3) := by decide +kernel
theorem d_La_off_20 : decode c_La_off 20 = .ok (.astore 4, 2) := by decide +kernel
theorem d_La_off_22 : decode c_La_off 22 = .ok (.iconst 1, 1) := by decide +kernel
theorem d_La_off_23 : decode c_La_off 23 = .ok (.ireturn, 1) := by decide +kernel
theorem d_La_off_24 : decode c_La_off 24 = .ok (.iconst 0, 1) := by decide +kernel
theorem d_La_off_25 : decode c_La_off 25 = .ok (.ireturn, 1) := by decide +kernel
abbrev c_La_remark : ByteArray := method_12_code
abbrev r_La_remark : Option FieldType := (some FieldType.int)
def y_La_remark : MethodName := ⟨"PinKindChecksLaw", "remark", "(LPinKindChecks;II[J)I"⟩
theorem d_La_remark_0 : decode c_La_remark 0 = .ok (.aload_n 3, 1) := by decide +kernel
theorem d_La_remark_1 : decode c_La_remark 1 = .ok (.iconst 0, 1) := by decide +kernel
theorem d_La_remark_2 : decode c_La_remark 2 = .ok (.aload_n 0, 1) := by decide +kernel
theorem d_La_remark_3 : decode c_La_remark 3 = .ok (.iload_n 1, 1) := by decide +kernel
theorem d_La_remark_4 : decode c_La_remark 4 = .ok (.iload_n 2, 1) := by decide +kernel
theorem d_La_remark_5 : decode c_La_remark 5 = .ok (.invokevirtual 51, 3) := by decide +kernel
theorem d_La_remark_8 : decode c_La_remark 8 = .ok (.i2l, 1) := by decide +kernel
theorem d_La_remark_9 : decode c_La_remark 9 = .ok (.lastore, 1) := by decide +kernel
theorem d_La_remark_10 : decode c_La_remark 10 = .ok (.goto 7, 3) := by decide +kernel
theorem d_La_remark_13 : decode c_La_remark 13 = .ok (.astore 4, 2) := by decide +kernel
theorem d_La_remark_15 : decode c_La_remark 15 = .ok (.iconst 1, 1) := by decide +kernel
theorem d_La_remark_16 : decode c_La_remark 16 = .ok (.ireturn, 1) := by decide +kernel
theorem d_La_remark_17 : decode c_La_remark 17 = .ok (.iconst 0, 1) := by decide +kernel
theorem d_La_remark_18 : decode c_La_remark 18 = .ok (.ireturn, 1) := by decide +kernel
abbrev c_La_closed : ByteArray := method_13_code
abbrev r_La_closed : Option FieldType := (some FieldType.int)
def y_La_closed : MethodName := ⟨"PinKindChecksLaw", "closed", "(LPinKindChecks;II[J)I"⟩
theorem d_La_closed_0 : decode c_La_closed 0 = .ok (.aload_n 3, 1) := by decide +kernel
theorem d_La_closed_1 : decode c_La_closed 1 = .ok (.iconst 0, 1) := by decide +kernel
theorem d_La_closed_2 : decode c_La_closed 2 = .ok (.aload_n 0, 1) := by decide +kernel
theorem d_La_closed_3 : decode c_La_closed 3 = .ok (.iload_n 1, 1) := by decide +kernel
theorem d_La_closed_4 : decode c_La_closed 4 = .ok (.iload_n 2, 1) := by decide +kernel
theorem d_La_closed_5 : decode c_La_closed 5 = .ok (.invokevirtual 54, 3) := by decide +kernel
theorem d_La_closed_8 : decode c_La_closed 8 = .ok (.i2l, 1) := by decide +kernel
theorem d_La_closed_9 : decode c_La_closed 9 = .ok (.lastore, 1) := by decide +kernel
theorem d_La_closed_10 : decode c_La_closed 10 = .ok (.goto 7, 3) := by decide +kernel
theorem d_La_closed_13 : decode c_La_closed 13 = .ok (.astore 4, 2) := by decide +kernel
theorem d_La_closed_15 : decode c_La_closed 15 = .ok (.iconst 1, 1) := by decide +kernel
theorem d_La_closed_16 : decode c_La_closed 16 = .ok (.ireturn, 1) := by decide +kernel
theorem d_La_closed_17 : decode c_La_closed 17 = .ok (.iconst 0, 1) := by decide +kernel
theorem d_La_closed_18 : decode c_La_closed 18 = .ok (.ireturn, 1) := by decide +kernel
abbrev c_La_waive : ByteArray := method_14_code
abbrev r_La_waive : Option FieldType := (some FieldType.int)
def y_La_waive : MethodName := ⟨"PinKindChecksLaw", "waive", "(LPinKindChecks;IIII[J)I"⟩
theorem d_La_waive_0 : decode c_La_waive 0 = .ok (.aload 5, 2) := by decide +kernel
theorem d_La_waive_2 : decode c_La_waive 2 = .ok (.iconst 0, 1) := by decide +kernel
theorem d_La_waive_3 : decode c_La_waive 3 = .ok (.aload_n 0, 1) := by decide +kernel
theorem d_La_waive_4 : decode c_La_waive 4 = .ok (.iload_n 1, 1) := by decide +kernel
theorem d_La_waive_5 : decode c_La_waive 5 = .ok (.iload_n 2, 1) := by decide +kernel
theorem d_La_waive_6 : decode c_La_waive 6 = .ok (.iload_n 3, 1) := by decide +kernel
theorem d_La_waive_7 : decode c_La_waive 7 = .ok (.iload 4, 2) := by decide +kernel
theorem d_La_waive_9 : decode c_La_waive 9 = .ok (.invokevirtual 57, 3) := by decide +kernel
theorem d_La_waive_12 : decode c_La_waive 12 = .ok (.ifCond .eq 7, 3) := by decide +kernel
theorem d_La_waive_15 : decode c_La_waive 15 = .ok (.lconst 1, 1) := by decide +kernel
theorem d_La_waive_16 : decode c_La_waive 16 = .ok (.goto 4, 3) := by decide +kernel
theorem d_La_waive_19 : decode c_La_waive 19 = .ok (.lconst 0, 1) := by decide +kernel
theorem d_La_waive_20 : decode c_La_waive 20 = .ok (.lastore, 1) := by decide +kernel
theorem d_La_waive_21 : decode c_La_waive 21 = .ok (.goto 11, 3) := by decide +kernel
theorem d_La_waive_24 : decode c_La_waive 24 = .ok (.astore 6, 2) := by decide +kernel
theorem d_La_waive_26 : decode c_La_waive 26 = .ok (.iconst 1, 1) := by decide +kernel
theorem d_La_waive_27 : decode c_La_waive 27 = .ok (.ireturn, 1) := by decide +kernel
theorem d_La_waive_28 : decode c_La_waive 28 = .ok (.astore 6, 2) := by decide +kernel
theorem d_La_waive_30 : decode c_La_waive 30 = .ok (.iconst 2, 1) := by decide +kernel
theorem d_La_waive_31 : decode c_La_waive 31 = .ok (.ireturn, 1) := by decide +kernel
theorem d_La_waive_32 : decode c_La_waive 32 = .ok (.iconst 0, 1) := by decide +kernel
theorem d_La_waive_33 : decode c_La_waive 33 = .ok (.ireturn, 1) := by decide +kernel
