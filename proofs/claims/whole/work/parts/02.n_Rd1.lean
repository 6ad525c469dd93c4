theorem d_Rd_putOutDownTo_15 : decode c_Rd_putOutDownTo 15 = .ok (.iconst 1, 1) := by decide +kernel
theorem d_Rd_putOutDownTo_16 : decode c_Rd_putOutDownTo 16 = .ok (.isub, 1) := by decide +kernel
theorem d_Rd_putOutDownTo_17 : decode c_Rd_putOutDownTo 17 = .ok (.iaload, 1) := by decide +kernel
theorem d_Rd_putOutDownTo_18 : decode c_Rd_putOutDownTo 18 = .ok (.invokestatic 208, 3) := by decide +kernel
theorem d_Rd_putOutDownTo_21 : decode c_Rd_putOutDownTo 21 = .ok (.iload_n 1, 1) := by decide +kernel
theorem d_Rd_putOutDownTo_22 : decode c_Rd_putOutDownTo 22 = .ok (.invokestatic 208, 3) := by decide +kernel
theorem d_Rd_putOutDownTo_25 : decode c_Rd_putOutDownTo 25 = .ok (.if_icmp .lt 30, 3) := by decide +kernel
theorem d_Rd_putOutDownTo_28 : decode c_Rd_putOutDownTo 28 = .ok (.aload_n 0, 1) := by decide +kernel
theorem d_Rd_putOutDownTo_29 : decode c_Rd_putOutDownTo 29 = .ok (.dup, 1) := by decide +kernel
theorem d_Rd_putOutDownTo_30 : decode c_Rd_putOutDownTo 30 = .ok (.getfield 32, 3) := by decide +kernel
theorem d_Rd_putOutDownTo_33 : decode c_Rd_putOutDownTo 33 = .ok (.iconst 1, 1) := by decide +kernel
theorem d_Rd_putOutDownTo_34 : decode c_Rd_putOutDownTo 34 = .ok (.isub, 1) := by decide +kernel
theorem d_Rd_putOutDownTo_35 : decode c_Rd_putOutDownTo 35 = .ok (.putfield 32, 3) := by decide +kernel
theorem d_Rd_putOutDownTo_38 : decode c_Rd_putOutDownTo 38 = .ok (.aload_n 0, 1) := by decide +kernel
theorem d_Rd_putOutDownTo_39 : decode c_Rd_putOutDownTo 39 = .ok (.aload_n 0, 1) := by decide +kernel
theorem d_Rd_putOutDownTo_40 : decode c_Rd_putOutDownTo 40 = .ok (.getfield 18, 3) := by decide +kernel
theorem d_Rd_putOutDownTo_43 : decode c_Rd_putOutDownTo 43 = .ok (.aload_n 0, 1) := by decide +kernel
theorem d_Rd_putOutDownTo_44 : decode c_Rd_putOutDownTo 44 = .ok (.getfield 32, 3) := by decide +kernel
theorem d_Rd_putOutDownTo_47 : decode c_Rd_putOutDownTo 47 = .ok (.iaload, 1) := by decide +kernel
theorem d_Rd_putOutDownTo_48 : decode c_Rd_putOutDownTo 48 = .ok (.iconst 0, 1) := by decide +kernel
theorem d_Rd_putOutDownTo_49 : decode c_Rd_putOutDownTo 49 = .ok (.invokevirtual 180, 3) := by decide +kernel
theorem d_Rd_putOutDownTo_52 : decode c_Rd_putOutDownTo 52 = .ok (.goto (-52), 3) := by decide +kernel
theorem d_Rd_putOutDownTo_55 : decode c_Rd_putOutDownTo 55 = .ok (.return_, 1) := by decide +kernel
abbrev c_Rd_takeClosing : ByteArray := prog_7_method_13_code
abbrev r_Rd_takeClosing : Option FieldType := (some FieldType.boolean)
def y_Rd_takeClosing : MethodName := ⟨"PinKindChecks$RuleReader", "takeClosing", "()Z"⟩
theorem d_Rd_takeClosing_0 : decode c_Rd_takeClosing 0 = .ok (.aload_n 0, 1) := by decide +kernel
theorem d_Rd_takeClosing_1 : decode c_Rd_takeClosing 1 = .ok (.getfield 24, 3) := by decide +kernel
theorem d_Rd_takeClosing_4 : decode c_Rd_takeClosing 4 = .ok (.ldc 137, 2) := by decide +kernel
theorem d_Rd_takeClosing_6 : decode c_Rd_takeClosing 6 = .ok (.invokevirtual 118, 3) := by decide +kernel
theorem d_Rd_takeClosing_9 : decode c_Rd_takeClosing 9 = .ok (.ifCond .eq 17, 3) := by decide +kernel
theorem d_Rd_takeClosing_12 : decode c_Rd_takeClosing 12 = .ok (.aload_n 0, 1) := by decide +kernel
theorem d_Rd_takeClosing_13 : decode c_Rd_takeClosing 13 = .ok (.getfield 41, 3) := by decide +kernel
theorem d_Rd_takeClosing_16 : decode c_Rd_takeClosing 16 = .ok (.ifCond .le 10, 3) := by decide +kernel
theorem d_Rd_takeClosing_19 : decode c_Rd_takeClosing 19 = .ok (.aload_n 0, 1) := by decide +kernel
theorem d_Rd_takeClosing_20 : decode c_Rd_takeClosing 20 = .ok (.invokevirtual 71, 3) := by decide +kernel
theorem d_Rd_takeClosing_23 : decode c_Rd_takeClosing 23 = .ok (.ifCond .ne 5, 3) := by decide +kernel
theorem d_Rd_takeClosing_26 : decode c_Rd_takeClosing 26 = .ok (.iconst 0, 1) := by decide +kernel
theorem d_Rd_takeClosing_27 : decode c_Rd_takeClosing 27 = .ok (.ireturn, 1) := by decide +kernel
theorem d_Rd_takeClosing_28 : decode c_Rd_takeClosing 28 = .ok (.aload_n 0, 1) := by decide +kernel
theorem d_Rd_takeClosing_29 : decode c_Rd_takeClosing 29 = .ok (.dup, 1) := by decide +kernel
theorem d_Rd_takeClosing_30 : decode c_Rd_takeClosing 30 = .ok (.getfield 41, 3) := by decide +kernel
theorem d_Rd_takeClosing_33 : decode c_Rd_takeClosing 33 = .ok (.iconst 1, 1) := by decide +kernel
theorem d_Rd_takeClosing_34 : decode c_Rd_takeClosing 34 = .ok (.isub, 1) := by decide +kernel
theorem d_Rd_takeClosing_35 : decode c_Rd_takeClosing 35 = .ok (.putfield 41, 3) := by decide +kernel
theorem d_Rd_takeClosing_38 : decode c_Rd_takeClosing 38 = .ok (.aload_n 0, 1) := by decide +kernel
theorem d_Rd_takeClosing_39 : decode c_Rd_takeClosing 39 = .ok (.iconst 1, 1) := by decide +kernel
theorem d_Rd_takeClosing_40 : decode c_Rd_takeClosing 40 = .ok (.invokevirtual 76, 3) := by decide +kernel
theorem d_Rd_takeClosing_43 : decode c_Rd_takeClosing 43 = .ok (.aload_n 0, 1) := by decide +kernel
theorem d_Rd_takeClosing_44 : decode c_Rd_takeClosing 44 = .ok (.invokevirtual 139, 3) := by decide +kernel
theorem d_Rd_takeClosing_47 : decode c_Rd_takeClosing 47 = .ok (.aload_n 0, 1) := by decide +kernel
theorem d_Rd_takeClosing_48 : decode c_Rd_takeClosing 48 = .ok (.bipush 6, 2) := by decide +kernel
theorem d_Rd_takeClosing_50 : decode c_Rd_takeClosing 50 = .ok (.putfield 38, 3) := by decide +kernel
theorem d_Rd_takeClosing_53 : decode c_Rd_takeClosing 53 = .ok (.iconst 1, 1) := by decide +kernel
theorem d_Rd_takeClosing_54 : decode c_Rd_takeClosing 54 = .ok (.ireturn, 1) := by decide +kernel
abbrev c_Rd_dropOpening : ByteArray := prog_7_method_25_code
abbrev r_Rd_dropOpening : Option FieldType := none
def y_Rd_dropOpening : MethodName := ⟨"PinKindChecks$RuleReader", "dropOpening", "()V"⟩
theorem d_Rd_dropOpening_0 : decode c_Rd_dropOpening 0 = .ok (.aload_n 0, 1) := by decide +kernel
theorem d_Rd_dropOpening_1 : decode c_Rd_dropOpening 1 = .ok (.getfield 32, 3) := by decide +kernel
theorem d_Rd_dropOpening_4 : decode c_Rd_dropOpening 4 = .ok (.ifCond .le 13, 3) := by decide +kernel
theorem d_Rd_dropOpening_7 : decode c_Rd_dropOpening 7 = .ok (.aload_n 0, 1) := by decide +kernel
theorem d_Rd_dropOpening_8 : decode c_Rd_dropOpening 8 = .ok (.dup, 1) := by decide +kernel
theorem d_Rd_dropOpening_9 : decode c_Rd_dropOpening 9 = .ok (.getfield 32, 3) := by decide +kernel
theorem d_Rd_dropOpening_12 : decode c_Rd_dropOpening 12 = .ok (.iconst 1, 1) := by decide +kernel
theorem d_Rd_dropOpening_13 : decode c_Rd_dropOpening 13 = .ok (.isub, 1) := by decide +kernel
theorem d_Rd_dropOpening_14 : decode c_Rd_dropOpening 14 = .ok (.putfield 32, 3) := by decide +kernel
theorem d_Rd_dropOpening_17 : decode c_Rd_dropOpening 17 = .ok (.return_, 1) := by decide +kernel
abbrev c_Rd_wrongWord : ByteArray := prog_7_method_5_code
abbrev r_Rd_wrongWord : Option FieldType := (some FieldType.int)
def y_Rd_wrongWord : MethodName := ⟨"PinKindChecks$RuleReader", "wrongWord", "()I"⟩
theorem d_Rd_wrongWord_0 : decode c_Rd_wrongWord 0 = .ok (.aload_n 0, 1) := by decide +kernel
theorem d_Rd_wrongWord_1 : decode c_Rd_wrongWord 1 = .ok (.getfield 35, 3) := by decide +kernel
theorem d_Rd_wrongWord_4 : decode c_Rd_wrongWord 4 = .ok (.ireturn, 1) := by decide +kernel
