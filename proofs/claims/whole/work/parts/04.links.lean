/-! the pools: what each entry names, as words of wz -/
theorem k_K_init : zCall y_K_init c_K_init 1 r_K_init 0 := ⟨wz_at 31 (by decide +kernel) rfl, wz_at 1 (by decide +kernel) rfl, by decide +kernel, by decide +kernel, by decide +kernel⟩
theorem k_Sc_init : zCall y_Sc_init c_Sc_init 1 r_Sc_init 0 := ⟨wz_at 39 (by decide +kernel) rfl, wz_at 2 (by decide +kernel) rfl, by decide +kernel, by decide +kernel, by decide +kernel⟩
theorem k_Rd_init : zCall y_Rd_init c_Rd_init 1 r_Rd_init 0 := ⟨wz_at 82 (by decide +kernel) rfl, wz_at 3 (by decide +kernel) rfl, by decide +kernel, by decide +kernel, by decide +kernel⟩
theorem k_Tx_init : zCall y_Tx_init c_Tx_init 1 r_Tx_init 0 := ⟨wz_at 88 (by decide +kernel) rfl, wz_at 4 (by decide +kernel) rfl, by decide +kernel, by decide +kernel, by decide +kernel⟩
theorem k_Wv_init : zCall y_Wv_init c_Wv_init 1 r_Wv_init 0 := ⟨wz_at 147 (by decide +kernel) rfl, wz_at 5 (by decide +kernel) rfl, by decide +kernel, by decide +kernel, by decide +kernel⟩
theorem k_Rm_init : zCall y_Rm_init c_Rm_init 1 r_Rm_init 0 := ⟨wz_at 164 (by decide +kernel) rfl, wz_at 6 (by decide +kernel) rfl, by decide +kernel, by decide +kernel, by decide +kernel⟩
theorem k_K_unit : zCall y_K_unit c_K_unit 2 r_K_unit 1 := ⟨wz_at 217 (by decide +kernel) rfl, wz_at 1 (by decide +kernel) rfl, by decide +kernel, by decide +kernel, by decide +kernel⟩
theorem k_Rd_addLetter : zCall y_Rd_addLetter c_Rd_addLetter 2 r_Rd_addLetter 1 := ⟨wz_at 221 (by decide +kernel) rfl, wz_at 3 (by decide +kernel) rfl, by decide +kernel, by decide +kernel, by decide +kernel⟩
theorem k_Tx_addLetter : zCall y_Tx_addLetter c_Tx_addLetter 2 r_Tx_addLetter 1 := ⟨wz_at 225 (by decide +kernel) rfl, wz_at 4 (by decide +kernel) rfl, by decide +kernel, by decide +kernel, by decide +kernel⟩
theorem k_K_run : zCall y_K_run c_K_run 3 r_K_run 0 := ⟨wz_at 229 (by decide +kernel) rfl, wz_at 1 (by decide +kernel) rfl, by decide +kernel, by decide +kernel, by decide +kernel⟩
theorem k_Rm_wipe : zCall y_Rm_wipe c_Rm_wipe 1 r_Rm_wipe 0 := ⟨wz_at 233 (by decide +kernel) rfl, wz_at 6 (by decide +kernel) rfl, by decide +kernel, by decide +kernel, by decide +kernel⟩
theorem k_Sc_thingCount : zCall y_Sc_thingCount c_Sc_thingCount 1 r_Sc_thingCount 0 := ⟨wz_at 237 (by decide +kernel) rfl, wz_at 2 (by decide +kernel) rfl, by decide +kernel, by decide +kernel, by decide +kernel⟩
theorem k_Sc_thingInOrder : zCall y_Sc_thingInOrder c_Sc_thingInOrder 2 r_Sc_thingInOrder 1 := ⟨wz_at 241 (by decide +kernel) rfl, wz_at 2 (by decide +kernel) rfl, by decide +kernel, by decide +kernel, by decide +kernel⟩
theorem k_K_isBelow : zCall y_K_isBelow c_K_isBelow 2 r_K_isBelow 2 := ⟨wz_at 245 (by decide +kernel) rfl, wz_at 1 (by decide +kernel) rfl, by decide +kernel, by decide +kernel, by decide +kernel⟩
theorem k_K_checkThing : zCall y_K_checkThing c_K_checkThing 4 r_K_checkThing 1 := ⟨wz_at 249 (by decide +kernel) rfl, wz_at 1 (by decide +kernel) rfl, by decide +kernel, by decide +kernel, by decide +kernel⟩
theorem k_K_ruleCount : zCall y_K_ruleCount c_K_ruleCount 1 r_K_ruleCount 0 := ⟨wz_at 253 (by decide +kernel) rfl, wz_at 1 (by decide +kernel) rfl, by decide +kernel, by decide +kernel, by decide +kernel⟩
theorem k_K_weightOf : zCall y_K_weightOf c_K_weightOf 5 r_K_weightOf 2 := ⟨wz_at 257 (by decide +kernel) rfl, wz_at 1 (by decide +kernel) rfl, by decide +kernel, by decide +kernel, by decide +kernel⟩
theorem k_Ne_builtInWeight : zCall y_Ne_builtInWeight c_Ne_builtInWeight 3 r_Ne_builtInWeight 2 := ⟨wz_at 263 (by decide +kernel) rfl, wz_at 16 (by decide +kernel) rfl, by decide +kernel, by decide +kernel, by decide +kernel⟩
theorem k_Ph_pinsOfKind : zCall y_Ph_pinsOfKind c_Ph_pinsOfKind 2 r_Ph_pinsOfKind 1 := ⟨wz_at 269 (by decide +kernel) rfl, wz_at 14 (by decide +kernel) rfl, by decide +kernel, by decide +kernel, by decide +kernel⟩
theorem k_Ph_pinCount : zCall y_Ph_pinCount c_Ph_pinCount 1 r_Ph_pinCount 0 := ⟨wz_at 276 (by decide +kernel) rfl, wz_at 14 (by decide +kernel) rfl, by decide +kernel, by decide +kernel, by decide +kernel⟩
theorem k_Sc_hasLowerNamesake : zCall y_Sc_hasLowerNamesake c_Sc_hasLowerNamesake 4 r_Sc_hasLowerNamesake 1 := ⟨wz_at 280 (by decide +kernel) rfl, wz_at 2 (by decide +kernel) rfl, by decide +kernel, by decide +kernel, by decide +kernel⟩
theorem k_Th_number : zCall y_Th_number c_Th_number 1 r_Th_number 0 := ⟨wz_at 286 (by decide +kernel) rfl, wz_at 13 (by decide +kernel) rfl, by decide +kernel, by decide +kernel, by decide +kernel⟩
theorem k_Sc_netAt : zCall y_Sc_netAt c_Sc_netAt 2 r_Sc_netAt 1 := ⟨wz_at 290 (by decide +kernel) rfl, wz_at 2 (by decide +kernel) rfl, by decide +kernel, by decide +kernel, by decide +kernel⟩
theorem k_Ne_name : zCall y_Ne_name c_Ne_name 1 r_Ne_name 0 := ⟨wz_at 294 (by decide +kernel) rfl, wz_at 16 (by decide +kernel) rfl, by decide +kernel, by decide +kernel, by decide +kernel⟩
theorem k_Pa_builtInWeight : zCall y_Pa_builtInWeight c_Pa_builtInWeight 3 r_Pa_builtInWeight 2 := ⟨wz_at 297 (by decide +kernel) rfl, wz_at 15 (by decide +kernel) rfl, by decide +kernel, by decide +kernel, by decide +kernel⟩
theorem k_Pi_builtInWeight : zCall y_Pi_builtInWeight c_Pi_builtInWeight 3 r_Pi_builtInWeight 2 := ⟨wz_at 300 (by decide +kernel) rfl, wz_at 17 (by decide +kernel) rfl, by decide +kernel, by decide +kernel, by decide +kernel⟩
theorem k_Sc_worstVerdictBelow : zCall y_Sc_worstVerdictBelow c_Sc_worstVerdictBelow 6 r_Sc_worstVerdictBelow 1 := ⟨wz_at 304 (by decide +kernel) rfl, wz_at 2 (by decide +kernel) rfl, by decide +kernel, by decide +kernel, by decide +kernel⟩
theorem k_Pi_netOrNull : zCall y_Pi_netOrNull c_Pi_netOrNull 1 r_Pi_netOrNull 0 := ⟨wz_at 308 (by decide +kernel) rfl, wz_at 17 (by decide +kernel) rfl, by decide +kernel, by decide +kernel, by decide +kernel⟩
theorem k_Sc_pinAt : zCall y_Sc_pinAt c_Sc_pinAt 2 r_Sc_pinAt 1 := ⟨wz_at 315 (by decide +kernel) rfl, wz_at 2 (by decide +kernel) rfl, by decide +kernel, by decide +kernel, by decide +kernel⟩
theorem k_Pi_kind : zCall y_Pi_kind c_Pi_kind 1 r_Pi_kind 0 := ⟨wz_at 319 (by decide +kernel) rfl, wz_at 17 (by decide +kernel) rfl, by decide +kernel, by decide +kernel, by decide +kernel⟩
theorem k_Sc_verdictOf : zCall y_Sc_verdictOf c_Sc_verdictOf 4 r_Sc_verdictOf 2 := ⟨wz_at 323 (by decide +kernel) rfl, wz_at 2 (by decide +kernel) rfl, by decide +kernel, by decide +kernel, by decide +kernel⟩
theorem k_jM_max : zCall y_jM_max c_jM_max 2 r_jM_max 2 := ⟨wz_at 326 (by decide +kernel) rfl, wz_at 19 (by decide +kernel) rfl, by decide +kernel, by decide +kernel, by decide +kernel⟩
theorem k_Tr_isAbout : zCall y_Tr_isAbout c_Tr_isAbout 2 r_Tr_isAbout 1 := ⟨wz_at 331 (by decide +kernel) rfl, wz_at 24 (by decide +kernel) rfl, by decide +kernel, by decide +kernel, by decide +kernel⟩
theorem k_Tr_holdsFor : zCall y_Tr_holdsFor c_Tr_holdsFor 6 r_Tr_holdsFor 2 := ⟨wz_at 338 (by decide +kernel) rfl, wz_at 24 (by decide +kernel) rfl, by decide +kernel, by decide +kernel, by decide +kernel⟩
theorem k_Ph_valueOf : zCall y_Ph_valueOf c_Ph_valueOf 3 r_Ph_valueOf 2 := ⟨wz_at 344 (by decide +kernel) rfl, wz_at 14 (by decide +kernel) rfl, by decide +kernel, by decide +kernel, by decide +kernel⟩
theorem k_Th_sheet : zCall y_Th_sheet c_Th_sheet 1 r_Th_sheet 0 := ⟨wz_at 352 (by decide +kernel) rfl, wz_at 13 (by decide +kernel) rfl, by decide +kernel, by decide +kernel, by decide +kernel⟩
theorem k_Ne_ownValueOf : zCall y_Ne_ownValueOf c_Ne_ownValueOf 3 r_Ne_ownValueOf 2 := ⟨wz_at 358 (by decide +kernel) rfl, wz_at 16 (by decide +kernel) rfl, by decide +kernel, by decide +kernel, by decide +kernel⟩
theorem k_Pa_ownValueOf : zCall y_Pa_ownValueOf c_Pa_ownValueOf 3 r_Pa_ownValueOf 2 := ⟨wz_at 361 (by decide +kernel) rfl, wz_at 15 (by decide +kernel) rfl, by decide +kernel, by decide +kernel, by decide +kernel⟩
theorem k_Pa_fieldAt : zCall y_Pa_fieldAt c_Pa_fieldAt 2 r_Pa_fieldAt 1 := ⟨wz_at 365 (by decide +kernel) rfl, wz_at 15 (by decide +kernel) rfl, by decide +kernel, by decide +kernel, by decide +kernel⟩
theorem k_Pi_valueOf : zCall y_Pi_valueOf c_Pi_valueOf 3 r_Pi_valueOf 2 := ⟨wz_at 370 (by decide +kernel) rfl, wz_at 17 (by decide +kernel) rfl, by decide +kernel, by decide +kernel, by decide +kernel⟩
theorem k_Tr_truth : zCall y_Tr_truth c_Tr_truth 1 r_Tr_truth 1 := ⟨wz_at 379 (by decide +kernel) rfl, wz_at 24 (by decide +kernel) rfl, by decide +kernel, by decide +kernel, by decide +kernel⟩
theorem k_Tr_workOut : zCall y_Tr_workOut c_Tr_workOut 5 r_Tr_workOut 3 := ⟨wz_at 382 (by decide +kernel) rfl, wz_at 24 (by decide +kernel) rfl, by decide +kernel, by decide +kernel, by decide +kernel⟩
theorem k_Tr_weight : zCall y_Tr_weight c_Tr_weight 1 r_Tr_weight 0 := ⟨wz_at 386 (by decide +kernel) rfl, wz_at 24 (by decide +kernel) rfl, by decide +kernel, by decide +kernel, by decide +kernel⟩
theorem k_Th_keyWith : zCall y_Th_keyWith c_Th_keyWith 2 r_Th_keyWith 1 := ⟨wz_at 393 (by decide +kernel) rfl, wz_at 13 (by decide +kernel) rfl, by decide +kernel, by decide +kernel, by decide +kernel⟩
theorem k_Rm_add : zCall y_Rm_add c_Rm_add 4 r_Rm_add 3 := ⟨wz_at 397 (by decide +kernel) rfl, wz_at 6 (by decide +kernel) rfl, by decide +kernel, by decide +kernel, by decide +kernel⟩
theorem k_Rm_grow : zCall y_Rm_grow c_Rm_grow 2 r_Rm_grow 0 := ⟨wz_at 401 (by decide +kernel) rfl, wz_at 6 (by decide +kernel) rfl, by decide +kernel, by decide +kernel, by decide +kernel⟩
theorem k_jM_min : zCall y_jM_min c_jM_min 2 r_jM_min 2 := ⟨wz_at 404 (by decide +kernel) rfl, wz_at 19 (by decide +kernel) rfl, by decide +kernel, by decide +kernel, by decide +kernel⟩
theorem k_jA_copyOf : zCall y_jA_copyOf c_jA_copyOf 3 r_jA_copyOf 2 := ⟨wz_at 407 (by decide +kernel) rfl, wz_at 25 (by decide +kernel) rfl, by decide +kernel, by decide +kernel, by decide +kernel⟩
theorem k_K_compareWithBefore : zCall y_K_compareWithBefore c_K_compareWithBefore 4 r_K_compareWithBefore 0 := ⟨wz_at 422 (by decide +kernel) rfl, wz_at 1 (by decide +kernel) rfl, by decide +kernel, by decide +kernel, by decide +kernel⟩
theorem k_Rm_count : zCall y_Rm_count c_Rm_count 1 r_Rm_count 0 := ⟨wz_at 426 (by decide +kernel) rfl, wz_at 6 (by decide +kernel) rfl, by decide +kernel, by decide +kernel, by decide +kernel⟩
theorem k_Rm_keyOf : zCall y_Rm_keyOf c_Rm_keyOf 2 r_Rm_keyOf 1 := ⟨wz_at 430 (by decide +kernel) rfl, wz_at 6 (by decide +kernel) rfl, by decide +kernel, by decide +kernel, by decide +kernel⟩
theorem k_Rm_firstOf : zCall y_Rm_firstOf c_Rm_firstOf 2 r_Rm_firstOf 1 := ⟨wz_at 435 (by decide +kernel) rfl, wz_at 6 (by decide +kernel) rfl, by decide +kernel, by decide +kernel, by decide +kernel⟩
theorem k_Rm_setFirst : zCall y_Rm_setFirst c_Rm_setFirst 3 r_Rm_setFirst 2 := ⟨wz_at 439 (by decide +kernel) rfl, wz_at 6 (by decide +kernel) rfl, by decide +kernel, by decide +kernel, by decide +kernel⟩
theorem k_Rm_weightOf : zCall y_Rm_weightOf c_Rm_weightOf 2 r_Rm_weightOf 1 := ⟨wz_at 443 (by decide +kernel) rfl, wz_at 6 (by decide +kernel) rfl, by decide +kernel, by decide +kernel, by decide +kernel⟩
theorem k_K_countOpen : zCall y_K_countOpen c_K_countOpen 3 r_K_countOpen 0 := ⟨wz_at 447 (by decide +kernel) rfl, wz_at 1 (by decide +kernel) rfl, by decide +kernel, by decide +kernel, by decide +kernel⟩
theorem k_Wv_reasonFor : zCall y_Wv_reasonFor c_Wv_reasonFor 3 r_Wv_reasonFor 1 := ⟨wz_at 451 (by decide +kernel) rfl, wz_at 5 (by decide +kernel) rfl, by decide +kernel, by decide +kernel, by decide +kernel⟩
theorem k_Wv_indexOf : zCall y_Wv_indexOf c_Wv_indexOf 3 r_Wv_indexOf 1 := ⟨wz_at 455 (by decide +kernel) rfl, wz_at 5 (by decide +kernel) rfl, by decide +kernel, by decide +kernel, by decide +kernel⟩
theorem k_K_next : zCall y_K_next c_K_next 1 r_K_next 0 := ⟨wz_at 460 (by decide +kernel) rfl, wz_at 1 (by decide +kernel) rfl, by decide +kernel, by decide +kernel, by decide +kernel⟩
theorem k_K_offRule : zCall y_K_offRule c_K_offRule 4 r_K_offRule 1 := ⟨wz_at 464 (by decide +kernel) rfl, wz_at 1 (by decide +kernel) rfl, by decide +kernel, by decide +kernel, by decide +kernel⟩
theorem k_K_clear : zCall y_K_clear c_K_clear 2 r_K_clear 0 := ⟨wz_at 468 (by decide +kernel) rfl, wz_at 1 (by decide +kernel) rfl, by decide +kernel, by decide +kernel, by decide +kernel⟩
theorem k_Sc_wipe : zCall y_Sc_wipe c_Sc_wipe 1 r_Sc_wipe 0 := ⟨wz_at 472 (by decide +kernel) rfl, wz_at 2 (by decide +kernel) rfl, by decide +kernel, by decide +kernel, by decide +kernel⟩
theorem k_jA_fill : zCall y_jA_fill c_jA_fill 4 r_jA_fill 2 := ⟨wz_at 475 (by decide +kernel) rfl, wz_at 25 (by decide +kernel) rfl, by decide +kernel, by decide +kernel, by decide +kernel⟩
theorem k_Rd_wipe : zCall y_Rd_wipe c_Rd_wipe 1 r_Rd_wipe 0 := ⟨wz_at 479 (by decide +kernel) rfl, wz_at 3 (by decide +kernel) rfl, by decide +kernel, by decide +kernel, by decide +kernel⟩
theorem k_Tx_wipe : zCall y_Tx_wipe c_Tx_wipe 1 r_Tx_wipe 0 := ⟨wz_at 483 (by decide +kernel) rfl, wz_at 4 (by decide +kernel) rfl, by decide +kernel, by decide +kernel, by decide +kernel⟩
theorem k_Wv_wipe : zCall y_Wv_wipe c_Wv_wipe 1 r_Wv_wipe 0 := ⟨wz_at 487 (by decide +kernel) rfl, wz_at 5 (by decide +kernel) rfl, by decide +kernel, by decide +kernel, by decide +kernel⟩
theorem k_K_table : zCall y_K_table c_K_table 4 r_K_table 3 := ⟨wz_at 496 (by decide +kernel) rfl, wz_at 1 (by decide +kernel) rfl, by decide +kernel, by decide +kernel, by decide +kernel⟩
theorem k_Sc_setVerdict : zCall y_Sc_setVerdict c_Sc_setVerdict 5 r_Sc_setVerdict 3 := ⟨wz_at 584 (by decide +kernel) rfl, wz_at 2 (by decide +kernel) rfl, by decide +kernel, by decide +kernel, by decide +kernel⟩
theorem k_K_part : zCall y_K_part c_K_part 2 r_K_part 1 := ⟨wz_at 591 (by decide +kernel) rfl, wz_at 1 (by decide +kernel) rfl, by decide +kernel, by decide +kernel, by decide +kernel⟩
theorem k_Sc_addPart : zCall y_Sc_addPart c_Sc_addPart 3 r_Sc_addPart 1 := ⟨wz_at 596 (by decide +kernel) rfl, wz_at 2 (by decide +kernel) rfl, by decide +kernel, by decide +kernel, by decide +kernel⟩
theorem k_Pa_init : zCall y_Pa_init c_Pa_init 3 r_Pa_init 2 := ⟨wz_at 600 (by decide +kernel) rfl, wz_at 15 (by decide +kernel) rfl, by decide +kernel, by decide +kernel, by decide +kernel⟩
theorem k_Ph_init : zCall y_Ph_init c_Ph_init 4 r_Ph_init 3 := ⟨wz_at 603 (by decide +kernel) rfl, wz_at 14 (by decide +kernel) rfl, by decide +kernel, by decide +kernel, by decide +kernel⟩
theorem k_Th_init : zCall y_Th_init c_Th_init 4 r_Th_init 3 := ⟨wz_at 606 (by decide +kernel) rfl, wz_at 13 (by decide +kernel) rfl, by decide +kernel, by decide +kernel, by decide +kernel⟩
theorem k_Sc_putInOrder : zCall y_Sc_putInOrder c_Sc_putInOrder 3 r_Sc_putInOrder 1 := ⟨wz_at 627 (by decide +kernel) rfl, wz_at 2 (by decide +kernel) rfl, by decide +kernel, by decide +kernel, by decide +kernel⟩
theorem k_Th_isBefore : zCall y_Th_isBefore c_Th_isBefore 2 r_Th_isBefore 1 := ⟨wz_at 634 (by decide +kernel) rfl, wz_at 13 (by decide +kernel) rfl, by decide +kernel, by decide +kernel, by decide +kernel⟩
theorem k_K_net : zCall y_K_net c_K_net 3 r_K_net 2 := ⟨wz_at 644 (by decide +kernel) rfl, wz_at 1 (by decide +kernel) rfl, by decide +kernel, by decide +kernel, by decide +kernel⟩
theorem k_Sc_addNet : zCall y_Sc_addNet c_Sc_addNet 4 r_Sc_addNet 2 := ⟨wz_at 649 (by decide +kernel) rfl, wz_at 2 (by decide +kernel) rfl, by decide +kernel, by decide +kernel, by decide +kernel⟩
theorem k_Ne_init : zCall y_Ne_init c_Ne_init 4 r_Ne_init 3 := ⟨wz_at 653 (by decide +kernel) rfl, wz_at 16 (by decide +kernel) rfl, by decide +kernel, by decide +kernel, by decide +kernel⟩
theorem k_K_pin : zCall y_K_pin c_K_pin 5 r_K_pin 3 := ⟨wz_at 672 (by decide +kernel) rfl, wz_at 1 (by decide +kernel) rfl, by decide +kernel, by decide +kernel, by decide +kernel⟩
theorem k_Sc_partAt : zCall y_Sc_partAt c_Sc_partAt 2 r_Sc_partAt 1 := ⟨wz_at 676 (by decide +kernel) rfl, wz_at 2 (by decide +kernel) rfl, by decide +kernel, by decide +kernel, by decide +kernel⟩
theorem k_K_isNetOrNone : zCall y_K_isNetOrNone c_K_isNetOrNone 2 r_K_isNetOrNone 1 := ⟨wz_at 680 (by decide +kernel) rfl, wz_at 1 (by decide +kernel) rfl, by decide +kernel, by decide +kernel, by decide +kernel⟩
theorem k_Sc_addPin : zCall y_Sc_addPin c_Sc_addPin 5 r_Sc_addPin 3 := ⟨wz_at 687 (by decide +kernel) rfl, wz_at 2 (by decide +kernel) rfl, by decide +kernel, by decide +kernel, by decide +kernel⟩
theorem k_Pi_init : zCall y_Pi_init c_Pi_init 4 r_Pi_init 3 := ⟨wz_at 691 (by decide +kernel) rfl, wz_at 17 (by decide +kernel) rfl, by decide +kernel, by decide +kernel, by decide +kernel⟩
theorem k_Ph_countPins : zCall y_Ph_countPins c_Ph_countPins 3 r_Ph_countPins 2 := ⟨wz_at 713 (by decide +kernel) rfl, wz_at 14 (by decide +kernel) rfl, by decide +kernel, by decide +kernel, by decide +kernel⟩
theorem k_Pi_moveTo : zCall y_Pi_moveTo c_Pi_moveTo 2 r_Pi_moveTo 1 := ⟨wz_at 717 (by decide +kernel) rfl, wz_at 17 (by decide +kernel) rfl, by decide +kernel, by decide +kernel, by decide +kernel⟩
theorem k_K_join : zCall y_K_join c_K_join 4 r_K_join 2 := ⟨wz_at 727 (by decide +kernel) rfl, wz_at 1 (by decide +kernel) rfl, by decide +kernel, by decide +kernel, by decide +kernel⟩
theorem k_K_field : zCall y_K_field c_K_field 6 r_K_field 3 := ⟨wz_at 737 (by decide +kernel) rfl, wz_at 1 (by decide +kernel) rfl, by decide +kernel, by decide +kernel, by decide +kernel⟩
theorem k_Pa_setField : zCall y_Pa_setField c_Pa_setField 5 r_Pa_setField 2 := ⟨wz_at 742 (by decide +kernel) rfl, wz_at 15 (by decide +kernel) rfl, by decide +kernel, by decide +kernel, by decide +kernel⟩
theorem k_K_end : zCall y_K_end c_K_end 7 r_K_end 3 := ⟨wz_at 749 (by decide +kernel) rfl, wz_at 1 (by decide +kernel) rfl, by decide +kernel, by decide +kernel, by decide +kernel⟩
theorem k_Sc_addEnd : zCall y_Sc_addEnd c_Sc_addEnd 6 r_Sc_addEnd 3 := ⟨wz_at 754 (by decide +kernel) rfl, wz_at 2 (by decide +kernel) rfl, by decide +kernel, by decide +kernel, by decide +kernel⟩
theorem k_Ne_noteEnd : zCall y_Ne_noteEnd c_Ne_noteEnd 5 r_Ne_noteEnd 2 := ⟨wz_at 758 (by decide +kernel) rfl, wz_at 16 (by decide +kernel) rfl, by decide +kernel, by decide +kernel, by decide +kernel⟩
theorem k_K_rule : zCall y_K_rule c_K_rule 2 r_K_rule 0 := ⟨wz_at 767 (by decide +kernel) rfl, wz_at 1 (by decide +kernel) rfl, by decide +kernel, by decide +kernel, by decide +kernel⟩
theorem k_Rd_readRule : zCall y_Rd_readRule c_Rd_readRule 2 r_Rd_readRule 0 := ⟨wz_at 787 (by decide +kernel) rfl, wz_at 3 (by decide +kernel) rfl, by decide +kernel, by decide +kernel, by decide +kernel⟩
theorem k_Rd_start : zCall y_Rd_start c_Rd_start 1 r_Rd_start 0 := ⟨wz_at 791 (by decide +kernel) rfl, wz_at 3 (by decide +kernel) rfl, by decide +kernel, by decide +kernel, by decide +kernel⟩
theorem k_Tx_toStart : zCall y_Tx_toStart c_Tx_toStart 1 r_Tx_toStart 0 := ⟨wz_at 795 (by decide +kernel) rfl, wz_at 4 (by decide +kernel) rfl, by decide +kernel, by decide +kernel, by decide +kernel⟩
theorem k_Tx_toNextWord : zCall y_Tx_toNextWord c_Tx_toNextWord 4 r_Tx_toNextWord 0 := ⟨wz_at 799 (by decide +kernel) rfl, wz_at 4 (by decide +kernel) rfl, by decide +kernel, by decide +kernel, by decide +kernel⟩
theorem k_Rd_takeWord : zCall y_Rd_takeWord c_Rd_takeWord 1 r_Rd_takeWord 0 := ⟨wz_at 805 (by decide +kernel) rfl, wz_at 3 (by decide +kernel) rfl, by decide +kernel, by decide +kernel, by decide +kernel⟩
theorem k_Rd_takeSubject : zCall y_Rd_takeSubject c_Rd_takeSubject 1 r_Rd_takeSubject 0 := ⟨wz_at 809 (by decide +kernel) rfl, wz_at 3 (by decide +kernel) rfl, by decide +kernel, by decide +kernel, by decide +kernel⟩
theorem k_Tx_wordIs : zCall y_Tx_wordIs c_Tx_wordIs 3 r_Tx_wordIs 1 := ⟨wz_at 814 (by decide +kernel) rfl, wz_at 4 (by decide +kernel) rfl, by decide +kernel, by decide +kernel, by decide +kernel⟩
theorem k_jS_length : zCall y_jS_length c_jS_length 1 r_jS_length 0 := ⟨wz_at 818 (by decide +kernel) rfl, wz_at 20 (by decide +kernel) rfl, by decide +kernel, by decide +kernel, by decide +kernel⟩
theorem k_jS_coder : zCall y_jS_coder c_jS_coder 1 r_jS_coder 0 := ⟨wz_at 822 (by decide +kernel) rfl, wz_at 20 (by decide +kernel) rfl, by decide +kernel, by decide +kernel, by decide +kernel⟩
theorem k_Tx_wordLength : zCall y_Tx_wordLength c_Tx_wordLength 1 r_Tx_wordLength 0 := ⟨wz_at 828 (by decide +kernel) rfl, wz_at 4 (by decide +kernel) rfl, by decide +kernel, by decide +kernel, by decide +kernel⟩
theorem k_jS_charAt : zCall y_jS_charAt c_jS_charAt 2 r_jS_charAt 1 := ⟨wz_at 832 (by decide +kernel) rfl, wz_at 20 (by decide +kernel) rfl, by decide +kernel, by decide +kernel, by decide +kernel⟩
theorem k_jS_isLatin1 : zCall y_jS_isLatin1 c_jS_isLatin1 1 r_jS_isLatin1 0 := ⟨wz_at 836 (by decide +kernel) rfl, wz_at 20 (by decide +kernel) rfl, by decide +kernel, by decide +kernel, by decide +kernel⟩
theorem k_jL_charAt : zCall y_jL_charAt c_jL_charAt 2 r_jL_charAt 2 := ⟨wz_at 839 (by decide +kernel) rfl, wz_at 21 (by decide +kernel) rfl, by decide +kernel, by decide +kernel, by decide +kernel⟩
theorem k_jS_checkIndex : zCall y_jS_checkIndex c_jS_checkIndex 2 r_jS_checkIndex 2 := ⟨wz_at 842 (by decide +kernel) rfl, wz_at 20 (by decide +kernel) rfl, by decide +kernel, by decide +kernel, by decide +kernel⟩
theorem k_jP_checkIndex : zCall y_jP_checkIndex c_jP_checkIndex 3 r_jP_checkIndex 3 := ⟨wz_at 847 (by decide +kernel) rfl, wz_at 22 (by decide +kernel) rfl, by decide +kernel, by decide +kernel, by decide +kernel⟩
theorem k_Tx_letterOfWord : zCall y_Tx_letterOfWord c_Tx_letterOfWord 3 r_Tx_letterOfWord 1 := ⟨wz_at 870 (by decide +kernel) rfl, wz_at 4 (by decide +kernel) rfl, by decide +kernel, by decide +kernel, by decide +kernel⟩
theorem k_Rd_takeWeight : zCall y_Rd_takeWeight c_Rd_takeWeight 1 r_Rd_takeWeight 0 := ⟨wz_at 876 (by decide +kernel) rfl, wz_at 3 (by decide +kernel) rfl, by decide +kernel, by decide +kernel, by decide +kernel⟩
theorem k_Rd_takeNot : zCall y_Rd_takeNot c_Rd_takeNot 1 r_Rd_takeNot 0 := ⟨wz_at 882 (by decide +kernel) rfl, wz_at 3 (by decide +kernel) rfl, by decide +kernel, by decide +kernel, by decide +kernel⟩
theorem k_Rd_putOff : zCall y_Rd_putOff c_Rd_putOff 2 r_Rd_putOff 1 := ⟨wz_at 887 (by decide +kernel) rfl, wz_at 3 (by decide +kernel) rfl, by decide +kernel, by decide +kernel, by decide +kernel⟩
theorem k_Rd_takeOpening : zCall y_Rd_takeOpening c_Rd_takeOpening 1 r_Rd_takeOpening 0 := ⟨wz_at 891 (by decide +kernel) rfl, wz_at 3 (by decide +kernel) rfl, by decide +kernel, by decide +kernel, by decide +kernel⟩
theorem k_Rd_takeTerm : zCall y_Rd_takeTerm c_Rd_takeTerm 2 r_Rd_takeTerm 0 := ⟨wz_at 896 (by decide +kernel) rfl, wz_at 3 (by decide +kernel) rfl, by decide +kernel, by decide +kernel, by decide +kernel⟩
theorem k_Rd_takeNumber : zCall y_Rd_takeNumber c_Rd_takeNumber 5 r_Rd_takeNumber 0 := ⟨wz_at 900 (by decide +kernel) rfl, wz_at 3 (by decide +kernel) rfl, by decide +kernel, by decide +kernel, by decide +kernel⟩
theorem k_Tx_digitOfWord : zCall y_Tx_digitOfWord c_Tx_digitOfWord 3 r_Tx_digitOfWord 1 := ⟨wz_at 905 (by decide +kernel) rfl, wz_at 4 (by decide +kernel) rfl, by decide +kernel, by decide +kernel, by decide +kernel⟩
theorem k_Rd_putTerm : zCall y_Rd_putTerm c_Rd_putTerm 3 r_Rd_putTerm 2 := ⟨wz_at 909 (by decide +kernel) rfl, wz_at 3 (by decide +kernel) rfl, by decide +kernel, by decide +kernel, by decide +kernel⟩
theorem k_Rd_putOut : zCall y_Rd_putOut c_Rd_putOut 3 r_Rd_putOut 2 := ⟨wz_at 913 (by decide +kernel) rfl, wz_at 3 (by decide +kernel) rfl, by decide +kernel, by decide +kernel, by decide +kernel⟩
theorem k_Rd_takeField : zCall y_Rd_takeField c_Rd_takeField 2 r_Rd_takeField 0 := ⟨wz_at 917 (by decide +kernel) rfl, wz_at 3 (by decide +kernel) rfl, by decide +kernel, by decide +kernel, by decide +kernel⟩
theorem k_Rd_plainTerm : zCall y_Rd_plainTerm c_Rd_plainTerm 1 r_Rd_plainTerm 0 := ⟨wz_at 924 (by decide +kernel) rfl, wz_at 3 (by decide +kernel) rfl, by decide +kernel, by decide +kernel, by decide +kernel⟩
theorem k_Rd_takeKind : zCall y_Rd_takeKind c_Rd_takeKind 2 r_Rd_takeKind 0 := ⟨wz_at 932 (by decide +kernel) rfl, wz_at 3 (by decide +kernel) rfl, by decide +kernel, by decide +kernel, by decide +kernel⟩
theorem k_Rd_takeOperator : zCall y_Rd_takeOperator c_Rd_takeOperator 2 r_Rd_takeOperator 0 := ⟨wz_at 936 (by decide +kernel) rfl, wz_at 3 (by decide +kernel) rfl, by decide +kernel, by decide +kernel, by decide +kernel⟩
theorem k_Rd_operatorOfWord : zCall y_Rd_operatorOfWord c_Rd_operatorOfWord 1 r_Rd_operatorOfWord 0 := ⟨wz_at 940 (by decide +kernel) rfl, wz_at 3 (by decide +kernel) rfl, by decide +kernel, by decide +kernel, by decide +kernel⟩
theorem k_Rd_operatorOfLetter : zCall y_Rd_operatorOfLetter c_Rd_operatorOfLetter 1 r_Rd_operatorOfLetter 1 := ⟨wz_at 943 (by decide +kernel) rfl, wz_at 3 (by decide +kernel) rfl, by decide +kernel, by decide +kernel, by decide +kernel⟩
theorem k_Tr_isJoining : zCall y_Tr_isJoining c_Tr_isJoining 1 r_Tr_isJoining 1 := ⟨wz_at 950 (by decide +kernel) rfl, wz_at 24 (by decide +kernel) rfl, by decide +kernel, by decide +kernel, by decide +kernel⟩
theorem k_Rd_isBehindCondition : zCall y_Rd_isBehindCondition c_Rd_isBehindCondition 1 r_Rd_isBehindCondition 0 := ⟨wz_at 954 (by decide +kernel) rfl, wz_at 3 (by decide +kernel) rfl, by decide +kernel, by decide +kernel, by decide +kernel⟩
theorem k_Tr_isSign : zCall y_Tr_isSign c_Tr_isSign 1 r_Tr_isSign 1 := ⟨wz_at 957 (by decide +kernel) rfl, wz_at 24 (by decide +kernel) rfl, by decide +kernel, by decide +kernel, by decide +kernel⟩
theorem k_Tr_isArithmetic : zCall y_Tr_isArithmetic c_Tr_isArithmetic 1 r_Tr_isArithmetic 1 := ⟨wz_at 960 (by decide +kernel) rfl, wz_at 24 (by decide +kernel) rfl, by decide +kernel, by decide +kernel, by decide +kernel⟩
theorem k_Rd_putOutDownTo : zCall y_Rd_putOutDownTo c_Rd_putOutDownTo 2 r_Rd_putOutDownTo 1 := ⟨wz_at 964 (by decide +kernel) rfl, wz_at 3 (by decide +kernel) rfl, by decide +kernel, by decide +kernel, by decide +kernel⟩
theorem k_Tr_strength : zCall y_Tr_strength c_Tr_strength 1 r_Tr_strength 1 := ⟨wz_at 967 (by decide +kernel) rfl, wz_at 24 (by decide +kernel) rfl, by decide +kernel, by decide +kernel, by decide +kernel⟩
theorem k_Rd_takeClosing : zCall y_Rd_takeClosing c_Rd_takeClosing 1 r_Rd_takeClosing 0 := ⟨wz_at 972 (by decide +kernel) rfl, wz_at 3 (by decide +kernel) rfl, by decide +kernel, by decide +kernel, by decide +kernel⟩
theorem k_Rd_dropOpening : zCall y_Rd_dropOpening c_Rd_dropOpening 1 r_Rd_dropOpening 0 := ⟨wz_at 977 (by decide +kernel) rfl, wz_at 3 (by decide +kernel) rfl, by decide +kernel, by decide +kernel, by decide +kernel⟩
theorem k_Tr_init : zCall y_Tr_init c_Tr_init 5 r_Tr_init 4 := ⟨wz_at 983 (by decide +kernel) rfl, wz_at 24 (by decide +kernel) rfl, by decide +kernel, by decide +kernel, by decide +kernel⟩
theorem k_Rd_wrongWord : zCall y_Rd_wrongWord c_Rd_wrongWord 1 r_Rd_wrongWord 0 := ⟨wz_at 1001 (by decide +kernel) rfl, wz_at 3 (by decide +kernel) rfl, by decide +kernel, by decide +kernel, by decide +kernel⟩
theorem k_K_off : zCall y_K_off c_K_off 4 r_K_off 2 := ⟨wz_at 1008 (by decide +kernel) rfl, wz_at 1 (by decide +kernel) rfl, by decide +kernel, by decide +kernel, by decide +kernel⟩
theorem k_K_isRule : zCall y_K_isRule c_K_isRule 2 r_K_isRule 1 := ⟨wz_at 1012 (by decide +kernel) rfl, wz_at 1 (by decide +kernel) rfl, by decide +kernel, by decide +kernel, by decide +kernel⟩
theorem k_K_remark : zCall y_K_remark c_K_remark 3 r_K_remark 2 := ⟨wz_at 1020 (by decide +kernel) rfl, wz_at 1 (by decide +kernel) rfl, by decide +kernel, by decide +kernel, by decide +kernel⟩
theorem k_K_aboutKey : zCall y_K_aboutKey c_K_aboutKey 3 r_K_aboutKey 2 := ⟨wz_at 1024 (by decide +kernel) rfl, wz_at 1 (by decide +kernel) rfl, by decide +kernel, by decide +kernel, by decide +kernel⟩
theorem k_K_closed : zCall y_K_closed c_K_closed 3 r_K_closed 2 := ⟨wz_at 1031 (by decide +kernel) rfl, wz_at 1 (by decide +kernel) rfl, by decide +kernel, by decide +kernel, by decide +kernel⟩
theorem k_K_waive : zCall y_K_waive c_K_waive 6 r_K_waive 4 := ⟨wz_at 1039 (by decide +kernel) rfl, wz_at 1 (by decide +kernel) rfl, by decide +kernel, by decide +kernel, by decide +kernel⟩
theorem k_Sc_thingOf : zCall y_Sc_thingOf c_Sc_thingOf 3 r_Sc_thingOf 2 := ⟨wz_at 1043 (by decide +kernel) rfl, wz_at 2 (by decide +kernel) rfl, by decide +kernel, by decide +kernel, by decide +kernel⟩
theorem k_Wv_setReason : zCall y_Wv_setReason c_Wv_setReason 4 r_Wv_setReason 2 := ⟨wz_at 1050 (by decide +kernel) rfl, wz_at 5 (by decide +kernel) rfl, by decide +kernel, by decide +kernel, by decide +kernel⟩
theorem k_Wv_append : zCall y_Wv_append c_Wv_append 3 r_Wv_append 2 := ⟨wz_at 1055 (by decide +kernel) rfl, wz_at 5 (by decide +kernel) rfl, by decide +kernel, by decide +kernel, by decide +kernel⟩
theorem k_Wv_remove : zCall y_Wv_remove c_Wv_remove 3 r_Wv_remove 1 := ⟨wz_at 1059 (by decide +kernel) rfl, wz_at 5 (by decide +kernel) rfl, by decide +kernel, by decide +kernel, by decide +kernel⟩
theorem k_Mo_init : zCall y_Mo_init c_Mo_init 1 r_Mo_init 0 := ⟨wz_at 1064 (by decide +kernel) rfl, wz_at 7 (by decide +kernel) rfl, by decide +kernel, by decide +kernel, by decide +kernel⟩
theorem k_Mo_thrown : zCall y_Mo_thrown c_Mo_thrown 1 r_Mo_thrown 0 := ⟨wz_at 1196 (by decide +kernel) rfl, wz_at 7 (by decide +kernel) rfl, by decide +kernel, by decide +kernel, by decide +kernel⟩
theorem k_Mo_table : zCall y_Mo_table c_Mo_table 5 r_Mo_table 3 := ⟨wz_at 1200 (by decide +kernel) rfl, wz_at 7 (by decide +kernel) rfl, by decide +kernel, by decide +kernel, by decide +kernel⟩
theorem k_Mo_isKind : zCall y_Mo_isKind c_Mo_isKind 1 r_Mo_isKind 1 := ⟨wz_at 1203 (by decide +kernel) rfl, wz_at 7 (by decide +kernel) rfl, by decide +kernel, by decide +kernel, by decide +kernel⟩
theorem k_Mo_part : zCall y_Mo_part c_Mo_part 3 r_Mo_part 1 := ⟨wz_at 1207 (by decide +kernel) rfl, wz_at 7 (by decide +kernel) rfl, by decide +kernel, by decide +kernel, by decide +kernel⟩
theorem k_Mo_isSheet : zCall y_Mo_isSheet c_Mo_isSheet 1 r_Mo_isSheet 1 := ⟨wz_at 1210 (by decide +kernel) rfl, wz_at 7 (by decide +kernel) rfl, by decide +kernel, by decide +kernel, by decide +kernel⟩
theorem k_Mo_net : zCall y_Mo_net c_Mo_net 3 r_Mo_net 2 := ⟨wz_at 1214 (by decide +kernel) rfl, wz_at 7 (by decide +kernel) rfl, by decide +kernel, by decide +kernel, by decide +kernel⟩
theorem k_Mo_pin : zCall y_Mo_pin c_Mo_pin 5 r_Mo_pin 3 := ⟨wz_at 1218 (by decide +kernel) rfl, wz_at 7 (by decide +kernel) rfl, by decide +kernel, by decide +kernel, by decide +kernel⟩
theorem k_Mo_isPart : zCall y_Mo_isPart c_Mo_isPart 2 r_Mo_isPart 1 := ⟨wz_at 1222 (by decide +kernel) rfl, wz_at 7 (by decide +kernel) rfl, by decide +kernel, by decide +kernel, by decide +kernel⟩
theorem k_Mo_isNet : zCall y_Mo_isNet c_Mo_isNet 2 r_Mo_isNet 1 := ⟨wz_at 1226 (by decide +kernel) rfl, wz_at 7 (by decide +kernel) rfl, by decide +kernel, by decide +kernel, by decide +kernel⟩
theorem k_Mo_join : zCall y_Mo_join c_Mo_join 3 r_Mo_join 2 := ⟨wz_at 1230 (by decide +kernel) rfl, wz_at 7 (by decide +kernel) rfl, by decide +kernel, by decide +kernel, by decide +kernel⟩
theorem k_Mo_field : zCall y_Mo_field c_Mo_field 5 r_Mo_field 3 := ⟨wz_at 1234 (by decide +kernel) rfl, wz_at 7 (by decide +kernel) rfl, by decide +kernel, by decide +kernel, by decide +kernel⟩
theorem k_Mo_end : zCall y_Mo_end c_Mo_end 6 r_Mo_end 3 := ⟨wz_at 1238 (by decide +kernel) rfl, wz_at 7 (by decide +kernel) rfl, by decide +kernel, by decide +kernel, by decide +kernel⟩
theorem k_Mo_unit : zCall y_Mo_unit c_Mo_unit 2 r_Mo_unit 1 := ⟨wz_at 1242 (by decide +kernel) rfl, wz_at 7 (by decide +kernel) rfl, by decide +kernel, by decide +kernel, by decide +kernel⟩
theorem k_Mo_rule : zCall y_Mo_rule c_Mo_rule 2 r_Mo_rule 0 := ⟨wz_at 1246 (by decide +kernel) rfl, wz_at 7 (by decide +kernel) rfl, by decide +kernel, by decide +kernel, by decide +kernel⟩
theorem k_Mo_reads : zCall y_Mo_reads c_Mo_reads 5 r_Mo_reads 1 := ⟨wz_at 1250 (by decide +kernel) rfl, wz_at 7 (by decide +kernel) rfl, by decide +kernel, by decide +kernel, by decide +kernel⟩
theorem k_Mo_nextWord : zCall y_Mo_nextWord c_Mo_nextWord 1 r_Mo_nextWord 0 := ⟨wz_at 1254 (by decide +kernel) rfl, wz_at 7 (by decide +kernel) rfl, by decide +kernel, by decide +kernel, by decide +kernel⟩
theorem k_Mo_spelt : zCall y_Mo_spelt c_Mo_spelt 4 r_Mo_spelt 0 := ⟨wz_at 1258 (by decide +kernel) rfl, wz_at 7 (by decide +kernel) rfl, by decide +kernel, by decide +kernel, by decide +kernel⟩
theorem k_Mo_word : zCall y_Mo_word c_Mo_word 7 r_Mo_word 5 := ⟨wz_at 1261 (by decide +kernel) rfl, wz_at 7 (by decide +kernel) rfl, by decide +kernel, by decide +kernel, by decide +kernel⟩
theorem k_Mo_takes : zCall y_Mo_takes c_Mo_takes 2 r_Mo_takes 1 := ⟨wz_at 1265 (by decide +kernel) rfl, wz_at 7 (by decide +kernel) rfl, by decide +kernel, by decide +kernel, by decide +kernel⟩
theorem k_Mo_takesSign : zCall y_Mo_takesSign c_Mo_takesSign 3 r_Mo_takesSign 0 := ⟨wz_at 1269 (by decide +kernel) rfl, wz_at 7 (by decide +kernel) rfl, by decide +kernel, by decide +kernel, by decide +kernel⟩
theorem k_Mo_signAt : zCall y_Mo_signAt c_Mo_signAt 3 r_Mo_signAt 0 := ⟨wz_at 1273 (by decide +kernel) rfl, wz_at 7 (by decide +kernel) rfl, by decide +kernel, by decide +kernel, by decide +kernel⟩
theorem k_Mo_rank : zCall y_Mo_rank c_Mo_rank 1 r_Mo_rank 1 := ⟨wz_at 1283 (by decide +kernel) rfl, wz_at 7 (by decide +kernel) rfl, by decide +kernel, by decide +kernel, by decide +kernel⟩
theorem k_Mo_release : zCall y_Mo_release c_Mo_release 2 r_Mo_release 1 := ⟨wz_at 1287 (by decide +kernel) rfl, wz_at 7 (by decide +kernel) rfl, by decide +kernel, by decide +kernel, by decide +kernel⟩
theorem k_Mo_put : zCall y_Mo_put c_Mo_put 4 r_Mo_put 2 := ⟨wz_at 1291 (by decide +kernel) rfl, wz_at 7 (by decide +kernel) rfl, by decide +kernel, by decide +kernel, by decide +kernel⟩
theorem k_Mo_wait : zCall y_Mo_wait c_Mo_wait 2 r_Mo_wait 1 := ⟨wz_at 1295 (by decide +kernel) rfl, wz_at 7 (by decide +kernel) rfl, by decide +kernel, by decide +kernel, by decide +kernel⟩
theorem k_Mo_isTerm : zCall y_Mo_isTerm c_Mo_isTerm 4 r_Mo_isTerm 1 := ⟨wz_at 1301 (by decide +kernel) rfl, wz_at 7 (by decide +kernel) rfl, by decide +kernel, by decide +kernel, by decide +kernel⟩
theorem k_Mo_isNumber : zCall y_Mo_isNumber c_Mo_isNumber 3 r_Mo_isNumber 0 := ⟨wz_at 1305 (by decide +kernel) rfl, wz_at 7 (by decide +kernel) rfl, by decide +kernel, by decide +kernel, by decide +kernel⟩
theorem k_Mo_value : zCall y_Mo_value c_Mo_value 3 r_Mo_value 0 := ⟨wz_at 1309 (by decide +kernel) rfl, wz_at 7 (by decide +kernel) rfl, by decide +kernel, by decide +kernel, by decide +kernel⟩
theorem k_Mo_isDigitNext : zCall y_Mo_isDigitNext c_Mo_isDigitNext 1 r_Mo_isDigitNext 0 := ⟨wz_at 1313 (by decide +kernel) rfl, wz_at 7 (by decide +kernel) rfl, by decide +kernel, by decide +kernel, by decide +kernel⟩
theorem k_Mo_run : zCall y_Mo_run c_Mo_run 7 r_Mo_run 0 := ⟨wz_at 1317 (by decide +kernel) rfl, wz_at 7 (by decide +kernel) rfl, by decide +kernel, by decide +kernel, by decide +kernel⟩
theorem k_Mo_many : zCall y_Mo_many c_Mo_many 2 r_Mo_many 1 := ⟨wz_at 1321 (by decide +kernel) rfl, wz_at 7 (by decide +kernel) rfl, by decide +kernel, by decide +kernel, by decide +kernel⟩
theorem k_Mo_thing : zCall y_Mo_thing c_Mo_thing 2 r_Mo_thing 2 := ⟨wz_at 1324 (by decide +kernel) rfl, wz_at 7 (by decide +kernel) rfl, by decide +kernel, by decide +kernel, by decide +kernel⟩
theorem k_Mo_found : zCall y_Mo_found c_Mo_found 4 r_Mo_found 3 := ⟨wz_at 1328 (by decide +kernel) rfl, wz_at 7 (by decide +kernel) rfl, by decide +kernel, by decide +kernel, by decide +kernel⟩
theorem k_Mo_holds : zCall y_Mo_holds c_Mo_holds 5 r_Mo_holds 2 := ⟨wz_at 1332 (by decide +kernel) rfl, wz_at 7 (by decide +kernel) rfl, by decide +kernel, by decide +kernel, by decide +kernel⟩
theorem k_Mo_term : zCall y_Mo_term c_Mo_term 5 r_Mo_term 4 := ⟨wz_at 1336 (by decide +kernel) rfl, wz_at 7 (by decide +kernel) rfl, by decide +kernel, by decide +kernel, by decide +kernel⟩
theorem k_Mo_partOf : zCall y_Mo_partOf c_Mo_partOf 3 r_Mo_partOf 2 := ⟨wz_at 1340 (by decide +kernel) rfl, wz_at 7 (by decide +kernel) rfl, by decide +kernel, by decide +kernel, by decide +kernel⟩
theorem k_Mo_pinsOf : zCall y_Mo_pinsOf c_Mo_pinsOf 7 r_Mo_pinsOf 3 := ⟨wz_at 1344 (by decide +kernel) rfl, wz_at 7 (by decide +kernel) rfl, by decide +kernel, by decide +kernel, by decide +kernel⟩
theorem k_Mo_sheetOf : zCall y_Mo_sheetOf c_Mo_sheetOf 3 r_Mo_sheetOf 2 := ⟨wz_at 1349 (by decide +kernel) rfl, wz_at 7 (by decide +kernel) rfl, by decide +kernel, by decide +kernel, by decide +kernel⟩
theorem k_Mo_result : zCall y_Mo_result c_Mo_result 6 r_Mo_result 3 := ⟨wz_at 1352 (by decide +kernel) rfl, wz_at 7 (by decide +kernel) rfl, by decide +kernel, by decide +kernel, by decide +kernel⟩
theorem k_Mo_worst : zCall y_Mo_worst c_Mo_worst 5 r_Mo_worst 1 := ⟨wz_at 1356 (by decide +kernel) rfl, wz_at 7 (by decide +kernel) rfl, by decide +kernel, by decide +kernel, by decide +kernel⟩
theorem k_Mo_isNamedBefore : zCall y_Mo_isNamedBefore c_Mo_isNamedBefore 4 r_Mo_isNamedBefore 1 := ⟨wz_at 1360 (by decide +kernel) rfl, wz_at 7 (by decide +kernel) rfl, by decide +kernel, by decide +kernel, by decide +kernel⟩
theorem k_Mo_isOffGrid : zCall y_Mo_isOffGrid c_Mo_isOffGrid 4 r_Mo_isOffGrid 1 := ⟨wz_at 1364 (by decide +kernel) rfl, wz_at 7 (by decide +kernel) rfl, by decide +kernel, by decide +kernel, by decide +kernel⟩
theorem k_Mo_reason : zCall y_Mo_reason c_Mo_reason 4 r_Mo_reason 1 := ⟨wz_at 1369 (by decide +kernel) rfl, wz_at 7 (by decide +kernel) rfl, by decide +kernel, by decide +kernel, by decide +kernel⟩
theorem k_Mo_remark : zCall y_Mo_remark c_Mo_remark 4 r_Mo_remark 2 := ⟨wz_at 1373 (by decide +kernel) rfl, wz_at 7 (by decide +kernel) rfl, by decide +kernel, by decide +kernel, by decide +kernel⟩
theorem k_Mo_remarkAt : zCall y_Mo_remarkAt c_Mo_remarkAt 10 r_Mo_remarkAt 2 := ⟨wz_at 1377 (by decide +kernel) rfl, wz_at 7 (by decide +kernel) rfl, by decide +kernel, by decide +kernel, by decide +kernel⟩
theorem k_Mo_kindOf : zCall y_Mo_kindOf c_Mo_kindOf 2 r_Mo_kindOf 1 := ⟨wz_at 1380 (by decide +kernel) rfl, wz_at 7 (by decide +kernel) rfl, by decide +kernel, by decide +kernel, by decide +kernel⟩
theorem k_Mo_numberOf : zCall y_Mo_numberOf c_Mo_numberOf 2 r_Mo_numberOf 1 := ⟨wz_at 1383 (by decide +kernel) rfl, wz_at 7 (by decide +kernel) rfl, by decide +kernel, by decide +kernel, by decide +kernel⟩
theorem k_Mo_closed : zCall y_Mo_closed c_Mo_closed 4 r_Mo_closed 2 := ⟨wz_at 1387 (by decide +kernel) rfl, wz_at 7 (by decide +kernel) rfl, by decide +kernel, by decide +kernel, by decide +kernel⟩
theorem k_Mo_off : zCall y_Mo_off c_Mo_off 3 r_Mo_off 2 := ⟨wz_at 1391 (by decide +kernel) rfl, wz_at 7 (by decide +kernel) rfl, by decide +kernel, by decide +kernel, by decide +kernel⟩
theorem k_Mo_isRule : zCall y_Mo_isRule c_Mo_isRule 2 r_Mo_isRule 1 := ⟨wz_at 1395 (by decide +kernel) rfl, wz_at 7 (by decide +kernel) rfl, by decide +kernel, by decide +kernel, by decide +kernel⟩
theorem k_Mo_waive : zCall y_Mo_waive c_Mo_waive 8 r_Mo_waive 4 := ⟨wz_at 1399 (by decide +kernel) rfl, wz_at 7 (by decide +kernel) rfl, by decide +kernel, by decide +kernel, by decide +kernel⟩
theorem k_Mo_next : zCall y_Mo_next c_Mo_next 1 r_Mo_next 0 := ⟨wz_at 1403 (by decide +kernel) rfl, wz_at 7 (by decide +kernel) rfl, by decide +kernel, by decide +kernel, by decide +kernel⟩
theorem k_Mo_offRule : zCall y_Mo_offRule c_Mo_offRule 4 r_Mo_offRule 1 := ⟨wz_at 1407 (by decide +kernel) rfl, wz_at 7 (by decide +kernel) rfl, by decide +kernel, by decide +kernel, by decide +kernel⟩
theorem k_Mo_clear : zCall y_Mo_clear c_Mo_clear 2 r_Mo_clear 0 := ⟨wz_at 1411 (by decide +kernel) rfl, wz_at 7 (by decide +kernel) rfl, by decide +kernel, by decide +kernel, by decide +kernel⟩
theorem t_La_8 : Cond.classLink "PinKindChecksLaw" 8 "PinKindChecks" ∈ wz := wz_at 27 (by decide +kernel) rfl
theorem l_La_61 : Cond.methodLink "PinKindChecksLaw" 61 y_K_init ∈ wz := wz_at 29 (by decide +kernel) rfl
theorem i_K_init : Cond.instanceMethod y_K_init ∈ wz := wz_at 30 (by decide +kernel) rfl
theorem l_K_3 : Cond.methodLink "PinKindChecks" 3 ⟨"java/lang/Object", "<init>", "()V"⟩ ∈ wz := wz_at 32 (by decide +kernel) rfl
theorem t_K_9 : Cond.classLink "PinKindChecks" 9 "PinKindChecks$Schematic" ∈ wz := wz_at 35 (by decide +kernel) rfl
theorem l_K_11 : Cond.methodLinkNest "PinKindChecks" 11 y_Sc_init "PinKindChecks" ∈ wn := wn_at 37 (by decide +kernel) rfl
theorem i_Sc_init : Cond.instanceMethod y_Sc_init ∈ wz := wz_at 38 (by decide +kernel) rfl
theorem l_Sc_3 : Cond.methodLink "PinKindChecks$Schematic" 3 ⟨"java/lang/Object", "<init>", "()V"⟩ ∈ wz := wz_at 40 (by decide +kernel) rfl
theorem t_Sc_15 : Cond.classLink "PinKindChecks$Schematic" 15 "PinKindChecks$Part" ∈ wz := wz_at 41 (by decide +kernel) rfl
theorem a_Pa : Cond.arrayOver (.object "PinKindChecks$Part") ∈ wn := wn_at 42 (by decide +kernel) rfl
theorem t_Sc_21 : Cond.classLink "PinKindChecks$Schematic" 21 "PinKindChecks$Net" ∈ wz := wz_at 43 (by decide +kernel) rfl
theorem a_Ne : Cond.arrayOver (.object "PinKindChecks$Net") ∈ wn := wn_at 44 (by decide +kernel) rfl
theorem t_Sc_27 : Cond.classLink "PinKindChecks$Schematic" 27 "PinKindChecks$Pin" ∈ wz := wz_at 45 (by decide +kernel) rfl
theorem a_Pi : Cond.arrayOver (.object "PinKindChecks$Pin") ∈ wn := wn_at 46 (by decide +kernel) rfl
theorem t_Sc_33 : Cond.classLink "PinKindChecks$Schematic" 33 "PinKindChecks$Thing" ∈ wz := wz_at 47 (by decide +kernel) rfl
theorem a_Th : Cond.arrayOver (.object "PinKindChecks$Thing") ∈ wn := wn_at 48 (by decide +kernel) rfl
theorem a_int : Cond.arrayClass .int ∈ wz := wz_at 77 (by decide +kernel) rfl
theorem t_K_16 : Cond.classLink "PinKindChecks" 16 "PinKindChecks$RuleReader" ∈ wz := wz_at 78 (by decide +kernel) rfl
theorem l_K_18 : Cond.methodLinkNest "PinKindChecks" 18 y_Rd_init "PinKindChecks" ∈ wn := wn_at 80 (by decide +kernel) rfl
theorem i_Rd_init : Cond.instanceMethod y_Rd_init ∈ wz := wz_at 81 (by decide +kernel) rfl
theorem l_Rd_3 : Cond.methodLink "PinKindChecks$RuleReader" 3 ⟨"java/lang/Object", "<init>", "()V"⟩ ∈ wz := wz_at 83 (by decide +kernel) rfl
theorem t_Rd_21 : Cond.classLink "PinKindChecks$RuleReader" 21 "PinKindChecks$RuleText" ∈ wz := wz_at 84 (by decide +kernel) rfl
theorem l_Rd_23 : Cond.methodLinkNest "PinKindChecks$RuleReader" 23 y_Tx_init "PinKindChecks" ∈ wn := wn_at 86 (by decide +kernel) rfl
theorem i_Tx_init : Cond.instanceMethod y_Tx_init ∈ wz := wz_at 87 (by decide +kernel) rfl
theorem l_Tx_3 : Cond.methodLink "PinKindChecks$RuleText" 3 ⟨"java/lang/Object", "<init>", "()V"⟩ ∈ wz := wz_at 89 (by decide +kernel) rfl
theorem a_char : Cond.arrayClass .char ∈ wz := wz_at 103 (by decide +kernel) rfl
theorem t_K_23 : Cond.classLink "PinKindChecks" 23 "PinKindChecks$ToldRule" ∈ wz := wz_at 141 (by decide +kernel) rfl
theorem a_Tr : Cond.arrayOver (.object "PinKindChecks$ToldRule") ∈ wn := wn_at 142 (by decide +kernel) rfl
theorem t_K_33 : Cond.classLink "PinKindChecks" 33 "PinKindChecks$Waivers" ∈ wz := wz_at 143 (by decide +kernel) rfl
theorem l_K_35 : Cond.methodLinkNest "PinKindChecks" 35 y_Wv_init "PinKindChecks" ∈ wn := wn_at 145 (by decide +kernel) rfl
theorem i_Wv_init : Cond.instanceMethod y_Wv_init ∈ wz := wz_at 146 (by decide +kernel) rfl
theorem l_Wv_3 : Cond.methodLink "PinKindChecks$Waivers" 3 ⟨"java/lang/Object", "<init>", "()V"⟩ ∈ wz := wz_at 148 (by decide +kernel) rfl
theorem a_boolean : Cond.arrayClass .boolean ∈ wz := wz_at 159 (by decide +kernel) rfl
theorem t_K_40 : Cond.classLink "PinKindChecks" 40 "PinKindChecks$Remarks" ∈ wz := wz_at 160 (by decide +kernel) rfl
theorem l_K_42 : Cond.methodLinkNest "PinKindChecks" 42 y_Rm_init "PinKindChecks" ∈ wn := wn_at 162 (by decide +kernel) rfl
theorem i_Rm_init : Cond.instanceMethod y_Rm_init ∈ wz := wz_at 163 (by decide +kernel) rfl
theorem l_Rm_3 : Cond.methodLink "PinKindChecks$Remarks" 3 ⟨"java/lang/Object", "<init>", "()V"⟩ ∈ wz := wz_at 165 (by decide +kernel) rfl
theorem a_long : Cond.arrayClass .long ∈ wz := wz_at 213 (by decide +kernel) rfl
theorem l_La_98 : Cond.methodLink "PinKindChecksLaw" 98 y_K_unit ∈ wz := wz_at 214 (by decide +kernel) rfl
theorem i_K_unit : Cond.instanceMethod y_K_unit ∈ wz := wz_at 215 (by decide +kernel) rfl
theorem q_K_K_unit_K : Cond.selects "PinKindChecks" y_K_unit y_K_unit ∈ wz := wz_at 216 (by decide +kernel) rfl
theorem l_K_142 : Cond.methodLink "PinKindChecks" 142 y_Rd_addLetter ∈ wz := wz_at 218 (by decide +kernel) rfl
theorem i_Rd_addLetter : Cond.instanceMethod y_Rd_addLetter ∈ wz := wz_at 219 (by decide +kernel) rfl
theorem q_Rd_Rd_addLetter_Rd : Cond.selects "PinKindChecks$RuleReader" y_Rd_addLetter y_Rd_addLetter ∈ wz := wz_at 220 (by decide +kernel) rfl
theorem l_Rd_54 : Cond.methodLink "PinKindChecks$RuleReader" 54 y_Tx_addLetter ∈ wz := wz_at 222 (by decide +kernel) rfl
theorem i_Tx_addLetter : Cond.instanceMethod y_Tx_addLetter ∈ wz := wz_at 223 (by decide +kernel) rfl
theorem q_Tx_Tx_addLetter_Tx : Cond.selects "PinKindChecks$RuleText" y_Tx_addLetter y_Tx_addLetter ∈ wz := wz_at 224 (by decide +kernel) rfl
theorem l_La_111 : Cond.methodLink "PinKindChecksLaw" 111 y_K_run ∈ wz := wz_at 226 (by decide +kernel) rfl
theorem i_K_run : Cond.instanceMethod y_K_run ∈ wz := wz_at 227 (by decide +kernel) rfl
theorem q_K_K_run_K : Cond.selects "PinKindChecks" y_K_run y_K_run ∈ wz := wz_at 228 (by decide +kernel) rfl
theorem l_K_169 : Cond.methodLink "PinKindChecks" 169 y_Rm_wipe ∈ wz := wz_at 230 (by decide +kernel) rfl
theorem i_Rm_wipe : Cond.instanceMethod y_Rm_wipe ∈ wz := wz_at 231 (by decide +kernel) rfl
theorem q_Rm_Rm_wipe_Rm : Cond.selects "PinKindChecks$Remarks" y_Rm_wipe y_Rm_wipe ∈ wz := wz_at 232 (by decide +kernel) rfl
theorem l_K_170 : Cond.methodLink "PinKindChecks" 170 y_Sc_thingCount ∈ wz := wz_at 234 (by decide +kernel) rfl
theorem i_Sc_thingCount : Cond.instanceMethod y_Sc_thingCount ∈ wz := wz_at 235 (by decide +kernel) rfl
theorem q_Sc_Sc_thingCount_Sc : Cond.selects "PinKindChecks$Schematic" y_Sc_thingCount y_Sc_thingCount ∈ wz := wz_at 236 (by decide +kernel) rfl
theorem l_K_173 : Cond.methodLink "PinKindChecks" 173 y_Sc_thingInOrder ∈ wz := wz_at 238 (by decide +kernel) rfl
theorem i_Sc_thingInOrder : Cond.instanceMethod y_Sc_thingInOrder ∈ wz := wz_at 239 (by decide +kernel) rfl
theorem q_Sc_Sc_thingInOrder_Sc : Cond.selects "PinKindChecks$Schematic" y_Sc_thingInOrder y_Sc_thingInOrder ∈ wz := wz_at 240 (by decide +kernel) rfl
theorem l_Sc_108 : Cond.methodLink "PinKindChecks$Schematic" 108 y_Sc_thingCount ∈ wz := wz_at 242 (by decide +kernel) rfl
theorem l_Sc_58 : Cond.methodLinkNest "PinKindChecks$Schematic" 58 y_K_isBelow "PinKindChecks" ∈ wn := wn_at 243 (by decide +kernel) rfl
theorem s_K_isBelow : Cond.static y_K_isBelow ∈ wz := wz_at 244 (by decide +kernel) rfl
theorem l_K_177 : Cond.methodLink "PinKindChecks" 177 y_K_checkThing ∈ wz := wz_at 246 (by decide +kernel) rfl
theorem i_K_checkThing : Cond.instanceMethod y_K_checkThing ∈ wz := wz_at 248 (by decide +kernel) rfl
theorem l_K_161 : Cond.methodLink "PinKindChecks" 161 y_K_ruleCount ∈ wz := wz_at 250 (by decide +kernel) rfl
theorem i_K_ruleCount : Cond.instanceMethod y_K_ruleCount ∈ wz := wz_at 252 (by decide +kernel) rfl
theorem l_K_227 : Cond.methodLink "PinKindChecks" 227 y_K_weightOf ∈ wz := wz_at 254 (by decide +kernel) rfl
theorem i_K_weightOf : Cond.instanceMethod y_K_weightOf ∈ wz := wz_at 256 (by decide +kernel) rfl
theorem l_K_234 : Cond.methodLink "PinKindChecks" 234 ⟨"PinKindChecks$Thing", "builtInWeight", "(ILPinKindChecks$Schematic;)I"⟩ ∈ wz := wz_at 258 (by decide +kernel) rfl
theorem z_Th_builtInWeight : zDecl ⟨"PinKindChecks$Thing", "builtInWeight", "(ILPinKindChecks$Schematic;)I"⟩ := Or.inl (wn_at 259 (by decide +kernel) rfl)
theorem e_Th_Th_builtInWeight : Cond.sameMethod "PinKindChecks$Thing" "PinKindChecks$Thing" "builtInWeight" "(ILPinKindChecks$Schematic;)I" ∈ wz := wz_at 260 (by decide +kernel) rfl
theorem q_Ne_Th_builtInWeight_Ne : Cond.selects "PinKindChecks$Net" ⟨"PinKindChecks$Thing", "builtInWeight", "(ILPinKindChecks$Schematic;)I"⟩ y_Ne_builtInWeight ∈ wz := wz_at 261 (by decide +kernel) rfl
theorem i_Ne_builtInWeight : Cond.instanceMethod y_Ne_builtInWeight ∈ wz := wz_at 262 (by decide +kernel) rfl
theorem l_Ne_21 : Cond.methodLink "PinKindChecks$Net" 21 ⟨"PinKindChecks$Net", "pinsOfKind", "(I)I"⟩ ∈ wz := wz_at 264 (by decide +kernel) rfl
theorem e_Ne_Ph_pinsOfKind : Cond.sameMethod "PinKindChecks$Net" "PinKindChecks$PinHolder" "pinsOfKind" "(I)I" ∈ wz := wz_at 265 (by decide +kernel) rfl
theorem z_Ph_pinsOfKind : zDecl ⟨"PinKindChecks$PinHolder", "pinsOfKind", "(I)I"⟩ := Or.inl (wn_at 266 (by decide +kernel) rfl)
theorem q_Ne_Ne_pinsOfKind_Ph : Cond.selects "PinKindChecks$Net" ⟨"PinKindChecks$Net", "pinsOfKind", "(I)I"⟩ y_Ph_pinsOfKind ∈ wz := wz_at 267 (by decide +kernel) rfl
theorem i_Ph_pinsOfKind : Cond.instanceMethod y_Ph_pinsOfKind ∈ wz := wz_at 268 (by decide +kernel) rfl
theorem l_Ph_19 : Cond.methodLinkNest "PinKindChecks$PinHolder" 19 y_K_isBelow "PinKindChecks" ∈ wn := wn_at 270 (by decide +kernel) rfl
theorem l_Ne_25 : Cond.methodLink "PinKindChecks$Net" 25 ⟨"PinKindChecks$Net", "pinCount", "()I"⟩ ∈ wz := wz_at 271 (by decide +kernel) rfl
theorem e_Ne_Ph_pinCount : Cond.sameMethod "PinKindChecks$Net" "PinKindChecks$PinHolder" "pinCount" "()I" ∈ wz := wz_at 272 (by decide +kernel) rfl
theorem z_Ph_pinCount : zDecl ⟨"PinKindChecks$PinHolder", "pinCount", "()I"⟩ := Or.inl (wn_at 273 (by decide +kernel) rfl)
theorem q_Ne_Ne_pinCount_Ph : Cond.selects "PinKindChecks$Net" ⟨"PinKindChecks$Net", "pinCount", "()I"⟩ y_Ph_pinCount ∈ wz := wz_at 274 (by decide +kernel) rfl
theorem i_Ph_pinCount : Cond.instanceMethod y_Ph_pinCount ∈ wz := wz_at 275 (by decide +kernel) rfl
theorem l_Ne_29 : Cond.methodLink "PinKindChecks$Net" 29 y_Sc_hasLowerNamesake ∈ wz := wz_at 277 (by decide +kernel) rfl
theorem i_Sc_hasLowerNamesake : Cond.instanceMethod y_Sc_hasLowerNamesake ∈ wz := wz_at 278 (by decide +kernel) rfl
theorem q_Sc_Sc_hasLowerNamesake_Sc : Cond.selects "PinKindChecks$Schematic" y_Sc_hasLowerNamesake y_Sc_hasLowerNamesake ∈ wz := wz_at 279 (by decide +kernel) rfl
theorem l_Sc_80 : Cond.methodLink "PinKindChecks$Schematic" 80 ⟨"PinKindChecks$Net", "number", "()I"⟩ ∈ wz := wz_at 281 (by decide +kernel) rfl
theorem e_Ne_Th_number : Cond.sameMethod "PinKindChecks$Net" "PinKindChecks$Thing" "number" "()I" ∈ wz := wz_at 282 (by decide +kernel) rfl
theorem z_Th_number : zDecl ⟨"PinKindChecks$Thing", "number", "()I"⟩ := Or.inl (wn_at 283 (by decide +kernel) rfl)
theorem q_Ne_Ne_number_Th : Cond.selects "PinKindChecks$Net" ⟨"PinKindChecks$Net", "number", "()I"⟩ y_Th_number ∈ wz := wz_at 284 (by decide +kernel) rfl
theorem i_Th_number : Cond.instanceMethod y_Th_number ∈ wz := wz_at 285 (by decide +kernel) rfl
theorem l_Sc_100 : Cond.methodLink "PinKindChecks$Schematic" 100 y_Sc_netAt ∈ wz := wz_at 287 (by decide +kernel) rfl
theorem i_Sc_netAt : Cond.instanceMethod y_Sc_netAt ∈ wz := wz_at 288 (by decide +kernel) rfl
theorem q_Sc_Sc_netAt_Sc : Cond.selects "PinKindChecks$Schematic" y_Sc_netAt y_Sc_netAt ∈ wz := wz_at 289 (by decide +kernel) rfl
theorem l_Sc_115 : Cond.methodLink "PinKindChecks$Schematic" 115 y_Ne_name ∈ wz := wz_at 291 (by decide +kernel) rfl
theorem i_Ne_name : Cond.instanceMethod y_Ne_name ∈ wz := wz_at 292 (by decide +kernel) rfl
theorem q_Ne_Ne_name_Ne : Cond.selects "PinKindChecks$Net" y_Ne_name y_Ne_name ∈ wz := wz_at 293 (by decide +kernel) rfl
theorem q_Pa_Th_builtInWeight_Pa : Cond.selects "PinKindChecks$Part" ⟨"PinKindChecks$Thing", "builtInWeight", "(ILPinKindChecks$Schematic;)I"⟩ y_Pa_builtInWeight ∈ wz := wz_at 295 (by decide +kernel) rfl
theorem i_Pa_builtInWeight : Cond.instanceMethod y_Pa_builtInWeight ∈ wz := wz_at 296 (by decide +kernel) rfl
theorem q_Pi_Th_builtInWeight_Pi : Cond.selects "PinKindChecks$Pin" ⟨"PinKindChecks$Thing", "builtInWeight", "(ILPinKindChecks$Schematic;)I"⟩ y_Pi_builtInWeight ∈ wz := wz_at 298 (by decide +kernel) rfl
theorem i_Pi_builtInWeight : Cond.instanceMethod y_Pi_builtInWeight ∈ wz := wz_at 299 (by decide +kernel) rfl
theorem l_Pi_35 : Cond.methodLink "PinKindChecks$Pin" 35 y_Sc_worstVerdictBelow ∈ wz := wz_at 301 (by decide +kernel) rfl
theorem i_Sc_worstVerdictBelow : Cond.instanceMethod y_Sc_worstVerdictBelow ∈ wz := wz_at 302 (by decide +kernel) rfl
theorem q_Sc_Sc_worstVerdictBelow_Sc : Cond.selects "PinKindChecks$Schematic" y_Sc_worstVerdictBelow y_Sc_worstVerdictBelow ∈ wz := wz_at 303 (by decide +kernel) rfl
theorem l_Sc_118 : Cond.methodLink "PinKindChecks$Schematic" 118 y_Pi_netOrNull ∈ wz := wz_at 305 (by decide +kernel) rfl
theorem i_Pi_netOrNull : Cond.instanceMethod y_Pi_netOrNull ∈ wz := wz_at 306 (by decide +kernel) rfl
theorem q_Pi_Pi_netOrNull_Pi : Cond.selects "PinKindChecks$Pin" y_Pi_netOrNull y_Pi_netOrNull ∈ wz := wz_at 307 (by decide +kernel) rfl
theorem l_Sc_91 : Cond.methodLink "PinKindChecks$Schematic" 91 ⟨"PinKindChecks$Pin", "number", "()I"⟩ ∈ wz := wz_at 309 (by decide +kernel) rfl
theorem e_Pi_Th_number : Cond.sameMethod "PinKindChecks$Pin" "PinKindChecks$Thing" "number" "()I" ∈ wz := wz_at 310 (by decide +kernel) rfl
theorem q_Pi_Pi_number_Th : Cond.selects "PinKindChecks$Pin" ⟨"PinKindChecks$Pin", "number", "()I"⟩ y_Th_number ∈ wz := wz_at 311 (by decide +kernel) rfl
theorem l_Sc_104 : Cond.methodLink "PinKindChecks$Schematic" 104 y_Sc_pinAt ∈ wz := wz_at 312 (by decide +kernel) rfl
theorem i_Sc_pinAt : Cond.instanceMethod y_Sc_pinAt ∈ wz := wz_at 313 (by decide +kernel) rfl
theorem q_Sc_Sc_pinAt_Sc : Cond.selects "PinKindChecks$Schematic" y_Sc_pinAt y_Sc_pinAt ∈ wz := wz_at 314 (by decide +kernel) rfl
theorem l_Sc_122 : Cond.methodLink "PinKindChecks$Schematic" 122 y_Pi_kind ∈ wz := wz_at 316 (by decide +kernel) rfl
theorem i_Pi_kind : Cond.instanceMethod y_Pi_kind ∈ wz := wz_at 317 (by decide +kernel) rfl
theorem q_Pi_Pi_kind_Pi : Cond.selects "PinKindChecks$Pin" y_Pi_kind y_Pi_kind ∈ wz := wz_at 318 (by decide +kernel) rfl
theorem l_Sc_62 : Cond.methodLink "PinKindChecks$Schematic" 62 y_Sc_verdictOf ∈ wz := wz_at 320 (by decide +kernel) rfl
theorem i_Sc_verdictOf : Cond.instanceMethod y_Sc_verdictOf ∈ wz := wz_at 322 (by decide +kernel) rfl
theorem l_Sc_125 : Cond.methodLink "PinKindChecks$Schematic" 125 y_jM_max ∈ wz := wz_at 324 (by decide +kernel) rfl
theorem s_jM_max : Cond.static y_jM_max ∈ wz := wz_at 325 (by decide +kernel) rfl
theorem l_K_64 : Cond.methodLink "PinKindChecks" 64 y_K_isBelow ∈ wz := wz_at 327 (by decide +kernel) rfl
theorem l_K_238 : Cond.methodLink "PinKindChecks" 238 y_Tr_isAbout ∈ wz := wz_at 328 (by decide +kernel) rfl
theorem i_Tr_isAbout : Cond.instanceMethod y_Tr_isAbout ∈ wz := wz_at 329 (by decide +kernel) rfl
theorem q_Tr_Tr_isAbout_Tr : Cond.selects "PinKindChecks$ToldRule" y_Tr_isAbout y_Tr_isAbout ∈ wz := wz_at 330 (by decide +kernel) rfl
theorem t_Tr_29 : Cond.classLink "PinKindChecks$ToldRule" 29 "PinKindChecks$Part" ∈ wz := wz_at 332 (by decide +kernel) rfl
theorem t_Tr_31 : Cond.classLink "PinKindChecks$ToldRule" 31 "PinKindChecks$Net" ∈ wz := wz_at 333 (by decide +kernel) rfl
theorem t_Tr_33 : Cond.classLink "PinKindChecks$ToldRule" 33 "PinKindChecks$Pin" ∈ wz := wz_at 334 (by decide +kernel) rfl
theorem l_K_242 : Cond.methodLink "PinKindChecks" 242 y_Tr_holdsFor ∈ wz := wz_at 335 (by decide +kernel) rfl
theorem i_Tr_holdsFor : Cond.instanceMethod y_Tr_holdsFor ∈ wz := wz_at 336 (by decide +kernel) rfl
theorem q_Tr_Tr_holdsFor_Tr : Cond.selects "PinKindChecks$ToldRule" y_Tr_holdsFor y_Tr_holdsFor ∈ wz := wz_at 337 (by decide +kernel) rfl
theorem l_Tr_35 : Cond.methodLink "PinKindChecks$ToldRule" 35 ⟨"PinKindChecks$Thing", "valueOf", "(II)J"⟩ ∈ wz := wz_at 339 (by decide +kernel) rfl
theorem z_Th_valueOf : zDecl ⟨"PinKindChecks$Thing", "valueOf", "(II)J"⟩ := Or.inl (wn_at 340 (by decide +kernel) rfl)
theorem e_Th_Th_valueOf : Cond.sameMethod "PinKindChecks$Thing" "PinKindChecks$Thing" "valueOf" "(II)J" ∈ wz := wz_at 341 (by decide +kernel) rfl
theorem q_Ne_Th_valueOf_Ph : Cond.selects "PinKindChecks$Net" ⟨"PinKindChecks$Thing", "valueOf", "(II)J"⟩ y_Ph_valueOf ∈ wz := wz_at 342 (by decide +kernel) rfl
theorem i_Ph_valueOf : Cond.instanceMethod y_Ph_valueOf ∈ wz := wz_at 343 (by decide +kernel) rfl
theorem l_Ph_23 : Cond.methodLink "PinKindChecks$PinHolder" 23 y_Ph_pinsOfKind ∈ wz := wz_at 345 (by decide +kernel) rfl
theorem l_Ph_26 : Cond.methodLink "PinKindChecks$PinHolder" 26 ⟨"PinKindChecks$PinHolder", "sheet", "()I"⟩ ∈ wz := wz_at 346 (by decide +kernel) rfl
theorem e_Ph_Th_sheet : Cond.sameMethod "PinKindChecks$PinHolder" "PinKindChecks$Thing" "sheet" "()I" ∈ wz := wz_at 347 (by decide +kernel) rfl
theorem z_Th_sheet : zDecl ⟨"PinKindChecks$Thing", "sheet", "()I"⟩ := Or.inl (wn_at 348 (by decide +kernel) rfl)
theorem q_Ne_Ph_sheet_Th : Cond.selects "PinKindChecks$Net" ⟨"PinKindChecks$PinHolder", "sheet", "()I"⟩ y_Th_sheet ∈ wz := wz_at 349 (by decide +kernel) rfl
theorem q_Pa_Ph_sheet_Th : Cond.selects "PinKindChecks$Part" ⟨"PinKindChecks$PinHolder", "sheet", "()I"⟩ y_Th_sheet ∈ wz := wz_at 350 (by decide +kernel) rfl
theorem i_Th_sheet : Cond.instanceMethod y_Th_sheet ∈ wz := wz_at 351 (by decide +kernel) rfl
theorem l_Ph_30 : Cond.methodLink "PinKindChecks$PinHolder" 30 ⟨"PinKindChecks$PinHolder", "ownValueOf", "(II)J"⟩ ∈ wz := wz_at 353 (by decide +kernel) rfl
theorem z_Ph_ownValueOf : zDecl ⟨"PinKindChecks$PinHolder", "ownValueOf", "(II)J"⟩ := Or.inl (wn_at 354 (by decide +kernel) rfl)
theorem e_Ph_Ph_ownValueOf : Cond.sameMethod "PinKindChecks$PinHolder" "PinKindChecks$PinHolder" "ownValueOf" "(II)J" ∈ wz := wz_at 355 (by decide +kernel) rfl
theorem q_Ne_Ph_ownValueOf_Ne : Cond.selects "PinKindChecks$Net" ⟨"PinKindChecks$PinHolder", "ownValueOf", "(II)J"⟩ y_Ne_ownValueOf ∈ wz := wz_at 356 (by decide +kernel) rfl
theorem i_Ne_ownValueOf : Cond.instanceMethod y_Ne_ownValueOf ∈ wz := wz_at 357 (by decide +kernel) rfl
theorem q_Pa_Ph_ownValueOf_Pa : Cond.selects "PinKindChecks$Part" ⟨"PinKindChecks$PinHolder", "ownValueOf", "(II)J"⟩ y_Pa_ownValueOf ∈ wz := wz_at 359 (by decide +kernel) rfl
theorem i_Pa_ownValueOf : Cond.instanceMethod y_Pa_ownValueOf ∈ wz := wz_at 360 (by decide +kernel) rfl
theorem l_Pa_21 : Cond.methodLink "PinKindChecks$Part" 21 y_Pa_fieldAt ∈ wz := wz_at 362 (by decide +kernel) rfl
theorem i_Pa_fieldAt : Cond.instanceMethod y_Pa_fieldAt ∈ wz := wz_at 363 (by decide +kernel) rfl
theorem q_Pa_Pa_fieldAt_Pa : Cond.selects "PinKindChecks$Part" y_Pa_fieldAt y_Pa_fieldAt ∈ wz := wz_at 364 (by decide +kernel) rfl
theorem l_Pa_15 : Cond.methodLinkNest "PinKindChecks$Part" 15 y_K_isBelow "PinKindChecks" ∈ wn := wn_at 366 (by decide +kernel) rfl
theorem q_Pa_Th_valueOf_Ph : Cond.selects "PinKindChecks$Part" ⟨"PinKindChecks$Thing", "valueOf", "(II)J"⟩ y_Ph_valueOf ∈ wz := wz_at 367 (by decide +kernel) rfl
theorem q_Pi_Th_valueOf_Pi : Cond.selects "PinKindChecks$Pin" ⟨"PinKindChecks$Thing", "valueOf", "(II)J"⟩ y_Pi_valueOf ∈ wz := wz_at 368 (by decide +kernel) rfl
theorem i_Pi_valueOf : Cond.instanceMethod y_Pi_valueOf ∈ wz := wz_at 369 (by decide +kernel) rfl
theorem l_Pi_41 : Cond.methodLink "PinKindChecks$Pin" 41 y_Pa_fieldAt ∈ wz := wz_at 371 (by decide +kernel) rfl
theorem v_Pi_45 : Cond.constantLong "PinKindChecks$Pin" 45 (-1) ∈ wz := wz_at 372 (by decide +kernel) rfl
theorem l_Pi_47 : Cond.methodLink "PinKindChecks$Pin" 47 y_Ne_name ∈ wz := wz_at 373 (by decide +kernel) rfl
theorem l_Pi_50 : Cond.methodLink "PinKindChecks$Pin" 50 ⟨"PinKindChecks$Pin", "sheet", "()I"⟩ ∈ wz := wz_at 374 (by decide +kernel) rfl
theorem e_Pi_Th_sheet : Cond.sameMethod "PinKindChecks$Pin" "PinKindChecks$Thing" "sheet" "()I" ∈ wz := wz_at 375 (by decide +kernel) rfl
theorem q_Pi_Pi_sheet_Th : Cond.selects "PinKindChecks$Pin" ⟨"PinKindChecks$Pin", "sheet", "()I"⟩ y_Th_sheet ∈ wz := wz_at 376 (by decide +kernel) rfl
theorem l_Tr_41 : Cond.methodLink "PinKindChecks$ToldRule" 41 y_Tr_truth ∈ wz := wz_at 377 (by decide +kernel) rfl
theorem s_Tr_truth : Cond.static y_Tr_truth ∈ wz := wz_at 378 (by decide +kernel) rfl
theorem l_Tr_45 : Cond.methodLink "PinKindChecks$ToldRule" 45 y_Tr_workOut ∈ wz := wz_at 380 (by decide +kernel) rfl
theorem s_Tr_workOut : Cond.static y_Tr_workOut ∈ wz := wz_at 381 (by decide +kernel) rfl
theorem l_K_246 : Cond.methodLink "PinKindChecks" 246 y_Tr_weight ∈ wz := wz_at 383 (by decide +kernel) rfl
theorem i_Tr_weight : Cond.instanceMethod y_Tr_weight ∈ wz := wz_at 384 (by decide +kernel) rfl
theorem q_Tr_Tr_weight_Tr : Cond.selects "PinKindChecks$ToldRule" y_Tr_weight y_Tr_weight ∈ wz := wz_at 385 (by decide +kernel) rfl
theorem l_K_217 : Cond.methodLink "PinKindChecks" 217 y_Th_keyWith ∈ wz := wz_at 387 (by decide +kernel) rfl
theorem i_Th_keyWith : Cond.instanceMethod y_Th_keyWith ∈ wz := wz_at 388 (by decide +kernel) rfl
theorem e_Th_Th_keyWith : Cond.sameMethod "PinKindChecks$Thing" "PinKindChecks$Thing" "keyWith" "(I)I" ∈ wz := wz_at 389 (by decide +kernel) rfl
theorem q_Ne_Th_keyWith_Th : Cond.selects "PinKindChecks$Net" y_Th_keyWith y_Th_keyWith ∈ wz := wz_at 390 (by decide +kernel) rfl
theorem q_Pa_Th_keyWith_Th : Cond.selects "PinKindChecks$Part" y_Th_keyWith y_Th_keyWith ∈ wz := wz_at 391 (by decide +kernel) rfl
theorem q_Pi_Th_keyWith_Th : Cond.selects "PinKindChecks$Pin" y_Th_keyWith y_Th_keyWith ∈ wz := wz_at 392 (by decide +kernel) rfl
theorem l_K_230 : Cond.methodLink "PinKindChecks" 230 y_Rm_add ∈ wz := wz_at 394 (by decide +kernel) rfl
theorem i_Rm_add : Cond.instanceMethod y_Rm_add ∈ wz := wz_at 395 (by decide +kernel) rfl
theorem q_Rm_Rm_add_Rm : Cond.selects "PinKindChecks$Remarks" y_Rm_add y_Rm_add ∈ wz := wz_at 396 (by decide +kernel) rfl
theorem l_Rm_25 : Cond.methodLink "PinKindChecks$Remarks" 25 y_Rm_grow ∈ wz := wz_at 398 (by decide +kernel) rfl
theorem i_Rm_grow : Cond.instanceMethod y_Rm_grow ∈ wz := wz_at 400 (by decide +kernel) rfl
theorem l_Rm_28 : Cond.methodLink "PinKindChecks$Remarks" 28 y_jM_min ∈ wz := wz_at 402 (by decide +kernel) rfl
theorem s_jM_min : Cond.static y_jM_min ∈ wz := wz_at 403 (by decide +kernel) rfl
theorem l_Rm_34 : Cond.methodLink "PinKindChecks$Remarks" 34 y_jA_copyOf ∈ wz := wz_at 405 (by decide +kernel) rfl
theorem s_jA_copyOf : Cond.static y_jA_copyOf ∈ wz := wz_at 406 (by decide +kernel) rfl
theorem l_jA_316 : Cond.methodLink "java/util/Arrays" 316 ⟨"[I", "clone", "()Ljava/lang/Object;"⟩ ∈ wz := wz_at 408 (by decide +kernel) rfl
theorem t_jA_317 : Cond.classLink "java/util/Arrays" 317 "[I" ∈ wz := wz_at 414 (by decide +kernel) rfl
theorem l_jA_304 : Cond.methodLink "java/util/Arrays" 304 y_jM_min ∈ wz := wz_at 415 (by decide +kernel) rfl
theorem l_jA_150 : Cond.methodLink "java/util/Arrays" 150 ⟨"java/lang/System", "arraycopy", "(Ljava/lang/Object;ILjava/lang/Object;II)V"⟩ ∈ wz := wz_at 416 (by decide +kernel) rfl
theorem l_K_181 : Cond.methodLink "PinKindChecks" 181 y_K_compareWithBefore ∈ wz := wz_at 419 (by decide +kernel) rfl
theorem i_K_compareWithBefore : Cond.instanceMethod y_K_compareWithBefore ∈ wz := wz_at 421 (by decide +kernel) rfl
theorem l_K_187 : Cond.methodLink "PinKindChecks" 187 y_Rm_count ∈ wz := wz_at 423 (by decide +kernel) rfl
theorem i_Rm_count : Cond.instanceMethod y_Rm_count ∈ wz := wz_at 424 (by decide +kernel) rfl
theorem q_Rm_Rm_count_Rm : Cond.selects "PinKindChecks$Remarks" y_Rm_count y_Rm_count ∈ wz := wz_at 425 (by decide +kernel) rfl
theorem l_K_198 : Cond.methodLink "PinKindChecks" 198 y_Rm_keyOf ∈ wz := wz_at 427 (by decide +kernel) rfl
theorem i_Rm_keyOf : Cond.instanceMethod y_Rm_keyOf ∈ wz := wz_at 428 (by decide +kernel) rfl
theorem q_Rm_Rm_keyOf_Rm : Cond.selects "PinKindChecks$Remarks" y_Rm_keyOf y_Rm_keyOf ∈ wz := wz_at 429 (by decide +kernel) rfl
theorem l_Rm_40 : Cond.methodLinkNest "PinKindChecks$Remarks" 40 y_K_isBelow "PinKindChecks" ∈ wn := wn_at 431 (by decide +kernel) rfl
theorem l_K_195 : Cond.methodLink "PinKindChecks" 195 y_Rm_firstOf ∈ wz := wz_at 432 (by decide +kernel) rfl
theorem i_Rm_firstOf : Cond.instanceMethod y_Rm_firstOf ∈ wz := wz_at 433 (by decide +kernel) rfl
theorem q_Rm_Rm_firstOf_Rm : Cond.selects "PinKindChecks$Remarks" y_Rm_firstOf y_Rm_firstOf ∈ wz := wz_at 434 (by decide +kernel) rfl
theorem l_K_249 : Cond.methodLink "PinKindChecks" 249 y_Rm_setFirst ∈ wz := wz_at 436 (by decide +kernel) rfl
theorem i_Rm_setFirst : Cond.instanceMethod y_Rm_setFirst ∈ wz := wz_at 437 (by decide +kernel) rfl
theorem q_Rm_Rm_setFirst_Rm : Cond.selects "PinKindChecks$Remarks" y_Rm_setFirst y_Rm_setFirst ∈ wz := wz_at 438 (by decide +kernel) rfl
theorem l_K_192 : Cond.methodLink "PinKindChecks" 192 y_Rm_weightOf ∈ wz := wz_at 440 (by decide +kernel) rfl
theorem i_Rm_weightOf : Cond.instanceMethod y_Rm_weightOf ∈ wz := wz_at 441 (by decide +kernel) rfl
theorem q_Rm_Rm_weightOf_Rm : Cond.selects "PinKindChecks$Remarks" y_Rm_weightOf y_Rm_weightOf ∈ wz := wz_at 442 (by decide +kernel) rfl
theorem l_K_184 : Cond.methodLink "PinKindChecks" 184 y_K_countOpen ∈ wz := wz_at 444 (by decide +kernel) rfl
theorem i_K_countOpen : Cond.instanceMethod y_K_countOpen ∈ wz := wz_at 446 (by decide +kernel) rfl
theorem l_K_201 : Cond.methodLink "PinKindChecks" 201 y_Wv_reasonFor ∈ wz := wz_at 448 (by decide +kernel) rfl
theorem i_Wv_reasonFor : Cond.instanceMethod y_Wv_reasonFor ∈ wz := wz_at 449 (by decide +kernel) rfl
theorem q_Wv_Wv_reasonFor_Wv : Cond.selects "PinKindChecks$Waivers" y_Wv_reasonFor y_Wv_reasonFor ∈ wz := wz_at 450 (by decide +kernel) rfl
theorem l_Wv_22 : Cond.methodLink "PinKindChecks$Waivers" 22 y_Wv_indexOf ∈ wz := wz_at 452 (by decide +kernel) rfl
theorem i_Wv_indexOf : Cond.instanceMethod y_Wv_indexOf ∈ wz := wz_at 454 (by decide +kernel) rfl
theorem l_Wv_26 : Cond.methodLinkNest "PinKindChecks$Waivers" 26 y_K_isBelow "PinKindChecks" ∈ wn := wn_at 456 (by decide +kernel) rfl
theorem l_La_125 : Cond.methodLink "PinKindChecksLaw" 125 y_K_next ∈ wz := wz_at 457 (by decide +kernel) rfl
theorem i_K_next : Cond.instanceMethod y_K_next ∈ wz := wz_at 458 (by decide +kernel) rfl
theorem q_K_K_next_K : Cond.selects "PinKindChecks" y_K_next y_K_next ∈ wz := wz_at 459 (by decide +kernel) rfl
theorem l_La_129 : Cond.methodLink "PinKindChecksLaw" 129 y_K_offRule ∈ wz := wz_at 461 (by decide +kernel) rfl
theorem i_K_offRule : Cond.instanceMethod y_K_offRule ∈ wz := wz_at 462 (by decide +kernel) rfl
theorem q_K_K_offRule_K : Cond.selects "PinKindChecks" y_K_offRule y_K_offRule ∈ wz := wz_at 463 (by decide +kernel) rfl
theorem l_La_133 : Cond.methodLink "PinKindChecksLaw" 133 y_K_clear ∈ wz := wz_at 465 (by decide +kernel) rfl
theorem i_K_clear : Cond.instanceMethod y_K_clear ∈ wz := wz_at 466 (by decide +kernel) rfl
theorem q_K_K_clear_K : Cond.selects "PinKindChecks" y_K_clear y_K_clear ∈ wz := wz_at 467 (by decide +kernel) rfl
theorem l_K_225 : Cond.methodLink "PinKindChecks" 225 y_Sc_wipe ∈ wz := wz_at 469 (by decide +kernel) rfl
theorem i_Sc_wipe : Cond.instanceMethod y_Sc_wipe ∈ wz := wz_at 470 (by decide +kernel) rfl
theorem q_Sc_Sc_wipe_Sc : Cond.selects "PinKindChecks$Schematic" y_Sc_wipe y_Sc_wipe ∈ wz := wz_at 471 (by decide +kernel) rfl
theorem l_Sc_52 : Cond.methodLink "PinKindChecks$Schematic" 52 y_jA_fill ∈ wz := wz_at 473 (by decide +kernel) rfl
theorem s_jA_fill : Cond.static y_jA_fill ∈ wz := wz_at 474 (by decide +kernel) rfl
theorem l_K_154 : Cond.methodLink "PinKindChecks" 154 y_Rd_wipe ∈ wz := wz_at 476 (by decide +kernel) rfl
theorem i_Rd_wipe : Cond.instanceMethod y_Rd_wipe ∈ wz := wz_at 477 (by decide +kernel) rfl
theorem q_Rd_Rd_wipe_Rd : Cond.selects "PinKindChecks$RuleReader" y_Rd_wipe y_Rd_wipe ∈ wz := wz_at 478 (by decide +kernel) rfl
theorem l_Rd_58 : Cond.methodLink "PinKindChecks$RuleReader" 58 y_Tx_wipe ∈ wz := wz_at 480 (by decide +kernel) rfl
theorem i_Tx_wipe : Cond.instanceMethod y_Tx_wipe ∈ wz := wz_at 481 (by decide +kernel) rfl
theorem q_Tx_Tx_wipe_Tx : Cond.selects "PinKindChecks$RuleText" y_Tx_wipe y_Tx_wipe ∈ wz := wz_at 482 (by decide +kernel) rfl
theorem l_K_226 : Cond.methodLink "PinKindChecks" 226 y_Wv_wipe ∈ wz := wz_at 484 (by decide +kernel) rfl
theorem i_Wv_wipe : Cond.instanceMethod y_Wv_wipe ∈ wz := wz_at 485 (by decide +kernel) rfl
theorem q_Wv_Wv_wipe_Wv : Cond.selects "PinKindChecks$Waivers" y_Wv_wipe y_Wv_wipe ∈ wz := wz_at 486 (by decide +kernel) rfl
theorem l_La_65 : Cond.methodLink "PinKindChecksLaw" 65 y_La_table ∈ wz := wz_at 488 (by decide +kernel) rfl
theorem s_La_table : Cond.static y_La_table ∈ wz := wz_at 489 (by decide +kernel) rfl
theorem t_La_13 : Cond.classLink "PinKindChecksLaw" 13 "java/lang/IndexOutOfBoundsException" ∈ wz := wz_at 491 (by decide +kernel) rfl
theorem t_La_15 : Cond.classLink "PinKindChecksLaw" 15 "java/lang/IllegalArgumentException" ∈ wz := wz_at 492 (by decide +kernel) rfl
theorem l_La_7 : Cond.methodLink "PinKindChecksLaw" 7 y_K_table ∈ wz := wz_at 493 (by decide +kernel) rfl
theorem i_K_table : Cond.instanceMethod y_K_table ∈ wz := wz_at 494 (by decide +kernel) rfl
theorem q_K_K_table_K : Cond.selects "PinKindChecks" y_K_table y_K_table ∈ wz := wz_at 495 (by decide +kernel) rfl
theorem t_K_68 : Cond.classLink "PinKindChecks" 68 "java/lang/IndexOutOfBoundsException" ∈ wz := wz_at 497 (by decide +kernel) rfl
theorem l_K_72 : Cond.methodLink "PinKindChecks" 72 ⟨"java/lang/IndexOutOfBoundsException", "<init>", "(Ljava/lang/String;)V"⟩ ∈ wz := wz_at 539 (by decide +kernel) rfl
theorem a_byte : Cond.arrayClass .byte ∈ wz := wz_at 564 (by decide +kernel) rfl
theorem t_K_75 : Cond.classLink "PinKindChecks" 75 "java/lang/IllegalArgumentException" ∈ wz := wz_at 565 (by decide +kernel) rfl
theorem l_K_79 : Cond.methodLink "PinKindChecks" 79 ⟨"java/lang/IllegalArgumentException", "<init>", "(Ljava/lang/String;)V"⟩ ∈ wz := wz_at 575 (by decide +kernel) rfl
theorem l_K_80 : Cond.methodLink "PinKindChecks" 80 y_Sc_setVerdict ∈ wz := wz_at 581 (by decide +kernel) rfl
theorem i_Sc_setVerdict : Cond.instanceMethod y_Sc_setVerdict ∈ wz := wz_at 582 (by decide +kernel) rfl
theorem q_Sc_Sc_setVerdict_Sc : Cond.selects "PinKindChecks$Schematic" y_Sc_setVerdict y_Sc_setVerdict ∈ wz := wz_at 583 (by decide +kernel) rfl
theorem l_La_74 : Cond.methodLink "PinKindChecksLaw" 74 y_La_part ∈ wz := wz_at 585 (by decide +kernel) rfl
theorem s_La_part : Cond.static y_La_part ∈ wz := wz_at 586 (by decide +kernel) rfl
theorem l_La_17 : Cond.methodLink "PinKindChecksLaw" 17 y_K_part ∈ wz := wz_at 588 (by decide +kernel) rfl
theorem i_K_part : Cond.instanceMethod y_K_part ∈ wz := wz_at 589 (by decide +kernel) rfl
theorem q_K_K_part_K : Cond.selects "PinKindChecks" y_K_part y_K_part ∈ wz := wz_at 590 (by decide +kernel) rfl
theorem l_K_86 : Cond.methodLink "PinKindChecks" 86 y_Sc_addPart ∈ wz := wz_at 593 (by decide +kernel) rfl
theorem i_Sc_addPart : Cond.instanceMethod y_Sc_addPart ∈ wz := wz_at 594 (by decide +kernel) rfl
theorem q_Sc_Sc_addPart_Sc : Cond.selects "PinKindChecks$Schematic" y_Sc_addPart y_Sc_addPart ∈ wz := wz_at 595 (by decide +kernel) rfl
theorem l_Sc_66 : Cond.methodLink "PinKindChecks$Schematic" 66 y_Pa_init ∈ wz := wz_at 598 (by decide +kernel) rfl
theorem i_Pa_init : Cond.instanceMethod y_Pa_init ∈ wz := wz_at 599 (by decide +kernel) rfl
theorem l_Pa_3 : Cond.methodLink "PinKindChecks$Part" 3 y_Ph_init ∈ wz := wz_at 601 (by decide +kernel) rfl
theorem i_Ph_init : Cond.instanceMethod y_Ph_init ∈ wz := wz_at 602 (by decide +kernel) rfl
theorem l_Ph_3 : Cond.methodLink "PinKindChecks$PinHolder" 3 y_Th_init ∈ wz := wz_at 604 (by decide +kernel) rfl
theorem i_Th_init : Cond.instanceMethod y_Th_init ∈ wz := wz_at 605 (by decide +kernel) rfl
theorem l_Th_3 : Cond.methodLink "PinKindChecks$Thing" 3 ⟨"java/lang/Object", "<init>", "()V"⟩ ∈ wz := wz_at 607 (by decide +kernel) rfl
theorem l_Sc_69 : Cond.methodLink "PinKindChecks$Schematic" 69 y_Sc_putInOrder ∈ wz := wz_at 624 (by decide +kernel) rfl
theorem i_Sc_putInOrder : Cond.instanceMethod y_Sc_putInOrder ∈ wz := wz_at 626 (by decide +kernel) rfl
theorem l_Sc_111 : Cond.methodLink "PinKindChecks$Schematic" 111 y_Th_isBefore ∈ wz := wz_at 628 (by decide +kernel) rfl
theorem i_Th_isBefore : Cond.instanceMethod y_Th_isBefore ∈ wz := wz_at 629 (by decide +kernel) rfl
theorem e_Th_Th_isBefore : Cond.sameMethod "PinKindChecks$Thing" "PinKindChecks$Thing" "isBefore" "(LPinKindChecks$Thing;)Z" ∈ wz := wz_at 630 (by decide +kernel) rfl
theorem q_Ne_Th_isBefore_Th : Cond.selects "PinKindChecks$Net" y_Th_isBefore y_Th_isBefore ∈ wz := wz_at 631 (by decide +kernel) rfl
theorem q_Pa_Th_isBefore_Th : Cond.selects "PinKindChecks$Part" y_Th_isBefore y_Th_isBefore ∈ wz := wz_at 632 (by decide +kernel) rfl
theorem q_Pi_Th_isBefore_Th : Cond.selects "PinKindChecks$Pin" y_Th_isBefore y_Th_isBefore ∈ wz := wz_at 633 (by decide +kernel) rfl
theorem l_Sc_73 : Cond.methodLink "PinKindChecks$Schematic" 73 ⟨"PinKindChecks$Part", "number", "()I"⟩ ∈ wz := wz_at 635 (by decide +kernel) rfl
theorem e_Pa_Th_number : Cond.sameMethod "PinKindChecks$Part" "PinKindChecks$Thing" "number" "()I" ∈ wz := wz_at 636 (by decide +kernel) rfl
theorem q_Pa_Pa_number_Th : Cond.selects "PinKindChecks$Part" ⟨"PinKindChecks$Part", "number", "()I"⟩ y_Th_number ∈ wz := wz_at 637 (by decide +kernel) rfl
theorem l_La_78 : Cond.methodLink "PinKindChecksLaw" 78 y_La_net ∈ wz := wz_at 638 (by decide +kernel) rfl
theorem s_La_net : Cond.static y_La_net ∈ wz := wz_at 639 (by decide +kernel) rfl
theorem l_La_21 : Cond.methodLink "PinKindChecksLaw" 21 y_K_net ∈ wz := wz_at 641 (by decide +kernel) rfl
theorem i_K_net : Cond.instanceMethod y_K_net ∈ wz := wz_at 642 (by decide +kernel) rfl
theorem q_K_K_net_K : Cond.selects "PinKindChecks" y_K_net y_K_net ∈ wz := wz_at 643 (by decide +kernel) rfl
theorem l_K_92 : Cond.methodLink "PinKindChecks" 92 y_Sc_addNet ∈ wz := wz_at 646 (by decide +kernel) rfl
theorem i_Sc_addNet : Cond.instanceMethod y_Sc_addNet ∈ wz := wz_at 647 (by decide +kernel) rfl
theorem q_Sc_Sc_addNet_Sc : Cond.selects "PinKindChecks$Schematic" y_Sc_addNet y_Sc_addNet ∈ wz := wz_at 648 (by decide +kernel) rfl
theorem l_Sc_77 : Cond.methodLink "PinKindChecks$Schematic" 77 y_Ne_init ∈ wz := wz_at 651 (by decide +kernel) rfl
theorem i_Ne_init : Cond.instanceMethod y_Ne_init ∈ wz := wz_at 652 (by decide +kernel) rfl
theorem l_Ne_3 : Cond.methodLink "PinKindChecks$Net" 3 y_Ph_init ∈ wz := wz_at 654 (by decide +kernel) rfl
theorem l_La_82 : Cond.methodLink "PinKindChecksLaw" 82 y_La_pin ∈ wz := wz_at 666 (by decide +kernel) rfl
theorem s_La_pin : Cond.static y_La_pin ∈ wz := wz_at 667 (by decide +kernel) rfl
theorem l_La_25 : Cond.methodLink "PinKindChecksLaw" 25 y_K_pin ∈ wz := wz_at 669 (by decide +kernel) rfl
theorem i_K_pin : Cond.instanceMethod y_K_pin ∈ wz := wz_at 670 (by decide +kernel) rfl
theorem q_K_K_pin_K : Cond.selects "PinKindChecks" y_K_pin y_K_pin ∈ wz := wz_at 671 (by decide +kernel) rfl
theorem l_K_96 : Cond.methodLink "PinKindChecks" 96 y_Sc_partAt ∈ wz := wz_at 673 (by decide +kernel) rfl
theorem i_Sc_partAt : Cond.instanceMethod y_Sc_partAt ∈ wz := wz_at 674 (by decide +kernel) rfl
theorem q_Sc_Sc_partAt_Sc : Cond.selects "PinKindChecks$Schematic" y_Sc_partAt y_Sc_partAt ∈ wz := wz_at 675 (by decide +kernel) rfl
theorem l_K_100 : Cond.methodLink "PinKindChecks" 100 y_K_isNetOrNone ∈ wz := wz_at 677 (by decide +kernel) rfl
theorem i_K_isNetOrNone : Cond.instanceMethod y_K_isNetOrNone ∈ wz := wz_at 679 (by decide +kernel) rfl
theorem l_K_108 : Cond.methodLink "PinKindChecks" 108 y_Sc_netAt ∈ wz := wz_at 681 (by decide +kernel) rfl
theorem l_K_112 : Cond.methodLink "PinKindChecks" 112 y_Sc_addPin ∈ wz := wz_at 684 (by decide +kernel) rfl
theorem i_Sc_addPin : Cond.instanceMethod y_Sc_addPin ∈ wz := wz_at 685 (by decide +kernel) rfl
theorem q_Sc_Sc_addPin_Sc : Cond.selects "PinKindChecks$Schematic" y_Sc_addPin y_Sc_addPin ∈ wz := wz_at 686 (by decide +kernel) rfl
theorem l_Sc_81 : Cond.methodLink "PinKindChecks$Schematic" 81 y_Pi_init ∈ wz := wz_at 689 (by decide +kernel) rfl
theorem i_Pi_init : Cond.instanceMethod y_Pi_init ∈ wz := wz_at 690 (by decide +kernel) rfl
theorem l_Pi_3 : Cond.methodLink "PinKindChecks$Pin" 3 ⟨"PinKindChecks$Part", "sheet", "()I"⟩ ∈ wz := wz_at 692 (by decide +kernel) rfl
theorem e_Pa_Th_sheet : Cond.sameMethod "PinKindChecks$Part" "PinKindChecks$Thing" "sheet" "()I" ∈ wz := wz_at 693 (by decide +kernel) rfl
theorem q_Pa_Pa_sheet_Th : Cond.selects "PinKindChecks$Part" ⟨"PinKindChecks$Part", "sheet", "()I"⟩ y_Th_sheet ∈ wz := wz_at 694 (by decide +kernel) rfl
theorem l_Pi_9 : Cond.methodLink "PinKindChecks$Pin" 9 y_Th_init ∈ wz := wz_at 695 (by decide +kernel) rfl
theorem l_Sc_84 : Cond.methodLink "PinKindChecks$Schematic" 84 ⟨"PinKindChecks$Part", "countPins", "(II)V"⟩ ∈ wz := wz_at 708 (by decide +kernel) rfl
theorem e_Pa_Ph_countPins : Cond.sameMethod "PinKindChecks$Part" "PinKindChecks$PinHolder" "countPins" "(II)V" ∈ wz := wz_at 709 (by decide +kernel) rfl
theorem z_Ph_countPins : zDecl ⟨"PinKindChecks$PinHolder", "countPins", "(II)V"⟩ := Or.inl (wn_at 710 (by decide +kernel) rfl)
theorem q_Pa_Pa_countPins_Ph : Cond.selects "PinKindChecks$Part" ⟨"PinKindChecks$Part", "countPins", "(II)V"⟩ y_Ph_countPins ∈ wz := wz_at 711 (by decide +kernel) rfl
theorem i_Ph_countPins : Cond.instanceMethod y_Ph_countPins ∈ wz := wz_at 712 (by decide +kernel) rfl
theorem l_Sc_87 : Cond.methodLink "PinKindChecks$Schematic" 87 y_Pi_moveTo ∈ wz := wz_at 714 (by decide +kernel) rfl
theorem i_Pi_moveTo : Cond.instanceMethod y_Pi_moveTo ∈ wz := wz_at 715 (by decide +kernel) rfl
theorem q_Pi_Pi_moveTo_Pi : Cond.selects "PinKindChecks$Pin" y_Pi_moveTo y_Pi_moveTo ∈ wz := wz_at 716 (by decide +kernel) rfl
theorem l_Pi_29 : Cond.methodLink "PinKindChecks$Pin" 29 ⟨"PinKindChecks$Net", "countPins", "(II)V"⟩ ∈ wz := wz_at 718 (by decide +kernel) rfl
theorem e_Ne_Ph_countPins : Cond.sameMethod "PinKindChecks$Net" "PinKindChecks$PinHolder" "countPins" "(II)V" ∈ wz := wz_at 719 (by decide +kernel) rfl
theorem q_Ne_Ne_countPins_Ph : Cond.selects "PinKindChecks$Net" ⟨"PinKindChecks$Net", "countPins", "(II)V"⟩ y_Ph_countPins ∈ wz := wz_at 720 (by decide +kernel) rfl
theorem l_La_85 : Cond.methodLink "PinKindChecksLaw" 85 y_La_join ∈ wz := wz_at 721 (by decide +kernel) rfl
theorem s_La_join : Cond.static y_La_join ∈ wz := wz_at 722 (by decide +kernel) rfl
theorem l_La_29 : Cond.methodLink "PinKindChecksLaw" 29 y_K_join ∈ wz := wz_at 724 (by decide +kernel) rfl
theorem i_K_join : Cond.instanceMethod y_K_join ∈ wz := wz_at 725 (by decide +kernel) rfl
theorem q_K_K_join_K : Cond.selects "PinKindChecks" y_K_join y_K_join ∈ wz := wz_at 726 (by decide +kernel) rfl
theorem l_K_116 : Cond.methodLink "PinKindChecks" 116 y_Sc_pinAt ∈ wz := wz_at 728 (by decide +kernel) rfl
theorem l_K_122 : Cond.methodLink "PinKindChecks" 122 y_Pi_moveTo ∈ wz := wz_at 730 (by decide +kernel) rfl
theorem l_La_90 : Cond.methodLink "PinKindChecksLaw" 90 y_La_field ∈ wz := wz_at 731 (by decide +kernel) rfl
theorem s_La_field : Cond.static y_La_field ∈ wz := wz_at 732 (by decide +kernel) rfl
theorem l_La_33 : Cond.methodLink "PinKindChecksLaw" 33 y_K_field ∈ wz := wz_at 734 (by decide +kernel) rfl
theorem i_K_field : Cond.instanceMethod y_K_field ∈ wz := wz_at 735 (by decide +kernel) rfl
theorem q_K_K_field_K : Cond.selects "PinKindChecks" y_K_field y_K_field ∈ wz := wz_at 736 (by decide +kernel) rfl
theorem l_K_130 : Cond.methodLink "PinKindChecks" 130 y_Pa_setField ∈ wz := wz_at 739 (by decide +kernel) rfl
theorem i_Pa_setField : Cond.instanceMethod y_Pa_setField ∈ wz := wz_at 740 (by decide +kernel) rfl
theorem q_Pa_Pa_setField_Pa : Cond.selects "PinKindChecks$Part" y_Pa_setField y_Pa_setField ∈ wz := wz_at 741 (by decide +kernel) rfl
theorem l_La_94 : Cond.methodLink "PinKindChecksLaw" 94 y_La_end ∈ wz := wz_at 743 (by decide +kernel) rfl
theorem s_La_end : Cond.static y_La_end ∈ wz := wz_at 744 (by decide +kernel) rfl
theorem l_La_37 : Cond.methodLink "PinKindChecksLaw" 37 y_K_end ∈ wz := wz_at 746 (by decide +kernel) rfl
theorem i_K_end : Cond.instanceMethod y_K_end ∈ wz := wz_at 747 (by decide +kernel) rfl
theorem q_K_K_end_K : Cond.selects "PinKindChecks" y_K_end y_K_end ∈ wz := wz_at 748 (by decide +kernel) rfl
theorem l_K_138 : Cond.methodLink "PinKindChecks" 138 y_Sc_addEnd ∈ wz := wz_at 751 (by decide +kernel) rfl
theorem i_Sc_addEnd : Cond.instanceMethod y_Sc_addEnd ∈ wz := wz_at 752 (by decide +kernel) rfl
theorem q_Sc_Sc_addEnd_Sc : Cond.selects "PinKindChecks$Schematic" y_Sc_addEnd y_Sc_addEnd ∈ wz := wz_at 753 (by decide +kernel) rfl
theorem l_Sc_92 : Cond.methodLink "PinKindChecks$Schematic" 92 y_Ne_noteEnd ∈ wz := wz_at 755 (by decide +kernel) rfl
theorem i_Ne_noteEnd : Cond.instanceMethod y_Ne_noteEnd ∈ wz := wz_at 756 (by decide +kernel) rfl
theorem q_Ne_Ne_noteEnd_Ne : Cond.selects "PinKindChecks$Net" y_Ne_noteEnd y_Ne_noteEnd ∈ wz := wz_at 757 (by decide +kernel) rfl
theorem v_Ne_19 : Cond.constantLong "PinKindChecks$Net" 19 (100) ∈ wz := wz_at 759 (by decide +kernel) rfl
theorem l_La_103 : Cond.methodLink "PinKindChecksLaw" 103 y_La_rule ∈ wz := wz_at 760 (by decide +kernel) rfl
theorem s_La_rule : Cond.static y_La_rule ∈ wz := wz_at 761 (by decide +kernel) rfl
theorem t_La_45 : Cond.classLink "PinKindChecksLaw" 45 "java/lang/IllegalStateException" ∈ wz := wz_at 763 (by decide +kernel) rfl
theorem l_La_41 : Cond.methodLink "PinKindChecksLaw" 41 y_K_rule ∈ wz := wz_at 764 (by decide +kernel) rfl
theorem i_K_rule : Cond.instanceMethod y_K_rule ∈ wz := wz_at 765 (by decide +kernel) rfl
theorem q_K_K_rule_K : Cond.selects "PinKindChecks" y_K_rule y_K_rule ∈ wz := wz_at 766 (by decide +kernel) rfl
theorem t_K_145 : Cond.classLink "PinKindChecks" 145 "java/lang/IllegalStateException" ∈ wz := wz_at 768 (by decide +kernel) rfl
theorem l_K_149 : Cond.methodLink "PinKindChecks" 149 ⟨"java/lang/IllegalStateException", "<init>", "(Ljava/lang/String;)V"⟩ ∈ wz := wz_at 778 (by decide +kernel) rfl
theorem l_K_150 : Cond.methodLink "PinKindChecks" 150 y_Rd_readRule ∈ wz := wz_at 784 (by decide +kernel) rfl
theorem i_Rd_readRule : Cond.instanceMethod y_Rd_readRule ∈ wz := wz_at 785 (by decide +kernel) rfl
theorem q_Rd_Rd_readRule_Rd : Cond.selects "PinKindChecks$RuleReader" y_Rd_readRule y_Rd_readRule ∈ wz := wz_at 786 (by decide +kernel) rfl
theorem l_Rd_61 : Cond.methodLink "PinKindChecks$RuleReader" 61 y_Rd_start ∈ wz := wz_at 788 (by decide +kernel) rfl
theorem i_Rd_start : Cond.instanceMethod y_Rd_start ∈ wz := wz_at 790 (by decide +kernel) rfl
theorem l_Rd_89 : Cond.methodLink "PinKindChecks$RuleReader" 89 y_Tx_toStart ∈ wz := wz_at 792 (by decide +kernel) rfl
theorem i_Tx_toStart : Cond.instanceMethod y_Tx_toStart ∈ wz := wz_at 793 (by decide +kernel) rfl
theorem q_Tx_Tx_toStart_Tx : Cond.selects "PinKindChecks$RuleText" y_Tx_toStart y_Tx_toStart ∈ wz := wz_at 794 (by decide +kernel) rfl
theorem l_Rd_64 : Cond.methodLink "PinKindChecks$RuleReader" 64 y_Tx_toNextWord ∈ wz := wz_at 796 (by decide +kernel) rfl
theorem i_Tx_toNextWord : Cond.instanceMethod y_Tx_toNextWord ∈ wz := wz_at 797 (by decide +kernel) rfl
theorem q_Tx_Tx_toNextWord_Tx : Cond.selects "PinKindChecks$RuleText" y_Tx_toNextWord y_Tx_toNextWord ∈ wz := wz_at 798 (by decide +kernel) rfl
theorem l_Tx_25 : Cond.methodLink "PinKindChecks$RuleText" 25 y_jM_min ∈ wz := wz_at 800 (by decide +kernel) rfl
theorem l_Tx_31 : Cond.methodLink "PinKindChecks$RuleText" 31 y_jM_max ∈ wz := wz_at 801 (by decide +kernel) rfl
theorem l_Rd_68 : Cond.methodLink "PinKindChecks$RuleReader" 68 y_Rd_takeWord ∈ wz := wz_at 802 (by decide +kernel) rfl
theorem i_Rd_takeWord : Cond.instanceMethod y_Rd_takeWord ∈ wz := wz_at 804 (by decide +kernel) rfl
theorem l_Rd_92 : Cond.methodLink "PinKindChecks$RuleReader" 92 y_Rd_takeSubject ∈ wz := wz_at 806 (by decide +kernel) rfl
theorem i_Rd_takeSubject : Cond.instanceMethod y_Rd_takeSubject ∈ wz := wz_at 808 (by decide +kernel) rfl
theorem l_Rd_118 : Cond.methodLink "PinKindChecks$RuleReader" 118 y_Tx_wordIs ∈ wz := wz_at 811 (by decide +kernel) rfl
theorem i_Tx_wordIs : Cond.instanceMethod y_Tx_wordIs ∈ wz := wz_at 812 (by decide +kernel) rfl
theorem q_Tx_Tx_wordIs_Tx : Cond.selects "PinKindChecks$RuleText" y_Tx_wordIs y_Tx_wordIs ∈ wz := wz_at 813 (by decide +kernel) rfl
theorem l_Tx_34 : Cond.methodLink "PinKindChecks$RuleText" 34 y_jS_length ∈ wz := wz_at 815 (by decide +kernel) rfl
theorem i_jS_length : Cond.instanceMethod y_jS_length ∈ wz := wz_at 816 (by decide +kernel) rfl
theorem q_jS_jS_length_jS : Cond.selects "java/lang/String" y_jS_length y_jS_length ∈ wz := wz_at 817 (by decide +kernel) rfl
theorem l_jS_335 : Cond.methodLink "java/lang/String" 335 y_jS_coder ∈ wz := wz_at 819 (by decide +kernel) rfl
theorem i_jS_coder : Cond.instanceMethod y_jS_coder ∈ wz := wz_at 820 (by decide +kernel) rfl
theorem q_jS_jS_coder_jS : Cond.selects "java/lang/String" y_jS_coder y_jS_coder ∈ wz := wz_at 821 (by decide +kernel) rfl
theorem l_Tx_39 : Cond.methodLink "PinKindChecks$RuleText" 39 y_Tx_wordLength ∈ wz := wz_at 825 (by decide +kernel) rfl
theorem i_Tx_wordLength : Cond.instanceMethod y_Tx_wordLength ∈ wz := wz_at 826 (by decide +kernel) rfl
theorem q_Tx_Tx_wordLength_Tx : Cond.selects "PinKindChecks$RuleText" y_Tx_wordLength y_Tx_wordLength ∈ wz := wz_at 827 (by decide +kernel) rfl
theorem l_Tx_42 : Cond.methodLink "PinKindChecks$RuleText" 42 y_jS_charAt ∈ wz := wz_at 829 (by decide +kernel) rfl
theorem i_jS_charAt : Cond.instanceMethod y_jS_charAt ∈ wz := wz_at 830 (by decide +kernel) rfl
theorem q_jS_jS_charAt_jS : Cond.selects "java/lang/String" y_jS_charAt y_jS_charAt ∈ wz := wz_at 831 (by decide +kernel) rfl
theorem l_jS_492 : Cond.methodLink "java/lang/String" 492 y_jS_isLatin1 ∈ wz := wz_at 833 (by decide +kernel) rfl
theorem i_jS_isLatin1 : Cond.instanceMethod y_jS_isLatin1 ∈ wz := wz_at 834 (by decide +kernel) rfl
theorem q_jS_jS_isLatin1_jS : Cond.selects "java/lang/String" y_jS_isLatin1 y_jS_isLatin1 ∈ wz := wz_at 835 (by decide +kernel) rfl
theorem l_jS_495 : Cond.methodLink "java/lang/String" 495 y_jL_charAt ∈ wz := wz_at 837 (by decide +kernel) rfl
theorem s_jL_charAt : Cond.static y_jL_charAt ∈ wz := wz_at 838 (by decide +kernel) rfl
theorem l_jL_9 : Cond.methodLink "java/lang/StringLatin1" 9 y_jS_checkIndex ∈ wz := wz_at 840 (by decide +kernel) rfl
theorem s_jS_checkIndex : Cond.static y_jS_checkIndex ∈ wz := wz_at 841 (by decide +kernel) rfl
theorem l_jS_1059 : Cond.methodLink "java/lang/String" 1059 y_jP_checkIndex ∈ wz := wz_at 845 (by decide +kernel) rfl
theorem s_jP_checkIndex : Cond.static y_jP_checkIndex ∈ wz := wz_at 846 (by decide +kernel) rfl
theorem l_jS_498 : Cond.methodLink "java/lang/String" 498 ⟨"java/lang/StringUTF16", "charAt", "([BI)C"⟩ ∈ wz := wz_at 848 (by decide +kernel) rfl
theorem l_Tx_46 : Cond.methodLink "PinKindChecks$RuleText" 46 y_Tx_letterOfWord ∈ wz := wz_at 867 (by decide +kernel) rfl
theorem i_Tx_letterOfWord : Cond.instanceMethod y_Tx_letterOfWord ∈ wz := wz_at 868 (by decide +kernel) rfl
theorem q_Tx_Tx_letterOfWord_Tx : Cond.selects "PinKindChecks$RuleText" y_Tx_letterOfWord y_Tx_letterOfWord ∈ wz := wz_at 869 (by decide +kernel) rfl
theorem l_Rd_95 : Cond.methodLink "PinKindChecks$RuleReader" 95 y_Rd_takeWeight ∈ wz := wz_at 873 (by decide +kernel) rfl
theorem i_Rd_takeWeight : Cond.instanceMethod y_Rd_takeWeight ∈ wz := wz_at 875 (by decide +kernel) rfl
theorem l_Rd_98 : Cond.methodLink "PinKindChecks$RuleReader" 98 y_Rd_takeNot ∈ wz := wz_at 879 (by decide +kernel) rfl
theorem i_Rd_takeNot : Cond.instanceMethod y_Rd_takeNot ∈ wz := wz_at 881 (by decide +kernel) rfl
theorem l_Rd_132 : Cond.methodLink "PinKindChecks$RuleReader" 132 y_Rd_putOff ∈ wz := wz_at 884 (by decide +kernel) rfl
theorem i_Rd_putOff : Cond.instanceMethod y_Rd_putOff ∈ wz := wz_at 886 (by decide +kernel) rfl
theorem l_Rd_101 : Cond.methodLink "PinKindChecks$RuleReader" 101 y_Rd_takeOpening ∈ wz := wz_at 888 (by decide +kernel) rfl
theorem i_Rd_takeOpening : Cond.instanceMethod y_Rd_takeOpening ∈ wz := wz_at 890 (by decide +kernel) rfl
theorem l_Rd_104 : Cond.methodLink "PinKindChecks$RuleReader" 104 y_Rd_takeTerm ∈ wz := wz_at 893 (by decide +kernel) rfl
theorem i_Rd_takeTerm : Cond.instanceMethod y_Rd_takeTerm ∈ wz := wz_at 895 (by decide +kernel) rfl
theorem l_Rd_142 : Cond.methodLink "PinKindChecks$RuleReader" 142 y_Rd_takeNumber ∈ wz := wz_at 897 (by decide +kernel) rfl
theorem i_Rd_takeNumber : Cond.instanceMethod y_Rd_takeNumber ∈ wz := wz_at 899 (by decide +kernel) rfl
theorem l_Rd_158 : Cond.methodLink "PinKindChecks$RuleReader" 158 y_Tx_wordLength ∈ wz := wz_at 901 (by decide +kernel) rfl
theorem l_Rd_161 : Cond.methodLink "PinKindChecks$RuleReader" 161 y_Tx_digitOfWord ∈ wz := wz_at 902 (by decide +kernel) rfl
theorem i_Tx_digitOfWord : Cond.instanceMethod y_Tx_digitOfWord ∈ wz := wz_at 903 (by decide +kernel) rfl
theorem q_Tx_Tx_digitOfWord_Tx : Cond.selects "PinKindChecks$RuleText" y_Tx_digitOfWord y_Tx_digitOfWord ∈ wz := wz_at 904 (by decide +kernel) rfl
theorem l_Rd_154 : Cond.methodLink "PinKindChecks$RuleReader" 154 y_Rd_putTerm ∈ wz := wz_at 906 (by decide +kernel) rfl
theorem i_Rd_putTerm : Cond.instanceMethod y_Rd_putTerm ∈ wz := wz_at 908 (by decide +kernel) rfl
theorem l_Rd_180 : Cond.methodLink "PinKindChecks$RuleReader" 180 y_Rd_putOut ∈ wz := wz_at 910 (by decide +kernel) rfl
theorem i_Rd_putOut : Cond.instanceMethod y_Rd_putOut ∈ wz := wz_at 912 (by decide +kernel) rfl
theorem l_Rd_145 : Cond.methodLink "PinKindChecks$RuleReader" 145 y_Rd_takeField ∈ wz := wz_at 914 (by decide +kernel) rfl
theorem i_Rd_takeField : Cond.instanceMethod y_Rd_takeField ∈ wz := wz_at 916 (by decide +kernel) rfl
theorem l_Rd_165 : Cond.methodLink "PinKindChecks$RuleReader" 165 y_Tx_letterOfWord ∈ wz := wz_at 918 (by decide +kernel) rfl
theorem l_Rd_169 : Cond.methodLinkNest "PinKindChecks$RuleReader" 169 y_K_isBelow "PinKindChecks" ∈ wn := wn_at 919 (by decide +kernel) rfl
theorem l_Rd_150 : Cond.methodLink "PinKindChecks$RuleReader" 150 y_Rd_plainTerm ∈ wz := wz_at 921 (by decide +kernel) rfl
theorem i_Rd_plainTerm : Cond.instanceMethod y_Rd_plainTerm ∈ wz := wz_at 923 (by decide +kernel) rfl
theorem l_Rd_107 : Cond.methodLink "PinKindChecks$RuleReader" 107 y_Rd_takeKind ∈ wz := wz_at 929 (by decide +kernel) rfl
theorem i_Rd_takeKind : Cond.instanceMethod y_Rd_takeKind ∈ wz := wz_at 931 (by decide +kernel) rfl
theorem l_Rd_110 : Cond.methodLink "PinKindChecks$RuleReader" 110 y_Rd_takeOperator ∈ wz := wz_at 933 (by decide +kernel) rfl
theorem i_Rd_takeOperator : Cond.instanceMethod y_Rd_takeOperator ∈ wz := wz_at 935 (by decide +kernel) rfl
theorem l_Rd_184 : Cond.methodLink "PinKindChecks$RuleReader" 184 y_Rd_operatorOfWord ∈ wz := wz_at 937 (by decide +kernel) rfl
theorem i_Rd_operatorOfWord : Cond.instanceMethod y_Rd_operatorOfWord ∈ wz := wz_at 939 (by decide +kernel) rfl
theorem l_Rd_196 : Cond.methodLink "PinKindChecks$RuleReader" 196 y_Rd_operatorOfLetter ∈ wz := wz_at 941 (by decide +kernel) rfl
theorem s_Rd_operatorOfLetter : Cond.static y_Rd_operatorOfLetter ∈ wz := wz_at 942 (by decide +kernel) rfl
theorem l_Rd_187 : Cond.methodLink "PinKindChecks$RuleReader" 187 y_Tr_isJoining ∈ wz := wz_at 948 (by decide +kernel) rfl
theorem s_Tr_isJoining : Cond.static y_Tr_isJoining ∈ wz := wz_at 949 (by decide +kernel) rfl
theorem l_Rd_71 : Cond.methodLink "PinKindChecks$RuleReader" 71 y_Rd_isBehindCondition ∈ wz := wz_at 951 (by decide +kernel) rfl
theorem i_Rd_isBehindCondition : Cond.instanceMethod y_Rd_isBehindCondition ∈ wz := wz_at 953 (by decide +kernel) rfl
theorem l_Rd_190 : Cond.methodLink "PinKindChecks$RuleReader" 190 y_Tr_isSign ∈ wz := wz_at 955 (by decide +kernel) rfl
theorem s_Tr_isSign : Cond.static y_Tr_isSign ∈ wz := wz_at 956 (by decide +kernel) rfl
theorem l_Rd_193 : Cond.methodLink "PinKindChecks$RuleReader" 193 y_Tr_isArithmetic ∈ wz := wz_at 958 (by decide +kernel) rfl
theorem s_Tr_isArithmetic : Cond.static y_Tr_isArithmetic ∈ wz := wz_at 959 (by decide +kernel) rfl
theorem l_Rd_76 : Cond.methodLink "PinKindChecks$RuleReader" 76 y_Rd_putOutDownTo ∈ wz := wz_at 961 (by decide +kernel) rfl
theorem i_Rd_putOutDownTo : Cond.instanceMethod y_Rd_putOutDownTo ∈ wz := wz_at 963 (by decide +kernel) rfl
theorem l_Rd_208 : Cond.methodLink "PinKindChecks$RuleReader" 208 y_Tr_strength ∈ wz := wz_at 965 (by decide +kernel) rfl
theorem s_Tr_strength : Cond.static y_Tr_strength ∈ wz := wz_at 966 (by decide +kernel) rfl
theorem l_Tr_25 : Cond.methodLink "PinKindChecks$ToldRule" 25 y_Tr_isSign ∈ wz := wz_at 968 (by decide +kernel) rfl
theorem l_Rd_113 : Cond.methodLink "PinKindChecks$RuleReader" 113 y_Rd_takeClosing ∈ wz := wz_at 969 (by decide +kernel) rfl
theorem i_Rd_takeClosing : Cond.instanceMethod y_Rd_takeClosing ∈ wz := wz_at 971 (by decide +kernel) rfl
theorem l_Rd_139 : Cond.methodLink "PinKindChecks$RuleReader" 139 y_Rd_dropOpening ∈ wz := wz_at 974 (by decide +kernel) rfl
theorem i_Rd_dropOpening : Cond.instanceMethod y_Rd_dropOpening ∈ wz := wz_at 976 (by decide +kernel) rfl
theorem t_Rd_74 : Cond.classLink "PinKindChecks$RuleReader" 74 "PinKindChecks$ToldRule" ∈ wz := wz_at 978 (by decide +kernel) rfl
theorem l_Rd_80 : Cond.methodLink "PinKindChecks$RuleReader" 80 y_jA_copyOf ∈ wz := wz_at 980 (by decide +kernel) rfl
theorem l_Rd_86 : Cond.methodLink "PinKindChecks$RuleReader" 86 y_Tr_init ∈ wz := wz_at 981 (by decide +kernel) rfl
theorem i_Tr_init : Cond.instanceMethod y_Tr_init ∈ wz := wz_at 982 (by decide +kernel) rfl
theorem l_Tr_3 : Cond.methodLink "PinKindChecks$ToldRule" 3 ⟨"java/lang/Object", "<init>", "()V"⟩ ∈ wz := wz_at 984 (by decide +kernel) rfl
theorem l_K_157 : Cond.methodLink "PinKindChecks" 157 y_Rd_wrongWord ∈ wz := wz_at 998 (by decide +kernel) rfl
theorem i_Rd_wrongWord : Cond.instanceMethod y_Rd_wrongWord ∈ wz := wz_at 999 (by decide +kernel) rfl
theorem q_Rd_Rd_wrongWord_Rd : Cond.selects "PinKindChecks$RuleReader" y_Rd_wrongWord y_Rd_wrongWord ∈ wz := wz_at 1000 (by decide +kernel) rfl
theorem l_La_107 : Cond.methodLink "PinKindChecksLaw" 107 y_La_off ∈ wz := wz_at 1002 (by decide +kernel) rfl
theorem s_La_off : Cond.static y_La_off ∈ wz := wz_at 1003 (by decide +kernel) rfl
theorem l_La_47 : Cond.methodLink "PinKindChecksLaw" 47 y_K_off ∈ wz := wz_at 1005 (by decide +kernel) rfl
theorem i_K_off : Cond.instanceMethod y_K_off ∈ wz := wz_at 1006 (by decide +kernel) rfl
theorem q_K_K_off_K : Cond.selects "PinKindChecks" y_K_off y_K_off ∈ wz := wz_at 1007 (by decide +kernel) rfl
theorem l_K_164 : Cond.methodLink "PinKindChecks" 164 y_K_isRule ∈ wz := wz_at 1009 (by decide +kernel) rfl
theorem i_K_isRule : Cond.instanceMethod y_K_isRule ∈ wz := wz_at 1011 (by decide +kernel) rfl
theorem l_La_115 : Cond.methodLink "PinKindChecksLaw" 115 y_La_remark ∈ wz := wz_at 1014 (by decide +kernel) rfl
theorem s_La_remark : Cond.static y_La_remark ∈ wz := wz_at 1015 (by decide +kernel) rfl
theorem l_La_51 : Cond.methodLink "PinKindChecksLaw" 51 y_K_remark ∈ wz := wz_at 1017 (by decide +kernel) rfl
theorem i_K_remark : Cond.instanceMethod y_K_remark ∈ wz := wz_at 1018 (by decide +kernel) rfl
theorem q_K_K_remark_K : Cond.selects "PinKindChecks" y_K_remark y_K_remark ∈ wz := wz_at 1019 (by decide +kernel) rfl
theorem l_K_204 : Cond.methodLink "PinKindChecks" 204 y_K_aboutKey ∈ wz := wz_at 1022 (by decide +kernel) rfl
theorem s_K_aboutKey : Cond.static y_K_aboutKey ∈ wz := wz_at 1023 (by decide +kernel) rfl
theorem l_La_118 : Cond.methodLink "PinKindChecksLaw" 118 y_La_closed ∈ wz := wz_at 1025 (by decide +kernel) rfl
theorem s_La_closed : Cond.static y_La_closed ∈ wz := wz_at 1026 (by decide +kernel) rfl
theorem l_La_54 : Cond.methodLink "PinKindChecksLaw" 54 y_K_closed ∈ wz := wz_at 1028 (by decide +kernel) rfl
theorem i_K_closed : Cond.instanceMethod y_K_closed ∈ wz := wz_at 1029 (by decide +kernel) rfl
theorem q_K_K_closed_K : Cond.selects "PinKindChecks" y_K_closed y_K_closed ∈ wz := wz_at 1030 (by decide +kernel) rfl
theorem l_La_121 : Cond.methodLink "PinKindChecksLaw" 121 y_La_waive ∈ wz := wz_at 1033 (by decide +kernel) rfl
theorem s_La_waive : Cond.static y_La_waive ∈ wz := wz_at 1034 (by decide +kernel) rfl
theorem l_La_57 : Cond.methodLink "PinKindChecksLaw" 57 y_K_waive ∈ wz := wz_at 1036 (by decide +kernel) rfl
theorem i_K_waive : Cond.instanceMethod y_K_waive ∈ wz := wz_at 1037 (by decide +kernel) rfl
theorem q_K_K_waive_K : Cond.selects "PinKindChecks" y_K_waive y_K_waive ∈ wz := wz_at 1038 (by decide +kernel) rfl
theorem l_K_209 : Cond.methodLink "PinKindChecks" 209 y_Sc_thingOf ∈ wz := wz_at 1040 (by decide +kernel) rfl
theorem i_Sc_thingOf : Cond.instanceMethod y_Sc_thingOf ∈ wz := wz_at 1041 (by decide +kernel) rfl
theorem q_Sc_Sc_thingOf_Sc : Cond.selects "PinKindChecks$Schematic" y_Sc_thingOf y_Sc_thingOf ∈ wz := wz_at 1042 (by decide +kernel) rfl
theorem l_Sc_96 : Cond.methodLink "PinKindChecks$Schematic" 96 y_Sc_partAt ∈ wz := wz_at 1044 (by decide +kernel) rfl
theorem l_K_222 : Cond.methodLink "PinKindChecks" 222 y_Wv_setReason ∈ wz := wz_at 1047 (by decide +kernel) rfl
theorem i_Wv_setReason : Cond.instanceMethod y_Wv_setReason ∈ wz := wz_at 1048 (by decide +kernel) rfl
theorem q_Wv_Wv_setReason_Wv : Cond.selects "PinKindChecks$Waivers" y_Wv_setReason y_Wv_setReason ∈ wz := wz_at 1049 (by decide +kernel) rfl
theorem l_Wv_30 : Cond.methodLink "PinKindChecks$Waivers" 30 y_Wv_reasonFor ∈ wz := wz_at 1051 (by decide +kernel) rfl
theorem l_Wv_33 : Cond.methodLink "PinKindChecks$Waivers" 33 y_Wv_append ∈ wz := wz_at 1052 (by decide +kernel) rfl
theorem i_Wv_append : Cond.instanceMethod y_Wv_append ∈ wz := wz_at 1054 (by decide +kernel) rfl
theorem l_Wv_36 : Cond.methodLink "PinKindChecks$Waivers" 36 y_Wv_remove ∈ wz := wz_at 1056 (by decide +kernel) rfl
theorem i_Wv_remove : Cond.instanceMethod y_Wv_remove ∈ wz := wz_at 1058 (by decide +kernel) rfl
theorem t_La_62 : Cond.classLink "PinKindChecksLaw" 62 "PinKindChecksModel" ∈ wz := wz_at 1060 (by decide +kernel) rfl
theorem l_La_64 : Cond.methodLink "PinKindChecksLaw" 64 y_Mo_init ∈ wz := wz_at 1062 (by decide +kernel) rfl
theorem i_Mo_init : Cond.instanceMethod y_Mo_init ∈ wz := wz_at 1063 (by decide +kernel) rfl
theorem l_Mo_1 : Cond.methodLink "PinKindChecksModel" 1 ⟨"java/lang/Object", "<init>", "()V"⟩ ∈ wz := wz_at 1065 (by decide +kernel) rfl
theorem l_La_71 : Cond.methodLink "PinKindChecksLaw" 71 y_Mo_thrown ∈ wz := wz_at 1193 (by decide +kernel) rfl
theorem i_Mo_thrown : Cond.instanceMethod y_Mo_thrown ∈ wz := wz_at 1194 (by decide +kernel) rfl
theorem q_Mo_Mo_thrown_Mo : Cond.selects "PinKindChecksModel" y_Mo_thrown y_Mo_thrown ∈ wz := wz_at 1195 (by decide +kernel) rfl
theorem l_La_70 : Cond.methodLink "PinKindChecksLaw" 70 y_Mo_table ∈ wz := wz_at 1197 (by decide +kernel) rfl
theorem i_Mo_table : Cond.instanceMethod y_Mo_table ∈ wz := wz_at 1198 (by decide +kernel) rfl
theorem q_Mo_Mo_table_Mo : Cond.selects "PinKindChecksModel" y_Mo_table y_Mo_table ∈ wz := wz_at 1199 (by decide +kernel) rfl
theorem l_Mo_100 : Cond.methodLink "PinKindChecksModel" 100 y_Mo_isKind ∈ wz := wz_at 1201 (by decide +kernel) rfl
theorem s_Mo_isKind : Cond.static y_Mo_isKind ∈ wz := wz_at 1202 (by decide +kernel) rfl
theorem l_La_77 : Cond.methodLink "PinKindChecksLaw" 77 y_Mo_part ∈ wz := wz_at 1204 (by decide +kernel) rfl
theorem i_Mo_part : Cond.instanceMethod y_Mo_part ∈ wz := wz_at 1205 (by decide +kernel) rfl
theorem q_Mo_Mo_part_Mo : Cond.selects "PinKindChecksModel" y_Mo_part y_Mo_part ∈ wz := wz_at 1206 (by decide +kernel) rfl
theorem l_Mo_104 : Cond.methodLink "PinKindChecksModel" 104 y_Mo_isSheet ∈ wz := wz_at 1208 (by decide +kernel) rfl
theorem s_Mo_isSheet : Cond.static y_Mo_isSheet ∈ wz := wz_at 1209 (by decide +kernel) rfl
theorem l_La_81 : Cond.methodLink "PinKindChecksLaw" 81 y_Mo_net ∈ wz := wz_at 1211 (by decide +kernel) rfl
theorem i_Mo_net : Cond.instanceMethod y_Mo_net ∈ wz := wz_at 1212 (by decide +kernel) rfl
theorem q_Mo_Mo_net_Mo : Cond.selects "PinKindChecksModel" y_Mo_net y_Mo_net ∈ wz := wz_at 1213 (by decide +kernel) rfl
theorem l_La_84 : Cond.methodLink "PinKindChecksLaw" 84 y_Mo_pin ∈ wz := wz_at 1215 (by decide +kernel) rfl
theorem i_Mo_pin : Cond.instanceMethod y_Mo_pin ∈ wz := wz_at 1216 (by decide +kernel) rfl
theorem q_Mo_Mo_pin_Mo : Cond.selects "PinKindChecksModel" y_Mo_pin y_Mo_pin ∈ wz := wz_at 1217 (by decide +kernel) rfl
theorem l_Mo_107 : Cond.methodLink "PinKindChecksModel" 107 y_Mo_isPart ∈ wz := wz_at 1219 (by decide +kernel) rfl
theorem i_Mo_isPart : Cond.instanceMethod y_Mo_isPart ∈ wz := wz_at 1221 (by decide +kernel) rfl
theorem l_Mo_110 : Cond.methodLink "PinKindChecksModel" 110 y_Mo_isNet ∈ wz := wz_at 1223 (by decide +kernel) rfl
theorem i_Mo_isNet : Cond.instanceMethod y_Mo_isNet ∈ wz := wz_at 1225 (by decide +kernel) rfl
theorem l_La_87 : Cond.methodLink "PinKindChecksLaw" 87 y_Mo_join ∈ wz := wz_at 1227 (by decide +kernel) rfl
theorem i_Mo_join : Cond.instanceMethod y_Mo_join ∈ wz := wz_at 1228 (by decide +kernel) rfl
theorem q_Mo_Mo_join_Mo : Cond.selects "PinKindChecksModel" y_Mo_join y_Mo_join ∈ wz := wz_at 1229 (by decide +kernel) rfl
theorem l_La_93 : Cond.methodLink "PinKindChecksLaw" 93 y_Mo_field ∈ wz := wz_at 1231 (by decide +kernel) rfl
theorem i_Mo_field : Cond.instanceMethod y_Mo_field ∈ wz := wz_at 1232 (by decide +kernel) rfl
theorem q_Mo_Mo_field_Mo : Cond.selects "PinKindChecksModel" y_Mo_field y_Mo_field ∈ wz := wz_at 1233 (by decide +kernel) rfl
theorem l_La_97 : Cond.methodLink "PinKindChecksLaw" 97 y_Mo_end ∈ wz := wz_at 1235 (by decide +kernel) rfl
theorem i_Mo_end : Cond.instanceMethod y_Mo_end ∈ wz := wz_at 1236 (by decide +kernel) rfl
theorem q_Mo_Mo_end_Mo : Cond.selects "PinKindChecksModel" y_Mo_end y_Mo_end ∈ wz := wz_at 1237 (by decide +kernel) rfl
theorem l_La_102 : Cond.methodLink "PinKindChecksLaw" 102 y_Mo_unit ∈ wz := wz_at 1239 (by decide +kernel) rfl
theorem i_Mo_unit : Cond.instanceMethod y_Mo_unit ∈ wz := wz_at 1240 (by decide +kernel) rfl
theorem q_Mo_Mo_unit_Mo : Cond.selects "PinKindChecksModel" y_Mo_unit y_Mo_unit ∈ wz := wz_at 1241 (by decide +kernel) rfl
theorem l_La_106 : Cond.methodLink "PinKindChecksLaw" 106 y_Mo_rule ∈ wz := wz_at 1243 (by decide +kernel) rfl
theorem i_Mo_rule : Cond.instanceMethod y_Mo_rule ∈ wz := wz_at 1244 (by decide +kernel) rfl
theorem q_Mo_Mo_rule_Mo : Cond.selects "PinKindChecksModel" y_Mo_rule y_Mo_rule ∈ wz := wz_at 1245 (by decide +kernel) rfl
theorem l_Mo_213 : Cond.methodLink "PinKindChecksModel" 213 y_Mo_reads ∈ wz := wz_at 1247 (by decide +kernel) rfl
theorem i_Mo_reads : Cond.instanceMethod y_Mo_reads ∈ wz := wz_at 1249 (by decide +kernel) rfl
theorem l_Mo_164 : Cond.methodLink "PinKindChecksModel" 164 y_Mo_nextWord ∈ wz := wz_at 1251 (by decide +kernel) rfl
theorem i_Mo_nextWord : Cond.instanceMethod y_Mo_nextWord ∈ wz := wz_at 1253 (by decide +kernel) rfl
theorem l_Mo_145 : Cond.methodLink "PinKindChecksModel" 145 y_Mo_spelt ∈ wz := wz_at 1255 (by decide +kernel) rfl
theorem i_Mo_spelt : Cond.instanceMethod y_Mo_spelt ∈ wz := wz_at 1257 (by decide +kernel) rfl
theorem l_Mo_157 : Cond.methodLink "PinKindChecksModel" 157 y_Mo_word ∈ wz := wz_at 1259 (by decide +kernel) rfl
theorem s_Mo_word : Cond.static y_Mo_word ∈ wz := wz_at 1260 (by decide +kernel) rfl
theorem l_Mo_207 : Cond.methodLink "PinKindChecksModel" 207 y_Mo_takes ∈ wz := wz_at 1262 (by decide +kernel) rfl
theorem i_Mo_takes : Cond.instanceMethod y_Mo_takes ∈ wz := wz_at 1264 (by decide +kernel) rfl
theorem l_Mo_199 : Cond.methodLink "PinKindChecksModel" 199 y_Mo_takesSign ∈ wz := wz_at 1266 (by decide +kernel) rfl
theorem i_Mo_takesSign : Cond.instanceMethod y_Mo_takesSign ∈ wz := wz_at 1268 (by decide +kernel) rfl
theorem l_Mo_181 : Cond.methodLink "PinKindChecksModel" 181 y_Mo_signAt ∈ wz := wz_at 1270 (by decide +kernel) rfl
theorem i_Mo_signAt : Cond.instanceMethod y_Mo_signAt ∈ wz := wz_at 1272 (by decide +kernel) rfl
theorem v_Mo_167 : Cond.constantLong "PinKindChecksModel" 167 (42) ∈ wz := wz_at 1274 (by decide +kernel) rfl
theorem v_Mo_169 : Cond.constantLong "PinKindChecksModel" 169 (43) ∈ wz := wz_at 1275 (by decide +kernel) rfl
theorem v_Mo_171 : Cond.constantLong "PinKindChecksModel" 171 (45) ∈ wz := wz_at 1276 (by decide +kernel) rfl
theorem v_Mo_173 : Cond.constantLong "PinKindChecksModel" 173 (61) ∈ wz := wz_at 1277 (by decide +kernel) rfl
theorem v_Mo_175 : Cond.constantLong "PinKindChecksModel" 175 (35) ∈ wz := wz_at 1278 (by decide +kernel) rfl
theorem v_Mo_177 : Cond.constantLong "PinKindChecksModel" 177 (60) ∈ wz := wz_at 1279 (by decide +kernel) rfl
theorem v_Mo_179 : Cond.constantLong "PinKindChecksModel" 179 (62) ∈ wz := wz_at 1280 (by decide +kernel) rfl
theorem l_Mo_137 : Cond.methodLink "PinKindChecksModel" 137 y_Mo_rank ∈ wz := wz_at 1281 (by decide +kernel) rfl
theorem s_Mo_rank : Cond.static y_Mo_rank ∈ wz := wz_at 1282 (by decide +kernel) rfl
theorem l_Mo_187 : Cond.methodLink "PinKindChecksModel" 187 y_Mo_release ∈ wz := wz_at 1284 (by decide +kernel) rfl
theorem i_Mo_release : Cond.instanceMethod y_Mo_release ∈ wz := wz_at 1286 (by decide +kernel) rfl
theorem l_Mo_141 : Cond.methodLink "PinKindChecksModel" 141 y_Mo_put ∈ wz := wz_at 1288 (by decide +kernel) rfl
theorem i_Mo_put : Cond.instanceMethod y_Mo_put ∈ wz := wz_at 1290 (by decide +kernel) rfl
theorem l_Mo_191 : Cond.methodLink "PinKindChecksModel" 191 y_Mo_wait ∈ wz := wz_at 1292 (by decide +kernel) rfl
theorem i_Mo_wait : Cond.instanceMethod y_Mo_wait ∈ wz := wz_at 1294 (by decide +kernel) rfl
theorem v_Mo_194 : Cond.constantLong "PinKindChecksModel" 194 (41) ∈ wz := wz_at 1296 (by decide +kernel) rfl
theorem v_Mo_202 : Cond.constantLong "PinKindChecksModel" 202 (40) ∈ wz := wz_at 1297 (by decide +kernel) rfl
theorem l_Mo_204 : Cond.methodLink "PinKindChecksModel" 204 y_Mo_isTerm ∈ wz := wz_at 1298 (by decide +kernel) rfl
theorem i_Mo_isTerm : Cond.instanceMethod y_Mo_isTerm ∈ wz := wz_at 1300 (by decide +kernel) rfl
theorem l_Mo_149 : Cond.methodLink "PinKindChecksModel" 149 y_Mo_isNumber ∈ wz := wz_at 1302 (by decide +kernel) rfl
theorem i_Mo_isNumber : Cond.instanceMethod y_Mo_isNumber ∈ wz := wz_at 1304 (by decide +kernel) rfl
theorem l_Mo_153 : Cond.methodLink "PinKindChecksModel" 153 y_Mo_value ∈ wz := wz_at 1306 (by decide +kernel) rfl
theorem i_Mo_value : Cond.instanceMethod y_Mo_value ∈ wz := wz_at 1308 (by decide +kernel) rfl
theorem l_Mo_161 : Cond.methodLink "PinKindChecksModel" 161 y_Mo_isDigitNext ∈ wz := wz_at 1310 (by decide +kernel) rfl
theorem i_Mo_isDigitNext : Cond.instanceMethod y_Mo_isDigitNext ∈ wz := wz_at 1312 (by decide +kernel) rfl
theorem l_La_114 : Cond.methodLink "PinKindChecksLaw" 114 y_Mo_run ∈ wz := wz_at 1314 (by decide +kernel) rfl
theorem i_Mo_run : Cond.instanceMethod y_Mo_run ∈ wz := wz_at 1315 (by decide +kernel) rfl
theorem q_Mo_Mo_run_Mo : Cond.selects "PinKindChecksModel" y_Mo_run y_Mo_run ∈ wz := wz_at 1316 (by decide +kernel) rfl
theorem l_Mo_252 : Cond.methodLink "PinKindChecksModel" 252 y_Mo_many ∈ wz := wz_at 1318 (by decide +kernel) rfl
theorem i_Mo_many : Cond.instanceMethod y_Mo_many ∈ wz := wz_at 1320 (by decide +kernel) rfl
theorem l_Mo_255 : Cond.methodLink "PinKindChecksModel" 255 y_Mo_thing ∈ wz := wz_at 1322 (by decide +kernel) rfl
theorem s_Mo_thing : Cond.static y_Mo_thing ∈ wz := wz_at 1323 (by decide +kernel) rfl
theorem l_Mo_258 : Cond.methodLink "PinKindChecksModel" 258 y_Mo_found ∈ wz := wz_at 1325 (by decide +kernel) rfl
theorem i_Mo_found : Cond.instanceMethod y_Mo_found ∈ wz := wz_at 1327 (by decide +kernel) rfl
theorem l_Mo_239 : Cond.methodLink "PinKindChecksModel" 239 y_Mo_holds ∈ wz := wz_at 1329 (by decide +kernel) rfl
theorem i_Mo_holds : Cond.instanceMethod y_Mo_holds ∈ wz := wz_at 1331 (by decide +kernel) rfl
theorem l_Mo_229 : Cond.methodLink "PinKindChecksModel" 229 y_Mo_term ∈ wz := wz_at 1333 (by decide +kernel) rfl
theorem i_Mo_term : Cond.instanceMethod y_Mo_term ∈ wz := wz_at 1335 (by decide +kernel) rfl
theorem l_Mo_216 : Cond.methodLink "PinKindChecksModel" 216 y_Mo_partOf ∈ wz := wz_at 1337 (by decide +kernel) rfl
theorem i_Mo_partOf : Cond.instanceMethod y_Mo_partOf ∈ wz := wz_at 1339 (by decide +kernel) rfl
theorem l_Mo_220 : Cond.methodLink "PinKindChecksModel" 220 y_Mo_pinsOf ∈ wz := wz_at 1341 (by decide +kernel) rfl
theorem i_Mo_pinsOf : Cond.instanceMethod y_Mo_pinsOf ∈ wz := wz_at 1343 (by decide +kernel) rfl
theorem v_Mo_224 : Cond.constantLong "PinKindChecksModel" 224 (-1) ∈ wz := wz_at 1345 (by decide +kernel) rfl
theorem l_Mo_226 : Cond.methodLink "PinKindChecksModel" 226 y_Mo_sheetOf ∈ wz := wz_at 1346 (by decide +kernel) rfl
theorem i_Mo_sheetOf : Cond.instanceMethod y_Mo_sheetOf ∈ wz := wz_at 1348 (by decide +kernel) rfl
theorem l_Mo_233 : Cond.methodLink "PinKindChecksModel" 233 y_Mo_result ∈ wz := wz_at 1350 (by decide +kernel) rfl
theorem s_Mo_result : Cond.static y_Mo_result ∈ wz := wz_at 1351 (by decide +kernel) rfl
theorem l_Mo_243 : Cond.methodLink "PinKindChecksModel" 243 y_Mo_worst ∈ wz := wz_at 1353 (by decide +kernel) rfl
theorem i_Mo_worst : Cond.instanceMethod y_Mo_worst ∈ wz := wz_at 1355 (by decide +kernel) rfl
theorem l_Mo_246 : Cond.methodLink "PinKindChecksModel" 246 y_Mo_isNamedBefore ∈ wz := wz_at 1357 (by decide +kernel) rfl
theorem i_Mo_isNamedBefore : Cond.instanceMethod y_Mo_isNamedBefore ∈ wz := wz_at 1359 (by decide +kernel) rfl
theorem l_Mo_249 : Cond.methodLink "PinKindChecksModel" 249 y_Mo_isOffGrid ∈ wz := wz_at 1361 (by decide +kernel) rfl
theorem i_Mo_isOffGrid : Cond.instanceMethod y_Mo_isOffGrid ∈ wz := wz_at 1363 (by decide +kernel) rfl
theorem v_Mo_237 : Cond.constantLong "PinKindChecksModel" 237 (100) ∈ wz := wz_at 1365 (by decide +kernel) rfl
theorem l_Mo_261 : Cond.methodLink "PinKindChecksModel" 261 y_Mo_reason ∈ wz := wz_at 1366 (by decide +kernel) rfl
theorem i_Mo_reason : Cond.instanceMethod y_Mo_reason ∈ wz := wz_at 1368 (by decide +kernel) rfl
theorem l_La_117 : Cond.methodLink "PinKindChecksLaw" 117 y_Mo_remark ∈ wz := wz_at 1370 (by decide +kernel) rfl
theorem i_Mo_remark : Cond.instanceMethod y_Mo_remark ∈ wz := wz_at 1371 (by decide +kernel) rfl
theorem q_Mo_Mo_remark_Mo : Cond.selects "PinKindChecksModel" y_Mo_remark y_Mo_remark ∈ wz := wz_at 1372 (by decide +kernel) rfl
theorem l_Mo_271 : Cond.methodLink "PinKindChecksModel" 271 y_Mo_remarkAt ∈ wz := wz_at 1374 (by decide +kernel) rfl
theorem i_Mo_remarkAt : Cond.instanceMethod y_Mo_remarkAt ∈ wz := wz_at 1376 (by decide +kernel) rfl
theorem l_Mo_275 : Cond.methodLink "PinKindChecksModel" 275 y_Mo_kindOf ∈ wz := wz_at 1378 (by decide +kernel) rfl
theorem s_Mo_kindOf : Cond.static y_Mo_kindOf ∈ wz := wz_at 1379 (by decide +kernel) rfl
theorem l_Mo_278 : Cond.methodLink "PinKindChecksModel" 278 y_Mo_numberOf ∈ wz := wz_at 1381 (by decide +kernel) rfl
theorem s_Mo_numberOf : Cond.static y_Mo_numberOf ∈ wz := wz_at 1382 (by decide +kernel) rfl
theorem l_La_120 : Cond.methodLink "PinKindChecksLaw" 120 y_Mo_closed ∈ wz := wz_at 1384 (by decide +kernel) rfl
theorem i_Mo_closed : Cond.instanceMethod y_Mo_closed ∈ wz := wz_at 1385 (by decide +kernel) rfl
theorem q_Mo_Mo_closed_Mo : Cond.selects "PinKindChecksModel" y_Mo_closed y_Mo_closed ∈ wz := wz_at 1386 (by decide +kernel) rfl
theorem l_La_110 : Cond.methodLink "PinKindChecksLaw" 110 y_Mo_off ∈ wz := wz_at 1388 (by decide +kernel) rfl
theorem i_Mo_off : Cond.instanceMethod y_Mo_off ∈ wz := wz_at 1389 (by decide +kernel) rfl
theorem q_Mo_Mo_off_Mo : Cond.selects "PinKindChecksModel" y_Mo_off y_Mo_off ∈ wz := wz_at 1390 (by decide +kernel) rfl
theorem l_Mo_281 : Cond.methodLink "PinKindChecksModel" 281 y_Mo_isRule ∈ wz := wz_at 1392 (by decide +kernel) rfl
theorem i_Mo_isRule : Cond.instanceMethod y_Mo_isRule ∈ wz := wz_at 1394 (by decide +kernel) rfl
theorem l_La_124 : Cond.methodLink "PinKindChecksLaw" 124 y_Mo_waive ∈ wz := wz_at 1396 (by decide +kernel) rfl
theorem i_Mo_waive : Cond.instanceMethod y_Mo_waive ∈ wz := wz_at 1397 (by decide +kernel) rfl
theorem q_Mo_Mo_waive_Mo : Cond.selects "PinKindChecksModel" y_Mo_waive y_Mo_waive ∈ wz := wz_at 1398 (by decide +kernel) rfl
theorem l_La_128 : Cond.methodLink "PinKindChecksLaw" 128 y_Mo_next ∈ wz := wz_at 1400 (by decide +kernel) rfl
theorem i_Mo_next : Cond.instanceMethod y_Mo_next ∈ wz := wz_at 1401 (by decide +kernel) rfl
theorem q_Mo_Mo_next_Mo : Cond.selects "PinKindChecksModel" y_Mo_next y_Mo_next ∈ wz := wz_at 1402 (by decide +kernel) rfl
theorem l_La_132 : Cond.methodLink "PinKindChecksLaw" 132 y_Mo_offRule ∈ wz := wz_at 1404 (by decide +kernel) rfl
theorem i_Mo_offRule : Cond.instanceMethod y_Mo_offRule ∈ wz := wz_at 1405 (by decide +kernel) rfl
theorem q_Mo_Mo_offRule_Mo : Cond.selects "PinKindChecksModel" y_Mo_offRule y_Mo_offRule ∈ wz := wz_at 1406 (by decide +kernel) rfl
theorem l_La_136 : Cond.methodLink "PinKindChecksLaw" 136 y_Mo_clear ∈ wz := wz_at 1408 (by decide +kernel) rfl
theorem i_Mo_clear : Cond.instanceMethod y_Mo_clear ∈ wz := wz_at 1409 (by decide +kernel) rfl
theorem q_Mo_Mo_clear_Mo : Cond.selects "PinKindChecksModel" y_Mo_clear y_Mo_clear ∈ wz := wz_at 1410 (by decide +kernel) rfl
theorem v_La_88 : Cond.constantLong "PinKindChecksLaw" 88 (4294967295) ∈ wz := wz_at 1412 (by decide +kernel) rfl
theorem e_Ph_Ph_pinsOfKind : Cond.sameMethod "PinKindChecks$PinHolder" "PinKindChecks$PinHolder" "pinsOfKind" "(I)I" ∈ wz := wz_at 1413 (by decide +kernel) rfl
theorem q_Ne_Ph_pinsOfKind_Ph : Cond.selects "PinKindChecks$Net" y_Ph_pinsOfKind y_Ph_pinsOfKind ∈ wz := wz_at 1414 (by decide +kernel) rfl
theorem q_Pa_Ph_pinsOfKind_Ph : Cond.selects "PinKindChecks$Part" y_Ph_pinsOfKind y_Ph_pinsOfKind ∈ wz := wz_at 1415 (by decide +kernel) rfl
theorem h_Pa_Pa : Cond.castable "PinKindChecks$Part" "PinKindChecks$Part" ∈ wn := wn_at 1417 (by decide +kernel) rfl
theorem h_Ne_Ne : Cond.castable "PinKindChecks$Net" "PinKindChecks$Net" ∈ wn := wn_at 1418 (by decide +kernel) rfl
theorem h_Pi_Pi : Cond.castable "PinKindChecks$Pin" "PinKindChecks$Pin" ∈ wn := wn_at 1419 (by decide +kernel) rfl
theorem h_Ne_Th : Cond.castable "PinKindChecks$Net" "PinKindChecks$Thing" ∈ wn := wn_at 1420 (by decide +kernel) rfl
theorem h_Pa_Th : Cond.castable "PinKindChecks$Part" "PinKindChecks$Thing" ∈ wn := wn_at 1421 (by decide +kernel) rfl
theorem h_Pi_Th : Cond.castable "PinKindChecks$Pin" "PinKindChecks$Thing" ∈ wn := wn_at 1422 (by decide +kernel) rfl
theorem z_Th_keyWith : zDecl ⟨"PinKindChecks$Thing", "keyWith", "(I)I"⟩ := Or.inr ⟨i_Th_keyWith, _, _, _, k_Th_keyWith.1⟩
theorem z_Th_isBefore : zDecl ⟨"PinKindChecks$Thing", "isBefore", "(LPinKindChecks$Thing;)Z"⟩ := Or.inr ⟨i_Th_isBefore, _, _, _, k_Th_isBefore.1⟩
theorem p_K_checkThing : Cond.selects "PinKindChecks" y_K_checkThing y_K_checkThing ∈ wz := wz_priv (n := 11) (y := y_K_checkThing) 0 (by decide +kernel)
theorem p_K_ruleCount : Cond.selects "PinKindChecks" y_K_ruleCount y_K_ruleCount ∈ wz := wz_priv (n := 11) (y := y_K_ruleCount) 1 (by decide +kernel)
theorem p_K_weightOf : Cond.selects "PinKindChecks" y_K_weightOf y_K_weightOf ∈ wz := wz_priv (n := 11) (y := y_K_weightOf) 2 (by decide +kernel)
theorem p_Sc_verdictOf : Cond.selects "PinKindChecks$Schematic" y_Sc_verdictOf y_Sc_verdictOf ∈ wz := wz_priv (n := 9) (y := y_Sc_verdictOf) 3 (by decide +kernel)
theorem p_Rm_grow : Cond.selects "PinKindChecks$Remarks" y_Rm_grow y_Rm_grow ∈ wz := wz_priv (n := 4) (y := y_Rm_grow) 4 (by decide +kernel)
theorem p_K_compareWithBefore : Cond.selects "PinKindChecks" y_K_compareWithBefore y_K_compareWithBefore ∈ wz := wz_priv (n := 11) (y := y_K_compareWithBefore) 5 (by decide +kernel)
theorem p_K_countOpen : Cond.selects "PinKindChecks" y_K_countOpen y_K_countOpen ∈ wz := wz_priv (n := 11) (y := y_K_countOpen) 6 (by decide +kernel)
theorem p_Wv_indexOf : Cond.selects "PinKindChecks$Waivers" y_Wv_indexOf y_Wv_indexOf ∈ wz := wz_priv (n := 3) (y := y_Wv_indexOf) 7 (by decide +kernel)
theorem p_Sc_putInOrder : Cond.selects "PinKindChecks$Schematic" y_Sc_putInOrder y_Sc_putInOrder ∈ wz := wz_priv (n := 9) (y := y_Sc_putInOrder) 9 (by decide +kernel)
theorem p_K_isNetOrNone : Cond.selects "PinKindChecks" y_K_isNetOrNone y_K_isNetOrNone ∈ wz := wz_priv (n := 11) (y := y_K_isNetOrNone) 10 (by decide +kernel)
theorem p_Rd_start : Cond.selects "PinKindChecks$RuleReader" y_Rd_start y_Rd_start ∈ wz := wz_priv (n := 12) (y := y_Rd_start) 11 (by decide +kernel)
theorem p_Rd_takeWord : Cond.selects "PinKindChecks$RuleReader" y_Rd_takeWord y_Rd_takeWord ∈ wz := wz_priv (n := 12) (y := y_Rd_takeWord) 12 (by decide +kernel)
theorem p_Rd_takeSubject : Cond.selects "PinKindChecks$RuleReader" y_Rd_takeSubject y_Rd_takeSubject ∈ wz := wz_priv (n := 12) (y := y_Rd_takeSubject) 13 (by decide +kernel)
theorem p_Rd_takeWeight : Cond.selects "PinKindChecks$RuleReader" y_Rd_takeWeight y_Rd_takeWeight ∈ wz := wz_priv (n := 12) (y := y_Rd_takeWeight) 14 (by decide +kernel)
theorem p_Rd_takeNot : Cond.selects "PinKindChecks$RuleReader" y_Rd_takeNot y_Rd_takeNot ∈ wz := wz_priv (n := 12) (y := y_Rd_takeNot) 15 (by decide +kernel)
theorem p_Rd_putOff : Cond.selects "PinKindChecks$RuleReader" y_Rd_putOff y_Rd_putOff ∈ wz := wz_priv (n := 12) (y := y_Rd_putOff) 16 (by decide +kernel)
theorem p_Rd_takeOpening : Cond.selects "PinKindChecks$RuleReader" y_Rd_takeOpening y_Rd_takeOpening ∈ wz := wz_priv (n := 12) (y := y_Rd_takeOpening) 17 (by decide +kernel)
theorem p_Rd_takeTerm : Cond.selects "PinKindChecks$RuleReader" y_Rd_takeTerm y_Rd_takeTerm ∈ wz := wz_priv (n := 12) (y := y_Rd_takeTerm) 18 (by decide +kernel)
theorem p_Rd_takeNumber : Cond.selects "PinKindChecks$RuleReader" y_Rd_takeNumber y_Rd_takeNumber ∈ wz := wz_priv (n := 12) (y := y_Rd_takeNumber) 19 (by decide +kernel)
theorem p_Rd_putTerm : Cond.selects "PinKindChecks$RuleReader" y_Rd_putTerm y_Rd_putTerm ∈ wz := wz_priv (n := 12) (y := y_Rd_putTerm) 20 (by decide +kernel)
theorem p_Rd_putOut : Cond.selects "PinKindChecks$RuleReader" y_Rd_putOut y_Rd_putOut ∈ wz := wz_priv (n := 12) (y := y_Rd_putOut) 21 (by decide +kernel)
theorem p_Rd_takeField : Cond.selects "PinKindChecks$RuleReader" y_Rd_takeField y_Rd_takeField ∈ wz := wz_priv (n := 12) (y := y_Rd_takeField) 22 (by decide +kernel)
theorem p_Rd_plainTerm : Cond.selects "PinKindChecks$RuleReader" y_Rd_plainTerm y_Rd_plainTerm ∈ wz := wz_priv (n := 12) (y := y_Rd_plainTerm) 23 (by decide +kernel)
theorem p_Rd_takeKind : Cond.selects "PinKindChecks$RuleReader" y_Rd_takeKind y_Rd_takeKind ∈ wz := wz_priv (n := 12) (y := y_Rd_takeKind) 24 (by decide +kernel)
theorem p_Rd_takeOperator : Cond.selects "PinKindChecks$RuleReader" y_Rd_takeOperator y_Rd_takeOperator ∈ wz := wz_priv (n := 12) (y := y_Rd_takeOperator) 25 (by decide +kernel)
theorem p_Rd_operatorOfWord : Cond.selects "PinKindChecks$RuleReader" y_Rd_operatorOfWord y_Rd_operatorOfWord ∈ wz := wz_priv (n := 12) (y := y_Rd_operatorOfWord) 26 (by decide +kernel)
theorem p_Rd_isBehindCondition : Cond.selects "PinKindChecks$RuleReader" y_Rd_isBehindCondition y_Rd_isBehindCondition ∈ wz := wz_priv (n := 12) (y := y_Rd_isBehindCondition) 27 (by decide +kernel)
theorem p_Rd_putOutDownTo : Cond.selects "PinKindChecks$RuleReader" y_Rd_putOutDownTo y_Rd_putOutDownTo ∈ wz := wz_priv (n := 12) (y := y_Rd_putOutDownTo) 28 (by decide +kernel)
theorem p_Rd_takeClosing : Cond.selects "PinKindChecks$RuleReader" y_Rd_takeClosing y_Rd_takeClosing ∈ wz := wz_priv (n := 12) (y := y_Rd_takeClosing) 29 (by decide +kernel)
theorem p_Rd_dropOpening : Cond.selects "PinKindChecks$RuleReader" y_Rd_dropOpening y_Rd_dropOpening ∈ wz := wz_priv (n := 12) (y := y_Rd_dropOpening) 30 (by decide +kernel)
theorem p_K_isRule : Cond.selects "PinKindChecks" y_K_isRule y_K_isRule ∈ wz := wz_priv (n := 11) (y := y_K_isRule) 31 (by decide +kernel)
theorem p_Wv_append : Cond.selects "PinKindChecks$Waivers" y_Wv_append y_Wv_append ∈ wz := wz_priv (n := 3) (y := y_Wv_append) 32 (by decide +kernel)
theorem p_Wv_remove : Cond.selects "PinKindChecks$Waivers" y_Wv_remove y_Wv_remove ∈ wz := wz_priv (n := 3) (y := y_Wv_remove) 33 (by decide +kernel)
theorem p_Mo_isPart : Cond.selects "PinKindChecksModel" y_Mo_isPart y_Mo_isPart ∈ wz := wz_priv (n := 42) (y := y_Mo_isPart) 34 (by decide +kernel)
theorem p_Mo_isNet : Cond.selects "PinKindChecksModel" y_Mo_isNet y_Mo_isNet ∈ wz := wz_priv (n := 42) (y := y_Mo_isNet) 35 (by decide +kernel)
theorem p_Mo_reads : Cond.selects "PinKindChecksModel" y_Mo_reads y_Mo_reads ∈ wz := wz_priv (n := 42) (y := y_Mo_reads) 36 (by decide +kernel)
theorem p_Mo_nextWord : Cond.selects "PinKindChecksModel" y_Mo_nextWord y_Mo_nextWord ∈ wz := wz_priv (n := 42) (y := y_Mo_nextWord) 37 (by decide +kernel)
theorem p_Mo_spelt : Cond.selects "PinKindChecksModel" y_Mo_spelt y_Mo_spelt ∈ wz := wz_priv (n := 42) (y := y_Mo_spelt) 38 (by decide +kernel)
theorem p_Mo_takes : Cond.selects "PinKindChecksModel" y_Mo_takes y_Mo_takes ∈ wz := wz_priv (n := 42) (y := y_Mo_takes) 39 (by decide +kernel)
theorem p_Mo_takesSign : Cond.selects "PinKindChecksModel" y_Mo_takesSign y_Mo_takesSign ∈ wz := wz_priv (n := 42) (y := y_Mo_takesSign) 40 (by decide +kernel)
theorem p_Mo_signAt : Cond.selects "PinKindChecksModel" y_Mo_signAt y_Mo_signAt ∈ wz := wz_priv (n := 42) (y := y_Mo_signAt) 41 (by decide +kernel)
theorem p_Mo_release : Cond.selects "PinKindChecksModel" y_Mo_release y_Mo_release ∈ wz := wz_priv (n := 42) (y := y_Mo_release) 42 (by decide +kernel)
theorem p_Mo_put : Cond.selects "PinKindChecksModel" y_Mo_put y_Mo_put ∈ wz := wz_priv (n := 42) (y := y_Mo_put) 43 (by decide +kernel)
theorem p_Mo_wait : Cond.selects "PinKindChecksModel" y_Mo_wait y_Mo_wait ∈ wz := wz_priv (n := 42) (y := y_Mo_wait) 44 (by decide +kernel)
theorem p_Mo_isTerm : Cond.selects "PinKindChecksModel" y_Mo_isTerm y_Mo_isTerm ∈ wz := wz_priv (n := 42) (y := y_Mo_isTerm) 45 (by decide +kernel)
theorem p_Mo_isNumber : Cond.selects "PinKindChecksModel" y_Mo_isNumber y_Mo_isNumber ∈ wz := wz_priv (n := 42) (y := y_Mo_isNumber) 46 (by decide +kernel)
theorem p_Mo_value : Cond.selects "PinKindChecksModel" y_Mo_value y_Mo_value ∈ wz := wz_priv (n := 42) (y := y_Mo_value) 47 (by decide +kernel)
theorem p_Mo_isDigitNext : Cond.selects "PinKindChecksModel" y_Mo_isDigitNext y_Mo_isDigitNext ∈ wz := wz_priv (n := 42) (y := y_Mo_isDigitNext) 48 (by decide +kernel)
theorem p_Mo_many : Cond.selects "PinKindChecksModel" y_Mo_many y_Mo_many ∈ wz := wz_priv (n := 42) (y := y_Mo_many) 49 (by decide +kernel)
theorem p_Mo_found : Cond.selects "PinKindChecksModel" y_Mo_found y_Mo_found ∈ wz := wz_priv (n := 42) (y := y_Mo_found) 50 (by decide +kernel)
theorem p_Mo_holds : Cond.selects "PinKindChecksModel" y_Mo_holds y_Mo_holds ∈ wz := wz_priv (n := 42) (y := y_Mo_holds) 51 (by decide +kernel)
theorem p_Mo_term : Cond.selects "PinKindChecksModel" y_Mo_term y_Mo_term ∈ wz := wz_priv (n := 42) (y := y_Mo_term) 52 (by decide +kernel)
theorem p_Mo_partOf : Cond.selects "PinKindChecksModel" y_Mo_partOf y_Mo_partOf ∈ wz := wz_priv (n := 42) (y := y_Mo_partOf) 53 (by decide +kernel)
theorem p_Mo_pinsOf : Cond.selects "PinKindChecksModel" y_Mo_pinsOf y_Mo_pinsOf ∈ wz := wz_priv (n := 42) (y := y_Mo_pinsOf) 54 (by decide +kernel)
theorem p_Mo_sheetOf : Cond.selects "PinKindChecksModel" y_Mo_sheetOf y_Mo_sheetOf ∈ wz := wz_priv (n := 42) (y := y_Mo_sheetOf) 55 (by decide +kernel)
theorem p_Mo_worst : Cond.selects "PinKindChecksModel" y_Mo_worst y_Mo_worst ∈ wz := wz_priv (n := 42) (y := y_Mo_worst) 56 (by decide +kernel)
theorem p_Mo_isNamedBefore : Cond.selects "PinKindChecksModel" y_Mo_isNamedBefore y_Mo_isNamedBefore ∈ wz := wz_priv (n := 42) (y := y_Mo_isNamedBefore) 57 (by decide +kernel)
theorem p_Mo_isOffGrid : Cond.selects "PinKindChecksModel" y_Mo_isOffGrid y_Mo_isOffGrid ∈ wz := wz_priv (n := 42) (y := y_Mo_isOffGrid) 58 (by decide +kernel)
theorem p_Mo_reason : Cond.selects "PinKindChecksModel" y_Mo_reason y_Mo_reason ∈ wz := wz_priv (n := 42) (y := y_Mo_reason) 59 (by decide +kernel)
theorem p_Mo_remarkAt : Cond.selects "PinKindChecksModel" y_Mo_remarkAt y_Mo_remarkAt ∈ wz := wz_priv (n := 42) (y := y_Mo_remarkAt) 60 (by decide +kernel)
theorem p_Mo_isRule : Cond.selects "PinKindChecksModel" y_Mo_isRule y_Mo_isRule ∈ wz := wz_priv (n := 42) (y := y_Mo_isRule) 61 (by decide +kernel)
theorem u_K : ∀ v ∈ u_ws "PinKindChecks" T_K 11, v ∈ wz := wz_all _ [190, 192, 194, 196, 198, 200, 202, 204, 206, 208, 210] (by decide +kernel) (by decide +kernel)
theorem u_Sc : ∀ v ∈ u_ws "PinKindChecks$Schematic" T_Sc 9, v ∈ wz := wz_all _ [58, 60, 62, 64, 66, 68, 70, 72, 74] (by decide +kernel) (by decide +kernel)
theorem u_Tx : ∀ v ∈ u_ws "PinKindChecks$RuleText" T_Tx 4, v ∈ wz := wz_all _ [94, 96, 98, 100] (by decide +kernel) (by decide +kernel)
theorem u_Rd : ∀ v ∈ u_ws "PinKindChecks$RuleReader" T_Rd 12, v ∈ wz := wz_all _ [116, 118, 120, 122, 124, 126, 128, 130, 132, 134, 136, 138] (by decide +kernel) (by decide +kernel)
theorem u_Wv : ∀ v ∈ u_ws "PinKindChecks$Waivers" T_Wv 3, v ∈ wz := wz_all _ [152, 154, 156] (by decide +kernel) (by decide +kernel)
theorem u_Rm : ∀ v ∈ u_ws "PinKindChecks$Remarks" T_Rm 4, v ∈ wz := wz_all _ [170, 172, 174, 176] (by decide +kernel) (by decide +kernel)
theorem u_Pa : ∀ v ∈ u_ws "PinKindChecks$Part" T_Pa 5, v ∈ wz := wz_all _ [619, 621, 615, 617, 613] (by decide +kernel) (by decide +kernel)
theorem u_Ne : ∀ v ∈ u_ws "PinKindChecks$Net" T_Ne 6, v ∈ wz := wz_all _ [663, 664, 661, 662, 657, 659] (by decide +kernel) (by decide +kernel)
theorem u_Pi : ∀ v ∈ u_ws "PinKindChecks$Pin" T_Pi 5, v ∈ wz := wz_all _ [705, 706, 699, 701, 703] (by decide +kernel) (by decide +kernel)
theorem u_Tr : ∀ v ∈ u_ws "PinKindChecks$ToldRule" T_Tr 4, v ∈ wz := wz_all _ [989, 991, 993, 995] (by decide +kernel) (by decide +kernel)
theorem u_Mo : ∀ v ∈ u_ws "PinKindChecksModel" T_Mo 42, v ∈ wz := wz_all _ [1108, 1110, 1112, 1114, 1116, 1118, 1120, 1122, 1124, 1126, 1128, 1130, 1132, 1134, 1136, 1138, 1140, 1142, 1144, 1146, 1148, 1150, 1152, 1154, 1156, 1158, 1160, 1162, 1164, 1166, 1168, 1170, 1172, 1174, 1176, 1178, 1180, 1182, 1184, 1186, 1188, 1190] (by decide +kernel) (by decide +kernel)
theorem x_Sc_9 : Cond.fieldLink "PinKindChecks$Schematic" 9 "PinKindChecks$Schematic" "verdicts" "[I" ∈ wz := wz_at 49 (by decide +kernel) rfl
theorem f_Sc_9_Sc : zF "PinKindChecks$Schematic" 9 1 0 := ⟨_, T_Sc, 9, rfl, by decide, u_Sc, x_Sc_9⟩
theorem w_Sc_9_Sc : zFp "PinKindChecks$Schematic" 9 1 0 (.array .int) true := ⟨_, T_Sc, 9, t_Sc, rfl, by decide, u_Sc, x_Sc_9, tk_Sc, nm_Sc, rfl, by decide +kernel, fun _ => rfl⟩
theorem x_Sc_17 : Cond.fieldLink "PinKindChecks$Schematic" 17 "PinKindChecks$Schematic" "parts" "[LPinKindChecks$Part;" ∈ wz := wz_at 50 (by decide +kernel) rfl
theorem f_Sc_17_Sc : zF "PinKindChecks$Schematic" 17 1 1 := ⟨_, T_Sc, 9, rfl, by decide, u_Sc, x_Sc_17⟩
theorem w_Sc_17_Sc : zFp "PinKindChecks$Schematic" 17 1 1 (.array (.object "PinKindChecks$Part")) true := ⟨_, T_Sc, 9, t_Sc, rfl, by decide, u_Sc, x_Sc_17, tk_Sc, nm_Sc, rfl, by decide +kernel, fun _ => rfl⟩
theorem x_Sc_23 : Cond.fieldLink "PinKindChecks$Schematic" 23 "PinKindChecks$Schematic" "nets" "[LPinKindChecks$Net;" ∈ wz := wz_at 51 (by decide +kernel) rfl
theorem f_Sc_23_Sc : zF "PinKindChecks$Schematic" 23 1 2 := ⟨_, T_Sc, 9, rfl, by decide, u_Sc, x_Sc_23⟩
theorem w_Sc_23_Sc : zFp "PinKindChecks$Schematic" 23 1 2 (.array (.object "PinKindChecks$Net")) true := ⟨_, T_Sc, 9, t_Sc, rfl, by decide, u_Sc, x_Sc_23, tk_Sc, nm_Sc, rfl, by decide +kernel, fun _ => rfl⟩
theorem x_Sc_29 : Cond.fieldLink "PinKindChecks$Schematic" 29 "PinKindChecks$Schematic" "pins" "[LPinKindChecks$Pin;" ∈ wz := wz_at 52 (by decide +kernel) rfl
theorem f_Sc_29_Sc : zF "PinKindChecks$Schematic" 29 1 3 := ⟨_, T_Sc, 9, rfl, by decide, u_Sc, x_Sc_29⟩
theorem w_Sc_29_Sc : zFp "PinKindChecks$Schematic" 29 1 3 (.array (.object "PinKindChecks$Pin")) true := ⟨_, T_Sc, 9, t_Sc, rfl, by decide, u_Sc, x_Sc_29, tk_Sc, nm_Sc, rfl, by decide +kernel, fun _ => rfl⟩
theorem x_Sc_35 : Cond.fieldLink "PinKindChecks$Schematic" 35 "PinKindChecks$Schematic" "inOrder" "[LPinKindChecks$Thing;" ∈ wz := wz_at 53 (by decide +kernel) rfl
theorem f_Sc_35_Sc : zF "PinKindChecks$Schematic" 35 1 4 := ⟨_, T_Sc, 9, rfl, by decide, u_Sc, x_Sc_35⟩
theorem w_Sc_35_Sc : zFp "PinKindChecks$Schematic" 35 1 4 (.array (.object "PinKindChecks$Thing")) true := ⟨_, T_Sc, 9, t_Sc, rfl, by decide, u_Sc, x_Sc_35, tk_Sc, nm_Sc, rfl, by decide +kernel, fun _ => rfl⟩
theorem x_Sc_39 : Cond.fieldLink "PinKindChecks$Schematic" 39 "PinKindChecks$Schematic" "partCount" "I" ∈ wz := wz_at 54 (by decide +kernel) rfl
theorem f_Sc_39_Sc : zF "PinKindChecks$Schematic" 39 1 5 := ⟨_, T_Sc, 9, rfl, by decide, u_Sc, x_Sc_39⟩
theorem w_Sc_39_Sc : zFp "PinKindChecks$Schematic" 39 1 5 (.int) false := ⟨_, T_Sc, 9, t_Sc, rfl, by decide, u_Sc, x_Sc_39, tk_Sc, nm_Sc, rfl, by decide +kernel, fun h => by cases h⟩
theorem x_Sc_43 : Cond.fieldLink "PinKindChecks$Schematic" 43 "PinKindChecks$Schematic" "netCount" "I" ∈ wz := wz_at 55 (by decide +kernel) rfl
theorem f_Sc_43_Sc : zF "PinKindChecks$Schematic" 43 1 6 := ⟨_, T_Sc, 9, rfl, by decide, u_Sc, x_Sc_43⟩
theorem w_Sc_43_Sc : zFp "PinKindChecks$Schematic" 43 1 6 (.int) false := ⟨_, T_Sc, 9, t_Sc, rfl, by decide, u_Sc, x_Sc_43, tk_Sc, nm_Sc, rfl, by decide +kernel, fun h => by cases h⟩
theorem x_Sc_46 : Cond.fieldLink "PinKindChecks$Schematic" 46 "PinKindChecks$Schematic" "pinCount" "I" ∈ wz := wz_at 56 (by decide +kernel) rfl
theorem f_Sc_46_Sc : zF "PinKindChecks$Schematic" 46 1 7 := ⟨_, T_Sc, 9, rfl, by decide, u_Sc, x_Sc_46⟩
theorem w_Sc_46_Sc : zFp "PinKindChecks$Schematic" 46 1 7 (.int) false := ⟨_, T_Sc, 9, t_Sc, rfl, by decide, u_Sc, x_Sc_46, tk_Sc, nm_Sc, rfl, by decide +kernel, fun h => by cases h⟩
theorem x_Sc_49 : Cond.fieldLink "PinKindChecks$Schematic" 49 "PinKindChecks$Schematic" "endCount" "I" ∈ wz := wz_at 57 (by decide +kernel) rfl
theorem f_Sc_49_Sc : zF "PinKindChecks$Schematic" 49 1 8 := ⟨_, T_Sc, 9, rfl, by decide, u_Sc, x_Sc_49⟩
theorem w_Sc_49_Sc : zFp "PinKindChecks$Schematic" 49 1 8 (.int) false := ⟨_, T_Sc, 9, t_Sc, rfl, by decide, u_Sc, x_Sc_49, tk_Sc, nm_Sc, rfl, by decide +kernel, fun h => by cases h⟩
theorem x_Tx_9 : Cond.fieldLink "PinKindChecks$RuleText" 9 "PinKindChecks$RuleText" "letters" "[C" ∈ wz := wz_at 90 (by decide +kernel) rfl
theorem f_Tx_9_Tx : zF "PinKindChecks$RuleText" 9 2 0 := ⟨_, T_Tx, 4, rfl, by decide, u_Tx, x_Tx_9⟩
theorem w_Tx_9_Tx : zFp "PinKindChecks$RuleText" 9 2 0 (.array .char) true := ⟨_, T_Tx, 4, t_Tx, rfl, by decide, u_Tx, x_Tx_9, tk_Tx, nm_Tx, rfl, by decide +kernel, fun _ => rfl⟩
theorem x_Tx_15 : Cond.fieldLink "PinKindChecks$RuleText" 15 "PinKindChecks$RuleText" "length" "I" ∈ wz := wz_at 91 (by decide +kernel) rfl
theorem f_Tx_15_Tx : zF "PinKindChecks$RuleText" 15 2 1 := ⟨_, T_Tx, 4, rfl, by decide, u_Tx, x_Tx_15⟩
theorem w_Tx_15_Tx : zFp "PinKindChecks$RuleText" 15 2 1 (.int) false := ⟨_, T_Tx, 4, t_Tx, rfl, by decide, u_Tx, x_Tx_15, tk_Tx, nm_Tx, rfl, by decide +kernel, fun h => by cases h⟩
theorem x_Tx_19 : Cond.fieldLink "PinKindChecks$RuleText" 19 "PinKindChecks$RuleText" "wordStart" "I" ∈ wz := wz_at 92 (by decide +kernel) rfl
theorem f_Tx_19_Tx : zF "PinKindChecks$RuleText" 19 2 2 := ⟨_, T_Tx, 4, rfl, by decide, u_Tx, x_Tx_19⟩
theorem w_Tx_19_Tx : zFp "PinKindChecks$RuleText" 19 2 2 (.int) false := ⟨_, T_Tx, 4, t_Tx, rfl, by decide, u_Tx, x_Tx_19, tk_Tx, nm_Tx, rfl, by decide +kernel, fun h => by cases h⟩
theorem x_Tx_22 : Cond.fieldLink "PinKindChecks$RuleText" 22 "PinKindChecks$RuleText" "wordEnd" "I" ∈ wz := wz_at 93 (by decide +kernel) rfl
theorem f_Tx_22_Tx : zF "PinKindChecks$RuleText" 22 2 3 := ⟨_, T_Tx, 4, rfl, by decide, u_Tx, x_Tx_22⟩
theorem w_Tx_22_Tx : zFp "PinKindChecks$RuleText" 22 2 3 (.int) false := ⟨_, T_Tx, 4, t_Tx, rfl, by decide, u_Tx, x_Tx_22, tk_Tx, nm_Tx, rfl, by decide +kernel, fun h => by cases h⟩
theorem x_Rd_9 : Cond.fieldLink "PinKindChecks$RuleReader" 9 "PinKindChecks$RuleReader" "codes" "[I" ∈ wz := wz_at 104 (by decide +kernel) rfl
theorem f_Rd_9_Rd : zF "PinKindChecks$RuleReader" 9 3 0 := ⟨_, T_Rd, 12, rfl, by decide, u_Rd, x_Rd_9⟩
theorem w_Rd_9_Rd : zFp "PinKindChecks$RuleReader" 9 3 0 (.array .int) true := ⟨_, T_Rd, 12, t_Rd, rfl, by decide, u_Rd, x_Rd_9, tk_Rd, nm_Rd, rfl, by decide +kernel, fun _ => rfl⟩
theorem x_Rd_15 : Cond.fieldLink "PinKindChecks$RuleReader" 15 "PinKindChecks$RuleReader" "indexes" "[I" ∈ wz := wz_at 105 (by decide +kernel) rfl
theorem f_Rd_15_Rd : zF "PinKindChecks$RuleReader" 15 3 1 := ⟨_, T_Rd, 12, rfl, by decide, u_Rd, x_Rd_15⟩
theorem w_Rd_15_Rd : zFp "PinKindChecks$RuleReader" 15 3 1 (.array .int) true := ⟨_, T_Rd, 12, t_Rd, rfl, by decide, u_Rd, x_Rd_15, tk_Rd, nm_Rd, rfl, by decide +kernel, fun _ => rfl⟩
theorem x_Rd_18 : Cond.fieldLink "PinKindChecks$RuleReader" 18 "PinKindChecks$RuleReader" "pending" "[I" ∈ wz := wz_at 106 (by decide +kernel) rfl
theorem f_Rd_18_Rd : zF "PinKindChecks$RuleReader" 18 3 2 := ⟨_, T_Rd, 12, rfl, by decide, u_Rd, x_Rd_18⟩
theorem w_Rd_18_Rd : zFp "PinKindChecks$RuleReader" 18 3 2 (.array .int) true := ⟨_, T_Rd, 12, t_Rd, rfl, by decide, u_Rd, x_Rd_18, tk_Rd, nm_Rd, rfl, by decide +kernel, fun _ => rfl⟩
theorem x_Rd_24 : Cond.fieldLink "PinKindChecks$RuleReader" 24 "PinKindChecks$RuleReader" "text" "LPinKindChecks$RuleText;" ∈ wz := wz_at 107 (by decide +kernel) rfl
theorem f_Rd_24_Rd : zF "PinKindChecks$RuleReader" 24 3 3 := ⟨_, T_Rd, 12, rfl, by decide, u_Rd, x_Rd_24⟩
theorem w_Rd_24_Rd : zFp "PinKindChecks$RuleReader" 24 3 3 (.object "PinKindChecks$RuleText") true := ⟨_, T_Rd, 12, t_Rd, rfl, by decide, u_Rd, x_Rd_24, tk_Rd, nm_Rd, rfl, by decide +kernel, fun _ => rfl⟩
theorem x_Rd_28 : Cond.fieldLink "PinKindChecks$RuleReader" 28 "PinKindChecks$RuleReader" "codeCount" "I" ∈ wz := wz_at 108 (by decide +kernel) rfl
theorem f_Rd_28_Rd : zF "PinKindChecks$RuleReader" 28 3 4 := ⟨_, T_Rd, 12, rfl, by decide, u_Rd, x_Rd_28⟩
theorem w_Rd_28_Rd : zFp "PinKindChecks$RuleReader" 28 3 4 (.int) false := ⟨_, T_Rd, 12, t_Rd, rfl, by decide, u_Rd, x_Rd_28, tk_Rd, nm_Rd, rfl, by decide +kernel, fun h => by cases h⟩
theorem x_Rd_32 : Cond.fieldLink "PinKindChecks$RuleReader" 32 "PinKindChecks$RuleReader" "pendingCount" "I" ∈ wz := wz_at 109 (by decide +kernel) rfl
theorem f_Rd_32_Rd : zF "PinKindChecks$RuleReader" 32 3 5 := ⟨_, T_Rd, 12, rfl, by decide, u_Rd, x_Rd_32⟩
theorem w_Rd_32_Rd : zFp "PinKindChecks$RuleReader" 32 3 5 (.int) false := ⟨_, T_Rd, 12, t_Rd, rfl, by decide, u_Rd, x_Rd_32, tk_Rd, nm_Rd, rfl, by decide +kernel, fun h => by cases h⟩
theorem x_Rd_35 : Cond.fieldLink "PinKindChecks$RuleReader" 35 "PinKindChecks$RuleReader" "wordsRead" "I" ∈ wz := wz_at 110 (by decide +kernel) rfl
theorem f_Rd_35_Rd : zF "PinKindChecks$RuleReader" 35 3 6 := ⟨_, T_Rd, 12, rfl, by decide, u_Rd, x_Rd_35⟩
theorem w_Rd_35_Rd : zFp "PinKindChecks$RuleReader" 35 3 6 (.int) false := ⟨_, T_Rd, 12, t_Rd, rfl, by decide, u_Rd, x_Rd_35, tk_Rd, nm_Rd, rfl, by decide +kernel, fun h => by cases h⟩
theorem x_Rd_38 : Cond.fieldLink "PinKindChecks$RuleReader" 38 "PinKindChecks$RuleReader" "state" "I" ∈ wz := wz_at 111 (by decide +kernel) rfl
theorem f_Rd_38_Rd : zF "PinKindChecks$RuleReader" 38 3 7 := ⟨_, T_Rd, 12, rfl, by decide, u_Rd, x_Rd_38⟩
theorem w_Rd_38_Rd : zFp "PinKindChecks$RuleReader" 38 3 7 (.int) false := ⟨_, T_Rd, 12, t_Rd, rfl, by decide, u_Rd, x_Rd_38, tk_Rd, nm_Rd, rfl, by decide +kernel, fun h => by cases h⟩
theorem x_Rd_41 : Cond.fieldLink "PinKindChecks$RuleReader" 41 "PinKindChecks$RuleReader" "open" "I" ∈ wz := wz_at 112 (by decide +kernel) rfl
theorem f_Rd_41_Rd : zF "PinKindChecks$RuleReader" 41 3 8 := ⟨_, T_Rd, 12, rfl, by decide, u_Rd, x_Rd_41⟩
theorem w_Rd_41_Rd : zFp "PinKindChecks$RuleReader" 41 3 8 (.int) false := ⟨_, T_Rd, 12, t_Rd, rfl, by decide, u_Rd, x_Rd_41, tk_Rd, nm_Rd, rfl, by decide +kernel, fun h => by cases h⟩
theorem x_Rd_44 : Cond.fieldLink "PinKindChecks$RuleReader" 44 "PinKindChecks$RuleReader" "isBehindSign" "Z" ∈ wz := wz_at 113 (by decide +kernel) rfl
theorem f_Rd_44_Rd : zF "PinKindChecks$RuleReader" 44 3 9 := ⟨_, T_Rd, 12, rfl, by decide, u_Rd, x_Rd_44⟩
theorem w_Rd_44_Rd : zFp "PinKindChecks$RuleReader" 44 3 9 (.boolean) false := ⟨_, T_Rd, 12, t_Rd, rfl, by decide, u_Rd, x_Rd_44, tk_Rd, nm_Rd, rfl, by decide +kernel, fun h => by cases h⟩
theorem x_Rd_48 : Cond.fieldLink "PinKindChecks$RuleReader" 48 "PinKindChecks$RuleReader" "subject" "I" ∈ wz := wz_at 114 (by decide +kernel) rfl
theorem f_Rd_48_Rd : zF "PinKindChecks$RuleReader" 48 3 10 := ⟨_, T_Rd, 12, rfl, by decide, u_Rd, x_Rd_48⟩
theorem w_Rd_48_Rd : zFp "PinKindChecks$RuleReader" 48 3 10 (.int) false := ⟨_, T_Rd, 12, t_Rd, rfl, by decide, u_Rd, x_Rd_48, tk_Rd, nm_Rd, rfl, by decide +kernel, fun h => by cases h⟩
theorem x_Rd_51 : Cond.fieldLink "PinKindChecks$RuleReader" 51 "PinKindChecks$RuleReader" "weight" "I" ∈ wz := wz_at 115 (by decide +kernel) rfl
theorem f_Rd_51_Rd : zF "PinKindChecks$RuleReader" 51 3 11 := ⟨_, T_Rd, 12, rfl, by decide, u_Rd, x_Rd_51⟩
theorem w_Rd_51_Rd : zFp "PinKindChecks$RuleReader" 51 3 11 (.int) false := ⟨_, T_Rd, 12, t_Rd, rfl, by decide, u_Rd, x_Rd_51, tk_Rd, nm_Rd, rfl, by decide +kernel, fun h => by cases h⟩
theorem x_Wv_9 : Cond.fieldLink "PinKindChecks$Waivers" 9 "PinKindChecks$Waivers" "keys" "[I" ∈ wz := wz_at 149 (by decide +kernel) rfl
theorem f_Wv_9_Wv : zF "PinKindChecks$Waivers" 9 4 0 := ⟨_, T_Wv, 3, rfl, by decide, u_Wv, x_Wv_9⟩
theorem w_Wv_9_Wv : zFp "PinKindChecks$Waivers" 9 4 0 (.array .int) true := ⟨_, T_Wv, 3, t_Wv, rfl, by decide, u_Wv, x_Wv_9, tk_Wv, nm_Wv, rfl, by decide +kernel, fun _ => rfl⟩
theorem x_Wv_15 : Cond.fieldLink "PinKindChecks$Waivers" 15 "PinKindChecks$Waivers" "reasons" "[I" ∈ wz := wz_at 150 (by decide +kernel) rfl
theorem f_Wv_15_Wv : zF "PinKindChecks$Waivers" 15 4 1 := ⟨_, T_Wv, 3, rfl, by decide, u_Wv, x_Wv_15⟩
theorem w_Wv_15_Wv : zFp "PinKindChecks$Waivers" 15 4 1 (.array .int) true := ⟨_, T_Wv, 3, t_Wv, rfl, by decide, u_Wv, x_Wv_15, tk_Wv, nm_Wv, rfl, by decide +kernel, fun _ => rfl⟩
theorem x_Wv_18 : Cond.fieldLink "PinKindChecks$Waivers" 18 "PinKindChecks$Waivers" "count" "I" ∈ wz := wz_at 151 (by decide +kernel) rfl
theorem f_Wv_18_Wv : zF "PinKindChecks$Waivers" 18 4 2 := ⟨_, T_Wv, 3, rfl, by decide, u_Wv, x_Wv_18⟩
theorem w_Wv_18_Wv : zFp "PinKindChecks$Waivers" 18 4 2 (.int) false := ⟨_, T_Wv, 3, t_Wv, rfl, by decide, u_Wv, x_Wv_18, tk_Wv, nm_Wv, rfl, by decide +kernel, fun h => by cases h⟩
theorem x_Rm_11 : Cond.fieldLink "PinKindChecks$Remarks" 11 "PinKindChecks$Remarks" "keys" "[I" ∈ wz := wz_at 166 (by decide +kernel) rfl
theorem f_Rm_11_Rm : zF "PinKindChecks$Remarks" 11 5 0 := ⟨_, T_Rm, 4, rfl, by decide, u_Rm, x_Rm_11⟩
theorem w_Rm_11_Rm : zFp "PinKindChecks$Remarks" 11 5 0 (.array .int) false := ⟨_, T_Rm, 4, t_Rm, rfl, by decide, u_Rm, x_Rm_11, tk_Rm, nm_Rm, rfl, by decide +kernel, fun h => by cases h⟩
theorem x_Rm_15 : Cond.fieldLink "PinKindChecks$Remarks" 15 "PinKindChecks$Remarks" "weights" "[I" ∈ wz := wz_at 167 (by decide +kernel) rfl
theorem f_Rm_15_Rm : zF "PinKindChecks$Remarks" 15 5 1 := ⟨_, T_Rm, 4, rfl, by decide, u_Rm, x_Rm_15⟩
theorem w_Rm_15_Rm : zFp "PinKindChecks$Remarks" 15 5 1 (.array .int) false := ⟨_, T_Rm, 4, t_Rm, rfl, by decide, u_Rm, x_Rm_15, tk_Rm, nm_Rm, rfl, by decide +kernel, fun h => by cases h⟩
theorem x_Rm_18 : Cond.fieldLink "PinKindChecks$Remarks" 18 "PinKindChecks$Remarks" "firsts" "[I" ∈ wz := wz_at 168 (by decide +kernel) rfl
theorem f_Rm_18_Rm : zF "PinKindChecks$Remarks" 18 5 2 := ⟨_, T_Rm, 4, rfl, by decide, u_Rm, x_Rm_18⟩
theorem w_Rm_18_Rm : zFp "PinKindChecks$Remarks" 18 5 2 (.array .int) false := ⟨_, T_Rm, 4, t_Rm, rfl, by decide, u_Rm, x_Rm_18, tk_Rm, nm_Rm, rfl, by decide +kernel, fun h => by cases h⟩
theorem x_Rm_21 : Cond.fieldLink "PinKindChecks$Remarks" 21 "PinKindChecks$Remarks" "count" "I" ∈ wz := wz_at 169 (by decide +kernel) rfl
theorem f_Rm_21_Rm : zF "PinKindChecks$Remarks" 21 5 3 := ⟨_, T_Rm, 4, rfl, by decide, u_Rm, x_Rm_21⟩
theorem w_Rm_21_Rm : zFp "PinKindChecks$Remarks" 21 5 3 (.int) false := ⟨_, T_Rm, 4, t_Rm, rfl, by decide, u_Rm, x_Rm_21, tk_Rm, nm_Rm, rfl, by decide +kernel, fun h => by cases h⟩
theorem x_K_12 : Cond.fieldLink "PinKindChecks" 12 "PinKindChecks" "schematic" "LPinKindChecks$Schematic;" ∈ wz := wz_at 179 (by decide +kernel) rfl
theorem f_K_12_K : zF "PinKindChecks" 12 0 0 := ⟨_, T_K, 11, rfl, by decide, u_K, x_K_12⟩
theorem w_K_12_K : zFp "PinKindChecks" 12 0 0 (.object "PinKindChecks$Schematic") true := ⟨_, T_K, 11, t_K, rfl, by decide, u_K, x_K_12, tk_K, nm_K, rfl, by decide +kernel, fun _ => rfl⟩
theorem x_K_19 : Cond.fieldLink "PinKindChecks" 19 "PinKindChecks" "reader" "LPinKindChecks$RuleReader;" ∈ wz := wz_at 180 (by decide +kernel) rfl
theorem f_K_19_K : zF "PinKindChecks" 19 0 1 := ⟨_, T_K, 11, rfl, by decide, u_K, x_K_19⟩
theorem w_K_19_K : zFp "PinKindChecks" 19 0 1 (.object "PinKindChecks$RuleReader") true := ⟨_, T_K, 11, t_K, rfl, by decide, u_K, x_K_19, tk_K, nm_K, rfl, by decide +kernel, fun _ => rfl⟩
theorem x_K_25 : Cond.fieldLink "PinKindChecks" 25 "PinKindChecks" "told" "[LPinKindChecks$ToldRule;" ∈ wz := wz_at 181 (by decide +kernel) rfl
theorem f_K_25_K : zF "PinKindChecks" 25 0 2 := ⟨_, T_K, 11, rfl, by decide, u_K, x_K_25⟩
theorem w_K_25_K : zFp "PinKindChecks" 25 0 2 (.array (.object "PinKindChecks$ToldRule")) true := ⟨_, T_K, 11, t_K, rfl, by decide, u_K, x_K_25, tk_K, nm_K, rfl, by decide +kernel, fun _ => rfl⟩
theorem x_K_29 : Cond.fieldLink "PinKindChecks" 29 "PinKindChecks" "isOff" "[Z" ∈ wz := wz_at 182 (by decide +kernel) rfl
theorem f_K_29_K : zF "PinKindChecks" 29 0 3 := ⟨_, T_K, 11, rfl, by decide, u_K, x_K_29⟩
theorem w_K_29_K : zFp "PinKindChecks" 29 0 3 (.array .boolean) true := ⟨_, T_K, 11, t_K, rfl, by decide, u_K, x_K_29, tk_K, nm_K, rfl, by decide +kernel, fun _ => rfl⟩
theorem x_K_36 : Cond.fieldLink "PinKindChecks" 36 "PinKindChecks" "waivers" "LPinKindChecks$Waivers;" ∈ wz := wz_at 183 (by decide +kernel) rfl
theorem f_K_36_K : zF "PinKindChecks" 36 0 4 := ⟨_, T_K, 11, rfl, by decide, u_K, x_K_36⟩
theorem w_K_36_K : zFp "PinKindChecks" 36 0 4 (.object "PinKindChecks$Waivers") true := ⟨_, T_K, 11, t_K, rfl, by decide, u_K, x_K_36, tk_K, nm_K, rfl, by decide +kernel, fun _ => rfl⟩
theorem x_K_43 : Cond.fieldLink "PinKindChecks" 43 "PinKindChecks" "closedRemarks" "LPinKindChecks$Remarks;" ∈ wz := wz_at 184 (by decide +kernel) rfl
theorem f_K_43_K : zF "PinKindChecks" 43 0 5 := ⟨_, T_K, 11, rfl, by decide, u_K, x_K_43⟩
theorem w_K_43_K : zFp "PinKindChecks" 43 0 5 (.object "PinKindChecks$Remarks") true := ⟨_, T_K, 11, t_K, rfl, by decide, u_K, x_K_43, tk_K, nm_K, rfl, by decide +kernel, fun _ => rfl⟩
theorem x_K_47 : Cond.fieldLink "PinKindChecks" 47 "PinKindChecks" "stack" "[J" ∈ wz := wz_at 185 (by decide +kernel) rfl
theorem f_K_47_K : zF "PinKindChecks" 47 0 6 := ⟨_, T_K, 11, rfl, by decide, u_K, x_K_47⟩
theorem w_K_47_K : zFp "PinKindChecks" 47 0 6 (.array .long) true := ⟨_, T_K, 11, t_K, rfl, by decide, u_K, x_K_47, tk_K, nm_K, rfl, by decide +kernel, fun _ => rfl⟩
theorem x_K_51 : Cond.fieldLink "PinKindChecks" 51 "PinKindChecks" "latest" "LPinKindChecks$Remarks;" ∈ wz := wz_at 186 (by decide +kernel) rfl
theorem f_K_51_K : zF "PinKindChecks" 51 0 7 := ⟨_, T_K, 11, rfl, by decide, u_K, x_K_51⟩
theorem w_K_51_K : zFp "PinKindChecks" 51 0 7 (.object "PinKindChecks$Remarks") false := ⟨_, T_K, 11, t_K, rfl, by decide, u_K, x_K_51, tk_K, nm_K, rfl, by decide +kernel, fun h => by cases h⟩
theorem x_K_54 : Cond.fieldLink "PinKindChecks" 54 "PinKindChecks" "before" "LPinKindChecks$Remarks;" ∈ wz := wz_at 187 (by decide +kernel) rfl
theorem f_K_54_K : zF "PinKindChecks" 54 0 8 := ⟨_, T_K, 11, rfl, by decide, u_K, x_K_54⟩
theorem w_K_54_K : zFp "PinKindChecks" 54 0 8 (.object "PinKindChecks$Remarks") false := ⟨_, T_K, 11, t_K, rfl, by decide, u_K, x_K_54, tk_K, nm_K, rfl, by decide +kernel, fun h => by cases h⟩
theorem x_K_57 : Cond.fieldLink "PinKindChecks" 57 "PinKindChecks" "toldCount" "I" ∈ wz := wz_at 188 (by decide +kernel) rfl
theorem f_K_57_K : zF "PinKindChecks" 57 0 9 := ⟨_, T_K, 11, rfl, by decide, u_K, x_K_57⟩
theorem w_K_57_K : zFp "PinKindChecks" 57 0 9 (.int) false := ⟨_, T_K, 11, t_K, rfl, by decide, u_K, x_K_57, tk_K, nm_K, rfl, by decide +kernel, fun h => by cases h⟩
theorem x_K_61 : Cond.fieldLink "PinKindChecks" 61 "PinKindChecks" "version" "I" ∈ wz := wz_at 189 (by decide +kernel) rfl
theorem f_K_61_K : zF "PinKindChecks" 61 0 10 := ⟨_, T_K, 11, rfl, by decide, u_K, x_K_61⟩
theorem w_K_61_K : zFp "PinKindChecks" 61 0 10 (.int) false := ⟨_, T_K, 11, t_K, rfl, by decide, u_K, x_K_61, tk_K, nm_K, rfl, by decide +kernel, fun h => by cases h⟩
theorem x_Pa_9 : Cond.fieldLink "PinKindChecks$Part" 9 "PinKindChecks$Part" "fields" "[J" ∈ wz := wz_at 608 (by decide +kernel) rfl
theorem f_Pa_9_Pa : zF "PinKindChecks$Part" 9 6 4 := ⟨_, T_Pa, 5, rfl, by decide, u_Pa, x_Pa_9⟩
theorem w_Pa_9_Pa : zFp "PinKindChecks$Part" 9 6 4 (.array .long) true := ⟨_, T_Pa, 5, t_Pa, rfl, by decide, u_Pa, x_Pa_9, tk_Pa, nm_Pa, rfl, by decide +kernel, fun _ => rfl⟩
theorem x_Ph_9 : Cond.fieldLink "PinKindChecks$PinHolder" 9 "PinKindChecks$PinHolder" "pinsOfKind" "[I" ∈ wz := wz_at 609 (by decide +kernel) rfl
theorem f_Ph_9_Pa : zF "PinKindChecks$PinHolder" 9 6 2 := ⟨_, T_Pa, 5, rfl, by decide, u_Pa, x_Ph_9⟩
theorem w_Ph_9_Pa : zFp "PinKindChecks$PinHolder" 9 6 2 (.array .int) true := ⟨_, T_Pa, 5, t_Pa, rfl, by decide, u_Pa, x_Ph_9, tk_Pa, nm_Pa, rfl, by decide +kernel, fun _ => rfl⟩
theorem f_Ph_9_Ne : zF "PinKindChecks$PinHolder" 9 7 2 := ⟨_, T_Ne, 6, rfl, by decide, u_Ne, x_Ph_9⟩
theorem w_Ph_9_Ne : zFp "PinKindChecks$PinHolder" 9 7 2 (.array .int) true := ⟨_, T_Ne, 6, t_Ne, rfl, by decide, u_Ne, x_Ph_9, tk_Ne, nm_Ne, rfl, by decide +kernel, fun _ => rfl⟩
theorem x_Ph_15 : Cond.fieldLink "PinKindChecks$PinHolder" 15 "PinKindChecks$PinHolder" "pinCount" "I" ∈ wz := wz_at 610 (by decide +kernel) rfl
theorem f_Ph_15_Pa : zF "PinKindChecks$PinHolder" 15 6 3 := ⟨_, T_Pa, 5, rfl, by decide, u_Pa, x_Ph_15⟩
theorem w_Ph_15_Pa : zFp "PinKindChecks$PinHolder" 15 6 3 (.int) false := ⟨_, T_Pa, 5, t_Pa, rfl, by decide, u_Pa, x_Ph_15, tk_Pa, nm_Pa, rfl, by decide +kernel, fun h => by cases h⟩
theorem f_Ph_15_Ne : zF "PinKindChecks$PinHolder" 15 7 3 := ⟨_, T_Ne, 6, rfl, by decide, u_Ne, x_Ph_15⟩
theorem w_Ph_15_Ne : zFp "PinKindChecks$PinHolder" 15 7 3 (.int) false := ⟨_, T_Ne, 6, t_Ne, rfl, by decide, u_Ne, x_Ph_15, tk_Ne, nm_Ne, rfl, by decide +kernel, fun h => by cases h⟩
theorem x_Th_9 : Cond.fieldLink "PinKindChecks$Thing" 9 "PinKindChecks$Thing" "sheet" "I" ∈ wz := wz_at 611 (by decide +kernel) rfl
theorem f_Th_9_Pa : zF "PinKindChecks$Thing" 9 6 0 := ⟨_, T_Pa, 5, rfl, by decide, u_Pa, x_Th_9⟩
theorem w_Th_9_Pa : zFp "PinKindChecks$Thing" 9 6 0 (.int) true := ⟨_, T_Pa, 5, t_Pa, rfl, by decide, u_Pa, x_Th_9, tk_Pa, nm_Pa, rfl, by decide +kernel, fun _ => rfl⟩
theorem f_Th_9_Ne : zF "PinKindChecks$Thing" 9 7 0 := ⟨_, T_Ne, 6, rfl, by decide, u_Ne, x_Th_9⟩
theorem w_Th_9_Ne : zFp "PinKindChecks$Thing" 9 7 0 (.int) true := ⟨_, T_Ne, 6, t_Ne, rfl, by decide, u_Ne, x_Th_9, tk_Ne, nm_Ne, rfl, by decide +kernel, fun _ => rfl⟩
theorem f_Th_9_Pi : zF "PinKindChecks$Thing" 9 8 0 := ⟨_, T_Pi, 5, rfl, by decide, u_Pi, x_Th_9⟩
theorem w_Th_9_Pi : zFp "PinKindChecks$Thing" 9 8 0 (.int) true := ⟨_, T_Pi, 5, t_Pi, rfl, by decide, u_Pi, x_Th_9, tk_Pi, nm_Pi, rfl, by decide +kernel, fun _ => rfl⟩
theorem x_Th_15 : Cond.fieldLink "PinKindChecks$Thing" 15 "PinKindChecks$Thing" "place" "I" ∈ wz := wz_at 612 (by decide +kernel) rfl
theorem f_Th_15_Pa : zF "PinKindChecks$Thing" 15 6 1 := ⟨_, T_Pa, 5, rfl, by decide, u_Pa, x_Th_15⟩
theorem w_Th_15_Pa : zFp "PinKindChecks$Thing" 15 6 1 (.int) true := ⟨_, T_Pa, 5, t_Pa, rfl, by decide, u_Pa, x_Th_15, tk_Pa, nm_Pa, rfl, by decide +kernel, fun _ => rfl⟩
theorem f_Th_15_Ne : zF "PinKindChecks$Thing" 15 7 1 := ⟨_, T_Ne, 6, rfl, by decide, u_Ne, x_Th_15⟩
theorem w_Th_15_Ne : zFp "PinKindChecks$Thing" 15 7 1 (.int) true := ⟨_, T_Ne, 6, t_Ne, rfl, by decide, u_Ne, x_Th_15, tk_Ne, nm_Ne, rfl, by decide +kernel, fun _ => rfl⟩
theorem f_Th_15_Pi : zF "PinKindChecks$Thing" 15 8 1 := ⟨_, T_Pi, 5, rfl, by decide, u_Pi, x_Th_15⟩
theorem w_Th_15_Pi : zFp "PinKindChecks$Thing" 15 8 1 (.int) true := ⟨_, T_Pi, 5, t_Pi, rfl, by decide, u_Pi, x_Th_15, tk_Pi, nm_Pi, rfl, by decide +kernel, fun _ => rfl⟩
theorem x_Ne_15 : Cond.fieldLink "PinKindChecks$Net" 15 "PinKindChecks$Net" "name" "I" ∈ wz := wz_at 655 (by decide +kernel) rfl
theorem f_Ne_15_Ne : zF "PinKindChecks$Net" 15 7 4 := ⟨_, T_Ne, 6, rfl, by decide, u_Ne, x_Ne_15⟩
theorem w_Ne_15_Ne : zFp "PinKindChecks$Net" 15 7 4 (.int) true := ⟨_, T_Ne, 6, t_Ne, rfl, by decide, u_Ne, x_Ne_15, tk_Ne, nm_Ne, rfl, by decide +kernel, fun _ => rfl⟩
theorem x_Ne_9 : Cond.fieldLink "PinKindChecks$Net" 9 "PinKindChecks$Net" "hasEndOffGrid" "Z" ∈ wz := wz_at 656 (by decide +kernel) rfl
theorem f_Ne_9_Ne : zF "PinKindChecks$Net" 9 7 5 := ⟨_, T_Ne, 6, rfl, by decide, u_Ne, x_Ne_9⟩
theorem w_Ne_9_Ne : zFp "PinKindChecks$Net" 9 7 5 (.boolean) false := ⟨_, T_Ne, 6, t_Ne, rfl, by decide, u_Ne, x_Ne_9, tk_Ne, nm_Ne, rfl, by decide +kernel, fun h => by cases h⟩
theorem x_Pi_21 : Cond.fieldLink "PinKindChecks$Pin" 21 "PinKindChecks$Pin" "part" "LPinKindChecks$Part;" ∈ wz := wz_at 696 (by decide +kernel) rfl
theorem f_Pi_21_Pi : zF "PinKindChecks$Pin" 21 8 2 := ⟨_, T_Pi, 5, rfl, by decide, u_Pi, x_Pi_21⟩
theorem w_Pi_21_Pi : zFp "PinKindChecks$Pin" 21 8 2 (.object "PinKindChecks$Part") true := ⟨_, T_Pi, 5, t_Pi, rfl, by decide, u_Pi, x_Pi_21, tk_Pi, nm_Pi, rfl, by decide +kernel, fun _ => rfl⟩
theorem x_Pi_25 : Cond.fieldLink "PinKindChecks$Pin" 25 "PinKindChecks$Pin" "kind" "I" ∈ wz := wz_at 697 (by decide +kernel) rfl
theorem f_Pi_25_Pi : zF "PinKindChecks$Pin" 25 8 3 := ⟨_, T_Pi, 5, rfl, by decide, u_Pi, x_Pi_25⟩
theorem w_Pi_25_Pi : zFp "PinKindChecks$Pin" 25 8 3 (.int) true := ⟨_, T_Pi, 5, t_Pi, rfl, by decide, u_Pi, x_Pi_25, tk_Pi, nm_Pi, rfl, by decide +kernel, fun _ => rfl⟩
theorem x_Pi_15 : Cond.fieldLink "PinKindChecks$Pin" 15 "PinKindChecks$Pin" "net" "LPinKindChecks$Net;" ∈ wz := wz_at 698 (by decide +kernel) rfl
theorem f_Pi_15_Pi : zF "PinKindChecks$Pin" 15 8 4 := ⟨_, T_Pi, 5, rfl, by decide, u_Pi, x_Pi_15⟩
theorem w_Pi_15_Pi : zFp "PinKindChecks$Pin" 15 8 4 (.object "PinKindChecks$Net") false := ⟨_, T_Pi, 5, t_Pi, rfl, by decide, u_Pi, x_Pi_15, tk_Pi, nm_Pi, rfl, by decide +kernel, fun h => by cases h⟩
theorem x_jS_38 : Cond.fieldLink "java/lang/String" 38 "java/lang/String" "COMPACT_STRINGS" "Z" ∈ wz := wz_at 823 (by decide +kernel) rfl
theorem x_jS_1053 : Cond.fieldLink "java/lang/String" 1053 "jdk/internal/util/Preconditions" "SIOOBE_FORMATTER" "Ljava/util/function/BiFunction;" ∈ wz := wz_at 843 (by decide +kernel) rfl
theorem x_Tr_9 : Cond.fieldLink "PinKindChecks$ToldRule" 9 "PinKindChecks$ToldRule" "subject" "I" ∈ wz := wz_at 985 (by decide +kernel) rfl
theorem f_Tr_9_Tr : zF "PinKindChecks$ToldRule" 9 9 0 := ⟨_, T_Tr, 4, rfl, by decide, u_Tr, x_Tr_9⟩
theorem w_Tr_9_Tr : zFp "PinKindChecks$ToldRule" 9 9 0 (.int) true := ⟨_, T_Tr, 4, t_Tr, rfl, by decide, u_Tr, x_Tr_9, tk_Tr, nm_Tr, rfl, by decide +kernel, fun _ => rfl⟩
theorem x_Tr_15 : Cond.fieldLink "PinKindChecks$ToldRule" 15 "PinKindChecks$ToldRule" "weight" "I" ∈ wz := wz_at 986 (by decide +kernel) rfl
theorem f_Tr_15_Tr : zF "PinKindChecks$ToldRule" 15 9 1 := ⟨_, T_Tr, 4, rfl, by decide, u_Tr, x_Tr_15⟩
theorem w_Tr_15_Tr : zFp "PinKindChecks$ToldRule" 15 9 1 (.int) true := ⟨_, T_Tr, 4, t_Tr, rfl, by decide, u_Tr, x_Tr_15, tk_Tr, nm_Tr, rfl, by decide +kernel, fun _ => rfl⟩
theorem x_Tr_18 : Cond.fieldLink "PinKindChecks$ToldRule" 18 "PinKindChecks$ToldRule" "codes" "[I" ∈ wz := wz_at 987 (by decide +kernel) rfl
theorem f_Tr_18_Tr : zF "PinKindChecks$ToldRule" 18 9 2 := ⟨_, T_Tr, 4, rfl, by decide, u_Tr, x_Tr_18⟩
theorem w_Tr_18_Tr : zFp "PinKindChecks$ToldRule" 18 9 2 (.array .int) true := ⟨_, T_Tr, 4, t_Tr, rfl, by decide, u_Tr, x_Tr_18, tk_Tr, nm_Tr, rfl, by decide +kernel, fun _ => rfl⟩
theorem x_Tr_22 : Cond.fieldLink "PinKindChecks$ToldRule" 22 "PinKindChecks$ToldRule" "indexes" "[I" ∈ wz := wz_at 988 (by decide +kernel) rfl
theorem f_Tr_22_Tr : zF "PinKindChecks$ToldRule" 22 9 3 := ⟨_, T_Tr, 4, rfl, by decide, u_Tr, x_Tr_22⟩
theorem w_Tr_22_Tr : zFp "PinKindChecks$ToldRule" 22 9 3 (.array .int) true := ⟨_, T_Tr, 4, t_Tr, rfl, by decide, u_Tr, x_Tr_22, tk_Tr, nm_Tr, rfl, by decide +kernel, fun _ => rfl⟩
theorem x_Mo_91 : Cond.fieldLink "PinKindChecksModel" 91 "PinKindChecksModel" "thrown" "I" ∈ wz := wz_at 1066 (by decide +kernel) rfl
theorem f_Mo_91_Mo : zF "PinKindChecksModel" 91 10 0 := ⟨_, T_Mo, 42, rfl, by decide, u_Mo, x_Mo_91⟩
theorem w_Mo_91_Mo : zFp "PinKindChecksModel" 91 10 0 (.int) false := ⟨_, T_Mo, 42, t_Mo, rfl, by decide, u_Mo, x_Mo_91, tk_Mo, nm_Mo, rfl, by decide +kernel, fun h => by cases h⟩
theorem x_Mo_7 : Cond.fieldLink "PinKindChecksModel" 7 "PinKindChecksModel" "table" "[I" ∈ wz := wz_at 1067 (by decide +kernel) rfl
theorem f_Mo_7_Mo : zF "PinKindChecksModel" 7 10 1 := ⟨_, T_Mo, 42, rfl, by decide, u_Mo, x_Mo_7⟩
theorem w_Mo_7_Mo : zFp "PinKindChecksModel" 7 10 1 (.array .int) true := ⟨_, T_Mo, 42, t_Mo, rfl, by decide, u_Mo, x_Mo_7, tk_Mo, nm_Mo, rfl, by decide +kernel, fun _ => rfl⟩
theorem x_Mo_97 : Cond.fieldLink "PinKindChecksModel" 97 "PinKindChecksModel" "parts" "I" ∈ wz := wz_at 1068 (by decide +kernel) rfl
theorem f_Mo_97_Mo : zF "PinKindChecksModel" 97 10 2 := ⟨_, T_Mo, 42, rfl, by decide, u_Mo, x_Mo_97⟩
theorem w_Mo_97_Mo : zFp "PinKindChecksModel" 97 10 2 (.int) false := ⟨_, T_Mo, 42, t_Mo, rfl, by decide, u_Mo, x_Mo_97, tk_Mo, nm_Mo, rfl, by decide +kernel, fun h => by cases h⟩
theorem x_Mo_94 : Cond.fieldLink "PinKindChecksModel" 94 "PinKindChecksModel" "nets" "I" ∈ wz := wz_at 1069 (by decide +kernel) rfl
theorem f_Mo_94_Mo : zF "PinKindChecksModel" 94 10 3 := ⟨_, T_Mo, 42, rfl, by decide, u_Mo, x_Mo_94⟩
theorem w_Mo_94_Mo : zFp "PinKindChecksModel" 94 10 3 (.int) false := ⟨_, T_Mo, 42, t_Mo, rfl, by decide, u_Mo, x_Mo_94, tk_Mo, nm_Mo, rfl, by decide +kernel, fun h => by cases h⟩
theorem x_Mo_113 : Cond.fieldLink "PinKindChecksModel" 113 "PinKindChecksModel" "pins" "I" ∈ wz := wz_at 1070 (by decide +kernel) rfl
theorem f_Mo_113_Mo : zF "PinKindChecksModel" 113 10 4 := ⟨_, T_Mo, 42, rfl, by decide, u_Mo, x_Mo_113⟩
theorem w_Mo_113_Mo : zFp "PinKindChecksModel" 113 10 4 (.int) false := ⟨_, T_Mo, 42, t_Mo, rfl, by decide, u_Mo, x_Mo_113, tk_Mo, nm_Mo, rfl, by decide +kernel, fun h => by cases h⟩
theorem x_Mo_13 : Cond.fieldLink "PinKindChecksModel" 13 "PinKindChecksModel" "partSheet" "[I" ∈ wz := wz_at 1071 (by decide +kernel) rfl
theorem f_Mo_13_Mo : zF "PinKindChecksModel" 13 10 5 := ⟨_, T_Mo, 42, rfl, by decide, u_Mo, x_Mo_13⟩
theorem w_Mo_13_Mo : zFp "PinKindChecksModel" 13 10 5 (.array .int) true := ⟨_, T_Mo, 42, t_Mo, rfl, by decide, u_Mo, x_Mo_13, tk_Mo, nm_Mo, rfl, by decide +kernel, fun _ => rfl⟩
theorem x_Mo_16 : Cond.fieldLink "PinKindChecksModel" 16 "PinKindChecksModel" "fields" "[J" ∈ wz := wz_at 1072 (by decide +kernel) rfl
theorem f_Mo_16_Mo : zF "PinKindChecksModel" 16 10 6 := ⟨_, T_Mo, 42, rfl, by decide, u_Mo, x_Mo_16⟩
theorem w_Mo_16_Mo : zFp "PinKindChecksModel" 16 10 6 (.array .long) true := ⟨_, T_Mo, 42, t_Mo, rfl, by decide, u_Mo, x_Mo_16, tk_Mo, nm_Mo, rfl, by decide +kernel, fun _ => rfl⟩
theorem x_Mo_20 : Cond.fieldLink "PinKindChecksModel" 20 "PinKindChecksModel" "netSheet" "[I" ∈ wz := wz_at 1073 (by decide +kernel) rfl
theorem f_Mo_20_Mo : zF "PinKindChecksModel" 20 10 7 := ⟨_, T_Mo, 42, rfl, by decide, u_Mo, x_Mo_20⟩
theorem w_Mo_20_Mo : zFp "PinKindChecksModel" 20 10 7 (.array .int) true := ⟨_, T_Mo, 42, t_Mo, rfl, by decide, u_Mo, x_Mo_20, tk_Mo, nm_Mo, rfl, by decide +kernel, fun _ => rfl⟩
theorem x_Mo_23 : Cond.fieldLink "PinKindChecksModel" 23 "PinKindChecksModel" "netName" "[I" ∈ wz := wz_at 1074 (by decide +kernel) rfl
theorem f_Mo_23_Mo : zF "PinKindChecksModel" 23 10 8 := ⟨_, T_Mo, 42, rfl, by decide, u_Mo, x_Mo_23⟩
theorem w_Mo_23_Mo : zFp "PinKindChecksModel" 23 10 8 (.array .int) true := ⟨_, T_Mo, 42, t_Mo, rfl, by decide, u_Mo, x_Mo_23, tk_Mo, nm_Mo, rfl, by decide +kernel, fun _ => rfl⟩
theorem x_Mo_26 : Cond.fieldLink "PinKindChecksModel" 26 "PinKindChecksModel" "pinPart" "[I" ∈ wz := wz_at 1075 (by decide +kernel) rfl
theorem f_Mo_26_Mo : zF "PinKindChecksModel" 26 10 9 := ⟨_, T_Mo, 42, rfl, by decide, u_Mo, x_Mo_26⟩
theorem w_Mo_26_Mo : zFp "PinKindChecksModel" 26 10 9 (.array .int) true := ⟨_, T_Mo, 42, t_Mo, rfl, by decide, u_Mo, x_Mo_26, tk_Mo, nm_Mo, rfl, by decide +kernel, fun _ => rfl⟩
theorem x_Mo_29 : Cond.fieldLink "PinKindChecksModel" 29 "PinKindChecksModel" "pinNet" "[I" ∈ wz := wz_at 1076 (by decide +kernel) rfl
theorem f_Mo_29_Mo : zF "PinKindChecksModel" 29 10 10 := ⟨_, T_Mo, 42, rfl, by decide, u_Mo, x_Mo_29⟩
theorem w_Mo_29_Mo : zFp "PinKindChecksModel" 29 10 10 (.array .int) true := ⟨_, T_Mo, 42, t_Mo, rfl, by decide, u_Mo, x_Mo_29, tk_Mo, nm_Mo, rfl, by decide +kernel, fun _ => rfl⟩
theorem x_Mo_32 : Cond.fieldLink "PinKindChecksModel" 32 "PinKindChecksModel" "pinKind" "[I" ∈ wz := wz_at 1077 (by decide +kernel) rfl
theorem f_Mo_32_Mo : zF "PinKindChecksModel" 32 10 11 := ⟨_, T_Mo, 42, rfl, by decide, u_Mo, x_Mo_32⟩
theorem w_Mo_32_Mo : zFp "PinKindChecksModel" 32 10 11 (.array .int) true := ⟨_, T_Mo, 42, t_Mo, rfl, by decide, u_Mo, x_Mo_32, tk_Mo, nm_Mo, rfl, by decide +kernel, fun _ => rfl⟩
theorem x_Mo_116 : Cond.fieldLink "PinKindChecksModel" 116 "PinKindChecksModel" "ends" "I" ∈ wz := wz_at 1078 (by decide +kernel) rfl
theorem f_Mo_116_Mo : zF "PinKindChecksModel" 116 10 12 := ⟨_, T_Mo, 42, rfl, by decide, u_Mo, x_Mo_116⟩
theorem w_Mo_116_Mo : zFp "PinKindChecksModel" 116 10 12 (.int) false := ⟨_, T_Mo, 42, t_Mo, rfl, by decide, u_Mo, x_Mo_116, tk_Mo, nm_Mo, rfl, by decide +kernel, fun h => by cases h⟩
theorem x_Mo_35 : Cond.fieldLink "PinKindChecksModel" 35 "PinKindChecksModel" "endNet" "[I" ∈ wz := wz_at 1079 (by decide +kernel) rfl
theorem f_Mo_35_Mo : zF "PinKindChecksModel" 35 10 13 := ⟨_, T_Mo, 42, rfl, by decide, u_Mo, x_Mo_35⟩
theorem w_Mo_35_Mo : zFp "PinKindChecksModel" 35 10 13 (.array .int) true := ⟨_, T_Mo, 42, t_Mo, rfl, by decide, u_Mo, x_Mo_35, tk_Mo, nm_Mo, rfl, by decide +kernel, fun _ => rfl⟩
theorem x_Mo_38 : Cond.fieldLink "PinKindChecksModel" 38 "PinKindChecksModel" "endX" "[J" ∈ wz := wz_at 1080 (by decide +kernel) rfl
theorem f_Mo_38_Mo : zF "PinKindChecksModel" 38 10 14 := ⟨_, T_Mo, 42, rfl, by decide, u_Mo, x_Mo_38⟩
theorem w_Mo_38_Mo : zFp "PinKindChecksModel" 38 10 14 (.array .long) true := ⟨_, T_Mo, 42, t_Mo, rfl, by decide, u_Mo, x_Mo_38, tk_Mo, nm_Mo, rfl, by decide +kernel, fun _ => rfl⟩
theorem x_Mo_41 : Cond.fieldLink "PinKindChecksModel" 41 "PinKindChecksModel" "endY" "[J" ∈ wz := wz_at 1081 (by decide +kernel) rfl
theorem f_Mo_41_Mo : zF "PinKindChecksModel" 41 10 15 := ⟨_, T_Mo, 42, rfl, by decide, u_Mo, x_Mo_41⟩
theorem w_Mo_41_Mo : zFp "PinKindChecksModel" 41 10 15 (.array .long) true := ⟨_, T_Mo, 42, t_Mo, rfl, by decide, u_Mo, x_Mo_41, tk_Mo, nm_Mo, rfl, by decide +kernel, fun _ => rfl⟩
theorem x_Mo_44 : Cond.fieldLink "PinKindChecksModel" 44 "PinKindChecksModel" "text" "[I" ∈ wz := wz_at 1082 (by decide +kernel) rfl
theorem f_Mo_44_Mo : zF "PinKindChecksModel" 44 10 16 := ⟨_, T_Mo, 42, rfl, by decide, u_Mo, x_Mo_44⟩
theorem w_Mo_44_Mo : zFp "PinKindChecksModel" 44 10 16 (.array .int) true := ⟨_, T_Mo, 42, t_Mo, rfl, by decide, u_Mo, x_Mo_44, tk_Mo, nm_Mo, rfl, by decide +kernel, fun _ => rfl⟩
theorem x_Mo_119 : Cond.fieldLink "PinKindChecksModel" 119 "PinKindChecksModel" "size" "I" ∈ wz := wz_at 1083 (by decide +kernel) rfl
theorem f_Mo_119_Mo : zF "PinKindChecksModel" 119 10 17 := ⟨_, T_Mo, 42, rfl, by decide, u_Mo, x_Mo_119⟩
theorem w_Mo_119_Mo : zFp "PinKindChecksModel" 119 10 17 (.int) false := ⟨_, T_Mo, 42, t_Mo, rfl, by decide, u_Mo, x_Mo_119, tk_Mo, nm_Mo, rfl, by decide +kernel, fun h => by cases h⟩
theorem x_Mo_210 : Cond.fieldLink "PinKindChecksModel" 210 "PinKindChecksModel" "told" "I" ∈ wz := wz_at 1084 (by decide +kernel) rfl
theorem f_Mo_210_Mo : zF "PinKindChecksModel" 210 10 18 := ⟨_, T_Mo, 42, rfl, by decide, u_Mo, x_Mo_210⟩
theorem w_Mo_210_Mo : zFp "PinKindChecksModel" 210 10 18 (.int) false := ⟨_, T_Mo, 42, t_Mo, rfl, by decide, u_Mo, x_Mo_210, tk_Mo, nm_Mo, rfl, by decide +kernel, fun h => by cases h⟩
theorem x_Mo_47 : Cond.fieldLink "PinKindChecksModel" 47 "PinKindChecksModel" "subject" "[I" ∈ wz := wz_at 1085 (by decide +kernel) rfl
theorem f_Mo_47_Mo : zF "PinKindChecksModel" 47 10 19 := ⟨_, T_Mo, 42, rfl, by decide, u_Mo, x_Mo_47⟩
theorem w_Mo_47_Mo : zFp "PinKindChecksModel" 47 10 19 (.array .int) true := ⟨_, T_Mo, 42, t_Mo, rfl, by decide, u_Mo, x_Mo_47, tk_Mo, nm_Mo, rfl, by decide +kernel, fun _ => rfl⟩
theorem x_Mo_50 : Cond.fieldLink "PinKindChecksModel" 50 "PinKindChecksModel" "weight" "[I" ∈ wz := wz_at 1086 (by decide +kernel) rfl
theorem f_Mo_50_Mo : zF "PinKindChecksModel" 50 10 20 := ⟨_, T_Mo, 42, rfl, by decide, u_Mo, x_Mo_50⟩
theorem w_Mo_50_Mo : zFp "PinKindChecksModel" 50 10 20 (.array .int) true := ⟨_, T_Mo, 42, t_Mo, rfl, by decide, u_Mo, x_Mo_50, tk_Mo, nm_Mo, rfl, by decide +kernel, fun _ => rfl⟩
theorem x_Mo_53 : Cond.fieldLink "PinKindChecksModel" 53 "PinKindChecksModel" "signCount" "[I" ∈ wz := wz_at 1087 (by decide +kernel) rfl
theorem f_Mo_53_Mo : zF "PinKindChecksModel" 53 10 21 := ⟨_, T_Mo, 42, rfl, by decide, u_Mo, x_Mo_53⟩
theorem w_Mo_53_Mo : zFp "PinKindChecksModel" 53 10 21 (.array .int) true := ⟨_, T_Mo, 42, t_Mo, rfl, by decide, u_Mo, x_Mo_53, tk_Mo, nm_Mo, rfl, by decide +kernel, fun _ => rfl⟩
theorem x_Mo_56 : Cond.fieldLink "PinKindChecksModel" 56 "PinKindChecksModel" "signs" "[I" ∈ wz := wz_at 1088 (by decide +kernel) rfl
theorem f_Mo_56_Mo : zF "PinKindChecksModel" 56 10 22 := ⟨_, T_Mo, 42, rfl, by decide, u_Mo, x_Mo_56⟩
theorem w_Mo_56_Mo : zFp "PinKindChecksModel" 56 10 22 (.array .int) true := ⟨_, T_Mo, 42, t_Mo, rfl, by decide, u_Mo, x_Mo_56, tk_Mo, nm_Mo, rfl, by decide +kernel, fun _ => rfl⟩
theorem x_Mo_59 : Cond.fieldLink "PinKindChecksModel" 59 "PinKindChecksModel" "operands" "[I" ∈ wz := wz_at 1089 (by decide +kernel) rfl
theorem f_Mo_59_Mo : zF "PinKindChecksModel" 59 10 23 := ⟨_, T_Mo, 42, rfl, by decide, u_Mo, x_Mo_59⟩
theorem w_Mo_59_Mo : zFp "PinKindChecksModel" 59 10 23 (.array .int) true := ⟨_, T_Mo, 42, t_Mo, rfl, by decide, u_Mo, x_Mo_59, tk_Mo, nm_Mo, rfl, by decide +kernel, fun _ => rfl⟩
theorem x_Mo_62 : Cond.fieldLink "PinKindChecksModel" 62 "PinKindChecksModel" "off" "[Z" ∈ wz := wz_at 1090 (by decide +kernel) rfl
theorem f_Mo_62_Mo : zF "PinKindChecksModel" 62 10 24 := ⟨_, T_Mo, 42, rfl, by decide, u_Mo, x_Mo_62⟩
theorem w_Mo_62_Mo : zFp "PinKindChecksModel" 62 10 24 (.array .boolean) true := ⟨_, T_Mo, 42, t_Mo, rfl, by decide, u_Mo, x_Mo_62, tk_Mo, nm_Mo, rfl, by decide +kernel, fun _ => rfl⟩
theorem x_Mo_66 : Cond.fieldLink "PinKindChecksModel" 66 "PinKindChecksModel" "version" "I" ∈ wz := wz_at 1091 (by decide +kernel) rfl
theorem f_Mo_66_Mo : zF "PinKindChecksModel" 66 10 25 := ⟨_, T_Mo, 42, rfl, by decide, u_Mo, x_Mo_66⟩
theorem w_Mo_66_Mo : zFp "PinKindChecksModel" 66 10 25 (.int) false := ⟨_, T_Mo, 42, t_Mo, rfl, by decide, u_Mo, x_Mo_66, tk_Mo, nm_Mo, rfl, by decide +kernel, fun h => by cases h⟩
theorem x_Mo_70 : Cond.fieldLink "PinKindChecksModel" 70 "PinKindChecksModel" "now" "[I" ∈ wz := wz_at 1092 (by decide +kernel) rfl
theorem f_Mo_70_Mo : zF "PinKindChecksModel" 70 10 26 := ⟨_, T_Mo, 42, rfl, by decide, u_Mo, x_Mo_70⟩
theorem w_Mo_70_Mo : zFp "PinKindChecksModel" 70 10 26 (.array .int) true := ⟨_, T_Mo, 42, t_Mo, rfl, by decide, u_Mo, x_Mo_70, tk_Mo, nm_Mo, rfl, by decide +kernel, fun _ => rfl⟩
theorem x_Mo_73 : Cond.fieldLink "PinKindChecksModel" 73 "PinKindChecksModel" "weights" "[I" ∈ wz := wz_at 1093 (by decide +kernel) rfl
theorem f_Mo_73_Mo : zF "PinKindChecksModel" 73 10 27 := ⟨_, T_Mo, 42, rfl, by decide, u_Mo, x_Mo_73⟩
theorem w_Mo_73_Mo : zFp "PinKindChecksModel" 73 10 27 (.array .int) true := ⟨_, T_Mo, 42, t_Mo, rfl, by decide, u_Mo, x_Mo_73, tk_Mo, nm_Mo, rfl, by decide +kernel, fun _ => rfl⟩
theorem x_Mo_76 : Cond.fieldLink "PinKindChecksModel" 76 "PinKindChecksModel" "before" "[I" ∈ wz := wz_at 1094 (by decide +kernel) rfl
theorem f_Mo_76_Mo : zF "PinKindChecksModel" 76 10 28 := ⟨_, T_Mo, 42, rfl, by decide, u_Mo, x_Mo_76⟩
theorem w_Mo_76_Mo : zFp "PinKindChecksModel" 76 10 28 (.array .int) true := ⟨_, T_Mo, 42, t_Mo, rfl, by decide, u_Mo, x_Mo_76, tk_Mo, nm_Mo, rfl, by decide +kernel, fun _ => rfl⟩
theorem x_Mo_264 : Cond.fieldLink "PinKindChecksModel" 264 "PinKindChecksModel" "ran" "Z" ∈ wz := wz_at 1095 (by decide +kernel) rfl
theorem f_Mo_264_Mo : zF "PinKindChecksModel" 264 10 29 := ⟨_, T_Mo, 42, rfl, by decide, u_Mo, x_Mo_264⟩
theorem w_Mo_264_Mo : zFp "PinKindChecksModel" 264 10 29 (.boolean) false := ⟨_, T_Mo, 42, t_Mo, rfl, by decide, u_Mo, x_Mo_264, tk_Mo, nm_Mo, rfl, by decide +kernel, fun h => by cases h⟩
theorem x_Mo_268 : Cond.fieldLink "PinKindChecksModel" 268 "PinKindChecksModel" "waived" "I" ∈ wz := wz_at 1096 (by decide +kernel) rfl
theorem f_Mo_268_Mo : zF "PinKindChecksModel" 268 10 30 := ⟨_, T_Mo, 42, rfl, by decide, u_Mo, x_Mo_268⟩
theorem w_Mo_268_Mo : zFp "PinKindChecksModel" 268 10 30 (.int) false := ⟨_, T_Mo, 42, t_Mo, rfl, by decide, u_Mo, x_Mo_268, tk_Mo, nm_Mo, rfl, by decide +kernel, fun h => by cases h⟩
theorem x_Mo_79 : Cond.fieldLink "PinKindChecksModel" 79 "PinKindChecksModel" "waivedAt" "[I" ∈ wz := wz_at 1097 (by decide +kernel) rfl
theorem f_Mo_79_Mo : zF "PinKindChecksModel" 79 10 31 := ⟨_, T_Mo, 42, rfl, by decide, u_Mo, x_Mo_79⟩
theorem w_Mo_79_Mo : zFp "PinKindChecksModel" 79 10 31 (.array .int) true := ⟨_, T_Mo, 42, t_Mo, rfl, by decide, u_Mo, x_Mo_79, tk_Mo, nm_Mo, rfl, by decide +kernel, fun _ => rfl⟩
theorem x_Mo_82 : Cond.fieldLink "PinKindChecksModel" 82 "PinKindChecksModel" "reasons" "[I" ∈ wz := wz_at 1098 (by decide +kernel) rfl
theorem f_Mo_82_Mo : zF "PinKindChecksModel" 82 10 32 := ⟨_, T_Mo, 42, rfl, by decide, u_Mo, x_Mo_82⟩
theorem w_Mo_82_Mo : zFp "PinKindChecksModel" 82 10 32 (.array .int) true := ⟨_, T_Mo, 42, t_Mo, rfl, by decide, u_Mo, x_Mo_82, tk_Mo, nm_Mo, rfl, by decide +kernel, fun _ => rfl⟩
theorem x_Mo_125 : Cond.fieldLink "PinKindChecksModel" 125 "PinKindChecksModel" "begin" "I" ∈ wz := wz_at 1099 (by decide +kernel) rfl
theorem f_Mo_125_Mo : zF "PinKindChecksModel" 125 10 33 := ⟨_, T_Mo, 42, rfl, by decide, u_Mo, x_Mo_125⟩
theorem w_Mo_125_Mo : zFp "PinKindChecksModel" 125 10 33 (.int) false := ⟨_, T_Mo, 42, t_Mo, rfl, by decide, u_Mo, x_Mo_125, tk_Mo, nm_Mo, rfl, by decide +kernel, fun h => by cases h⟩
theorem x_Mo_122 : Cond.fieldLink "PinKindChecksModel" 122 "PinKindChecksModel" "at" "I" ∈ wz := wz_at 1100 (by decide +kernel) rfl
theorem f_Mo_122_Mo : zF "PinKindChecksModel" 122 10 34 := ⟨_, T_Mo, 42, rfl, by decide, u_Mo, x_Mo_122⟩
theorem w_Mo_122_Mo : zFp "PinKindChecksModel" 122 10 34 (.int) false := ⟨_, T_Mo, 42, t_Mo, rfl, by decide, u_Mo, x_Mo_122, tk_Mo, nm_Mo, rfl, by decide +kernel, fun h => by cases h⟩
theorem x_Mo_128 : Cond.fieldLink "PinKindChecksModel" 128 "PinKindChecksModel" "words" "I" ∈ wz := wz_at 1101 (by decide +kernel) rfl
theorem f_Mo_128_Mo : zF "PinKindChecksModel" 128 10 35 := ⟨_, T_Mo, 42, rfl, by decide, u_Mo, x_Mo_128⟩
theorem w_Mo_128_Mo : zFp "PinKindChecksModel" 128 10 35 (.int) false := ⟨_, T_Mo, 42, t_Mo, rfl, by decide, u_Mo, x_Mo_128, tk_Mo, nm_Mo, rfl, by decide +kernel, fun h => by cases h⟩
theorem x_Mo_131 : Cond.fieldLink "PinKindChecksModel" 131 "PinKindChecksModel" "rule" "I" ∈ wz := wz_at 1102 (by decide +kernel) rfl
theorem f_Mo_131_Mo : zF "PinKindChecksModel" 131 10 36 := ⟨_, T_Mo, 42, rfl, by decide, u_Mo, x_Mo_131⟩
theorem w_Mo_131_Mo : zFp "PinKindChecksModel" 131 10 36 (.int) false := ⟨_, T_Mo, 42, t_Mo, rfl, by decide, u_Mo, x_Mo_131, tk_Mo, nm_Mo, rfl, by decide +kernel, fun h => by cases h⟩
theorem x_Mo_85 : Cond.fieldLink "PinKindChecksModel" 85 "PinKindChecksModel" "waiting" "[I" ∈ wz := wz_at 1103 (by decide +kernel) rfl
theorem f_Mo_85_Mo : zF "PinKindChecksModel" 85 10 37 := ⟨_, T_Mo, 42, rfl, by decide, u_Mo, x_Mo_85⟩
theorem w_Mo_85_Mo : zFp "PinKindChecksModel" 85 10 37 (.array .int) true := ⟨_, T_Mo, 42, t_Mo, rfl, by decide, u_Mo, x_Mo_85, tk_Mo, nm_Mo, rfl, by decide +kernel, fun _ => rfl⟩
theorem x_Mo_134 : Cond.fieldLink "PinKindChecksModel" 134 "PinKindChecksModel" "waits" "I" ∈ wz := wz_at 1104 (by decide +kernel) rfl
theorem f_Mo_134_Mo : zF "PinKindChecksModel" 134 10 38 := ⟨_, T_Mo, 42, rfl, by decide, u_Mo, x_Mo_134⟩
theorem w_Mo_134_Mo : zFp "PinKindChecksModel" 134 10 38 (.int) false := ⟨_, T_Mo, 42, t_Mo, rfl, by decide, u_Mo, x_Mo_134, tk_Mo, nm_Mo, rfl, by decide +kernel, fun h => by cases h⟩
theorem x_Mo_196 : Cond.fieldLink "PinKindChecksModel" 196 "PinKindChecksModel" "open" "I" ∈ wz := wz_at 1105 (by decide +kernel) rfl
theorem f_Mo_196_Mo : zF "PinKindChecksModel" 196 10 39 := ⟨_, T_Mo, 42, rfl, by decide, u_Mo, x_Mo_196⟩
theorem w_Mo_196_Mo : zFp "PinKindChecksModel" 196 10 39 (.int) false := ⟨_, T_Mo, 42, t_Mo, rfl, by decide, u_Mo, x_Mo_196, tk_Mo, nm_Mo, rfl, by decide +kernel, fun h => by cases h⟩
theorem x_Mo_184 : Cond.fieldLink "PinKindChecksModel" 184 "PinKindChecksModel" "state" "I" ∈ wz := wz_at 1106 (by decide +kernel) rfl
theorem f_Mo_184_Mo : zF "PinKindChecksModel" 184 10 40 := ⟨_, T_Mo, 42, rfl, by decide, u_Mo, x_Mo_184⟩
theorem w_Mo_184_Mo : zFp "PinKindChecksModel" 184 10 40 (.int) false := ⟨_, T_Mo, 42, t_Mo, rfl, by decide, u_Mo, x_Mo_184, tk_Mo, nm_Mo, rfl, by decide +kernel, fun h => by cases h⟩
theorem x_Mo_88 : Cond.fieldLink "PinKindChecksModel" 88 "PinKindChecksModel" "stack" "[J" ∈ wz := wz_at 1107 (by decide +kernel) rfl
theorem f_Mo_88_Mo : zF "PinKindChecksModel" 88 10 41 := ⟨_, T_Mo, 42, rfl, by decide, u_Mo, x_Mo_88⟩
theorem w_Mo_88_Mo : zFp "PinKindChecksModel" 88 10 41 (.array .long) true := ⟨_, T_Mo, 42, t_Mo, rfl, by decide, u_Mo, x_Mo_88, tk_Mo, nm_Mo, rfl, by decide +kernel, fun _ => rfl⟩
theorem x_jS_9 : Cond.fieldLink "java/lang/String" 9 "java/lang/String" "value" "[B" ∈ wz := wz_at 1423 (by decide +kernel) rfl
theorem x_jS_15 : Cond.fieldLink "java/lang/String" 15 "java/lang/String" "coder" "B" ∈ wz := wz_at 1424 (by decide +kernel) rfl
theorem n_La_8 : zN "PinKindChecksLaw" 8 0 11 [.null, .null, .null, .null, .null, .null, .null, .null, .null, .int 0, .int 0] := ⟨_, T_K, t_K, rfl, u_K, tk_K, t_La_8, wz_at 28 (by decide +kernel) rfl, wz_at 1 (by decide +kernel) rfl, by decide +kernel⟩
theorem n_K_9 : zN "PinKindChecks" 9 1 9 [.null, .null, .null, .null, .null, .int 0, .int 0, .int 0, .int 0] := ⟨_, T_Sc, t_Sc, rfl, u_Sc, tk_Sc, t_K_9, wz_at 36 (by decide +kernel) rfl, wz_at 2 (by decide +kernel) rfl, by decide +kernel⟩
theorem n_Sc_15 : zN "PinKindChecks$Schematic" 15 6 5 [.int 0, .int 0, .null, .int 0, .null] := ⟨_, T_Pa, t_Pa, rfl, u_Pa, tk_Pa, t_Sc_15, wz_at 597 (by decide +kernel) rfl, wz_at 15 (by decide +kernel) rfl, by decide +kernel⟩
theorem n_Sc_21 : zN "PinKindChecks$Schematic" 21 7 6 [.int 0, .int 0, .null, .int 0, .int 0, .int 0] := ⟨_, T_Ne, t_Ne, rfl, u_Ne, tk_Ne, t_Sc_21, wz_at 650 (by decide +kernel) rfl, wz_at 16 (by decide +kernel) rfl, by decide +kernel⟩
theorem n_Sc_27 : zN "PinKindChecks$Schematic" 27 8 5 [.int 0, .int 0, .null, .int 0, .null] := ⟨_, T_Pi, t_Pi, rfl, u_Pi, tk_Pi, t_Sc_27, wz_at 688 (by decide +kernel) rfl, wz_at 17 (by decide +kernel) rfl, by decide +kernel⟩
theorem n_K_16 : zN "PinKindChecks" 16 3 12 [.null, .null, .null, .null, .int 0, .int 0, .int 0, .int 0, .int 0, .int 0, .int 0, .int 0] := ⟨_, T_Rd, t_Rd, rfl, u_Rd, tk_Rd, t_K_16, wz_at 79 (by decide +kernel) rfl, wz_at 3 (by decide +kernel) rfl, by decide +kernel⟩
theorem n_Rd_21 : zN "PinKindChecks$RuleReader" 21 2 4 [.null, .int 0, .int 0, .int 0] := ⟨_, T_Tx, t_Tx, rfl, u_Tx, tk_Tx, t_Rd_21, wz_at 85 (by decide +kernel) rfl, wz_at 4 (by decide +kernel) rfl, by decide +kernel⟩
theorem n_K_23 : zN "PinKindChecks" 23 9 4 [.int 0, .int 0, .null, .null] := ⟨_, T_Tr, t_Tr, rfl, u_Tr, tk_Tr, t_K_23, wz_at 979 (by decide +kernel) rfl, wz_at 24 (by decide +kernel) rfl, by decide +kernel⟩
theorem n_K_33 : zN "PinKindChecks" 33 4 3 [.null, .null, .int 0] := ⟨_, T_Wv, t_Wv, rfl, u_Wv, tk_Wv, t_K_33, wz_at 144 (by decide +kernel) rfl, wz_at 5 (by decide +kernel) rfl, by decide +kernel⟩
theorem n_K_40 : zN "PinKindChecks" 40 5 4 [.null, .null, .null, .int 0] := ⟨_, T_Rm, t_Rm, rfl, u_Rm, tk_Rm, t_K_40, wz_at 161 (by decide +kernel) rfl, wz_at 6 (by decide +kernel) rfl, by decide +kernel⟩
theorem n_Tr_29 : zN "PinKindChecks$ToldRule" 29 6 5 [.int 0, .int 0, .null, .int 0, .null] := ⟨_, T_Pa, t_Pa, rfl, u_Pa, tk_Pa, t_Tr_29, wz_at 597 (by decide +kernel) rfl, wz_at 15 (by decide +kernel) rfl, by decide +kernel⟩
theorem n_Tr_31 : zN "PinKindChecks$ToldRule" 31 7 6 [.int 0, .int 0, .null, .int 0, .int 0, .int 0] := ⟨_, T_Ne, t_Ne, rfl, u_Ne, tk_Ne, t_Tr_31, wz_at 650 (by decide +kernel) rfl, wz_at 16 (by decide +kernel) rfl, by decide +kernel⟩
theorem n_Tr_33 : zN "PinKindChecks$ToldRule" 33 8 5 [.int 0, .int 0, .null, .int 0, .null] := ⟨_, T_Pi, t_Pi, rfl, u_Pi, tk_Pi, t_Tr_33, wz_at 688 (by decide +kernel) rfl, wz_at 17 (by decide +kernel) rfl, by decide +kernel⟩
theorem n_Rd_74 : zN "PinKindChecks$RuleReader" 74 9 4 [.int 0, .int 0, .null, .null] := ⟨_, T_Tr, t_Tr, rfl, u_Tr, tk_Tr, t_Rd_74, wz_at 979 (by decide +kernel) rfl, wz_at 24 (by decide +kernel) rfl, by decide +kernel⟩
theorem n_La_62 : zN "PinKindChecksLaw" 62 10 42 [.int 0, .null, .int 0, .int 0, .int 0, .null, .null, .null, .null, .null, .null, .null, .int 0, .null, .null, .null, .null, .int 0, .int 0, .null, .null, .null, .null, .null, .null, .int 0, .null, .null, .null, .int 0, .int 0, .null, .null, .int 0, .int 0, .int 0, .int 0, .null, .int 0, .int 0, .int 0, .null] := ⟨_, T_Mo, t_Mo, rfl, u_Mo, tk_Mo, t_La_62, wz_at 1061 (by decide +kernel) rfl, wz_at 7 (by decide +kernel) rfl, by decide +kernel⟩
