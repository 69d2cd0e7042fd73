abbrev R_X0_begin : Room := { frames := 1, cells := 0, slots := 0, locals := 22 }
abbrev R_X0_takeFrom : Room := { frames := 1, cells := 0, slots := 0, locals := 26 }
abbrev R_X0_property : Room := { frames := 0, cells := 0, slots := 0, locals := 0 }
abbrev R_X0_disarm : Room := { frames := 0, cells := 0, slots := 0, locals := 0 }
abbrev R_X0_isArmed : Room := { frames := 0, cells := 0, slots := 0, locals := 0 }
abbrev R_X0_isFull : Room := { frames := 1, cells := 0, slots := 0, locals := 22 }
abbrev R_X0_add : Room := { frames := 0, cells := 0, slots := 0, locals := 0 }
abbrev R_X0_remove : Room := { frames := 1, cells := 0, slots := 0, locals := 22 }
abbrev R_X0_armedSet : Room := { frames := 1, cells := 0, slots := 0, locals := 21 }
abbrev R_X0_armedCount : Room := { frames := 2, cells := 0, slots := 0, locals := 43 }
abbrev R_X0_apply : Room := { frames := 1, cells := 0, slots := 0, locals := 21 }
abbrev R_X0_stop : Room := { frames := 2, cells := 0, slots := 0, locals := 47 }
abbrev R_X1_prepare : Room := { frames := 2, cells := 0, slots := 0, locals := 47 }
abbrev R_X1_go : Room := { frames := 2, cells := 0, slots := 0, locals := 46 }
abbrev R_X2_clear : Room := { frames := 0, cells := 0, slots := 0, locals := 0 }
abbrev R_X2_remember : Room := { frames := 3, cells := 0, slots := 0, locals := 68 }
abbrev R_X2_takeBack : Room := { frames := 3, cells := 0, slots := 0, locals := 68 }
abbrev R_X3_begin : Room := { frames := 1, cells := 0, slots := 0, locals := 23 }
abbrev R_X3_takeFrom : Room := { frames := 1, cells := 0, slots := 0, locals := 26 }
abbrev R_X3_scatter : Room := { frames := 0, cells := 0, slots := 0, locals := 0 }
abbrev R_X3_step : Room := { frames := 1, cells := 0, slots := 0, locals := 21 }
abbrev R_X3_putOut : Room := { frames := 0, cells := 0, slots := 0, locals := 0 }
abbrev R_X4_has : Room := { frames := 0, cells := 0, slots := 0, locals := 0 }
abbrev R_X4_add : Room := { frames := 1, cells := 0, slots := 0, locals := 22 }
abbrev R_X4_modelOf : Room := { frames := 0, cells := 0, slots := 0, locals := 0 }
abbrev R_X4_different : Room := { frames := 0, cells := 0, slots := 0, locals := 0 }
abbrev R_X4_savedCell : Room := { frames := 1, cells := 0, slots := 0, locals := 21 }
abbrev R_X5_add : Room := { frames := 0, cells := 0, slots := 0, locals := 0 }
abbrev R_X5_areTrue : Room := { frames := 0, cells := 0, slots := 0, locals := 0 }
abbrev R_X6_begin : Room := { frames := 2, cells := 0, slots := 0, locals := 43 }
abbrev R_X6_takeFrom : Room := { frames := 2, cells := 0, slots := 0, locals := 47 }
abbrev R_X6_isWatched : Room := { frames := 1, cells := 0, slots := 0, locals := 20 }
abbrev R_X6_turnWatch : Room := { frames := 0, cells := 0, slots := 0, locals := 0 }
abbrev R_X6_allows : Room := { frames := 0, cells := 0, slots := 0, locals := 0 }
abbrev R_X6_perform : Room := { frames := 4, cells := 0, slots := 0, locals := 94 }
abbrev R_X6_isDone : Room := { frames := 0, cells := 0, slots := 0, locals := 0 }
abbrev R_X6_reasonAfterStep : Room := { frames := 3, cells := 0, slots := 0, locals := 70 }
abbrev R_X6_charge : Room := { frames := 2, cells := 0, slots := 0, locals := 48 }
abbrev R_X6_keepCopy : Room := { frames := 1, cells := 0, slots := 0, locals := 26 }
abbrev R_X7_measure : Room := { frames := 3, cells := 0, slots := 0, locals := 71 }
abbrev R_X7_list : Room := { frames := 1, cells := 0, slots := 0, locals := 22 }
abbrev R_X7_follow : Room := { frames := 2, cells := 0, slots := 0, locals := 47 }
abbrev R_X7_indexOf : Room := { frames := 0, cells := 0, slots := 0, locals := 0 }
abbrev R_X7_valueOf : Room := { frames := 1, cells := 0, slots := 0, locals := 26 }
abbrev R_X7_weightedGain : Room := { frames := 1, cells := 0, slots := 0, locals := 22 }
abbrev R_X7_weightOfAtLeast : Room := { frames := 1, cells := 0, slots := 0, locals := 24 }
abbrev R_X8_readInto : Room := { frames := 7, cells := 0, slots := 0, locals := 159 }
abbrev R_X8_formOf : Room := { frames := 0, cells := 0, slots := 0, locals := 0 }
abbrev R_X8_endOfMatch : Room := { frames := 5, cells := 0, slots := 0, locals := 106 }
abbrev R_X8_fits : Room := { frames := 0, cells := 0, slots := 0, locals := 0 }
abbrev R_X8_addInstruction : Room := { frames := 2, cells := 0, slots := 0, locals := 45 }
abbrev R_X8_distance : Room := { frames := 1, cells := 0, slots := 0, locals := 21 }
abbrev R_X8_digit : Room := { frames := 0, cells := 0, slots := 0, locals := 0 }
abbrev R_X9_write : Room := { frames := 0, cells := 0, slots := 0, locals := 0 }
abbrev R_X9_wipe : Room := { frames := 0, cells := 0, slots := 0, locals := 0 }
abbrev R_X9_fault : Room := { frames := 8, cells := 0, slots := 0, locals := 185 }
abbrev R_X9_code : Room := { frames := 8, cells := 0, slots := 0, locals := 185 }
abbrev R_X9_emptySlots : Room := { frames := 0, cells := 0, slots := 0, locals := 0 }
abbrev R_X9_about : Room := { frames := 2, cells := 0, slots := 0, locals := 43 }
abbrev R_X9_register : Room := { frames := 1, cells := 0, slots := 0, locals := 20 }
abbrev R_X9_cell : Room := { frames := 1, cells := 0, slots := 0, locals := 20 }
abbrev R_X9_stack : Room := { frames := 0, cells := 0, slots := 0, locals := 0 }
abbrev R_X9_broken : Room := { frames := 1, cells := 0, slots := 0, locals := 22 }
abbrev R_X9_copy : Room := { frames := 0, cells := 0, slots := 0, locals := 0 }
abbrev R_X9_plan : Room := { frames := 5, cells := 0, slots := 0, locals := 119 }
abbrev R_X9_set : Room := { frames := 5, cells := 0, slots := 0, locals := 113 }
abbrev R_X9_exchange : Room := { frames := 4, cells := 0, slots := 0, locals := 89 }
abbrev R_X9_moveCounter : Room := { frames := 4, cells := 0, slots := 0, locals := 89 }
abbrev R_X9_smash : Room := { frames := 4, cells := 0, slots := 0, locals := 89 }
abbrev R_X9_lift : Room := { frames := 4, cells := 0, slots := 0, locals := 89 }
abbrev R_X9_watch : Room := { frames := 4, cells := 0, slots := 0, locals := 89 }
abbrev R_X9_undo : Room := { frames := 4, cells := 0, slots := 0, locals := 89 }
abbrev R_X9_aside : Room := { frames := 1, cells := 0, slots := 0, locals := 23 }
abbrev R_X9_followsAside : Room := { frames := 0, cells := 0, slots := 0, locals := 0 }
abbrev R_X9_corrections : Room := { frames := 0, cells := 0, slots := 0, locals := 0 }
abbrev R_X9_free : Room := { frames := 3, cells := 0, slots := 0, locals := 69 }
abbrev R_X9_judge : Room := { frames := 6, cells := 0, slots := 0, locals := 143 }
abbrev R_X9_statementAt : Room := { frames := 0, cells := 0, slots := 0, locals := 0 }
abbrev R_X9_holds : Room := { frames := 5, cells := 0, slots := 0, locals := 119 }
abbrev R_X9_isGood : Room := { frames := 0, cells := 0, slots := 0, locals := 0 }
abbrev R_X9_takesBreak : Room := { frames := 2, cells := 0, slots := 0, locals := 43 }
abbrev R_X9_see : Room := { frames := 1, cells := 0, slots := 0, locals := 22 }
abbrev R_X9_unsee : Room := { frames := 0, cells := 0, slots := 0, locals := 0 }
abbrev R_X9_which : Room := { frames := 3, cells := 0, slots := 0, locals := 69 }
abbrev R_X9_share : Room := { frames := 4, cells := 0, slots := 0, locals := 94 }
abbrev R_X9_chance : Room := { frames := 4, cells := 0, slots := 0, locals := 94 }
abbrev R_X9_seed : Room := { frames := 0, cells := 0, slots := 0, locals := 0 }
abbrev R_X9_drawn : Room := { frames := 3, cells := 0, slots := 0, locals := 69 }
abbrev R_X9_keep : Room := { frames := 3, cells := 0, slots := 0, locals := 68 }
abbrev R_X9_again : Room := { frames := 3, cells := 0, slots := 0, locals := 68 }
abbrev R_X9_isRegister : Room := { frames := 0, cells := 0, slots := 0, locals := 0 }
abbrev R_X9_isCell : Room := { frames := 0, cells := 0, slots := 0, locals := 0 }
abbrev R_X9_isSlot : Room := { frames := 0, cells := 0, slots := 0, locals := 0 }
abbrev R_X9_power : Room := { frames := 0, cells := 0, slots := 0, locals := 0 }
abbrev R_X9_factorial : Room := { frames := 0, cells := 0, slots := 0, locals := 0 }
abbrev R_X9_partOf : Room := { frames := 1, cells := 0, slots := 0, locals := 25 }
abbrev R_X9_commonDivisor : Room := { frames := 0, cells := 0, slots := 0, locals := 0 }
abbrev R_X10_clear : Room := { frames := 0, cells := 0, slots := 0, locals := 0 }
abbrev R_X10_copyRow : Room := { frames := 0, cells := 0, slots := 0, locals := 0 }
abbrev R_X10_in : Room := { frames := 0, cells := 0, slots := 0, locals := 0 }
abbrev R_X10_has : Room := { frames := 0, cells := 0, slots := 0, locals := 0 }
abbrev R_X10_ones : Room := { frames := 0, cells := 0, slots := 0, locals := 0 }
abbrev R_X10_power : Room := { frames := 0, cells := 0, slots := 0, locals := 0 }
abbrev R_X10_factorial : Room := { frames := 0, cells := 0, slots := 0, locals := 0 }
abbrev R_X10_fraction : Room := { frames := 0, cells := 0, slots := 0, locals := 0 }
abbrev R_X10_isPlace : Room := { frames := 1, cells := 0, slots := 0, locals := 25 }
abbrev R_X10_write : Room := { frames := 1, cells := 0, slots := 0, locals := 25 }
abbrev R_X10_wipe : Room := { frames := 0, cells := 0, slots := 0, locals := 0 }
abbrev R_X10_kindOf : Room := { frames := 0, cells := 0, slots := 0, locals := 0 }
abbrev R_X10_takeSign : Room := { frames := 1, cells := 0, slots := 0, locals := 20 }
abbrev R_X10_ended : Room := { frames := 0, cells := 0, slots := 0, locals := 0 }
abbrev R_X10_takeFar : Room := { frames := 1, cells := 0, slots := 0, locals := 25 }
abbrev R_X10_takeCall : Room := { frames := 1, cells := 0, slots := 0, locals := 25 }
abbrev R_X10_takeFirst : Room := { frames := 1, cells := 0, slots := 0, locals := 25 }
abbrev R_X10_takeOf : Room := { frames := 2, cells := 0, slots := 0, locals := 47 }
abbrev R_X10_readText : Room := { frames := 3, cells := 0, slots := 0, locals := 70 }
abbrev R_X10_fault : Room := { frames := 4, cells := 0, slots := 0, locals := 91 }
abbrev R_X10_code : Room := { frames := 4, cells := 0, slots := 0, locals := 91 }
abbrev R_X10_doesFault : Room := { frames := 2, cells := 0, slots := 0, locals := 46 }
abbrev R_X10_perform : Room := { frames := 0, cells := 0, slots := 0, locals := 0 }
abbrev R_X10_bareStep : Room := { frames := 3, cells := 0, slots := 0, locals := 68 }
abbrev R_X10_areAlike : Room := { frames := 0, cells := 0, slots := 0, locals := 0 }
abbrev R_X10_leastAlike : Room := { frames := 1, cells := 0, slots := 0, locals := 22 }
abbrev R_X10_keepCopy : Room := { frames := 2, cells := 0, slots := 0, locals := 45 }
abbrev R_X10_step : Room := { frames := 4, cells := 0, slots := 0, locals := 90 }
abbrev R_X10_applies : Room := { frames := 2, cells := 0, slots := 0, locals := 46 }
abbrev R_X10_isChanged : Room := { frames := 1, cells := 0, slots := 0, locals := 21 }
abbrev R_X10_isStopped : Room := { frames := 3, cells := 0, slots := 0, locals := 72 }
abbrev R_X10_isThrough : Room := { frames := 0, cells := 0, slots := 0, locals := 0 }
abbrev R_X10_reason : Room := { frames := 4, cells := 0, slots := 0, locals := 94 }
abbrev R_X10_planOn : Room := { frames := 5, cells := 0, slots := 0, locals := 118 }
abbrev R_X10_freeOn : Room := { frames := 4, cells := 0, slots := 0, locals := 90 }
abbrev R_X10_counted : Room := { frames := 0, cells := 0, slots := 0, locals := 0 }
abbrev R_X10_unlike : Room := { frames := 2, cells := 0, slots := 0, locals := 45 }
abbrev R_X10_about : Room := { frames := 3, cells := 0, slots := 0, locals := 67 }
abbrev R_X10_register : Room := { frames := 1, cells := 0, slots := 0, locals := 25 }
abbrev R_X10_cell : Room := { frames := 1, cells := 0, slots := 0, locals := 25 }
abbrev R_X10_stack : Room := { frames := 1, cells := 0, slots := 0, locals := 25 }
abbrev R_X10_broken : Room := { frames := 2, cells := 0, slots := 0, locals := 46 }
abbrev R_X10_copy : Room := { frames := 1, cells := 0, slots := 0, locals := 25 }
abbrev R_X10_note : Room := { frames := 0, cells := 0, slots := 0, locals := 0 }
abbrev R_X10_plan : Room := { frames := 6, cells := 0, slots := 0, locals := 143 }
abbrev R_X10_tellAt : Room := { frames := 1, cells := 0, slots := 0, locals := 21 }
abbrev R_X10_set : Room := { frames := 2, cells := 0, slots := 0, locals := 46 }
abbrev R_X10_breakOn : Room := { frames := 0, cells := 0, slots := 0, locals := 0 }
abbrev R_X10_smash : Room := { frames := 2, cells := 0, slots := 0, locals := 46 }
abbrev R_X10_lift : Room := { frames := 2, cells := 0, slots := 0, locals := 46 }
abbrev R_X10_watch : Room := { frames := 1, cells := 0, slots := 0, locals := 25 }
abbrev R_X10_undo : Room := { frames := 0, cells := 0, slots := 0, locals := 0 }
abbrev R_X10_aside : Room := { frames := 3, cells := 0, slots := 0, locals := 68 }
abbrev R_X10_free : Room := { frames := 5, cells := 0, slots := 0, locals := 110 }
abbrev R_X10_judged : Room := { frames := 6, cells := 0, slots := 0, locals := 143 }
abbrev R_X10_thousands : Room := { frames := 0, cells := 0, slots := 0, locals := 0 }
abbrev R_X10_judge : Room := { frames := 7, cells := 0, slots := 0, locals := 167 }
abbrev R_X10_see : Room := { frames := 1, cells := 0, slots := 0, locals := 25 }
abbrev R_X10_unsee : Room := { frames := 0, cells := 0, slots := 0, locals := 0 }
abbrev R_X10_which : Room := { frames := 5, cells := 0, slots := 0, locals := 110 }
abbrev R_X10_layPlaces : Room := { frames := 0, cells := 0, slots := 0, locals := 0 }
abbrev R_X10_stopsBy : Room := { frames := 6, cells := 0, slots := 0, locals := 143 }
abbrev R_X10_share : Room := { frames := 7, cells := 0, slots := 0, locals := 166 }
abbrev R_X10_chance : Room := { frames := 7, cells := 0, slots := 0, locals := 166 }
abbrev R_X10_seed : Room := { frames := 0, cells := 0, slots := 0, locals := 0 }
abbrev R_X10_drawn : Room := { frames := 5, cells := 0, slots := 0, locals := 110 }
abbrev R_X10_keep : Room := { frames := 1, cells := 0, slots := 0, locals := 25 }
abbrev R_X10_again : Room := { frames := 1, cells := 0, slots := 0, locals := 25 }
abbrev R_J11_isValidCodePoint_9a6ad : Room := { frames := 0, cells := 0, slots := 0, locals := 0 }
abbrev R_J11_highSurrogate_5068e : Room := { frames := 0, cells := 0, slots := 0, locals := 0 }
abbrev R_J11_lowSurrogate_5068e : Room := { frames := 0, cells := 0, slots := 0, locals := 0 }
abbrev R_J6_bitCount_0f7a4 : Room := { frames := 0, cells := 0, slots := 0, locals := 0 }
abbrev R_J9_abs_0f7a4 : Room := { frames := 0, cells := 0, slots := 0, locals := 0 }
abbrev R_J9_max_7cf53 : Room := { frames := 0, cells := 0, slots := 0, locals := 0 }
abbrev R_J9_min_7cf53 : Room := { frames := 0, cells := 0, slots := 0, locals := 0 }
abbrev R_J0_length_8abf5 : Room := { frames := 1, cells := 0, slots := 0, locals := 20 }
abbrev R_J0_charAt_5068e : Room := { frames := 4, cells := 0, slots := 0, locals := 85 }
abbrev R_J0_indexOf_0f7a4 : Room := { frames := 6, cells := 0, slots := 0, locals := 138 }
abbrev R_J0_indexOf_7cf53 : Room := { frames := 5, cells := 0, slots := 0, locals := 116 }
abbrev R_J0_coder_7d493 : Room := { frames := 0, cells := 0, slots := 0, locals := 0 }
abbrev R_J0_isLatin1_aae02 : Room := { frames := 0, cells := 0, slots := 0, locals := 0 }
abbrev R_J0_checkIndex_df160 : Room := { frames := 1, cells := 0, slots := 0, locals := 22 }
abbrev R_J0_checkBoundsBeginEnd_23922 : Room := { frames := 1, cells := 0, slots := 0, locals := 23 }
abbrev R_J1_charAt_3b067 : Room := { frames := 2, cells := 0, slots := 0, locals := 43 }
abbrev R_J1_canEncode_9a6ad : Room := { frames := 0, cells := 0, slots := 0, locals := 0 }
abbrev R_J1_indexOf_4cfef : Room := { frames := 1, cells := 0, slots := 0, locals := 25 }
abbrev R_J1_indexOfChar_4cfef : Room := { frames := 0, cells := 0, slots := 0, locals := 0 }
abbrev R_J2_getChar_3b067 : Room := { frames := 1, cells := 0, slots := 0, locals := 20 }
abbrev R_J2_length_9d52b : Room := { frames := 0, cells := 0, slots := 0, locals := 0 }
abbrev R_J2_indexOf_4cfef : Room := { frames := 4, cells := 0, slots := 0, locals := 93 }
abbrev R_J2_indexOfChar_4cfef : Room := { frames := 3, cells := 0, slots := 0, locals := 67 }
abbrev R_J2_indexOfCharUnsafe_4cfef : Room := { frames := 2, cells := 0, slots := 0, locals := 41 }
abbrev R_J2_indexOfSupplementary_4cfef : Room := { frames := 3, cells := 0, slots := 0, locals := 67 }
abbrev R_J2_charAt_3b067 : Room := { frames := 3, cells := 0, slots := 0, locals := 64 }
abbrev R_J2_checkIndex_2214a : Room := { frames := 2, cells := 0, slots := 0, locals := 43 }
abbrev R_J2_checkBoundsBeginEnd_d044e : Room := { frames := 2, cells := 0, slots := 0, locals := 45 }
abbrev R_J7_fill_53178 : Room := { frames := 0, cells := 0, slots := 0, locals := 0 }
abbrev R_J3_checkIndex_8e157 : Room := { frames := 0, cells := 0, slots := 0, locals := 0 }
abbrev R_J3_checkFromToIndex_8c36e : Room := { frames := 0, cells := 0, slots := 0, locals := 0 }
theorem nm_X0_init : sv_nm yX0_init 0 := ⟨by decide +kernel, by decide +kernel, by decide +kernel⟩
theorem nm_X0_begin : sv_nm yX0_begin 0 := ⟨by decide +kernel, by decide +kernel, by decide +kernel⟩
theorem nm_X0_takeFrom : sv_nm yX0_takeFrom 1 := ⟨by decide +kernel, by decide +kernel, by decide +kernel⟩
theorem nm_X0_property : sv_nm yX0_property 2 := ⟨by decide +kernel, by decide +kernel, by decide +kernel⟩
theorem nm_X0_disarm : sv_nm yX0_disarm 1 := ⟨by decide +kernel, by decide +kernel, by decide +kernel⟩
theorem nm_X0_isArmed : sv_nm yX0_isArmed 1 := ⟨by decide +kernel, by decide +kernel, by decide +kernel⟩
theorem nm_X0_isFull : sv_nm yX0_isFull 1 := ⟨by decide +kernel, by decide +kernel, by decide +kernel⟩
theorem nm_X0_add : sv_nm yX0_add 5 := ⟨by decide +kernel, by decide +kernel, by decide +kernel⟩
theorem nm_X0_remove : sv_nm yX0_remove 1 := ⟨by decide +kernel, by decide +kernel, by decide +kernel⟩
theorem nm_X0_armedSet : sv_nm yX0_armedSet 0 := ⟨by decide +kernel, by decide +kernel, by decide +kernel⟩
theorem nm_X0_armedCount : sv_nm yX0_armedCount 0 := ⟨by decide +kernel, by decide +kernel, by decide +kernel⟩
theorem nm_X0_apply : sv_nm yX0_apply 1 := ⟨by decide +kernel, by decide +kernel, by decide +kernel⟩
theorem nm_X0_stop : sv_nm yX0_stop 1 := ⟨by decide +kernel, by decide +kernel, by decide +kernel⟩
theorem nm_X1_init : sv_nm yX1_init 0 := ⟨by decide +kernel, by decide +kernel, by decide +kernel⟩
theorem nm_X1_prepare : sv_nm yX1_prepare 1 := ⟨by decide +kernel, by decide +kernel, by decide +kernel⟩
theorem nm_X1_go : sv_nm yX1_go 2 := ⟨by decide +kernel, by decide +kernel, by decide +kernel⟩
theorem nm_X2_init : sv_nm yX2_init 0 := ⟨by decide +kernel, by decide +kernel, by decide +kernel⟩
theorem nm_X2_clear : sv_nm yX2_clear 0 := ⟨by decide +kernel, by decide +kernel, by decide +kernel⟩
theorem nm_X2_remember : sv_nm yX2_remember 1 := ⟨by decide +kernel, by decide +kernel, by decide +kernel⟩
theorem nm_X2_takeBack : sv_nm yX2_takeBack 1 := ⟨by decide +kernel, by decide +kernel, by decide +kernel⟩
theorem nm_X3_init : sv_nm yX3_init 0 := ⟨by decide +kernel, by decide +kernel, by decide +kernel⟩
theorem nm_X3_begin : sv_nm yX3_begin 0 := ⟨by decide +kernel, by decide +kernel, by decide +kernel⟩
theorem nm_X3_takeFrom : sv_nm yX3_takeFrom 1 := ⟨by decide +kernel, by decide +kernel, by decide +kernel⟩
theorem nm_X3_scatter : sv_nm yX3_scatter 1 := ⟨by decide +kernel, by decide +kernel, by decide +kernel⟩
theorem nm_X3_step : sv_nm yX3_step 1 := ⟨by decide +kernel, by decide +kernel, by decide +kernel⟩
theorem nm_X3_putOut : sv_nm yX3_putOut 1 := ⟨by decide +kernel, by decide +kernel, by decide +kernel⟩
theorem nm_X4_init : sv_nm yX4_init 0 := ⟨by decide +kernel, by decide +kernel, by decide +kernel⟩
theorem nm_X4_has : sv_nm yX4_has 1 := ⟨by decide +kernel, by decide +kernel, by decide +kernel⟩
theorem nm_X4_add : sv_nm yX4_add 3 := ⟨by decide +kernel, by decide +kernel, by decide +kernel⟩
theorem nm_X4_modelOf : sv_nm yX4_modelOf 1 := ⟨by decide +kernel, by decide +kernel, by decide +kernel⟩
theorem nm_X4_different : sv_nm yX4_different 0 := ⟨by decide +kernel, by decide +kernel, by decide +kernel⟩
theorem nm_X4_savedCell : sv_nm yX4_savedCell 1 := ⟨by decide +kernel, by decide +kernel, by decide +kernel⟩
theorem nm_X5_init : sv_nm yX5_init 0 := ⟨by decide +kernel, by decide +kernel, by decide +kernel⟩
theorem nm_X5_add : sv_nm yX5_add 2 := ⟨by decide +kernel, by decide +kernel, by decide +kernel⟩
theorem nm_X5_areTrue : sv_nm yX5_areTrue 1 := ⟨by decide +kernel, by decide +kernel, by decide +kernel⟩
theorem nm_X6_init : sv_nm yX6_init 0 := ⟨by decide +kernel, by decide +kernel, by decide +kernel⟩
theorem nm_X6_begin : sv_nm yX6_begin 0 := ⟨by decide +kernel, by decide +kernel, by decide +kernel⟩
theorem nm_X6_takeFrom : sv_nm yX6_takeFrom 1 := ⟨by decide +kernel, by decide +kernel, by decide +kernel⟩
theorem nm_X6_isWatched : sv_nm yX6_isWatched 1 := ⟨by decide +kernel, by decide +kernel, by decide +kernel⟩
theorem nm_X6_turnWatch : sv_nm yX6_turnWatch 1 := ⟨by decide +kernel, by decide +kernel, by decide +kernel⟩
theorem nm_X6_allows : sv_nm yX6_allows 1 := ⟨by decide +kernel, by decide +kernel, by decide +kernel⟩
theorem nm_X6_perform : sv_nm yX6_perform 2 := ⟨by decide +kernel, by decide +kernel, by decide +kernel⟩
theorem nm_X6_isDone : sv_nm yX6_isDone 2 := ⟨by decide +kernel, by decide +kernel, by decide +kernel⟩
theorem nm_X6_reasonAfterStep : sv_nm yX6_reasonAfterStep 1 := ⟨by decide +kernel, by decide +kernel, by decide +kernel⟩
theorem nm_X6_charge : sv_nm yX6_charge 2 := ⟨by decide +kernel, by decide +kernel, by decide +kernel⟩
theorem nm_X6_keepCopy : sv_nm yX6_keepCopy 1 := ⟨by decide +kernel, by decide +kernel, by decide +kernel⟩
theorem nm_X7_init : sv_nm yX7_init 0 := ⟨by decide +kernel, by decide +kernel, by decide +kernel⟩
theorem nm_X7_measure : sv_nm yX7_measure 2 := ⟨by decide +kernel, by decide +kernel, by decide +kernel⟩
theorem nm_X7_list : sv_nm yX7_list 1 := ⟨by decide +kernel, by decide +kernel, by decide +kernel⟩
theorem nm_X7_follow : sv_nm yX7_follow 2 := ⟨by decide +kernel, by decide +kernel, by decide +kernel⟩
theorem nm_X7_indexOf : sv_nm yX7_indexOf 1 := ⟨by decide +kernel, by decide +kernel, by decide +kernel⟩
theorem nm_X7_valueOf : sv_nm yX7_valueOf 1 := ⟨by decide +kernel, by decide +kernel, by decide +kernel⟩
theorem nm_X7_weightedGain : sv_nm yX7_weightedGain 1 := ⟨by decide +kernel, by decide +kernel, by decide +kernel⟩
theorem nm_X7_weightOfAtLeast : sv_nm yX7_weightOfAtLeast 2 := ⟨by decide +kernel, by decide +kernel, by decide +kernel⟩
theorem nm_X8_init : sv_nm yX8_init 0 := ⟨by decide +kernel, by decide +kernel, by decide +kernel⟩
theorem nm_X8_readInto : sv_nm yX8_readInto 1 := ⟨by decide +kernel, by decide +kernel, by decide +kernel⟩
theorem nm_X8_formOf : sv_nm yX8_formOf 1 := ⟨by decide +kernel, by decide +kernel, by decide +kernel⟩
theorem nm_X8_endOfMatch : sv_nm yX8_endOfMatch 2 := ⟨by decide +kernel, by decide +kernel, by decide +kernel⟩
theorem nm_X8_fits : sv_nm yX8_fits 2 := ⟨by decide +kernel, by decide +kernel, by decide +kernel⟩
theorem nm_X8_addInstruction : sv_nm yX8_addInstruction 3 := ⟨by decide +kernel, by decide +kernel, by decide +kernel⟩
theorem nm_X8_distance : sv_nm yX8_distance 1 := ⟨by decide +kernel, by decide +kernel, by decide +kernel⟩
theorem nm_X8_digit : sv_nm yX8_digit 1 := ⟨by decide +kernel, by decide +kernel, by decide +kernel⟩
theorem nm_X9_init : sv_nm yX9_init 0 := ⟨by decide +kernel, by decide +kernel, by decide +kernel⟩
theorem nm_X9_write : sv_nm yX9_write 1 := ⟨by decide +kernel, by decide +kernel, by decide +kernel⟩
theorem nm_X9_wipe : sv_nm yX9_wipe 0 := ⟨by decide +kernel, by decide +kernel, by decide +kernel⟩
theorem nm_X9_fault : sv_nm yX9_fault 0 := ⟨by decide +kernel, by decide +kernel, by decide +kernel⟩
theorem nm_X9_code : sv_nm yX9_code 0 := ⟨by decide +kernel, by decide +kernel, by decide +kernel⟩
theorem nm_X9_emptySlots : sv_nm yX9_emptySlots 0 := ⟨by decide +kernel, by decide +kernel, by decide +kernel⟩
theorem nm_X9_about : sv_nm yX9_about 1 := ⟨by decide +kernel, by decide +kernel, by decide +kernel⟩
theorem nm_X9_register : sv_nm yX9_register 1 := ⟨by decide +kernel, by decide +kernel, by decide +kernel⟩
theorem nm_X9_cell : sv_nm yX9_cell 1 := ⟨by decide +kernel, by decide +kernel, by decide +kernel⟩
theorem nm_X9_stack : sv_nm yX9_stack 1 := ⟨by decide +kernel, by decide +kernel, by decide +kernel⟩
theorem nm_X9_broken : sv_nm yX9_broken 2 := ⟨by decide +kernel, by decide +kernel, by decide +kernel⟩
theorem nm_X9_copy : sv_nm yX9_copy 1 := ⟨by decide +kernel, by decide +kernel, by decide +kernel⟩
theorem nm_X9_plan : sv_nm yX9_plan 1 := ⟨by decide +kernel, by decide +kernel, by decide +kernel⟩
theorem nm_X9_set : sv_nm yX9_set 3 := ⟨by decide +kernel, by decide +kernel, by decide +kernel⟩
theorem nm_X9_exchange : sv_nm yX9_exchange 3 := ⟨by decide +kernel, by decide +kernel, by decide +kernel⟩
theorem nm_X9_moveCounter : sv_nm yX9_moveCounter 1 := ⟨by decide +kernel, by decide +kernel, by decide +kernel⟩
theorem nm_X9_smash : sv_nm yX9_smash 5 := ⟨by decide +kernel, by decide +kernel, by decide +kernel⟩
theorem nm_X9_lift : sv_nm yX9_lift 1 := ⟨by decide +kernel, by decide +kernel, by decide +kernel⟩
theorem nm_X9_watch : sv_nm yX9_watch 1 := ⟨by decide +kernel, by decide +kernel, by decide +kernel⟩
theorem nm_X9_undo : sv_nm yX9_undo 0 := ⟨by decide +kernel, by decide +kernel, by decide +kernel⟩
theorem nm_X9_aside : sv_nm yX9_aside 2 := ⟨by decide +kernel, by decide +kernel, by decide +kernel⟩
theorem nm_X9_followsAside : sv_nm yX9_followsAside 1 := ⟨by decide +kernel, by decide +kernel, by decide +kernel⟩
theorem nm_X9_corrections : sv_nm yX9_corrections 1 := ⟨by decide +kernel, by decide +kernel, by decide +kernel⟩
theorem nm_X9_free : sv_nm yX9_free 1 := ⟨by decide +kernel, by decide +kernel, by decide +kernel⟩
theorem nm_X9_judge : sv_nm yX9_judge 2 := ⟨by decide +kernel, by decide +kernel, by decide +kernel⟩
theorem nm_X9_statementAt : sv_nm yX9_statementAt 2 := ⟨by decide +kernel, by decide +kernel, by decide +kernel⟩
theorem nm_X9_holds : sv_nm yX9_holds 3 := ⟨by decide +kernel, by decide +kernel, by decide +kernel⟩
theorem nm_X9_isGood : sv_nm yX9_isGood 1 := ⟨by decide +kernel, by decide +kernel, by decide +kernel⟩
theorem nm_X9_takesBreak : sv_nm yX9_takesBreak 1 := ⟨by decide +kernel, by decide +kernel, by decide +kernel⟩
theorem nm_X9_see : sv_nm yX9_see 2 := ⟨by decide +kernel, by decide +kernel, by decide +kernel⟩
theorem nm_X9_unsee : sv_nm yX9_unsee 0 := ⟨by decide +kernel, by decide +kernel, by decide +kernel⟩
theorem nm_X9_which : sv_nm yX9_which 0 := ⟨by decide +kernel, by decide +kernel, by decide +kernel⟩
theorem nm_X9_share : sv_nm yX9_share 2 := ⟨by decide +kernel, by decide +kernel, by decide +kernel⟩
theorem nm_X9_chance : sv_nm yX9_chance 3 := ⟨by decide +kernel, by decide +kernel, by decide +kernel⟩
theorem nm_X9_seed : sv_nm yX9_seed 1 := ⟨by decide +kernel, by decide +kernel, by decide +kernel⟩
theorem nm_X9_drawn : sv_nm yX9_drawn 1 := ⟨by decide +kernel, by decide +kernel, by decide +kernel⟩
theorem nm_X9_keep : sv_nm yX9_keep 1 := ⟨by decide +kernel, by decide +kernel, by decide +kernel⟩
theorem nm_X9_again : sv_nm yX9_again 1 := ⟨by decide +kernel, by decide +kernel, by decide +kernel⟩
theorem nm_X9_isRegister : sv_nm yX9_isRegister 1 := ⟨by decide +kernel, by decide +kernel, by decide +kernel⟩
theorem nm_X9_isCell : sv_nm yX9_isCell 1 := ⟨by decide +kernel, by decide +kernel, by decide +kernel⟩
theorem nm_X9_isSlot : sv_nm yX9_isSlot 1 := ⟨by decide +kernel, by decide +kernel, by decide +kernel⟩
theorem nm_X9_power : sv_nm yX9_power 2 := ⟨by decide +kernel, by decide +kernel, by decide +kernel⟩
theorem nm_X9_factorial : sv_nm yX9_factorial 1 := ⟨by decide +kernel, by decide +kernel, by decide +kernel⟩
theorem nm_X9_partOf : sv_nm yX9_partOf 3 := ⟨by decide +kernel, by decide +kernel, by decide +kernel⟩
theorem nm_X9_commonDivisor : sv_nm yX9_commonDivisor 2 := ⟨by decide +kernel, by decide +kernel, by decide +kernel⟩
theorem nm_X10_init : sv_nm yX10_init 0 := ⟨by decide +kernel, by decide +kernel, by decide +kernel⟩
theorem nm_X10_clear : sv_nm yX10_clear 1 := ⟨by decide +kernel, by decide +kernel, by decide +kernel⟩
theorem nm_X10_copyRow : sv_nm yX10_copyRow 2 := ⟨by decide +kernel, by decide +kernel, by decide +kernel⟩
theorem nm_X10_in : sv_nm yX10_in 3 := ⟨by decide +kernel, by decide +kernel, by decide +kernel⟩
theorem nm_X10_has : sv_nm yX10_has 2 := ⟨by decide +kernel, by decide +kernel, by decide +kernel⟩
theorem nm_X10_ones : sv_nm yX10_ones 1 := ⟨by decide +kernel, by decide +kernel, by decide +kernel⟩
theorem nm_X10_power : sv_nm yX10_power 2 := ⟨by decide +kernel, by decide +kernel, by decide +kernel⟩
theorem nm_X10_factorial : sv_nm yX10_factorial 1 := ⟨by decide +kernel, by decide +kernel, by decide +kernel⟩
theorem nm_X10_fraction : sv_nm yX10_fraction 3 := ⟨by decide +kernel, by decide +kernel, by decide +kernel⟩
theorem nm_X10_isPlace : sv_nm yX10_isPlace 1 := ⟨by decide +kernel, by decide +kernel, by decide +kernel⟩
theorem nm_X10_write : sv_nm yX10_write 1 := ⟨by decide +kernel, by decide +kernel, by decide +kernel⟩
theorem nm_X10_wipe : sv_nm yX10_wipe 0 := ⟨by decide +kernel, by decide +kernel, by decide +kernel⟩
theorem nm_X10_kindOf : sv_nm yX10_kindOf 1 := ⟨by decide +kernel, by decide +kernel, by decide +kernel⟩
theorem nm_X10_takeSign : sv_nm yX10_takeSign 1 := ⟨by decide +kernel, by decide +kernel, by decide +kernel⟩
theorem nm_X10_ended : sv_nm yX10_ended 1 := ⟨by decide +kernel, by decide +kernel, by decide +kernel⟩
theorem nm_X10_takeFar : sv_nm yX10_takeFar 1 := ⟨by decide +kernel, by decide +kernel, by decide +kernel⟩
theorem nm_X10_takeCall : sv_nm yX10_takeCall 1 := ⟨by decide +kernel, by decide +kernel, by decide +kernel⟩
theorem nm_X10_takeFirst : sv_nm yX10_takeFirst 2 := ⟨by decide +kernel, by decide +kernel, by decide +kernel⟩
theorem nm_X10_takeOf : sv_nm yX10_takeOf 1 := ⟨by decide +kernel, by decide +kernel, by decide +kernel⟩
theorem nm_X10_readText : sv_nm yX10_readText 0 := ⟨by decide +kernel, by decide +kernel, by decide +kernel⟩
theorem nm_X10_fault : sv_nm yX10_fault 0 := ⟨by decide +kernel, by decide +kernel, by decide +kernel⟩
theorem nm_X10_code : sv_nm yX10_code 0 := ⟨by decide +kernel, by decide +kernel, by decide +kernel⟩
theorem nm_X10_doesFault : sv_nm yX10_doesFault 2 := ⟨by decide +kernel, by decide +kernel, by decide +kernel⟩
theorem nm_X10_perform : sv_nm yX10_perform 3 := ⟨by decide +kernel, by decide +kernel, by decide +kernel⟩
theorem nm_X10_bareStep : sv_nm yX10_bareStep 1 := ⟨by decide +kernel, by decide +kernel, by decide +kernel⟩
theorem nm_X10_areAlike : sv_nm yX10_areAlike 2 := ⟨by decide +kernel, by decide +kernel, by decide +kernel⟩
theorem nm_X10_leastAlike : sv_nm yX10_leastAlike 1 := ⟨by decide +kernel, by decide +kernel, by decide +kernel⟩
theorem nm_X10_keepCopy : sv_nm yX10_keepCopy 2 := ⟨by decide +kernel, by decide +kernel, by decide +kernel⟩
theorem nm_X10_step : sv_nm yX10_step 1 := ⟨by decide +kernel, by decide +kernel, by decide +kernel⟩
theorem nm_X10_applies : sv_nm yX10_applies 2 := ⟨by decide +kernel, by decide +kernel, by decide +kernel⟩
theorem nm_X10_isChanged : sv_nm yX10_isChanged 1 := ⟨by decide +kernel, by decide +kernel, by decide +kernel⟩
theorem nm_X10_isStopped : sv_nm yX10_isStopped 1 := ⟨by decide +kernel, by decide +kernel, by decide +kernel⟩
theorem nm_X10_isThrough : sv_nm yX10_isThrough 3 := ⟨by decide +kernel, by decide +kernel, by decide +kernel⟩
theorem nm_X10_reason : sv_nm yX10_reason 4 := ⟨by decide +kernel, by decide +kernel, by decide +kernel⟩
theorem nm_X10_planOn : sv_nm yX10_planOn 2 := ⟨by decide +kernel, by decide +kernel, by decide +kernel⟩
theorem nm_X10_freeOn : sv_nm yX10_freeOn 0 := ⟨by decide +kernel, by decide +kernel, by decide +kernel⟩
theorem nm_X10_counted : sv_nm yX10_counted 0 := ⟨by decide +kernel, by decide +kernel, by decide +kernel⟩
theorem nm_X10_unlike : sv_nm yX10_unlike 0 := ⟨by decide +kernel, by decide +kernel, by decide +kernel⟩
theorem nm_X10_about : sv_nm yX10_about 1 := ⟨by decide +kernel, by decide +kernel, by decide +kernel⟩
theorem nm_X10_register : sv_nm yX10_register 1 := ⟨by decide +kernel, by decide +kernel, by decide +kernel⟩
theorem nm_X10_cell : sv_nm yX10_cell 1 := ⟨by decide +kernel, by decide +kernel, by decide +kernel⟩
theorem nm_X10_stack : sv_nm yX10_stack 1 := ⟨by decide +kernel, by decide +kernel, by decide +kernel⟩
theorem nm_X10_broken : sv_nm yX10_broken 2 := ⟨by decide +kernel, by decide +kernel, by decide +kernel⟩
theorem nm_X10_copy : sv_nm yX10_copy 1 := ⟨by decide +kernel, by decide +kernel, by decide +kernel⟩
theorem nm_X10_note : sv_nm yX10_note 0 := ⟨by decide +kernel, by decide +kernel, by decide +kernel⟩
theorem nm_X10_plan : sv_nm yX10_plan 1 := ⟨by decide +kernel, by decide +kernel, by decide +kernel⟩
theorem nm_X10_tellAt : sv_nm yX10_tellAt 2 := ⟨by decide +kernel, by decide +kernel, by decide +kernel⟩
theorem nm_X10_set : sv_nm yX10_set 3 := ⟨by decide +kernel, by decide +kernel, by decide +kernel⟩
theorem nm_X10_breakOn : sv_nm yX10_breakOn 6 := ⟨by decide +kernel, by decide +kernel, by decide +kernel⟩
theorem nm_X10_smash : sv_nm yX10_smash 5 := ⟨by decide +kernel, by decide +kernel, by decide +kernel⟩
theorem nm_X10_lift : sv_nm yX10_lift 1 := ⟨by decide +kernel, by decide +kernel, by decide +kernel⟩
theorem nm_X10_watch : sv_nm yX10_watch 1 := ⟨by decide +kernel, by decide +kernel, by decide +kernel⟩
theorem nm_X10_undo : sv_nm yX10_undo 0 := ⟨by decide +kernel, by decide +kernel, by decide +kernel⟩
theorem nm_X10_aside : sv_nm yX10_aside 2 := ⟨by decide +kernel, by decide +kernel, by decide +kernel⟩
theorem nm_X10_free : sv_nm yX10_free 1 := ⟨by decide +kernel, by decide +kernel, by decide +kernel⟩
theorem nm_X10_judged : sv_nm yX10_judged 3 := ⟨by decide +kernel, by decide +kernel, by decide +kernel⟩
theorem nm_X10_thousands : sv_nm yX10_thousands 1 := ⟨by decide +kernel, by decide +kernel, by decide +kernel⟩
theorem nm_X10_judge : sv_nm yX10_judge 2 := ⟨by decide +kernel, by decide +kernel, by decide +kernel⟩
theorem nm_X10_see : sv_nm yX10_see 2 := ⟨by decide +kernel, by decide +kernel, by decide +kernel⟩
theorem nm_X10_unsee : sv_nm yX10_unsee 0 := ⟨by decide +kernel, by decide +kernel, by decide +kernel⟩
theorem nm_X10_which : sv_nm yX10_which 0 := ⟨by decide +kernel, by decide +kernel, by decide +kernel⟩
theorem nm_X10_layPlaces : sv_nm yX10_layPlaces 0 := ⟨by decide +kernel, by decide +kernel, by decide +kernel⟩
theorem nm_X10_stopsBy : sv_nm yX10_stopsBy 2 := ⟨by decide +kernel, by decide +kernel, by decide +kernel⟩
theorem nm_X10_share : sv_nm yX10_share 2 := ⟨by decide +kernel, by decide +kernel, by decide +kernel⟩
theorem nm_X10_chance : sv_nm yX10_chance 3 := ⟨by decide +kernel, by decide +kernel, by decide +kernel⟩
theorem nm_X10_seed : sv_nm yX10_seed 1 := ⟨by decide +kernel, by decide +kernel, by decide +kernel⟩
theorem nm_X10_drawn : sv_nm yX10_drawn 1 := ⟨by decide +kernel, by decide +kernel, by decide +kernel⟩
theorem nm_X10_keep : sv_nm yX10_keep 1 := ⟨by decide +kernel, by decide +kernel, by decide +kernel⟩
theorem nm_X10_again : sv_nm yX10_again 1 := ⟨by decide +kernel, by decide +kernel, by decide +kernel⟩
theorem nm_J11_isValidCodePoint_9a6ad : sv_nm yJ11_isValidCodePoint_9a6ad 1 := ⟨by decide +kernel, by decide +kernel, by decide +kernel⟩
theorem nm_J11_highSurrogate_5068e : sv_nm yJ11_highSurrogate_5068e 1 := ⟨by decide +kernel, by decide +kernel, by decide +kernel⟩
theorem nm_J11_lowSurrogate_5068e : sv_nm yJ11_lowSurrogate_5068e 1 := ⟨by decide +kernel, by decide +kernel, by decide +kernel⟩
theorem nm_J6_bitCount_0f7a4 : sv_nm yJ6_bitCount_0f7a4 1 := ⟨by decide +kernel, by decide +kernel, by decide +kernel⟩
theorem nm_J9_abs_0f7a4 : sv_nm yJ9_abs_0f7a4 1 := ⟨by decide +kernel, by decide +kernel, by decide +kernel⟩
theorem nm_J9_max_7cf53 : sv_nm yJ9_max_7cf53 2 := ⟨by decide +kernel, by decide +kernel, by decide +kernel⟩
theorem nm_J9_min_7cf53 : sv_nm yJ9_min_7cf53 2 := ⟨by decide +kernel, by decide +kernel, by decide +kernel⟩
theorem nm_J0_length_8abf5 : sv_nm yJ0_length_8abf5 0 := ⟨by decide +kernel, by decide +kernel, by decide +kernel⟩
theorem nm_J0_charAt_5068e : sv_nm yJ0_charAt_5068e 1 := ⟨by decide +kernel, by decide +kernel, by decide +kernel⟩
theorem nm_J0_indexOf_0f7a4 : sv_nm yJ0_indexOf_0f7a4 1 := ⟨by decide +kernel, by decide +kernel, by decide +kernel⟩
theorem nm_J0_indexOf_7cf53 : sv_nm yJ0_indexOf_7cf53 2 := ⟨by decide +kernel, by decide +kernel, by decide +kernel⟩
theorem nm_J0_coder_7d493 : sv_nm yJ0_coder_7d493 0 := ⟨by decide +kernel, by decide +kernel, by decide +kernel⟩
theorem nm_J0_isLatin1_aae02 : sv_nm yJ0_isLatin1_aae02 0 := ⟨by decide +kernel, by decide +kernel, by decide +kernel⟩
theorem nm_J0_checkIndex_df160 : sv_nm yJ0_checkIndex_df160 2 := ⟨by decide +kernel, by decide +kernel, by decide +kernel⟩
theorem nm_J0_checkBoundsBeginEnd_23922 : sv_nm yJ0_checkBoundsBeginEnd_23922 3 := ⟨by decide +kernel, by decide +kernel, by decide +kernel⟩
theorem nm_J1_charAt_3b067 : sv_nm yJ1_charAt_3b067 2 := ⟨by decide +kernel, by decide +kernel, by decide +kernel⟩
theorem nm_J1_canEncode_9a6ad : sv_nm yJ1_canEncode_9a6ad 1 := ⟨by decide +kernel, by decide +kernel, by decide +kernel⟩
theorem nm_J1_indexOf_4cfef : sv_nm yJ1_indexOf_4cfef 4 := ⟨by decide +kernel, by decide +kernel, by decide +kernel⟩
theorem nm_J1_indexOfChar_4cfef : sv_nm yJ1_indexOfChar_4cfef 4 := ⟨by decide +kernel, by decide +kernel, by decide +kernel⟩
theorem nm_J2_getChar_3b067 : sv_nm yJ2_getChar_3b067 2 := ⟨by decide +kernel, by decide +kernel, by decide +kernel⟩
theorem nm_J2_length_9d52b : sv_nm yJ2_length_9d52b 1 := ⟨by decide +kernel, by decide +kernel, by decide +kernel⟩
theorem nm_J2_indexOf_4cfef : sv_nm yJ2_indexOf_4cfef 4 := ⟨by decide +kernel, by decide +kernel, by decide +kernel⟩
theorem nm_J2_indexOfChar_4cfef : sv_nm yJ2_indexOfChar_4cfef 4 := ⟨by decide +kernel, by decide +kernel, by decide +kernel⟩
theorem nm_J2_indexOfCharUnsafe_4cfef : sv_nm yJ2_indexOfCharUnsafe_4cfef 4 := ⟨by decide +kernel, by decide +kernel, by decide +kernel⟩
theorem nm_J2_indexOfSupplementary_4cfef : sv_nm yJ2_indexOfSupplementary_4cfef 4 := ⟨by decide +kernel, by decide +kernel, by decide +kernel⟩
theorem nm_J2_charAt_3b067 : sv_nm yJ2_charAt_3b067 2 := ⟨by decide +kernel, by decide +kernel, by decide +kernel⟩
theorem nm_J2_checkIndex_2214a : sv_nm yJ2_checkIndex_2214a 2 := ⟨by decide +kernel, by decide +kernel, by decide +kernel⟩
theorem nm_J2_checkBoundsBeginEnd_d044e : sv_nm yJ2_checkBoundsBeginEnd_d044e 3 := ⟨by decide +kernel, by decide +kernel, by decide +kernel⟩
theorem nm_J7_fill_53178 : sv_nm yJ7_fill_53178 2 := ⟨by decide +kernel, by decide +kernel, by decide +kernel⟩
theorem nm_J3_checkIndex_8e157 : sv_nm yJ3_checkIndex_8e157 3 := ⟨by decide +kernel, by decide +kernel, by decide +kernel⟩
theorem nm_J3_checkFromToIndex_8c36e : sv_nm yJ3_checkFromToIndex_8c36e 4 := ⟨by decide +kernel, by decide +kernel, by decide +kernel⟩
theorem sh_1 : shp 1 = (8, 0) := by decide +kernel
theorem sh_2 : shp 2 = (11, 80) := by decide +kernel
theorem sh_29 : shp 29 = (2, 0) := by decide +kernel
theorem sh_30 : shp 30 = (13, 14) := by decide +kernel
theorem sh_143 : shp 143 = (14, 2) := by decide +kernel
theorem sh_144 : shp 144 = (12, 2) := by decide +kernel
theorem sh_145 : shp 145 = (5, 0) := by decide +kernel
theorem sh_146 : shp 146 = (11, 6) := by decide +kernel
theorem sh_147 : shp 147 = (12, 6) := by decide +kernel
theorem sh_148 : shp 148 = (1, 0) := by decide +kernel
theorem sh_153 : shp 153 = (7, 0) := by decide +kernel
theorem sh_158 : shp 158 = (11, 6) := by decide +kernel
theorem sh_159 : shp 159 = (11, 6) := by decide +kernel
theorem sh_160 : shp 160 = (11, 6) := by decide +kernel
theorem sh_161 : shp 161 = (11, 1980) := by decide +kernel
theorem sh_162 : shp 162 = (11, 64) := by decide +kernel
theorem sh_179 : shp 179 = (10, 0) := by decide +kernel
theorem sh_180 : shp 180 = (11, 80) := by decide +kernel
theorem sh_181 : shp 181 = (11, 16) := by decide +kernel
theorem sh_182 : shp 182 = (11, 16) := by decide +kernel
theorem sh_183 : shp 183 = (11, 16) := by decide +kernel
theorem sh_184 : shp 184 = (11, 128) := by decide +kernel
theorem sh_185 : shp 185 = (11, 128) := by decide +kernel
theorem sh_186 : shp 186 = (11, 1792) := by decide +kernel
theorem sh_187 : shp 187 = (11, 256) := by decide +kernel
theorem sh_188 : shp 188 = (12, 2) := by decide +kernel
theorem sh_189 : shp 189 = (11, 6) := by decide +kernel
theorem sh_190 : shp 190 = (11, 6) := by decide +kernel
theorem sh_191 : shp 191 = (11, 8) := by decide +kernel
theorem sh_192 : shp 192 = (11, 6) := by decide +kernel
theorem sh_193 : shp 193 = (11, 64) := by decide +kernel
theorem sh_194 : shp 194 = (11, 16) := by decide +kernel
theorem sh_195 : shp 195 = (11, 16) := by decide +kernel
theorem sh_196 : shp 196 = (11, 16) := by decide +kernel
theorem sh_0 : shp 0 = (9, 0) := by decide +kernel
theorem isMach_14 : isMach 14 := ⟨by decide +kernel, by decide +kernel, by decide +kernel, by decide +kernel⟩
theorem isMach_22 : isMach 22 := ⟨by decide +kernel, by decide +kernel, by decide +kernel, by decide +kernel⟩
theorem isMach_149 : isMach 149 := ⟨by decide +kernel, by decide +kernel, by decide +kernel, by decide +kernel⟩
theorem isMach_154 : isMach 154 := ⟨by decide +kernel, by decide +kernel, by decide +kernel, by decide +kernel⟩
theorem isBrk_18 : isBrk 18 := ⟨by decide +kernel, by decide +kernel⟩
theorem isBrk_26 : isBrk 26 := ⟨by decide +kernel, by decide +kernel⟩
theorem isState_13 : isState 13 := ⟨by decide +kernel, isMach_14, isBrk_18, by decide +kernel⟩
theorem isState_21 : isState 21 := ⟨by decide +kernel, isMach_22, isBrk_26, by decide +kernel⟩
theorem isProg_3 : isProg 3 := ⟨by decide +kernel, by decide +kernel, by decide +kernel, by decide +kernel, by decide +kernel⟩
theorem isProg_8 : isProg 8 := ⟨by decide +kernel, by decide +kernel, by decide +kernel, by decide +kernel, by decide +kernel⟩
theorem isState_ring : ∀ i, i < 14 → isState (30 + 1 + 8 * i) := by unfold isState isMach isBrk; decide +kernel
theorem isState_slot : ∀ i, i < 2 → isState (143 + 20 + 8 * i) := by unfold isState isMach isBrk; decide +kernel
theorem shp_len {k c len : Nat} (h : shp k = (c, len)) : len < 2147483648 := by
  have hall : ∀ k, k < 197 → (shp k).2 < 2147483648 := by decide +kernel
  rcases Nat.lt_or_ge k 197 with q | q
  · have := hall k q
    rw [h] at this
    exact this
  · have h2 : shp k = (99, 0) := by unfold shp; rw [List.getD_eq_getElem?_getD, List.getElem?_eq_none (by exact q)]; rfl
    rw [h] at h2
    cases h2
    decide
theorem sw_ne {x k : Int32} {a : Int} (h : ¬ x = k) (hk : k.toInt = a) : x.toInt ≠ a := lv_neT h hk
theorem nI_self {x : Int32} (h : ¬ x < 0) : x = nI x.toNatClampNeg := by
  obtain ⟨j, hj, rfl⟩ := nI_of h
  rw [nI_clamp hj]
section SX
variable {G : GT} {R : Room} {own nm : String} {cc : ByteArray} {nL : Nat} {rt : Option FieldType} {Post : Option Value → Nat → Nat → Nat → (Nat → va_E) → Prop} {cells slots n : Nat} {f : Nat → va_E} {pc : Nat} {ls : List (Nat × Value)} {st : List Value} {S S2 : Nat → Nat → Int32} {L L2 : Nat → Int64}
theorem sx_ild {q len : Nat} {i : Int32} (hq : shp q = (11, len)) (p : Nat) (hi : i = nI p) (hp : p < len) (d : decode cc pc = .ok (.iaload, 1)) (kk : sv_V G R own nm cc nL rt Post cells slots 197 (CF G S L) (pc + 1) ls (.int (S q p) :: st)) : sv_V G R own nm cc nL rt Post cells slots 197 (CF G S L) pc ls (.int i :: .ref (gB G + q) :: st) := by
  have hl := shp_len hq
  subst hi
  exact sa_ild hq (vp_in_nI hp hl) d (by rw [nI_clamp (Nat.lt_trans hp hl)]; exact kk)
theorem sx_zld {q len : Nat} {i : Int32} (hq : shp q = (12, len)) (p : Nat) (hi : i = nI p) (hp : p < len) (d : decode cc pc = .ok (.baload, 1)) (kk : sv_V G R own nm cc nL rt Post cells slots 197 (CF G S L) (pc + 1) ls (.int (S q p) :: st)) : sv_V G R own nm cc nL rt Post cells slots 197 (CF G S L) pc ls (.int i :: .ref (gB G + q) :: st) := by
  have hl := shp_len hq
  subst hi
  exact sa_zld hq (vp_in_nI hp hl) d (by rw [nI_clamp (Nat.lt_trans hp hl)]; exact kk)
theorem sx_ist {q len : Nat} {i x : Int32} (hq : shp q = (11, len)) (p : Nat) (hi : i = nI p) (hp : p < len) (d : decode cc pc = .ok (.iastore, 1)) (kk : sv_V G R own nm cc nL rt Post cells slots 197 (CF G (up2 S q p x) L) (pc + 1) ls st) : sv_V G R own nm cc nL rt Post cells slots 197 (CF G S L) pc ls (.int x :: .int i :: .ref (gB G + q) :: st) := by
  have hl := shp_len hq
  subst hi
  exact sa_ist hq (vp_in_nI hp hl) d (by rw [nI_clamp (Nat.lt_trans hp hl)]; exact kk)
theorem sx_zst {q len : Nat} {i x : Int32} (hq : shp q = (12, len)) (p : Nat) (hi : i = nI p) (hp : p < len) (d : decode cc pc = .ok (.bastore, 1)) (kk : sv_V G R own nm cc nL rt Post cells slots 197 (CF G (up2 S q p (vp_nar .boolean x)) L) (pc + 1) ls st) : sv_V G R own nm cc nL rt Post cells slots 197 (CF G S L) pc ls (.int x :: .int i :: .ref (gB G + q) :: st) := by
  have hl := shp_len hq
  subst hi
  exact sa_zst hq (vp_in_nI hp hl) d (by rw [nI_clamp (Nat.lt_trans hp hl)]; exact kk)
theorem sx_ring {q len : Nat} {i : Int32} (hq : shp q = (13, len)) (p : Nat) (hi : i = nI p) (hp : p < len) (d : decode cc pc = .ok (.aaload, 1)) (kk : sv_V G R own nm cc nL rt Post cells slots 197 (CF G S L) (pc + 1) ls (.ref (gB G + (q + 1 + 8 * p)) :: st)) : sv_V G R own nm cc nL rt Post cells slots 197 (CF G S L) pc ls (.int i :: .ref (gB G + q) :: st) := by
  have hl := shp_len hq
  subst hi
  exact sa_ring hq (vp_in_nI hp hl) d (by rw [nI_clamp (Nat.lt_trans hp hl)]; exact kk)
theorem sx_slot {q len : Nat} {i : Int32} (hq : shp q = (14, len)) (p : Nat) (hi : i = nI p) (hp : p < len) (d : decode cc pc = .ok (.aaload, 1)) (kk : sv_V G R own nm cc nL rt Post cells slots 197 (CF G S L) (pc + 1) ls (.ref (gB G + (q + 20 + 8 * p)) :: st)) : sv_V G R own nm cc nL rt Post cells slots 197 (CF G S L) pc ls (.int i :: .ref (gB G + q) :: st) := by
  have hl := shp_len hq
  subst hi
  exact sa_slot hq (vp_in_nI hp hl) d (by rw [nI_clamp (Nat.lt_trans hp hl)]; exact kk)
theorem sv_ifeq_b {P : Prop} [Decidable P] {off : Int} {tgt : Nat} (d : decode cc pc = .ok (.ifCond .eq off, 3)) (ht : (pc : Int) + off = (tgt : Int)) (kt : ¬ P → sv_V G R own nm cc nL rt Post cells slots n f tgt ls st) (kf : P → sv_V G R own nm cc nL rt Post cells slots n f (pc + 3) ls st) : sv_V G R own nm cc nL rt Post cells slots n f pc ls (.int (if P then 1 else 0) :: st) := by
  by_cases h : P
  · rw [if_pos h]; exact sv_if_eq d ht (fun q => absurd q (by decide)) (fun _ => kf h)
  · rw [if_neg h]; exact sv_if_eq d ht (fun _ => kt h) (fun q => absurd rfl q)
theorem sv_ifne_b {P : Prop} [Decidable P] {off : Int} {tgt : Nat} (d : decode cc pc = .ok (.ifCond .ne off, 3)) (ht : (pc : Int) + off = (tgt : Int)) (kt : P → sv_V G R own nm cc nL rt Post cells slots n f tgt ls st) (kf : ¬ P → sv_V G R own nm cc nL rt Post cells slots n f (pc + 3) ls st) : sv_V G R own nm cc nL rt Post cells slots n f pc ls (.int (if P then 1 else 0) :: st) := by
  by_cases h : P
  · rw [if_pos h]; exact sv_if_ne d ht (fun _ => kt h) (fun q => absurd q (by decide))
  · rw [if_neg h]; exact sv_if_ne d ht (fun q => absurd rfl q) (fun _ => kf h)
theorem sx_len {q len : Nat} (hq : shp q = (11, len)) (d : decode cc pc = .ok (.arraylength, 1)) (kk : sv_V G R own nm cc nL rt Post cells slots 197 (CF G S L) (pc + 1) ls (.int (nI len) :: st)) : sv_V G R own nm cc nL rt Post cells slots 197 (CF G S L) pc ls (.ref (gB G + q) :: st) := by
  intro p e s m args below meth c Q C0 H locs ls0 hP hS hl
  have hat := hP.2 q (shp_lt hq (by simp))
  rw [CF_11 hq] at hat
  refine W.alen (n := nI len) C0.1 C0.2.1 hat ((C0.2.2.2.2.2.1.1.2 0 _ rfl).1 len (fun j => .int (S q j))) ?_ rfl rfl d (kk p e s m args below meth c Q C0 H locs ls0 hP hS hl)
  show (arrV _ _ _).slots.size.toInt32 = _
  rw [arrV_size]; rfl
theorem sv_topE {v v' : Int32} (h : v = v') (k : sv_V G R own nm cc nL rt Post cells slots n f pc ls (.int v' :: st)) : sv_V G R own nm cc nL rt Post cells slots n f pc ls (.int v :: st) := h ▸ k
theorem sx_min {i : Nat} {x y : Int32} (hw : Cond.methodLink own i yJ9_min_7cf53 ∈ gw) (hfr : 1 ≤ R.frames) (hlo : (st.map fun v => v.category).sum + 13 ≤ R.locals) (hcs : cells ≤ R.cells ∧ slots ≤ R.slots) (d : decode cc pc = .ok (.invokestatic i, 3)) (k : sv_V G R own nm cc nL rt Post cells slots n f (pc + 3) ls (.int (if y < x then y else x) :: st)) : sv_V G R own nm cc nL rt Post cells slots n f pc ls (.int y :: .int x :: st) :=
  fun p e s m args below meth c Q C H locs ls0 hP hS hl => va_mmin C.1 C.2.1 (C.2.2.1.trans hl.1.symm) C.2.2.2.1 (C.2.2.2.2.1 _ hw) (C.2.2.2.2.1 _ st_J9_min_7cf53) (C.2.2.2.2.1 _ in_RJ9) (C.2.2.2.2.1 _ cd_J9_min_7cf53) hfr hlo hcs.1 hcs.2 d (k p e s m args below meth c Q C H locs ls0 hP hS hl)
theorem sx_abs {i : Nat} {x : Int32} (hw : Cond.methodLink own i yJ9_abs_0f7a4 ∈ gw) (hfr : 1 ≤ R.frames) (hlo : (st.map fun v => v.category).sum + 13 ≤ R.locals) (hcs : cells ≤ R.cells ∧ slots ≤ R.slots) (d : decode cc pc = .ok (.invokestatic i, 3)) (k : sv_V G R own nm cc nL rt Post cells slots n f (pc + 3) ls (.int (if 0 ≤ x then x else 0 - x) :: st)) : sv_V G R own nm cc nL rt Post cells slots n f pc ls (.int x :: st) :=
  fun p e s m args below meth c Q C H locs ls0 hP hS hl => va_mabs C.1 C.2.1 (C.2.2.1.trans hl.1.symm) C.2.2.2.1 (C.2.2.2.2.1 _ hw) (C.2.2.2.2.1 _ st_J9_abs_0f7a4) (C.2.2.2.2.1 _ in_RJ9) (C.2.2.2.2.1 _ cd_J9_abs_0f7a4) hfr hlo hcs.1 hcs.2 d (k p e s m args below meth c Q C H locs ls0 hP hS hl)
theorem sv_ldcw {i : Nat} {v : Int32} (hw : Cond.constant own i v ∈ gw) (d : decode cc pc = .ok (.ldc_w i, 3)) (k : sv_V G R own nm cc nL rt Post cells slots n f (pc + 3) ls (.int v :: st)) : sv_V G R own nm cc nL rt Post cells slots n f pc ls st :=
  fun p e s m args below meth c Q C H locs ls0 hP hS hl => lv_ldcw C.1 C.2.1 C.2.2.2.1 (C.2.2.2.2.1 _ hw) d (k p e s m args below meth c Q C H locs ls0 hP hS hl)
end SX
theorem up2_same (S : Nat → Nat → Int32) (k j : Nat) (v : Int32) : up2 S k j v k j = v := by simp [up2, va_up, upd]
theorem up2_ne {S : Nat → Nat → Int32} {k j k' j' : Nat} {v : Int32} (h : k' ≠ k ∨ j' ≠ j) : up2 S k j v k' j' = S k' j' := by
  unfold up2 va_up upd
  by_cases hk : k' = k
  · subst hk
    rcases h with h | h
    · exact absurd rfl h
    · simp [h]
  · simp [hk]
theorem up2_at (S : Nat → Nat → Int32) (k j k' j' : Nat) (v : Int32) : up2 S k j v k' j' = if k' = k ∧ j' = j then v else S k' j' := by
  by_cases h : k' = k ∧ j' = j
  · rw [if_pos h, h.1, h.2, up2_same]
  · rw [if_neg h, up2_ne]
    by_cases hk : k' = k
    · exact Or.inr (fun hj => h ⟨hk, hj⟩)
    · exact Or.inl hk
theorem cp_sEq {S : Nat → Nat → Int32} {q0 q1 len : Nat} (h1 : shp q1 = (11, len)) : sEq (va_up S q1 (va_cpy (S q0) (S q1) 0 0 len)) (va_up S q1 (S q0)) := by
  intro k _ j hj
  unfold va_up
  by_cases hk : k = q1
  · subst hk
    rw [h1] at hj
    have hj : j < len := hj
    simp [va_cpy, hj]
  · simp [hk]
theorem sx_copy {G : GT} {R : Room} {own nm : String} {cc : ByteArray} {nL : Nat} {rt : Option FieldType} {Post : Option Value → Nat → Nat → Nat → (Nat → va_E) → Prop} {cells slots pc : Nat} {ls : List (Nat × Value)} {st : List Value} {S : Nat → Nat → Int32} {L : Nat → Int64} {q0 q1 len i : Nat} {z : Int32} (w1 : Cond.methodLink own i arraycopyName ∈ gw) (hq0 : shp q0 = (11, len)) (hq1 : shp q1 = (11, len)) (hz : z = nI len) (hfr : 1 ≤ R.frames) (hlo : (st.map fun v => v.category).sum + 18 ≤ R.locals) (d : decode cc pc = .ok (.invokestatic i, 3))
    (kk : sv_V G R own nm cc nL rt Post cells slots 197 (CF G (va_up S q1 (S q0)) L) (pc + 3) ls st) : sv_V G R own nm cc nL rt Post cells slots 197 (CF G S L) pc ls (.int z :: .int 0 :: .ref (gB G + q1) :: .int 0 :: .ref (gB G + q0) :: st) := by
  have hl := shp_len hq0
  subst hz
  have e1 : (nI len).toNatClampNeg = len := nI_clamp hl
  have e0 : (0 : Int32).toNatClampNeg = 0 := by decide
  refine sa_copy w1 hq0 hq1 (by decide) (by decide) (nI_pos hl) (by rw [e1, e0]; omega) (by rw [e1, e0]; omega) hfr hlo d (sv_seq ?_ kk)
  rw [e1, e0]
  exact cp_sEq hq1
