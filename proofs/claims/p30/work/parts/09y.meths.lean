abbrev Y_X0_init : hYd := (yX0_init, cX0_init, 4, none)
theorem hy_X0_init : hYf Y_X0_init 2 := ⟨wc_X0_init, wi_X0, by decide +kernel, by decide +kernel, by decide +kernel⟩
abbrev Y_X0_cellsNamed : hYd := (yX0_cellsNamed, cX0_cellsNamed, 4, some .int)
theorem hy_X0_cellsNamed : hYf Y_X0_cellsNamed 0 := ⟨wc_X0_cellsNamed, wi_X0, by decide +kernel, by decide +kernel, by decide +kernel⟩
abbrev Y_X0_rootsInside : hYd := (yX0_rootsInside, cX0_rootsInside, 3, some .int)
theorem hy_X0_rootsInside : hYf Y_X0_rootsInside 0 := ⟨wc_X0_rootsInside, wi_X0, by decide +kernel, by decide +kernel, by decide +kernel⟩
abbrev Y_X1_init : hYd := (yX1_init, cX1_init, 1, none)
theorem hy_X1_init : hYf Y_X1_init 0 := ⟨wc_X1_init, wi_X1, by decide +kernel, by decide +kernel, by decide +kernel⟩
abbrev Y_X2_init : hYd := (yX2_init, cX2_init, 1, none)
theorem hy_X2_init : hYf Y_X2_init 0 := ⟨wc_X2_init, wi_X2, by decide +kernel, by decide +kernel, by decide +kernel⟩
abbrev Y_X2_faultOf : hYd := (yX2_faultOf, cX2_faultOf, 4, some .int)
theorem hy_X2_faultOf : hYf Y_X2_faultOf 2 := ⟨wc_X2_faultOf, wi_X2, by decide +kernel, by decide +kernel, by decide +kernel⟩
abbrev Y_X2_takes : hYd := (yX2_takes, cX2_takes, 2, some .boolean)
theorem hy_X2_takes : hYf Y_X2_takes 1 := ⟨wc_X2_takes, wi_X2, by decide +kernel, by decide +kernel, by decide +kernel⟩
abbrev Y_X2_takesFactor : hYd := (yX2_takesFactor, cX2_takesFactor, 2, some .boolean)
theorem hy_X2_takesFactor : hYf Y_X2_takesFactor 1 := ⟨wc_X2_takesFactor, wi_X2, by decide +kernel, by decide +kernel, by decide +kernel⟩
abbrev Y_X2_takesDigit : hYd := (yX2_takesDigit, cX2_takesDigit, 4, some .boolean)
theorem hy_X2_takesDigit : hYf Y_X2_takesDigit 1 := ⟨wc_X2_takesDigit, wi_X2, by decide +kernel, by decide +kernel, by decide +kernel⟩
abbrev Y_X2_takesBehind : hYd := (yX2_takesBehind, cX2_takesBehind, 3, some .boolean)
theorem hy_X2_takesBehind : hYf Y_X2_takesBehind 1 := ⟨wc_X2_takesBehind, wi_X2, by decide +kernel, by decide +kernel, by decide +kernel⟩
abbrev Y_X2_closeBracket : hYd := (yX2_closeBracket, cX2_closeBracket, 2, none)
theorem hy_X2_closeBracket : hYf Y_X2_closeBracket 0 := ⟨wc_X2_closeBracket, wi_X2, by decide +kernel, by decide +kernel, by decide +kernel⟩
abbrev Y_X2_release : hYd := (yX2_release, cX2_release, 2, none)
theorem hy_X2_release : hYf Y_X2_release 1 := ⟨wc_X2_release, wi_X2, by decide +kernel, by decide +kernel, by decide +kernel⟩
abbrev Y_X2_strengthOf : hYd := (yX2_strengthOf, cX2_strengthOf, 1, some .int)
theorem hy_X2_strengthOf : hYf Y_X2_strengthOf 1 := ⟨wc_X2_strengthOf, wi_X2, by decide +kernel, by decide +kernel, by decide +kernel⟩
abbrev Y_X2_isDigit : hYd := (yX2_isDigit, cX2_isDigit, 1, some .boolean)
theorem hy_X2_isDigit : hYf Y_X2_isDigit 1 := ⟨wc_X2_isDigit, wi_X2, by decide +kernel, by decide +kernel, by decide +kernel⟩
abbrev Y_X2_addStep : hYd := (yX2_addStep, cX2_addStep, 2, none)
theorem hy_X2_addStep : hYf Y_X2_addStep 1 := ⟨wc_X2_addStep, wi_X2, by decide +kernel, by decide +kernel, by decide +kernel⟩
abbrev Y_X2_push : hYd := (yX2_push, cX2_push, 2, none)
theorem hy_X2_push : hYf Y_X2_push 1 := ⟨wc_X2_push, wi_X2, by decide +kernel, by decide +kernel, by decide +kernel⟩
abbrev Y_X2_top : hYd := (yX2_top, cX2_top, 2, some .char)
theorem hy_X2_top : hYf Y_X2_top 0 := ⟨wc_X2_top, wi_X2, by decide +kernel, by decide +kernel, by decide +kernel⟩
abbrev Y_X3_init : hYd := (yX3_init, cX3_init, 1, none)
theorem hy_X3_init : hYf Y_X3_init 0 := ⟨wc_X3_init, wi_X3, by decide +kernel, by decide +kernel, by decide +kernel⟩
abbrev Y_X3_reckon : hYd := (yX3_reckon, cX3_reckon, 6, none)
theorem hy_X3_reckon : hYf Y_X3_reckon 2 := ⟨wc_X3_reckon, wi_X3, by decide +kernel, by decide +kernel, by decide +kernel⟩
abbrev Y_X3_numberOf : hYd := (yX3_numberOf, cX3_numberOf, 6, some .long)
theorem hy_X3_numberOf : hYf Y_X3_numberOf 2 := ⟨wc_X3_numberOf, wi_X3, by decide +kernel, by decide +kernel, by decide +kernel⟩
abbrev Y_X3_product : hYd := (yX3_product, cX3_product, 4, some .long)
theorem hy_X3_product : hYf Y_X3_product 2 := ⟨wc_X3_product, wi_X3, by decide +kernel, by decide +kernel, by decide +kernel⟩
abbrev Y_X3_result : hYd := (yX3_result, cX3_result, 1, some .long)
theorem hy_X3_result : hYf Y_X3_result 0 := ⟨wc_X3_result, wi_X3, by decide +kernel, by decide +kernel, by decide +kernel⟩
abbrev Y_X3_valueOf : hYd := (yX3_valueOf, cX3_valueOf, 2, some .long)
theorem hy_X3_valueOf : hYf Y_X3_valueOf 1 := ⟨wc_X3_valueOf, wi_X3, by decide +kernel, by decide +kernel, by decide +kernel⟩
abbrev Y_X3_push : hYd := (yX3_push, cX3_push, 3, none)
theorem hy_X3_push : hYf Y_X3_push 1 := ⟨wc_X3_push, wi_X3, by decide +kernel, by decide +kernel, by decide +kernel⟩
abbrev Y_X3_pop : hYd := (yX3_pop, cX3_pop, 1, some .long)
theorem hy_X3_pop : hYf Y_X3_pop 0 := ⟨wc_X3_pop, wi_X3, by decide +kernel, by decide +kernel, by decide +kernel⟩
abbrev Y_X4_init : hYd := (yX4_init, cX4_init, 1, none)
theorem hy_X4_init : hYf Y_X4_init 0 := ⟨wc_X4_init, wi_X4, by decide +kernel, by decide +kernel, by decide +kernel⟩
abbrev Y_X4_become : hYd := (yX4_become, cX4_become, 3, none)
theorem hy_X4_become : hYf Y_X4_become 1 := ⟨wc_X4_become, wi_X4, by decide +kernel, by decide +kernel, by decide +kernel⟩
abbrev Y_X4_setting : hYd := (yX4_setting, cX4_setting, 2, some .int)
theorem hy_X4_setting : hYf Y_X4_setting 1 := ⟨wc_X4_setting, wi_X4, by decide +kernel, by decide +kernel, by decide +kernel⟩
abbrev Y_X4_changeSetting : hYd := (yX4_changeSetting, cX4_changeSetting, 3, none)
theorem hy_X4_changeSetting : hYf Y_X4_changeSetting 2 := ⟨wc_X4_changeSetting, wi_X4, by decide +kernel, by decide +kernel, by decide +kernel⟩
abbrev Y_X4_cellValue : hYd := (yX4_cellValue, cX4_cellValue, 2, some .long)
theorem hy_X4_cellValue : hYf Y_X4_cellValue 1 := ⟨wc_X4_cellValue, wi_X4, by decide +kernel, by decide +kernel, by decide +kernel⟩
abbrev Y_X4_changeCell : hYd := (yX4_changeCell, cX4_changeCell, 4, none)
theorem hy_X4_changeCell : hYf Y_X4_changeCell 2 := ⟨wc_X4_changeCell, wi_X4, by decide +kernel, by decide +kernel, by decide +kernel⟩
abbrev Y_X4_formula : hYd := (yX4_formula, cX4_formula, 2, some (.object "RootRows$Formula"))
theorem hy_X4_formula : hYf Y_X4_formula 1 := ⟨wc_X4_formula, wi_X4, by decide +kernel, by decide +kernel, by decide +kernel⟩
abbrev Y_X4_changeFormula : hYd := (yX4_changeFormula, cX4_changeFormula, 3, none)
theorem hy_X4_changeFormula : hYf Y_X4_changeFormula 2 := ⟨wc_X4_changeFormula, wi_X4, by decide +kernel, by decide +kernel, by decide +kernel⟩
abbrev Y_X4_formulasThere : hYd := (yX4_formulasThere, cX4_formulasThere, 3, some .int)
theorem hy_X4_formulasThere : hYf Y_X4_formulasThere 0 := ⟨wc_X4_formulasThere, wi_X4, by decide +kernel, by decide +kernel, by decide +kernel⟩
abbrev Y_X4_cellsNotZero : hYd := (yX4_cellsNotZero, cX4_cellsNotZero, 3, some .int)
theorem hy_X4_cellsNotZero : hYf Y_X4_cellsNotZero 0 := ⟨wc_X4_cellsNotZero, wi_X4, by decide +kernel, by decide +kernel, by decide +kernel⟩
abbrev Y_X5_init : hYd := (yX5_init, cX5_init, 2, none)
theorem hy_X5_init : hYf Y_X5_init 0 := ⟨wc_X5_init, wi_X5, by decide +kernel, by decide +kernel, by decide +kernel⟩
abbrev Y_X5_set : hYd := (yX5_set, cX5_set, 4, some .int)
theorem hy_X5_set : hYf Y_X5_set 2 := ⟨wc_X5_set, wi_X5, by decide +kernel, by decide +kernel, by decide +kernel⟩
abbrev Y_X5_setCell : hYd := (yX5_setCell, cX5_setCell, 6, some .long)
theorem hy_X5_setCell : hYf Y_X5_setCell 2 := ⟨wc_X5_setCell, wi_X5, by decide +kernel, by decide +kernel, by decide +kernel⟩
abbrev Y_X5_cell : hYd := (yX5_cell, cX5_cell, 2, some .long)
theorem hy_X5_cell : hYf Y_X5_cell 1 := ⟨wc_X5_cell, wi_X5, by decide +kernel, by decide +kernel, by decide +kernel⟩
abbrev Y_X5_put : hYd := (yX5_put, cX5_put, 5, some .int)
theorem hy_X5_put : hYf Y_X5_put 1 := ⟨wc_X5_put, wi_X5, by decide +kernel, by decide +kernel, by decide +kernel⟩
abbrev Y_X5_wipe : hYd := (yX5_wipe, cX5_wipe, 2, some .int)
theorem hy_X5_wipe : hYf Y_X5_wipe 0 := ⟨wc_X5_wipe, wi_X5, by decide +kernel, by decide +kernel, by decide +kernel⟩
abbrev Y_X5_fault : hYd := (yX5_fault, cX5_fault, 1, some .int)
theorem hy_X5_fault : hYf Y_X5_fault 0 := ⟨wc_X5_fault, wi_X5, by decide +kernel, by decide +kernel, by decide +kernel⟩
abbrev Y_X5_load : hYd := (yX5_load, cX5_load, 3, some .int)
theorem hy_X5_load : hYf Y_X5_load 1 := ⟨wc_X5_load, wi_X5, by decide +kernel, by decide +kernel, by decide +kernel⟩
abbrev Y_X5_assign : hYd := (yX5_assign, cX5_assign, 4, some .long)
theorem hy_X5_assign : hYf Y_X5_assign 2 := ⟨wc_X5_assign, wi_X5, by decide +kernel, by decide +kernel, by decide +kernel⟩
abbrev Y_X5_settle : hYd := (yX5_settle, cX5_settle, 6, some .int)
theorem hy_X5_settle : hYf Y_X5_settle 3 := ⟨wc_X5_settle, wi_X5, by decide +kernel, by decide +kernel, by decide +kernel⟩
abbrev Y_X5_value : hYd := (yX5_value, cX5_value, 3, some .long)
theorem hy_X5_value : hYf Y_X5_value 1 := ⟨wc_X5_value, wi_X5, by decide +kernel, by decide +kernel, by decide +kernel⟩
abbrev Y_X5_ofFormula : hYd := (yX5_ofFormula, cX5_ofFormula, 4, some .int)
theorem hy_X5_ofFormula : hYf Y_X5_ofFormula 2 := ⟨wc_X5_ofFormula, wi_X5, by decide +kernel, by decide +kernel, by decide +kernel⟩
abbrev Y_X5_stepValue : hYd := (yX5_stepValue, cX5_stepValue, 4, some .long)
theorem hy_X5_stepValue : hYf Y_X5_stepValue 2 := ⟨wc_X5_stepValue, wi_X5, by decide +kernel, by decide +kernel, by decide +kernel⟩
abbrev Y_X5_count : hYd := (yX5_count, cX5_count, 2, some .int)
theorem hy_X5_count : hYf Y_X5_count 1 := ⟨wc_X5_count, wi_X5, by decide +kernel, by decide +kernel, by decide +kernel⟩
abbrev Y_X5_root : hYd := (yX5_root, cX5_root, 4, some .int)
theorem hy_X5_root : hYf Y_X5_root 2 := ⟨wc_X5_root, wi_X5, by decide +kernel, by decide +kernel, by decide +kernel⟩
abbrev Y_X5_remainder : hYd := (yX5_remainder, cX5_remainder, 4, some .long)
theorem hy_X5_remainder : hYf Y_X5_remainder 2 := ⟨wc_X5_remainder, wi_X5, by decide +kernel, by decide +kernel, by decide +kernel⟩
abbrev Y_X5_bit : hYd := (yX5_bit, cX5_bit, 6, some .long)
theorem hy_X5_bit : hYf Y_X5_bit 4 := ⟨wc_X5_bit, wi_X5, by decide +kernel, by decide +kernel, by decide +kernel⟩
abbrev Y_X5_save : hYd := (yX5_save, cX5_save, 2, some .int)
theorem hy_X5_save : hYf Y_X5_save 1 := ⟨wc_X5_save, wi_X5, by decide +kernel, by decide +kernel, by decide +kernel⟩
abbrev Y_X5_restore : hYd := (yX5_restore, cX5_restore, 3, some .int)
theorem hy_X5_restore : hYf Y_X5_restore 1 := ⟨wc_X5_restore, wi_X5, by decide +kernel, by decide +kernel, by decide +kernel⟩
abbrev Y_X5_keepState : hYd := (yX5_keepState, cX5_keepState, 2, none)
theorem hy_X5_keepState : hYf Y_X5_keepState 0 := ⟨wc_X5_keepState, wi_X5, by decide +kernel, by decide +kernel, by decide +kernel⟩
abbrev Y_X5_stateIn : hYd := (yX5_stateIn, cX5_stateIn, 2, some (.object "RootRows$State"))
theorem hy_X5_stateIn : hYf Y_X5_stateIn 2 := ⟨wc_X5_stateIn, wi_X5, by decide +kernel, by decide +kernel, by decide +kernel⟩
abbrev Y_X5_sizeOf : hYd := (yX5_sizeOf, cX5_sizeOf, 5, some .int)
theorem hy_X5_sizeOf : hYf Y_X5_sizeOf 1 := ⟨wc_X5_sizeOf, wi_X5, by decide +kernel, by decide +kernel, by decide +kernel⟩
abbrev Y_X5_addToPad : hYd := (yX5_addToPad, cX5_addToPad, 2, none)
theorem hy_X5_addToPad : hYf Y_X5_addToPad 1 := ⟨wc_X5_addToPad, wi_X5, by decide +kernel, by decide +kernel, by decide +kernel⟩
abbrev Y_X5_within : hYd := (yX5_within, cX5_within, 6, some .boolean)
theorem hy_X5_within : hYf Y_X5_within 3 := ⟨wc_X5_within, wi_X5, by decide +kernel, by decide +kernel, by decide +kernel⟩
abbrev Y_X5_power : hYd := (yX5_power, cX5_power, 3, some .long)
theorem hy_X5_power : hYf Y_X5_power 2 := ⟨wc_X5_power, wi_X5, by decide +kernel, by decide +kernel, by decide +kernel⟩
abbrev Y_X5_firstBit : hYd := (yX5_firstBit, cX5_firstBit, 5, some .long)
theorem hy_X5_firstBit : hYf Y_X5_firstBit 2 := ⟨wc_X5_firstBit, wi_X5, by decide +kernel, by decide +kernel, by decide +kernel⟩
abbrev Y_X5_rootDown : hYd := (yX5_rootDown, cX5_rootDown, 7, some .long)
theorem hy_X5_rootDown : hYf Y_X5_rootDown 2 := ⟨wc_X5_rootDown, wi_X5, by decide +kernel, by decide +kernel, by decide +kernel⟩
abbrev Y_X5_rootRounded : hYd := (yX5_rootRounded, cX5_rootRounded, 9, some .long)
theorem hy_X5_rootRounded : hYf Y_X5_rootRounded 3 := ⟨wc_X5_rootRounded, wi_X5, by decide +kernel, by decide +kernel, by decide +kernel⟩
abbrev Y_X5_bitsOfRoot : hYd := (yX5_bitsOfRoot, cX5_bitsOfRoot, 6, some .int)
theorem hy_X5_bitsOfRoot : hYf Y_X5_bitsOfRoot 2 := ⟨wc_X5_bitsOfRoot, wi_X5, by decide +kernel, by decide +kernel, by decide +kernel⟩
abbrev Y_X5_behindBit : hYd := (yX5_behindBit, cX5_behindBit, 11, some .long)
theorem hy_X5_behindBit : hYf Y_X5_behindBit 4 := ⟨wc_X5_behindBit, wi_X5, by decide +kernel, by decide +kernel, by decide +kernel⟩
abbrev Y_L_cell : hYd := (yL_cell, cL_cell, 3, some .int)
theorem hy_L_cell : hYf Y_L_cell 3 := ⟨wc_L_cell, wi_L, by decide +kernel, by decide +kernel, by decide +kernel⟩
abbrev Y_L_power : hYd := (yL_power, cL_power, 3, some .long)
theorem hy_L_power : hYf Y_L_power 2 := ⟨wc_L_power, wi_L, by decide +kernel, by decide +kernel, by decide +kernel⟩
abbrev Y_L_root : hYd := (yL_root, cL_root, 9, some .long)
theorem hy_L_root : hYf Y_L_root 2 := ⟨wc_L_root, wi_L, by decide +kernel, by decide +kernel, by decide +kernel⟩
abbrev Y_L_rounded : hYd := (yL_rounded, cL_rounded, 10, some .long)
theorem hy_L_rounded : hYf Y_L_rounded 3 := ⟨wc_L_rounded, wi_L, by decide +kernel, by decide +kernel, by decide +kernel⟩
abbrev Y_L_step : hYd := (yL_step, cL_step, 4, some .long)
theorem hy_L_step : hYf Y_L_step 3 := ⟨wc_L_step, wi_L, by decide +kernel, by decide +kernel, by decide +kernel⟩
abbrev Y_L_times : hYd := (yL_times, cL_times, 4, some .long)
theorem hy_L_times : hYf Y_L_times 2 := ⟨wc_L_times, wi_L, by decide +kernel, by decide +kernel, by decide +kernel⟩
abbrev Y_L_number : hYd := (yL_number, cL_number, 5, some .long)
theorem hy_L_number : hYf Y_L_number 4 := ⟨wc_L_number, wi_L, by decide +kernel, by decide +kernel, by decide +kernel⟩
abbrev Y_L_atom : hYd := (yL_atom, cL_atom, 7, some .long)
theorem hy_L_atom : hYf Y_L_atom 6 := ⟨wc_L_atom, wi_L, by decide +kernel, by decide +kernel, by decide +kernel⟩
abbrev Y_L_apply : hYd := (yL_apply, cL_apply, 7, some .long)
theorem hy_L_apply : hYf Y_L_apply 5 := ⟨wc_L_apply, wi_L, by decide +kernel, by decide +kernel, by decide +kernel⟩
abbrev Y_L_factor : hYd := (yL_factor, cL_factor, 13, some .long)
theorem hy_L_factor : hYf Y_L_factor 6 := ⟨wc_L_factor, wi_L, by decide +kernel, by decide +kernel, by decide +kernel⟩
abbrev Y_L_isLoaded : hYd := (yL_isLoaded, cL_isLoaded, 15, some .boolean)
theorem hy_L_isLoaded : hYf Y_L_isLoaded 6 := ⟨wc_L_isLoaded, wi_L, by decide +kernel, by decide +kernel, by decide +kernel⟩
abbrev Y_L_isFormula : hYd := (yL_isFormula, cL_isFormula, 6, some .boolean)
theorem hy_L_isFormula : hYf Y_L_isFormula 4 := ⟨wc_L_isFormula, wi_L, by decide +kernel, by decide +kernel, by decide +kernel⟩
abbrev Y_L_isAssigned : hYd := (yL_isAssigned, cL_isAssigned, 10, some .boolean)
theorem hy_L_isAssigned : hYf Y_L_isAssigned 3 := ⟨wc_L_isAssigned, wi_L, by decide +kernel, by decide +kernel, by decide +kernel⟩
abbrev Y_L_isSettled : hYd := (yL_isSettled, cL_isSettled, 13, some .boolean)
theorem hy_L_isSettled : hYf Y_L_isSettled 4 := ⟨wc_L_isSettled, wi_L, by decide +kernel, by decide +kernel, by decide +kernel⟩
abbrev Y_L_isCell : hYd := (yL_isCell, cL_isCell, 6, some .boolean)
theorem hy_L_isCell : hYf Y_L_isCell 3 := ⟨wc_L_isCell, wi_L, by decide +kernel, by decide +kernel, by decide +kernel⟩
abbrev Y_L_value : hYd := (yL_value, cL_value, 5, some .long)
theorem hy_L_value : hYf Y_L_value 2 := ⟨wc_L_value, wi_L, by decide +kernel, by decide +kernel, by decide +kernel⟩
abbrev Y_L_isRoot : hYd := (yL_isRoot, cL_isRoot, 13, some .boolean)
theorem hy_L_isRoot : hYf Y_L_isRoot 3 := ⟨wc_L_isRoot, wi_L, by decide +kernel, by decide +kernel, by decide +kernel⟩
abbrev Y_L_isAct : hYd := (yL_isAct, cL_isAct, 8, some .boolean)
theorem hy_L_isAct : hYf Y_L_isAct 5 := ⟨wc_L_isAct, wi_L, by decide +kernel, by decide +kernel, by decide +kernel⟩
theorem lk_L_174 : hLk RL 174 yX5_init := Or.inl wl_L_174
theorem lk_X5_9 : hLk RX5 9 yX4_init := Or.inr wl_X5_9
theorem lk_X5_29 : hLk RX5 29 yX2_init := Or.inr wl_X5_29
theorem lk_X5_36 : hLk RX5 36 yX3_init := Or.inr wl_X5_36
theorem lk_X5_43 : hLk RX5 43 yX1_init := Or.inr wl_X5_43
theorem lk_L_170 : hLk RL 170 yL_isCell := Or.inl wl_L_170
theorem lk_L_49 : hLk RL 49 yX5_cell := Or.inl wl_L_49
theorem lk_X5_48 : hLk RX5 48 yX5_within := Or.inl wl_X5_48
theorem lk_X5_75 : hLk RX5 75 yX4_cellValue := Or.inr wl_X5_75
theorem lk_L_125 : hLk RL 125 yX5_setCell := Or.inl wl_L_125
theorem lk_X5_56 : hLk RX5 56 yX5_keepState := Or.inl wl_X5_56
theorem lk_X5_234 : hLk RX5 234 yX5_stateIn := Or.inl wl_X5_234
theorem lk_X5_238 : hLk RX5 238 yX4_become := Or.inr wl_X5_238
theorem lk_X4_25 : hLk RX4 25 yX4_setting := Or.inl wl_X4_25
theorem lk_X4_29 : hLk RX4 29 yX4_cellValue := Or.inl wl_X4_29
theorem lk_X4_33 : hLk RX4 33 yX4_formula := Or.inl wl_X4_33
theorem lk_X5_79 : hLk RX5 79 yX4_changeCell := Or.inr wl_X5_79
theorem lk_L_163 : hLk RL 163 yL_value := Or.inl wl_L_163
theorem lk_L_41 : hLk RL 41 yL_cell := Or.inl wl_L_41
theorem lk_L_14 : hLk RL 14 yL_power := Or.inl wl_L_14
theorem lk_L_175 : hLk RL 175 yL_isAct := Or.inl wl_L_175
theorem lk_L_144 : hLk RL 144 yL_isLoaded := Or.inl wl_L_144
theorem lk_L_82 : hLk RL 82 yX5_wipe := Or.inl wl_L_82
theorem lk_L_31 : hLk RL 31 yX5_put := Or.inl wl_L_31
theorem lk_X5_83 : hLk RX5 83 yX5_sizeOf := Or.inl wl_X5_83
theorem lk_X5_93 : hLk RX5 93 yX5_addToPad := Or.inl wl_X5_93
theorem lk_L_86 : hLk RL 86 yL_factor := Or.inl wl_L_86
theorem lk_L_56 : hLk RL 56 yL_atom := Or.inl wl_L_56
theorem lk_L_45 : hLk RL 45 yL_number := Or.inl wl_L_45
theorem lk_L_37 : hLk RL 37 yL_step := Or.inl wl_L_37
theorem lk_L_68 : hLk RL 68 yL_apply := Or.inl wl_L_68
theorem lk_L_52 : hLk RL 52 yL_times := Or.inl wl_L_52
theorem lk_L_74 : hLk RL 74 yX5_count := Or.inl wl_L_74
theorem lk_X5_152 : hLk RX5 152 yX4_formulasThere := Or.inr wl_X5_152
theorem lk_X5_59 : hLk RX5 59 yX4_setting := Or.inr wl_X5_59
theorem lk_X5_158 : hLk RX5 158 yX4_cellsNotZero := Or.inr wl_X5_158
theorem lk_L_78 : hLk RL 78 yL_rounded := Or.inl wl_L_78
theorem lk_L_20 : hLk RL 20 yL_root := Or.inl wl_L_20
theorem lk_L_91 : hLk RL 91 yX5_fault := Or.inl wl_L_91
theorem lk_X5_97 : hLk RX5 97 yX2_faultOf := Or.inr wl_X5_97
theorem lk_X2_32 : hLk RX2 32 yX2_takes := Or.inl wl_X2_32
theorem lk_X2_40 : hLk RX2 40 yX2_takesFactor := Or.inl wl_X2_40
theorem lk_X2_43 : hLk RX2 43 yX2_isDigit := Or.inl wl_X2_43
theorem lk_X2_52 : hLk RX2 52 yX2_addStep := Or.inl wl_X2_52
theorem lk_X2_59 : hLk RX2 59 yX5_within := Or.inr wl_X2_59
theorem lk_X2_63 : hLk RX2 63 yX2_push := Or.inl wl_X2_63
theorem lk_X2_46 : hLk RX2 46 yX2_takesDigit := Or.inl wl_X2_46
theorem lk_X2_49 : hLk RX2 49 yX2_takesBehind := Or.inl wl_X2_49
theorem lk_X2_67 : hLk RX2 67 yX2_closeBracket := Or.inl wl_X2_67
theorem lk_X2_36 : hLk RX2 36 yX2_release := Or.inl wl_X2_36
theorem lk_X2_74 : hLk RX2 74 yX2_top := Or.inl wl_X2_74
theorem lk_X2_70 : hLk RX2 70 yX2_strengthOf := Or.inl wl_X2_70
theorem lk_L_94 : hLk RL 94 yX5_load := Or.inl wl_L_94
theorem lk_X5_112 : hLk RX5 112 yX0_init := Or.inr wl_X5_112
theorem lk_X5_115 : hLk RX5 115 yX4_changeFormula := Or.inr wl_X5_115
theorem lk_L_148 : hLk RL 148 yL_isFormula := Or.inl wl_L_148
theorem lk_L_97 : hLk RL 97 yX5_stepValue := Or.inl wl_L_97
theorem lk_X5_120 : hLk RX5 120 yX4_formula := Or.inr wl_X5_120
theorem lk_X5_124 : hLk RX5 124 yX3_reckon := Or.inr wl_X5_124
theorem lk_X3_34 : hLk RX3 34 yX3_numberOf := Or.inl wl_X3_34
theorem lk_X3_46 : hLk RX3 46 yX5_within := Or.inr wl_X3_46
theorem lk_X3_50 : hLk RX3 50 yX4_cellValue := Or.inr wl_X3_50
theorem lk_X3_56 : hLk RX3 56 yX3_pop := Or.inl wl_X3_56
theorem lk_X3_60 : hLk RX3 60 yX4_setting := Or.inr wl_X3_60
theorem lk_X3_64 : hLk RX3 64 yX5_rootRounded := Or.inr wl_X3_64
theorem lk_X5_167 : hLk RX5 167 yX5_rootDown := Or.inl wl_X5_167
theorem lk_X5_250 : hLk RX5 250 yX5_firstBit := Or.inl wl_X5_250
theorem lk_X5_171 : hLk RX5 171 yX5_power := Or.inl wl_X5_171
theorem lk_X3_68 : hLk RX3 68 yX3_product := Or.inl wl_X3_68
theorem lk_X3_40 : hLk RX3 40 yX3_push := Or.inl wl_X3_40
theorem lk_X5_149 : hLk RX5 149 yX3_valueOf := Or.inr wl_X5_149
theorem lk_L_103 : hLk RL 103 yX5_ofFormula := Or.inl wl_L_103
theorem lk_X5_139 : hLk RX5 139 yX0_cellsNamed := Or.inr wl_X5_139
theorem lk_X0_23 : hLk RX0 23 yX5_within := Or.inr wl_X0_23
theorem lk_X5_146 : hLk RX5 146 yX0_rootsInside := Or.inr wl_X5_146
theorem lk_L_109 : hLk RL 109 yX5_value := Or.inl wl_L_109
theorem lk_X5_133 : hLk RX5 133 yX3_result := Or.inr wl_X5_133
theorem lk_X3_74 : hLk RX3 74 yX3_valueOf := Or.inl wl_X3_74
theorem lk_L_152 : hLk RL 152 yL_isAssigned := Or.inl wl_L_152
theorem lk_L_112 : hLk RL 112 yX5_assign := Or.inl wl_L_112
theorem lk_L_156 : hLk RL 156 yL_isSettled := Or.inl wl_L_156
theorem lk_L_115 : hLk RL 115 yX5_settle := Or.inl wl_L_115
theorem lk_L_119 : hLk RL 119 yX5_save := Or.inl wl_L_119
theorem lk_L_122 : hLk RL 122 yX5_restore := Or.inl wl_L_122
theorem lk_L_160 : hLk RL 160 yX5_set := Or.inl wl_L_160
theorem lk_X5_63 : hLk RX5 63 yX4_changeSetting := Or.inr wl_X5_63
theorem lk_L_166 : hLk RL 166 yL_isRoot := Or.inl wl_L_166
theorem lk_L_132 : hLk RL 132 yX5_root := Or.inl wl_L_132
theorem lk_X5_163 : hLk RX5 163 yX5_rootRounded := Or.inl wl_X5_163
theorem lk_L_135 : hLk RL 135 yX5_remainder := Or.inl wl_L_135
theorem lk_L_138 : hLk RL 138 yX5_bit := Or.inl wl_L_138
theorem lk_X5_174 : hLk RX5 174 yX5_bitsOfRoot := Or.inl wl_X5_174
theorem lk_X5_178 : hLk RX5 178 yX5_behindBit := Or.inl wl_X5_178
section Rows3
variable {E : hEv} {K : hKv} {cc : ByteArray} {n : Nat} {own nm : String} {R : Room} {cells slots pc : Nat} {lo : List (Option Value)} {st : List Value} {M : hM}
theorem xg_X0_steps (q : Nat) (C : hCx E K cc n own nm R) {idx a t : Nat} {v0 : Value} (hl : hFl own idx TX0 0) (hM : M a = some (t, eO 0 [v0])) (hd : decode cc pc = .ok (.getfield idx, 3)) (hq : pc + 3 = q) (kk : hX E cells slots q lo (v0 :: st) M) : hX E cells slots pc lo (.ref a :: st) M := x_getf q 0 C wu_X0 wcl_X0 (by decide) hl hM rfl hd hq kk
theorem xp_X0_steps (q : Nat) (C : hCx E K cc n own nm R) {idx a t : Nat} {v0 w : Value} (hl : hFl own idx TX0 0) (hnm : nm = "<init>") (howd : (TX0 0).1 = own) (hlw : Cond.fieldLink own idx (TX0 0).1 (TX0 0).2.1 (TX0 0).2.2.1 ∈ WA) (hM : M a = some (t, eO 0 [v0])) (hn : narrow (tyX0 0) w = w) (hf : fits (tyX0 0) w = true) (hd : decode cc pc = .ok (.putfield idx, 3)) (hq : pc + 3 = q) (kk : hX E cells slots q lo st (hU M a t (eO 0 [w]))) : hX E cells slots pc lo (w :: .ref a :: st) M := x_putf q 0 C wu_X0 wcl_X0 (by decide) tyX0 tyX0_ok nmX0 hl (Or.inr ⟨rfl, hnm, howd, hlw⟩) hM hn hf (by simp) hd hq kk
theorem xg_X1_number (q : Nat) (C : hCx E K cc n own nm R) {idx a t : Nat} {v0 v1 v2 v3 v4 v5 v6 v7 v8 : Value} (hl : hFl own idx TX1 0) (hM : M a = some (t, eO 1 [v0, v1, v2, v3, v4, v5, v6, v7, v8])) (hd : decode cc pc = .ok (.getfield idx, 3)) (hq : pc + 3 = q) (kk : hX E cells slots q lo (v0 :: st) M) : hX E cells slots pc lo (.ref a :: st) M := x_getf q 0 C wu_X1 wcl_X1 (by decide) hl hM rfl hd hq kk
theorem xp_X1_number (q : Nat) (C : hCx E K cc n own nm R) {idx a t : Nat} {v0 v1 v2 v3 v4 v5 v6 v7 v8 w : Value} (hl : hFl own idx TX1 0) (hM : M a = some (t, eO 1 [v0, v1, v2, v3, v4, v5, v6, v7, v8])) (hn : narrow (tyX1 0) w = w) (hf : fits (tyX1 0) w = true) (hd : decode cc pc = .ok (.putfield idx, 3)) (hq : pc + 3 = q) (kk : hX E cells slots q lo st (hU M a t (eO 1 [w, v1, v2, v3, v4, v5, v6, v7, v8]))) : hX E cells slots pc lo (w :: .ref a :: st) M := x_putf q 0 C wu_X1 wcl_X1 (by decide) tyX1 tyX1_ok nmX1 hl (Or.inl rfl) hM hn hf (by simp) hd hq kk
theorem xg_X1_whole (q : Nat) (C : hCx E K cc n own nm R) {idx a t : Nat} {v0 v1 v2 v3 v4 v5 v6 v7 v8 : Value} (hl : hFl own idx TX1 1) (hM : M a = some (t, eO 1 [v0, v1, v2, v3, v4, v5, v6, v7, v8])) (hd : decode cc pc = .ok (.getfield idx, 3)) (hq : pc + 3 = q) (kk : hX E cells slots q lo (v1 :: st) M) : hX E cells slots pc lo (.ref a :: st) M := x_getf q 1 C wu_X1 wcl_X1 (by decide) hl hM rfl hd hq kk
theorem xp_X1_whole (q : Nat) (C : hCx E K cc n own nm R) {idx a t : Nat} {v0 v1 v2 v3 v4 v5 v6 v7 v8 w : Value} (hl : hFl own idx TX1 1) (hM : M a = some (t, eO 1 [v0, v1, v2, v3, v4, v5, v6, v7, v8])) (hn : narrow (tyX1 1) w = w) (hf : fits (tyX1 1) w = true) (hd : decode cc pc = .ok (.putfield idx, 3)) (hq : pc + 3 = q) (kk : hX E cells slots q lo st (hU M a t (eO 1 [v0, w, v2, v3, v4, v5, v6, v7, v8]))) : hX E cells slots pc lo (w :: .ref a :: st) M := x_putf q 1 C wu_X1 wcl_X1 (by decide) tyX1 tyX1_ok nmX1 hl (Or.inl rfl) hM hn hf (by simp) hd hq kk
theorem xg_X1_addend (q : Nat) (C : hCx E K cc n own nm R) {idx a t : Nat} {v0 v1 v2 v3 v4 v5 v6 v7 v8 : Value} (hl : hFl own idx TX1 2) (hM : M a = some (t, eO 1 [v0, v1, v2, v3, v4, v5, v6, v7, v8])) (hd : decode cc pc = .ok (.getfield idx, 3)) (hq : pc + 3 = q) (kk : hX E cells slots q lo (v2 :: st) M) : hX E cells slots pc lo (.ref a :: st) M := x_getf q 2 C wu_X1 wcl_X1 (by decide) hl hM rfl hd hq kk
theorem xp_X1_addend (q : Nat) (C : hCx E K cc n own nm R) {idx a t : Nat} {v0 v1 v2 v3 v4 v5 v6 v7 v8 w : Value} (hl : hFl own idx TX1 2) (hM : M a = some (t, eO 1 [v0, v1, v2, v3, v4, v5, v6, v7, v8])) (hn : narrow (tyX1 2) w = w) (hf : fits (tyX1 2) w = true) (hd : decode cc pc = .ok (.putfield idx, 3)) (hq : pc + 3 = q) (kk : hX E cells slots q lo st (hU M a t (eO 1 [v0, v1, w, v3, v4, v5, v6, v7, v8]))) : hX E cells slots pc lo (w :: .ref a :: st) M := x_putf q 2 C wu_X1 wcl_X1 (by decide) tyX1 tyX1_ok nmX1 hl (Or.inl rfl) hM hn hf (by simp) hd hq kk
theorem xg_X1_divisor (q : Nat) (C : hCx E K cc n own nm R) {idx a t : Nat} {v0 v1 v2 v3 v4 v5 v6 v7 v8 : Value} (hl : hFl own idx TX1 3) (hM : M a = some (t, eO 1 [v0, v1, v2, v3, v4, v5, v6, v7, v8])) (hd : decode cc pc = .ok (.getfield idx, 3)) (hq : pc + 3 = q) (kk : hX E cells slots q lo (v3 :: st) M) : hX E cells slots pc lo (.ref a :: st) M := x_getf q 3 C wu_X1 wcl_X1 (by decide) hl hM rfl hd hq kk
theorem xp_X1_divisor (q : Nat) (C : hCx E K cc n own nm R) {idx a t : Nat} {v0 v1 v2 v3 v4 v5 v6 v7 v8 w : Value} (hl : hFl own idx TX1 3) (hM : M a = some (t, eO 1 [v0, v1, v2, v3, v4, v5, v6, v7, v8])) (hn : narrow (tyX1 3) w = w) (hf : fits (tyX1 3) w = true) (hd : decode cc pc = .ok (.putfield idx, 3)) (hq : pc + 3 = q) (kk : hX E cells slots q lo st (hU M a t (eO 1 [v0, v1, v2, w, v4, v5, v6, v7, v8]))) : hX E cells slots pc lo (w :: .ref a :: st) M := x_putf q 3 C wu_X1 wcl_X1 (by decide) tyX1 tyX1_ok nmX1 hl (Or.inl rfl) hM hn hf (by simp) hd hq kk
theorem xg_X1_quotient (q : Nat) (C : hCx E K cc n own nm R) {idx a t : Nat} {v0 v1 v2 v3 v4 v5 v6 v7 v8 : Value} (hl : hFl own idx TX1 4) (hM : M a = some (t, eO 1 [v0, v1, v2, v3, v4, v5, v6, v7, v8])) (hd : decode cc pc = .ok (.getfield idx, 3)) (hq : pc + 3 = q) (kk : hX E cells slots q lo (v4 :: st) M) : hX E cells slots pc lo (.ref a :: st) M := x_getf q 4 C wu_X1 wcl_X1 (by decide) hl hM rfl hd hq kk
theorem xp_X1_quotient (q : Nat) (C : hCx E K cc n own nm R) {idx a t : Nat} {v0 v1 v2 v3 v4 v5 v6 v7 v8 w : Value} (hl : hFl own idx TX1 4) (hM : M a = some (t, eO 1 [v0, v1, v2, v3, v4, v5, v6, v7, v8])) (hn : narrow (tyX1 4) w = w) (hf : fits (tyX1 4) w = true) (hd : decode cc pc = .ok (.putfield idx, 3)) (hq : pc + 3 = q) (kk : hX E cells slots q lo st (hU M a t (eO 1 [v0, v1, v2, v3, w, v5, v6, v7, v8]))) : hX E cells slots pc lo (w :: .ref a :: st) M := x_putf q 4 C wu_X1 wcl_X1 (by decide) tyX1 tyX1_ok nmX1 hl (Or.inl rfl) hM hn hf (by simp) hd hq kk
theorem xg_X1_upper (q : Nat) (C : hCx E K cc n own nm R) {idx a t : Nat} {v0 v1 v2 v3 v4 v5 v6 v7 v8 : Value} (hl : hFl own idx TX1 5) (hM : M a = some (t, eO 1 [v0, v1, v2, v3, v4, v5, v6, v7, v8])) (hd : decode cc pc = .ok (.getfield idx, 3)) (hq : pc + 3 = q) (kk : hX E cells slots q lo (v5 :: st) M) : hX E cells slots pc lo (.ref a :: st) M := x_getf q 5 C wu_X1 wcl_X1 (by decide) hl hM rfl hd hq kk
theorem xp_X1_upper (q : Nat) (C : hCx E K cc n own nm R) {idx a t : Nat} {v0 v1 v2 v3 v4 v5 v6 v7 v8 w : Value} (hl : hFl own idx TX1 5) (hM : M a = some (t, eO 1 [v0, v1, v2, v3, v4, v5, v6, v7, v8])) (hn : narrow (tyX1 5) w = w) (hf : fits (tyX1 5) w = true) (hd : decode cc pc = .ok (.putfield idx, 3)) (hq : pc + 3 = q) (kk : hX E cells slots q lo st (hU M a t (eO 1 [v0, v1, v2, v3, v4, w, v6, v7, v8]))) : hX E cells slots pc lo (w :: .ref a :: st) M := x_putf q 5 C wu_X1 wcl_X1 (by decide) tyX1 tyX1_ok nmX1 hl (Or.inl rfl) hM hn hf (by simp) hd hq kk
theorem xg_X1_lower (q : Nat) (C : hCx E K cc n own nm R) {idx a t : Nat} {v0 v1 v2 v3 v4 v5 v6 v7 v8 : Value} (hl : hFl own idx TX1 6) (hM : M a = some (t, eO 1 [v0, v1, v2, v3, v4, v5, v6, v7, v8])) (hd : decode cc pc = .ok (.getfield idx, 3)) (hq : pc + 3 = q) (kk : hX E cells slots q lo (v6 :: st) M) : hX E cells slots pc lo (.ref a :: st) M := x_getf q 6 C wu_X1 wcl_X1 (by decide) hl hM rfl hd hq kk
theorem xp_X1_lower (q : Nat) (C : hCx E K cc n own nm R) {idx a t : Nat} {v0 v1 v2 v3 v4 v5 v6 v7 v8 w : Value} (hl : hFl own idx TX1 6) (hM : M a = some (t, eO 1 [v0, v1, v2, v3, v4, v5, v6, v7, v8])) (hn : narrow (tyX1 6) w = w) (hf : fits (tyX1 6) w = true) (hd : decode cc pc = .ok (.putfield idx, 3)) (hq : pc + 3 = q) (kk : hX E cells slots q lo st (hU M a t (eO 1 [v0, v1, v2, v3, v4, v5, w, v7, v8]))) : hX E cells slots pc lo (w :: .ref a :: st) M := x_putf q 6 C wu_X1 wcl_X1 (by decide) tyX1 tyX1_ok nmX1 hl (Or.inl rfl) hM hn hf (by simp) hd hq kk
theorem xg_X1_upperBefore (q : Nat) (C : hCx E K cc n own nm R) {idx a t : Nat} {v0 v1 v2 v3 v4 v5 v6 v7 v8 : Value} (hl : hFl own idx TX1 7) (hM : M a = some (t, eO 1 [v0, v1, v2, v3, v4, v5, v6, v7, v8])) (hd : decode cc pc = .ok (.getfield idx, 3)) (hq : pc + 3 = q) (kk : hX E cells slots q lo (v7 :: st) M) : hX E cells slots pc lo (.ref a :: st) M := x_getf q 7 C wu_X1 wcl_X1 (by decide) hl hM rfl hd hq kk
theorem xp_X1_upperBefore (q : Nat) (C : hCx E K cc n own nm R) {idx a t : Nat} {v0 v1 v2 v3 v4 v5 v6 v7 v8 w : Value} (hl : hFl own idx TX1 7) (hM : M a = some (t, eO 1 [v0, v1, v2, v3, v4, v5, v6, v7, v8])) (hn : narrow (tyX1 7) w = w) (hf : fits (tyX1 7) w = true) (hd : decode cc pc = .ok (.putfield idx, 3)) (hq : pc + 3 = q) (kk : hX E cells slots q lo st (hU M a t (eO 1 [v0, v1, v2, v3, v4, v5, v6, w, v8]))) : hX E cells slots pc lo (w :: .ref a :: st) M := x_putf q 7 C wu_X1 wcl_X1 (by decide) tyX1 tyX1_ok nmX1 hl (Or.inl rfl) hM hn hf (by simp) hd hq kk
theorem xg_X1_lowerBefore (q : Nat) (C : hCx E K cc n own nm R) {idx a t : Nat} {v0 v1 v2 v3 v4 v5 v6 v7 v8 : Value} (hl : hFl own idx TX1 8) (hM : M a = some (t, eO 1 [v0, v1, v2, v3, v4, v5, v6, v7, v8])) (hd : decode cc pc = .ok (.getfield idx, 3)) (hq : pc + 3 = q) (kk : hX E cells slots q lo (v8 :: st) M) : hX E cells slots pc lo (.ref a :: st) M := x_getf q 8 C wu_X1 wcl_X1 (by decide) hl hM rfl hd hq kk
theorem xp_X1_lowerBefore (q : Nat) (C : hCx E K cc n own nm R) {idx a t : Nat} {v0 v1 v2 v3 v4 v5 v6 v7 v8 w : Value} (hl : hFl own idx TX1 8) (hM : M a = some (t, eO 1 [v0, v1, v2, v3, v4, v5, v6, v7, v8])) (hn : narrow (tyX1 8) w = w) (hf : fits (tyX1 8) w = true) (hd : decode cc pc = .ok (.putfield idx, 3)) (hq : pc + 3 = q) (kk : hX E cells slots q lo st (hU M a t (eO 1 [v0, v1, v2, v3, v4, v5, v6, v7, w]))) : hX E cells slots pc lo (w :: .ref a :: st) M := x_putf q 8 C wu_X1 wcl_X1 (by decide) tyX1 tyX1_ok nmX1 hl (Or.inl rfl) hM hn hf (by simp) hd hq kk
theorem xg_X2_steps (q : Nat) (C : hCx E K cc n own nm R) {idx a t : Nat} {v0 v1 v2 v3 v4 v5 : Value} (hl : hFl own idx TX2 0) (hM : M a = some (t, eO 2 [v0, v1, v2, v3, v4, v5])) (hd : decode cc pc = .ok (.getfield idx, 3)) (hq : pc + 3 = q) (kk : hX E cells slots q lo (v0 :: st) M) : hX E cells slots pc lo (.ref a :: st) M := x_getf q 0 C wu_X2 wcl_X2 (by decide) hl hM rfl hd hq kk
theorem xp_X2_steps (q : Nat) (C : hCx E K cc n own nm R) {idx a t : Nat} {v0 v1 v2 v3 v4 v5 w : Value} (hl : hFl own idx TX2 0) (hnm : nm = "<init>") (howd : (TX2 0).1 = own) (hlw : Cond.fieldLink own idx (TX2 0).1 (TX2 0).2.1 (TX2 0).2.2.1 ∈ WA) (hM : M a = some (t, eO 2 [v0, v1, v2, v3, v4, v5])) (hn : narrow (tyX2 0) w = w) (hf : fits (tyX2 0) w = true) (hd : decode cc pc = .ok (.putfield idx, 3)) (hq : pc + 3 = q) (kk : hX E cells slots q lo st (hU M a t (eO 2 [w, v1, v2, v3, v4, v5]))) : hX E cells slots pc lo (w :: .ref a :: st) M := x_putf q 0 C wu_X2 wcl_X2 (by decide) tyX2 tyX2_ok nmX2 hl (Or.inr ⟨rfl, hnm, howd, hlw⟩) hM hn hf (by simp) hd hq kk
theorem xg_X2_waiting (q : Nat) (C : hCx E K cc n own nm R) {idx a t : Nat} {v0 v1 v2 v3 v4 v5 : Value} (hl : hFl own idx TX2 1) (hM : M a = some (t, eO 2 [v0, v1, v2, v3, v4, v5])) (hd : decode cc pc = .ok (.getfield idx, 3)) (hq : pc + 3 = q) (kk : hX E cells slots q lo (v1 :: st) M) : hX E cells slots pc lo (.ref a :: st) M := x_getf q 1 C wu_X2 wcl_X2 (by decide) hl hM rfl hd hq kk
theorem xp_X2_waiting (q : Nat) (C : hCx E K cc n own nm R) {idx a t : Nat} {v0 v1 v2 v3 v4 v5 w : Value} (hl : hFl own idx TX2 1) (hnm : nm = "<init>") (howd : (TX2 1).1 = own) (hlw : Cond.fieldLink own idx (TX2 1).1 (TX2 1).2.1 (TX2 1).2.2.1 ∈ WA) (hM : M a = some (t, eO 2 [v0, v1, v2, v3, v4, v5])) (hn : narrow (tyX2 1) w = w) (hf : fits (tyX2 1) w = true) (hd : decode cc pc = .ok (.putfield idx, 3)) (hq : pc + 3 = q) (kk : hX E cells slots q lo st (hU M a t (eO 2 [v0, w, v2, v3, v4, v5]))) : hX E cells slots pc lo (w :: .ref a :: st) M := x_putf q 1 C wu_X2 wcl_X2 (by decide) tyX2 tyX2_ok nmX2 hl (Or.inr ⟨rfl, hnm, howd, hlw⟩) hM hn hf (by simp) hd hq kk
theorem xg_X2_size (q : Nat) (C : hCx E K cc n own nm R) {idx a t : Nat} {v0 v1 v2 v3 v4 v5 : Value} (hl : hFl own idx TX2 2) (hM : M a = some (t, eO 2 [v0, v1, v2, v3, v4, v5])) (hd : decode cc pc = .ok (.getfield idx, 3)) (hq : pc + 3 = q) (kk : hX E cells slots q lo (v2 :: st) M) : hX E cells slots pc lo (.ref a :: st) M := x_getf q 2 C wu_X2 wcl_X2 (by decide) hl hM rfl hd hq kk
theorem xp_X2_size (q : Nat) (C : hCx E K cc n own nm R) {idx a t : Nat} {v0 v1 v2 v3 v4 v5 w : Value} (hl : hFl own idx TX2 2) (hM : M a = some (t, eO 2 [v0, v1, v2, v3, v4, v5])) (hn : narrow (tyX2 2) w = w) (hf : fits (tyX2 2) w = true) (hd : decode cc pc = .ok (.putfield idx, 3)) (hq : pc + 3 = q) (kk : hX E cells slots q lo st (hU M a t (eO 2 [v0, v1, w, v3, v4, v5]))) : hX E cells slots pc lo (w :: .ref a :: st) M := x_putf q 2 C wu_X2 wcl_X2 (by decide) tyX2 tyX2_ok nmX2 hl (Or.inl rfl) hM hn hf (by simp) hd hq kk
theorem xg_X2_waits (q : Nat) (C : hCx E K cc n own nm R) {idx a t : Nat} {v0 v1 v2 v3 v4 v5 : Value} (hl : hFl own idx TX2 3) (hM : M a = some (t, eO 2 [v0, v1, v2, v3, v4, v5])) (hd : decode cc pc = .ok (.getfield idx, 3)) (hq : pc + 3 = q) (kk : hX E cells slots q lo (v3 :: st) M) : hX E cells slots pc lo (.ref a :: st) M := x_getf q 3 C wu_X2 wcl_X2 (by decide) hl hM rfl hd hq kk
theorem xp_X2_waits (q : Nat) (C : hCx E K cc n own nm R) {idx a t : Nat} {v0 v1 v2 v3 v4 v5 w : Value} (hl : hFl own idx TX2 3) (hM : M a = some (t, eO 2 [v0, v1, v2, v3, v4, v5])) (hn : narrow (tyX2 3) w = w) (hf : fits (tyX2 3) w = true) (hd : decode cc pc = .ok (.putfield idx, 3)) (hq : pc + 3 = q) (kk : hX E cells slots q lo st (hU M a t (eO 2 [v0, v1, v2, w, v4, v5]))) : hX E cells slots pc lo (w :: .ref a :: st) M := x_putf q 3 C wu_X2 wcl_X2 (by decide) tyX2 tyX2_ok nmX2 hl (Or.inl rfl) hM hn hf (by simp) hd hq kk
theorem xg_X2_open (q : Nat) (C : hCx E K cc n own nm R) {idx a t : Nat} {v0 v1 v2 v3 v4 v5 : Value} (hl : hFl own idx TX2 4) (hM : M a = some (t, eO 2 [v0, v1, v2, v3, v4, v5])) (hd : decode cc pc = .ok (.getfield idx, 3)) (hq : pc + 3 = q) (kk : hX E cells slots q lo (v4 :: st) M) : hX E cells slots pc lo (.ref a :: st) M := x_getf q 4 C wu_X2 wcl_X2 (by decide) hl hM rfl hd hq kk
theorem xp_X2_open (q : Nat) (C : hCx E K cc n own nm R) {idx a t : Nat} {v0 v1 v2 v3 v4 v5 w : Value} (hl : hFl own idx TX2 4) (hM : M a = some (t, eO 2 [v0, v1, v2, v3, v4, v5])) (hn : narrow (tyX2 4) w = w) (hf : fits (tyX2 4) w = true) (hd : decode cc pc = .ok (.putfield idx, 3)) (hq : pc + 3 = q) (kk : hX E cells slots q lo st (hU M a t (eO 2 [v0, v1, v2, v3, w, v5]))) : hX E cells slots pc lo (w :: .ref a :: st) M := x_putf q 4 C wu_X2 wcl_X2 (by decide) tyX2 tyX2_ok nmX2 hl (Or.inl rfl) hM hn hf (by simp) hd hq kk
theorem xg_X2_next (q : Nat) (C : hCx E K cc n own nm R) {idx a t : Nat} {v0 v1 v2 v3 v4 v5 : Value} (hl : hFl own idx TX2 5) (hM : M a = some (t, eO 2 [v0, v1, v2, v3, v4, v5])) (hd : decode cc pc = .ok (.getfield idx, 3)) (hq : pc + 3 = q) (kk : hX E cells slots q lo (v5 :: st) M) : hX E cells slots pc lo (.ref a :: st) M := x_getf q 5 C wu_X2 wcl_X2 (by decide) hl hM rfl hd hq kk
theorem xp_X2_next (q : Nat) (C : hCx E K cc n own nm R) {idx a t : Nat} {v0 v1 v2 v3 v4 v5 w : Value} (hl : hFl own idx TX2 5) (hM : M a = some (t, eO 2 [v0, v1, v2, v3, v4, v5])) (hn : narrow (tyX2 5) w = w) (hf : fits (tyX2 5) w = true) (hd : decode cc pc = .ok (.putfield idx, 3)) (hq : pc + 3 = q) (kk : hX E cells slots q lo st (hU M a t (eO 2 [v0, v1, v2, v3, v4, w]))) : hX E cells slots pc lo (w :: .ref a :: st) M := x_putf q 5 C wu_X2 wcl_X2 (by decide) tyX2 tyX2_ok nmX2 hl (Or.inl rfl) hM hn hf (by simp) hd hq kk
theorem xg_X3_values (q : Nat) (C : hCx E K cc n own nm R) {idx a t : Nat} {v0 v1 v2 v3 v4 : Value} (hl : hFl own idx TX3 0) (hM : M a = some (t, eO 3 [v0, v1, v2, v3, v4])) (hd : decode cc pc = .ok (.getfield idx, 3)) (hq : pc + 3 = q) (kk : hX E cells slots q lo (v0 :: st) M) : hX E cells slots pc lo (.ref a :: st) M := x_getf q 0 C wu_X3 wcl_X3 (by decide) hl hM rfl hd hq kk
theorem xp_X3_values (q : Nat) (C : hCx E K cc n own nm R) {idx a t : Nat} {v0 v1 v2 v3 v4 w : Value} (hl : hFl own idx TX3 0) (hnm : nm = "<init>") (howd : (TX3 0).1 = own) (hlw : Cond.fieldLink own idx (TX3 0).1 (TX3 0).2.1 (TX3 0).2.2.1 ∈ WA) (hM : M a = some (t, eO 3 [v0, v1, v2, v3, v4])) (hn : narrow (tyX3 0) w = w) (hf : fits (tyX3 0) w = true) (hd : decode cc pc = .ok (.putfield idx, 3)) (hq : pc + 3 = q) (kk : hX E cells slots q lo st (hU M a t (eO 3 [w, v1, v2, v3, v4]))) : hX E cells slots pc lo (w :: .ref a :: st) M := x_putf q 0 C wu_X3 wcl_X3 (by decide) tyX3 tyX3_ok nmX3 hl (Or.inr ⟨rfl, hnm, howd, hlw⟩) hM hn hf (by simp) hd hq kk
theorem xg_X3_operands (q : Nat) (C : hCx E K cc n own nm R) {idx a t : Nat} {v0 v1 v2 v3 v4 : Value} (hl : hFl own idx TX3 1) (hM : M a = some (t, eO 3 [v0, v1, v2, v3, v4])) (hd : decode cc pc = .ok (.getfield idx, 3)) (hq : pc + 3 = q) (kk : hX E cells slots q lo (v1 :: st) M) : hX E cells slots pc lo (.ref a :: st) M := x_getf q 1 C wu_X3 wcl_X3 (by decide) hl hM rfl hd hq kk
theorem xp_X3_operands (q : Nat) (C : hCx E K cc n own nm R) {idx a t : Nat} {v0 v1 v2 v3 v4 w : Value} (hl : hFl own idx TX3 1) (hnm : nm = "<init>") (howd : (TX3 1).1 = own) (hlw : Cond.fieldLink own idx (TX3 1).1 (TX3 1).2.1 (TX3 1).2.2.1 ∈ WA) (hM : M a = some (t, eO 3 [v0, v1, v2, v3, v4])) (hn : narrow (tyX3 1) w = w) (hf : fits (tyX3 1) w = true) (hd : decode cc pc = .ok (.putfield idx, 3)) (hq : pc + 3 = q) (kk : hX E cells slots q lo st (hU M a t (eO 3 [v0, w, v2, v3, v4]))) : hX E cells slots pc lo (w :: .ref a :: st) M := x_putf q 1 C wu_X3 wcl_X3 (by decide) tyX3 tyX3_ok nmX3 hl (Or.inr ⟨rfl, hnm, howd, hlw⟩) hM hn hf (by simp) hd hq kk
theorem xg_X3_height (q : Nat) (C : hCx E K cc n own nm R) {idx a t : Nat} {v0 v1 v2 v3 v4 : Value} (hl : hFl own idx TX3 2) (hM : M a = some (t, eO 3 [v0, v1, v2, v3, v4])) (hd : decode cc pc = .ok (.getfield idx, 3)) (hq : pc + 3 = q) (kk : hX E cells slots q lo (v2 :: st) M) : hX E cells slots pc lo (.ref a :: st) M := x_getf q 2 C wu_X3 wcl_X3 (by decide) hl hM rfl hd hq kk
theorem xp_X3_height (q : Nat) (C : hCx E K cc n own nm R) {idx a t : Nat} {v0 v1 v2 v3 v4 w : Value} (hl : hFl own idx TX3 2) (hM : M a = some (t, eO 3 [v0, v1, v2, v3, v4])) (hn : narrow (tyX3 2) w = w) (hf : fits (tyX3 2) w = true) (hd : decode cc pc = .ok (.putfield idx, 3)) (hq : pc + 3 = q) (kk : hX E cells slots q lo st (hU M a t (eO 3 [v0, v1, w, v3, v4]))) : hX E cells slots pc lo (w :: .ref a :: st) M := x_putf q 2 C wu_X3 wcl_X3 (by decide) tyX3 tyX3_ok nmX3 hl (Or.inl rfl) hM hn hf (by simp) hd hq kk
theorem xg_X3_reached (q : Nat) (C : hCx E K cc n own nm R) {idx a t : Nat} {v0 v1 v2 v3 v4 : Value} (hl : hFl own idx TX3 3) (hM : M a = some (t, eO 3 [v0, v1, v2, v3, v4])) (hd : decode cc pc = .ok (.getfield idx, 3)) (hq : pc + 3 = q) (kk : hX E cells slots q lo (v3 :: st) M) : hX E cells slots pc lo (.ref a :: st) M := x_getf q 3 C wu_X3 wcl_X3 (by decide) hl hM rfl hd hq kk
theorem xp_X3_reached (q : Nat) (C : hCx E K cc n own nm R) {idx a t : Nat} {v0 v1 v2 v3 v4 w : Value} (hl : hFl own idx TX3 3) (hM : M a = some (t, eO 3 [v0, v1, v2, v3, v4])) (hn : narrow (tyX3 3) w = w) (hf : fits (tyX3 3) w = true) (hd : decode cc pc = .ok (.putfield idx, 3)) (hq : pc + 3 = q) (kk : hX E cells slots q lo st (hU M a t (eO 3 [v0, v1, v2, w, v4]))) : hX E cells slots pc lo (w :: .ref a :: st) M := x_putf q 3 C wu_X3 wcl_X3 (by decide) tyX3 tyX3_ok nmX3 hl (Or.inl rfl) hM hn hf (by simp) hd hq kk
theorem xg_X3_reason (q : Nat) (C : hCx E K cc n own nm R) {idx a t : Nat} {v0 v1 v2 v3 v4 : Value} (hl : hFl own idx TX3 4) (hM : M a = some (t, eO 3 [v0, v1, v2, v3, v4])) (hd : decode cc pc = .ok (.getfield idx, 3)) (hq : pc + 3 = q) (kk : hX E cells slots q lo (v4 :: st) M) : hX E cells slots pc lo (.ref a :: st) M := x_getf q 4 C wu_X3 wcl_X3 (by decide) hl hM rfl hd hq kk
theorem xp_X3_reason (q : Nat) (C : hCx E K cc n own nm R) {idx a t : Nat} {v0 v1 v2 v3 v4 w : Value} (hl : hFl own idx TX3 4) (hM : M a = some (t, eO 3 [v0, v1, v2, v3, v4])) (hn : narrow (tyX3 4) w = w) (hf : fits (tyX3 4) w = true) (hd : decode cc pc = .ok (.putfield idx, 3)) (hq : pc + 3 = q) (kk : hX E cells slots q lo st (hU M a t (eO 3 [v0, v1, v2, v3, w]))) : hX E cells slots pc lo (w :: .ref a :: st) M := x_putf q 4 C wu_X3 wcl_X3 (by decide) tyX3 tyX3_ok nmX3 hl (Or.inl rfl) hM hn hf (by simp) hd hq kk
theorem xg_X4_settings (q : Nat) (C : hCx E K cc n own nm R) {idx a t : Nat} {v0 v1 v2 : Value} (hl : hFl own idx TX4 0) (hM : M a = some (t, eO 4 [v0, v1, v2])) (hd : decode cc pc = .ok (.getfield idx, 3)) (hq : pc + 3 = q) (kk : hX E cells slots q lo (v0 :: st) M) : hX E cells slots pc lo (.ref a :: st) M := x_getf q 0 C wu_X4 wcl_X4 (by decide) hl hM rfl hd hq kk
theorem xp_X4_settings (q : Nat) (C : hCx E K cc n own nm R) {idx a t : Nat} {v0 v1 v2 w : Value} (hl : hFl own idx TX4 0) (hnm : nm = "<init>") (howd : (TX4 0).1 = own) (hlw : Cond.fieldLink own idx (TX4 0).1 (TX4 0).2.1 (TX4 0).2.2.1 ∈ WA) (hM : M a = some (t, eO 4 [v0, v1, v2])) (hn : narrow (tyX4 0) w = w) (hf : fits (tyX4 0) w = true) (hd : decode cc pc = .ok (.putfield idx, 3)) (hq : pc + 3 = q) (kk : hX E cells slots q lo st (hU M a t (eO 4 [w, v1, v2]))) : hX E cells slots pc lo (w :: .ref a :: st) M := x_putf q 0 C wu_X4 wcl_X4 (by decide) tyX4 tyX4_ok nmX4 hl (Or.inr ⟨rfl, hnm, howd, hlw⟩) hM hn hf (by simp) hd hq kk
theorem xg_X4_cells (q : Nat) (C : hCx E K cc n own nm R) {idx a t : Nat} {v0 v1 v2 : Value} (hl : hFl own idx TX4 1) (hM : M a = some (t, eO 4 [v0, v1, v2])) (hd : decode cc pc = .ok (.getfield idx, 3)) (hq : pc + 3 = q) (kk : hX E cells slots q lo (v1 :: st) M) : hX E cells slots pc lo (.ref a :: st) M := x_getf q 1 C wu_X4 wcl_X4 (by decide) hl hM rfl hd hq kk
theorem xp_X4_cells (q : Nat) (C : hCx E K cc n own nm R) {idx a t : Nat} {v0 v1 v2 w : Value} (hl : hFl own idx TX4 1) (hnm : nm = "<init>") (howd : (TX4 1).1 = own) (hlw : Cond.fieldLink own idx (TX4 1).1 (TX4 1).2.1 (TX4 1).2.2.1 ∈ WA) (hM : M a = some (t, eO 4 [v0, v1, v2])) (hn : narrow (tyX4 1) w = w) (hf : fits (tyX4 1) w = true) (hd : decode cc pc = .ok (.putfield idx, 3)) (hq : pc + 3 = q) (kk : hX E cells slots q lo st (hU M a t (eO 4 [v0, w, v2]))) : hX E cells slots pc lo (w :: .ref a :: st) M := x_putf q 1 C wu_X4 wcl_X4 (by decide) tyX4 tyX4_ok nmX4 hl (Or.inr ⟨rfl, hnm, howd, hlw⟩) hM hn hf (by simp) hd hq kk
theorem xg_X4_formulas (q : Nat) (C : hCx E K cc n own nm R) {idx a t : Nat} {v0 v1 v2 : Value} (hl : hFl own idx TX4 2) (hM : M a = some (t, eO 4 [v0, v1, v2])) (hd : decode cc pc = .ok (.getfield idx, 3)) (hq : pc + 3 = q) (kk : hX E cells slots q lo (v2 :: st) M) : hX E cells slots pc lo (.ref a :: st) M := x_getf q 2 C wu_X4 wcl_X4 (by decide) hl hM rfl hd hq kk
theorem xp_X4_formulas (q : Nat) (C : hCx E K cc n own nm R) {idx a t : Nat} {v0 v1 v2 w : Value} (hl : hFl own idx TX4 2) (hnm : nm = "<init>") (howd : (TX4 2).1 = own) (hlw : Cond.fieldLink own idx (TX4 2).1 (TX4 2).2.1 (TX4 2).2.2.1 ∈ WA) (hM : M a = some (t, eO 4 [v0, v1, v2])) (hn : narrow (tyX4 2) w = w) (hf : fits (tyX4 2) w = true) (hd : decode cc pc = .ok (.putfield idx, 3)) (hq : pc + 3 = q) (kk : hX E cells slots q lo st (hU M a t (eO 4 [v0, v1, w]))) : hX E cells slots pc lo (w :: .ref a :: st) M := x_putf q 2 C wu_X4 wcl_X4 (by decide) tyX4 tyX4_ok nmX4 hl (Or.inr ⟨rfl, hnm, howd, hlw⟩) hM hn hf (by simp) hd hq kk
theorem xg_X5_now (q : Nat) (C : hCx E K cc n own nm R) {idx a t : Nat} {v0 v1 v2 v3 v4 v5 v6 v7 v8 v9 : Value} (hl : hFl own idx TX5 0) (hM : M a = some (t, eO 5 [v0, v1, v2, v3, v4, v5, v6, v7, v8, v9])) (hd : decode cc pc = .ok (.getfield idx, 3)) (hq : pc + 3 = q) (kk : hX E cells slots q lo (v0 :: st) M) : hX E cells slots pc lo (.ref a :: st) M := x_getf q 0 C wu_X5 wcl_X5 (by decide) hl hM rfl hd hq kk
theorem xp_X5_now (q : Nat) (C : hCx E K cc n own nm R) {idx a t : Nat} {v0 v1 v2 v3 v4 v5 v6 v7 v8 v9 w : Value} (hl : hFl own idx TX5 0) (hnm : nm = "<init>") (howd : (TX5 0).1 = own) (hlw : Cond.fieldLink own idx (TX5 0).1 (TX5 0).2.1 (TX5 0).2.2.1 ∈ WA) (hM : M a = some (t, eO 5 [v0, v1, v2, v3, v4, v5, v6, v7, v8, v9])) (hn : narrow (tyX5 0) w = w) (hf : fits (tyX5 0) w = true) (hd : decode cc pc = .ok (.putfield idx, 3)) (hq : pc + 3 = q) (kk : hX E cells slots q lo st (hU M a t (eO 5 [w, v1, v2, v3, v4, v5, v6, v7, v8, v9]))) : hX E cells slots pc lo (w :: .ref a :: st) M := x_putf q 0 C wu_X5 wcl_X5 (by decide) tyX5 tyX5_ok nmX5 hl (Or.inr ⟨rfl, hnm, howd, hlw⟩) hM hn hf (by simp) hd hq kk
theorem xg_X5_history (q : Nat) (C : hCx E K cc n own nm R) {idx a t : Nat} {v0 v1 v2 v3 v4 v5 v6 v7 v8 v9 : Value} (hl : hFl own idx TX5 1) (hM : M a = some (t, eO 5 [v0, v1, v2, v3, v4, v5, v6, v7, v8, v9])) (hd : decode cc pc = .ok (.getfield idx, 3)) (hq : pc + 3 = q) (kk : hX E cells slots q lo (v1 :: st) M) : hX E cells slots pc lo (.ref a :: st) M := x_getf q 1 C wu_X5 wcl_X5 (by decide) hl hM rfl hd hq kk
theorem xp_X5_history (q : Nat) (C : hCx E K cc n own nm R) {idx a t : Nat} {v0 v1 v2 v3 v4 v5 v6 v7 v8 v9 w : Value} (hl : hFl own idx TX5 1) (hnm : nm = "<init>") (howd : (TX5 1).1 = own) (hlw : Cond.fieldLink own idx (TX5 1).1 (TX5 1).2.1 (TX5 1).2.2.1 ∈ WA) (hM : M a = some (t, eO 5 [v0, v1, v2, v3, v4, v5, v6, v7, v8, v9])) (hn : narrow (tyX5 1) w = w) (hf : fits (tyX5 1) w = true) (hd : decode cc pc = .ok (.putfield idx, 3)) (hq : pc + 3 = q) (kk : hX E cells slots q lo st (hU M a t (eO 5 [v0, w, v2, v3, v4, v5, v6, v7, v8, v9]))) : hX E cells slots pc lo (w :: .ref a :: st) M := x_putf q 1 C wu_X5 wcl_X5 (by decide) tyX5 tyX5_ok nmX5 hl (Or.inr ⟨rfl, hnm, howd, hlw⟩) hM hn hf (by simp) hd hq kk
theorem xg_X5_slots (q : Nat) (C : hCx E K cc n own nm R) {idx a t : Nat} {v0 v1 v2 v3 v4 v5 v6 v7 v8 v9 : Value} (hl : hFl own idx TX5 2) (hM : M a = some (t, eO 5 [v0, v1, v2, v3, v4, v5, v6, v7, v8, v9])) (hd : decode cc pc = .ok (.getfield idx, 3)) (hq : pc + 3 = q) (kk : hX E cells slots q lo (v2 :: st) M) : hX E cells slots pc lo (.ref a :: st) M := x_getf q 2 C wu_X5 wcl_X5 (by decide) hl hM rfl hd hq kk
theorem xp_X5_slots (q : Nat) (C : hCx E K cc n own nm R) {idx a t : Nat} {v0 v1 v2 v3 v4 v5 v6 v7 v8 v9 w : Value} (hl : hFl own idx TX5 2) (hnm : nm = "<init>") (howd : (TX5 2).1 = own) (hlw : Cond.fieldLink own idx (TX5 2).1 (TX5 2).2.1 (TX5 2).2.2.1 ∈ WA) (hM : M a = some (t, eO 5 [v0, v1, v2, v3, v4, v5, v6, v7, v8, v9])) (hn : narrow (tyX5 2) w = w) (hf : fits (tyX5 2) w = true) (hd : decode cc pc = .ok (.putfield idx, 3)) (hq : pc + 3 = q) (kk : hX E cells slots q lo st (hU M a t (eO 5 [v0, v1, w, v3, v4, v5, v6, v7, v8, v9]))) : hX E cells slots pc lo (w :: .ref a :: st) M := x_putf q 2 C wu_X5 wcl_X5 (by decide) tyX5 tyX5_ok nmX5 hl (Or.inr ⟨rfl, hnm, howd, hlw⟩) hM hn hf (by simp) hd hq kk
theorem xg_X5_pad (q : Nat) (C : hCx E K cc n own nm R) {idx a t : Nat} {v0 v1 v2 v3 v4 v5 v6 v7 v8 v9 : Value} (hl : hFl own idx TX5 3) (hM : M a = some (t, eO 5 [v0, v1, v2, v3, v4, v5, v6, v7, v8, v9])) (hd : decode cc pc = .ok (.getfield idx, 3)) (hq : pc + 3 = q) (kk : hX E cells slots q lo (v3 :: st) M) : hX E cells slots pc lo (.ref a :: st) M := x_getf q 3 C wu_X5 wcl_X5 (by decide) hl hM rfl hd hq kk
theorem xp_X5_pad (q : Nat) (C : hCx E K cc n own nm R) {idx a t : Nat} {v0 v1 v2 v3 v4 v5 v6 v7 v8 v9 w : Value} (hl : hFl own idx TX5 3) (hnm : nm = "<init>") (howd : (TX5 3).1 = own) (hlw : Cond.fieldLink own idx (TX5 3).1 (TX5 3).2.1 (TX5 3).2.2.1 ∈ WA) (hM : M a = some (t, eO 5 [v0, v1, v2, v3, v4, v5, v6, v7, v8, v9])) (hn : narrow (tyX5 3) w = w) (hf : fits (tyX5 3) w = true) (hd : decode cc pc = .ok (.putfield idx, 3)) (hq : pc + 3 = q) (kk : hX E cells slots q lo st (hU M a t (eO 5 [v0, v1, v2, w, v4, v5, v6, v7, v8, v9]))) : hX E cells slots pc lo (w :: .ref a :: st) M := x_putf q 3 C wu_X5 wcl_X5 (by decide) tyX5 tyX5_ok nmX5 hl (Or.inr ⟨rfl, hnm, howd, hlw⟩) hM hn hf (by simp) hd hq kk
theorem xg_X5_reader (q : Nat) (C : hCx E K cc n own nm R) {idx a t : Nat} {v0 v1 v2 v3 v4 v5 v6 v7 v8 v9 : Value} (hl : hFl own idx TX5 4) (hM : M a = some (t, eO 5 [v0, v1, v2, v3, v4, v5, v6, v7, v8, v9])) (hd : decode cc pc = .ok (.getfield idx, 3)) (hq : pc + 3 = q) (kk : hX E cells slots q lo (v4 :: st) M) : hX E cells slots pc lo (.ref a :: st) M := x_getf q 4 C wu_X5 wcl_X5 (by decide) hl hM rfl hd hq kk
theorem xp_X5_reader (q : Nat) (C : hCx E K cc n own nm R) {idx a t : Nat} {v0 v1 v2 v3 v4 v5 v6 v7 v8 v9 w : Value} (hl : hFl own idx TX5 4) (hnm : nm = "<init>") (howd : (TX5 4).1 = own) (hlw : Cond.fieldLink own idx (TX5 4).1 (TX5 4).2.1 (TX5 4).2.2.1 ∈ WA) (hM : M a = some (t, eO 5 [v0, v1, v2, v3, v4, v5, v6, v7, v8, v9])) (hn : narrow (tyX5 4) w = w) (hf : fits (tyX5 4) w = true) (hd : decode cc pc = .ok (.putfield idx, 3)) (hq : pc + 3 = q) (kk : hX E cells slots q lo st (hU M a t (eO 5 [v0, v1, v2, v3, w, v5, v6, v7, v8, v9]))) : hX E cells slots pc lo (w :: .ref a :: st) M := x_putf q 4 C wu_X5 wcl_X5 (by decide) tyX5 tyX5_ok nmX5 hl (Or.inr ⟨rfl, hnm, howd, hlw⟩) hM hn hf (by simp) hd hq kk
theorem xg_X5_reckoner (q : Nat) (C : hCx E K cc n own nm R) {idx a t : Nat} {v0 v1 v2 v3 v4 v5 v6 v7 v8 v9 : Value} (hl : hFl own idx TX5 5) (hM : M a = some (t, eO 5 [v0, v1, v2, v3, v4, v5, v6, v7, v8, v9])) (hd : decode cc pc = .ok (.getfield idx, 3)) (hq : pc + 3 = q) (kk : hX E cells slots q lo (v5 :: st) M) : hX E cells slots pc lo (.ref a :: st) M := x_getf q 5 C wu_X5 wcl_X5 (by decide) hl hM rfl hd hq kk
theorem xp_X5_reckoner (q : Nat) (C : hCx E K cc n own nm R) {idx a t : Nat} {v0 v1 v2 v3 v4 v5 v6 v7 v8 v9 w : Value} (hl : hFl own idx TX5 5) (hnm : nm = "<init>") (howd : (TX5 5).1 = own) (hlw : Cond.fieldLink own idx (TX5 5).1 (TX5 5).2.1 (TX5 5).2.2.1 ∈ WA) (hM : M a = some (t, eO 5 [v0, v1, v2, v3, v4, v5, v6, v7, v8, v9])) (hn : narrow (tyX5 5) w = w) (hf : fits (tyX5 5) w = true) (hd : decode cc pc = .ok (.putfield idx, 3)) (hq : pc + 3 = q) (kk : hX E cells slots q lo st (hU M a t (eO 5 [v0, v1, v2, v3, v4, w, v6, v7, v8, v9]))) : hX E cells slots pc lo (w :: .ref a :: st) M := x_putf q 5 C wu_X5 wcl_X5 (by decide) tyX5 tyX5_ok nmX5 hl (Or.inr ⟨rfl, hnm, howd, hlw⟩) hM hn hf (by simp) hd hq kk
theorem xg_X5_fraction (q : Nat) (C : hCx E K cc n own nm R) {idx a t : Nat} {v0 v1 v2 v3 v4 v5 v6 v7 v8 v9 : Value} (hl : hFl own idx TX5 6) (hM : M a = some (t, eO 5 [v0, v1, v2, v3, v4, v5, v6, v7, v8, v9])) (hd : decode cc pc = .ok (.getfield idx, 3)) (hq : pc + 3 = q) (kk : hX E cells slots q lo (v6 :: st) M) : hX E cells slots pc lo (.ref a :: st) M := x_getf q 6 C wu_X5 wcl_X5 (by decide) hl hM rfl hd hq kk
theorem xp_X5_fraction (q : Nat) (C : hCx E K cc n own nm R) {idx a t : Nat} {v0 v1 v2 v3 v4 v5 v6 v7 v8 v9 w : Value} (hl : hFl own idx TX5 6) (hnm : nm = "<init>") (howd : (TX5 6).1 = own) (hlw : Cond.fieldLink own idx (TX5 6).1 (TX5 6).2.1 (TX5 6).2.2.1 ∈ WA) (hM : M a = some (t, eO 5 [v0, v1, v2, v3, v4, v5, v6, v7, v8, v9])) (hn : narrow (tyX5 6) w = w) (hf : fits (tyX5 6) w = true) (hd : decode cc pc = .ok (.putfield idx, 3)) (hq : pc + 3 = q) (kk : hX E cells slots q lo st (hU M a t (eO 5 [v0, v1, v2, v3, v4, v5, w, v7, v8, v9]))) : hX E cells slots pc lo (w :: .ref a :: st) M := x_putf q 6 C wu_X5 wcl_X5 (by decide) tyX5 tyX5_ok nmX5 hl (Or.inr ⟨rfl, hnm, howd, hlw⟩) hM hn hf (by simp) hd hq kk
theorem xg_X5_padLength (q : Nat) (C : hCx E K cc n own nm R) {idx a t : Nat} {v0 v1 v2 v3 v4 v5 v6 v7 v8 v9 : Value} (hl : hFl own idx TX5 7) (hM : M a = some (t, eO 5 [v0, v1, v2, v3, v4, v5, v6, v7, v8, v9])) (hd : decode cc pc = .ok (.getfield idx, 3)) (hq : pc + 3 = q) (kk : hX E cells slots q lo (v7 :: st) M) : hX E cells slots pc lo (.ref a :: st) M := x_getf q 7 C wu_X5 wcl_X5 (by decide) hl hM rfl hd hq kk
theorem xp_X5_padLength (q : Nat) (C : hCx E K cc n own nm R) {idx a t : Nat} {v0 v1 v2 v3 v4 v5 v6 v7 v8 v9 w : Value} (hl : hFl own idx TX5 7) (hM : M a = some (t, eO 5 [v0, v1, v2, v3, v4, v5, v6, v7, v8, v9])) (hn : narrow (tyX5 7) w = w) (hf : fits (tyX5 7) w = true) (hd : decode cc pc = .ok (.putfield idx, 3)) (hq : pc + 3 = q) (kk : hX E cells slots q lo st (hU M a t (eO 5 [v0, v1, v2, v3, v4, v5, v6, w, v8, v9]))) : hX E cells slots pc lo (w :: .ref a :: st) M := x_putf q 7 C wu_X5 wcl_X5 (by decide) tyX5 tyX5_ok nmX5 hl (Or.inl rfl) hM hn hf (by simp) hd hq kk
theorem xg_X5_oldest (q : Nat) (C : hCx E K cc n own nm R) {idx a t : Nat} {v0 v1 v2 v3 v4 v5 v6 v7 v8 v9 : Value} (hl : hFl own idx TX5 8) (hM : M a = some (t, eO 5 [v0, v1, v2, v3, v4, v5, v6, v7, v8, v9])) (hd : decode cc pc = .ok (.getfield idx, 3)) (hq : pc + 3 = q) (kk : hX E cells slots q lo (v8 :: st) M) : hX E cells slots pc lo (.ref a :: st) M := x_getf q 8 C wu_X5 wcl_X5 (by decide) hl hM rfl hd hq kk
theorem xp_X5_oldest (q : Nat) (C : hCx E K cc n own nm R) {idx a t : Nat} {v0 v1 v2 v3 v4 v5 v6 v7 v8 v9 w : Value} (hl : hFl own idx TX5 8) (hM : M a = some (t, eO 5 [v0, v1, v2, v3, v4, v5, v6, v7, v8, v9])) (hn : narrow (tyX5 8) w = w) (hf : fits (tyX5 8) w = true) (hd : decode cc pc = .ok (.putfield idx, 3)) (hq : pc + 3 = q) (kk : hX E cells slots q lo st (hU M a t (eO 5 [v0, v1, v2, v3, v4, v5, v6, v7, w, v9]))) : hX E cells slots pc lo (w :: .ref a :: st) M := x_putf q 8 C wu_X5 wcl_X5 (by decide) tyX5 tyX5_ok nmX5 hl (Or.inl rfl) hM hn hf (by simp) hd hq kk
theorem xg_X5_changes (q : Nat) (C : hCx E K cc n own nm R) {idx a t : Nat} {v0 v1 v2 v3 v4 v5 v6 v7 v8 v9 : Value} (hl : hFl own idx TX5 9) (hM : M a = some (t, eO 5 [v0, v1, v2, v3, v4, v5, v6, v7, v8, v9])) (hd : decode cc pc = .ok (.getfield idx, 3)) (hq : pc + 3 = q) (kk : hX E cells slots q lo (v9 :: st) M) : hX E cells slots pc lo (.ref a :: st) M := x_getf q 9 C wu_X5 wcl_X5 (by decide) hl hM rfl hd hq kk
theorem xp_X5_changes (q : Nat) (C : hCx E K cc n own nm R) {idx a t : Nat} {v0 v1 v2 v3 v4 v5 v6 v7 v8 v9 w : Value} (hl : hFl own idx TX5 9) (hM : M a = some (t, eO 5 [v0, v1, v2, v3, v4, v5, v6, v7, v8, v9])) (hn : narrow (tyX5 9) w = w) (hf : fits (tyX5 9) w = true) (hd : decode cc pc = .ok (.putfield idx, 3)) (hq : pc + 3 = q) (kk : hX E cells slots q lo st (hU M a t (eO 5 [v0, v1, v2, v3, v4, v5, v6, v7, v8, w]))) : hX E cells slots pc lo (w :: .ref a :: st) M := x_putf q 9 C wu_X5 wcl_X5 (by decide) tyX5 tyX5_ok nmX5 hl (Or.inl rfl) hM hn hf (by simp) hd hq kk
end Rows3
