abbrev Y_X0_init : hYd := (yX0_init, cX0_init, 4, none)
theorem hy_X0_init : hYf Y_X0_init 2 := ⟨wc_X0_init, wi_X0, by decide +kernel, by decide +kernel, by decide +kernel⟩
abbrev Y_X0_cellsNamed : hYd := (yX0_cellsNamed, cX0_cellsNamed, 4, some .int)
theorem hy_X0_cellsNamed : hYf Y_X0_cellsNamed 0 := ⟨wc_X0_cellsNamed, wi_X0, by decide +kernel, by decide +kernel, by decide +kernel⟩
abbrev Y_X0_rootsInside : hYd := (yX0_rootsInside, cX0_rootsInside, 3, some .int)
theorem hy_X0_rootsInside : hYf Y_X0_rootsInside 0 := ⟨wc_X0_rootsInside, wi_X0, by decide +kernel, by decide +kernel, by decide +kernel⟩
abbrev Y_X1_init : hYd := (yX1_init, cX1_init, 1, none)
theorem hy_X1_init : hYf Y_X1_init 0 := ⟨wc_X1_init, wi_X1, by decide +kernel, by decide +kernel, by decide +kernel⟩
abbrev Y_X1_start : hYd := (yX1_start, cX1_start, 2, none)
theorem hy_X1_start : hYf Y_X1_start 1 := ⟨wc_X1_start, wi_X1, by decide +kernel, by decide +kernel, by decide +kernel⟩
abbrev Y_X1_goesOn : hYd := (yX1_goesOn, cX1_goesOn, 1, some .boolean)
theorem hy_X1_goesOn : hYf Y_X1_goesOn 0 := ⟨wc_X1_goesOn, wi_X1, by decide +kernel, by decide +kernel, by decide +kernel⟩
abbrev Y_X1_extend : hYd := (yX1_extend, cX1_extend, 5, none)
theorem hy_X1_extend : hYf Y_X1_extend 0 := ⟨wc_X1_extend, wi_X1, by decide +kernel, by decide +kernel, by decide +kernel⟩
abbrev Y_X2_init : hYd := (yX2_init, cX2_init, 1, none)
theorem hy_X2_init : hYf Y_X2_init 0 := ⟨wc_X2_init, wi_X2, by decide +kernel, by decide +kernel, by decide +kernel⟩
abbrev Y_X2_faultOf : hYd := (yX2_faultOf, cX2_faultOf, 4, some .int)
theorem hy_X2_faultOf : hYf Y_X2_faultOf 2 := ⟨wc_X2_faultOf, wi_X2, by decide +kernel, by decide +kernel, by decide +kernel⟩
abbrev Y_X2_takes : hYd := (yX2_takes, cX2_takes, 2, some .boolean)
theorem hy_X2_takes : hYf Y_X2_takes 1 := ⟨wc_X2_takes, wi_X2, by decide +kernel, by decide +kernel, by decide +kernel⟩
abbrev Y_X2_takesFactor : hYd := (yX2_takesFactor, cX2_takesFactor, 2, some .boolean)
theorem hy_X2_takesFactor : hYf Y_X2_takesFactor 1 := ⟨wc_X2_takesFactor, wi_X2, by decide +kernel, by decide +kernel, by decide +kernel⟩
abbrev Y_X2_takesDigit : hYd := (yX2_takesDigit, cX2_takesDigit, 4, some .boolean)
theorem hy_X2_takesDigit : hYf Y_X2_takesDigit 1 := ⟨wc_X2_takesDigit, wi_X2, by decide +kernel, by decide +kernel, by decide +kernel⟩
abbrev Y_X2_takesBehind : hYd := (yX2_takesBehind, cX2_takesBehind, 3, some .boolean)
theorem hy_X2_takesBehind : hYf Y_X2_takesBehind 1 := ⟨wc_X2_takesBehind, wi_X2, by decide +kernel, by decide +kernel, by decide +kernel⟩
abbrev Y_X2_closeBracket : hYd := (yX2_closeBracket, cX2_closeBracket, 2, none)
theorem hy_X2_closeBracket : hYf Y_X2_closeBracket 0 := ⟨wc_X2_closeBracket, wi_X2, by decide +kernel, by decide +kernel, by decide +kernel⟩
abbrev Y_X2_release : hYd := (yX2_release, cX2_release, 2, none)
theorem hy_X2_release : hYf Y_X2_release 1 := ⟨wc_X2_release, wi_X2, by decide +kernel, by decide +kernel, by decide +kernel⟩
abbrev Y_X2_strengthOf : hYd := (yX2_strengthOf, cX2_strengthOf, 1, some .int)
theorem hy_X2_strengthOf : hYf Y_X2_strengthOf 1 := ⟨wc_X2_strengthOf, wi_X2, by decide +kernel, by decide +kernel, by decide +kernel⟩
abbrev Y_X2_isDigit : hYd := (yX2_isDigit, cX2_isDigit, 1, some .boolean)
theorem hy_X2_isDigit : hYf Y_X2_isDigit 1 := ⟨wc_X2_isDigit, wi_X2, by decide +kernel, by decide +kernel, by decide +kernel⟩
abbrev Y_X2_addStep : hYd := (yX2_addStep, cX2_addStep, 2, none)
theorem hy_X2_addStep : hYf Y_X2_addStep 1 := ⟨wc_X2_addStep, wi_X2, by decide +kernel, by decide +kernel, by decide +kernel⟩
abbrev Y_X2_push : hYd := (yX2_push, cX2_push, 2, none)
theorem hy_X2_push : hYf Y_X2_push 1 := ⟨wc_X2_push, wi_X2, by decide +kernel, by decide +kernel, by decide +kernel⟩
abbrev Y_X2_top : hYd := (yX2_top, cX2_top, 2, some .char)
theorem hy_X2_top : hYf Y_X2_top 0 := ⟨wc_X2_top, wi_X2, by decide +kernel, by decide +kernel, by decide +kernel⟩
abbrev Y_X3_init : hYd := (yX3_init, cX3_init, 1, none)
theorem hy_X3_init : hYf Y_X3_init 0 := ⟨wc_X3_init, wi_X3, by decide +kernel, by decide +kernel, by decide +kernel⟩
abbrev Y_X3_reckon : hYd := (yX3_reckon, cX3_reckon, 6, none)
theorem hy_X3_reckon : hYf Y_X3_reckon 2 := ⟨wc_X3_reckon, wi_X3, by decide +kernel, by decide +kernel, by decide +kernel⟩
abbrev Y_X3_numberOf : hYd := (yX3_numberOf, cX3_numberOf, 6, some .long)
theorem hy_X3_numberOf : hYf Y_X3_numberOf 2 := ⟨wc_X3_numberOf, wi_X3, by decide +kernel, by decide +kernel, by decide +kernel⟩
abbrev Y_X3_product : hYd := (yX3_product, cX3_product, 4, some .long)
theorem hy_X3_product : hYf Y_X3_product 2 := ⟨wc_X3_product, wi_X3, by decide +kernel, by decide +kernel, by decide +kernel⟩
abbrev Y_X3_result : hYd := (yX3_result, cX3_result, 1, some .long)
theorem hy_X3_result : hYf Y_X3_result 0 := ⟨wc_X3_result, wi_X3, by decide +kernel, by decide +kernel, by decide +kernel⟩
abbrev Y_X3_valueOf : hYd := (yX3_valueOf, cX3_valueOf, 2, some .long)
theorem hy_X3_valueOf : hYf Y_X3_valueOf 1 := ⟨wc_X3_valueOf, wi_X3, by decide +kernel, by decide +kernel, by decide +kernel⟩
abbrev Y_X3_push : hYd := (yX3_push, cX3_push, 3, none)
theorem hy_X3_push : hYf Y_X3_push 1 := ⟨wc_X3_push, wi_X3, by decide +kernel, by decide +kernel, by decide +kernel⟩
abbrev Y_X3_pop : hYd := (yX3_pop, cX3_pop, 1, some .long)
theorem hy_X3_pop : hYf Y_X3_pop 0 := ⟨wc_X3_pop, wi_X3, by decide +kernel, by decide +kernel, by decide +kernel⟩
abbrev Y_X4_init : hYd := (yX4_init, cX4_init, 1, none)
theorem hy_X4_init : hYf Y_X4_init 0 := ⟨wc_X4_init, wi_X4, by decide +kernel, by decide +kernel, by decide +kernel⟩
abbrev Y_X4_become : hYd := (yX4_become, cX4_become, 3, none)
theorem hy_X4_become : hYf Y_X4_become 1 := ⟨wc_X4_become, wi_X4, by decide +kernel, by decide +kernel, by decide +kernel⟩
abbrev Y_X4_setting : hYd := (yX4_setting, cX4_setting, 2, some .int)
theorem hy_X4_setting : hYf Y_X4_setting 1 := ⟨wc_X4_setting, wi_X4, by decide +kernel, by decide +kernel, by decide +kernel⟩
abbrev Y_X4_changeSetting : hYd := (yX4_changeSetting, cX4_changeSetting, 3, none)
theorem hy_X4_changeSetting : hYf Y_X4_changeSetting 2 := ⟨wc_X4_changeSetting, wi_X4, by decide +kernel, by decide +kernel, by decide +kernel⟩
abbrev Y_X4_cellValue : hYd := (yX4_cellValue, cX4_cellValue, 2, some .long)
theorem hy_X4_cellValue : hYf Y_X4_cellValue 1 := ⟨wc_X4_cellValue, wi_X4, by decide +kernel, by decide +kernel, by decide +kernel⟩
abbrev Y_X4_changeCell : hYd := (yX4_changeCell, cX4_changeCell, 4, none)
theorem hy_X4_changeCell : hYf Y_X4_changeCell 2 := ⟨wc_X4_changeCell, wi_X4, by decide +kernel, by decide +kernel, by decide +kernel⟩
abbrev Y_X4_formula : hYd := (yX4_formula, cX4_formula, 2, some (.object "RootRows$Formula"))
theorem hy_X4_formula : hYf Y_X4_formula 1 := ⟨wc_X4_formula, wi_X4, by decide +kernel, by decide +kernel, by decide +kernel⟩
abbrev Y_X4_changeFormula : hYd := (yX4_changeFormula, cX4_changeFormula, 3, none)
theorem hy_X4_changeFormula : hYf Y_X4_changeFormula 2 := ⟨wc_X4_changeFormula, wi_X4, by decide +kernel, by decide +kernel, by decide +kernel⟩
abbrev Y_X4_formulasThere : hYd := (yX4_formulasThere, cX4_formulasThere, 3, some .int)
theorem hy_X4_formulasThere : hYf Y_X4_formulasThere 0 := ⟨wc_X4_formulasThere, wi_X4, by decide +kernel, by decide +kernel, by decide +kernel⟩
abbrev Y_X4_cellsNotZero : hYd := (yX4_cellsNotZero, cX4_cellsNotZero, 3, some .int)
theorem hy_X4_cellsNotZero : hYf Y_X4_cellsNotZero 0 := ⟨wc_X4_cellsNotZero, wi_X4, by decide +kernel, by decide +kernel, by decide +kernel⟩
abbrev Y_X5_init : hYd := (yX5_init, cX5_init, 2, none)
theorem hy_X5_init : hYf Y_X5_init 0 := ⟨wc_X5_init, wi_X5, by decide +kernel, by decide +kernel, by decide +kernel⟩
abbrev Y_X5_set : hYd := (yX5_set, cX5_set, 4, some .int)
theorem hy_X5_set : hYf Y_X5_set 2 := ⟨wc_X5_set, wi_X5, by decide +kernel, by decide +kernel, by decide +kernel⟩
abbrev Y_X5_setCell : hYd := (yX5_setCell, cX5_setCell, 6, some .long)
theorem hy_X5_setCell : hYf Y_X5_setCell 2 := ⟨wc_X5_setCell, wi_X5, by decide +kernel, by decide +kernel, by decide +kernel⟩
abbrev Y_X5_cell : hYd := (yX5_cell, cX5_cell, 2, some .long)
theorem hy_X5_cell : hYf Y_X5_cell 1 := ⟨wc_X5_cell, wi_X5, by decide +kernel, by decide +kernel, by decide +kernel⟩
abbrev Y_X5_put : hYd := (yX5_put, cX5_put, 5, some .int)
theorem hy_X5_put : hYf Y_X5_put 1 := ⟨wc_X5_put, wi_X5, by decide +kernel, by decide +kernel, by decide +kernel⟩
abbrev Y_X5_wipe : hYd := (yX5_wipe, cX5_wipe, 2, some .int)
theorem hy_X5_wipe : hYf Y_X5_wipe 0 := ⟨wc_X5_wipe, wi_X5, by decide +kernel, by decide +kernel, by decide +kernel⟩
abbrev Y_X5_fault : hYd := (yX5_fault, cX5_fault, 1, some .int)
theorem hy_X5_fault : hYf Y_X5_fault 0 := ⟨wc_X5_fault, wi_X5, by decide +kernel, by decide +kernel, by decide +kernel⟩
abbrev Y_X5_load : hYd := (yX5_load, cX5_load, 3, some .int)
theorem hy_X5_load : hYf Y_X5_load 1 := ⟨wc_X5_load, wi_X5, by decide +kernel, by decide +kernel, by decide +kernel⟩
abbrev Y_X5_assign : hYd := (yX5_assign, cX5_assign, 4, some .long)
theorem hy_X5_assign : hYf Y_X5_assign 2 := ⟨wc_X5_assign, wi_X5, by decide +kernel, by decide +kernel, by decide +kernel⟩
abbrev Y_X5_settle : hYd := (yX5_settle, cX5_settle, 6, some .int)
theorem hy_X5_settle : hYf Y_X5_settle 3 := ⟨wc_X5_settle, wi_X5, by decide +kernel, by decide +kernel, by decide +kernel⟩
abbrev Y_X5_value : hYd := (yX5_value, cX5_value, 3, some .long)
theorem hy_X5_value : hYf Y_X5_value 1 := ⟨wc_X5_value, wi_X5, by decide +kernel, by decide +kernel, by decide +kernel⟩
abbrev Y_X5_ofFormula : hYd := (yX5_ofFormula, cX5_ofFormula, 4, some .int)
theorem hy_X5_ofFormula : hYf Y_X5_ofFormula 2 := ⟨wc_X5_ofFormula, wi_X5, by decide +kernel, by decide +kernel, by decide +kernel⟩
abbrev Y_X5_stepValue : hYd := (yX5_stepValue, cX5_stepValue, 4, some .long)
theorem hy_X5_stepValue : hYf Y_X5_stepValue 2 := ⟨wc_X5_stepValue, wi_X5, by decide +kernel, by decide +kernel, by decide +kernel⟩
abbrev Y_X5_count : hYd := (yX5_count, cX5_count, 2, some .int)
theorem hy_X5_count : hYf Y_X5_count 1 := ⟨wc_X5_count, wi_X5, by decide +kernel, by decide +kernel, by decide +kernel⟩
abbrev Y_X5_root : hYd := (yX5_root, cX5_root, 4, some .int)
theorem hy_X5_root : hYf Y_X5_root 2 := ⟨wc_X5_root, wi_X5, by decide +kernel, by decide +kernel, by decide +kernel⟩
abbrev Y_X5_remainder : hYd := (yX5_remainder, cX5_remainder, 4, some .long)
theorem hy_X5_remainder : hYf Y_X5_remainder 2 := ⟨wc_X5_remainder, wi_X5, by decide +kernel, by decide +kernel, by decide +kernel⟩
abbrev Y_X5_bit : hYd := (yX5_bit, cX5_bit, 6, some .long)
theorem hy_X5_bit : hYf Y_X5_bit 4 := ⟨wc_X5_bit, wi_X5, by decide +kernel, by decide +kernel, by decide +kernel⟩
abbrev Y_X5_digits : hYd := (yX5_digits, cX5_digits, 5, some .int)
theorem hy_X5_digits : hYf Y_X5_digits 1 := ⟨wc_X5_digits, wi_X5, by decide +kernel, by decide +kernel, by decide +kernel⟩
abbrev Y_X5_compare : hYd := (yX5_compare, cX5_compare, 6, some .int)
theorem hy_X5_compare : hYf Y_X5_compare 4 := ⟨wc_X5_compare, wi_X5, by decide +kernel, by decide +kernel, by decide +kernel⟩
abbrev Y_X5_period : hYd := (yX5_period, cX5_period, 3, some .int)
theorem hy_X5_period : hYf Y_X5_period 1 := ⟨wc_X5_period, wi_X5, by decide +kernel, by decide +kernel, by decide +kernel⟩
abbrev Y_X5_term : hYd := (yX5_term, cX5_term, 4, some .int)
theorem hy_X5_term : hYf Y_X5_term 2 := ⟨wc_X5_term, wi_X5, by decide +kernel, by decide +kernel, by decide +kernel⟩
abbrev Y_X5_convergent : hYd := (yX5_convergent, cX5_convergent, 5, some .long)
theorem hy_X5_convergent : hYf Y_X5_convergent 3 := ⟨wc_X5_convergent, wi_X5, by decide +kernel, by decide +kernel, by decide +kernel⟩
abbrev Y_X5_twoSquares : hYd := (yX5_twoSquares, cX5_twoSquares, 6, some .int)
theorem hy_X5_twoSquares : hYf Y_X5_twoSquares 2 := ⟨wc_X5_twoSquares, wi_X5, by decide +kernel, by decide +kernel, by decide +kernel⟩
abbrev Y_X5_powers : hYd := (yX5_powers, cX5_powers, 5, some .int)
theorem hy_X5_powers : hYf Y_X5_powers 2 := ⟨wc_X5_powers, wi_X5, by decide +kernel, by decide +kernel, by decide +kernel⟩
abbrev Y_X5_rootSum : hYd := (yX5_rootSum, cX5_rootSum, 6, some .long)
theorem hy_X5_rootSum : hYf Y_X5_rootSum 1 := ⟨wc_X5_rootSum, wi_X5, by decide +kernel, by decide +kernel, by decide +kernel⟩
abbrev Y_X5_undo : hYd := (yX5_undo, cX5_undo, 1, some .int)
theorem hy_X5_undo : hYf Y_X5_undo 0 := ⟨wc_X5_undo, wi_X5, by decide +kernel, by decide +kernel, by decide +kernel⟩
abbrev Y_X5_save : hYd := (yX5_save, cX5_save, 2, some .int)
theorem hy_X5_save : hYf Y_X5_save 1 := ⟨wc_X5_save, wi_X5, by decide +kernel, by decide +kernel, by decide +kernel⟩
abbrev Y_X5_restore : hYd := (yX5_restore, cX5_restore, 3, some .int)
theorem hy_X5_restore : hYf Y_X5_restore 1 := ⟨wc_X5_restore, wi_X5, by decide +kernel, by decide +kernel, by decide +kernel⟩
abbrev Y_X5_keepState : hYd := (yX5_keepState, cX5_keepState, 2, none)
theorem hy_X5_keepState : hYf Y_X5_keepState 0 := ⟨wc_X5_keepState, wi_X5, by decide +kernel, by decide +kernel, by decide +kernel⟩
abbrev Y_X5_stateIn : hYd := (yX5_stateIn, cX5_stateIn, 2, some (.object "RootRows$State"))
theorem hy_X5_stateIn : hYf Y_X5_stateIn 2 := ⟨wc_X5_stateIn, wi_X5, by decide +kernel, by decide +kernel, by decide +kernel⟩
abbrev Y_X5_sizeOf : hYd := (yX5_sizeOf, cX5_sizeOf, 5, some .int)
theorem hy_X5_sizeOf : hYf Y_X5_sizeOf 1 := ⟨wc_X5_sizeOf, wi_X5, by decide +kernel, by decide +kernel, by decide +kernel⟩
abbrev Y_X5_addToPad : hYd := (yX5_addToPad, cX5_addToPad, 2, none)
theorem hy_X5_addToPad : hYf Y_X5_addToPad 1 := ⟨wc_X5_addToPad, wi_X5, by decide +kernel, by decide +kernel, by decide +kernel⟩
abbrev Y_X5_within : hYd := (yX5_within, cX5_within, 6, some .boolean)
theorem hy_X5_within : hYf Y_X5_within 3 := ⟨wc_X5_within, wi_X5, by decide +kernel, by decide +kernel, by decide +kernel⟩
abbrev Y_X5_comparable : hYd := (yX5_comparable, cX5_comparable, 1, some .boolean)
theorem hy_X5_comparable : hYf Y_X5_comparable 1 := ⟨wc_X5_comparable, wi_X5, by decide +kernel, by decide +kernel, by decide +kernel⟩
abbrev Y_X5_power : hYd := (yX5_power, cX5_power, 3, some .long)
theorem hy_X5_power : hYf Y_X5_power 2 := ⟨wc_X5_power, wi_X5, by decide +kernel, by decide +kernel, by decide +kernel⟩
abbrev Y_X5_firstBit : hYd := (yX5_firstBit, cX5_firstBit, 5, some .long)
theorem hy_X5_firstBit : hYf Y_X5_firstBit 2 := ⟨wc_X5_firstBit, wi_X5, by decide +kernel, by decide +kernel, by decide +kernel⟩
abbrev Y_X5_rootDown : hYd := (yX5_rootDown, cX5_rootDown, 7, some .long)
theorem hy_X5_rootDown : hYf Y_X5_rootDown 2 := ⟨wc_X5_rootDown, wi_X5, by decide +kernel, by decide +kernel, by decide +kernel⟩
abbrev Y_X5_rootRounded : hYd := (yX5_rootRounded, cX5_rootRounded, 9, some .long)
theorem hy_X5_rootRounded : hYf Y_X5_rootRounded 3 := ⟨wc_X5_rootRounded, wi_X5, by decide +kernel, by decide +kernel, by decide +kernel⟩
abbrev Y_X5_bitsOfRoot : hYd := (yX5_bitsOfRoot, cX5_bitsOfRoot, 6, some .int)
theorem hy_X5_bitsOfRoot : hYf Y_X5_bitsOfRoot 2 := ⟨wc_X5_bitsOfRoot, wi_X5, by decide +kernel, by decide +kernel, by decide +kernel⟩
abbrev Y_X5_behindBit : hYd := (yX5_behindBit, cX5_behindBit, 11, some .long)
theorem hy_X5_behindBit : hYf Y_X5_behindBit 4 := ⟨wc_X5_behindBit, wi_X5, by decide +kernel, by decide +kernel, by decide +kernel⟩
abbrev Y_X5_signOfRoots : hYd := (yX5_signOfRoots, cX5_signOfRoots, 6, some .int)
theorem hy_X5_signOfRoots : hYf Y_X5_signOfRoots 3 := ⟨wc_X5_signOfRoots, wi_X5, by decide +kernel, by decide +kernel, by decide +kernel⟩
abbrev Y_X5_signOfRootsAgainst : hYd := (yX5_signOfRootsAgainst, cX5_signOfRootsAgainst, 8, some .int)
theorem hy_X5_signOfRootsAgainst : hYf Y_X5_signOfRootsAgainst 3 := ⟨wc_X5_signOfRootsAgainst, wi_X5, by decide +kernel, by decide +kernel, by decide +kernel⟩
abbrev Y_X5_powersBelow : hYd := (yX5_powersBelow, cX5_powersBelow, 4, some .long)
theorem hy_X5_powersBelow : hYf Y_X5_powersBelow 1 := ⟨wc_X5_powersBelow, wi_X5, by decide +kernel, by decide +kernel, by decide +kernel⟩
abbrev Y_X6_init : hYd := (yX6_init, cX6_init, 1, none)
theorem hy_X6_init : hYf Y_X6_init 0 := ⟨wc_X6_init, wi_X6, by decide +kernel, by decide +kernel, by decide +kernel⟩
abbrev Y_X6_in : hYd := (yX6_in, cX6_in, 3, some .boolean)
theorem hy_X6_in : hYf Y_X6_in 3 := ⟨wc_X6_in, wi_X6, by decide +kernel, by decide +kernel, by decide +kernel⟩
abbrev Y_X6_isValue : hYd := (yX6_isValue, cX6_isValue, 2, some .boolean)
theorem hy_X6_isValue : hYf Y_X6_isValue 1 := ⟨wc_X6_isValue, wi_X6, by decide +kernel, by decide +kernel, by decide +kernel⟩
abbrev Y_X6_record : hYd := (yX6_record, cX6_record, 2, none)
theorem hy_X6_record : hYf Y_X6_record 0 := ⟨wc_X6_record, wi_X6, by decide +kernel, by decide +kernel, by decide +kernel⟩
abbrev Y_X6_set : hYd := (yX6_set, cX6_set, 4, some .int)
theorem hy_X6_set : hYf Y_X6_set 2 := ⟨wc_X6_set, wi_X6, by decide +kernel, by decide +kernel, by decide +kernel⟩
abbrev Y_X6_setCell : hYd := (yX6_setCell, cX6_setCell, 6, some .long)
theorem hy_X6_setCell : hYf Y_X6_setCell 2 := ⟨wc_X6_setCell, wi_X6, by decide +kernel, by decide +kernel, by decide +kernel⟩
abbrev Y_X6_cell : hYd := (yX6_cell, cX6_cell, 2, some .long)
theorem hy_X6_cell : hYf Y_X6_cell 1 := ⟨wc_X6_cell, wi_X6, by decide +kernel, by decide +kernel, by decide +kernel⟩
abbrev Y_X6_put : hYd := (yX6_put, cX6_put, 7, some .int)
theorem hy_X6_put : hYf Y_X6_put 1 := ⟨wc_X6_put, wi_X6, by decide +kernel, by decide +kernel, by decide +kernel⟩
abbrev Y_X6_wipe : hYd := (yX6_wipe, cX6_wipe, 2, some .int)
theorem hy_X6_wipe : hYf Y_X6_wipe 0 := ⟨wc_X6_wipe, wi_X6, by decide +kernel, by decide +kernel, by decide +kernel⟩
abbrev Y_X6_sign : hYd := (yX6_sign, cX6_sign, 1, some .int)
theorem hy_X6_sign : hYf Y_X6_sign 0 := ⟨wc_X6_sign, wi_X6, by decide +kernel, by decide +kernel, by decide +kernel⟩
abbrev Y_X6_emit : hYd := (yX6_emit, cX6_emit, 3, none)
theorem hy_X6_emit : hYf Y_X6_emit 2 := ⟨wc_X6_emit, wi_X6, by decide +kernel, by decide +kernel, by decide +kernel⟩
abbrev Y_X6_push : hYd := (yX6_push, cX6_push, 2, none)
theorem hy_X6_push : hYf Y_X6_push 1 := ⟨wc_X6_push, wi_X6, by decide +kernel, by decide +kernel, by decide +kernel⟩
abbrev Y_X6_binds : hYd := (yX6_binds, cX6_binds, 3, some .boolean)
theorem hy_X6_binds : hYf Y_X6_binds 1 := ⟨wc_X6_binds, wi_X6, by decide +kernel, by decide +kernel, by decide +kernel⟩
abbrev Y_X6_close : hYd := (yX6_close, cX6_close, 2, none)
theorem hy_X6_close : hYf Y_X6_close 1 := ⟨wc_X6_close, wi_X6, by decide +kernel, by decide +kernel, by decide +kernel⟩
abbrev Y_X6_readNumber : hYd := (yX6_readNumber, cX6_readNumber, 2, none)
theorem hy_X6_readNumber : hYf Y_X6_readNumber 0 := ⟨wc_X6_readNumber, wi_X6, by decide +kernel, by decide +kernel, by decide +kernel⟩
abbrev Y_X6_readOperand : hYd := (yX6_readOperand, cX6_readOperand, 2, some .boolean)
theorem hy_X6_readOperand : hYf Y_X6_readOperand 0 := ⟨wc_X6_readOperand, wi_X6, by decide +kernel, by decide +kernel, by decide +kernel⟩
abbrev Y_X6_readOpening : hYd := (yX6_readOpening, cX6_readOpening, 2, some .boolean)
theorem hy_X6_readOpening : hYf Y_X6_readOpening 0 := ⟨wc_X6_readOpening, wi_X6, by decide +kernel, by decide +kernel, by decide +kernel⟩
abbrev Y_X6_readBehind : hYd := (yX6_readBehind, cX6_readBehind, 2, some .boolean)
theorem hy_X6_readBehind : hYf Y_X6_readBehind 0 := ⟨wc_X6_readBehind, wi_X6, by decide +kernel, by decide +kernel, by decide +kernel⟩
abbrev Y_X6_readPad : hYd := (yX6_readPad, cX6_readPad, 4, some .int)
theorem hy_X6_readPad : hYf Y_X6_readPad 0 := ⟨wc_X6_readPad, wi_X6, by decide +kernel, by decide +kernel, by decide +kernel⟩
abbrev Y_X6_fault : hYd := (yX6_fault, cX6_fault, 1, some .int)
theorem hy_X6_fault : hYf Y_X6_fault 0 := ⟨wc_X6_fault, wi_X6, by decide +kernel, by decide +kernel, by decide +kernel⟩
abbrev Y_X6_isFormula : hYd := (yX6_isFormula, cX6_isFormula, 2, some .boolean)
theorem hy_X6_isFormula : hYf Y_X6_isFormula 1 := ⟨wc_X6_isFormula, wi_X6, by decide +kernel, by decide +kernel, by decide +kernel⟩
abbrev Y_X6_load : hYd := (yX6_load, cX6_load, 3, some .int)
theorem hy_X6_load : hYf Y_X6_load 1 := ⟨wc_X6_load, wi_X6, by decide +kernel, by decide +kernel, by decide +kernel⟩
abbrev Y_X6_power : hYd := (yX6_power, cX6_power, 3, some .long)
theorem hy_X6_power : hYf Y_X6_power 2 := ⟨wc_X6_power, wi_X6, by decide +kernel, by decide +kernel, by decide +kernel⟩
abbrev Y_X6_firstBit : hYd := (yX6_firstBit, cX6_firstBit, 5, some .long)
theorem hy_X6_firstBit : hYf Y_X6_firstBit 2 := ⟨wc_X6_firstBit, wi_X6, by decide +kernel, by decide +kernel, by decide +kernel⟩
abbrev Y_X6_floorRoot : hYd := (yX6_floorRoot, cX6_floorRoot, 7, some .long)
theorem hy_X6_floorRoot : hYf Y_X6_floorRoot 2 := ⟨wc_X6_floorRoot, wi_X6, by decide +kernel, by decide +kernel, by decide +kernel⟩
abbrev Y_X6_rounded : hYd := (yX6_rounded, cX6_rounded, 10, some .long)
theorem hy_X6_rounded : hYf Y_X6_rounded 2 := ⟨wc_X6_rounded, wi_X6, by decide +kernel, by decide +kernel, by decide +kernel⟩
abbrev Y_X6_times : hYd := (yX6_times, cX6_times, 4, some .long)
theorem hy_X6_times : hYf Y_X6_times 2 := ⟨wc_X6_times, wi_X6, by decide +kernel, by decide +kernel, by decide +kernel⟩
abbrev Y_X6_reckon : hYd := (yX6_reckon, cX6_reckon, 12, some .boolean)
theorem hy_X6_reckon : hYf Y_X6_reckon 1 := ⟨wc_X6_reckon, wi_X6, by decide +kernel, by decide +kernel, by decide +kernel⟩
abbrev Y_X6_assign : hYd := (yX6_assign, cX6_assign, 3, some .long)
theorem hy_X6_assign : hYf Y_X6_assign 2 := ⟨wc_X6_assign, wi_X6, by decide +kernel, by decide +kernel, by decide +kernel⟩
abbrev Y_X6_settle : hYd := (yX6_settle, cX6_settle, 6, some .int)
theorem hy_X6_settle : hYf Y_X6_settle 3 := ⟨wc_X6_settle, wi_X6, by decide +kernel, by decide +kernel, by decide +kernel⟩
abbrev Y_X6_value : hYd := (yX6_value, cX6_value, 2, some .long)
theorem hy_X6_value : hYf Y_X6_value 1 := ⟨wc_X6_value, wi_X6, by decide +kernel, by decide +kernel, by decide +kernel⟩
abbrev Y_X6_cellsOf : hYd := (yX6_cellsOf, cX6_cellsOf, 5, some .int)
theorem hy_X6_cellsOf : hYf Y_X6_cellsOf 1 := ⟨wc_X6_cellsOf, wi_X6, by decide +kernel, by decide +kernel, by decide +kernel⟩
abbrev Y_X6_rootsOf : hYd := (yX6_rootsOf, cX6_rootsOf, 5, some .int)
theorem hy_X6_rootsOf : hYf Y_X6_rootsOf 1 := ⟨wc_X6_rootsOf, wi_X6, by decide +kernel, by decide +kernel, by decide +kernel⟩
abbrev Y_X6_ofFormula : hYd := (yX6_ofFormula, cX6_ofFormula, 3, some .int)
theorem hy_X6_ofFormula : hYf Y_X6_ofFormula 2 := ⟨wc_X6_ofFormula, wi_X6, by decide +kernel, by decide +kernel, by decide +kernel⟩
abbrev Y_X6_stepValue : hYd := (yX6_stepValue, cX6_stepValue, 3, some .long)
theorem hy_X6_stepValue : hYf Y_X6_stepValue 2 := ⟨wc_X6_stepValue, wi_X6, by decide +kernel, by decide +kernel, by decide +kernel⟩
abbrev Y_X6_formulas : hYd := (yX6_formulas, cX6_formulas, 3, some .int)
theorem hy_X6_formulas : hYf Y_X6_formulas 0 := ⟨wc_X6_formulas, wi_X6, by decide +kernel, by decide +kernel, by decide +kernel⟩
abbrev Y_X6_count : hYd := (yX6_count, cX6_count, 4, some .int)
theorem hy_X6_count : hYf Y_X6_count 1 := ⟨wc_X6_count, wi_X6, by decide +kernel, by decide +kernel, by decide +kernel⟩
abbrev Y_X6_isAsked : hYd := (yX6_isAsked, cX6_isAsked, 3, some .boolean)
theorem hy_X6_isAsked : hYf Y_X6_isAsked 2 := ⟨wc_X6_isAsked, wi_X6, by decide +kernel, by decide +kernel, by decide +kernel⟩
abbrev Y_X6_root : hYd := (yX6_root, cX6_root, 4, some .int)
theorem hy_X6_root : hYf Y_X6_root 2 := ⟨wc_X6_root, wi_X6, by decide +kernel, by decide +kernel, by decide +kernel⟩
abbrev Y_X6_remainder : hYd := (yX6_remainder, cX6_remainder, 4, some .long)
theorem hy_X6_remainder : hYf Y_X6_remainder 2 := ⟨wc_X6_remainder, wi_X6, by decide +kernel, by decide +kernel, by decide +kernel⟩
abbrev Y_X6_bit : hYd := (yX6_bit, cX6_bit, 12, some .long)
theorem hy_X6_bit : hYf Y_X6_bit 4 := ⟨wc_X6_bit, wi_X6, by decide +kernel, by decide +kernel, by decide +kernel⟩
abbrev Y_X6_digits : hYd := (yX6_digits, cX6_digits, 5, some .int)
theorem hy_X6_digits : hYf Y_X6_digits 1 := ⟨wc_X6_digits, wi_X6, by decide +kernel, by decide +kernel, by decide +kernel⟩
abbrev Y_X6_side : hYd := (yX6_side, cX6_side, 12, some .int)
theorem hy_X6_side : hYf Y_X6_side 3 := ⟨wc_X6_side, wi_X6, by decide +kernel, by decide +kernel, by decide +kernel⟩
abbrev Y_X6_compare : hYd := (yX6_compare, cX6_compare, 12, some .int)
theorem hy_X6_compare : hYf Y_X6_compare 4 := ⟨wc_X6_compare, wi_X6, by decide +kernel, by decide +kernel, by decide +kernel⟩
abbrev Y_X6_beginFraction : hYd := (yX6_beginFraction, cX6_beginFraction, 2, none)
theorem hy_X6_beginFraction : hYf Y_X6_beginFraction 1 := ⟨wc_X6_beginFraction, wi_X6, by decide +kernel, by decide +kernel, by decide +kernel⟩
abbrev Y_X6_nextTerm : hYd := (yX6_nextTerm, cX6_nextTerm, 2, none)
theorem hy_X6_nextTerm : hYf Y_X6_nextTerm 1 := ⟨wc_X6_nextTerm, wi_X6, by decide +kernel, by decide +kernel, by decide +kernel⟩
abbrev Y_X6_period : hYd := (yX6_period, cX6_period, 4, some .int)
theorem hy_X6_period : hYf Y_X6_period 1 := ⟨wc_X6_period, wi_X6, by decide +kernel, by decide +kernel, by decide +kernel⟩
abbrev Y_X6_term : hYd := (yX6_term, cX6_term, 4, some .int)
theorem hy_X6_term : hYf Y_X6_term 2 := ⟨wc_X6_term, wi_X6, by decide +kernel, by decide +kernel, by decide +kernel⟩
abbrev Y_X6_convergent : hYd := (yX6_convergent, cX6_convergent, 17, some .long)
theorem hy_X6_convergent : hYf Y_X6_convergent 3 := ⟨wc_X6_convergent, wi_X6, by decide +kernel, by decide +kernel, by decide +kernel⟩
abbrev Y_X6_twoSquares : hYd := (yX6_twoSquares, cX6_twoSquares, 8, some .int)
theorem hy_X6_twoSquares : hYf Y_X6_twoSquares 2 := ⟨wc_X6_twoSquares, wi_X6, by decide +kernel, by decide +kernel, by decide +kernel⟩
abbrev Y_X6_powersTo : hYd := (yX6_powersTo, cX6_powersTo, 2, some .long)
theorem hy_X6_powersTo : hYf Y_X6_powersTo 1 := ⟨wc_X6_powersTo, wi_X6, by decide +kernel, by decide +kernel, by decide +kernel⟩
abbrev Y_X6_powers : hYd := (yX6_powers, cX6_powers, 5, some .int)
theorem hy_X6_powers : hYf Y_X6_powers 2 := ⟨wc_X6_powers, wi_X6, by decide +kernel, by decide +kernel, by decide +kernel⟩
abbrev Y_X6_rootSum : hYd := (yX6_rootSum, cX6_rootSum, 8, some .long)
theorem hy_X6_rootSum : hYf Y_X6_rootSum 1 := ⟨wc_X6_rootSum, wi_X6, by decide +kernel, by decide +kernel, by decide +kernel⟩
abbrev Y_X6_undo : hYd := (yX6_undo, cX6_undo, 2, some .int)
theorem hy_X6_undo : hYf Y_X6_undo 0 := ⟨wc_X6_undo, wi_X6, by decide +kernel, by decide +kernel, by decide +kernel⟩
abbrev Y_X6_save : hYd := (yX6_save, cX6_save, 3, some .int)
theorem hy_X6_save : hYf Y_X6_save 1 := ⟨wc_X6_save, wi_X6, by decide +kernel, by decide +kernel, by decide +kernel⟩
abbrev Y_X6_restore : hYd := (yX6_restore, cX6_restore, 3, some .int)
theorem hy_X6_restore : hYf Y_X6_restore 1 := ⟨wc_X6_restore, wi_X6, by decide +kernel, by decide +kernel, by decide +kernel⟩
abbrev Y_Long : hYd := (yLong, cLong, 4, some .int)
theorem hy_Long : hYf Y_Long 2 := ⟨wc_Long, wi_Long, by decide +kernel, by decide +kernel, by decide +kernel⟩
theorem lk_L_9 : hLk RL 9 yX5_init := Or.inl wl_L_9
theorem lk_X5_9 : hLk RX5 9 yX4_init := Or.inr wl_X5_9
theorem lk_X5_29 : hLk RX5 29 yX2_init := Or.inr wl_X5_29
theorem lk_X5_36 : hLk RX5 36 yX3_init := Or.inr wl_X5_36
theorem lk_X5_43 : hLk RX5 43 yX1_init := Or.inr wl_X5_43
theorem lk_L_13 : hLk RL 13 yX5_set := Or.inl wl_L_13
theorem lk_X5_48 : hLk RX5 48 yX5_within := Or.inl wl_X5_48
theorem lk_X5_56 : hLk RX5 56 yX5_keepState := Or.inl wl_X5_56
theorem lk_X5_234 : hLk RX5 234 yX5_stateIn := Or.inl wl_X5_234
theorem lk_X5_238 : hLk RX5 238 yX4_become := Or.inr wl_X5_238
theorem lk_X4_25 : hLk RX4 25 yX4_setting := Or.inl wl_X4_25
theorem lk_X4_29 : hLk RX4 29 yX4_cellValue := Or.inl wl_X4_29
theorem lk_X4_33 : hLk RX4 33 yX4_formula := Or.inl wl_X4_33
theorem lk_X5_59 : hLk RX5 59 yX4_setting := Or.inr wl_X5_59
theorem lk_X5_63 : hLk RX5 63 yX4_changeSetting := Or.inr wl_X5_63
theorem lk_L_20 : hLk RL 20 yX5_setCell := Or.inl wl_L_20
theorem lk_X5_75 : hLk RX5 75 yX4_cellValue := Or.inr wl_X5_75
theorem lk_X5_79 : hLk RX5 79 yX4_changeCell := Or.inr wl_X5_79
theorem lk_L_25 : hLk RL 25 yX5_cell := Or.inl wl_L_25
theorem lk_L_30 : hLk RL 30 yX5_put := Or.inl wl_L_30
theorem lk_X5_83 : hLk RX5 83 yX5_sizeOf := Or.inl wl_X5_83
theorem lk_X5_93 : hLk RX5 93 yX5_addToPad := Or.inl wl_X5_93
theorem lk_L_35 : hLk RL 35 yX5_wipe := Or.inl wl_L_35
theorem lk_L_40 : hLk RL 40 yX5_fault := Or.inl wl_L_40
theorem lk_X5_97 : hLk RX5 97 yX2_faultOf := Or.inr wl_X5_97
theorem lk_X2_32 : hLk RX2 32 yX2_takes := Or.inl wl_X2_32
theorem lk_X2_40 : hLk RX2 40 yX2_takesFactor := Or.inl wl_X2_40
theorem lk_X2_43 : hLk RX2 43 yX2_isDigit := Or.inl wl_X2_43
theorem lk_X2_52 : hLk RX2 52 yX2_addStep := Or.inl wl_X2_52
theorem lk_X2_59 : hLk RX2 59 yX5_within := Or.inr wl_X2_59
theorem lk_X2_63 : hLk RX2 63 yX2_push := Or.inl wl_X2_63
theorem lk_X2_46 : hLk RX2 46 yX2_takesDigit := Or.inl wl_X2_46
theorem lk_X2_49 : hLk RX2 49 yX2_takesBehind := Or.inl wl_X2_49
theorem lk_X2_67 : hLk RX2 67 yX2_closeBracket := Or.inl wl_X2_67
theorem lk_X2_36 : hLk RX2 36 yX2_release := Or.inl wl_X2_36
theorem lk_X2_74 : hLk RX2 74 yX2_top := Or.inl wl_X2_74
theorem lk_X2_70 : hLk RX2 70 yX2_strengthOf := Or.inl wl_X2_70
theorem lk_L_44 : hLk RL 44 yX5_load := Or.inl wl_L_44
theorem lk_X5_112 : hLk RX5 112 yX0_init := Or.inr wl_X5_112
theorem lk_X5_115 : hLk RX5 115 yX4_changeFormula := Or.inr wl_X5_115
theorem lk_L_49 : hLk RL 49 yX5_assign := Or.inl wl_L_49
theorem lk_X5_120 : hLk RX5 120 yX4_formula := Or.inr wl_X5_120
theorem lk_X5_124 : hLk RX5 124 yX3_reckon := Or.inr wl_X5_124
theorem lk_X3_34 : hLk RX3 34 yX3_numberOf := Or.inl wl_X3_34
theorem lk_X3_46 : hLk RX3 46 yX5_within := Or.inr wl_X3_46
theorem lk_X3_50 : hLk RX3 50 yX4_cellValue := Or.inr wl_X3_50
theorem lk_X3_56 : hLk RX3 56 yX3_pop := Or.inl wl_X3_56
theorem lk_X3_60 : hLk RX3 60 yX4_setting := Or.inr wl_X3_60
theorem lk_X3_64 : hLk RX3 64 yX5_rootRounded := Or.inr wl_X3_64
theorem lk_X5_167 : hLk RX5 167 yX5_rootDown := Or.inl wl_X5_167
theorem lk_X5_250 : hLk RX5 250 yX5_firstBit := Or.inl wl_X5_250
theorem lk_X5_171 : hLk RX5 171 yX5_power := Or.inl wl_X5_171
theorem lk_X3_68 : hLk RX3 68 yX3_product := Or.inl wl_X3_68
theorem lk_X3_40 : hLk RX3 40 yX3_push := Or.inl wl_X3_40
theorem lk_X5_133 : hLk RX5 133 yX3_result := Or.inr wl_X5_133
theorem lk_X3_74 : hLk RX3 74 yX3_valueOf := Or.inl wl_X3_74
theorem lk_L_54 : hLk RL 54 yX5_settle := Or.inl wl_L_54
theorem lk_L_59 : hLk RL 59 yX5_value := Or.inl wl_L_59
theorem lk_L_63 : hLk RL 63 yX5_ofFormula := Or.inl wl_L_63
theorem lk_X5_139 : hLk RX5 139 yX0_cellsNamed := Or.inr wl_X5_139
theorem lk_X0_23 : hLk RX0 23 yX5_within := Or.inr wl_X0_23
theorem lk_X5_146 : hLk RX5 146 yX0_rootsInside := Or.inr wl_X5_146
theorem lk_L_67 : hLk RL 67 yX5_stepValue := Or.inl wl_L_67
theorem lk_X5_149 : hLk RX5 149 yX3_valueOf := Or.inr wl_X5_149
theorem lk_L_71 : hLk RL 71 yX5_count := Or.inl wl_L_71
theorem lk_X5_152 : hLk RX5 152 yX4_formulasThere := Or.inr wl_X5_152
theorem lk_X5_158 : hLk RX5 158 yX4_cellsNotZero := Or.inr wl_X5_158
theorem lk_L_75 : hLk RL 75 yX5_root := Or.inl wl_L_75
theorem lk_X5_163 : hLk RX5 163 yX5_rootRounded := Or.inl wl_X5_163
theorem lk_L_80 : hLk RL 80 yX5_remainder := Or.inl wl_L_80
theorem lk_L_85 : hLk RL 85 yX5_bit := Or.inl wl_L_85
theorem lk_X5_174 : hLk RX5 174 yX5_bitsOfRoot := Or.inl wl_X5_174
theorem lk_X5_178 : hLk RX5 178 yX5_behindBit := Or.inl wl_X5_178
theorem lk_L_90 : hLk RL 90 yX5_digits := Or.inl wl_L_90
theorem lk_L_94 : hLk RL 94 yX5_compare := Or.inl wl_L_94
theorem lk_X5_184 : hLk RX5 184 yX5_comparable := Or.inl wl_X5_184
theorem lk_X5_190 : hLk RX5 190 yX5_signOfRoots := Or.inl wl_X5_190
theorem lk_X5_255 : hLk RX5 255 yX5_signOfRootsAgainst := Or.inl wl_X5_255
theorem lk_X5_258 : hLk RX5 258 yLong := Or.inl wl_X5_258
theorem lk_L_99 : hLk RL 99 yX5_period := Or.inl wl_L_99
theorem lk_X5_196 : hLk RX5 196 yX1_start := Or.inr wl_X5_196
theorem lk_X1_15 : hLk RX1 15 yX5_rootDown := Or.inr wl_X1_15
theorem lk_X5_201 : hLk RX5 201 yX1_goesOn := Or.inr wl_X5_201
theorem lk_L_103 : hLk RL 103 yX5_term := Or.inl wl_L_103
theorem lk_L_107 : hLk RL 107 yX5_convergent := Or.inl wl_L_107
theorem lk_X5_215 : hLk RX5 215 yX1_extend := Or.inr wl_X5_215
theorem lk_L_112 : hLk RL 112 yX5_twoSquares := Or.inl wl_L_112
theorem lk_L_116 : hLk RL 116 yX5_powers := Or.inl wl_L_116
theorem lk_X5_225 : hLk RX5 225 yX5_powersBelow := Or.inl wl_X5_225
theorem lk_L_121 : hLk RL 121 yX5_rootSum := Or.inl wl_L_121
theorem lk_L_125 : hLk RL 125 yX5_undo := Or.inl wl_L_125
theorem lk_L_129 : hLk RL 129 yX5_save := Or.inl wl_L_129
theorem lk_L_133 : hLk RL 133 yX5_restore := Or.inl wl_L_133
theorem lk_L_12 : hLk RL 12 yX6_init := Or.inl wl_L_12
theorem lk_L_17 : hLk RL 17 yX6_set := Or.inl wl_L_17
theorem lk_X6_57 : hLk RX6 57 yX6_in := Or.inl wl_X6_57
theorem lk_X6_61 : hLk RX6 61 yX6_record := Or.inl wl_X6_61
theorem lk_L_24 : hLk RL 24 yX6_setCell := Or.inl wl_L_24
theorem lk_X6_66 : hLk RX6 66 yX6_isValue := Or.inl wl_X6_66
theorem lk_L_29 : hLk RL 29 yX6_cell := Or.inl wl_L_29
theorem lk_L_34 : hLk RL 34 yX6_put := Or.inl wl_L_34
theorem lk_L_39 : hLk RL 39 yX6_wipe := Or.inl wl_L_39
theorem lk_L_43 : hLk RL 43 yX6_fault := Or.inl wl_L_43
theorem lk_X6_121 : hLk RX6 121 yX6_readPad := Or.inl wl_X6_121
theorem lk_X6_111 : hLk RX6 111 yX6_readOperand := Or.inl wl_X6_111
theorem lk_X6_94 : hLk RX6 94 yX6_sign := Or.inl wl_X6_94
theorem lk_X6_98 : hLk RX6 98 yX6_readNumber := Or.inl wl_X6_98
theorem lk_X6_90 : hLk RX6 90 yX6_emit := Or.inl wl_X6_90
theorem lk_X6_115 : hLk RX6 115 yX6_readOpening := Or.inl wl_X6_115
theorem lk_X6_101 : hLk RX6 101 yX6_push := Or.inl wl_X6_101
theorem lk_X6_118 : hLk RX6 118 yX6_readBehind := Or.inl wl_X6_118
theorem lk_X6_108 : hLk RX6 108 yX6_close := Or.inl wl_X6_108
theorem lk_X6_86 : hLk RX6 86 yX6_binds := Or.inl wl_X6_86
theorem lk_L_48 : hLk RL 48 yX6_load := Or.inl wl_L_48
theorem lk_L_53 : hLk RL 53 yX6_assign := Or.inl wl_L_53
theorem lk_X6_153 : hLk RX6 153 yX6_isFormula := Or.inl wl_X6_153
theorem lk_X6_156 : hLk RX6 156 yX6_reckon := Or.inl wl_X6_156
theorem lk_X6_146 : hLk RX6 146 yX6_times := Or.inl wl_X6_146
theorem lk_X6_150 : hLk RX6 150 yX6_rounded := Or.inl wl_X6_150
theorem lk_X6_133 : hLk RX6 133 yX6_floorRoot := Or.inl wl_X6_133
theorem lk_X6_130 : hLk RX6 130 yX6_firstBit := Or.inl wl_X6_130
theorem lk_X6_126 : hLk RX6 126 yX6_power := Or.inl wl_X6_126
theorem lk_L_58 : hLk RL 58 yX6_settle := Or.inl wl_L_58
theorem lk_L_62 : hLk RL 62 yX6_value := Or.inl wl_L_62
theorem lk_L_66 : hLk RL 66 yX6_ofFormula := Or.inl wl_L_66
theorem lk_X6_161 : hLk RX6 161 yX6_cellsOf := Or.inl wl_X6_161
theorem lk_X6_165 : hLk RX6 165 yX6_rootsOf := Or.inl wl_X6_165
theorem lk_L_70 : hLk RL 70 yX6_stepValue := Or.inl wl_L_70
theorem lk_L_74 : hLk RL 74 yX6_count := Or.inl wl_L_74
theorem lk_X6_168 : hLk RX6 168 yX6_formulas := Or.inl wl_X6_168
theorem lk_L_79 : hLk RL 79 yX6_root := Or.inl wl_L_79
theorem lk_X6_171 : hLk RX6 171 yX6_isAsked := Or.inl wl_X6_171
theorem lk_L_84 : hLk RL 84 yX6_remainder := Or.inl wl_L_84
theorem lk_L_89 : hLk RL 89 yX6_bit := Or.inl wl_L_89
theorem lk_L_93 : hLk RL 93 yX6_digits := Or.inl wl_L_93
theorem lk_L_98 : hLk RL 98 yX6_compare := Or.inl wl_L_98
theorem lk_X6_184 : hLk RX6 184 yX6_side := Or.inl wl_X6_184
theorem lk_L_102 : hLk RL 102 yX6_period := Or.inl wl_L_102
theorem lk_X6_201 : hLk RX6 201 yX6_beginFraction := Or.inl wl_X6_201
theorem lk_X6_204 : hLk RX6 204 yX6_nextTerm := Or.inl wl_X6_204
theorem lk_L_106 : hLk RL 106 yX6_term := Or.inl wl_L_106
theorem lk_L_111 : hLk RL 111 yX6_convergent := Or.inl wl_L_111
theorem lk_L_115 : hLk RL 115 yX6_twoSquares := Or.inl wl_L_115
theorem lk_L_120 : hLk RL 120 yX6_powers := Or.inl wl_L_120
theorem lk_X6_207 : hLk RX6 207 yX6_powersTo := Or.inl wl_X6_207
theorem lk_L_124 : hLk RL 124 yX6_rootSum := Or.inl wl_L_124
theorem lk_L_128 : hLk RL 128 yX6_undo := Or.inl wl_L_128
theorem lk_L_132 : hLk RL 132 yX6_save := Or.inl wl_L_132
theorem lk_L_136 : hLk RL 136 yX6_restore := Or.inl wl_L_136
section Rows3
variable {E : hEv} {K : hKv} {cc : ByteArray} {n : Nat} {own nm : String} {R : Room} {cells slots pc : Nat} {lo : List (Option Value)} {st : List Value} {M : hM}
theorem xg_X0_steps (q : Nat) (C : hCx E K cc n own nm R) {idx a t : Nat} {v0 : Value} (hl : hFl own idx TX0 0) (hM : M a = some (t, eO 0 [v0])) (hd : decode cc pc = .ok (.getfield idx, 3)) (hq : pc + 3 = q) (kk : hX E cells slots q lo (v0 :: st) M) : hX E cells slots pc lo (.ref a :: st) M := x_getf q 0 C wu_X0 wcl_X0 (by decide) hl hM rfl hd hq kk
theorem xp_X0_steps (q : Nat) (C : hCx E K cc n own nm R) {idx a t : Nat} {v0 w : Value} (hl : hFl own idx TX0 0) (hnm : nm = "<init>") (howd : (TX0 0).1 = own) (hlw : Cond.fieldLink own idx (TX0 0).1 (TX0 0).2.1 (TX0 0).2.2.1 ∈ WA) (hM : M a = some (t, eO 0 [v0])) (hn : narrow (tyX0 0) w = w) (hf : fits (tyX0 0) w = true) (hd : decode cc pc = .ok (.putfield idx, 3)) (hq : pc + 3 = q) (kk : hX E cells slots q lo st (hU M a t (eO 0 [w]))) : hX E cells slots pc lo (w :: .ref a :: st) M := x_putf q 0 C wu_X0 wcl_X0 (by decide) tyX0 tyX0_ok nmX0 hl (Or.inr ⟨rfl, hnm, howd, hlw⟩) hM hn hf (by simp) hd hq kk
theorem xg_X1_number (q : Nat) (C : hCx E K cc n own nm R) {idx a t : Nat} {v0 v1 v2 v3 v4 v5 v6 v7 v8 : Value} (hl : hFl own idx TX1 0) (hM : M a = some (t, eO 1 [v0, v1, v2, v3, v4, v5, v6, v7, v8])) (hd : decode cc pc = .ok (.getfield idx, 3)) (hq : pc + 3 = q) (kk : hX E cells slots q lo (v0 :: st) M) : hX E cells slots pc lo (.ref a :: st) M := x_getf q 0 C wu_X1 wcl_X1 (by decide) hl hM rfl hd hq kk
theorem xp_X1_number (q : Nat) (C : hCx E K cc n own nm R) {idx a t : Nat} {v0 v1 v2 v3 v4 v5 v6 v7 v8 w : Value} (hl : hFl own idx TX1 0) (hM : M a = some (t, eO 1 [v0, v1, v2, v3, v4, v5, v6, v7, v8])) (hn : narrow (tyX1 0) w = w) (hf : fits (tyX1 0) w = true) (hd : decode cc pc = .ok (.putfield idx, 3)) (hq : pc + 3 = q) (kk : hX E cells slots q lo st (hU M a t (eO 1 [w, v1, v2, v3, v4, v5, v6, v7, v8]))) : hX E cells slots pc lo (w :: .ref a :: st) M := x_putf q 0 C wu_X1 wcl_X1 (by decide) tyX1 tyX1_ok nmX1 hl (Or.inl rfl) hM hn hf (by simp) hd hq kk
theorem xg_X1_whole (q : Nat) (C : hCx E K cc n own nm R) {idx a t : Nat} {v0 v1 v2 v3 v4 v5 v6 v7 v8 : Value} (hl : hFl own idx TX1 1) (hM : M a = some (t, eO 1 [v0, v1, v2, v3, v4, v5, v6, v7, v8])) (hd : decode cc pc = .ok (.getfield idx, 3)) (hq : pc + 3 = q) (kk : hX E cells slots q lo (v1 :: st) M) : hX E cells slots pc lo (.ref a :: st) M := x_getf q 1 C wu_X1 wcl_X1 (by decide) hl hM rfl hd hq kk
theorem xp_X1_whole (q : Nat) (C : hCx E K cc n own nm R) {idx a t : Nat} {v0 v1 v2 v3 v4 v5 v6 v7 v8 w : Value} (hl : hFl own idx TX1 1) (hM : M a = some (t, eO 1 [v0, v1, v2, v3, v4, v5, v6, v7, v8])) (hn : narrow (tyX1 1) w = w) (hf : fits (tyX1 1) w = true) (hd : decode cc pc = .ok (.putfield idx, 3)) (hq : pc + 3 = q) (kk : hX E cells slots q lo st (hU M a t (eO 1 [v0, w, v2, v3, v4, v5, v6, v7, v8]))) : hX E cells slots pc lo (w :: .ref a :: st) M := x_putf q 1 C wu_X1 wcl_X1 (by decide) tyX1 tyX1_ok nmX1 hl (Or.inl rfl) hM hn hf (by simp) hd hq kk
theorem xg_X1_addend (q : Nat) (C : hCx E K cc n own nm R) {idx a t : Nat} {v0 v1 v2 v3 v4 v5 v6 v7 v8 : Value} (hl : hFl own idx TX1 2) (hM : M a = some (t, eO 1 [v0, v1, v2, v3, v4, v5, v6, v7, v8])) (hd : decode cc pc = .ok (.getfield idx, 3)) (hq : pc + 3 = q) (kk : hX E cells slots q lo (v2 :: st) M) : hX E cells slots pc lo (.ref a :: st) M := x_getf q 2 C wu_X1 wcl_X1 (by decide) hl hM rfl hd hq kk
theorem xp_X1_addend (q : Nat) (C : hCx E K cc n own nm R) {idx a t : Nat} {v0 v1 v2 v3 v4 v5 v6 v7 v8 w : Value} (hl : hFl own idx TX1 2) (hM : M a = some (t, eO 1 [v0, v1, v2, v3, v4, v5, v6, v7, v8])) (hn : narrow (tyX1 2) w = w) (hf : fits (tyX1 2) w = true) (hd : decode cc pc = .ok (.putfield idx, 3)) (hq : pc + 3 = q) (kk : hX E cells slots q lo st (hU M a t (eO 1 [v0, v1, w, v3, v4, v5, v6, v7, v8]))) : hX E cells slots pc lo (w :: .ref a :: st) M := x_putf q 2 C wu_X1 wcl_X1 (by decide) tyX1 tyX1_ok nmX1 hl (Or.inl rfl) hM hn hf (by simp) hd hq kk
theorem xg_X1_divisor (q : Nat) (C : hCx E K cc n own nm R) {idx a t : Nat} {v0 v1 v2 v3 v4 v5 v6 v7 v8 : Value} (hl : hFl own idx TX1 3) (hM : M a = some (t, eO 1 [v0, v1, v2, v3, v4, v5, v6, v7, v8])) (hd : decode cc pc = .ok (.getfield idx, 3)) (hq : pc + 3 = q) (kk : hX E cells slots q lo (v3 :: st) M) : hX E cells slots pc lo (.ref a :: st) M := x_getf q 3 C wu_X1 wcl_X1 (by decide) hl hM rfl hd hq kk
theorem xp_X1_divisor (q : Nat) (C : hCx E K cc n own nm R) {idx a t : Nat} {v0 v1 v2 v3 v4 v5 v6 v7 v8 w : Value} (hl : hFl own idx TX1 3) (hM : M a = some (t, eO 1 [v0, v1, v2, v3, v4, v5, v6, v7, v8])) (hn : narrow (tyX1 3) w = w) (hf : fits (tyX1 3) w = true) (hd : decode cc pc = .ok (.putfield idx, 3)) (hq : pc + 3 = q) (kk : hX E cells slots q lo st (hU M a t (eO 1 [v0, v1, v2, w, v4, v5, v6, v7, v8]))) : hX E cells slots pc lo (w :: .ref a :: st) M := x_putf q 3 C wu_X1 wcl_X1 (by decide) tyX1 tyX1_ok nmX1 hl (Or.inl rfl) hM hn hf (by simp) hd hq kk
theorem xg_X1_quotient (q : Nat) (C : hCx E K cc n own nm R) {idx a t : Nat} {v0 v1 v2 v3 v4 v5 v6 v7 v8 : Value} (hl : hFl own idx TX1 4) (hM : M a = some (t, eO 1 [v0, v1, v2, v3, v4, v5, v6, v7, v8])) (hd : decode cc pc = .ok (.getfield idx, 3)) (hq : pc + 3 = q) (kk : hX E cells slots q lo (v4 :: st) M) : hX E cells slots pc lo (.ref a :: st) M := x_getf q 4 C wu_X1 wcl_X1 (by decide) hl hM rfl hd hq kk
theorem xp_X1_quotient (q : Nat) (C : hCx E K cc n own nm R) {idx a t : Nat} {v0 v1 v2 v3 v4 v5 v6 v7 v8 w : Value} (hl : hFl own idx TX1 4) (hM : M a = some (t, eO 1 [v0, v1, v2, v3, v4, v5, v6, v7, v8])) (hn : narrow (tyX1 4) w = w) (hf : fits (tyX1 4) w = true) (hd : decode cc pc = .ok (.putfield idx, 3)) (hq : pc + 3 = q) (kk : hX E cells slots q lo st (hU M a t (eO 1 [v0, v1, v2, v3, w, v5, v6, v7, v8]))) : hX E cells slots pc lo (w :: .ref a :: st) M := x_putf q 4 C wu_X1 wcl_X1 (by decide) tyX1 tyX1_ok nmX1 hl (Or.inl rfl) hM hn hf (by simp) hd hq kk
theorem xg_X1_upper (q : Nat) (C : hCx E K cc n own nm R) {idx a t : Nat} {v0 v1 v2 v3 v4 v5 v6 v7 v8 : Value} (hl : hFl own idx TX1 5) (hM : M a = some (t, eO 1 [v0, v1, v2, v3, v4, v5, v6, v7, v8])) (hd : decode cc pc = .ok (.getfield idx, 3)) (hq : pc + 3 = q) (kk : hX E cells slots q lo (v5 :: st) M) : hX E cells slots pc lo (.ref a :: st) M := x_getf q 5 C wu_X1 wcl_X1 (by decide) hl hM rfl hd hq kk
theorem xp_X1_upper (q : Nat) (C : hCx E K cc n own nm R) {idx a t : Nat} {v0 v1 v2 v3 v4 v5 v6 v7 v8 w : Value} (hl : hFl own idx TX1 5) (hM : M a = some (t, eO 1 [v0, v1, v2, v3, v4, v5, v6, v7, v8])) (hn : narrow (tyX1 5) w = w) (hf : fits (tyX1 5) w = true) (hd : decode cc pc = .ok (.putfield idx, 3)) (hq : pc + 3 = q) (kk : hX E cells slots q lo st (hU M a t (eO 1 [v0, v1, v2, v3, v4, w, v6, v7, v8]))) : hX E cells slots pc lo (w :: .ref a :: st) M := x_putf q 5 C wu_X1 wcl_X1 (by decide) tyX1 tyX1_ok nmX1 hl (Or.inl rfl) hM hn hf (by simp) hd hq kk
theorem xg_X1_lower (q : Nat) (C : hCx E K cc n own nm R) {idx a t : Nat} {v0 v1 v2 v3 v4 v5 v6 v7 v8 : Value} (hl : hFl own idx TX1 6) (hM : M a = some (t, eO 1 [v0, v1, v2, v3, v4, v5, v6, v7, v8])) (hd : decode cc pc = .ok (.getfield idx, 3)) (hq : pc + 3 = q) (kk : hX E cells slots q lo (v6 :: st) M) : hX E cells slots pc lo (.ref a :: st) M := x_getf q 6 C wu_X1 wcl_X1 (by decide) hl hM rfl hd hq kk
theorem xp_X1_lower (q : Nat) (C : hCx E K cc n own nm R) {idx a t : Nat} {v0 v1 v2 v3 v4 v5 v6 v7 v8 w : Value} (hl : hFl own idx TX1 6) (hM : M a = some (t, eO 1 [v0, v1, v2, v3, v4, v5, v6, v7, v8])) (hn : narrow (tyX1 6) w = w) (hf : fits (tyX1 6) w = true) (hd : decode cc pc = .ok (.putfield idx, 3)) (hq : pc + 3 = q) (kk : hX E cells slots q lo st (hU M a t (eO 1 [v0, v1, v2, v3, v4, v5, w, v7, v8]))) : hX E cells slots pc lo (w :: .ref a :: st) M := x_putf q 6 C wu_X1 wcl_X1 (by decide) tyX1 tyX1_ok nmX1 hl (Or.inl rfl) hM hn hf (by simp) hd hq kk
theorem xg_X1_upperBefore (q : Nat) (C : hCx E K cc n own nm R) {idx a t : Nat} {v0 v1 v2 v3 v4 v5 v6 v7 v8 : Value} (hl : hFl own idx TX1 7) (hM : M a = some (t, eO 1 [v0, v1, v2, v3, v4, v5, v6, v7, v8])) (hd : decode cc pc = .ok (.getfield idx, 3)) (hq : pc + 3 = q) (kk : hX E cells slots q lo (v7 :: st) M) : hX E cells slots pc lo (.ref a :: st) M := x_getf q 7 C wu_X1 wcl_X1 (by decide) hl hM rfl hd hq kk
theorem xp_X1_upperBefore (q : Nat) (C : hCx E K cc n own nm R) {idx a t : Nat} {v0 v1 v2 v3 v4 v5 v6 v7 v8 w : Value} (hl : hFl own idx TX1 7) (hM : M a = some (t, eO 1 [v0, v1, v2, v3, v4, v5, v6, v7, v8])) (hn : narrow (tyX1 7) w = w) (hf : fits (tyX1 7) w = true) (hd : decode cc pc = .ok (.putfield idx, 3)) (hq : pc + 3 = q) (kk : hX E cells slots q lo st (hU M a t (eO 1 [v0, v1, v2, v3, v4, v5, v6, w, v8]))) : hX E cells slots pc lo (w :: .ref a :: st) M := x_putf q 7 C wu_X1 wcl_X1 (by decide) tyX1 tyX1_ok nmX1 hl (Or.inl rfl) hM hn hf (by simp) hd hq kk
theorem xg_X1_lowerBefore (q : Nat) (C : hCx E K cc n own nm R) {idx a t : Nat} {v0 v1 v2 v3 v4 v5 v6 v7 v8 : Value} (hl : hFl own idx TX1 8) (hM : M a = some (t, eO 1 [v0, v1, v2, v3, v4, v5, v6, v7, v8])) (hd : decode cc pc = .ok (.getfield idx, 3)) (hq : pc + 3 = q) (kk : hX E cells slots q lo (v8 :: st) M) : hX E cells slots pc lo (.ref a :: st) M := x_getf q 8 C wu_X1 wcl_X1 (by decide) hl hM rfl hd hq kk
theorem xp_X1_lowerBefore (q : Nat) (C : hCx E K cc n own nm R) {idx a t : Nat} {v0 v1 v2 v3 v4 v5 v6 v7 v8 w : Value} (hl : hFl own idx TX1 8) (hM : M a = some (t, eO 1 [v0, v1, v2, v3, v4, v5, v6, v7, v8])) (hn : narrow (tyX1 8) w = w) (hf : fits (tyX1 8) w = true) (hd : decode cc pc = .ok (.putfield idx, 3)) (hq : pc + 3 = q) (kk : hX E cells slots q lo st (hU M a t (eO 1 [v0, v1, v2, v3, v4, v5, v6, v7, w]))) : hX E cells slots pc lo (w :: .ref a :: st) M := x_putf q 8 C wu_X1 wcl_X1 (by decide) tyX1 tyX1_ok nmX1 hl (Or.inl rfl) hM hn hf (by simp) hd hq kk
theorem xg_X2_steps (q : Nat) (C : hCx E K cc n own nm R) {idx a t : Nat} {v0 v1 v2 v3 v4 v5 : Value} (hl : hFl own idx TX2 0) (hM : M a = some (t, eO 2 [v0, v1, v2, v3, v4, v5])) (hd : decode cc pc = .ok (.getfield idx, 3)) (hq : pc + 3 = q) (kk : hX E cells slots q lo (v0 :: st) M) : hX E cells slots pc lo (.ref a :: st) M := x_getf q 0 C wu_X2 wcl_X2 (by decide) hl hM rfl hd hq kk
theorem xp_X2_steps (q : Nat) (C : hCx E K cc n own nm R) {idx a t : Nat} {v0 v1 v2 v3 v4 v5 w : Value} (hl : hFl own idx TX2 0) (hnm : nm = "<init>") (howd : (TX2 0).1 = own) (hlw : Cond.fieldLink own idx (TX2 0).1 (TX2 0).2.1 (TX2 0).2.2.1 ∈ WA) (hM : M a = some (t, eO 2 [v0, v1, v2, v3, v4, v5])) (hn : narrow (tyX2 0) w = w) (hf : fits (tyX2 0) w = true) (hd : decode cc pc = .ok (.putfield idx, 3)) (hq : pc + 3 = q) (kk : hX E cells slots q lo st (hU M a t (eO 2 [w, v1, v2, v3, v4, v5]))) : hX E cells slots pc lo (w :: .ref a :: st) M := x_putf q 0 C wu_X2 wcl_X2 (by decide) tyX2 tyX2_ok nmX2 hl (Or.inr ⟨rfl, hnm, howd, hlw⟩) hM hn hf (by simp) hd hq kk
theorem xg_X2_waiting (q : Nat) (C : hCx E K cc n own nm R) {idx a t : Nat} {v0 v1 v2 v3 v4 v5 : Value} (hl : hFl own idx TX2 1) (hM : M a = some (t, eO 2 [v0, v1, v2, v3, v4, v5])) (hd : decode cc pc = .ok (.getfield idx, 3)) (hq : pc + 3 = q) (kk : hX E cells slots q lo (v1 :: st) M) : hX E cells slots pc lo (.ref a :: st) M := x_getf q 1 C wu_X2 wcl_X2 (by decide) hl hM rfl hd hq kk
theorem xp_X2_waiting (q : Nat) (C : hCx E K cc n own nm R) {idx a t : Nat} {v0 v1 v2 v3 v4 v5 w : Value} (hl : hFl own idx TX2 1) (hnm : nm = "<init>") (howd : (TX2 1).1 = own) (hlw : Cond.fieldLink own idx (TX2 1).1 (TX2 1).2.1 (TX2 1).2.2.1 ∈ WA) (hM : M a = some (t, eO 2 [v0, v1, v2, v3, v4, v5])) (hn : narrow (tyX2 1) w = w) (hf : fits (tyX2 1) w = true) (hd : decode cc pc = .ok (.putfield idx, 3)) (hq : pc + 3 = q) (kk : hX E cells slots q lo st (hU M a t (eO 2 [v0, w, v2, v3, v4, v5]))) : hX E cells slots pc lo (w :: .ref a :: st) M := x_putf q 1 C wu_X2 wcl_X2 (by decide) tyX2 tyX2_ok nmX2 hl (Or.inr ⟨rfl, hnm, howd, hlw⟩) hM hn hf (by simp) hd hq kk
theorem xg_X2_size (q : Nat) (C : hCx E K cc n own nm R) {idx a t : Nat} {v0 v1 v2 v3 v4 v5 : Value} (hl : hFl own idx TX2 2) (hM : M a = some (t, eO 2 [v0, v1, v2, v3, v4, v5])) (hd : decode cc pc = .ok (.getfield idx, 3)) (hq : pc + 3 = q) (kk : hX E cells slots q lo (v2 :: st) M) : hX E cells slots pc lo (.ref a :: st) M := x_getf q 2 C wu_X2 wcl_X2 (by decide) hl hM rfl hd hq kk
theorem xp_X2_size (q : Nat) (C : hCx E K cc n own nm R) {idx a t : Nat} {v0 v1 v2 v3 v4 v5 w : Value} (hl : hFl own idx TX2 2) (hM : M a = some (t, eO 2 [v0, v1, v2, v3, v4, v5])) (hn : narrow (tyX2 2) w = w) (hf : fits (tyX2 2) w = true) (hd : decode cc pc = .ok (.putfield idx, 3)) (hq : pc + 3 = q) (kk : hX E cells slots q lo st (hU M a t (eO 2 [v0, v1, w, v3, v4, v5]))) : hX E cells slots pc lo (w :: .ref a :: st) M := x_putf q 2 C wu_X2 wcl_X2 (by decide) tyX2 tyX2_ok nmX2 hl (Or.inl rfl) hM hn hf (by simp) hd hq kk
theorem xg_X2_waits (q : Nat) (C : hCx E K cc n own nm R) {idx a t : Nat} {v0 v1 v2 v3 v4 v5 : Value} (hl : hFl own idx TX2 3) (hM : M a = some (t, eO 2 [v0, v1, v2, v3, v4, v5])) (hd : decode cc pc = .ok (.getfield idx, 3)) (hq : pc + 3 = q) (kk : hX E cells slots q lo (v3 :: st) M) : hX E cells slots pc lo (.ref a :: st) M := x_getf q 3 C wu_X2 wcl_X2 (by decide) hl hM rfl hd hq kk
theorem xp_X2_waits (q : Nat) (C : hCx E K cc n own nm R) {idx a t : Nat} {v0 v1 v2 v3 v4 v5 w : Value} (hl : hFl own idx TX2 3) (hM : M a = some (t, eO 2 [v0, v1, v2, v3, v4, v5])) (hn : narrow (tyX2 3) w = w) (hf : fits (tyX2 3) w = true) (hd : decode cc pc = .ok (.putfield idx, 3)) (hq : pc + 3 = q) (kk : hX E cells slots q lo st (hU M a t (eO 2 [v0, v1, v2, w, v4, v5]))) : hX E cells slots pc lo (w :: .ref a :: st) M := x_putf q 3 C wu_X2 wcl_X2 (by decide) tyX2 tyX2_ok nmX2 hl (Or.inl rfl) hM hn hf (by simp) hd hq kk
theorem xg_X2_open (q : Nat) (C : hCx E K cc n own nm R) {idx a t : Nat} {v0 v1 v2 v3 v4 v5 : Value} (hl : hFl own idx TX2 4) (hM : M a = some (t, eO 2 [v0, v1, v2, v3, v4, v5])) (hd : decode cc pc = .ok (.getfield idx, 3)) (hq : pc + 3 = q) (kk : hX E cells slots q lo (v4 :: st) M) : hX E cells slots pc lo (.ref a :: st) M := x_getf q 4 C wu_X2 wcl_X2 (by decide) hl hM rfl hd hq kk
theorem xp_X2_open (q : Nat) (C : hCx E K cc n own nm R) {idx a t : Nat} {v0 v1 v2 v3 v4 v5 w : Value} (hl : hFl own idx TX2 4) (hM : M a = some (t, eO 2 [v0, v1, v2, v3, v4, v5])) (hn : narrow (tyX2 4) w = w) (hf : fits (tyX2 4) w = true) (hd : decode cc pc = .ok (.putfield idx, 3)) (hq : pc + 3 = q) (kk : hX E cells slots q lo st (hU M a t (eO 2 [v0, v1, v2, v3, w, v5]))) : hX E cells slots pc lo (w :: .ref a :: st) M := x_putf q 4 C wu_X2 wcl_X2 (by decide) tyX2 tyX2_ok nmX2 hl (Or.inl rfl) hM hn hf (by simp) hd hq kk
theorem xg_X2_next (q : Nat) (C : hCx E K cc n own nm R) {idx a t : Nat} {v0 v1 v2 v3 v4 v5 : Value} (hl : hFl own idx TX2 5) (hM : M a = some (t, eO 2 [v0, v1, v2, v3, v4, v5])) (hd : decode cc pc = .ok (.getfield idx, 3)) (hq : pc + 3 = q) (kk : hX E cells slots q lo (v5 :: st) M) : hX E cells slots pc lo (.ref a :: st) M := x_getf q 5 C wu_X2 wcl_X2 (by decide) hl hM rfl hd hq kk
theorem xp_X2_next (q : Nat) (C : hCx E K cc n own nm R) {idx a t : Nat} {v0 v1 v2 v3 v4 v5 w : Value} (hl : hFl own idx TX2 5) (hM : M a = some (t, eO 2 [v0, v1, v2, v3, v4, v5])) (hn : narrow (tyX2 5) w = w) (hf : fits (tyX2 5) w = true) (hd : decode cc pc = .ok (.putfield idx, 3)) (hq : pc + 3 = q) (kk : hX E cells slots q lo st (hU M a t (eO 2 [v0, v1, v2, v3, v4, w]))) : hX E cells slots pc lo (w :: .ref a :: st) M := x_putf q 5 C wu_X2 wcl_X2 (by decide) tyX2 tyX2_ok nmX2 hl (Or.inl rfl) hM hn hf (by simp) hd hq kk
theorem xg_X3_values (q : Nat) (C : hCx E K cc n own nm R) {idx a t : Nat} {v0 v1 v2 v3 v4 : Value} (hl : hFl own idx TX3 0) (hM : M a = some (t, eO 3 [v0, v1, v2, v3, v4])) (hd : decode cc pc = .ok (.getfield idx, 3)) (hq : pc + 3 = q) (kk : hX E cells slots q lo (v0 :: st) M) : hX E cells slots pc lo (.ref a :: st) M := x_getf q 0 C wu_X3 wcl_X3 (by decide) hl hM rfl hd hq kk
theorem xp_X3_values (q : Nat) (C : hCx E K cc n own nm R) {idx a t : Nat} {v0 v1 v2 v3 v4 w : Value} (hl : hFl own idx TX3 0) (hnm : nm = "<init>") (howd : (TX3 0).1 = own) (hlw : Cond.fieldLink own idx (TX3 0).1 (TX3 0).2.1 (TX3 0).2.2.1 ∈ WA) (hM : M a = some (t, eO 3 [v0, v1, v2, v3, v4])) (hn : narrow (tyX3 0) w = w) (hf : fits (tyX3 0) w = true) (hd : decode cc pc = .ok (.putfield idx, 3)) (hq : pc + 3 = q) (kk : hX E cells slots q lo st (hU M a t (eO 3 [w, v1, v2, v3, v4]))) : hX E cells slots pc lo (w :: .ref a :: st) M := x_putf q 0 C wu_X3 wcl_X3 (by decide) tyX3 tyX3_ok nmX3 hl (Or.inr ⟨rfl, hnm, howd, hlw⟩) hM hn hf (by simp) hd hq kk
theorem xg_X3_operands (q : Nat) (C : hCx E K cc n own nm R) {idx a t : Nat} {v0 v1 v2 v3 v4 : Value} (hl : hFl own idx TX3 1) (hM : M a = some (t, eO 3 [v0, v1, v2, v3, v4])) (hd : decode cc pc = .ok (.getfield idx, 3)) (hq : pc + 3 = q) (kk : hX E cells slots q lo (v1 :: st) M) : hX E cells slots pc lo (.ref a :: st) M := x_getf q 1 C wu_X3 wcl_X3 (by decide) hl hM rfl hd hq kk
theorem xp_X3_operands (q : Nat) (C : hCx E K cc n own nm R) {idx a t : Nat} {v0 v1 v2 v3 v4 w : Value} (hl : hFl own idx TX3 1) (hnm : nm = "<init>") (howd : (TX3 1).1 = own) (hlw : Cond.fieldLink own idx (TX3 1).1 (TX3 1).2.1 (TX3 1).2.2.1 ∈ WA) (hM : M a = some (t, eO 3 [v0, v1, v2, v3, v4])) (hn : narrow (tyX3 1) w = w) (hf : fits (tyX3 1) w = true) (hd : decode cc pc = .ok (.putfield idx, 3)) (hq : pc + 3 = q) (kk : hX E cells slots q lo st (hU M a t (eO 3 [v0, w, v2, v3, v4]))) : hX E cells slots pc lo (w :: .ref a :: st) M := x_putf q 1 C wu_X3 wcl_X3 (by decide) tyX3 tyX3_ok nmX3 hl (Or.inr ⟨rfl, hnm, howd, hlw⟩) hM hn hf (by simp) hd hq kk
theorem xg_X3_height (q : Nat) (C : hCx E K cc n own nm R) {idx a t : Nat} {v0 v1 v2 v3 v4 : Value} (hl : hFl own idx TX3 2) (hM : M a = some (t, eO 3 [v0, v1, v2, v3, v4])) (hd : decode cc pc = .ok (.getfield idx, 3)) (hq : pc + 3 = q) (kk : hX E cells slots q lo (v2 :: st) M) : hX E cells slots pc lo (.ref a :: st) M := x_getf q 2 C wu_X3 wcl_X3 (by decide) hl hM rfl hd hq kk
theorem xp_X3_height (q : Nat) (C : hCx E K cc n own nm R) {idx a t : Nat} {v0 v1 v2 v3 v4 w : Value} (hl : hFl own idx TX3 2) (hM : M a = some (t, eO 3 [v0, v1, v2, v3, v4])) (hn : narrow (tyX3 2) w = w) (hf : fits (tyX3 2) w = true) (hd : decode cc pc = .ok (.putfield idx, 3)) (hq : pc + 3 = q) (kk : hX E cells slots q lo st (hU M a t (eO 3 [v0, v1, w, v3, v4]))) : hX E cells slots pc lo (w :: .ref a :: st) M := x_putf q 2 C wu_X3 wcl_X3 (by decide) tyX3 tyX3_ok nmX3 hl (Or.inl rfl) hM hn hf (by simp) hd hq kk
theorem xg_X3_reached (q : Nat) (C : hCx E K cc n own nm R) {idx a t : Nat} {v0 v1 v2 v3 v4 : Value} (hl : hFl own idx TX3 3) (hM : M a = some (t, eO 3 [v0, v1, v2, v3, v4])) (hd : decode cc pc = .ok (.getfield idx, 3)) (hq : pc + 3 = q) (kk : hX E cells slots q lo (v3 :: st) M) : hX E cells slots pc lo (.ref a :: st) M := x_getf q 3 C wu_X3 wcl_X3 (by decide) hl hM rfl hd hq kk
theorem xp_X3_reached (q : Nat) (C : hCx E K cc n own nm R) {idx a t : Nat} {v0 v1 v2 v3 v4 w : Value} (hl : hFl own idx TX3 3) (hM : M a = some (t, eO 3 [v0, v1, v2, v3, v4])) (hn : narrow (tyX3 3) w = w) (hf : fits (tyX3 3) w = true) (hd : decode cc pc = .ok (.putfield idx, 3)) (hq : pc + 3 = q) (kk : hX E cells slots q lo st (hU M a t (eO 3 [v0, v1, v2, w, v4]))) : hX E cells slots pc lo (w :: .ref a :: st) M := x_putf q 3 C wu_X3 wcl_X3 (by decide) tyX3 tyX3_ok nmX3 hl (Or.inl rfl) hM hn hf (by simp) hd hq kk
theorem xg_X3_reason (q : Nat) (C : hCx E K cc n own nm R) {idx a t : Nat} {v0 v1 v2 v3 v4 : Value} (hl : hFl own idx TX3 4) (hM : M a = some (t, eO 3 [v0, v1, v2, v3, v4])) (hd : decode cc pc = .ok (.getfield idx, 3)) (hq : pc + 3 = q) (kk : hX E cells slots q lo (v4 :: st) M) : hX E cells slots pc lo (.ref a :: st) M := x_getf q 4 C wu_X3 wcl_X3 (by decide) hl hM rfl hd hq kk
theorem xp_X3_reason (q : Nat) (C : hCx E K cc n own nm R) {idx a t : Nat} {v0 v1 v2 v3 v4 w : Value} (hl : hFl own idx TX3 4) (hM : M a = some (t, eO 3 [v0, v1, v2, v3, v4])) (hn : narrow (tyX3 4) w = w) (hf : fits (tyX3 4) w = true) (hd : decode cc pc = .ok (.putfield idx, 3)) (hq : pc + 3 = q) (kk : hX E cells slots q lo st (hU M a t (eO 3 [v0, v1, v2, v3, w]))) : hX E cells slots pc lo (w :: .ref a :: st) M := x_putf q 4 C wu_X3 wcl_X3 (by decide) tyX3 tyX3_ok nmX3 hl (Or.inl rfl) hM hn hf (by simp) hd hq kk
theorem xg_X4_settings (q : Nat) (C : hCx E K cc n own nm R) {idx a t : Nat} {v0 v1 v2 : Value} (hl : hFl own idx TX4 0) (hM : M a = some (t, eO 4 [v0, v1, v2])) (hd : decode cc pc = .ok (.getfield idx, 3)) (hq : pc + 3 = q) (kk : hX E cells slots q lo (v0 :: st) M) : hX E cells slots pc lo (.ref a :: st) M := x_getf q 0 C wu_X4 wcl_X4 (by decide) hl hM rfl hd hq kk
theorem xp_X4_settings (q : Nat) (C : hCx E K cc n own nm R) {idx a t : Nat} {v0 v1 v2 w : Value} (hl : hFl own idx TX4 0) (hnm : nm = "<init>") (howd : (TX4 0).1 = own) (hlw : Cond.fieldLink own idx (TX4 0).1 (TX4 0).2.1 (TX4 0).2.2.1 ∈ WA) (hM : M a = some (t, eO 4 [v0, v1, v2])) (hn : narrow (tyX4 0) w = w) (hf : fits (tyX4 0) w = true) (hd : decode cc pc = .ok (.putfield idx, 3)) (hq : pc + 3 = q) (kk : hX E cells slots q lo st (hU M a t (eO 4 [w, v1, v2]))) : hX E cells slots pc lo (w :: .ref a :: st) M := x_putf q 0 C wu_X4 wcl_X4 (by decide) tyX4 tyX4_ok nmX4 hl (Or.inr ⟨rfl, hnm, howd, hlw⟩) hM hn hf (by simp) hd hq kk
theorem xg_X4_cells (q : Nat) (C : hCx E K cc n own nm R) {idx a t : Nat} {v0 v1 v2 : Value} (hl : hFl own idx TX4 1) (hM : M a = some (t, eO 4 [v0, v1, v2])) (hd : decode cc pc = .ok (.getfield idx, 3)) (hq : pc + 3 = q) (kk : hX E cells slots q lo (v1 :: st) M) : hX E cells slots pc lo (.ref a :: st) M := x_getf q 1 C wu_X4 wcl_X4 (by decide) hl hM rfl hd hq kk
theorem xp_X4_cells (q : Nat) (C : hCx E K cc n own nm R) {idx a t : Nat} {v0 v1 v2 w : Value} (hl : hFl own idx TX4 1) (hnm : nm = "<init>") (howd : (TX4 1).1 = own) (hlw : Cond.fieldLink own idx (TX4 1).1 (TX4 1).2.1 (TX4 1).2.2.1 ∈ WA) (hM : M a = some (t, eO 4 [v0, v1, v2])) (hn : narrow (tyX4 1) w = w) (hf : fits (tyX4 1) w = true) (hd : decode cc pc = .ok (.putfield idx, 3)) (hq : pc + 3 = q) (kk : hX E cells slots q lo st (hU M a t (eO 4 [v0, w, v2]))) : hX E cells slots pc lo (w :: .ref a :: st) M := x_putf q 1 C wu_X4 wcl_X4 (by decide) tyX4 tyX4_ok nmX4 hl (Or.inr ⟨rfl, hnm, howd, hlw⟩) hM hn hf (by simp) hd hq kk
theorem xg_X4_formulas (q : Nat) (C : hCx E K cc n own nm R) {idx a t : Nat} {v0 v1 v2 : Value} (hl : hFl own idx TX4 2) (hM : M a = some (t, eO 4 [v0, v1, v2])) (hd : decode cc pc = .ok (.getfield idx, 3)) (hq : pc + 3 = q) (kk : hX E cells slots q lo (v2 :: st) M) : hX E cells slots pc lo (.ref a :: st) M := x_getf q 2 C wu_X4 wcl_X4 (by decide) hl hM rfl hd hq kk
theorem xp_X4_formulas (q : Nat) (C : hCx E K cc n own nm R) {idx a t : Nat} {v0 v1 v2 w : Value} (hl : hFl own idx TX4 2) (hnm : nm = "<init>") (howd : (TX4 2).1 = own) (hlw : Cond.fieldLink own idx (TX4 2).1 (TX4 2).2.1 (TX4 2).2.2.1 ∈ WA) (hM : M a = some (t, eO 4 [v0, v1, v2])) (hn : narrow (tyX4 2) w = w) (hf : fits (tyX4 2) w = true) (hd : decode cc pc = .ok (.putfield idx, 3)) (hq : pc + 3 = q) (kk : hX E cells slots q lo st (hU M a t (eO 4 [v0, v1, w]))) : hX E cells slots pc lo (w :: .ref a :: st) M := x_putf q 2 C wu_X4 wcl_X4 (by decide) tyX4 tyX4_ok nmX4 hl (Or.inr ⟨rfl, hnm, howd, hlw⟩) hM hn hf (by simp) hd hq kk
theorem xg_X5_now (q : Nat) (C : hCx E K cc n own nm R) {idx a t : Nat} {v0 v1 v2 v3 v4 v5 v6 v7 v8 v9 : Value} (hl : hFl own idx TX5 0) (hM : M a = some (t, eO 5 [v0, v1, v2, v3, v4, v5, v6, v7, v8, v9])) (hd : decode cc pc = .ok (.getfield idx, 3)) (hq : pc + 3 = q) (kk : hX E cells slots q lo (v0 :: st) M) : hX E cells slots pc lo (.ref a :: st) M := x_getf q 0 C wu_X5 wcl_X5 (by decide) hl hM rfl hd hq kk
theorem xp_X5_now (q : Nat) (C : hCx E K cc n own nm R) {idx a t : Nat} {v0 v1 v2 v3 v4 v5 v6 v7 v8 v9 w : Value} (hl : hFl own idx TX5 0) (hnm : nm = "<init>") (howd : (TX5 0).1 = own) (hlw : Cond.fieldLink own idx (TX5 0).1 (TX5 0).2.1 (TX5 0).2.2.1 ∈ WA) (hM : M a = some (t, eO 5 [v0, v1, v2, v3, v4, v5, v6, v7, v8, v9])) (hn : narrow (tyX5 0) w = w) (hf : fits (tyX5 0) w = true) (hd : decode cc pc = .ok (.putfield idx, 3)) (hq : pc + 3 = q) (kk : hX E cells slots q lo st (hU M a t (eO 5 [w, v1, v2, v3, v4, v5, v6, v7, v8, v9]))) : hX E cells slots pc lo (w :: .ref a :: st) M := x_putf q 0 C wu_X5 wcl_X5 (by decide) tyX5 tyX5_ok nmX5 hl (Or.inr ⟨rfl, hnm, howd, hlw⟩) hM hn hf (by simp) hd hq kk
theorem xg_X5_history (q : Nat) (C : hCx E K cc n own nm R) {idx a t : Nat} {v0 v1 v2 v3 v4 v5 v6 v7 v8 v9 : Value} (hl : hFl own idx TX5 1) (hM : M a = some (t, eO 5 [v0, v1, v2, v3, v4, v5, v6, v7, v8, v9])) (hd : decode cc pc = .ok (.getfield idx, 3)) (hq : pc + 3 = q) (kk : hX E cells slots q lo (v1 :: st) M) : hX E cells slots pc lo (.ref a :: st) M := x_getf q 1 C wu_X5 wcl_X5 (by decide) hl hM rfl hd hq kk
theorem xp_X5_history (q : Nat) (C : hCx E K cc n own nm R) {idx a t : Nat} {v0 v1 v2 v3 v4 v5 v6 v7 v8 v9 w : Value} (hl : hFl own idx TX5 1) (hnm : nm = "<init>") (howd : (TX5 1).1 = own) (hlw : Cond.fieldLink own idx (TX5 1).1 (TX5 1).2.1 (TX5 1).2.2.1 ∈ WA) (hM : M a = some (t, eO 5 [v0, v1, v2, v3, v4, v5, v6, v7, v8, v9])) (hn : narrow (tyX5 1) w = w) (hf : fits (tyX5 1) w = true) (hd : decode cc pc = .ok (.putfield idx, 3)) (hq : pc + 3 = q) (kk : hX E cells slots q lo st (hU M a t (eO 5 [v0, w, v2, v3, v4, v5, v6, v7, v8, v9]))) : hX E cells slots pc lo (w :: .ref a :: st) M := x_putf q 1 C wu_X5 wcl_X5 (by decide) tyX5 tyX5_ok nmX5 hl (Or.inr ⟨rfl, hnm, howd, hlw⟩) hM hn hf (by simp) hd hq kk
theorem xg_X5_slots (q : Nat) (C : hCx E K cc n own nm R) {idx a t : Nat} {v0 v1 v2 v3 v4 v5 v6 v7 v8 v9 : Value} (hl : hFl own idx TX5 2) (hM : M a = some (t, eO 5 [v0, v1, v2, v3, v4, v5, v6, v7, v8, v9])) (hd : decode cc pc = .ok (.getfield idx, 3)) (hq : pc + 3 = q) (kk : hX E cells slots q lo (v2 :: st) M) : hX E cells slots pc lo (.ref a :: st) M := x_getf q 2 C wu_X5 wcl_X5 (by decide) hl hM rfl hd hq kk
theorem xp_X5_slots (q : Nat) (C : hCx E K cc n own nm R) {idx a t : Nat} {v0 v1 v2 v3 v4 v5 v6 v7 v8 v9 w : Value} (hl : hFl own idx TX5 2) (hnm : nm = "<init>") (howd : (TX5 2).1 = own) (hlw : Cond.fieldLink own idx (TX5 2).1 (TX5 2).2.1 (TX5 2).2.2.1 ∈ WA) (hM : M a = some (t, eO 5 [v0, v1, v2, v3, v4, v5, v6, v7, v8, v9])) (hn : narrow (tyX5 2) w = w) (hf : fits (tyX5 2) w = true) (hd : decode cc pc = .ok (.putfield idx, 3)) (hq : pc + 3 = q) (kk : hX E cells slots q lo st (hU M a t (eO 5 [v0, v1, w, v3, v4, v5, v6, v7, v8, v9]))) : hX E cells slots pc lo (w :: .ref a :: st) M := x_putf q 2 C wu_X5 wcl_X5 (by decide) tyX5 tyX5_ok nmX5 hl (Or.inr ⟨rfl, hnm, howd, hlw⟩) hM hn hf (by simp) hd hq kk
theorem xg_X5_pad (q : Nat) (C : hCx E K cc n own nm R) {idx a t : Nat} {v0 v1 v2 v3 v4 v5 v6 v7 v8 v9 : Value} (hl : hFl own idx TX5 3) (hM : M a = some (t, eO 5 [v0, v1, v2, v3, v4, v5, v6, v7, v8, v9])) (hd : decode cc pc = .ok (.getfield idx, 3)) (hq : pc + 3 = q) (kk : hX E cells slots q lo (v3 :: st) M) : hX E cells slots pc lo (.ref a :: st) M := x_getf q 3 C wu_X5 wcl_X5 (by decide) hl hM rfl hd hq kk
theorem xp_X5_pad (q : Nat) (C : hCx E K cc n own nm R) {idx a t : Nat} {v0 v1 v2 v3 v4 v5 v6 v7 v8 v9 w : Value} (hl : hFl own idx TX5 3) (hnm : nm = "<init>") (howd : (TX5 3).1 = own) (hlw : Cond.fieldLink own idx (TX5 3).1 (TX5 3).2.1 (TX5 3).2.2.1 ∈ WA) (hM : M a = some (t, eO 5 [v0, v1, v2, v3, v4, v5, v6, v7, v8, v9])) (hn : narrow (tyX5 3) w = w) (hf : fits (tyX5 3) w = true) (hd : decode cc pc = .ok (.putfield idx, 3)) (hq : pc + 3 = q) (kk : hX E cells slots q lo st (hU M a t (eO 5 [v0, v1, v2, w, v4, v5, v6, v7, v8, v9]))) : hX E cells slots pc lo (w :: .ref a :: st) M := x_putf q 3 C wu_X5 wcl_X5 (by decide) tyX5 tyX5_ok nmX5 hl (Or.inr ⟨rfl, hnm, howd, hlw⟩) hM hn hf (by simp) hd hq kk
theorem xg_X5_reader (q : Nat) (C : hCx E K cc n own nm R) {idx a t : Nat} {v0 v1 v2 v3 v4 v5 v6 v7 v8 v9 : Value} (hl : hFl own idx TX5 4) (hM : M a = some (t, eO 5 [v0, v1, v2, v3, v4, v5, v6, v7, v8, v9])) (hd : decode cc pc = .ok (.getfield idx, 3)) (hq : pc + 3 = q) (kk : hX E cells slots q lo (v4 :: st) M) : hX E cells slots pc lo (.ref a :: st) M := x_getf q 4 C wu_X5 wcl_X5 (by decide) hl hM rfl hd hq kk
theorem xp_X5_reader (q : Nat) (C : hCx E K cc n own nm R) {idx a t : Nat} {v0 v1 v2 v3 v4 v5 v6 v7 v8 v9 w : Value} (hl : hFl own idx TX5 4) (hnm : nm = "<init>") (howd : (TX5 4).1 = own) (hlw : Cond.fieldLink own idx (TX5 4).1 (TX5 4).2.1 (TX5 4).2.2.1 ∈ WA) (hM : M a = some (t, eO 5 [v0, v1, v2, v3, v4, v5, v6, v7, v8, v9])) (hn : narrow (tyX5 4) w = w) (hf : fits (tyX5 4) w = true) (hd : decode cc pc = .ok (.putfield idx, 3)) (hq : pc + 3 = q) (kk : hX E cells slots q lo st (hU M a t (eO 5 [v0, v1, v2, v3, w, v5, v6, v7, v8, v9]))) : hX E cells slots pc lo (w :: .ref a :: st) M := x_putf q 4 C wu_X5 wcl_X5 (by decide) tyX5 tyX5_ok nmX5 hl (Or.inr ⟨rfl, hnm, howd, hlw⟩) hM hn hf (by simp) hd hq kk
theorem xg_X5_reckoner (q : Nat) (C : hCx E K cc n own nm R) {idx a t : Nat} {v0 v1 v2 v3 v4 v5 v6 v7 v8 v9 : Value} (hl : hFl own idx TX5 5) (hM : M a = some (t, eO 5 [v0, v1, v2, v3, v4, v5, v6, v7, v8, v9])) (hd : decode cc pc = .ok (.getfield idx, 3)) (hq : pc + 3 = q) (kk : hX E cells slots q lo (v5 :: st) M) : hX E cells slots pc lo (.ref a :: st) M := x_getf q 5 C wu_X5 wcl_X5 (by decide) hl hM rfl hd hq kk
theorem xp_X5_reckoner (q : Nat) (C : hCx E K cc n own nm R) {idx a t : Nat} {v0 v1 v2 v3 v4 v5 v6 v7 v8 v9 w : Value} (hl : hFl own idx TX5 5) (hnm : nm = "<init>") (howd : (TX5 5).1 = own) (hlw : Cond.fieldLink own idx (TX5 5).1 (TX5 5).2.1 (TX5 5).2.2.1 ∈ WA) (hM : M a = some (t, eO 5 [v0, v1, v2, v3, v4, v5, v6, v7, v8, v9])) (hn : narrow (tyX5 5) w = w) (hf : fits (tyX5 5) w = true) (hd : decode cc pc = .ok (.putfield idx, 3)) (hq : pc + 3 = q) (kk : hX E cells slots q lo st (hU M a t (eO 5 [v0, v1, v2, v3, v4, w, v6, v7, v8, v9]))) : hX E cells slots pc lo (w :: .ref a :: st) M := x_putf q 5 C wu_X5 wcl_X5 (by decide) tyX5 tyX5_ok nmX5 hl (Or.inr ⟨rfl, hnm, howd, hlw⟩) hM hn hf (by simp) hd hq kk
theorem xg_X5_fraction (q : Nat) (C : hCx E K cc n own nm R) {idx a t : Nat} {v0 v1 v2 v3 v4 v5 v6 v7 v8 v9 : Value} (hl : hFl own idx TX5 6) (hM : M a = some (t, eO 5 [v0, v1, v2, v3, v4, v5, v6, v7, v8, v9])) (hd : decode cc pc = .ok (.getfield idx, 3)) (hq : pc + 3 = q) (kk : hX E cells slots q lo (v6 :: st) M) : hX E cells slots pc lo (.ref a :: st) M := x_getf q 6 C wu_X5 wcl_X5 (by decide) hl hM rfl hd hq kk
theorem xp_X5_fraction (q : Nat) (C : hCx E K cc n own nm R) {idx a t : Nat} {v0 v1 v2 v3 v4 v5 v6 v7 v8 v9 w : Value} (hl : hFl own idx TX5 6) (hnm : nm = "<init>") (howd : (TX5 6).1 = own) (hlw : Cond.fieldLink own idx (TX5 6).1 (TX5 6).2.1 (TX5 6).2.2.1 ∈ WA) (hM : M a = some (t, eO 5 [v0, v1, v2, v3, v4, v5, v6, v7, v8, v9])) (hn : narrow (tyX5 6) w = w) (hf : fits (tyX5 6) w = true) (hd : decode cc pc = .ok (.putfield idx, 3)) (hq : pc + 3 = q) (kk : hX E cells slots q lo st (hU M a t (eO 5 [v0, v1, v2, v3, v4, v5, w, v7, v8, v9]))) : hX E cells slots pc lo (w :: .ref a :: st) M := x_putf q 6 C wu_X5 wcl_X5 (by decide) tyX5 tyX5_ok nmX5 hl (Or.inr ⟨rfl, hnm, howd, hlw⟩) hM hn hf (by simp) hd hq kk
theorem xg_X5_padLength (q : Nat) (C : hCx E K cc n own nm R) {idx a t : Nat} {v0 v1 v2 v3 v4 v5 v6 v7 v8 v9 : Value} (hl : hFl own idx TX5 7) (hM : M a = some (t, eO 5 [v0, v1, v2, v3, v4, v5, v6, v7, v8, v9])) (hd : decode cc pc = .ok (.getfield idx, 3)) (hq : pc + 3 = q) (kk : hX E cells slots q lo (v7 :: st) M) : hX E cells slots pc lo (.ref a :: st) M := x_getf q 7 C wu_X5 wcl_X5 (by decide) hl hM rfl hd hq kk
theorem xp_X5_padLength (q : Nat) (C : hCx E K cc n own nm R) {idx a t : Nat} {v0 v1 v2 v3 v4 v5 v6 v7 v8 v9 w : Value} (hl : hFl own idx TX5 7) (hM : M a = some (t, eO 5 [v0, v1, v2, v3, v4, v5, v6, v7, v8, v9])) (hn : narrow (tyX5 7) w = w) (hf : fits (tyX5 7) w = true) (hd : decode cc pc = .ok (.putfield idx, 3)) (hq : pc + 3 = q) (kk : hX E cells slots q lo st (hU M a t (eO 5 [v0, v1, v2, v3, v4, v5, v6, w, v8, v9]))) : hX E cells slots pc lo (w :: .ref a :: st) M := x_putf q 7 C wu_X5 wcl_X5 (by decide) tyX5 tyX5_ok nmX5 hl (Or.inl rfl) hM hn hf (by simp) hd hq kk
theorem xg_X5_oldest (q : Nat) (C : hCx E K cc n own nm R) {idx a t : Nat} {v0 v1 v2 v3 v4 v5 v6 v7 v8 v9 : Value} (hl : hFl own idx TX5 8) (hM : M a = some (t, eO 5 [v0, v1, v2, v3, v4, v5, v6, v7, v8, v9])) (hd : decode cc pc = .ok (.getfield idx, 3)) (hq : pc + 3 = q) (kk : hX E cells slots q lo (v8 :: st) M) : hX E cells slots pc lo (.ref a :: st) M := x_getf q 8 C wu_X5 wcl_X5 (by decide) hl hM rfl hd hq kk
theorem xp_X5_oldest (q : Nat) (C : hCx E K cc n own nm R) {idx a t : Nat} {v0 v1 v2 v3 v4 v5 v6 v7 v8 v9 w : Value} (hl : hFl own idx TX5 8) (hM : M a = some (t, eO 5 [v0, v1, v2, v3, v4, v5, v6, v7, v8, v9])) (hn : narrow (tyX5 8) w = w) (hf : fits (tyX5 8) w = true) (hd : decode cc pc = .ok (.putfield idx, 3)) (hq : pc + 3 = q) (kk : hX E cells slots q lo st (hU M a t (eO 5 [v0, v1, v2, v3, v4, v5, v6, v7, w, v9]))) : hX E cells slots pc lo (w :: .ref a :: st) M := x_putf q 8 C wu_X5 wcl_X5 (by decide) tyX5 tyX5_ok nmX5 hl (Or.inl rfl) hM hn hf (by simp) hd hq kk
theorem xg_X5_changes (q : Nat) (C : hCx E K cc n own nm R) {idx a t : Nat} {v0 v1 v2 v3 v4 v5 v6 v7 v8 v9 : Value} (hl : hFl own idx TX5 9) (hM : M a = some (t, eO 5 [v0, v1, v2, v3, v4, v5, v6, v7, v8, v9])) (hd : decode cc pc = .ok (.getfield idx, 3)) (hq : pc + 3 = q) (kk : hX E cells slots q lo (v9 :: st) M) : hX E cells slots pc lo (.ref a :: st) M := x_getf q 9 C wu_X5 wcl_X5 (by decide) hl hM rfl hd hq kk
theorem xp_X5_changes (q : Nat) (C : hCx E K cc n own nm R) {idx a t : Nat} {v0 v1 v2 v3 v4 v5 v6 v7 v8 v9 w : Value} (hl : hFl own idx TX5 9) (hM : M a = some (t, eO 5 [v0, v1, v2, v3, v4, v5, v6, v7, v8, v9])) (hn : narrow (tyX5 9) w = w) (hf : fits (tyX5 9) w = true) (hd : decode cc pc = .ok (.putfield idx, 3)) (hq : pc + 3 = q) (kk : hX E cells slots q lo st (hU M a t (eO 5 [v0, v1, v2, v3, v4, v5, v6, v7, v8, w]))) : hX E cells slots pc lo (w :: .ref a :: st) M := x_putf q 9 C wu_X5 wcl_X5 (by decide) tyX5 tyX5_ok nmX5 hl (Or.inl rfl) hM hn hf (by simp) hd hq kk
theorem xg_X6_now (q : Nat) (C : hCx E K cc n own nm R) {idx a t : Nat} {v0 v1 v2 v3 v4 v5 v6 v7 v8 v9 v10 v11 v12 v13 v14 v15 v16 v17 v18 v19 v20 v21 v22 v23 v24 : Value} (hl : hFl own idx TX6 0) (hM : M a = some (t, eO 6 [v0, v1, v2, v3, v4, v5, v6, v7, v8, v9, v10, v11, v12, v13, v14, v15, v16, v17, v18, v19, v20, v21, v22, v23, v24])) (hd : decode cc pc = .ok (.getfield idx, 3)) (hq : pc + 3 = q) (kk : hX E cells slots q lo (v0 :: st) M) : hX E cells slots pc lo (.ref a :: st) M := x_getf q 0 C wu_X6 wcl_X6 (by decide) hl hM rfl hd hq kk
theorem xp_X6_now (q : Nat) (C : hCx E K cc n own nm R) {idx a t : Nat} {v0 v1 v2 v3 v4 v5 v6 v7 v8 v9 v10 v11 v12 v13 v14 v15 v16 v17 v18 v19 v20 v21 v22 v23 v24 w : Value} (hl : hFl own idx TX6 0) (hnm : nm = "<init>") (howd : (TX6 0).1 = own) (hlw : Cond.fieldLink own idx (TX6 0).1 (TX6 0).2.1 (TX6 0).2.2.1 ∈ WA) (hM : M a = some (t, eO 6 [v0, v1, v2, v3, v4, v5, v6, v7, v8, v9, v10, v11, v12, v13, v14, v15, v16, v17, v18, v19, v20, v21, v22, v23, v24])) (hn : narrow (tyX6 0) w = w) (hf : fits (tyX6 0) w = true) (hd : decode cc pc = .ok (.putfield idx, 3)) (hq : pc + 3 = q) (kk : hX E cells slots q lo st (hU M a t (eO 6 [w, v1, v2, v3, v4, v5, v6, v7, v8, v9, v10, v11, v12, v13, v14, v15, v16, v17, v18, v19, v20, v21, v22, v23, v24]))) : hX E cells slots pc lo (w :: .ref a :: st) M := x_putf q 0 C wu_X6 wcl_X6 (by decide) tyX6 tyX6_ok nmX6 hl (Or.inr ⟨rfl, hnm, howd, hlw⟩) hM hn hf (by simp) hd hq kk
theorem xg_X6_cells (q : Nat) (C : hCx E K cc n own nm R) {idx a t : Nat} {v0 v1 v2 v3 v4 v5 v6 v7 v8 v9 v10 v11 v12 v13 v14 v15 v16 v17 v18 v19 v20 v21 v22 v23 v24 : Value} (hl : hFl own idx TX6 1) (hM : M a = some (t, eO 6 [v0, v1, v2, v3, v4, v5, v6, v7, v8, v9, v10, v11, v12, v13, v14, v15, v16, v17, v18, v19, v20, v21, v22, v23, v24])) (hd : decode cc pc = .ok (.getfield idx, 3)) (hq : pc + 3 = q) (kk : hX E cells slots q lo (v1 :: st) M) : hX E cells slots pc lo (.ref a :: st) M := x_getf q 1 C wu_X6 wcl_X6 (by decide) hl hM rfl hd hq kk
theorem xp_X6_cells (q : Nat) (C : hCx E K cc n own nm R) {idx a t : Nat} {v0 v1 v2 v3 v4 v5 v6 v7 v8 v9 v10 v11 v12 v13 v14 v15 v16 v17 v18 v19 v20 v21 v22 v23 v24 w : Value} (hl : hFl own idx TX6 1) (hnm : nm = "<init>") (howd : (TX6 1).1 = own) (hlw : Cond.fieldLink own idx (TX6 1).1 (TX6 1).2.1 (TX6 1).2.2.1 ∈ WA) (hM : M a = some (t, eO 6 [v0, v1, v2, v3, v4, v5, v6, v7, v8, v9, v10, v11, v12, v13, v14, v15, v16, v17, v18, v19, v20, v21, v22, v23, v24])) (hn : narrow (tyX6 1) w = w) (hf : fits (tyX6 1) w = true) (hd : decode cc pc = .ok (.putfield idx, 3)) (hq : pc + 3 = q) (kk : hX E cells slots q lo st (hU M a t (eO 6 [v0, w, v2, v3, v4, v5, v6, v7, v8, v9, v10, v11, v12, v13, v14, v15, v16, v17, v18, v19, v20, v21, v22, v23, v24]))) : hX E cells slots pc lo (w :: .ref a :: st) M := x_putf q 1 C wu_X6 wcl_X6 (by decide) tyX6 tyX6_ok nmX6 hl (Or.inr ⟨rfl, hnm, howd, hlw⟩) hM hn hf (by simp) hd hq kk
theorem xg_X6_history (q : Nat) (C : hCx E K cc n own nm R) {idx a t : Nat} {v0 v1 v2 v3 v4 v5 v6 v7 v8 v9 v10 v11 v12 v13 v14 v15 v16 v17 v18 v19 v20 v21 v22 v23 v24 : Value} (hl : hFl own idx TX6 2) (hM : M a = some (t, eO 6 [v0, v1, v2, v3, v4, v5, v6, v7, v8, v9, v10, v11, v12, v13, v14, v15, v16, v17, v18, v19, v20, v21, v22, v23, v24])) (hd : decode cc pc = .ok (.getfield idx, 3)) (hq : pc + 3 = q) (kk : hX E cells slots q lo (v2 :: st) M) : hX E cells slots pc lo (.ref a :: st) M := x_getf q 2 C wu_X6 wcl_X6 (by decide) hl hM rfl hd hq kk
theorem xp_X6_history (q : Nat) (C : hCx E K cc n own nm R) {idx a t : Nat} {v0 v1 v2 v3 v4 v5 v6 v7 v8 v9 v10 v11 v12 v13 v14 v15 v16 v17 v18 v19 v20 v21 v22 v23 v24 w : Value} (hl : hFl own idx TX6 2) (hnm : nm = "<init>") (howd : (TX6 2).1 = own) (hlw : Cond.fieldLink own idx (TX6 2).1 (TX6 2).2.1 (TX6 2).2.2.1 ∈ WA) (hM : M a = some (t, eO 6 [v0, v1, v2, v3, v4, v5, v6, v7, v8, v9, v10, v11, v12, v13, v14, v15, v16, v17, v18, v19, v20, v21, v22, v23, v24])) (hn : narrow (tyX6 2) w = w) (hf : fits (tyX6 2) w = true) (hd : decode cc pc = .ok (.putfield idx, 3)) (hq : pc + 3 = q) (kk : hX E cells slots q lo st (hU M a t (eO 6 [v0, v1, w, v3, v4, v5, v6, v7, v8, v9, v10, v11, v12, v13, v14, v15, v16, v17, v18, v19, v20, v21, v22, v23, v24]))) : hX E cells slots pc lo (w :: .ref a :: st) M := x_putf q 2 C wu_X6 wcl_X6 (by decide) tyX6 tyX6_ok nmX6 hl (Or.inr ⟨rfl, hnm, howd, hlw⟩) hM hn hf (by simp) hd hq kk
theorem xg_X6_historyCells (q : Nat) (C : hCx E K cc n own nm R) {idx a t : Nat} {v0 v1 v2 v3 v4 v5 v6 v7 v8 v9 v10 v11 v12 v13 v14 v15 v16 v17 v18 v19 v20 v21 v22 v23 v24 : Value} (hl : hFl own idx TX6 3) (hM : M a = some (t, eO 6 [v0, v1, v2, v3, v4, v5, v6, v7, v8, v9, v10, v11, v12, v13, v14, v15, v16, v17, v18, v19, v20, v21, v22, v23, v24])) (hd : decode cc pc = .ok (.getfield idx, 3)) (hq : pc + 3 = q) (kk : hX E cells slots q lo (v3 :: st) M) : hX E cells slots pc lo (.ref a :: st) M := x_getf q 3 C wu_X6 wcl_X6 (by decide) hl hM rfl hd hq kk
theorem xp_X6_historyCells (q : Nat) (C : hCx E K cc n own nm R) {idx a t : Nat} {v0 v1 v2 v3 v4 v5 v6 v7 v8 v9 v10 v11 v12 v13 v14 v15 v16 v17 v18 v19 v20 v21 v22 v23 v24 w : Value} (hl : hFl own idx TX6 3) (hnm : nm = "<init>") (howd : (TX6 3).1 = own) (hlw : Cond.fieldLink own idx (TX6 3).1 (TX6 3).2.1 (TX6 3).2.2.1 ∈ WA) (hM : M a = some (t, eO 6 [v0, v1, v2, v3, v4, v5, v6, v7, v8, v9, v10, v11, v12, v13, v14, v15, v16, v17, v18, v19, v20, v21, v22, v23, v24])) (hn : narrow (tyX6 3) w = w) (hf : fits (tyX6 3) w = true) (hd : decode cc pc = .ok (.putfield idx, 3)) (hq : pc + 3 = q) (kk : hX E cells slots q lo st (hU M a t (eO 6 [v0, v1, v2, w, v4, v5, v6, v7, v8, v9, v10, v11, v12, v13, v14, v15, v16, v17, v18, v19, v20, v21, v22, v23, v24]))) : hX E cells slots pc lo (w :: .ref a :: st) M := x_putf q 3 C wu_X6 wcl_X6 (by decide) tyX6 tyX6_ok nmX6 hl (Or.inr ⟨rfl, hnm, howd, hlw⟩) hM hn hf (by simp) hd hq kk
theorem xg_X6_undos (q : Nat) (C : hCx E K cc n own nm R) {idx a t : Nat} {v0 v1 v2 v3 v4 v5 v6 v7 v8 v9 v10 v11 v12 v13 v14 v15 v16 v17 v18 v19 v20 v21 v22 v23 v24 : Value} (hl : hFl own idx TX6 4) (hM : M a = some (t, eO 6 [v0, v1, v2, v3, v4, v5, v6, v7, v8, v9, v10, v11, v12, v13, v14, v15, v16, v17, v18, v19, v20, v21, v22, v23, v24])) (hd : decode cc pc = .ok (.getfield idx, 3)) (hq : pc + 3 = q) (kk : hX E cells slots q lo (v4 :: st) M) : hX E cells slots pc lo (.ref a :: st) M := x_getf q 4 C wu_X6 wcl_X6 (by decide) hl hM rfl hd hq kk
theorem xp_X6_undos (q : Nat) (C : hCx E K cc n own nm R) {idx a t : Nat} {v0 v1 v2 v3 v4 v5 v6 v7 v8 v9 v10 v11 v12 v13 v14 v15 v16 v17 v18 v19 v20 v21 v22 v23 v24 w : Value} (hl : hFl own idx TX6 4) (hM : M a = some (t, eO 6 [v0, v1, v2, v3, v4, v5, v6, v7, v8, v9, v10, v11, v12, v13, v14, v15, v16, v17, v18, v19, v20, v21, v22, v23, v24])) (hn : narrow (tyX6 4) w = w) (hf : fits (tyX6 4) w = true) (hd : decode cc pc = .ok (.putfield idx, 3)) (hq : pc + 3 = q) (kk : hX E cells slots q lo st (hU M a t (eO 6 [v0, v1, v2, v3, w, v5, v6, v7, v8, v9, v10, v11, v12, v13, v14, v15, v16, v17, v18, v19, v20, v21, v22, v23, v24]))) : hX E cells slots pc lo (w :: .ref a :: st) M := x_putf q 4 C wu_X6 wcl_X6 (by decide) tyX6 tyX6_ok nmX6 hl (Or.inl rfl) hM hn hf (by simp) hd hq kk
theorem xg_X6_saved (q : Nat) (C : hCx E K cc n own nm R) {idx a t : Nat} {v0 v1 v2 v3 v4 v5 v6 v7 v8 v9 v10 v11 v12 v13 v14 v15 v16 v17 v18 v19 v20 v21 v22 v23 v24 : Value} (hl : hFl own idx TX6 5) (hM : M a = some (t, eO 6 [v0, v1, v2, v3, v4, v5, v6, v7, v8, v9, v10, v11, v12, v13, v14, v15, v16, v17, v18, v19, v20, v21, v22, v23, v24])) (hd : decode cc pc = .ok (.getfield idx, 3)) (hq : pc + 3 = q) (kk : hX E cells slots q lo (v5 :: st) M) : hX E cells slots pc lo (.ref a :: st) M := x_getf q 5 C wu_X6 wcl_X6 (by decide) hl hM rfl hd hq kk
theorem xp_X6_saved (q : Nat) (C : hCx E K cc n own nm R) {idx a t : Nat} {v0 v1 v2 v3 v4 v5 v6 v7 v8 v9 v10 v11 v12 v13 v14 v15 v16 v17 v18 v19 v20 v21 v22 v23 v24 w : Value} (hl : hFl own idx TX6 5) (hnm : nm = "<init>") (howd : (TX6 5).1 = own) (hlw : Cond.fieldLink own idx (TX6 5).1 (TX6 5).2.1 (TX6 5).2.2.1 ∈ WA) (hM : M a = some (t, eO 6 [v0, v1, v2, v3, v4, v5, v6, v7, v8, v9, v10, v11, v12, v13, v14, v15, v16, v17, v18, v19, v20, v21, v22, v23, v24])) (hn : narrow (tyX6 5) w = w) (hf : fits (tyX6 5) w = true) (hd : decode cc pc = .ok (.putfield idx, 3)) (hq : pc + 3 = q) (kk : hX E cells slots q lo st (hU M a t (eO 6 [v0, v1, v2, v3, v4, w, v6, v7, v8, v9, v10, v11, v12, v13, v14, v15, v16, v17, v18, v19, v20, v21, v22, v23, v24]))) : hX E cells slots pc lo (w :: .ref a :: st) M := x_putf q 5 C wu_X6 wcl_X6 (by decide) tyX6 tyX6_ok nmX6 hl (Or.inr ⟨rfl, hnm, howd, hlw⟩) hM hn hf (by simp) hd hq kk
theorem xg_X6_savedCells (q : Nat) (C : hCx E K cc n own nm R) {idx a t : Nat} {v0 v1 v2 v3 v4 v5 v6 v7 v8 v9 v10 v11 v12 v13 v14 v15 v16 v17 v18 v19 v20 v21 v22 v23 v24 : Value} (hl : hFl own idx TX6 6) (hM : M a = some (t, eO 6 [v0, v1, v2, v3, v4, v5, v6, v7, v8, v9, v10, v11, v12, v13, v14, v15, v16, v17, v18, v19, v20, v21, v22, v23, v24])) (hd : decode cc pc = .ok (.getfield idx, 3)) (hq : pc + 3 = q) (kk : hX E cells slots q lo (v6 :: st) M) : hX E cells slots pc lo (.ref a :: st) M := x_getf q 6 C wu_X6 wcl_X6 (by decide) hl hM rfl hd hq kk
theorem xp_X6_savedCells (q : Nat) (C : hCx E K cc n own nm R) {idx a t : Nat} {v0 v1 v2 v3 v4 v5 v6 v7 v8 v9 v10 v11 v12 v13 v14 v15 v16 v17 v18 v19 v20 v21 v22 v23 v24 w : Value} (hl : hFl own idx TX6 6) (hnm : nm = "<init>") (howd : (TX6 6).1 = own) (hlw : Cond.fieldLink own idx (TX6 6).1 (TX6 6).2.1 (TX6 6).2.2.1 ∈ WA) (hM : M a = some (t, eO 6 [v0, v1, v2, v3, v4, v5, v6, v7, v8, v9, v10, v11, v12, v13, v14, v15, v16, v17, v18, v19, v20, v21, v22, v23, v24])) (hn : narrow (tyX6 6) w = w) (hf : fits (tyX6 6) w = true) (hd : decode cc pc = .ok (.putfield idx, 3)) (hq : pc + 3 = q) (kk : hX E cells slots q lo st (hU M a t (eO 6 [v0, v1, v2, v3, v4, v5, w, v7, v8, v9, v10, v11, v12, v13, v14, v15, v16, v17, v18, v19, v20, v21, v22, v23, v24]))) : hX E cells slots pc lo (w :: .ref a :: st) M := x_putf q 6 C wu_X6 wcl_X6 (by decide) tyX6 tyX6_ok nmX6 hl (Or.inr ⟨rfl, hnm, howd, hlw⟩) hM hn hf (by simp) hd hq kk
theorem xg_X6_isSaved (q : Nat) (C : hCx E K cc n own nm R) {idx a t : Nat} {v0 v1 v2 v3 v4 v5 v6 v7 v8 v9 v10 v11 v12 v13 v14 v15 v16 v17 v18 v19 v20 v21 v22 v23 v24 : Value} (hl : hFl own idx TX6 7) (hM : M a = some (t, eO 6 [v0, v1, v2, v3, v4, v5, v6, v7, v8, v9, v10, v11, v12, v13, v14, v15, v16, v17, v18, v19, v20, v21, v22, v23, v24])) (hd : decode cc pc = .ok (.getfield idx, 3)) (hq : pc + 3 = q) (kk : hX E cells slots q lo (v7 :: st) M) : hX E cells slots pc lo (.ref a :: st) M := x_getf q 7 C wu_X6 wcl_X6 (by decide) hl hM rfl hd hq kk
theorem xp_X6_isSaved (q : Nat) (C : hCx E K cc n own nm R) {idx a t : Nat} {v0 v1 v2 v3 v4 v5 v6 v7 v8 v9 v10 v11 v12 v13 v14 v15 v16 v17 v18 v19 v20 v21 v22 v23 v24 w : Value} (hl : hFl own idx TX6 7) (hnm : nm = "<init>") (howd : (TX6 7).1 = own) (hlw : Cond.fieldLink own idx (TX6 7).1 (TX6 7).2.1 (TX6 7).2.2.1 ∈ WA) (hM : M a = some (t, eO 6 [v0, v1, v2, v3, v4, v5, v6, v7, v8, v9, v10, v11, v12, v13, v14, v15, v16, v17, v18, v19, v20, v21, v22, v23, v24])) (hn : narrow (tyX6 7) w = w) (hf : fits (tyX6 7) w = true) (hd : decode cc pc = .ok (.putfield idx, 3)) (hq : pc + 3 = q) (kk : hX E cells slots q lo st (hU M a t (eO 6 [v0, v1, v2, v3, v4, v5, v6, w, v8, v9, v10, v11, v12, v13, v14, v15, v16, v17, v18, v19, v20, v21, v22, v23, v24]))) : hX E cells slots pc lo (w :: .ref a :: st) M := x_putf q 7 C wu_X6 wcl_X6 (by decide) tyX6 tyX6_ok nmX6 hl (Or.inr ⟨rfl, hnm, howd, hlw⟩) hM hn hf (by simp) hd hq kk
theorem xg_X6_pad (q : Nat) (C : hCx E K cc n own nm R) {idx a t : Nat} {v0 v1 v2 v3 v4 v5 v6 v7 v8 v9 v10 v11 v12 v13 v14 v15 v16 v17 v18 v19 v20 v21 v22 v23 v24 : Value} (hl : hFl own idx TX6 8) (hM : M a = some (t, eO 6 [v0, v1, v2, v3, v4, v5, v6, v7, v8, v9, v10, v11, v12, v13, v14, v15, v16, v17, v18, v19, v20, v21, v22, v23, v24])) (hd : decode cc pc = .ok (.getfield idx, 3)) (hq : pc + 3 = q) (kk : hX E cells slots q lo (v8 :: st) M) : hX E cells slots pc lo (.ref a :: st) M := x_getf q 8 C wu_X6 wcl_X6 (by decide) hl hM rfl hd hq kk
theorem xp_X6_pad (q : Nat) (C : hCx E K cc n own nm R) {idx a t : Nat} {v0 v1 v2 v3 v4 v5 v6 v7 v8 v9 v10 v11 v12 v13 v14 v15 v16 v17 v18 v19 v20 v21 v22 v23 v24 w : Value} (hl : hFl own idx TX6 8) (hnm : nm = "<init>") (howd : (TX6 8).1 = own) (hlw : Cond.fieldLink own idx (TX6 8).1 (TX6 8).2.1 (TX6 8).2.2.1 ∈ WA) (hM : M a = some (t, eO 6 [v0, v1, v2, v3, v4, v5, v6, v7, v8, v9, v10, v11, v12, v13, v14, v15, v16, v17, v18, v19, v20, v21, v22, v23, v24])) (hn : narrow (tyX6 8) w = w) (hf : fits (tyX6 8) w = true) (hd : decode cc pc = .ok (.putfield idx, 3)) (hq : pc + 3 = q) (kk : hX E cells slots q lo st (hU M a t (eO 6 [v0, v1, v2, v3, v4, v5, v6, v7, w, v9, v10, v11, v12, v13, v14, v15, v16, v17, v18, v19, v20, v21, v22, v23, v24]))) : hX E cells slots pc lo (w :: .ref a :: st) M := x_putf q 8 C wu_X6 wcl_X6 (by decide) tyX6 tyX6_ok nmX6 hl (Or.inr ⟨rfl, hnm, howd, hlw⟩) hM hn hf (by simp) hd hq kk
theorem xg_X6_signs (q : Nat) (C : hCx E K cc n own nm R) {idx a t : Nat} {v0 v1 v2 v3 v4 v5 v6 v7 v8 v9 v10 v11 v12 v13 v14 v15 v16 v17 v18 v19 v20 v21 v22 v23 v24 : Value} (hl : hFl own idx TX6 9) (hM : M a = some (t, eO 6 [v0, v1, v2, v3, v4, v5, v6, v7, v8, v9, v10, v11, v12, v13, v14, v15, v16, v17, v18, v19, v20, v21, v22, v23, v24])) (hd : decode cc pc = .ok (.getfield idx, 3)) (hq : pc + 3 = q) (kk : hX E cells slots q lo (v9 :: st) M) : hX E cells slots pc lo (.ref a :: st) M := x_getf q 9 C wu_X6 wcl_X6 (by decide) hl hM rfl hd hq kk
theorem xp_X6_signs (q : Nat) (C : hCx E K cc n own nm R) {idx a t : Nat} {v0 v1 v2 v3 v4 v5 v6 v7 v8 v9 v10 v11 v12 v13 v14 v15 v16 v17 v18 v19 v20 v21 v22 v23 v24 w : Value} (hl : hFl own idx TX6 9) (hM : M a = some (t, eO 6 [v0, v1, v2, v3, v4, v5, v6, v7, v8, v9, v10, v11, v12, v13, v14, v15, v16, v17, v18, v19, v20, v21, v22, v23, v24])) (hn : narrow (tyX6 9) w = w) (hf : fits (tyX6 9) w = true) (hd : decode cc pc = .ok (.putfield idx, 3)) (hq : pc + 3 = q) (kk : hX E cells slots q lo st (hU M a t (eO 6 [v0, v1, v2, v3, v4, v5, v6, v7, v8, w, v10, v11, v12, v13, v14, v15, v16, v17, v18, v19, v20, v21, v22, v23, v24]))) : hX E cells slots pc lo (w :: .ref a :: st) M := x_putf q 9 C wu_X6 wcl_X6 (by decide) tyX6 tyX6_ok nmX6 hl (Or.inl rfl) hM hn hf (by simp) hd hq kk
theorem xg_X6_kind (q : Nat) (C : hCx E K cc n own nm R) {idx a t : Nat} {v0 v1 v2 v3 v4 v5 v6 v7 v8 v9 v10 v11 v12 v13 v14 v15 v16 v17 v18 v19 v20 v21 v22 v23 v24 : Value} (hl : hFl own idx TX6 10) (hM : M a = some (t, eO 6 [v0, v1, v2, v3, v4, v5, v6, v7, v8, v9, v10, v11, v12, v13, v14, v15, v16, v17, v18, v19, v20, v21, v22, v23, v24])) (hd : decode cc pc = .ok (.getfield idx, 3)) (hq : pc + 3 = q) (kk : hX E cells slots q lo (v10 :: st) M) : hX E cells slots pc lo (.ref a :: st) M := x_getf q 10 C wu_X6 wcl_X6 (by decide) hl hM rfl hd hq kk
theorem xp_X6_kind (q : Nat) (C : hCx E K cc n own nm R) {idx a t : Nat} {v0 v1 v2 v3 v4 v5 v6 v7 v8 v9 v10 v11 v12 v13 v14 v15 v16 v17 v18 v19 v20 v21 v22 v23 v24 w : Value} (hl : hFl own idx TX6 10) (hnm : nm = "<init>") (howd : (TX6 10).1 = own) (hlw : Cond.fieldLink own idx (TX6 10).1 (TX6 10).2.1 (TX6 10).2.2.1 ∈ WA) (hM : M a = some (t, eO 6 [v0, v1, v2, v3, v4, v5, v6, v7, v8, v9, v10, v11, v12, v13, v14, v15, v16, v17, v18, v19, v20, v21, v22, v23, v24])) (hn : narrow (tyX6 10) w = w) (hf : fits (tyX6 10) w = true) (hd : decode cc pc = .ok (.putfield idx, 3)) (hq : pc + 3 = q) (kk : hX E cells slots q lo st (hU M a t (eO 6 [v0, v1, v2, v3, v4, v5, v6, v7, v8, v9, w, v11, v12, v13, v14, v15, v16, v17, v18, v19, v20, v21, v22, v23, v24]))) : hX E cells slots pc lo (w :: .ref a :: st) M := x_putf q 10 C wu_X6 wcl_X6 (by decide) tyX6 tyX6_ok nmX6 hl (Or.inr ⟨rfl, hnm, howd, hlw⟩) hM hn hf (by simp) hd hq kk
theorem xg_X6_arg (q : Nat) (C : hCx E K cc n own nm R) {idx a t : Nat} {v0 v1 v2 v3 v4 v5 v6 v7 v8 v9 v10 v11 v12 v13 v14 v15 v16 v17 v18 v19 v20 v21 v22 v23 v24 : Value} (hl : hFl own idx TX6 11) (hM : M a = some (t, eO 6 [v0, v1, v2, v3, v4, v5, v6, v7, v8, v9, v10, v11, v12, v13, v14, v15, v16, v17, v18, v19, v20, v21, v22, v23, v24])) (hd : decode cc pc = .ok (.getfield idx, 3)) (hq : pc + 3 = q) (kk : hX E cells slots q lo (v11 :: st) M) : hX E cells slots pc lo (.ref a :: st) M := x_getf q 11 C wu_X6 wcl_X6 (by decide) hl hM rfl hd hq kk
theorem xp_X6_arg (q : Nat) (C : hCx E K cc n own nm R) {idx a t : Nat} {v0 v1 v2 v3 v4 v5 v6 v7 v8 v9 v10 v11 v12 v13 v14 v15 v16 v17 v18 v19 v20 v21 v22 v23 v24 w : Value} (hl : hFl own idx TX6 11) (hnm : nm = "<init>") (howd : (TX6 11).1 = own) (hlw : Cond.fieldLink own idx (TX6 11).1 (TX6 11).2.1 (TX6 11).2.2.1 ∈ WA) (hM : M a = some (t, eO 6 [v0, v1, v2, v3, v4, v5, v6, v7, v8, v9, v10, v11, v12, v13, v14, v15, v16, v17, v18, v19, v20, v21, v22, v23, v24])) (hn : narrow (tyX6 11) w = w) (hf : fits (tyX6 11) w = true) (hd : decode cc pc = .ok (.putfield idx, 3)) (hq : pc + 3 = q) (kk : hX E cells slots q lo st (hU M a t (eO 6 [v0, v1, v2, v3, v4, v5, v6, v7, v8, v9, v10, w, v12, v13, v14, v15, v16, v17, v18, v19, v20, v21, v22, v23, v24]))) : hX E cells slots pc lo (w :: .ref a :: st) M := x_putf q 11 C wu_X6 wcl_X6 (by decide) tyX6 tyX6_ok nmX6 hl (Or.inr ⟨rfl, hnm, howd, hlw⟩) hM hn hf (by simp) hd hq kk
theorem xg_X6_read (q : Nat) (C : hCx E K cc n own nm R) {idx a t : Nat} {v0 v1 v2 v3 v4 v5 v6 v7 v8 v9 v10 v11 v12 v13 v14 v15 v16 v17 v18 v19 v20 v21 v22 v23 v24 : Value} (hl : hFl own idx TX6 12) (hM : M a = some (t, eO 6 [v0, v1, v2, v3, v4, v5, v6, v7, v8, v9, v10, v11, v12, v13, v14, v15, v16, v17, v18, v19, v20, v21, v22, v23, v24])) (hd : decode cc pc = .ok (.getfield idx, 3)) (hq : pc + 3 = q) (kk : hX E cells slots q lo (v12 :: st) M) : hX E cells slots pc lo (.ref a :: st) M := x_getf q 12 C wu_X6 wcl_X6 (by decide) hl hM rfl hd hq kk
theorem xp_X6_read (q : Nat) (C : hCx E K cc n own nm R) {idx a t : Nat} {v0 v1 v2 v3 v4 v5 v6 v7 v8 v9 v10 v11 v12 v13 v14 v15 v16 v17 v18 v19 v20 v21 v22 v23 v24 w : Value} (hl : hFl own idx TX6 12) (hM : M a = some (t, eO 6 [v0, v1, v2, v3, v4, v5, v6, v7, v8, v9, v10, v11, v12, v13, v14, v15, v16, v17, v18, v19, v20, v21, v22, v23, v24])) (hn : narrow (tyX6 12) w = w) (hf : fits (tyX6 12) w = true) (hd : decode cc pc = .ok (.putfield idx, 3)) (hq : pc + 3 = q) (kk : hX E cells slots q lo st (hU M a t (eO 6 [v0, v1, v2, v3, v4, v5, v6, v7, v8, v9, v10, v11, w, v13, v14, v15, v16, v17, v18, v19, v20, v21, v22, v23, v24]))) : hX E cells slots pc lo (w :: .ref a :: st) M := x_putf q 12 C wu_X6 wcl_X6 (by decide) tyX6 tyX6_ok nmX6 hl (Or.inl rfl) hM hn hf (by simp) hd hq kk
theorem xg_X6_open (q : Nat) (C : hCx E K cc n own nm R) {idx a t : Nat} {v0 v1 v2 v3 v4 v5 v6 v7 v8 v9 v10 v11 v12 v13 v14 v15 v16 v17 v18 v19 v20 v21 v22 v23 v24 : Value} (hl : hFl own idx TX6 13) (hM : M a = some (t, eO 6 [v0, v1, v2, v3, v4, v5, v6, v7, v8, v9, v10, v11, v12, v13, v14, v15, v16, v17, v18, v19, v20, v21, v22, v23, v24])) (hd : decode cc pc = .ok (.getfield idx, 3)) (hq : pc + 3 = q) (kk : hX E cells slots q lo (v13 :: st) M) : hX E cells slots pc lo (.ref a :: st) M := x_getf q 13 C wu_X6 wcl_X6 (by decide) hl hM rfl hd hq kk
theorem xp_X6_open (q : Nat) (C : hCx E K cc n own nm R) {idx a t : Nat} {v0 v1 v2 v3 v4 v5 v6 v7 v8 v9 v10 v11 v12 v13 v14 v15 v16 v17 v18 v19 v20 v21 v22 v23 v24 w : Value} (hl : hFl own idx TX6 13) (hnm : nm = "<init>") (howd : (TX6 13).1 = own) (hlw : Cond.fieldLink own idx (TX6 13).1 (TX6 13).2.1 (TX6 13).2.2.1 ∈ WA) (hM : M a = some (t, eO 6 [v0, v1, v2, v3, v4, v5, v6, v7, v8, v9, v10, v11, v12, v13, v14, v15, v16, v17, v18, v19, v20, v21, v22, v23, v24])) (hn : narrow (tyX6 13) w = w) (hf : fits (tyX6 13) w = true) (hd : decode cc pc = .ok (.putfield idx, 3)) (hq : pc + 3 = q) (kk : hX E cells slots q lo st (hU M a t (eO 6 [v0, v1, v2, v3, v4, v5, v6, v7, v8, v9, v10, v11, v12, w, v14, v15, v16, v17, v18, v19, v20, v21, v22, v23, v24]))) : hX E cells slots pc lo (w :: .ref a :: st) M := x_putf q 13 C wu_X6 wcl_X6 (by decide) tyX6 tyX6_ok nmX6 hl (Or.inr ⟨rfl, hnm, howd, hlw⟩) hM hn hf (by simp) hd hq kk
theorem xg_X6_opened (q : Nat) (C : hCx E K cc n own nm R) {idx a t : Nat} {v0 v1 v2 v3 v4 v5 v6 v7 v8 v9 v10 v11 v12 v13 v14 v15 v16 v17 v18 v19 v20 v21 v22 v23 v24 : Value} (hl : hFl own idx TX6 14) (hM : M a = some (t, eO 6 [v0, v1, v2, v3, v4, v5, v6, v7, v8, v9, v10, v11, v12, v13, v14, v15, v16, v17, v18, v19, v20, v21, v22, v23, v24])) (hd : decode cc pc = .ok (.getfield idx, 3)) (hq : pc + 3 = q) (kk : hX E cells slots q lo (v14 :: st) M) : hX E cells slots pc lo (.ref a :: st) M := x_getf q 14 C wu_X6 wcl_X6 (by decide) hl hM rfl hd hq kk
theorem xp_X6_opened (q : Nat) (C : hCx E K cc n own nm R) {idx a t : Nat} {v0 v1 v2 v3 v4 v5 v6 v7 v8 v9 v10 v11 v12 v13 v14 v15 v16 v17 v18 v19 v20 v21 v22 v23 v24 w : Value} (hl : hFl own idx TX6 14) (hM : M a = some (t, eO 6 [v0, v1, v2, v3, v4, v5, v6, v7, v8, v9, v10, v11, v12, v13, v14, v15, v16, v17, v18, v19, v20, v21, v22, v23, v24])) (hn : narrow (tyX6 14) w = w) (hf : fits (tyX6 14) w = true) (hd : decode cc pc = .ok (.putfield idx, 3)) (hq : pc + 3 = q) (kk : hX E cells slots q lo st (hU M a t (eO 6 [v0, v1, v2, v3, v4, v5, v6, v7, v8, v9, v10, v11, v12, v13, w, v15, v16, v17, v18, v19, v20, v21, v22, v23, v24]))) : hX E cells slots pc lo (w :: .ref a :: st) M := x_putf q 14 C wu_X6 wcl_X6 (by decide) tyX6 tyX6_ok nmX6 hl (Or.inl rfl) hM hn hf (by simp) hd hq kk
theorem xg_X6_depth (q : Nat) (C : hCx E K cc n own nm R) {idx a t : Nat} {v0 v1 v2 v3 v4 v5 v6 v7 v8 v9 v10 v11 v12 v13 v14 v15 v16 v17 v18 v19 v20 v21 v22 v23 v24 : Value} (hl : hFl own idx TX6 15) (hM : M a = some (t, eO 6 [v0, v1, v2, v3, v4, v5, v6, v7, v8, v9, v10, v11, v12, v13, v14, v15, v16, v17, v18, v19, v20, v21, v22, v23, v24])) (hd : decode cc pc = .ok (.getfield idx, 3)) (hq : pc + 3 = q) (kk : hX E cells slots q lo (v15 :: st) M) : hX E cells slots pc lo (.ref a :: st) M := x_getf q 15 C wu_X6 wcl_X6 (by decide) hl hM rfl hd hq kk
theorem xp_X6_depth (q : Nat) (C : hCx E K cc n own nm R) {idx a t : Nat} {v0 v1 v2 v3 v4 v5 v6 v7 v8 v9 v10 v11 v12 v13 v14 v15 v16 v17 v18 v19 v20 v21 v22 v23 v24 w : Value} (hl : hFl own idx TX6 15) (hM : M a = some (t, eO 6 [v0, v1, v2, v3, v4, v5, v6, v7, v8, v9, v10, v11, v12, v13, v14, v15, v16, v17, v18, v19, v20, v21, v22, v23, v24])) (hn : narrow (tyX6 15) w = w) (hf : fits (tyX6 15) w = true) (hd : decode cc pc = .ok (.putfield idx, 3)) (hq : pc + 3 = q) (kk : hX E cells slots q lo st (hU M a t (eO 6 [v0, v1, v2, v3, v4, v5, v6, v7, v8, v9, v10, v11, v12, v13, v14, w, v16, v17, v18, v19, v20, v21, v22, v23, v24]))) : hX E cells slots pc lo (w :: .ref a :: st) M := x_putf q 15 C wu_X6 wcl_X6 (by decide) tyX6 tyX6_ok nmX6 hl (Or.inl rfl) hM hn hf (by simp) hd hq kk
theorem xg_X6_place (q : Nat) (C : hCx E K cc n own nm R) {idx a t : Nat} {v0 v1 v2 v3 v4 v5 v6 v7 v8 v9 v10 v11 v12 v13 v14 v15 v16 v17 v18 v19 v20 v21 v22 v23 v24 : Value} (hl : hFl own idx TX6 16) (hM : M a = some (t, eO 6 [v0, v1, v2, v3, v4, v5, v6, v7, v8, v9, v10, v11, v12, v13, v14, v15, v16, v17, v18, v19, v20, v21, v22, v23, v24])) (hd : decode cc pc = .ok (.getfield idx, 3)) (hq : pc + 3 = q) (kk : hX E cells slots q lo (v16 :: st) M) : hX E cells slots pc lo (.ref a :: st) M := x_getf q 16 C wu_X6 wcl_X6 (by decide) hl hM rfl hd hq kk
theorem xp_X6_place (q : Nat) (C : hCx E K cc n own nm R) {idx a t : Nat} {v0 v1 v2 v3 v4 v5 v6 v7 v8 v9 v10 v11 v12 v13 v14 v15 v16 v17 v18 v19 v20 v21 v22 v23 v24 w : Value} (hl : hFl own idx TX6 16) (hM : M a = some (t, eO 6 [v0, v1, v2, v3, v4, v5, v6, v7, v8, v9, v10, v11, v12, v13, v14, v15, v16, v17, v18, v19, v20, v21, v22, v23, v24])) (hn : narrow (tyX6 16) w = w) (hf : fits (tyX6 16) w = true) (hd : decode cc pc = .ok (.putfield idx, 3)) (hq : pc + 3 = q) (kk : hX E cells slots q lo st (hU M a t (eO 6 [v0, v1, v2, v3, v4, v5, v6, v7, v8, v9, v10, v11, v12, v13, v14, v15, w, v17, v18, v19, v20, v21, v22, v23, v24]))) : hX E cells slots pc lo (w :: .ref a :: st) M := x_putf q 16 C wu_X6 wcl_X6 (by decide) tyX6 tyX6_ok nmX6 hl (Or.inl rfl) hM hn hf (by simp) hd hq kk
theorem xg_X6_values (q : Nat) (C : hCx E K cc n own nm R) {idx a t : Nat} {v0 v1 v2 v3 v4 v5 v6 v7 v8 v9 v10 v11 v12 v13 v14 v15 v16 v17 v18 v19 v20 v21 v22 v23 v24 : Value} (hl : hFl own idx TX6 17) (hM : M a = some (t, eO 6 [v0, v1, v2, v3, v4, v5, v6, v7, v8, v9, v10, v11, v12, v13, v14, v15, v16, v17, v18, v19, v20, v21, v22, v23, v24])) (hd : decode cc pc = .ok (.getfield idx, 3)) (hq : pc + 3 = q) (kk : hX E cells slots q lo (v17 :: st) M) : hX E cells slots pc lo (.ref a :: st) M := x_getf q 17 C wu_X6 wcl_X6 (by decide) hl hM rfl hd hq kk
theorem xp_X6_values (q : Nat) (C : hCx E K cc n own nm R) {idx a t : Nat} {v0 v1 v2 v3 v4 v5 v6 v7 v8 v9 v10 v11 v12 v13 v14 v15 v16 v17 v18 v19 v20 v21 v22 v23 v24 w : Value} (hl : hFl own idx TX6 17) (hnm : nm = "<init>") (howd : (TX6 17).1 = own) (hlw : Cond.fieldLink own idx (TX6 17).1 (TX6 17).2.1 (TX6 17).2.2.1 ∈ WA) (hM : M a = some (t, eO 6 [v0, v1, v2, v3, v4, v5, v6, v7, v8, v9, v10, v11, v12, v13, v14, v15, v16, v17, v18, v19, v20, v21, v22, v23, v24])) (hn : narrow (tyX6 17) w = w) (hf : fits (tyX6 17) w = true) (hd : decode cc pc = .ok (.putfield idx, 3)) (hq : pc + 3 = q) (kk : hX E cells slots q lo st (hU M a t (eO 6 [v0, v1, v2, v3, v4, v5, v6, v7, v8, v9, v10, v11, v12, v13, v14, v15, v16, w, v18, v19, v20, v21, v22, v23, v24]))) : hX E cells slots pc lo (w :: .ref a :: st) M := x_putf q 17 C wu_X6 wcl_X6 (by decide) tyX6 tyX6_ok nmX6 hl (Or.inr ⟨rfl, hnm, howd, hlw⟩) hM hn hf (by simp) hd hq kk
theorem xg_X6_pile (q : Nat) (C : hCx E K cc n own nm R) {idx a t : Nat} {v0 v1 v2 v3 v4 v5 v6 v7 v8 v9 v10 v11 v12 v13 v14 v15 v16 v17 v18 v19 v20 v21 v22 v23 v24 : Value} (hl : hFl own idx TX6 18) (hM : M a = some (t, eO 6 [v0, v1, v2, v3, v4, v5, v6, v7, v8, v9, v10, v11, v12, v13, v14, v15, v16, v17, v18, v19, v20, v21, v22, v23, v24])) (hd : decode cc pc = .ok (.getfield idx, 3)) (hq : pc + 3 = q) (kk : hX E cells slots q lo (v18 :: st) M) : hX E cells slots pc lo (.ref a :: st) M := x_getf q 18 C wu_X6 wcl_X6 (by decide) hl hM rfl hd hq kk
theorem xp_X6_pile (q : Nat) (C : hCx E K cc n own nm R) {idx a t : Nat} {v0 v1 v2 v3 v4 v5 v6 v7 v8 v9 v10 v11 v12 v13 v14 v15 v16 v17 v18 v19 v20 v21 v22 v23 v24 w : Value} (hl : hFl own idx TX6 18) (hnm : nm = "<init>") (howd : (TX6 18).1 = own) (hlw : Cond.fieldLink own idx (TX6 18).1 (TX6 18).2.1 (TX6 18).2.2.1 ∈ WA) (hM : M a = some (t, eO 6 [v0, v1, v2, v3, v4, v5, v6, v7, v8, v9, v10, v11, v12, v13, v14, v15, v16, v17, v18, v19, v20, v21, v22, v23, v24])) (hn : narrow (tyX6 18) w = w) (hf : fits (tyX6 18) w = true) (hd : decode cc pc = .ok (.putfield idx, 3)) (hq : pc + 3 = q) (kk : hX E cells slots q lo st (hU M a t (eO 6 [v0, v1, v2, v3, v4, v5, v6, v7, v8, v9, v10, v11, v12, v13, v14, v15, v16, v17, w, v19, v20, v21, v22, v23, v24]))) : hX E cells slots pc lo (w :: .ref a :: st) M := x_putf q 18 C wu_X6 wcl_X6 (by decide) tyX6 tyX6_ok nmX6 hl (Or.inr ⟨rfl, hnm, howd, hlw⟩) hM hn hf (by simp) hd hq kk
theorem xg_X6_ends (q : Nat) (C : hCx E K cc n own nm R) {idx a t : Nat} {v0 v1 v2 v3 v4 v5 v6 v7 v8 v9 v10 v11 v12 v13 v14 v15 v16 v17 v18 v19 v20 v21 v22 v23 v24 : Value} (hl : hFl own idx TX6 19) (hM : M a = some (t, eO 6 [v0, v1, v2, v3, v4, v5, v6, v7, v8, v9, v10, v11, v12, v13, v14, v15, v16, v17, v18, v19, v20, v21, v22, v23, v24])) (hd : decode cc pc = .ok (.getfield idx, 3)) (hq : pc + 3 = q) (kk : hX E cells slots q lo (v19 :: st) M) : hX E cells slots pc lo (.ref a :: st) M := x_getf q 19 C wu_X6 wcl_X6 (by decide) hl hM rfl hd hq kk
theorem xp_X6_ends (q : Nat) (C : hCx E K cc n own nm R) {idx a t : Nat} {v0 v1 v2 v3 v4 v5 v6 v7 v8 v9 v10 v11 v12 v13 v14 v15 v16 v17 v18 v19 v20 v21 v22 v23 v24 w : Value} (hl : hFl own idx TX6 19) (hM : M a = some (t, eO 6 [v0, v1, v2, v3, v4, v5, v6, v7, v8, v9, v10, v11, v12, v13, v14, v15, v16, v17, v18, v19, v20, v21, v22, v23, v24])) (hn : narrow (tyX6 19) w = w) (hf : fits (tyX6 19) w = true) (hd : decode cc pc = .ok (.putfield idx, 3)) (hq : pc + 3 = q) (kk : hX E cells slots q lo st (hU M a t (eO 6 [v0, v1, v2, v3, v4, v5, v6, v7, v8, v9, v10, v11, v12, v13, v14, v15, v16, v17, v18, w, v20, v21, v22, v23, v24]))) : hX E cells slots pc lo (w :: .ref a :: st) M := x_putf q 19 C wu_X6 wcl_X6 (by decide) tyX6 tyX6_ok nmX6 hl (Or.inl rfl) hM hn hf (by simp) hd hq kk
theorem xg_X6_reason (q : Nat) (C : hCx E K cc n own nm R) {idx a t : Nat} {v0 v1 v2 v3 v4 v5 v6 v7 v8 v9 v10 v11 v12 v13 v14 v15 v16 v17 v18 v19 v20 v21 v22 v23 v24 : Value} (hl : hFl own idx TX6 20) (hM : M a = some (t, eO 6 [v0, v1, v2, v3, v4, v5, v6, v7, v8, v9, v10, v11, v12, v13, v14, v15, v16, v17, v18, v19, v20, v21, v22, v23, v24])) (hd : decode cc pc = .ok (.getfield idx, 3)) (hq : pc + 3 = q) (kk : hX E cells slots q lo (v20 :: st) M) : hX E cells slots pc lo (.ref a :: st) M := x_getf q 20 C wu_X6 wcl_X6 (by decide) hl hM rfl hd hq kk
theorem xp_X6_reason (q : Nat) (C : hCx E K cc n own nm R) {idx a t : Nat} {v0 v1 v2 v3 v4 v5 v6 v7 v8 v9 v10 v11 v12 v13 v14 v15 v16 v17 v18 v19 v20 v21 v22 v23 v24 w : Value} (hl : hFl own idx TX6 20) (hM : M a = some (t, eO 6 [v0, v1, v2, v3, v4, v5, v6, v7, v8, v9, v10, v11, v12, v13, v14, v15, v16, v17, v18, v19, v20, v21, v22, v23, v24])) (hn : narrow (tyX6 20) w = w) (hf : fits (tyX6 20) w = true) (hd : decode cc pc = .ok (.putfield idx, 3)) (hq : pc + 3 = q) (kk : hX E cells slots q lo st (hU M a t (eO 6 [v0, v1, v2, v3, v4, v5, v6, v7, v8, v9, v10, v11, v12, v13, v14, v15, v16, v17, v18, v19, w, v21, v22, v23, v24]))) : hX E cells slots pc lo (w :: .ref a :: st) M := x_putf q 20 C wu_X6 wcl_X6 (by decide) tyX6 tyX6_ok nmX6 hl (Or.inl rfl) hM hn hf (by simp) hd hq kk
theorem xg_X6_whole (q : Nat) (C : hCx E K cc n own nm R) {idx a t : Nat} {v0 v1 v2 v3 v4 v5 v6 v7 v8 v9 v10 v11 v12 v13 v14 v15 v16 v17 v18 v19 v20 v21 v22 v23 v24 : Value} (hl : hFl own idx TX6 21) (hM : M a = some (t, eO 6 [v0, v1, v2, v3, v4, v5, v6, v7, v8, v9, v10, v11, v12, v13, v14, v15, v16, v17, v18, v19, v20, v21, v22, v23, v24])) (hd : decode cc pc = .ok (.getfield idx, 3)) (hq : pc + 3 = q) (kk : hX E cells slots q lo (v21 :: st) M) : hX E cells slots pc lo (.ref a :: st) M := x_getf q 21 C wu_X6 wcl_X6 (by decide) hl hM rfl hd hq kk
theorem xp_X6_whole (q : Nat) (C : hCx E K cc n own nm R) {idx a t : Nat} {v0 v1 v2 v3 v4 v5 v6 v7 v8 v9 v10 v11 v12 v13 v14 v15 v16 v17 v18 v19 v20 v21 v22 v23 v24 w : Value} (hl : hFl own idx TX6 21) (hM : M a = some (t, eO 6 [v0, v1, v2, v3, v4, v5, v6, v7, v8, v9, v10, v11, v12, v13, v14, v15, v16, v17, v18, v19, v20, v21, v22, v23, v24])) (hn : narrow (tyX6 21) w = w) (hf : fits (tyX6 21) w = true) (hd : decode cc pc = .ok (.putfield idx, 3)) (hq : pc + 3 = q) (kk : hX E cells slots q lo st (hU M a t (eO 6 [v0, v1, v2, v3, v4, v5, v6, v7, v8, v9, v10, v11, v12, v13, v14, v15, v16, v17, v18, v19, v20, w, v22, v23, v24]))) : hX E cells slots pc lo (w :: .ref a :: st) M := x_putf q 21 C wu_X6 wcl_X6 (by decide) tyX6 tyX6_ok nmX6 hl (Or.inl rfl) hM hn hf (by simp) hd hq kk
theorem xg_X6_term (q : Nat) (C : hCx E K cc n own nm R) {idx a t : Nat} {v0 v1 v2 v3 v4 v5 v6 v7 v8 v9 v10 v11 v12 v13 v14 v15 v16 v17 v18 v19 v20 v21 v22 v23 v24 : Value} (hl : hFl own idx TX6 22) (hM : M a = some (t, eO 6 [v0, v1, v2, v3, v4, v5, v6, v7, v8, v9, v10, v11, v12, v13, v14, v15, v16, v17, v18, v19, v20, v21, v22, v23, v24])) (hd : decode cc pc = .ok (.getfield idx, 3)) (hq : pc + 3 = q) (kk : hX E cells slots q lo (v22 :: st) M) : hX E cells slots pc lo (.ref a :: st) M := x_getf q 22 C wu_X6 wcl_X6 (by decide) hl hM rfl hd hq kk
theorem xp_X6_term (q : Nat) (C : hCx E K cc n own nm R) {idx a t : Nat} {v0 v1 v2 v3 v4 v5 v6 v7 v8 v9 v10 v11 v12 v13 v14 v15 v16 v17 v18 v19 v20 v21 v22 v23 v24 w : Value} (hl : hFl own idx TX6 22) (hM : M a = some (t, eO 6 [v0, v1, v2, v3, v4, v5, v6, v7, v8, v9, v10, v11, v12, v13, v14, v15, v16, v17, v18, v19, v20, v21, v22, v23, v24])) (hn : narrow (tyX6 22) w = w) (hf : fits (tyX6 22) w = true) (hd : decode cc pc = .ok (.putfield idx, 3)) (hq : pc + 3 = q) (kk : hX E cells slots q lo st (hU M a t (eO 6 [v0, v1, v2, v3, v4, v5, v6, v7, v8, v9, v10, v11, v12, v13, v14, v15, v16, v17, v18, v19, v20, v21, w, v23, v24]))) : hX E cells slots pc lo (w :: .ref a :: st) M := x_putf q 22 C wu_X6 wcl_X6 (by decide) tyX6 tyX6_ok nmX6 hl (Or.inl rfl) hM hn hf (by simp) hd hq kk
theorem xg_X6_m (q : Nat) (C : hCx E K cc n own nm R) {idx a t : Nat} {v0 v1 v2 v3 v4 v5 v6 v7 v8 v9 v10 v11 v12 v13 v14 v15 v16 v17 v18 v19 v20 v21 v22 v23 v24 : Value} (hl : hFl own idx TX6 23) (hM : M a = some (t, eO 6 [v0, v1, v2, v3, v4, v5, v6, v7, v8, v9, v10, v11, v12, v13, v14, v15, v16, v17, v18, v19, v20, v21, v22, v23, v24])) (hd : decode cc pc = .ok (.getfield idx, 3)) (hq : pc + 3 = q) (kk : hX E cells slots q lo (v23 :: st) M) : hX E cells slots pc lo (.ref a :: st) M := x_getf q 23 C wu_X6 wcl_X6 (by decide) hl hM rfl hd hq kk
theorem xp_X6_m (q : Nat) (C : hCx E K cc n own nm R) {idx a t : Nat} {v0 v1 v2 v3 v4 v5 v6 v7 v8 v9 v10 v11 v12 v13 v14 v15 v16 v17 v18 v19 v20 v21 v22 v23 v24 w : Value} (hl : hFl own idx TX6 23) (hM : M a = some (t, eO 6 [v0, v1, v2, v3, v4, v5, v6, v7, v8, v9, v10, v11, v12, v13, v14, v15, v16, v17, v18, v19, v20, v21, v22, v23, v24])) (hn : narrow (tyX6 23) w = w) (hf : fits (tyX6 23) w = true) (hd : decode cc pc = .ok (.putfield idx, 3)) (hq : pc + 3 = q) (kk : hX E cells slots q lo st (hU M a t (eO 6 [v0, v1, v2, v3, v4, v5, v6, v7, v8, v9, v10, v11, v12, v13, v14, v15, v16, v17, v18, v19, v20, v21, v22, w, v24]))) : hX E cells slots pc lo (w :: .ref a :: st) M := x_putf q 23 C wu_X6 wcl_X6 (by decide) tyX6 tyX6_ok nmX6 hl (Or.inl rfl) hM hn hf (by simp) hd hq kk
theorem xg_X6_d (q : Nat) (C : hCx E K cc n own nm R) {idx a t : Nat} {v0 v1 v2 v3 v4 v5 v6 v7 v8 v9 v10 v11 v12 v13 v14 v15 v16 v17 v18 v19 v20 v21 v22 v23 v24 : Value} (hl : hFl own idx TX6 24) (hM : M a = some (t, eO 6 [v0, v1, v2, v3, v4, v5, v6, v7, v8, v9, v10, v11, v12, v13, v14, v15, v16, v17, v18, v19, v20, v21, v22, v23, v24])) (hd : decode cc pc = .ok (.getfield idx, 3)) (hq : pc + 3 = q) (kk : hX E cells slots q lo (v24 :: st) M) : hX E cells slots pc lo (.ref a :: st) M := x_getf q 24 C wu_X6 wcl_X6 (by decide) hl hM rfl hd hq kk
theorem xp_X6_d (q : Nat) (C : hCx E K cc n own nm R) {idx a t : Nat} {v0 v1 v2 v3 v4 v5 v6 v7 v8 v9 v10 v11 v12 v13 v14 v15 v16 v17 v18 v19 v20 v21 v22 v23 v24 w : Value} (hl : hFl own idx TX6 24) (hM : M a = some (t, eO 6 [v0, v1, v2, v3, v4, v5, v6, v7, v8, v9, v10, v11, v12, v13, v14, v15, v16, v17, v18, v19, v20, v21, v22, v23, v24])) (hn : narrow (tyX6 24) w = w) (hf : fits (tyX6 24) w = true) (hd : decode cc pc = .ok (.putfield idx, 3)) (hq : pc + 3 = q) (kk : hX E cells slots q lo st (hU M a t (eO 6 [v0, v1, v2, v3, v4, v5, v6, v7, v8, v9, v10, v11, v12, v13, v14, v15, v16, v17, v18, v19, v20, v21, v22, v23, w]))) : hX E cells slots pc lo (w :: .ref a :: st) M := x_putf q 24 C wu_X6 wcl_X6 (by decide) tyX6 tyX6_ok nmX6 hl (Or.inl rfl) hM hn hf (by simp) hd hq kk
end Rows3
