/-! ===== printed by program: the methods ===== -/
abbrev mX0_init : xx_M := (yX0_init, cX0_init, 1, none, [])
set_option maxRecDepth 100000 in
theorem pX0_init : plainFor mX0_init.1 = true ∧ xx_cw mX0_init ∈ lw_tbl ∧ goodWord (xx_cw mX0_init) = true := ⟨plainFor_of_name (by decide +kernel), List.mem_of_getElem? (i := 171) rfl, by decide +kernel⟩
abbrev mX0_clear : xx_M := (yX0_clear, cX0_clear, 1, none, [])
set_option maxRecDepth 100000 in
theorem pX0_clear : plainFor mX0_clear.1 = true ∧ xx_cw mX0_clear ∈ lw_tbl ∧ goodWord (xx_cw mX0_clear) = true := ⟨plainFor_of_name (by decide +kernel), List.mem_of_getElem? (i := 868) rfl, by decide +kernel⟩
abbrev mX0_turn : xx_M := (yX0_turn, cX0_turn, 1, none, [])
set_option maxRecDepth 100000 in
theorem pX0_turn : plainFor mX0_turn.1 = true ∧ xx_cw mX0_turn ∈ lw_tbl ∧ goodWord (xx_cw mX0_turn) = true := ⟨plainFor_of_name (by decide +kernel), List.mem_of_getElem? (i := 903) rfl, by decide +kernel⟩
abbrev mX0_copy : xx_M := (yX0_copy, cX0_copy, 2, none, [])
set_option maxRecDepth 100000 in
theorem pX0_copy : plainFor mX0_copy.1 = true ∧ xx_cw mX0_copy ∈ lw_tbl ∧ goodWord (xx_cw mX0_copy) = true := ⟨plainFor_of_name (by decide +kernel), List.mem_of_getElem? (i := 1080) rfl, by decide +kernel⟩
abbrev mX0_setTo : xx_M := (yX0_setTo, cX0_setTo, 5, none, [])
set_option maxRecDepth 100000 in
theorem pX0_setTo : plainFor mX0_setTo.1 = true ∧ xx_cw mX0_setTo ∈ lw_tbl ∧ goodWord (xx_cw mX0_setTo) = true := ⟨plainFor_of_name (by decide +kernel), List.mem_of_getElem? (i := 286) rfl, by decide +kernel⟩
abbrev mX0_setToSize : xx_M := (yX0_setToSize, cX0_setToSize, 9, none, [])
set_option maxRecDepth 100000 in
theorem pX0_setToSize : plainFor mX0_setToSize.1 = true ∧ xx_cw mX0_setToSize ∈ lw_tbl ∧ goodWord (xx_cw mX0_setToSize) = true := ⟨plainFor_of_name (by decide +kernel), List.mem_of_getElem? (i := 1089) rfl, by decide +kernel⟩
abbrev mX0_setProduct : xx_M := (yX0_setProduct, cX0_setProduct, 5, none, [])
set_option maxRecDepth 100000 in
theorem pX0_setProduct : plainFor mX0_setProduct.1 = true ∧ xx_cw mX0_setProduct ∈ lw_tbl ∧ goodWord (xx_cw mX0_setProduct) = true := ⟨plainFor_of_name (by decide +kernel), List.mem_of_getElem? (i := 552) rfl, by decide +kernel⟩
abbrev mX0_setProductBy : xx_M := (yX0_setProductBy, cX0_setProductBy, 4, none, [])
set_option maxRecDepth 100000 in
theorem pX0_setProductBy : plainFor mX0_setProductBy.1 = true ∧ xx_cw mX0_setProductBy ∈ lw_tbl ∧ goodWord (xx_cw mX0_setProductBy) = true := ⟨plainFor_of_name (by decide +kernel), List.mem_of_getElem? (i := 1148) rfl, by decide +kernel⟩
abbrev mX0_add : xx_M := (yX0_add, cX0_add, 2, none, [])
set_option maxRecDepth 100000 in
theorem pX0_add : plainFor mX0_add.1 = true ∧ xx_cw mX0_add ∈ lw_tbl ∧ goodWord (xx_cw mX0_add) = true := ⟨plainFor_of_name (by decide +kernel), List.mem_of_getElem? (i := 1097) rfl, by decide +kernel⟩
abbrev mX0_subtract : xx_M := (yX0_subtract, cX0_subtract, 2, none, [])
set_option maxRecDepth 100000 in
theorem pX0_subtract : plainFor mX0_subtract.1 = true ∧ xx_cw mX0_subtract ∈ lw_tbl ∧ goodWord (xx_cw mX0_subtract) = true := ⟨plainFor_of_name (by decide +kernel), List.mem_of_getElem? (i := 843) rfl, by decide +kernel⟩
abbrev mX0_compareWith : xx_M := (yX0_compareWith, cX0_compareWith, 2, (some FieldType.int), [])
set_option maxRecDepth 100000 in
theorem pX0_compareWith : plainFor mX0_compareWith.1 = true ∧ xx_cw mX0_compareWith ∈ lw_tbl ∧ goodWord (xx_cw mX0_compareWith) = true := ⟨plainFor_of_name (by decide +kernel), List.mem_of_getElem? (i := 827) rfl, by decide +kernel⟩
abbrev mX0_isOne : xx_M := (yX0_isOne, cX0_isOne, 1, (some FieldType.boolean), [])
set_option maxRecDepth 100000 in
theorem pX0_isOne : plainFor mX0_isOne.1 = true ∧ xx_cw mX0_isOne ∈ lw_tbl ∧ goodWord (xx_cw mX0_isOne) = true := ⟨plainFor_of_name (by decide +kernel), List.mem_of_getElem? (i := 1128) rfl, by decide +kernel⟩
abbrev mX0_word : xx_M := (yX0_word, cX0_word, 7, (some FieldType.long), [])
set_option maxRecDepth 100000 in
theorem pX0_word : plainFor mX0_word.1 = true ∧ xx_cw mX0_word ∈ lw_tbl ∧ goodWord (xx_cw mX0_word) = true := ⟨plainFor_of_name (by decide +kernel), List.mem_of_getElem? (i := 1229) rfl, by decide +kernel⟩
abbrev mX0_trim : xx_M := (yX0_trim, cX0_trim, 3, none, [])
set_option maxRecDepth 100000 in
theorem pX0_trim : plainFor mX0_trim.1 = true ∧ xx_cw mX0_trim ∈ lw_tbl ∧ goodWord (xx_cw mX0_trim) = true := ⟨plainFor_of_name (by decide +kernel), List.mem_of_getElem? (i := 291) rfl, by decide +kernel⟩
abbrev mX0_addTimes : xx_M := (yX0_addTimes, cX0_addTimes, 9, none, [])
set_option maxRecDepth 100000 in
theorem pX0_addTimes : plainFor mX0_addTimes.1 = true ∧ xx_cw mX0_addTimes ∈ lw_tbl ∧ goodWord (xx_cw mX0_addTimes) = true := ⟨plainFor_of_name (by decide +kernel), List.mem_of_getElem? (i := 823) rfl, by decide +kernel⟩
abbrev mX0_addSigned : xx_M := (yX0_addSigned, cX0_addSigned, 3, none, [])
set_option maxRecDepth 100000 in
theorem pX0_addSigned : plainFor mX0_addSigned.1 = true ∧ xx_cw mX0_addSigned ∈ lw_tbl ∧ goodWord (xx_cw mX0_addSigned) = true := ⟨plainFor_of_name (by decide +kernel), List.mem_of_getElem? (i := 847) rfl, by decide +kernel⟩
abbrev mX0_addSizes : xx_M := (yX0_addSizes, cX0_addSizes, 7, none, [])
set_option maxRecDepth 100000 in
theorem pX0_addSizes : plainFor mX0_addSizes.1 = true ∧ xx_cw mX0_addSizes ∈ lw_tbl ∧ goodWord (xx_cw mX0_addSizes) = true := ⟨plainFor_of_name (by decide +kernel), List.mem_of_getElem? (i := 851) rfl, by decide +kernel⟩
abbrev mX0_setDifference : xx_M := (yX0_setDifference, cX0_setDifference, 8, none, [])
set_option maxRecDepth 100000 in
theorem pX0_setDifference : plainFor mX0_setDifference.1 = true ∧ xx_cw mX0_setDifference ∈ lw_tbl ∧ goodWord (xx_cw mX0_setDifference) = true := ⟨plainFor_of_name (by decide +kernel), List.mem_of_getElem? (i := 860) rfl, by decide +kernel⟩
abbrev mX0_compareSize : xx_M := (yX0_compareSize, cX0_compareSize, 3, (some FieldType.int), [])
set_option maxRecDepth 100000 in
theorem pX0_compareSize : plainFor mX0_compareSize.1 = true ∧ xx_cw mX0_compareSize ∈ lw_tbl ∧ goodWord (xx_cw mX0_compareSize) = true := ⟨plainFor_of_name (by decide +kernel), List.mem_of_getElem? (i := 831) rfl, by decide +kernel⟩
abbrev mX0_limb : xx_M := (yX0_limb, cX0_limb, 2, (some FieldType.int), [])
set_option maxRecDepth 100000 in
theorem pX0_limb : plainFor mX0_limb.1 = true ∧ xx_cw mX0_limb ∈ lw_tbl ∧ goodWord (xx_cw mX0_limb) = true := ⟨plainFor_of_name (by decide +kernel), List.mem_of_getElem? (i := 856) rfl, by decide +kernel⟩
abbrev mX1_init : xx_M := (yX1_init, cX1_init, 1, none, [])
set_option maxRecDepth 100000 in
theorem pX1_init : plainFor mX1_init.1 = true ∧ xx_cw mX1_init ∈ lw_tbl ∧ goodWord (xx_cw mX1_init) = true := ⟨plainFor_of_name (by decide +kernel), List.mem_of_getElem? (i := 195) rfl, by decide +kernel⟩
abbrev mX1_findCommon : xx_M := (yX1_findCommon, cX1_findCommon, 7, none, [])
set_option maxRecDepth 100000 in
theorem pX1_findCommon : plainFor mX1_findCommon.1 = true ∧ xx_cw mX1_findCommon ∈ lw_tbl ∧ goodWord (xx_cw mX1_findCommon) = true := ⟨plainFor_of_name (by decide +kernel), List.mem_of_getElem? (i := 1117) rfl, by decide +kernel⟩
abbrev mX1_divideByCommon : xx_M := (yX1_divideByCommon, cX1_divideByCommon, 2, none, [])
set_option maxRecDepth 100000 in
theorem pX1_divideByCommon : plainFor mX1_divideByCommon.1 = true ∧ xx_cw mX1_divideByCommon ∈ lw_tbl ∧ goodWord (xx_cw mX1_divideByCommon) = true := ⟨plainFor_of_name (by decide +kernel), List.mem_of_getElem? (i := 1124) rfl, by decide +kernel⟩
abbrev mX1_divide : xx_M := (yX1_divide, cX1_divide, 5, none, [])
set_option maxRecDepth 100000 in
theorem pX1_divide : plainFor mX1_divide.1 = true ∧ xx_cw mX1_divide ∈ lw_tbl ∧ goodWord (xx_cw mX1_divide) = true := ⟨plainFor_of_name (by decide +kernel), List.mem_of_getElem? (i := 864) rfl, by decide +kernel⟩
abbrev mX1_divideByDigit : xx_M := (yX1_divideByDigit, cX1_divideByDigit, 10, none, [])
set_option maxRecDepth 100000 in
theorem pX1_divideByDigit : plainFor mX1_divideByDigit.1 = true ∧ xx_cw mX1_divideByDigit ∈ lw_tbl ∧ goodWord (xx_cw mX1_divideByDigit) = true := ⟨plainFor_of_name (by decide +kernel), List.mem_of_getElem? (i := 872) rfl, by decide +kernel⟩
abbrev mX1_divideByDigits : xx_M := (yX1_divideByDigits, cX1_divideByDigits, 11, none, [])
set_option maxRecDepth 100000 in
theorem pX1_divideByDigits : plainFor mX1_divideByDigits.1 = true ∧ xx_cw mX1_divideByDigits ∈ lw_tbl ∧ goodWord (xx_cw mX1_divideByDigits) = true := ⟨plainFor_of_name (by decide +kernel), List.mem_of_getElem? (i := 879) rfl, by decide +kernel⟩
abbrev mX1_shiftUp : xx_M := (yX1_shiftUp, cX1_shiftUp, 6, none, [])
set_option maxRecDepth 100000 in
theorem pX1_shiftUp : plainFor mX1_shiftUp.1 = true ∧ xx_cw mX1_shiftUp ∈ lw_tbl ∧ goodWord (xx_cw mX1_shiftUp) = true := ⟨plainFor_of_name (by decide +kernel), List.mem_of_getElem? (i := 886) rfl, by decide +kernel⟩
abbrev mX1_guess : xx_M := (yX1_guess, cX1_guess, 12, (some FieldType.long), [])
set_option maxRecDepth 100000 in
theorem pX1_guess : plainFor mX1_guess.1 = true ∧ xx_cw mX1_guess ∈ lw_tbl ∧ goodWord (xx_cw mX1_guess) = true := ⟨plainFor_of_name (by decide +kernel), List.mem_of_getElem? (i := 891) rfl, by decide +kernel⟩
abbrev mX1_takeAway : xx_M := (yX1_takeAway, cX1_takeAway, 8, (some FieldType.boolean), [])
set_option maxRecDepth 100000 in
theorem pX1_takeAway : plainFor mX1_takeAway.1 = true ∧ xx_cw mX1_takeAway ∈ lw_tbl ∧ goodWord (xx_cw mX1_takeAway) = true := ⟨plainFor_of_name (by decide +kernel), List.mem_of_getElem? (i := 895) rfl, by decide +kernel⟩
abbrev mX1_putBack : xx_M := (yX1_putBack, cX1_putBack, 6, none, [])
set_option maxRecDepth 100000 in
theorem pX1_putBack : plainFor mX1_putBack.1 = true ∧ xx_cw mX1_putBack ∈ lw_tbl ∧ goodWord (xx_cw mX1_putBack) = true := ⟨plainFor_of_name (by decide +kernel), List.mem_of_getElem? (i := 899) rfl, by decide +kernel⟩
abbrev mX2_init : xx_M := (yX2_init, cX2_init, 1, none, [])
set_option maxRecDepth 100000 in
theorem pX2_init : plainFor mX2_init.1 = true ∧ xx_cw mX2_init ∈ lw_tbl ∧ goodWord (xx_cw mX2_init) = true := ⟨plainFor_of_name (by decide +kernel), List.mem_of_getElem? (i := 279) rfl, by decide +kernel⟩
abbrev mX2_multiplyBelow : xx_M := (yX2_multiplyBelow, cX2_multiplyBelow, 3, none, [])
set_option maxRecDepth 100000 in
theorem pX2_multiplyBelow : plainFor mX2_multiplyBelow.1 = true ∧ xx_cw mX2_multiplyBelow ∈ lw_tbl ∧ goodWord (xx_cw mX2_multiplyBelow) = true := ⟨plainFor_of_name (by decide +kernel), List.mem_of_getElem? (i := 1163) rfl, by decide +kernel⟩
abbrev mX2_reduce : xx_M := (yX2_reduce, cX2_reduce, 2, none, [])
set_option maxRecDepth 100000 in
theorem pX2_reduce : plainFor mX2_reduce.1 = true ∧ xx_cw mX2_reduce ∈ lw_tbl ∧ goodWord (xx_cw mX2_reduce) = true := ⟨plainFor_of_name (by decide +kernel), List.mem_of_getElem? (i := 1113) rfl, by decide +kernel⟩
abbrev mX3_init : xx_M := (yX3_init, cX3_init, 4, none, [])
set_option maxRecDepth 100000 in
theorem pX3_init : plainFor mX3_init.1 = true ∧ xx_cw mX3_init ∈ lw_tbl ∧ goodWord (xx_cw mX3_init) = true := ⟨plainFor_of_name (by decide +kernel), List.mem_of_getElem? (i := 955) rfl, by decide +kernel⟩
abbrev mX3_fill : xx_M := (yX3_fill, cX3_fill, 3, none, [])
set_option maxRecDepth 100000 in
theorem pX3_fill : plainFor mX3_fill.1 = true ∧ xx_cw mX3_fill ∈ lw_tbl ∧ goodWord (xx_cw mX3_fill) = true := ⟨plainFor_of_name (by decide +kernel), List.mem_of_getElem? (i := 982) rfl, by decide +kernel⟩
abbrev mX3_signOf : xx_M := (yX3_signOf, cX3_signOf, 3, (some FieldType.int), [])
set_option maxRecDepth 100000 in
theorem pX3_signOf : plainFor mX3_signOf.1 = true ∧ xx_cw mX3_signOf ∈ lw_tbl ∧ goodWord (xx_cw mX3_signOf) = true := ⟨plainFor_of_name (by decide +kernel), List.mem_of_getElem? (i := 1017) rfl, by decide +kernel⟩
abbrev mX3_holds : xx_M := (yX3_holds, cX3_holds, 5, (some FieldType.boolean), [])
set_option maxRecDepth 100000 in
theorem pX3_holds : plainFor mX3_holds.1 = true ∧ xx_cw mX3_holds ∈ lw_tbl ∧ goodWord (xx_cw mX3_holds) = true := ⟨plainFor_of_name (by decide +kernel), List.mem_of_getElem? (i := 1013) rfl, by decide +kernel⟩
abbrev mX3_read : xx_M := (yX3_read, cX3_read, 5, none, [])
set_option maxRecDepth 100000 in
theorem pX3_read : plainFor mX3_read.1 = true ∧ xx_cw mX3_read ∈ lw_tbl ∧ goodWord (xx_cw mX3_read) = true := ⟨plainFor_of_name (by decide +kernel), List.mem_of_getElem? (i := 1085) rfl, by decide +kernel⟩
abbrev mX3_expand : xx_M := (yX3_expand, cX3_expand, 8, none, [])
set_option maxRecDepth 100000 in
theorem pX3_expand : plainFor mX3_expand.1 = true ∧ xx_cw mX3_expand ∈ lw_tbl ∧ goodWord (xx_cw mX3_expand) = true := ⟨plainFor_of_name (by decide +kernel), List.mem_of_getElem? (i := 986) rfl, by decide +kernel⟩
abbrev mX3_sumCofactors : xx_M := (yX3_sumCofactors, cX3_sumCofactors, 7, none, [])
set_option maxRecDepth 100000 in
theorem pX3_sumCofactors : plainFor mX3_sumCofactors.1 = true ∧ xx_cw mX3_sumCofactors ∈ lw_tbl ∧ goodWord (xx_cw mX3_sumCofactors) = true := ⟨plainFor_of_name (by decide +kernel), List.mem_of_getElem? (i := 1024) rfl, by decide +kernel⟩
abbrev mX3_excessSign : xx_M := (yX3_excessSign, cX3_excessSign, 5, (some FieldType.int), [])
set_option maxRecDepth 100000 in
theorem pX3_excessSign : plainFor mX3_excessSign.1 = true ∧ xx_cw mX3_excessSign ∈ lw_tbl ∧ goodWord (xx_cw mX3_excessSign) = true := ⟨plainFor_of_name (by decide +kernel), List.mem_of_getElem? (i := 1028) rfl, by decide +kernel⟩
abbrev mX3_place : xx_M := (yX3_place, cX3_place, 4, (some FieldType.int), [])
set_option maxRecDepth 100000 in
theorem pX3_place : plainFor mX3_place.1 = true ∧ xx_cw mX3_place ∈ lw_tbl ∧ goodWord (xx_cw mX3_place) = true := ⟨plainFor_of_name (by decide +kernel), List.mem_of_getElem? (i := 990) rfl, by decide +kernel⟩
abbrev mX3_addTimes : xx_M := (yX3_addTimes, cX3_addTimes, 8, none, [])
set_option maxRecDepth 100000 in
theorem pX3_addTimes : plainFor mX3_addTimes.1 = true ∧ xx_cw mX3_addTimes ∈ lw_tbl ∧ goodWord (xx_cw mX3_addTimes) = true := ⟨plainFor_of_name (by decide +kernel), List.mem_of_getElem? (i := 1002) rfl, by decide +kernel⟩
abbrev mX3_signAt : xx_M := (yX3_signAt, cX3_signAt, 4, (some FieldType.int), [])
set_option maxRecDepth 100000 in
theorem pX3_signAt : plainFor mX3_signAt.1 = true ∧ xx_cw mX3_signAt ∈ lw_tbl ∧ goodWord (xx_cw mX3_signAt) = true := ⟨plainFor_of_name (by decide +kernel), List.mem_of_getElem? (i := 1020) rfl, by decide +kernel⟩
abbrev mX4_init : xx_M := (yX4_init, cX4_init, 1, none, [])
set_option maxRecDepth 100000 in
theorem pX4_init : plainFor mX4_init.1 = true ∧ xx_cw mX4_init ∈ lw_tbl ∧ goodWord (xx_cw mX4_init) = true := ⟨plainFor_of_name (by decide +kernel), List.mem_of_getElem? (i := 109) rfl, by decide +kernel⟩
abbrev mX4_reset : xx_M := (yX4_reset, cX4_reset, 3, none, [])
set_option maxRecDepth 100000 in
theorem pX4_reset : plainFor mX4_reset.1 = true ∧ xx_cw mX4_reset ∈ lw_tbl ∧ goodWord (xx_cw mX4_reset) = true := ⟨plainFor_of_name (by decide +kernel), List.mem_of_getElem? (i := 442) rfl, by decide +kernel⟩
abbrev mX4_put : xx_M := (yX4_put, cX4_put, 6, none, [])
set_option maxRecDepth 100000 in
theorem pX4_put : plainFor mX4_put.1 = true ∧ xx_cw mX4_put ∈ lw_tbl ∧ goodWord (xx_cw mX4_put) = true := ⟨plainFor_of_name (by decide +kernel), List.mem_of_getElem? (i := 509) rfl, by decide +kernel⟩
abbrev mX4_lifted : xx_M := (yX4_lifted, cX4_lifted, 3, (some FieldType.int), [])
set_option maxRecDepth 100000 in
theorem pX4_lifted : plainFor mX4_lifted.1 = true ∧ xx_cw mX4_lifted ∈ lw_tbl ∧ goodWord (xx_cw mX4_lifted) = true := ⟨plainFor_of_name (by decide +kernel), List.mem_of_getElem? (i := 529) rfl, by decide +kernel⟩
abbrev mX4_value : xx_M := (yX4_value, cX4_value, 6, none, [])
set_option maxRecDepth 100000 in
theorem pX4_value : plainFor mX4_value.1 = true ∧ xx_cw mX4_value ∈ lw_tbl ∧ goodWord (xx_cw mX4_value) = true := ⟨plainFor_of_name (by decide +kernel), List.mem_of_getElem? (i := 1144) rfl, by decide +kernel⟩
abbrev mX4_dominated : xx_M := (yX4_dominated, cX4_dominated, 6, (some FieldType.int), [])
set_option maxRecDepth 100000 in
theorem pX4_dominated : plainFor mX4_dominated.1 = true ∧ xx_cw mX4_dominated ∈ lw_tbl ∧ goodWord (xx_cw mX4_dominated) = true := ⟨plainFor_of_name (by decide +kernel), List.mem_of_getElem? (i := 1206) rfl, by decide +kernel⟩
abbrev mX4_isMore : xx_M := (yX4_isMore, cX4_isMore, 5, (some FieldType.boolean), [])
set_option maxRecDepth 100000 in
theorem pX4_isMore : plainFor mX4_isMore.1 = true ∧ xx_cw mX4_isMore ∈ lw_tbl ∧ goodWord (xx_cw mX4_isMore) = true := ⟨plainFor_of_name (by decide +kernel), List.mem_of_getElem? (i := 1210) rfl, by decide +kernel⟩
abbrev mX4_makeWhole : xx_M := (yX4_makeWhole, cX4_makeWhole, 4, none, [])
set_option maxRecDepth 100000 in
theorem pX4_makeWhole : plainFor mX4_makeWhole.1 = true ∧ xx_cw mX4_makeWhole ∈ lw_tbl ∧ goodWord (xx_cw mX4_makeWhole) = true := ⟨plainFor_of_name (by decide +kernel), List.mem_of_getElem? (i := 449) rfl, by decide +kernel⟩
abbrev mX4_commonDivisor : xx_M := (yX4_commonDivisor, cX4_commonDivisor, 6, (some FieldType.int), [])
set_option maxRecDepth 100000 in
theorem pX4_commonDivisor : plainFor mX4_commonDivisor.1 = true ∧ xx_cw mX4_commonDivisor ∈ lw_tbl ∧ goodWord (xx_cw mX4_commonDivisor) = true := ⟨plainFor_of_name (by decide +kernel), List.mem_of_getElem? (i := 452) rfl, by decide +kernel⟩
abbrev mX5_init : xx_M := (yX5_init, cX5_init, 1, none, [])
set_option maxRecDepth 100000 in
theorem pX5_init : plainFor mX5_init.1 = true ∧ xx_cw mX5_init ∈ lw_tbl ∧ goodWord (xx_cw mX5_init) = true := ⟨plainFor_of_name (by decide +kernel), List.mem_of_getElem? (i := 158) rfl, by decide +kernel⟩
abbrev mX5_start : xx_M := (yX5_start, cX5_start, 6, none, [])
set_option maxRecDepth 100000 in
theorem pX5_start : plainFor mX5_start.1 = true ∧ xx_cw mX5_start ∈ lw_tbl ∧ goodWord (xx_cw mX5_start) = true := ⟨plainFor_of_name (by decide +kernel), List.mem_of_getElem? (i := 524) rfl, by decide +kernel⟩
abbrev mX5_enter : xx_M := (yX5_enter, cX5_enter, 5, (some FieldType.int), [])
set_option maxRecDepth 100000 in
theorem pX5_enter : plainFor mX5_enter.1 = true ∧ xx_cw mX5_enter ∈ lw_tbl ∧ goodWord (xx_cw mX5_enter) = true := ⟨plainFor_of_name (by decide +kernel), List.mem_of_getElem? (i := 533) rfl, by decide +kernel⟩
abbrev mX5_read : xx_M := (yX5_read, cX5_read, 6, none, [])
set_option maxRecDepth 100000 in
theorem pX5_read : plainFor mX5_read.1 = true ∧ xx_cw mX5_read ∈ lw_tbl ∧ goodWord (xx_cw mX5_read) = true := ⟨plainFor_of_name (by decide +kernel), List.mem_of_getElem? (i := 1076) rfl, by decide +kernel⟩
abbrev mX5_find : xx_M := (yX5_find, cX5_find, 4, (some FieldType.int), [])
set_option maxRecDepth 100000 in
theorem pX5_find : plainFor mX5_find.1 = true ∧ xx_cw mX5_find ∈ lw_tbl ∧ goodWord (xx_cw mX5_find) = true := ⟨plainFor_of_name (by decide +kernel), List.mem_of_getElem? (i := 536) rfl, by decide +kernel⟩
abbrev mX5_leavingRow : xx_M := (yX5_leavingRow, cX5_leavingRow, 4, (some FieldType.int), [])
set_option maxRecDepth 100000 in
theorem pX5_leavingRow : plainFor mX5_leavingRow.1 = true ∧ xx_cw mX5_leavingRow ∈ lw_tbl ∧ goodWord (xx_cw mX5_leavingRow) = true := ⟨plainFor_of_name (by decide +kernel), List.mem_of_getElem? (i := 540) rfl, by decide +kernel⟩
abbrev mX5_isLess : xx_M := (yX5_isLess, cX5_isLess, 7, (some FieldType.boolean), [])
set_option maxRecDepth 100000 in
theorem pX5_isLess : plainFor mX5_isLess.1 = true ∧ xx_cw mX5_isLess ∈ lw_tbl ∧ goodWord (xx_cw mX5_isLess) = true := ⟨plainFor_of_name (by decide +kernel), List.mem_of_getElem? (i := 544) rfl, by decide +kernel⟩
abbrev mX5_compareRatios : xx_M := (yX5_compareRatios, cX5_compareRatios, 5, (some FieldType.int), [])
set_option maxRecDepth 100000 in
theorem pX5_compareRatios : plainFor mX5_compareRatios.1 = true ∧ xx_cw mX5_compareRatios ∈ lw_tbl ∧ goodWord (xx_cw mX5_compareRatios) = true := ⟨plainFor_of_name (by decide +kernel), List.mem_of_getElem? (i := 548) rfl, by decide +kernel⟩
abbrev mX5_pivot : xx_M := (yX5_pivot, cX5_pivot, 5, none, [])
set_option maxRecDepth 100000 in
theorem pX5_pivot : plainFor mX5_pivot.1 = true ∧ xx_cw mX5_pivot ∈ lw_tbl ∧ goodWord (xx_cw mX5_pivot) = true := ⟨plainFor_of_name (by decide +kernel), List.mem_of_getElem? (i := 835) rfl, by decide +kernel⟩
abbrev mX5_clearOut : xx_M := (yX5_clearOut, cX5_clearOut, 5, none, [])
set_option maxRecDepth 100000 in
theorem pX5_clearOut : plainFor mX5_clearOut.1 = true ∧ xx_cw mX5_clearOut ∈ lw_tbl ∧ goodWord (xx_cw mX5_clearOut) = true := ⟨plainFor_of_name (by decide +kernel), List.mem_of_getElem? (i := 839) rfl, by decide +kernel⟩
abbrev mX6_init : xx_M := (yX6_init, cX6_init, 1, none, [])
set_option maxRecDepth 100000 in
theorem pX6_init : plainFor mX6_init.1 = true ∧ xx_cw mX6_init ∈ lw_tbl ∧ goodWord (xx_cw mX6_init) = true := ⟨plainFor_of_name (by decide +kernel), List.mem_of_getElem? (i := 144) rfl, by decide +kernel⟩
abbrev mX6_reset : xx_M := (yX6_reset, cX6_reset, 1, none, [])
set_option maxRecDepth 100000 in
theorem pX6_reset : plainFor mX6_reset.1 = true ∧ xx_cw mX6_reset ∈ lw_tbl ∧ goodWord (xx_cw mX6_reset) = true := ⟨plainFor_of_name (by decide +kernel), List.mem_of_getElem? (i := 461) rfl, by decide +kernel⟩
abbrev mX6_put : xx_M := (yX6_put, cX6_put, 4, none, [])
set_option maxRecDepth 100000 in
theorem pX6_put : plainFor mX6_put.1 = true ∧ xx_cw mX6_put ∈ lw_tbl ∧ goodWord (xx_cw mX6_put) = true := ⟨plainFor_of_name (by decide +kernel), List.mem_of_getElem? (i := 938) rfl, by decide +kernel⟩
abbrev mX6_isOne : xx_M := (yX6_isOne, cX6_isOne, 4, (some FieldType.boolean), [])
set_option maxRecDepth 100000 in
theorem pX6_isOne : plainFor mX6_isOne.1 = true ∧ xx_cw mX6_isOne ∈ lw_tbl ∧ goodWord (xx_cw mX6_isOne) = true := ⟨plainFor_of_name (by decide +kernel), List.mem_of_getElem? (i := 1048) rfl, by decide +kernel⟩
abbrev mX6_read : xx_M := (yX6_read, cX6_read, 3, none, [])
set_option maxRecDepth 100000 in
theorem pX6_read : plainFor mX6_read.1 = true ∧ xx_cw mX6_read ∈ lw_tbl ∧ goodWord (xx_cw mX6_read) = true := ⟨plainFor_of_name (by decide +kernel), List.mem_of_getElem? (i := 1071) rfl, by decide +kernel⟩
abbrev mX6_denominator : xx_M := (yX6_denominator, cX6_denominator, 4, (some FieldType.long), [])
set_option maxRecDepth 100000 in
theorem pX6_denominator : plainFor mX6_denominator.1 = true ∧ xx_cw mX6_denominator ∈ lw_tbl ∧ goodWord (xx_cw mX6_denominator) = true := ⟨plainFor_of_name (by decide +kernel), List.mem_of_getElem? (i := 1056) rfl, by decide +kernel⟩
abbrev mX6_share : xx_M := (yX6_share, cX6_share, 2, (some FieldType.long), [])
set_option maxRecDepth 100000 in
theorem pX6_share : plainFor mX6_share.1 = true ∧ xx_cw mX6_share ∈ lw_tbl ∧ goodWord (xx_cw mX6_share) = true := ⟨plainFor_of_name (by decide +kernel), List.mem_of_getElem? (i := 1052) rfl, by decide +kernel⟩
abbrev mX7_init : xx_M := (yX7_init, cX7_init, 1, none, [])
set_option maxRecDepth 100000 in
theorem pX7_init : plainFor mX7_init.1 = true ∧ xx_cw mX7_init ∈ lw_tbl ∧ goodWord (xx_cw mX7_init) = true := ⟨plainFor_of_name (by decide +kernel), List.mem_of_getElem? (i := 256) rfl, by decide +kernel⟩
abbrev mX7_clear : xx_M := (yX7_clear, cX7_clear, 2, none, [])
set_option maxRecDepth 100000 in
theorem pX7_clear : plainFor mX7_clear.1 = true ∧ xx_cw mX7_clear ∈ lw_tbl ∧ goodWord (xx_cw mX7_clear) = true := ⟨plainFor_of_name (by decide +kernel), List.mem_of_getElem? (i := 1066) rfl, by decide +kernel⟩
abbrev mX7_sumUp : xx_M := (yX7_sumUp, cX7_sumUp, 2, none, [])
set_option maxRecDepth 100000 in
theorem pX7_sumUp : plainFor mX7_sumUp.1 = true ∧ xx_cw mX7_sumUp ∈ lw_tbl ∧ goodWord (xx_cw mX7_sumUp) = true := ⟨plainFor_of_name (by decide +kernel), List.mem_of_getElem? (i := 1093) rfl, by decide +kernel⟩
abbrev mX7_bits : xx_M := (yX7_bits, cX7_bits, 3, (some FieldType.int), [])
set_option maxRecDepth 100000 in
theorem pX7_bits : plainFor mX7_bits.1 = true ∧ xx_cw mX7_bits ∈ lw_tbl ∧ goodWord (xx_cw mX7_bits) = true := ⟨plainFor_of_name (by decide +kernel), List.mem_of_getElem? (i := 1101) rfl, by decide +kernel⟩
abbrev mX8_init : xx_M := (yX8_init, cX8_init, 1, none, [])
set_option maxRecDepth 100000 in
theorem pX8_init : plainFor mX8_init.1 = true ∧ xx_cw mX8_init ∈ lw_tbl ∧ goodWord (xx_cw mX8_init) = true := ⟨plainFor_of_name (by decide +kernel), List.mem_of_getElem? (i := 100) rfl, by decide +kernel⟩
abbrev mX8_game : xx_M := (yX8_game, cX8_game, 4, none, [])
set_option maxRecDepth 100000 in
theorem pX8_game : plainFor mX8_game.1 = true ∧ xx_cw mX8_game ∈ lw_tbl ∧ goodWord (xx_cw mX8_game) = true := ⟨plainFor_of_name (by decide +kernel), List.mem_of_getElem? (i := 369) rfl, by decide +kernel⟩
abbrev mX8_pay : xx_M := (yX8_pay, cX8_pay, 6, none, [])
set_option maxRecDepth 100000 in
theorem pX8_pay : plainFor mX8_pay.1 = true ∧ xx_cw mX8_pay ∈ lw_tbl ∧ goodWord (xx_cw mX8_pay) = true := ⟨plainFor_of_name (by decide +kernel), List.mem_of_getElem? (i := 474) rfl, by decide +kernel⟩
abbrev mX8_run : xx_M := (yX8_run, cX8_run, 7, (some FieldType.int), [])
set_option maxRecDepth 100000 in
theorem pX8_run : plainFor mX8_run.1 = true ∧ xx_cw mX8_run ∈ lw_tbl ∧ goodWord (xx_cw mX8_run) = true := ⟨plainFor_of_name (by decide +kernel), List.mem_of_getElem? (i := 519) rfl, by decide +kernel⟩
abbrev mX8_step : xx_M := (yX8_step, cX8_step, 3, (some FieldType.int), [])
set_option maxRecDepth 100000 in
theorem pX8_step : plainFor mX8_step.1 = true ∧ xx_cw mX8_step ∈ lw_tbl ∧ goodWord (xx_cw mX8_step) = true := ⟨plainFor_of_name (by decide +kernel), List.mem_of_getElem? (i := 911) rfl, by decide +kernel⟩
abbrev mX8_weight : xx_M := (yX8_weight, cX8_weight, 5, none, [])
set_option maxRecDepth 100000 in
theorem pX8_weight : plainFor mX8_weight.1 = true ∧ xx_cw mX8_weight ∈ lw_tbl ∧ goodWord (xx_cw mX8_weight) = true := ⟨plainFor_of_name (by decide +kernel), List.mem_of_getElem? (i := 933) rfl, by decide +kernel⟩
abbrev mX8_list : xx_M := (yX8_list, cX8_list, 1, (some FieldType.int), [])
set_option maxRecDepth 100000 in
theorem pX8_list : plainFor mX8_list.1 = true ∧ xx_cw mX8_list ∈ lw_tbl ∧ goodWord (xx_cw mX8_list) = true := ⟨plainFor_of_name (by decide +kernel), List.mem_of_getElem? (i := 945) rfl, by decide +kernel⟩
abbrev mX8_support : xx_M := (yX8_support, cX8_support, 3, (some FieldType.int), [])
set_option maxRecDepth 100000 in
theorem pX8_support : plainFor mX8_support.1 = true ∧ xx_cw mX8_support ∈ lw_tbl ∧ goodWord (xx_cw mX8_support) = true := ⟨plainFor_of_name (by decide +kernel), List.mem_of_getElem? (i := 1036) rfl, by decide +kernel⟩
abbrev mX8_strategy : xx_M := (yX8_strategy, cX8_strategy, 4, (some FieldType.int), [])
set_option maxRecDepth 100000 in
theorem pX8_strategy : plainFor mX8_strategy.1 = true ∧ xx_cw mX8_strategy ∈ lw_tbl ∧ goodWord (xx_cw mX8_strategy) = true := ⟨plainFor_of_name (by decide +kernel), List.mem_of_getElem? (i := 1108) rfl, by decide +kernel⟩
abbrev mX8_gets : xx_M := (yX8_gets, cX8_gets, 4, (some FieldType.int), [])
set_option maxRecDepth 100000 in
theorem pX8_gets : plainFor mX8_gets.1 = true ∧ xx_cw mX8_gets ∈ lw_tbl ∧ goodWord (xx_cw mX8_gets) = true := ⟨plainFor_of_name (by decide +kernel), List.mem_of_getElem? (i := 1135) rfl, by decide +kernel⟩
abbrev mX8_replies : xx_M := (yX8_replies, cX8_replies, 5, (some FieldType.int), [])
set_option maxRecDepth 100000 in
theorem pX8_replies : plainFor mX8_replies.1 = true ∧ xx_cw mX8_replies ∈ lw_tbl ∧ goodWord (xx_cw mX8_replies) = true := ⟨plainFor_of_name (by decide +kernel), List.mem_of_getElem? (i := 1172) rfl, by decide +kernel⟩
abbrev mX8_judge : xx_M := (yX8_judge, cX8_judge, 3, (some FieldType.boolean), [])
set_option maxRecDepth 100000 in
theorem pX8_judge : plainFor mX8_judge.1 = true ∧ xx_cw mX8_judge ∈ lw_tbl ∧ goodWord (xx_cw mX8_judge) = true := ⟨plainFor_of_name (by decide +kernel), List.mem_of_getElem? (i := 1186) rfl, by decide +kernel⟩
abbrev mX8_index : xx_M := (yX8_index, cX8_index, 5, (some FieldType.int), [])
set_option maxRecDepth 100000 in
theorem pX8_index : plainFor mX8_index.1 = true ∧ xx_cw mX8_index ∈ lw_tbl ∧ goodWord (xx_cw mX8_index) = true := ⟨plainFor_of_name (by decide +kernel), List.mem_of_getElem? (i := 1193) rfl, by decide +kernel⟩
abbrev mX8_round : xx_M := (yX8_round, cX8_round, 3, (some FieldType.int), [])
set_option maxRecDepth 100000 in
theorem pX8_round : plainFor mX8_round.1 = true ∧ xx_cw mX8_round ∈ lw_tbl ∧ goodWord (xx_cw mX8_round) = true := ⟨plainFor_of_name (by decide +kernel), List.mem_of_getElem? (i := 1202) rfl, by decide +kernel⟩
abbrev mX8_isThere : xx_M := (yX8_isThere, cX8_isThere, 3, (some FieldType.boolean), [])
set_option maxRecDepth 100000 in
theorem pX8_isThere : plainFor mX8_isThere.1 = true ∧ xx_cw mX8_isThere ∈ lw_tbl ∧ goodWord (xx_cw mX8_isThere) = true := ⟨plainFor_of_name (by decide +kernel), List.mem_of_getElem? (i := 1217) rfl, by decide +kernel⟩
abbrev mX8_part : xx_M := (yX8_part, cX8_part, 3, (some FieldType.long), [])
set_option maxRecDepth 100000 in
theorem pX8_part : plainFor mX8_part.1 = true ∧ xx_cw mX8_part ∈ lw_tbl ∧ goodWord (xx_cw mX8_part) = true := ⟨plainFor_of_name (by decide +kernel), List.mem_of_getElem? (i := 1224) rfl, by decide +kernel⟩
abbrev mX8_sign : xx_M := (yX8_sign, cX8_sign, 1, (some FieldType.int), [])
set_option maxRecDepth 100000 in
theorem pX8_sign : plainFor mX8_sign.1 = true ∧ xx_cw mX8_sign ∈ lw_tbl ∧ goodWord (xx_cw mX8_sign) = true := ⟨plainFor_of_name (by decide +kernel), List.mem_of_getElem? (i := 361) rfl, by decide +kernel⟩
abbrev mX8_told : xx_M := (yX8_told, cX8_told, 2, (some FieldType.int), [])
set_option maxRecDepth 100000 in
theorem pX8_told : plainFor mX8_told.1 = true ∧ xx_cw mX8_told ∈ lw_tbl ∧ goodWord (xx_cw mX8_told) = true := ⟨plainFor_of_name (by decide +kernel), List.mem_of_getElem? (i := 1239) rfl, by decide +kernel⟩
abbrev mX8_needGame : xx_M := (yX8_needGame, cX8_needGame, 1, none, [])
set_option maxRecDepth 100000 in
theorem pX8_needGame : plainFor mX8_needGame.1 = true ∧ xx_cw mX8_needGame ∈ lw_tbl ∧ goodWord (xx_cw mX8_needGame) = true := ⟨plainFor_of_name (by decide +kernel), List.mem_of_getElem? (i := 478) rfl, by decide +kernel⟩
abbrev mX8_needPlayer : xx_M := (yX8_needPlayer, cX8_needPlayer, 2, none, [])
set_option maxRecDepth 100000 in
theorem pX8_needPlayer : plainFor mX8_needPlayer.1 = true ∧ xx_cw mX8_needPlayer ∈ lw_tbl ∧ goodWord (xx_cw mX8_needPlayer) = true := ⟨plainFor_of_name (by decide +kernel), List.mem_of_getElem? (i := 498) rfl, by decide +kernel⟩
abbrev mX8_needRow : xx_M := (yX8_needRow, cX8_needRow, 3, none, [])
set_option maxRecDepth 100000 in
theorem pX8_needRow : plainFor mX8_needRow.1 = true ∧ xx_cw mX8_needRow ∈ lw_tbl ∧ goodWord (xx_cw mX8_needRow) = true := ⟨plainFor_of_name (by decide +kernel), List.mem_of_getElem? (i := 503) rfl, by decide +kernel⟩
abbrev mX8_needSource : xx_M := (yX8_needSource, cX8_needSource, 2, none, [])
set_option maxRecDepth 100000 in
theorem pX8_needSource : plainFor mX8_needSource.1 = true ∧ xx_cw mX8_needSource ∈ lw_tbl ∧ goodWord (xx_cw mX8_needSource) = true := ⟨plainFor_of_name (by decide +kernel), List.mem_of_getElem? (i := 1040) rfl, by decide +kernel⟩
abbrev mX8_isSource : xx_M := (yX8_isSource, cX8_isSource, 2, (some FieldType.boolean), [])
set_option maxRecDepth 100000 in
theorem pX8_isSource : plainFor mX8_isSource.1 = true ∧ xx_cw mX8_isSource ∈ lw_tbl ∧ goodWord (xx_cw mX8_isSource) = true := ⟨plainFor_of_name (by decide +kernel), List.mem_of_getElem? (i := 1044) rfl, by decide +kernel⟩
abbrev mX8_forget : xx_M := (yX8_forget, cX8_forget, 2, none, [])
set_option maxRecDepth 100000 in
theorem pX8_forget : plainFor mX8_forget.1 = true ∧ xx_cw mX8_forget ∈ lw_tbl ∧ goodWord (xx_cw mX8_forget) = true := ⟨plainFor_of_name (by decide +kernel), List.mem_of_getElem? (i := 466) rfl, by decide +kernel⟩
abbrev mX8_makeList : xx_M := (yX8_makeList, cX8_makeList, 4, none, [])
set_option maxRecDepth 100000 in
theorem pX8_makeList : plainFor mX8_makeList.1 = true ∧ xx_cw mX8_makeList ∈ lw_tbl ∧ goodWord (xx_cw mX8_makeList) = true := ⟨plainFor_of_name (by decide +kernel), List.mem_of_getElem? (i := 949) rfl, by decide +kernel⟩
abbrev mX8_listAllWith : xx_M := (yX8_listAllWith, cX8_listAllWith, 4, none, [])
set_option maxRecDepth 100000 in
theorem pX8_listAllWith : plainFor mX8_listAllWith.1 = true ∧ xx_cw mX8_listAllWith ∈ lw_tbl ∧ goodWord (xx_cw mX8_listAllWith) = true := ⟨plainFor_of_name (by decide +kernel), List.mem_of_getElem? (i := 1009) rfl, by decide +kernel⟩
abbrev mX8_load : xx_M := (yX8_load, cX8_load, 4, none, [])
set_option maxRecDepth 100000 in
theorem pX8_load : plainFor mX8_load.1 = true ∧ xx_cw mX8_load ∈ lw_tbl ∧ goodWord (xx_cw mX8_load) = true := ⟨plainFor_of_name (by decide +kernel), List.mem_of_getElem? (i := 1062) rfl, by decide +kernel⟩
abbrev mX8_weighValues : xx_M := (yX8_weighValues, cX8_weighValues, 3, none, [])
set_option maxRecDepth 100000 in
theorem pX8_weighValues : plainFor mX8_weighValues.1 = true ∧ xx_cw mX8_weighValues ∈ lw_tbl ∧ goodWord (xx_cw mX8_weighValues) = true := ⟨plainFor_of_name (by decide +kernel), List.mem_of_getElem? (i := 1139) rfl, by decide +kernel⟩
abbrev mX8_bestBits : xx_M := (yX8_bestBits, cX8_bestBits, 6, (some FieldType.int), [])
set_option maxRecDepth 100000 in
theorem pX8_bestBits : plainFor mX8_bestBits.1 = true ∧ xx_cw mX8_bestBits ∈ lw_tbl ∧ goodWord (xx_cw mX8_bestBits) = true := ⟨plainFor_of_name (by decide +kernel), List.mem_of_getElem? (i := 1176) rfl, by decide +kernel⟩
abbrev mX8_holdOfBoth : xx_M := (yX8_holdOfBoth, cX8_holdOfBoth, 3, none, [])
set_option maxRecDepth 100000 in
theorem pX8_holdOfBoth : plainFor mX8_holdOfBoth.1 = true ∧ xx_cw mX8_holdOfBoth ∈ lw_tbl ∧ goodWord (xx_cw mX8_holdOfBoth) = true := ⟨plainFor_of_name (by decide +kernel), List.mem_of_getElem? (i := 1158) rfl, by decide +kernel⟩
abbrev mX8_bigs : xx_M := (yX8_bigs, cX8_bigs, 3, (some (FieldType.array (FieldType.object "BestReplies$Big"))), [])
set_option maxRecDepth 100000 in
theorem pX8_bigs : plainFor mX8_bigs.1 = true ∧ xx_cw mX8_bigs ∈ lw_tbl ∧ goodWord (xx_cw mX8_bigs) = true := ⟨plainFor_of_name (by decide +kernel), List.mem_of_getElem? (i := 162) rfl, by decide +kernel⟩
abbrev mX9_init : xx_M := (yX9_init, cX9_init, 1, none, [])
set_option maxRecDepth 100000 in
theorem pX9_init : plainFor mX9_init.1 = true ∧ xx_cw mX9_init ∈ lw_tbl ∧ goodWord (xx_cw mX9_init) = true := ⟨plainFor_of_name (by decide +kernel), List.mem_of_getElem? (i := 1245) rfl, by decide +kernel⟩
abbrev mX9_thrown : xx_M := (yX9_thrown, cX9_thrown, 1, (some FieldType.int), [])
set_option maxRecDepth 100000 in
theorem pX9_thrown : plainFor mX9_thrown.1 = true ∧ xx_cw mX9_thrown ∈ lw_tbl ∧ goodWord (xx_cw mX9_thrown) = true := ⟨plainFor_of_name (by decide +kernel), List.mem_of_getElem? (i := 1346) rfl, by decide +kernel⟩
abbrev mX9_set : xx_M := (yX9_set, cX9_set, 6, none, [])
set_option maxRecDepth 100000 in
theorem pX9_set : plainFor mX9_set.1 = true ∧ xx_cw mX9_set ∈ lw_tbl ∧ goodWord (xx_cw mX9_set) = true := ⟨plainFor_of_name (by decide +kernel), List.mem_of_getElem? (i := 1251) rfl, by decide +kernel⟩
abbrev mX9_copy : xx_M := (yX9_copy, cX9_copy, 4, none, [])
set_option maxRecDepth 100000 in
theorem pX9_copy : plainFor mX9_copy.1 = true ∧ xx_cw mX9_copy ∈ lw_tbl ∧ goodWord (xx_cw mX9_copy) = true := ⟨plainFor_of_name (by decide +kernel), List.mem_of_getElem? (i := 1413) rfl, by decide +kernel⟩
abbrev mX9_compareSizes : xx_M := (yX9_compareSizes, cX9_compareSizes, 5, (some FieldType.int), [])
set_option maxRecDepth 100000 in
theorem pX9_compareSizes : plainFor mX9_compareSizes.1 = true ∧ xx_cw mX9_compareSizes ∈ lw_tbl ∧ goodWord (xx_cw mX9_compareSizes) = true := ⟨plainFor_of_name (by decide +kernel), List.mem_of_getElem? (i := 1409) rfl, by decide +kernel⟩
abbrev mX9_compare : xx_M := (yX9_compare, cX9_compare, 3, (some FieldType.int), [])
set_option maxRecDepth 100000 in
theorem pX9_compare : plainFor mX9_compare.1 = true ∧ xx_cw mX9_compare ∈ lw_tbl ∧ goodWord (xx_cw mX9_compare) = true := ⟨plainFor_of_name (by decide +kernel), List.mem_of_getElem? (i := 1405) rfl, by decide +kernel⟩
abbrev mX9_trim : xx_M := (yX9_trim, cX9_trim, 4, none, [])
set_option maxRecDepth 100000 in
theorem pX9_trim : plainFor mX9_trim.1 = true ∧ xx_cw mX9_trim ∈ lw_tbl ∧ goodWord (xx_cw mX9_trim) = true := ⟨plainFor_of_name (by decide +kernel), List.mem_of_getElem? (i := 1401) rfl, by decide +kernel⟩
abbrev mX9_add : xx_M := (yX9_add, cX9_add, 16, none, [])
set_option maxRecDepth 100000 in
theorem pX9_add : plainFor mX9_add.1 = true ∧ xx_cw mX9_add ∈ lw_tbl ∧ goodWord (xx_cw mX9_add) = true := ⟨plainFor_of_name (by decide +kernel), List.mem_of_getElem? (i := 1421) rfl, by decide +kernel⟩
abbrev mX9_times : xx_M := (yX9_times, cX9_times, 13, none, [])
set_option maxRecDepth 100000 in
theorem pX9_times : plainFor mX9_times.1 = true ∧ xx_cw mX9_times ∈ lw_tbl ∧ goodWord (xx_cw mX9_times) = true := ⟨plainFor_of_name (by decide +kernel), List.mem_of_getElem? (i := 1397) rfl, by decide +kernel⟩
abbrev mX9_divide : xx_M := (yX9_divide, cX9_divide, 25, none, [])
set_option maxRecDepth 100000 in
theorem pX9_divide : plainFor mX9_divide.1 = true ∧ xx_cw mX9_divide ∈ lw_tbl ∧ goodWord (xx_cw mX9_divide) = true := ⟨plainFor_of_name (by decide +kernel), List.mem_of_getElem? (i := 1426) rfl, by decide +kernel⟩
abbrev mX9_cross : xx_M := (yX9_cross, cX9_cross, 7, none, [])
set_option maxRecDepth 100000 in
theorem pX9_cross : plainFor mX9_cross.1 = true ∧ xx_cw mX9_cross ∈ lw_tbl ∧ goodWord (xx_cw mX9_cross) = true := ⟨plainFor_of_name (by decide +kernel), List.mem_of_getElem? (i := 1417) rfl, by decide +kernel⟩
abbrev mX9_toHand : xx_M := (yX9_toHand, cX9_toHand, 4, (some FieldType.int), [])
set_option maxRecDepth 100000 in
theorem pX9_toHand : plainFor mX9_toHand.1 = true ∧ xx_cw mX9_toHand ∈ lw_tbl ∧ goodWord (xx_cw mX9_toHand) = true := ⟨plainFor_of_name (by decide +kernel), List.mem_of_getElem? (i := 1460) rfl, by decide +kernel⟩
abbrev mX9_in : xx_M := (yX9_in, cX9_in, 3, (some FieldType.boolean), [])
set_option maxRecDepth 100000 in
theorem pX9_in : plainFor mX9_in.1 = true ∧ xx_cw mX9_in ∈ lw_tbl ∧ goodWord (xx_cw mX9_in) = true := ⟨plainFor_of_name (by decide +kernel), List.mem_of_getElem? (i := 1353) rfl, by decide +kernel⟩
abbrev mX9_common : xx_M := (yX9_common, cX9_common, 10, (some FieldType.long), [])
set_option maxRecDepth 100000 in
theorem pX9_common : plainFor mX9_common.1 = true ∧ xx_cw mX9_common ∈ lw_tbl ∧ goodWord (xx_cw mX9_common) = true := ⟨plainFor_of_name (by decide +kernel), List.mem_of_getElem? (i := 1360) rfl, by decide +kernel⟩
abbrev mX9_game : xx_M := (yX9_game, cX9_game, 4, none, [])
set_option maxRecDepth 100000 in
theorem pX9_game : plainFor mX9_game.1 = true ∧ xx_cw mX9_game ∈ lw_tbl ∧ goodWord (xx_cw mX9_game) = true := ⟨plainFor_of_name (by decide +kernel), List.mem_of_getElem? (i := 1350) rfl, by decide +kernel⟩
abbrev mX9_changed : xx_M := (yX9_changed, cX9_changed, 9, none, [])
set_option maxRecDepth 100000 in
theorem pX9_changed : plainFor mX9_changed.1 = true ∧ xx_cw mX9_changed ∈ lw_tbl ∧ goodWord (xx_cw mX9_changed) = true := ⟨plainFor_of_name (by decide +kernel), List.mem_of_getElem? (i := 1357) rfl, by decide +kernel⟩
abbrev mX9_hasPlayer : xx_M := (yX9_hasPlayer, cX9_hasPlayer, 3, (some FieldType.boolean), [])
set_option maxRecDepth 100000 in
theorem pX9_hasPlayer : plainFor mX9_hasPlayer.1 = true ∧ xx_cw mX9_hasPlayer ∈ lw_tbl ∧ goodWord (xx_cw mX9_hasPlayer) = true := ⟨plainFor_of_name (by decide +kernel), List.mem_of_getElem? (i := 1440) rfl, by decide +kernel⟩
abbrev mX9_pay : xx_M := (yX9_pay, cX9_pay, 7, none, [])
set_option maxRecDepth 100000 in
theorem pX9_pay : plainFor mX9_pay.1 = true ∧ xx_cw mX9_pay ∈ lw_tbl ∧ goodWord (xx_cw mX9_pay) = true := ⟨plainFor_of_name (by decide +kernel), List.mem_of_getElem? (i := 1365) rfl, by decide +kernel⟩
abbrev mX9_entry : xx_M := (yX9_entry, cX9_entry, 4, (some FieldType.long), [])
set_option maxRecDepth 100000 in
theorem pX9_entry : plainFor mX9_entry.1 = true ∧ xx_cw mX9_entry ∈ lw_tbl ∧ goodWord (xx_cw mX9_entry) = true := ⟨plainFor_of_name (by decide +kernel), List.mem_of_getElem? (i := 1385) rfl, by decide +kernel⟩
abbrev mX9_cell : xx_M := (yX9_cell, cX9_cell, 4, (some FieldType.int), [])
set_option maxRecDepth 100000 in
theorem pX9_cell : plainFor mX9_cell.1 = true ∧ xx_cw mX9_cell ∈ lw_tbl ∧ goodWord (xx_cw mX9_cell) = true := ⟨plainFor_of_name (by decide +kernel), List.mem_of_getElem? (i := 1381) rfl, by decide +kernel⟩
abbrev mX9_rowsOf : xx_M := (yX9_rowsOf, cX9_rowsOf, 2, (some FieldType.int), [])
set_option maxRecDepth 100000 in
theorem pX9_rowsOf : plainFor mX9_rowsOf.1 = true ∧ xx_cw mX9_rowsOf ∈ lw_tbl ∧ goodWord (xx_cw mX9_rowsOf) = true := ⟨plainFor_of_name (by decide +kernel), List.mem_of_getElem? (i := 1377) rfl, by decide +kernel⟩
abbrev mX9_beginTables : xx_M := (yX9_beginTables, cX9_beginTables, 6, none, [])
set_option maxRecDepth 100000 in
theorem pX9_beginTables : plainFor mX9_beginTables.1 = true ∧ xx_cw mX9_beginTables ∈ lw_tbl ∧ goodWord (xx_cw mX9_beginTables) = true := ⟨plainFor_of_name (by decide +kernel), List.mem_of_getElem? (i := 1373) rfl, by decide +kernel⟩
abbrev mX9_isBefore : xx_M := (yX9_isBefore, cX9_isBefore, 9, (some FieldType.boolean), [])
set_option maxRecDepth 100000 in
theorem pX9_isBefore : plainFor mX9_isBefore.1 = true ∧ xx_cw mX9_isBefore ∈ lw_tbl ∧ goodWord (xx_cw mX9_isBefore) = true := ⟨plainFor_of_name (by decide +kernel), List.mem_of_getElem? (i := 1393) rfl, by decide +kernel⟩
abbrev mX9_enter : xx_M := (yX9_enter, cX9_enter, 7, (some FieldType.int), [])
set_option maxRecDepth 100000 in
theorem pX9_enter : plainFor mX9_enter.1 = true ∧ xx_cw mX9_enter ∈ lw_tbl ∧ goodWord (xx_cw mX9_enter) = true := ⟨plainFor_of_name (by decide +kernel), List.mem_of_getElem? (i := 1389) rfl, by decide +kernel⟩
abbrev mX9_run : xx_M := (yX9_run, cX9_run, 9, (some FieldType.int), [])
set_option maxRecDepth 100000 in
theorem pX9_run : plainFor mX9_run.1 = true ∧ xx_cw mX9_run ∈ lw_tbl ∧ goodWord (xx_cw mX9_run) = true := ⟨plainFor_of_name (by decide +kernel), List.mem_of_getElem? (i := 1369) rfl, by decide +kernel⟩
abbrev mX9_step : xx_M := (yX9_step, cX9_step, 3, (some FieldType.int), [])
set_option maxRecDepth 100000 in
theorem pX9_step : plainFor mX9_step.1 = true ∧ xx_cw mX9_step ∈ lw_tbl ∧ goodWord (xx_cw mX9_step) = true := ⟨plainFor_of_name (by decide +kernel), List.mem_of_getElem? (i := 1432) rfl, by decide +kernel⟩
abbrev mX9_weight : xx_M := (yX9_weight, cX9_weight, 5, none, [])
set_option maxRecDepth 100000 in
theorem pX9_weight : plainFor mX9_weight.1 = true ∧ xx_cw mX9_weight ∈ lw_tbl ∧ goodWord (xx_cw mX9_weight) = true := ⟨plainFor_of_name (by decide +kernel), List.mem_of_getElem? (i := 1436) rfl, by decide +kernel⟩
abbrev mX9_placeOf : xx_M := (yX9_placeOf, cX9_placeOf, 2, (some FieldType.int), [])
set_option maxRecDepth 100000 in
theorem pX9_placeOf : plainFor mX9_placeOf.1 = true ∧ xx_cw mX9_placeOf ∈ lw_tbl ∧ goodWord (xx_cw mX9_placeOf) = true := ⟨plainFor_of_name (by decide +kernel), List.mem_of_getElem? (i := 1448) rfl, by decide +kernel⟩
abbrev mX9_tell : xx_M := (yX9_tell, cX9_tell, 6, (some FieldType.boolean), [])
set_option maxRecDepth 100000 in
theorem pX9_tell : plainFor mX9_tell.1 = true ∧ xx_cw mX9_tell ∈ lw_tbl ∧ goodWord (xx_cw mX9_tell) = true := ⟨plainFor_of_name (by decide +kernel), List.mem_of_getElem? (i := 1452) rfl, by decide +kernel⟩
abbrev mX9_support : xx_M := (yX9_support, cX9_support, 6, (some FieldType.int), [])
set_option maxRecDepth 100000 in
theorem pX9_support : plainFor mX9_support.1 = true ∧ xx_cw mX9_support ∈ lw_tbl ∧ goodWord (xx_cw mX9_support) = true := ⟨plainFor_of_name (by decide +kernel), List.mem_of_getElem? (i := 1444) rfl, by decide +kernel⟩
abbrev mX9_strategy : xx_M := (yX9_strategy, cX9_strategy, 5, (some FieldType.int), [])
set_option maxRecDepth 100000 in
theorem pX9_strategy : plainFor mX9_strategy.1 = true ∧ xx_cw mX9_strategy ∈ lw_tbl ∧ goodWord (xx_cw mX9_strategy) = true := ⟨plainFor_of_name (by decide +kernel), List.mem_of_getElem? (i := 1456) rfl, by decide +kernel⟩
abbrev mX9_rowGets : xx_M := (yX9_rowGets, cX9_rowGets, 6, none, [])
set_option maxRecDepth 100000 in
theorem pX9_rowGets : plainFor mX9_rowGets.1 = true ∧ xx_cw mX9_rowGets ∈ lw_tbl ∧ goodWord (xx_cw mX9_rowGets) = true := ⟨plainFor_of_name (by decide +kernel), List.mem_of_getElem? (i := 1468) rfl, by decide +kernel⟩
abbrev mX9_ownGets : xx_M := (yX9_ownGets, cX9_ownGets, 5, none, [])
set_option maxRecDepth 100000 in
theorem pX9_ownGets : plainFor mX9_ownGets.1 = true ∧ xx_cw mX9_ownGets ∈ lw_tbl ∧ goodWord (xx_cw mX9_ownGets) = true := ⟨plainFor_of_name (by decide +kernel), List.mem_of_getElem? (i := 1472) rfl, by decide +kernel⟩
abbrev mX9_gets : xx_M := (yX9_gets, cX9_gets, 5, (some FieldType.int), [])
set_option maxRecDepth 100000 in
theorem pX9_gets : plainFor mX9_gets.1 = true ∧ xx_cw mX9_gets ∈ lw_tbl ∧ goodWord (xx_cw mX9_gets) = true := ⟨plainFor_of_name (by decide +kernel), List.mem_of_getElem? (i := 1464) rfl, by decide +kernel⟩
abbrev mX9_best : xx_M := (yX9_best, cX9_best, 6, (some FieldType.int), [])
set_option maxRecDepth 100000 in
theorem pX9_best : plainFor mX9_best.1 = true ∧ xx_cw mX9_best ∈ lw_tbl ∧ goodWord (xx_cw mX9_best) = true := ⟨plainFor_of_name (by decide +kernel), List.mem_of_getElem? (i := 1480) rfl, by decide +kernel⟩
abbrev mX9_replies : xx_M := (yX9_replies, cX9_replies, 6, (some FieldType.int), [])
set_option maxRecDepth 100000 in
theorem pX9_replies : plainFor mX9_replies.1 = true ∧ xx_cw mX9_replies ∈ lw_tbl ∧ goodWord (xx_cw mX9_replies) = true := ⟨plainFor_of_name (by decide +kernel), List.mem_of_getElem? (i := 1476) rfl, by decide +kernel⟩
abbrev mX9_judge : xx_M := (yX9_judge, cX9_judge, 7, (some FieldType.boolean), [])
set_option maxRecDepth 100000 in
theorem pX9_judge : plainFor mX9_judge.1 = true ∧ xx_cw mX9_judge ∈ lw_tbl ∧ goodWord (xx_cw mX9_judge) = true := ⟨plainFor_of_name (by decide +kernel), List.mem_of_getElem? (i := 1484) rfl, by decide +kernel⟩
abbrev mX9_bitsOf : xx_M := (yX9_bitsOf, cX9_bitsOf, 4, (some FieldType.int), [])
set_option maxRecDepth 100000 in
theorem pX9_bitsOf : plainFor mX9_bitsOf.1 = true ∧ xx_cw mX9_bitsOf ∈ lw_tbl ∧ goodWord (xx_cw mX9_bitsOf) = true := ⟨plainFor_of_name (by decide +kernel), List.mem_of_getElem? (i := 1495) rfl, by decide +kernel⟩
abbrev mX9_at : xx_M := (yX9_at, cX9_at, 3, (some FieldType.int), [])
set_option maxRecDepth 100000 in
theorem pX9_at : plainFor mX9_at.1 = true ∧ xx_cw mX9_at ∈ lw_tbl ∧ goodWord (xx_cw mX9_at) = true := ⟨plainFor_of_name (by decide +kernel), List.mem_of_getElem? (i := 1507) rfl, by decide +kernel⟩
abbrev mX9_triangle : xx_M := (yX9_triangle, cX9_triangle, 8, none, [])
set_option maxRecDepth 100000 in
theorem pX9_triangle : plainFor mX9_triangle.1 = true ∧ xx_cw mX9_triangle ∈ lw_tbl ∧ goodWord (xx_cw mX9_triangle) = true := ⟨plainFor_of_name (by decide +kernel), List.mem_of_getElem? (i := 1512) rfl, by decide +kernel⟩
abbrev mX9_solve : xx_M := (yX9_solve, cX9_solve, 11, (some FieldType.boolean), [])
set_option maxRecDepth 100000 in
theorem pX9_solve : plainFor mX9_solve.1 = true ∧ xx_cw mX9_solve ∈ lw_tbl ∧ goodWord (xx_cw mX9_solve) = true := ⟨plainFor_of_name (by decide +kernel), List.mem_of_getElem? (i := 1503) rfl, by decide +kernel⟩
abbrev mX9_bits : xx_M := (yX9_bits, cX9_bits, 2, (some FieldType.int), [])
set_option maxRecDepth 100000 in
theorem pX9_bits : plainFor mX9_bits.1 = true ∧ xx_cw mX9_bits ∈ lw_tbl ∧ goodWord (xx_cw mX9_bits) = true := ⟨plainFor_of_name (by decide +kernel), List.mem_of_getElem? (i := 1492) rfl, by decide +kernel⟩
abbrev mX9_isEntry : xx_M := (yX9_isEntry, cX9_isEntry, 4, (some FieldType.boolean), [])
set_option maxRecDepth 100000 in
theorem pX9_isEntry : plainFor mX9_isEntry.1 = true ∧ xx_cw mX9_isEntry ∈ lw_tbl ∧ goodWord (xx_cw mX9_isEntry) = true := ⟨plainFor_of_name (by decide +kernel), List.mem_of_getElem? (i := 1499) rfl, by decide +kernel⟩
abbrev mX9_list : xx_M := (yX9_list, cX9_list, 4, (some FieldType.int), [])
set_option maxRecDepth 100000 in
theorem pX9_list : plainFor mX9_list.1 = true ∧ xx_cw mX9_list ∈ lw_tbl ∧ goodWord (xx_cw mX9_list) = true := ⟨plainFor_of_name (by decide +kernel), List.mem_of_getElem? (i := 1488) rfl, by decide +kernel⟩
abbrev mX9_determinant : xx_M := (yX9_determinant, cX9_determinant, 8, (some FieldType.int), [])
set_option maxRecDepth 100000 in
theorem pX9_determinant : plainFor mX9_determinant.1 = true ∧ xx_cw mX9_determinant ∈ lw_tbl ∧ goodWord (xx_cw mX9_determinant) = true := ⟨plainFor_of_name (by decide +kernel), List.mem_of_getElem? (i := 1520) rfl, by decide +kernel⟩
abbrev mX9_index : xx_M := (yX9_index, cX9_index, 5, (some FieldType.int), [])
set_option maxRecDepth 100000 in
theorem pX9_index : plainFor mX9_index.1 = true ∧ xx_cw mX9_index ∈ lw_tbl ∧ goodWord (xx_cw mX9_index) = true := ⟨plainFor_of_name (by decide +kernel), List.mem_of_getElem? (i := 1516) rfl, by decide +kernel⟩
abbrev mX9_isDominated : xx_M := (yX9_isDominated, cX9_isDominated, 12, (some FieldType.boolean), [])
set_option maxRecDepth 100000 in
theorem pX9_isDominated : plainFor mX9_isDominated.1 = true ∧ xx_cw mX9_isDominated ∈ lw_tbl ∧ goodWord (xx_cw mX9_isDominated) = true := ⟨plainFor_of_name (by decide +kernel), List.mem_of_getElem? (i := 1528) rfl, by decide +kernel⟩
abbrev mX9_round : xx_M := (yX9_round, cX9_round, 3, (some FieldType.int), [])
set_option maxRecDepth 100000 in
theorem pX9_round : plainFor mX9_round.1 = true ∧ xx_cw mX9_round ∈ lw_tbl ∧ goodWord (xx_cw mX9_round) = true := ⟨plainFor_of_name (by decide +kernel), List.mem_of_getElem? (i := 1524) rfl, by decide +kernel⟩
abbrev mX9_isThere : xx_M := (yX9_isThere, cX9_isThere, 3, (some FieldType.boolean), [])
set_option maxRecDepth 100000 in
theorem pX9_isThere : plainFor mX9_isThere.1 = true ∧ xx_cw mX9_isThere ∈ lw_tbl ∧ goodWord (xx_cw mX9_isThere) = true := ⟨plainFor_of_name (by decide +kernel), List.mem_of_getElem? (i := 1532) rfl, by decide +kernel⟩
abbrev mX9_part : xx_M := (yX9_part, cX9_part, 8, (some FieldType.long), [])
set_option maxRecDepth 100000 in
theorem pX9_part : plainFor mX9_part.1 = true ∧ xx_cw mX9_part ∈ lw_tbl ∧ goodWord (xx_cw mX9_part) = true := ⟨plainFor_of_name (by decide +kernel), List.mem_of_getElem? (i := 1536) rfl, by decide +kernel⟩
abbrev mX9_sign : xx_M := (yX9_sign, cX9_sign, 1, (some FieldType.int), [])
set_option maxRecDepth 100000 in
theorem pX9_sign : plainFor mX9_sign.1 = true ∧ xx_cw mX9_sign ∈ lw_tbl ∧ goodWord (xx_cw mX9_sign) = true := ⟨plainFor_of_name (by decide +kernel), List.mem_of_getElem? (i := 1540) rfl, by decide +kernel⟩
abbrev mX9_told : xx_M := (yX9_told, cX9_told, 2, (some FieldType.int), [])
set_option maxRecDepth 100000 in
theorem pX9_told : plainFor mX9_told.1 = true ∧ xx_cw mX9_told ∈ lw_tbl ∧ goodWord (xx_cw mX9_told) = true := ⟨plainFor_of_name (by decide +kernel), List.mem_of_getElem? (i := 1544) rfl, by decide +kernel⟩
abbrev mL_game : xx_M := (yL_game, cL_game, 4, (some FieldType.int), [(0, 6, 9, 13)])
set_option maxRecDepth 100000 in
theorem pL_game : plainFor mL_game.1 = true ∧ xx_cw mL_game ∈ lw_tbl ∧ goodWord (xx_cw mL_game) = true := ⟨plainFor_of_name (by decide +kernel), List.mem_of_getElem? (i := 364) rfl, by decide +kernel⟩
abbrev mL_pay : xx_M := (yL_pay, cL_pay, 7, (some FieldType.int), [(0, 11, 14, 19), (0, 11, 18, 13)])
set_option maxRecDepth 100000 in
theorem pL_pay : plainFor mL_pay.1 = true ∧ xx_cw mL_pay ∈ lw_tbl ∧ goodWord (xx_cw mL_pay) = true := ⟨plainFor_of_name (by decide +kernel), List.mem_of_getElem? (i := 469) rfl, by decide +kernel⟩
abbrev mL_run : xx_M := (yL_run, cL_run, 4, (some FieldType.int), [(0, 9, 12, 19), (0, 9, 15, 13)])
set_option maxRecDepth 100000 in
theorem pL_run : plainFor mL_run.1 = true ∧ xx_cw mL_run ∈ lw_tbl ∧ goodWord (xx_cw mL_run) = true := ⟨plainFor_of_name (by decide +kernel), List.mem_of_getElem? (i := 515) rfl, by decide +kernel⟩
abbrev mL_step : xx_M := (yL_step, cL_step, 5, (some FieldType.int), [(0, 10, 13, 19), (0, 10, 17, 29), (0, 10, 21, 13)])
set_option maxRecDepth 100000 in
theorem pL_step : plainFor mL_step.1 = true ∧ xx_cw mL_step ∈ lw_tbl ∧ goodWord (xx_cw mL_step) = true := ⟨plainFor_of_name (by decide +kernel), List.mem_of_getElem? (i := 906) rfl, by decide +kernel⟩
abbrev mL_weight : xx_M := (yL_weight, cL_weight, 6, (some FieldType.int), [(0, 9, 12, 19), (0, 9, 16, 13)])
set_option maxRecDepth 100000 in
theorem pL_weight : plainFor mL_weight.1 = true ∧ xx_cw mL_weight ∈ lw_tbl ∧ goodWord (xx_cw mL_weight) = true := ⟨plainFor_of_name (by decide +kernel), List.mem_of_getElem? (i := 929) rfl, by decide +kernel⟩
abbrev mL_list : xx_M := (yL_list, cL_list, 3, (some FieldType.int), [(0, 8, 11, 19)])
set_option maxRecDepth 100000 in
theorem pL_list : plainFor mL_list.1 = true ∧ xx_cw mL_list ∈ lw_tbl ∧ goodWord (xx_cw mL_list) = true := ⟨plainFor_of_name (by decide +kernel), List.mem_of_getElem? (i := 941) rfl, by decide +kernel⟩
abbrev mL_support : xx_M := (yL_support, cL_support, 5, (some FieldType.int), [(0, 10, 13, 19), (0, 10, 17, 13)])
set_option maxRecDepth 100000 in
theorem pL_support : plainFor mL_support.1 = true ∧ xx_cw mL_support ∈ lw_tbl ∧ goodWord (xx_cw mL_support) = true := ⟨plainFor_of_name (by decide +kernel), List.mem_of_getElem? (i := 1032) rfl, by decide +kernel⟩
abbrev mL_strategy : xx_M := (yL_strategy, cL_strategy, 6, (some FieldType.int), [(0, 12, 15, 19), (0, 12, 19, 13)])
set_option maxRecDepth 100000 in
theorem pL_strategy : plainFor mL_strategy.1 = true ∧ xx_cw mL_strategy ∈ lw_tbl ∧ goodWord (xx_cw mL_strategy) = true := ⟨plainFor_of_name (by decide +kernel), List.mem_of_getElem? (i := 1104) rfl, by decide +kernel⟩
abbrev mL_gets : xx_M := (yL_gets, cL_gets, 6, (some FieldType.int), [(0, 12, 15, 19), (0, 12, 19, 13)])
set_option maxRecDepth 100000 in
theorem pL_gets : plainFor mL_gets.1 = true ∧ xx_cw mL_gets ∈ lw_tbl ∧ goodWord (xx_cw mL_gets) = true := ⟨plainFor_of_name (by decide +kernel), List.mem_of_getElem? (i := 1131) rfl, by decide +kernel⟩
abbrev mL_replies : xx_M := (yL_replies, cL_replies, 5, (some FieldType.int), [(0, 10, 13, 19), (0, 10, 17, 13)])
set_option maxRecDepth 100000 in
theorem pL_replies : plainFor mL_replies.1 = true ∧ xx_cw mL_replies ∈ lw_tbl ∧ goodWord (xx_cw mL_replies) = true := ⟨plainFor_of_name (by decide +kernel), List.mem_of_getElem? (i := 1168) rfl, by decide +kernel⟩
abbrev mL_judge : xx_M := (yL_judge, cL_judge, 4, (some FieldType.int), [(0, 16, 19, 19)])
set_option maxRecDepth 100000 in
theorem pL_judge : plainFor mL_judge.1 = true ∧ xx_cw mL_judge ∈ lw_tbl ∧ goodWord (xx_cw mL_judge) = true := ⟨plainFor_of_name (by decide +kernel), List.mem_of_getElem? (i := 1182) rfl, by decide +kernel⟩
abbrev mL_index : xx_M := (yL_index, cL_index, 4, (some FieldType.int), [(0, 9, 12, 19)])
set_option maxRecDepth 100000 in
theorem pL_index : plainFor mL_index.1 = true ∧ xx_cw mL_index ∈ lw_tbl ∧ goodWord (xx_cw mL_index) = true := ⟨plainFor_of_name (by decide +kernel), List.mem_of_getElem? (i := 1189) rfl, by decide +kernel⟩
abbrev mL_round : xx_M := (yL_round, cL_round, 3, (some FieldType.int), [(0, 8, 11, 19)])
set_option maxRecDepth 100000 in
theorem pL_round : plainFor mL_round.1 = true ∧ xx_cw mL_round ∈ lw_tbl ∧ goodWord (xx_cw mL_round) = true := ⟨plainFor_of_name (by decide +kernel), List.mem_of_getElem? (i := 1198) rfl, by decide +kernel⟩
abbrev mL_isThere : xx_M := (yL_isThere, cL_isThere, 5, (some FieldType.int), [(0, 17, 20, 19), (0, 17, 24, 13)])
set_option maxRecDepth 100000 in
theorem pL_isThere : plainFor mL_isThere.1 = true ∧ xx_cw mL_isThere ∈ lw_tbl ∧ goodWord (xx_cw mL_isThere) = true := ⟨plainFor_of_name (by decide +kernel), List.mem_of_getElem? (i := 1213) rfl, by decide +kernel⟩
abbrev mL_part : xx_M := (yL_part, cL_part, 5, (some FieldType.int), [(0, 9, 12, 29)])
set_option maxRecDepth 100000 in
theorem pL_part : plainFor mL_part.1 = true ∧ xx_cw mL_part ∈ lw_tbl ∧ goodWord (xx_cw mL_part) = true := ⟨plainFor_of_name (by decide +kernel), List.mem_of_getElem? (i := 1220) rfl, by decide +kernel⟩
abbrev mL_told : xx_M := (yL_told, cL_told, 4, (some FieldType.int), [(0, 9, 12, 13)])
set_option maxRecDepth 100000 in
theorem pL_told : plainFor mL_told.1 = true ∧ xx_cw mL_told ∈ lw_tbl ∧ goodWord (xx_cw mL_told) = true := ⟨plainFor_of_name (by decide +kernel), List.mem_of_getElem? (i := 1235) rfl, by decide +kernel⟩
theorem nX0_init : (parseMethodDescriptor mX0_init.1.desc).map (fun d => d.parameters.length) = some 0 := by decide +kernel
theorem nX0_clear : (parseMethodDescriptor mX0_clear.1.desc).map (fun d => d.parameters.length) = some 0 := by decide +kernel
theorem nX0_turn : (parseMethodDescriptor mX0_turn.1.desc).map (fun d => d.parameters.length) = some 0 := by decide +kernel
theorem nX0_copy : (parseMethodDescriptor mX0_copy.1.desc).map (fun d => d.parameters.length) = some 1 := by decide +kernel
theorem nX0_setTo : (parseMethodDescriptor mX0_setTo.1.desc).map (fun d => d.parameters.length) = some 1 := by decide +kernel
theorem nX0_setToSize : (parseMethodDescriptor mX0_setToSize.1.desc).map (fun d => d.parameters.length) = some 4 := by decide +kernel
theorem nX0_setProduct : (parseMethodDescriptor mX0_setProduct.1.desc).map (fun d => d.parameters.length) = some 2 := by decide +kernel
theorem nX0_setProductBy : (parseMethodDescriptor mX0_setProductBy.1.desc).map (fun d => d.parameters.length) = some 2 := by decide +kernel
theorem nX0_add : (parseMethodDescriptor mX0_add.1.desc).map (fun d => d.parameters.length) = some 1 := by decide +kernel
theorem nX0_subtract : (parseMethodDescriptor mX0_subtract.1.desc).map (fun d => d.parameters.length) = some 1 := by decide +kernel
theorem nX0_compareWith : (parseMethodDescriptor mX0_compareWith.1.desc).map (fun d => d.parameters.length) = some 1 := by decide +kernel
theorem nX0_isOne : (parseMethodDescriptor mX0_isOne.1.desc).map (fun d => d.parameters.length) = some 0 := by decide +kernel
theorem nX0_word : (parseMethodDescriptor mX0_word.1.desc).map (fun d => d.parameters.length) = some 1 := by decide +kernel
theorem nX0_trim : (parseMethodDescriptor mX0_trim.1.desc).map (fun d => d.parameters.length) = some 2 := by decide +kernel
theorem nX0_addTimes : (parseMethodDescriptor mX0_addTimes.1.desc).map (fun d => d.parameters.length) = some 3 := by decide +kernel
theorem nX0_addSigned : (parseMethodDescriptor mX0_addSigned.1.desc).map (fun d => d.parameters.length) = some 2 := by decide +kernel
theorem nX0_addSizes : (parseMethodDescriptor mX0_addSizes.1.desc).map (fun d => d.parameters.length) = some 2 := by decide +kernel
theorem nX0_setDifference : (parseMethodDescriptor mX0_setDifference.1.desc).map (fun d => d.parameters.length) = some 3 := by decide +kernel
theorem nX0_compareSize : (parseMethodDescriptor mX0_compareSize.1.desc).map (fun d => d.parameters.length) = some 1 := by decide +kernel
theorem nX0_limb : (parseMethodDescriptor mX0_limb.1.desc).map (fun d => d.parameters.length) = some 1 := by decide +kernel
theorem nX1_init : (parseMethodDescriptor mX1_init.1.desc).map (fun d => d.parameters.length) = some 0 := by decide +kernel
theorem nX1_findCommon : (parseMethodDescriptor mX1_findCommon.1.desc).map (fun d => d.parameters.length) = some 2 := by decide +kernel
theorem nX1_divideByCommon : (parseMethodDescriptor mX1_divideByCommon.1.desc).map (fun d => d.parameters.length) = some 1 := by decide +kernel
theorem nX1_divide : (parseMethodDescriptor mX1_divide.1.desc).map (fun d => d.parameters.length) = some 3 := by decide +kernel
theorem nX1_divideByDigit : (parseMethodDescriptor mX1_divideByDigit.1.desc).map (fun d => d.parameters.length) = some 4 := by decide +kernel
theorem nX1_divideByDigits : (parseMethodDescriptor mX1_divideByDigits.1.desc).map (fun d => d.parameters.length) = some 4 := by decide +kernel
theorem nX1_shiftUp : (parseMethodDescriptor mX1_shiftUp.1.desc).map (fun d => d.parameters.length) = some 3 := by decide +kernel
theorem nX1_guess : (parseMethodDescriptor mX1_guess.1.desc).map (fun d => d.parameters.length) = some 2 := by decide +kernel
theorem nX1_takeAway : (parseMethodDescriptor mX1_takeAway.1.desc).map (fun d => d.parameters.length) = some 3 := by decide +kernel
theorem nX1_putBack : (parseMethodDescriptor mX1_putBack.1.desc).map (fun d => d.parameters.length) = some 2 := by decide +kernel
theorem nX2_init : (parseMethodDescriptor mX2_init.1.desc).map (fun d => d.parameters.length) = some 0 := by decide +kernel
theorem nX2_multiplyBelow : (parseMethodDescriptor mX2_multiplyBelow.1.desc).map (fun d => d.parameters.length) = some 2 := by decide +kernel
theorem nX2_reduce : (parseMethodDescriptor mX2_reduce.1.desc).map (fun d => d.parameters.length) = some 1 := by decide +kernel
theorem nX3_init : (parseMethodDescriptor mX3_init.1.desc).map (fun d => d.parameters.length) = some 1 := by decide +kernel
theorem nX3_fill : (parseMethodDescriptor mX3_fill.1.desc).map (fun d => d.parameters.length) = some 0 := by decide +kernel
theorem nX3_signOf : (parseMethodDescriptor mX3_signOf.1.desc).map (fun d => d.parameters.length) = some 2 := by decide +kernel
theorem nX3_holds : (parseMethodDescriptor mX3_holds.1.desc).map (fun d => d.parameters.length) = some 2 := by decide +kernel
theorem nX3_read : (parseMethodDescriptor mX3_read.1.desc).map (fun d => d.parameters.length) = some 3 := by decide +kernel
theorem nX3_expand : (parseMethodDescriptor mX3_expand.1.desc).map (fun d => d.parameters.length) = some 2 := by decide +kernel
theorem nX3_sumCofactors : (parseMethodDescriptor mX3_sumCofactors.1.desc).map (fun d => d.parameters.length) = some 3 := by decide +kernel
theorem nX3_excessSign : (parseMethodDescriptor mX3_excessSign.1.desc).map (fun d => d.parameters.length) = some 3 := by decide +kernel
theorem nX3_place : (parseMethodDescriptor mX3_place.1.desc).map (fun d => d.parameters.length) = some 2 := by decide +kernel
theorem nX3_addTimes : (parseMethodDescriptor mX3_addTimes.1.desc).map (fun d => d.parameters.length) = some 5 := by decide +kernel
theorem nX3_signAt : (parseMethodDescriptor mX3_signAt.1.desc).map (fun d => d.parameters.length) = some 2 := by decide +kernel
theorem nX4_init : (parseMethodDescriptor mX4_init.1.desc).map (fun d => d.parameters.length) = some 0 := by decide +kernel
theorem nX4_reset : (parseMethodDescriptor mX4_reset.1.desc).map (fun d => d.parameters.length) = some 2 := by decide +kernel
theorem nX4_put : (parseMethodDescriptor mX4_put.1.desc).map (fun d => d.parameters.length) = some 4 := by decide +kernel
theorem nX4_lifted : (parseMethodDescriptor mX4_lifted.1.desc).map (fun d => d.parameters.length) = some 2 := by decide +kernel
theorem nX4_value : (parseMethodDescriptor mX4_value.1.desc).map (fun d => d.parameters.length) = some 4 := by decide +kernel
theorem nX4_dominated : (parseMethodDescriptor mX4_dominated.1.desc).map (fun d => d.parameters.length) = some 2 := by decide +kernel
theorem nX4_isMore : (parseMethodDescriptor mX4_isMore.1.desc).map (fun d => d.parameters.length) = some 3 := by decide +kernel
theorem nX4_makeWhole : (parseMethodDescriptor mX4_makeWhole.1.desc).map (fun d => d.parameters.length) = some 0 := by decide +kernel
theorem nX4_commonDivisor : (parseMethodDescriptor mX4_commonDivisor.1.desc).map (fun d => d.parameters.length) = some 2 := by decide +kernel
theorem nX5_init : (parseMethodDescriptor mX5_init.1.desc).map (fun d => d.parameters.length) = some 0 := by decide +kernel
theorem nX5_start : (parseMethodDescriptor mX5_start.1.desc).map (fun d => d.parameters.length) = some 3 := by decide +kernel
theorem nX5_enter : (parseMethodDescriptor mX5_enter.1.desc).map (fun d => d.parameters.length) = some 1 := by decide +kernel
theorem nX5_read : (parseMethodDescriptor mX5_read.1.desc).map (fun d => d.parameters.length) = some 3 := by decide +kernel
theorem nX5_find : (parseMethodDescriptor mX5_find.1.desc).map (fun d => d.parameters.length) = some 3 := by decide +kernel
theorem nX5_leavingRow : (parseMethodDescriptor mX5_leavingRow.1.desc).map (fun d => d.parameters.length) = some 1 := by decide +kernel
theorem nX5_isLess : (parseMethodDescriptor mX5_isLess.1.desc).map (fun d => d.parameters.length) = some 3 := by decide +kernel
theorem nX5_compareRatios : (parseMethodDescriptor mX5_compareRatios.1.desc).map (fun d => d.parameters.length) = some 4 := by decide +kernel
theorem nX5_pivot : (parseMethodDescriptor mX5_pivot.1.desc).map (fun d => d.parameters.length) = some 2 := by decide +kernel
theorem nX5_clearOut : (parseMethodDescriptor mX5_clearOut.1.desc).map (fun d => d.parameters.length) = some 4 := by decide +kernel
theorem nX6_init : (parseMethodDescriptor mX6_init.1.desc).map (fun d => d.parameters.length) = some 0 := by decide +kernel
theorem nX6_reset : (parseMethodDescriptor mX6_reset.1.desc).map (fun d => d.parameters.length) = some 0 := by decide +kernel
theorem nX6_put : (parseMethodDescriptor mX6_put.1.desc).map (fun d => d.parameters.length) = some 3 := by decide +kernel
theorem nX6_isOne : (parseMethodDescriptor mX6_isOne.1.desc).map (fun d => d.parameters.length) = some 0 := by decide +kernel
theorem nX6_read : (parseMethodDescriptor mX6_read.1.desc).map (fun d => d.parameters.length) = some 1 := by decide +kernel
theorem nX6_denominator : (parseMethodDescriptor mX6_denominator.1.desc).map (fun d => d.parameters.length) = some 0 := by decide +kernel
theorem nX6_share : (parseMethodDescriptor mX6_share.1.desc).map (fun d => d.parameters.length) = some 1 := by decide +kernel
theorem nX7_init : (parseMethodDescriptor mX7_init.1.desc).map (fun d => d.parameters.length) = some 0 := by decide +kernel
theorem nX7_clear : (parseMethodDescriptor mX7_clear.1.desc).map (fun d => d.parameters.length) = some 0 := by decide +kernel
theorem nX7_sumUp : (parseMethodDescriptor mX7_sumUp.1.desc).map (fun d => d.parameters.length) = some 0 := by decide +kernel
theorem nX7_bits : (parseMethodDescriptor mX7_bits.1.desc).map (fun d => d.parameters.length) = some 0 := by decide +kernel
theorem nX8_init : (parseMethodDescriptor mX8_init.1.desc).map (fun d => d.parameters.length) = some 0 := by decide +kernel
theorem nX8_game : (parseMethodDescriptor mX8_game.1.desc).map (fun d => d.parameters.length) = some 2 := by decide +kernel
theorem nX8_pay : (parseMethodDescriptor mX8_pay.1.desc).map (fun d => d.parameters.length) = some 5 := by decide +kernel
theorem nX8_run : (parseMethodDescriptor mX8_run.1.desc).map (fun d => d.parameters.length) = some 1 := by decide +kernel
theorem nX8_step : (parseMethodDescriptor mX8_step.1.desc).map (fun d => d.parameters.length) = some 2 := by decide +kernel
theorem nX8_weight : (parseMethodDescriptor mX8_weight.1.desc).map (fun d => d.parameters.length) = some 4 := by decide +kernel
theorem nX8_list : (parseMethodDescriptor mX8_list.1.desc).map (fun d => d.parameters.length) = some 0 := by decide +kernel
theorem nX8_support : (parseMethodDescriptor mX8_support.1.desc).map (fun d => d.parameters.length) = some 2 := by decide +kernel
theorem nX8_strategy : (parseMethodDescriptor mX8_strategy.1.desc).map (fun d => d.parameters.length) = some 3 := by decide +kernel
theorem nX8_gets : (parseMethodDescriptor mX8_gets.1.desc).map (fun d => d.parameters.length) = some 3 := by decide +kernel
theorem nX8_replies : (parseMethodDescriptor mX8_replies.1.desc).map (fun d => d.parameters.length) = some 2 := by decide +kernel
theorem nX8_judge : (parseMethodDescriptor mX8_judge.1.desc).map (fun d => d.parameters.length) = some 1 := by decide +kernel
theorem nX8_index : (parseMethodDescriptor mX8_index.1.desc).map (fun d => d.parameters.length) = some 1 := by decide +kernel
theorem nX8_round : (parseMethodDescriptor mX8_round.1.desc).map (fun d => d.parameters.length) = some 0 := by decide +kernel
theorem nX8_isThere : (parseMethodDescriptor mX8_isThere.1.desc).map (fun d => d.parameters.length) = some 2 := by decide +kernel
theorem nX8_part : (parseMethodDescriptor mX8_part.1.desc).map (fun d => d.parameters.length) = some 2 := by decide +kernel
theorem nX8_sign : (parseMethodDescriptor mX8_sign.1.desc).map (fun d => d.parameters.length) = some 0 := by decide +kernel
theorem nX8_told : (parseMethodDescriptor mX8_told.1.desc).map (fun d => d.parameters.length) = some 1 := by decide +kernel
theorem nX8_needGame : (parseMethodDescriptor mX8_needGame.1.desc).map (fun d => d.parameters.length) = some 0 := by decide +kernel
theorem nX8_needPlayer : (parseMethodDescriptor mX8_needPlayer.1.desc).map (fun d => d.parameters.length) = some 1 := by decide +kernel
theorem nX8_needRow : (parseMethodDescriptor mX8_needRow.1.desc).map (fun d => d.parameters.length) = some 2 := by decide +kernel
theorem nX8_needSource : (parseMethodDescriptor mX8_needSource.1.desc).map (fun d => d.parameters.length) = some 1 := by decide +kernel
theorem nX8_isSource : (parseMethodDescriptor mX8_isSource.1.desc).map (fun d => d.parameters.length) = some 1 := by decide +kernel
theorem nX8_forget : (parseMethodDescriptor mX8_forget.1.desc).map (fun d => d.parameters.length) = some 0 := by decide +kernel
theorem nX8_makeList : (parseMethodDescriptor mX8_makeList.1.desc).map (fun d => d.parameters.length) = some 0 := by decide +kernel
theorem nX8_listAllWith : (parseMethodDescriptor mX8_listAllWith.1.desc).map (fun d => d.parameters.length) = some 2 := by decide +kernel
theorem nX8_load : (parseMethodDescriptor mX8_load.1.desc).map (fun d => d.parameters.length) = some 1 := by decide +kernel
theorem nX8_weighValues : (parseMethodDescriptor mX8_weighValues.1.desc).map (fun d => d.parameters.length) = some 1 := by decide +kernel
theorem nX8_bestBits : (parseMethodDescriptor mX8_bestBits.1.desc).map (fun d => d.parameters.length) = some 1 := by decide +kernel
theorem nX8_holdOfBoth : (parseMethodDescriptor mX8_holdOfBoth.1.desc).map (fun d => d.parameters.length) = some 2 := by decide +kernel
theorem nX8_bigs : (parseMethodDescriptor mX8_bigs.1.desc).map (fun d => d.parameters.length) = some 1 := by decide +kernel
theorem nX9_init : (parseMethodDescriptor mX9_init.1.desc).map (fun d => d.parameters.length) = some 0 := by decide +kernel
theorem nX9_thrown : (parseMethodDescriptor mX9_thrown.1.desc).map (fun d => d.parameters.length) = some 0 := by decide +kernel
theorem nX9_set : (parseMethodDescriptor mX9_set.1.desc).map (fun d => d.parameters.length) = some 2 := by decide +kernel
theorem nX9_copy : (parseMethodDescriptor mX9_copy.1.desc).map (fun d => d.parameters.length) = some 2 := by decide +kernel
theorem nX9_compareSizes : (parseMethodDescriptor mX9_compareSizes.1.desc).map (fun d => d.parameters.length) = some 2 := by decide +kernel
theorem nX9_compare : (parseMethodDescriptor mX9_compare.1.desc).map (fun d => d.parameters.length) = some 2 := by decide +kernel
theorem nX9_trim : (parseMethodDescriptor mX9_trim.1.desc).map (fun d => d.parameters.length) = some 2 := by decide +kernel
theorem nX9_add : (parseMethodDescriptor mX9_add.1.desc).map (fun d => d.parameters.length) = some 4 := by decide +kernel
theorem nX9_times : (parseMethodDescriptor mX9_times.1.desc).map (fun d => d.parameters.length) = some 3 := by decide +kernel
theorem nX9_divide : (parseMethodDescriptor mX9_divide.1.desc).map (fun d => d.parameters.length) = some 4 := by decide +kernel
theorem nX9_cross : (parseMethodDescriptor mX9_cross.1.desc).map (fun d => d.parameters.length) = some 6 := by decide +kernel
theorem nX9_toHand : (parseMethodDescriptor mX9_toHand.1.desc).map (fun d => d.parameters.length) = some 2 := by decide +kernel
theorem nX9_in : (parseMethodDescriptor mX9_in.1.desc).map (fun d => d.parameters.length) = some 3 := by decide +kernel
theorem nX9_common : (parseMethodDescriptor mX9_common.1.desc).map (fun d => d.parameters.length) = some 2 := by decide +kernel
theorem nX9_game : (parseMethodDescriptor mX9_game.1.desc).map (fun d => d.parameters.length) = some 2 := by decide +kernel
theorem nX9_changed : (parseMethodDescriptor mX9_changed.1.desc).map (fun d => d.parameters.length) = some 0 := by decide +kernel
theorem nX9_hasPlayer : (parseMethodDescriptor mX9_hasPlayer.1.desc).map (fun d => d.parameters.length) = some 2 := by decide +kernel
theorem nX9_pay : (parseMethodDescriptor mX9_pay.1.desc).map (fun d => d.parameters.length) = some 5 := by decide +kernel
theorem nX9_entry : (parseMethodDescriptor mX9_entry.1.desc).map (fun d => d.parameters.length) = some 3 := by decide +kernel
theorem nX9_cell : (parseMethodDescriptor mX9_cell.1.desc).map (fun d => d.parameters.length) = some 3 := by decide +kernel
theorem nX9_rowsOf : (parseMethodDescriptor mX9_rowsOf.1.desc).map (fun d => d.parameters.length) = some 1 := by decide +kernel
theorem nX9_beginTables : (parseMethodDescriptor mX9_beginTables.1.desc).map (fun d => d.parameters.length) = some 0 := by decide +kernel
theorem nX9_isBefore : (parseMethodDescriptor mX9_isBefore.1.desc).map (fun d => d.parameters.length) = some 4 := by decide +kernel
theorem nX9_enter : (parseMethodDescriptor mX9_enter.1.desc).map (fun d => d.parameters.length) = some 2 := by decide +kernel
theorem nX9_run : (parseMethodDescriptor mX9_run.1.desc).map (fun d => d.parameters.length) = some 1 := by decide +kernel
theorem nX9_step : (parseMethodDescriptor mX9_step.1.desc).map (fun d => d.parameters.length) = some 2 := by decide +kernel
theorem nX9_weight : (parseMethodDescriptor mX9_weight.1.desc).map (fun d => d.parameters.length) = some 4 := by decide +kernel
theorem nX9_placeOf : (parseMethodDescriptor mX9_placeOf.1.desc).map (fun d => d.parameters.length) = some 1 := by decide +kernel
theorem nX9_tell : (parseMethodDescriptor mX9_tell.1.desc).map (fun d => d.parameters.length) = some 0 := by decide +kernel
theorem nX9_support : (parseMethodDescriptor mX9_support.1.desc).map (fun d => d.parameters.length) = some 2 := by decide +kernel
theorem nX9_strategy : (parseMethodDescriptor mX9_strategy.1.desc).map (fun d => d.parameters.length) = some 3 := by decide +kernel
theorem nX9_rowGets : (parseMethodDescriptor mX9_rowGets.1.desc).map (fun d => d.parameters.length) = some 4 := by decide +kernel
theorem nX9_ownGets : (parseMethodDescriptor mX9_ownGets.1.desc).map (fun d => d.parameters.length) = some 3 := by decide +kernel
theorem nX9_gets : (parseMethodDescriptor mX9_gets.1.desc).map (fun d => d.parameters.length) = some 3 := by decide +kernel
theorem nX9_best : (parseMethodDescriptor mX9_best.1.desc).map (fun d => d.parameters.length) = some 2 := by decide +kernel
theorem nX9_replies : (parseMethodDescriptor mX9_replies.1.desc).map (fun d => d.parameters.length) = some 2 := by decide +kernel
theorem nX9_judge : (parseMethodDescriptor mX9_judge.1.desc).map (fun d => d.parameters.length) = some 1 := by decide +kernel
theorem nX9_bitsOf : (parseMethodDescriptor mX9_bitsOf.1.desc).map (fun d => d.parameters.length) = some 2 := by decide +kernel
theorem nX9_at : (parseMethodDescriptor mX9_at.1.desc).map (fun d => d.parameters.length) = some 2 := by decide +kernel
theorem nX9_triangle : (parseMethodDescriptor mX9_triangle.1.desc).map (fun d => d.parameters.length) = some 2 := by decide +kernel
theorem nX9_solve : (parseMethodDescriptor mX9_solve.1.desc).map (fun d => d.parameters.length) = some 4 := by decide +kernel
theorem nX9_bits : (parseMethodDescriptor mX9_bits.1.desc).map (fun d => d.parameters.length) = some 1 := by decide +kernel
theorem nX9_isEntry : (parseMethodDescriptor mX9_isEntry.1.desc).map (fun d => d.parameters.length) = some 2 := by decide +kernel
theorem nX9_list : (parseMethodDescriptor mX9_list.1.desc).map (fun d => d.parameters.length) = some 0 := by decide +kernel
theorem nX9_determinant : (parseMethodDescriptor mX9_determinant.1.desc).map (fun d => d.parameters.length) = some 3 := by decide +kernel
theorem nX9_index : (parseMethodDescriptor mX9_index.1.desc).map (fun d => d.parameters.length) = some 1 := by decide +kernel
theorem nX9_isDominated : (parseMethodDescriptor mX9_isDominated.1.desc).map (fun d => d.parameters.length) = some 2 := by decide +kernel
theorem nX9_round : (parseMethodDescriptor mX9_round.1.desc).map (fun d => d.parameters.length) = some 0 := by decide +kernel
theorem nX9_isThere : (parseMethodDescriptor mX9_isThere.1.desc).map (fun d => d.parameters.length) = some 2 := by decide +kernel
theorem nX9_part : (parseMethodDescriptor mX9_part.1.desc).map (fun d => d.parameters.length) = some 2 := by decide +kernel
theorem nX9_sign : (parseMethodDescriptor mX9_sign.1.desc).map (fun d => d.parameters.length) = some 0 := by decide +kernel
theorem nX9_told : (parseMethodDescriptor mX9_told.1.desc).map (fun d => d.parameters.length) = some 1 := by decide +kernel
theorem nL_game : (parseMethodDescriptor mL_game.1.desc).map (fun d => d.parameters.length) = some 3 := by decide +kernel
theorem nL_pay : (parseMethodDescriptor mL_pay.1.desc).map (fun d => d.parameters.length) = some 6 := by decide +kernel
theorem nL_run : (parseMethodDescriptor mL_run.1.desc).map (fun d => d.parameters.length) = some 3 := by decide +kernel
theorem nL_step : (parseMethodDescriptor mL_step.1.desc).map (fun d => d.parameters.length) = some 4 := by decide +kernel
theorem nL_weight : (parseMethodDescriptor mL_weight.1.desc).map (fun d => d.parameters.length) = some 5 := by decide +kernel
theorem nL_list : (parseMethodDescriptor mL_list.1.desc).map (fun d => d.parameters.length) = some 2 := by decide +kernel
theorem nL_support : (parseMethodDescriptor mL_support.1.desc).map (fun d => d.parameters.length) = some 4 := by decide +kernel
theorem nL_strategy : (parseMethodDescriptor mL_strategy.1.desc).map (fun d => d.parameters.length) = some 5 := by decide +kernel
theorem nL_gets : (parseMethodDescriptor mL_gets.1.desc).map (fun d => d.parameters.length) = some 5 := by decide +kernel
theorem nL_replies : (parseMethodDescriptor mL_replies.1.desc).map (fun d => d.parameters.length) = some 4 := by decide +kernel
theorem nL_judge : (parseMethodDescriptor mL_judge.1.desc).map (fun d => d.parameters.length) = some 3 := by decide +kernel
theorem nL_index : (parseMethodDescriptor mL_index.1.desc).map (fun d => d.parameters.length) = some 3 := by decide +kernel
theorem nL_round : (parseMethodDescriptor mL_round.1.desc).map (fun d => d.parameters.length) = some 2 := by decide +kernel
theorem nL_isThere : (parseMethodDescriptor mL_isThere.1.desc).map (fun d => d.parameters.length) = some 4 := by decide +kernel
theorem nL_part : (parseMethodDescriptor mL_part.1.desc).map (fun d => d.parameters.length) = some 4 := by decide +kernel
theorem nL_told : (parseMethodDescriptor mL_told.1.desc).map (fun d => d.parameters.length) = some 3 := by decide +kernel
