/-- the methods by their numbers -/
def px_tl0 : List mm_T := [(yX0_init, cX0_init, 1, none, 1, 750),
  (yX0_isFull, cX0_isFull, 1, (some .boolean), 0, 0),
  (yX0_enter, cX0_enter, 7, none, 0, 0),
  (yX1_init, cX1_init, 1, none, 4, 184),
  (yX1_read, cX1_read, 5, none, 0, 0),
  (yX1_faultOfToken, cX1_faultOfToken, 4, (some .int), 0, 0),
  (yX1_scan, cX1_scan, 3, none, 0, 0),
  (yX1_scanWord, cX1_scanWord, 3, none, 0, 0),
  (yX1_isSpelled, cX1_isSpelled, 4, (some .boolean), 0, 0),
  (yX1_scanNumber, cX1_scanNumber, 3, none, 0, 0),
  (yX1_isLetter, cX1_isLetter, 1, (some .boolean), 0, 0),
  (yX1_isFigure, cX1_isFigure, 1, (some .boolean), 0, 0),
  (yX1_kindOfSign, cX1_kindOfSign, 1, (some .int), 0, 0),
  (yX1_stateBehind, cX1_stateBehind, 1, (some .int), 0, 0),
  (yX1_behindLeaf, cX1_behindLeaf, 3, (some .int), 0, 0),
  (yX1_goesOnSum, cX1_goesOnSum, 1, (some .boolean), 0, 0),
  (yX1_behindOne, cX1_behindOne, 1, (some .int), 0, 0),
  (yX1_take, cX1_take, 1, none, 0, 0),
  (yX1_takeOperator, cX1_takeOperator, 1, none, 0, 0),
  (yX1_hold, cX1_hold, 2, none, 0, 0)]
def px_tl1 : List mm_T := [(yX1_settle, cX1_settle, 2, none, 0, 0),
  (yX1_dropBracket, cX1_dropBracket, 1, none, 0, 0),
  (yX2_init, cX2_init, 1, none, 2, 120),
  (yX2_truth, cX2_truth, 5, (some .int), 0, 0),
  (yX2_carryOut, cX2_carryOut, 5, none, 0, 0),
  (yX2_push, cX2_push, 3, none, 0, 0),
  (yX2_turn, cX2_turn, 4, none, 0, 0),
  (yX2_join, cX2_join, 5, none, 0, 0),
  (yX2_joinTruths, cX2_joinTruths, 4, none, 0, 0),
  (yX2_reckon, cX2_reckon, 5, (some .long), 0, 0),
  (yX3_init, cX3_init, 1, none, 1, 156),
  (yX3_forget, cX3_forget, 1, none, 0, 0),
  (yX3_copyFrom, cX3_copyFrom, 2, none, 0, 0),
  (yX3_countRows, cX3_countRows, 3, (some .int), 0, 0),
  (yX3_isSolved, cX3_isSolved, 2, (some .boolean), 0, 0),
  (yX3_solvedSet, cX3_solvedSet, 3, (some .int), 0, 0),
  (yX3_learn, cX3_learn, 4, none, 0, 0),
  (yX3_otherWorld, cX3_otherWorld, 8, (some .long), 0, 0),
  (yX3_leastThatMakesWhole, cX3_leastThatMakesWhole, 13, (some .long), 0, 0),
  (yX3_at, cX3_at, 3, (some .long), 0, 0)]
def px_tl2 : List mm_T := [(yX3_isPivot, cX3_isPivot, 2, (some .boolean), 0, 0),
  (yX3_firstBehind, cX3_firstBehind, 2, (some .int), 0, 0),
  (yX3_firstOf, cX3_firstOf, 4, (some .int), 0, 0),
  (yX3_clearAt, cX3_clearAt, 8, none, 0, 0),
  (yX3_settleNewRow, cX3_settleNewRow, 4, none, 0, 0),
  (yX3_divide, cX3_divide, 5, none, 0, 0),
  (yX3_commonDivisorOf, cX3_commonDivisorOf, 5, (some .long), 0, 0),
  (yX3_commonDivisor, cX3_commonDivisor, 11, (some .long), 0, 0),
  (yX4_init, cX4_init, 1, none, 2, 120),
  (yX4_empty, cX4_empty, 1, none, 0, 0),
  (yX4_append, cX4_append, 3, none, 0, 0),
  (yX4_copyFrom, cX4_copyFrom, 2, none, 0, 0),
  (yX5_init, cX5_init, 2, none, 15, 880),
  (yX5_begin, cX5_begin, 2, none, 0, 0),
  (yX5_hasClosed, cX5_hasClosed, 2, (some .boolean), 0, 0),
  (yX5_startCursor, cX5_startCursor, 2, none, 0, 0),
  (yX6_init, cX6_init, 2, none, 80, 5135),
  (yX6_object, cX6_object, 2, (some .int), 0, 0),
  (yX6_set, cX6_set, 4, (some .int), 0, 0),
  (yX6_user, cX6_user, 1, (some .int), 0, 0)]
def px_tl3 : List mm_T := [(yX6_type, cX6_type, 5, (some .int), 0, 0),
  (yX6_rule, cX6_rule, 3, (some .int), 0, 0),
  (yX6_place, cX6_place, 1, (some .int), 0, 0),
  (yX6_close, cX6_close, 4, (some .int), 0, 0),
  (yX6_seen, cX6_seen, 3, (some .int), 0, 0),
  (yX6_ask, cX6_ask, 4, (some .int), 0, 0),
  (yX6_found, cX6_found, 2, (some .int), 0, 0),
  (yX6_value, cX6_value, 5, (some .int), 0, 0),
  (yX6_sum, cX6_sum, 4, (some .int), 0, 0),
  (yX6_cell, cX6_cell, 5, (some .int), 0, 0),
  (yX6_cursor, cX6_cursor, 3, (some .int), 0, 0),
  (yX6_step, cX6_step, 3, (some .int), 0, 0),
  (yX6_solved, cX6_solved, 4, (some .int), 0, 0),
  (yX6_would, cX6_would, 5, (some .int), 0, 0),
  (yX6_world, cX6_world, 6, (some .long), 0, 0),
  (yX6_rows, cX6_rows, 3, (some .int), 0, 0),
  (yX6_audit, cX6_audit, 3, (some .int), 0, 0),
  (yX6_told, cX6_told, 2, (some .int), 0, 0),
  (yX6_clear, cX6_clear, 1, none, 0, 0),
  (yX6_isObject, cX6_isObject, 2, (some .boolean), 0, 0)]
def px_tl4 : List mm_T := [(yX6_isUser, cX6_isUser, 2, (some .boolean), 0, 0),
  (yX6_isField, cX6_isField, 1, (some .boolean), 0, 0),
  (yX6_isSet, cX6_isSet, 2, (some .boolean), 0, 0),
  (yX6_takeTape, cX6_takeTape, 1, (some .int), 0, 0),
  (yX6_takeQuery, cX6_takeQuery, 4, (some .int), 0, 0),
  (yX6_isSeen, cX6_isSeen, 3, (some .boolean), 0, 0),
  (yX6_isMatch, cX6_isMatch, 4, (some .boolean), 0, 0),
  (yX6_countByRule, cX6_countByRule, 5, (some .int), 0, 0),
  (yX6_countBetween, cX6_countBetween, 8, (some .int), 0, 0),
  (yX6_moveCursor, cX6_moveCursor, 3, (some .int), 0, 0),
  (yX6_hiddenFrom, cX6_hiddenFrom, 6, (some .int), 0, 0),
  (yX6_total, cX6_total, 5, (some .int), 0, 0),
  (yX6_tryOut, cX6_tryOut, 4, none, 0, 0),
  (yX6_tell, cX6_tell, 6, (some .boolean), 0, 0),
  (yX7_init, cX7_init, 1, none, 15, 4036),
  (yX7_thrown, cX7_thrown, 1, (some .int), 0, 0),
  (yX7_isObject, cX7_isObject, 2, (some .boolean), 0, 0),
  (yX7_isUser, cX7_isUser, 2, (some .boolean), 0, 0),
  (yX7_isField, cX7_isField, 1, (some .boolean), 0, 0),
  (yX7_isSet, cX7_isSet, 2, (some .boolean), 0, 0)]
def px_tl5 : List mm_T := [(yX7_object, cX7_object, 2, (some .int), 0, 0),
  (yX7_set, cX7_set, 4, (some .int), 0, 0),
  (yX7_user, cX7_user, 1, (some .int), 0, 0),
  (yX7_type, cX7_type, 5, (some .int), 0, 0),
  (yX7_isLetter, cX7_isLetter, 1, (some .boolean), 0, 0),
  (yX7_isFigure, cX7_isFigure, 1, (some .boolean), 0, 0),
  (yX7_wordFrom, cX7_wordFrom, 6, (some .int), 0, 0),
  (yX7_next, cX7_next, 4, none, 0, 0),
  (yX7_fail, cX7_fail, 2, none, 0, 0),
  (yX7_odd, cX7_odd, 1, none, 0, 0),
  (yX7_take, cX7_take, 1, none, 0, 0),
  (yX7_isSign, cX7_isSign, 2, (some .boolean), 0, 0),
  (yX7_put, cX7_put, 2, none, 0, 0),
  (yX7_opens, cX7_opens, 1, none, 0, 0),
  (yX7_any, cX7_any, 1, none, 0, 0),
  (yX7_all, cX7_all, 1, none, 0, 0),
  (yX7_one, cX7_one, 2, none, 0, 0),
  (yX7_sum, cX7_sum, 2, none, 0, 0),
  (yX7_times, cX7_times, 2, none, 0, 0),
  (yX7_leaf, cX7_leaf, 4, none, 0, 0)]
def px_tl6 : List mm_T := [(yX7_reads, cX7_reads, 1, (some .boolean), 0, 0),
  (yX7_keep, cX7_keep, 3, none, 0, 0),
  (yX7_place, cX7_place, 1, (some .int), 0, 0),
  (yX7_what, cX7_what, 6, (some .int), 0, 0),
  (yX7_join, cX7_join, 11, none, 0, 0),
  (yX7_isSeen, cX7_isSeen, 3, (some .boolean), 0, 0),
  (yX7_isClosed, cX7_isClosed, 3, (some .boolean), 0, 0),
  (yX7_isHidden, cX7_isHidden, 4, (some .boolean), 0, 0),
  (yX7_isBarred, cX7_isBarred, 5, (some .boolean), 0, 0),
  (yX7_matches, cX7_matches, 4, (some .boolean), 0, 0),
  (yX7_count, cX7_count, 6, (some .int), 0, 0),
  (yX7_rule, cX7_rule, 2, (some .int), 0, 0),
  (yX7_close, cX7_close, 4, (some .int), 0, 0),
  (yX7_seen, cX7_seen, 3, (some .int), 0, 0),
  (yX7_note, cX7_note, 6, none, 0, 0),
  (yX7_query, cX7_query, 3, (some .int), 0, 0),
  (yX7_ask, cX7_ask, 4, (some .int), 0, 0),
  (yX7_found, cX7_found, 2, (some .int), 0, 0),
  (yX7_cell, cX7_cell, 8, (some .int), 0, 0),
  (yX7_cursor, cX7_cursor, 3, (some .int), 0, 0)]
def px_tl7 : List mm_T := [(yX7_step, cX7_step, 3, (some .int), 0, 0),
  (yX7_divisor, cX7_divisor, 10, (some .long), 0, 0),
  (yX7_mix, cX7_mix, 10, none, 0, 0),
  (yX7_swap, cX7_swap, 6, none, 0, 0),
  (yX7_reduce, cX7_reduce, 8, none, 0, 0),
  (yX7_rowOf, cX7_rowOf, 3, (some .int), 0, 0),
  (yX7_isSolved, cX7_isSolved, 4, (some .boolean), 0, 0),
  (yX7_isKeptBack, cX7_isKeptBack, 6, (some .boolean), 0, 0),
  (yX7_tell, cX7_tell, 4, none, 0, 0),
  (yX7_value, cX7_value, 4, (some .int), 0, 0),
  (yX7_sum_, cX7_sum_, 6, (some .int), 0, 0),
  (yX7_solved, cX7_solved, 4, (some .int), 0, 0),
  (yX7_would, cX7_would, 5, (some .int), 0, 0),
  (yX7_world, cX7_world, 16, (some .long), 0, 0),
  (yX7_rows, cX7_rows, 3, (some .int), 0, 0),
  (yX7_audit, cX7_audit, 3, (some .int), 0, 0),
  (yX7_told, cX7_told, 2, (some .int), 0, 0),
  (yX7_clear, cX7_clear, 1, none, 0, 0),
  (yJ7_fill_d0a16, cJ7_fill_d0a16, 5, none, 0, 0),
  (yJ0_length_8abf5, cJ0_length_8abf5, 1, (some .int), 0, 0)]
def px_tl8 : List mm_T := [(yJ0_coder_7d493, cJ0_coder_7d493, 1, (some .byte), 0, 0),
  (yJ0_isLatin1_aae02, cJ0_isLatin1_aae02, 1, (some .boolean), 0, 0),
  (yJ0_charAt_5068e, cJ0_charAt_5068e, 2, (some .char), 0, 0),
  (yJ1_charAt_3b067, cJ1_charAt_3b067, 2, (some .char), 0, 0),
  (yJ0_checkIndex_df160, cJ0_checkIndex_df160, 2, none, 0, 0),
  (yJ3_checkIndex_8e157, cJ3_checkIndex_8e157, 3, (some .int), 0, 0),
  (yL_value, cL_value, 6, (some .int), 1, 6),
  (yL_sum, cL_sum, 6, (some .int), 1, 6)]
def px_tab (y : Nat) : mm_T := (px_tl0 ++ (px_tl1 ++ (px_tl2 ++ (px_tl3 ++ (px_tl4 ++ (px_tl5 ++ (px_tl6 ++ (px_tl7 ++ (px_tl8)))))))))[y]?.getD (yX0_init, cX0_init, 0, none, 0, 0)
theorem tb_0 : px_tab 0 = (yX0_init, cX0_init, 1, none, 1, 750) := rfl
theorem tb_1 : px_tab 1 = (yX0_isFull, cX0_isFull, 1, (some .boolean), 0, 0) := rfl
theorem tb_2 : px_tab 2 = (yX0_enter, cX0_enter, 7, none, 0, 0) := rfl
theorem tb_3 : px_tab 3 = (yX1_init, cX1_init, 1, none, 4, 184) := rfl
theorem tb_4 : px_tab 4 = (yX1_read, cX1_read, 5, none, 0, 0) := rfl
theorem tb_5 : px_tab 5 = (yX1_faultOfToken, cX1_faultOfToken, 4, (some .int), 0, 0) := rfl
theorem tb_6 : px_tab 6 = (yX1_scan, cX1_scan, 3, none, 0, 0) := rfl
theorem tb_7 : px_tab 7 = (yX1_scanWord, cX1_scanWord, 3, none, 0, 0) := rfl
theorem tb_8 : px_tab 8 = (yX1_isSpelled, cX1_isSpelled, 4, (some .boolean), 0, 0) := rfl
theorem tb_9 : px_tab 9 = (yX1_scanNumber, cX1_scanNumber, 3, none, 0, 0) := rfl
theorem tb_10 : px_tab 10 = (yX1_isLetter, cX1_isLetter, 1, (some .boolean), 0, 0) := rfl
theorem tb_11 : px_tab 11 = (yX1_isFigure, cX1_isFigure, 1, (some .boolean), 0, 0) := rfl
theorem tb_12 : px_tab 12 = (yX1_kindOfSign, cX1_kindOfSign, 1, (some .int), 0, 0) := rfl
theorem tb_13 : px_tab 13 = (yX1_stateBehind, cX1_stateBehind, 1, (some .int), 0, 0) := rfl
theorem tb_14 : px_tab 14 = (yX1_behindLeaf, cX1_behindLeaf, 3, (some .int), 0, 0) := rfl
theorem tb_15 : px_tab 15 = (yX1_goesOnSum, cX1_goesOnSum, 1, (some .boolean), 0, 0) := rfl
theorem tb_16 : px_tab 16 = (yX1_behindOne, cX1_behindOne, 1, (some .int), 0, 0) := rfl
theorem tb_17 : px_tab 17 = (yX1_take, cX1_take, 1, none, 0, 0) := rfl
theorem tb_18 : px_tab 18 = (yX1_takeOperator, cX1_takeOperator, 1, none, 0, 0) := rfl
theorem tb_19 : px_tab 19 = (yX1_hold, cX1_hold, 2, none, 0, 0) := rfl
theorem tb_20 : px_tab 20 = (yX1_settle, cX1_settle, 2, none, 0, 0) := rfl
theorem tb_21 : px_tab 21 = (yX1_dropBracket, cX1_dropBracket, 1, none, 0, 0) := rfl
theorem tb_22 : px_tab 22 = (yX2_init, cX2_init, 1, none, 2, 120) := rfl
theorem tb_23 : px_tab 23 = (yX2_truth, cX2_truth, 5, (some .int), 0, 0) := rfl
theorem tb_24 : px_tab 24 = (yX2_carryOut, cX2_carryOut, 5, none, 0, 0) := rfl
theorem tb_25 : px_tab 25 = (yX2_push, cX2_push, 3, none, 0, 0) := rfl
theorem tb_26 : px_tab 26 = (yX2_turn, cX2_turn, 4, none, 0, 0) := rfl
theorem tb_27 : px_tab 27 = (yX2_join, cX2_join, 5, none, 0, 0) := rfl
theorem tb_28 : px_tab 28 = (yX2_joinTruths, cX2_joinTruths, 4, none, 0, 0) := rfl
theorem tb_29 : px_tab 29 = (yX2_reckon, cX2_reckon, 5, (some .long), 0, 0) := rfl
theorem tb_30 : px_tab 30 = (yX3_init, cX3_init, 1, none, 1, 156) := rfl
theorem tb_31 : px_tab 31 = (yX3_forget, cX3_forget, 1, none, 0, 0) := rfl
theorem tb_32 : px_tab 32 = (yX3_copyFrom, cX3_copyFrom, 2, none, 0, 0) := rfl
theorem tb_33 : px_tab 33 = (yX3_countRows, cX3_countRows, 3, (some .int), 0, 0) := rfl
theorem tb_34 : px_tab 34 = (yX3_isSolved, cX3_isSolved, 2, (some .boolean), 0, 0) := rfl
theorem tb_35 : px_tab 35 = (yX3_solvedSet, cX3_solvedSet, 3, (some .int), 0, 0) := rfl
theorem tb_36 : px_tab 36 = (yX3_learn, cX3_learn, 4, none, 0, 0) := rfl
theorem tb_37 : px_tab 37 = (yX3_otherWorld, cX3_otherWorld, 8, (some .long), 0, 0) := rfl
theorem tb_38 : px_tab 38 = (yX3_leastThatMakesWhole, cX3_leastThatMakesWhole, 13, (some .long), 0, 0) := rfl
theorem tb_39 : px_tab 39 = (yX3_at, cX3_at, 3, (some .long), 0, 0) := rfl
theorem tb_40 : px_tab 40 = (yX3_isPivot, cX3_isPivot, 2, (some .boolean), 0, 0) := rfl
theorem tb_41 : px_tab 41 = (yX3_firstBehind, cX3_firstBehind, 2, (some .int), 0, 0) := rfl
theorem tb_42 : px_tab 42 = (yX3_firstOf, cX3_firstOf, 4, (some .int), 0, 0) := rfl
theorem tb_43 : px_tab 43 = (yX3_clearAt, cX3_clearAt, 8, none, 0, 0) := rfl
theorem tb_44 : px_tab 44 = (yX3_settleNewRow, cX3_settleNewRow, 4, none, 0, 0) := rfl
theorem tb_45 : px_tab 45 = (yX3_divide, cX3_divide, 5, none, 0, 0) := rfl
theorem tb_46 : px_tab 46 = (yX3_commonDivisorOf, cX3_commonDivisorOf, 5, (some .long), 0, 0) := rfl
theorem tb_47 : px_tab 47 = (yX3_commonDivisor, cX3_commonDivisor, 11, (some .long), 0, 0) := rfl
theorem tb_48 : px_tab 48 = (yX4_init, cX4_init, 1, none, 2, 120) := rfl
theorem tb_49 : px_tab 49 = (yX4_empty, cX4_empty, 1, none, 0, 0) := rfl
theorem tb_50 : px_tab 50 = (yX4_append, cX4_append, 3, none, 0, 0) := rfl
theorem tb_51 : px_tab 51 = (yX4_copyFrom, cX4_copyFrom, 2, none, 0, 0) := rfl
theorem tb_52 : px_tab 52 = (yX5_init, cX5_init, 2, none, 15, 880) := rfl
theorem tb_53 : px_tab 53 = (yX5_begin, cX5_begin, 2, none, 0, 0) := rfl
theorem tb_54 : px_tab 54 = (yX5_hasClosed, cX5_hasClosed, 2, (some .boolean), 0, 0) := rfl
theorem tb_55 : px_tab 55 = (yX5_startCursor, cX5_startCursor, 2, none, 0, 0) := rfl
theorem tb_56 : px_tab 56 = (yX6_init, cX6_init, 2, none, 80, 5135) := rfl
theorem tb_57 : px_tab 57 = (yX6_object, cX6_object, 2, (some .int), 0, 0) := rfl
theorem tb_58 : px_tab 58 = (yX6_set, cX6_set, 4, (some .int), 0, 0) := rfl
theorem tb_59 : px_tab 59 = (yX6_user, cX6_user, 1, (some .int), 0, 0) := rfl
theorem tb_60 : px_tab 60 = (yX6_type, cX6_type, 5, (some .int), 0, 0) := rfl
theorem tb_61 : px_tab 61 = (yX6_rule, cX6_rule, 3, (some .int), 0, 0) := rfl
theorem tb_62 : px_tab 62 = (yX6_place, cX6_place, 1, (some .int), 0, 0) := rfl
theorem tb_63 : px_tab 63 = (yX6_close, cX6_close, 4, (some .int), 0, 0) := rfl
theorem tb_64 : px_tab 64 = (yX6_seen, cX6_seen, 3, (some .int), 0, 0) := rfl
theorem tb_65 : px_tab 65 = (yX6_ask, cX6_ask, 4, (some .int), 0, 0) := rfl
theorem tb_66 : px_tab 66 = (yX6_found, cX6_found, 2, (some .int), 0, 0) := rfl
theorem tb_67 : px_tab 67 = (yX6_value, cX6_value, 5, (some .int), 0, 0) := rfl
theorem tb_68 : px_tab 68 = (yX6_sum, cX6_sum, 4, (some .int), 0, 0) := rfl
theorem tb_69 : px_tab 69 = (yX6_cell, cX6_cell, 5, (some .int), 0, 0) := rfl
theorem tb_70 : px_tab 70 = (yX6_cursor, cX6_cursor, 3, (some .int), 0, 0) := rfl
theorem tb_71 : px_tab 71 = (yX6_step, cX6_step, 3, (some .int), 0, 0) := rfl
theorem tb_72 : px_tab 72 = (yX6_solved, cX6_solved, 4, (some .int), 0, 0) := rfl
theorem tb_73 : px_tab 73 = (yX6_would, cX6_would, 5, (some .int), 0, 0) := rfl
theorem tb_74 : px_tab 74 = (yX6_world, cX6_world, 6, (some .long), 0, 0) := rfl
theorem tb_75 : px_tab 75 = (yX6_rows, cX6_rows, 3, (some .int), 0, 0) := rfl
theorem tb_76 : px_tab 76 = (yX6_audit, cX6_audit, 3, (some .int), 0, 0) := rfl
theorem tb_77 : px_tab 77 = (yX6_told, cX6_told, 2, (some .int), 0, 0) := rfl
theorem tb_78 : px_tab 78 = (yX6_clear, cX6_clear, 1, none, 0, 0) := rfl
theorem tb_79 : px_tab 79 = (yX6_isObject, cX6_isObject, 2, (some .boolean), 0, 0) := rfl
theorem tb_80 : px_tab 80 = (yX6_isUser, cX6_isUser, 2, (some .boolean), 0, 0) := rfl
theorem tb_81 : px_tab 81 = (yX6_isField, cX6_isField, 1, (some .boolean), 0, 0) := rfl
theorem tb_82 : px_tab 82 = (yX6_isSet, cX6_isSet, 2, (some .boolean), 0, 0) := rfl
theorem tb_83 : px_tab 83 = (yX6_takeTape, cX6_takeTape, 1, (some .int), 0, 0) := rfl
theorem tb_84 : px_tab 84 = (yX6_takeQuery, cX6_takeQuery, 4, (some .int), 0, 0) := rfl
theorem tb_85 : px_tab 85 = (yX6_isSeen, cX6_isSeen, 3, (some .boolean), 0, 0) := rfl
theorem tb_86 : px_tab 86 = (yX6_isMatch, cX6_isMatch, 4, (some .boolean), 0, 0) := rfl
theorem tb_87 : px_tab 87 = (yX6_countByRule, cX6_countByRule, 5, (some .int), 0, 0) := rfl
theorem tb_88 : px_tab 88 = (yX6_countBetween, cX6_countBetween, 8, (some .int), 0, 0) := rfl
theorem tb_89 : px_tab 89 = (yX6_moveCursor, cX6_moveCursor, 3, (some .int), 0, 0) := rfl
theorem tb_90 : px_tab 90 = (yX6_hiddenFrom, cX6_hiddenFrom, 6, (some .int), 0, 0) := rfl
theorem tb_91 : px_tab 91 = (yX6_total, cX6_total, 5, (some .int), 0, 0) := rfl
theorem tb_92 : px_tab 92 = (yX6_tryOut, cX6_tryOut, 4, none, 0, 0) := rfl
theorem tb_93 : px_tab 93 = (yX6_tell, cX6_tell, 6, (some .boolean), 0, 0) := rfl
theorem tb_94 : px_tab 94 = (yX7_init, cX7_init, 1, none, 15, 4036) := rfl
theorem tb_95 : px_tab 95 = (yX7_thrown, cX7_thrown, 1, (some .int), 0, 0) := rfl
theorem tb_96 : px_tab 96 = (yX7_isObject, cX7_isObject, 2, (some .boolean), 0, 0) := rfl
theorem tb_97 : px_tab 97 = (yX7_isUser, cX7_isUser, 2, (some .boolean), 0, 0) := rfl
theorem tb_98 : px_tab 98 = (yX7_isField, cX7_isField, 1, (some .boolean), 0, 0) := rfl
theorem tb_99 : px_tab 99 = (yX7_isSet, cX7_isSet, 2, (some .boolean), 0, 0) := rfl
theorem tb_100 : px_tab 100 = (yX7_object, cX7_object, 2, (some .int), 0, 0) := rfl
theorem tb_101 : px_tab 101 = (yX7_set, cX7_set, 4, (some .int), 0, 0) := rfl
theorem tb_102 : px_tab 102 = (yX7_user, cX7_user, 1, (some .int), 0, 0) := rfl
theorem tb_103 : px_tab 103 = (yX7_type, cX7_type, 5, (some .int), 0, 0) := rfl
theorem tb_104 : px_tab 104 = (yX7_isLetter, cX7_isLetter, 1, (some .boolean), 0, 0) := rfl
theorem tb_105 : px_tab 105 = (yX7_isFigure, cX7_isFigure, 1, (some .boolean), 0, 0) := rfl
theorem tb_106 : px_tab 106 = (yX7_wordFrom, cX7_wordFrom, 6, (some .int), 0, 0) := rfl
theorem tb_107 : px_tab 107 = (yX7_next, cX7_next, 4, none, 0, 0) := rfl
theorem tb_108 : px_tab 108 = (yX7_fail, cX7_fail, 2, none, 0, 0) := rfl
theorem tb_109 : px_tab 109 = (yX7_odd, cX7_odd, 1, none, 0, 0) := rfl
theorem tb_110 : px_tab 110 = (yX7_take, cX7_take, 1, none, 0, 0) := rfl
theorem tb_111 : px_tab 111 = (yX7_isSign, cX7_isSign, 2, (some .boolean), 0, 0) := rfl
theorem tb_112 : px_tab 112 = (yX7_put, cX7_put, 2, none, 0, 0) := rfl
theorem tb_113 : px_tab 113 = (yX7_opens, cX7_opens, 1, none, 0, 0) := rfl
theorem tb_114 : px_tab 114 = (yX7_any, cX7_any, 1, none, 0, 0) := rfl
theorem tb_115 : px_tab 115 = (yX7_all, cX7_all, 1, none, 0, 0) := rfl
theorem tb_116 : px_tab 116 = (yX7_one, cX7_one, 2, none, 0, 0) := rfl
theorem tb_117 : px_tab 117 = (yX7_sum, cX7_sum, 2, none, 0, 0) := rfl
theorem tb_118 : px_tab 118 = (yX7_times, cX7_times, 2, none, 0, 0) := rfl
theorem tb_119 : px_tab 119 = (yX7_leaf, cX7_leaf, 4, none, 0, 0) := rfl
theorem tb_120 : px_tab 120 = (yX7_reads, cX7_reads, 1, (some .boolean), 0, 0) := rfl
theorem tb_121 : px_tab 121 = (yX7_keep, cX7_keep, 3, none, 0, 0) := rfl
theorem tb_122 : px_tab 122 = (yX7_place, cX7_place, 1, (some .int), 0, 0) := rfl
theorem tb_123 : px_tab 123 = (yX7_what, cX7_what, 6, (some .int), 0, 0) := rfl
theorem tb_124 : px_tab 124 = (yX7_join, cX7_join, 11, none, 0, 0) := rfl
theorem tb_125 : px_tab 125 = (yX7_isSeen, cX7_isSeen, 3, (some .boolean), 0, 0) := rfl
theorem tb_126 : px_tab 126 = (yX7_isClosed, cX7_isClosed, 3, (some .boolean), 0, 0) := rfl
theorem tb_127 : px_tab 127 = (yX7_isHidden, cX7_isHidden, 4, (some .boolean), 0, 0) := rfl
theorem tb_128 : px_tab 128 = (yX7_isBarred, cX7_isBarred, 5, (some .boolean), 0, 0) := rfl
theorem tb_129 : px_tab 129 = (yX7_matches, cX7_matches, 4, (some .boolean), 0, 0) := rfl
theorem tb_130 : px_tab 130 = (yX7_count, cX7_count, 6, (some .int), 0, 0) := rfl
theorem tb_131 : px_tab 131 = (yX7_rule, cX7_rule, 2, (some .int), 0, 0) := rfl
theorem tb_132 : px_tab 132 = (yX7_close, cX7_close, 4, (some .int), 0, 0) := rfl
theorem tb_133 : px_tab 133 = (yX7_seen, cX7_seen, 3, (some .int), 0, 0) := rfl
theorem tb_134 : px_tab 134 = (yX7_note, cX7_note, 6, none, 0, 0) := rfl
theorem tb_135 : px_tab 135 = (yX7_query, cX7_query, 3, (some .int), 0, 0) := rfl
theorem tb_136 : px_tab 136 = (yX7_ask, cX7_ask, 4, (some .int), 0, 0) := rfl
theorem tb_137 : px_tab 137 = (yX7_found, cX7_found, 2, (some .int), 0, 0) := rfl
theorem tb_138 : px_tab 138 = (yX7_cell, cX7_cell, 8, (some .int), 0, 0) := rfl
theorem tb_139 : px_tab 139 = (yX7_cursor, cX7_cursor, 3, (some .int), 0, 0) := rfl
theorem tb_140 : px_tab 140 = (yX7_step, cX7_step, 3, (some .int), 0, 0) := rfl
theorem tb_141 : px_tab 141 = (yX7_divisor, cX7_divisor, 10, (some .long), 0, 0) := rfl
theorem tb_142 : px_tab 142 = (yX7_mix, cX7_mix, 10, none, 0, 0) := rfl
theorem tb_143 : px_tab 143 = (yX7_swap, cX7_swap, 6, none, 0, 0) := rfl
theorem tb_144 : px_tab 144 = (yX7_reduce, cX7_reduce, 8, none, 0, 0) := rfl
theorem tb_145 : px_tab 145 = (yX7_rowOf, cX7_rowOf, 3, (some .int), 0, 0) := rfl
theorem tb_146 : px_tab 146 = (yX7_isSolved, cX7_isSolved, 4, (some .boolean), 0, 0) := rfl
theorem tb_147 : px_tab 147 = (yX7_isKeptBack, cX7_isKeptBack, 6, (some .boolean), 0, 0) := rfl
theorem tb_148 : px_tab 148 = (yX7_tell, cX7_tell, 4, none, 0, 0) := rfl
theorem tb_149 : px_tab 149 = (yX7_value, cX7_value, 4, (some .int), 0, 0) := rfl
theorem tb_150 : px_tab 150 = (yX7_sum_, cX7_sum_, 6, (some .int), 0, 0) := rfl
theorem tb_151 : px_tab 151 = (yX7_solved, cX7_solved, 4, (some .int), 0, 0) := rfl
theorem tb_152 : px_tab 152 = (yX7_would, cX7_would, 5, (some .int), 0, 0) := rfl
theorem tb_153 : px_tab 153 = (yX7_world, cX7_world, 16, (some .long), 0, 0) := rfl
theorem tb_154 : px_tab 154 = (yX7_rows, cX7_rows, 3, (some .int), 0, 0) := rfl
theorem tb_155 : px_tab 155 = (yX7_audit, cX7_audit, 3, (some .int), 0, 0) := rfl
theorem tb_156 : px_tab 156 = (yX7_told, cX7_told, 2, (some .int), 0, 0) := rfl
theorem tb_157 : px_tab 157 = (yX7_clear, cX7_clear, 1, none, 0, 0) := rfl
theorem tb_158 : px_tab 158 = (yJ7_fill_d0a16, cJ7_fill_d0a16, 5, none, 0, 0) := rfl
theorem tb_159 : px_tab 159 = (yJ0_length_8abf5, cJ0_length_8abf5, 1, (some .int), 0, 0) := rfl
theorem tb_160 : px_tab 160 = (yJ0_coder_7d493, cJ0_coder_7d493, 1, (some .byte), 0, 0) := rfl
theorem tb_161 : px_tab 161 = (yJ0_isLatin1_aae02, cJ0_isLatin1_aae02, 1, (some .boolean), 0, 0) := rfl
theorem tb_162 : px_tab 162 = (yJ0_charAt_5068e, cJ0_charAt_5068e, 2, (some .char), 0, 0) := rfl
theorem tb_163 : px_tab 163 = (yJ1_charAt_3b067, cJ1_charAt_3b067, 2, (some .char), 0, 0) := rfl
theorem tb_164 : px_tab 164 = (yJ0_checkIndex_df160, cJ0_checkIndex_df160, 2, none, 0, 0) := rfl
theorem tb_165 : px_tab 165 = (yJ3_checkIndex_8e157, cJ3_checkIndex_8e157, 3, (some .int), 0, 0) := rfl
theorem tb_166 : px_tab 166 = (yL_value, cL_value, 6, (some .int), 1, 6) := rfl
theorem tb_167 : px_tab 167 = (yL_sum, cL_sum, 6, (some .int), 1, 6) := rfl
def px_no : mm_J → mm_C → mm_Q → mm_J := fun _ _ _ _ _ _ _ _ => False
def px_pl0 : List mm_D := [(1, (1, 750), pb_X0_init),
  (1, (0, 0), pb_X0_isFull),
  (7, (0, 0), pb_X0_enter),
  (1, (4, 184), pb_X1_init),
  (5, (0, 0), pb_X1_read),
  (4, (0, 0), pb_X1_faultOfToken),
  (3, (0, 0), pb_X1_scan),
  (3, (0, 0), pb_X1_scanWord),
  (4, (0, 0), pb_X1_isSpelled),
  (3, (0, 0), pb_X1_scanNumber),
  (1, (0, 0), pb_X1_isLetter),
  (1, (0, 0), pb_X1_isFigure),
  (1, (0, 0), pb_X1_kindOfSign),
  (1, (0, 0), pb_X1_stateBehind),
  (3, (0, 0), pb_X1_behindLeaf),
  (1, (0, 0), pb_X1_goesOnSum),
  (1, (0, 0), pb_X1_behindOne),
  (1, (0, 0), pb_X1_take),
  (1, (0, 0), pb_X1_takeOperator),
  (2, (0, 0), pb_X1_hold)]
def px_pl1 : List mm_D := [(2, (0, 0), pb_X1_settle),
  (1, (0, 0), pb_X1_dropBracket),
  (1, (2, 120), pb_X2_init),
  (5, (0, 0), pb_X2_truth),
  (5, (0, 0), pb_X2_carryOut),
  (3, (0, 0), pb_X2_push),
  (4, (0, 0), pb_X2_turn),
  (5, (0, 0), pb_X2_join),
  (4, (0, 0), pb_X2_joinTruths),
  (5, (0, 0), pb_X2_reckon),
  (1, (1, 156), pb_X3_init),
  (1, (0, 0), pb_X3_forget),
  (2, (0, 0), pb_X3_copyFrom),
  (3, (0, 0), pb_X3_countRows),
  (2, (0, 0), pb_X3_isSolved),
  (3, (0, 0), pb_X3_solvedSet),
  (4, (0, 0), pb_X3_learn),
  (8, (0, 0), pb_X3_otherWorld),
  (13, (0, 0), pb_X3_leastThatMakesWhole),
  (3, (0, 0), pb_X3_at)]
def px_pl2 : List mm_D := [(2, (0, 0), pb_X3_isPivot),
  (2, (0, 0), pb_X3_firstBehind),
  (4, (0, 0), pb_X3_firstOf),
  (8, (0, 0), pb_X3_clearAt),
  (4, (0, 0), pb_X3_settleNewRow),
  (5, (0, 0), pb_X3_divide),
  (5, (0, 0), pb_X3_commonDivisorOf),
  (11, (0, 0), pb_X3_commonDivisor),
  (1, (2, 120), pb_X4_init),
  (1, (0, 0), pb_X4_empty),
  (3, (0, 0), pb_X4_append),
  (2, (0, 0), pb_X4_copyFrom),
  (2, (15, 880), pb_X5_init),
  (2, (0, 0), pb_X5_begin),
  (2, (0, 0), pb_X5_hasClosed),
  (2, (0, 0), pb_X5_startCursor),
  (2, (80, 5135), pb_X6_init),
  (2, (0, 0), pb_X6_object),
  (4, (0, 0), pb_X6_set),
  (1, (0, 0), pb_X6_user)]
def px_pl3 : List mm_D := [(5, (0, 0), pb_X6_type),
  (3, (0, 0), pb_X6_rule),
  (1, (0, 0), pb_X6_place),
  (4, (0, 0), pb_X6_close),
  (3, (0, 0), pb_X6_seen),
  (4, (0, 0), pb_X6_ask),
  (2, (0, 0), pb_X6_found),
  (5, (0, 0), px_no),
  (4, (0, 0), px_no),
  (5, (0, 0), pb_X6_cell),
  (3, (0, 0), pb_X6_cursor),
  (3, (0, 0), pb_X6_step),
  (4, (0, 0), pb_X6_solved),
  (5, (0, 0), pb_X6_would),
  (6, (0, 0), pb_X6_world),
  (3, (0, 0), pb_X6_rows),
  (3, (0, 0), pb_X6_audit),
  (2, (0, 0), pb_X6_told),
  (1, (0, 0), pb_X6_clear),
  (2, (0, 0), pb_X6_isObject)]
def px_pl4 : List mm_D := [(2, (0, 0), pb_X6_isUser),
  (1, (0, 0), pb_X6_isField),
  (2, (0, 0), pb_X6_isSet),
  (1, (0, 0), pb_X6_takeTape),
  (4, (0, 0), pb_X6_takeQuery),
  (3, (0, 0), pb_X6_isSeen),
  (4, (0, 0), pb_X6_isMatch),
  (5, (0, 0), pb_X6_countByRule),
  (8, (0, 0), pb_X6_countBetween),
  (3, (0, 0), pb_X6_moveCursor),
  (6, (0, 0), pb_X6_hiddenFrom),
  (5, (0, 0), pb_X6_total),
  (4, (0, 0), pb_X6_tryOut),
  (6, (0, 0), pb_X6_tell),
  (1, (15, 4036), pb_X7_init),
  (1, (0, 0), pb_X7_thrown),
  (2, (0, 0), pb_X7_isObject),
  (2, (0, 0), pb_X7_isUser),
  (1, (0, 0), pb_X7_isField),
  (2, (0, 0), pb_X7_isSet)]
def px_pl5 : List mm_D := [(2, (0, 0), pb_X7_object),
  (4, (0, 0), pb_X7_set),
  (1, (0, 0), pb_X7_user),
  (5, (0, 0), pb_X7_type),
  (1, (0, 0), pb_X7_isLetter),
  (1, (0, 0), pb_X7_isFigure),
  (6, (0, 0), pb_X7_wordFrom),
  (4, (0, 0), pb_X7_next),
  (2, (0, 0), pb_X7_fail),
  (1, (0, 0), pb_X7_odd),
  (1, (0, 0), pb_X7_take),
  (2, (0, 0), pb_X7_isSign),
  (2, (0, 0), pb_X7_put),
  (1, (0, 0), pb_X7_opens),
  (1, (0, 0), pb_X7_any),
  (1, (0, 0), pb_X7_all),
  (2, (0, 0), pb_X7_one),
  (2, (0, 0), pb_X7_sum),
  (2, (0, 0), pb_X7_times),
  (4, (0, 0), pb_X7_leaf)]
def px_pl6 : List mm_D := [(1, (0, 0), pb_X7_reads),
  (3, (0, 0), pb_X7_keep),
  (1, (0, 0), pb_X7_place),
  (6, (0, 0), pb_X7_what),
  (11, (0, 0), pb_X7_join),
  (3, (0, 0), pb_X7_isSeen),
  (3, (0, 0), pb_X7_isClosed),
  (4, (0, 0), pb_X7_isHidden),
  (5, (0, 0), pb_X7_isBarred),
  (4, (0, 0), pb_X7_matches),
  (6, (0, 0), pb_X7_count),
  (2, (0, 0), pb_X7_rule),
  (4, (0, 0), pb_X7_close),
  (3, (0, 0), pb_X7_seen),
  (6, (0, 0), pb_X7_note),
  (3, (0, 0), pb_X7_query),
  (4, (0, 0), pb_X7_ask),
  (2, (0, 0), pb_X7_found),
  (8, (0, 0), pb_X7_cell),
  (3, (0, 0), pb_X7_cursor)]
def px_pl7 : List mm_D := [(3, (0, 0), pb_X7_step),
  (10, (0, 0), pb_X7_divisor),
  (10, (0, 0), pb_X7_mix),
  (6, (0, 0), pb_X7_swap),
  (8, (0, 0), pb_X7_reduce),
  (3, (0, 0), pb_X7_rowOf),
  (4, (0, 0), pb_X7_isSolved),
  (6, (0, 0), pb_X7_isKeptBack),
  (4, (0, 0), pb_X7_tell),
  (4, (0, 0), pb_X7_value),
  (6, (0, 0), pb_X7_sum_),
  (4, (0, 0), pb_X7_solved),
  (5, (0, 0), pb_X7_would),
  (16, (0, 0), pb_X7_world),
  (3, (0, 0), pb_X7_rows),
  (3, (0, 0), pb_X7_audit),
  (2, (0, 0), pb_X7_told),
  (1, (0, 0), pb_X7_clear),
  (5, (0, 0), pb_J7_fill_d0a16),
  (1, (0, 0), pb_J0_length_8abf5)]
def px_pl8 : List mm_D := [(1, (0, 0), pb_J0_coder_7d493),
  (1, (0, 0), pb_J0_isLatin1_aae02),
  (2, (0, 0), pb_J0_charAt_5068e),
  (2, (0, 0), pb_J1_charAt_3b067),
  (2, (0, 0), pb_J0_checkIndex_df160),
  (3, (0, 0), pb_J3_checkIndex_8e157),
  (6, (1, 6), px_no),
  (6, (1, 6), px_no)]
def px_P (y : Nat) : mm_D := (px_pl0 ++ (px_pl1 ++ (px_pl2 ++ (px_pl3 ++ (px_pl4 ++ (px_pl5 ++ (px_pl6 ++ (px_pl7 ++ (px_pl8)))))))))[y]?.getD (0, (0, 0), px_no)
theorem pp_0 : px_P 0 = (1, (1, 750), pb_X0_init) := rfl
theorem pp_1 : px_P 1 = (1, (0, 0), pb_X0_isFull) := rfl
theorem pp_2 : px_P 2 = (7, (0, 0), pb_X0_enter) := rfl
theorem pp_3 : px_P 3 = (1, (4, 184), pb_X1_init) := rfl
theorem pp_4 : px_P 4 = (5, (0, 0), pb_X1_read) := rfl
theorem pp_5 : px_P 5 = (4, (0, 0), pb_X1_faultOfToken) := rfl
theorem pp_6 : px_P 6 = (3, (0, 0), pb_X1_scan) := rfl
theorem pp_7 : px_P 7 = (3, (0, 0), pb_X1_scanWord) := rfl
theorem pp_8 : px_P 8 = (4, (0, 0), pb_X1_isSpelled) := rfl
theorem pp_9 : px_P 9 = (3, (0, 0), pb_X1_scanNumber) := rfl
theorem pp_10 : px_P 10 = (1, (0, 0), pb_X1_isLetter) := rfl
theorem pp_11 : px_P 11 = (1, (0, 0), pb_X1_isFigure) := rfl
theorem pp_12 : px_P 12 = (1, (0, 0), pb_X1_kindOfSign) := rfl
theorem pp_13 : px_P 13 = (1, (0, 0), pb_X1_stateBehind) := rfl
theorem pp_14 : px_P 14 = (3, (0, 0), pb_X1_behindLeaf) := rfl
theorem pp_15 : px_P 15 = (1, (0, 0), pb_X1_goesOnSum) := rfl
theorem pp_16 : px_P 16 = (1, (0, 0), pb_X1_behindOne) := rfl
theorem pp_17 : px_P 17 = (1, (0, 0), pb_X1_take) := rfl
theorem pp_18 : px_P 18 = (1, (0, 0), pb_X1_takeOperator) := rfl
theorem pp_19 : px_P 19 = (2, (0, 0), pb_X1_hold) := rfl
theorem pp_20 : px_P 20 = (2, (0, 0), pb_X1_settle) := rfl
theorem pp_21 : px_P 21 = (1, (0, 0), pb_X1_dropBracket) := rfl
theorem pp_22 : px_P 22 = (1, (2, 120), pb_X2_init) := rfl
theorem pp_23 : px_P 23 = (5, (0, 0), pb_X2_truth) := rfl
theorem pp_24 : px_P 24 = (5, (0, 0), pb_X2_carryOut) := rfl
theorem pp_25 : px_P 25 = (3, (0, 0), pb_X2_push) := rfl
theorem pp_26 : px_P 26 = (4, (0, 0), pb_X2_turn) := rfl
theorem pp_27 : px_P 27 = (5, (0, 0), pb_X2_join) := rfl
theorem pp_28 : px_P 28 = (4, (0, 0), pb_X2_joinTruths) := rfl
theorem pp_29 : px_P 29 = (5, (0, 0), pb_X2_reckon) := rfl
theorem pp_30 : px_P 30 = (1, (1, 156), pb_X3_init) := rfl
theorem pp_31 : px_P 31 = (1, (0, 0), pb_X3_forget) := rfl
theorem pp_32 : px_P 32 = (2, (0, 0), pb_X3_copyFrom) := rfl
theorem pp_33 : px_P 33 = (3, (0, 0), pb_X3_countRows) := rfl
theorem pp_34 : px_P 34 = (2, (0, 0), pb_X3_isSolved) := rfl
theorem pp_35 : px_P 35 = (3, (0, 0), pb_X3_solvedSet) := rfl
theorem pp_36 : px_P 36 = (4, (0, 0), pb_X3_learn) := rfl
theorem pp_37 : px_P 37 = (8, (0, 0), pb_X3_otherWorld) := rfl
theorem pp_38 : px_P 38 = (13, (0, 0), pb_X3_leastThatMakesWhole) := rfl
theorem pp_39 : px_P 39 = (3, (0, 0), pb_X3_at) := rfl
theorem pp_40 : px_P 40 = (2, (0, 0), pb_X3_isPivot) := rfl
theorem pp_41 : px_P 41 = (2, (0, 0), pb_X3_firstBehind) := rfl
theorem pp_42 : px_P 42 = (4, (0, 0), pb_X3_firstOf) := rfl
theorem pp_43 : px_P 43 = (8, (0, 0), pb_X3_clearAt) := rfl
theorem pp_44 : px_P 44 = (4, (0, 0), pb_X3_settleNewRow) := rfl
theorem pp_45 : px_P 45 = (5, (0, 0), pb_X3_divide) := rfl
theorem pp_46 : px_P 46 = (5, (0, 0), pb_X3_commonDivisorOf) := rfl
theorem pp_47 : px_P 47 = (11, (0, 0), pb_X3_commonDivisor) := rfl
theorem pp_48 : px_P 48 = (1, (2, 120), pb_X4_init) := rfl
theorem pp_49 : px_P 49 = (1, (0, 0), pb_X4_empty) := rfl
theorem pp_50 : px_P 50 = (3, (0, 0), pb_X4_append) := rfl
theorem pp_51 : px_P 51 = (2, (0, 0), pb_X4_copyFrom) := rfl
theorem pp_52 : px_P 52 = (2, (15, 880), pb_X5_init) := rfl
theorem pp_53 : px_P 53 = (2, (0, 0), pb_X5_begin) := rfl
theorem pp_54 : px_P 54 = (2, (0, 0), pb_X5_hasClosed) := rfl
theorem pp_55 : px_P 55 = (2, (0, 0), pb_X5_startCursor) := rfl
theorem pp_56 : px_P 56 = (2, (80, 5135), pb_X6_init) := rfl
theorem pp_57 : px_P 57 = (2, (0, 0), pb_X6_object) := rfl
theorem pp_58 : px_P 58 = (4, (0, 0), pb_X6_set) := rfl
theorem pp_59 : px_P 59 = (1, (0, 0), pb_X6_user) := rfl
theorem pp_60 : px_P 60 = (5, (0, 0), pb_X6_type) := rfl
theorem pp_61 : px_P 61 = (3, (0, 0), pb_X6_rule) := rfl
theorem pp_62 : px_P 62 = (1, (0, 0), pb_X6_place) := rfl
theorem pp_63 : px_P 63 = (4, (0, 0), pb_X6_close) := rfl
theorem pp_64 : px_P 64 = (3, (0, 0), pb_X6_seen) := rfl
theorem pp_65 : px_P 65 = (4, (0, 0), pb_X6_ask) := rfl
theorem pp_66 : px_P 66 = (2, (0, 0), pb_X6_found) := rfl
theorem pp_67 : px_P 67 = (5, (0, 0), px_no) := rfl
theorem pp_68 : px_P 68 = (4, (0, 0), px_no) := rfl
theorem pp_69 : px_P 69 = (5, (0, 0), pb_X6_cell) := rfl
theorem pp_70 : px_P 70 = (3, (0, 0), pb_X6_cursor) := rfl
theorem pp_71 : px_P 71 = (3, (0, 0), pb_X6_step) := rfl
theorem pp_72 : px_P 72 = (4, (0, 0), pb_X6_solved) := rfl
theorem pp_73 : px_P 73 = (5, (0, 0), pb_X6_would) := rfl
theorem pp_74 : px_P 74 = (6, (0, 0), pb_X6_world) := rfl
theorem pp_75 : px_P 75 = (3, (0, 0), pb_X6_rows) := rfl
theorem pp_76 : px_P 76 = (3, (0, 0), pb_X6_audit) := rfl
theorem pp_77 : px_P 77 = (2, (0, 0), pb_X6_told) := rfl
theorem pp_78 : px_P 78 = (1, (0, 0), pb_X6_clear) := rfl
theorem pp_79 : px_P 79 = (2, (0, 0), pb_X6_isObject) := rfl
theorem pp_80 : px_P 80 = (2, (0, 0), pb_X6_isUser) := rfl
theorem pp_81 : px_P 81 = (1, (0, 0), pb_X6_isField) := rfl
theorem pp_82 : px_P 82 = (2, (0, 0), pb_X6_isSet) := rfl
theorem pp_83 : px_P 83 = (1, (0, 0), pb_X6_takeTape) := rfl
theorem pp_84 : px_P 84 = (4, (0, 0), pb_X6_takeQuery) := rfl
theorem pp_85 : px_P 85 = (3, (0, 0), pb_X6_isSeen) := rfl
theorem pp_86 : px_P 86 = (4, (0, 0), pb_X6_isMatch) := rfl
theorem pp_87 : px_P 87 = (5, (0, 0), pb_X6_countByRule) := rfl
theorem pp_88 : px_P 88 = (8, (0, 0), pb_X6_countBetween) := rfl
theorem pp_89 : px_P 89 = (3, (0, 0), pb_X6_moveCursor) := rfl
theorem pp_90 : px_P 90 = (6, (0, 0), pb_X6_hiddenFrom) := rfl
theorem pp_91 : px_P 91 = (5, (0, 0), pb_X6_total) := rfl
theorem pp_92 : px_P 92 = (4, (0, 0), pb_X6_tryOut) := rfl
theorem pp_93 : px_P 93 = (6, (0, 0), pb_X6_tell) := rfl
theorem pp_94 : px_P 94 = (1, (15, 4036), pb_X7_init) := rfl
theorem pp_95 : px_P 95 = (1, (0, 0), pb_X7_thrown) := rfl
theorem pp_96 : px_P 96 = (2, (0, 0), pb_X7_isObject) := rfl
theorem pp_97 : px_P 97 = (2, (0, 0), pb_X7_isUser) := rfl
theorem pp_98 : px_P 98 = (1, (0, 0), pb_X7_isField) := rfl
theorem pp_99 : px_P 99 = (2, (0, 0), pb_X7_isSet) := rfl
theorem pp_100 : px_P 100 = (2, (0, 0), pb_X7_object) := rfl
theorem pp_101 : px_P 101 = (4, (0, 0), pb_X7_set) := rfl
theorem pp_102 : px_P 102 = (1, (0, 0), pb_X7_user) := rfl
theorem pp_103 : px_P 103 = (5, (0, 0), pb_X7_type) := rfl
theorem pp_104 : px_P 104 = (1, (0, 0), pb_X7_isLetter) := rfl
theorem pp_105 : px_P 105 = (1, (0, 0), pb_X7_isFigure) := rfl
theorem pp_106 : px_P 106 = (6, (0, 0), pb_X7_wordFrom) := rfl
theorem pp_107 : px_P 107 = (4, (0, 0), pb_X7_next) := rfl
theorem pp_108 : px_P 108 = (2, (0, 0), pb_X7_fail) := rfl
theorem pp_109 : px_P 109 = (1, (0, 0), pb_X7_odd) := rfl
theorem pp_110 : px_P 110 = (1, (0, 0), pb_X7_take) := rfl
theorem pp_111 : px_P 111 = (2, (0, 0), pb_X7_isSign) := rfl
theorem pp_112 : px_P 112 = (2, (0, 0), pb_X7_put) := rfl
theorem pp_113 : px_P 113 = (1, (0, 0), pb_X7_opens) := rfl
theorem pp_114 : px_P 114 = (1, (0, 0), pb_X7_any) := rfl
theorem pp_115 : px_P 115 = (1, (0, 0), pb_X7_all) := rfl
theorem pp_116 : px_P 116 = (2, (0, 0), pb_X7_one) := rfl
theorem pp_117 : px_P 117 = (2, (0, 0), pb_X7_sum) := rfl
theorem pp_118 : px_P 118 = (2, (0, 0), pb_X7_times) := rfl
theorem pp_119 : px_P 119 = (4, (0, 0), pb_X7_leaf) := rfl
theorem pp_120 : px_P 120 = (1, (0, 0), pb_X7_reads) := rfl
theorem pp_121 : px_P 121 = (3, (0, 0), pb_X7_keep) := rfl
theorem pp_122 : px_P 122 = (1, (0, 0), pb_X7_place) := rfl
theorem pp_123 : px_P 123 = (6, (0, 0), pb_X7_what) := rfl
theorem pp_124 : px_P 124 = (11, (0, 0), pb_X7_join) := rfl
theorem pp_125 : px_P 125 = (3, (0, 0), pb_X7_isSeen) := rfl
theorem pp_126 : px_P 126 = (3, (0, 0), pb_X7_isClosed) := rfl
theorem pp_127 : px_P 127 = (4, (0, 0), pb_X7_isHidden) := rfl
theorem pp_128 : px_P 128 = (5, (0, 0), pb_X7_isBarred) := rfl
theorem pp_129 : px_P 129 = (4, (0, 0), pb_X7_matches) := rfl
theorem pp_130 : px_P 130 = (6, (0, 0), pb_X7_count) := rfl
theorem pp_131 : px_P 131 = (2, (0, 0), pb_X7_rule) := rfl
theorem pp_132 : px_P 132 = (4, (0, 0), pb_X7_close) := rfl
theorem pp_133 : px_P 133 = (3, (0, 0), pb_X7_seen) := rfl
theorem pp_134 : px_P 134 = (6, (0, 0), pb_X7_note) := rfl
theorem pp_135 : px_P 135 = (3, (0, 0), pb_X7_query) := rfl
theorem pp_136 : px_P 136 = (4, (0, 0), pb_X7_ask) := rfl
theorem pp_137 : px_P 137 = (2, (0, 0), pb_X7_found) := rfl
theorem pp_138 : px_P 138 = (8, (0, 0), pb_X7_cell) := rfl
theorem pp_139 : px_P 139 = (3, (0, 0), pb_X7_cursor) := rfl
theorem pp_140 : px_P 140 = (3, (0, 0), pb_X7_step) := rfl
theorem pp_141 : px_P 141 = (10, (0, 0), pb_X7_divisor) := rfl
theorem pp_142 : px_P 142 = (10, (0, 0), pb_X7_mix) := rfl
theorem pp_143 : px_P 143 = (6, (0, 0), pb_X7_swap) := rfl
theorem pp_144 : px_P 144 = (8, (0, 0), pb_X7_reduce) := rfl
theorem pp_145 : px_P 145 = (3, (0, 0), pb_X7_rowOf) := rfl
theorem pp_146 : px_P 146 = (4, (0, 0), pb_X7_isSolved) := rfl
theorem pp_147 : px_P 147 = (6, (0, 0), pb_X7_isKeptBack) := rfl
theorem pp_148 : px_P 148 = (4, (0, 0), pb_X7_tell) := rfl
theorem pp_149 : px_P 149 = (4, (0, 0), pb_X7_value) := rfl
theorem pp_150 : px_P 150 = (6, (0, 0), pb_X7_sum_) := rfl
theorem pp_151 : px_P 151 = (4, (0, 0), pb_X7_solved) := rfl
theorem pp_152 : px_P 152 = (5, (0, 0), pb_X7_would) := rfl
theorem pp_153 : px_P 153 = (16, (0, 0), pb_X7_world) := rfl
theorem pp_154 : px_P 154 = (3, (0, 0), pb_X7_rows) := rfl
theorem pp_155 : px_P 155 = (3, (0, 0), pb_X7_audit) := rfl
theorem pp_156 : px_P 156 = (2, (0, 0), pb_X7_told) := rfl
theorem pp_157 : px_P 157 = (1, (0, 0), pb_X7_clear) := rfl
theorem pp_158 : px_P 158 = (5, (0, 0), pb_J7_fill_d0a16) := rfl
theorem pp_159 : px_P 159 = (1, (0, 0), pb_J0_length_8abf5) := rfl
theorem pp_160 : px_P 160 = (1, (0, 0), pb_J0_coder_7d493) := rfl
theorem pp_161 : px_P 161 = (1, (0, 0), pb_J0_isLatin1_aae02) := rfl
theorem pp_162 : px_P 162 = (2, (0, 0), pb_J0_charAt_5068e) := rfl
theorem pp_163 : px_P 163 = (2, (0, 0), pb_J1_charAt_3b067) := rfl
theorem pp_164 : px_P 164 = (2, (0, 0), pb_J0_checkIndex_df160) := rfl
theorem pp_165 : px_P 165 = (3, (0, 0), pb_J3_checkIndex_8e157) := rfl
theorem pp_166 : px_P 166 = (6, (1, 6), px_no) := rfl
theorem pp_167 : px_P 167 = (6, (1, 6), px_no) := rfl
