theorem ok_X0_init : rmetB (yX0_init, cX0_init, 1, none, tb_X0_init) = true := by decide +kernel
theorem ok_X0_play : rmetB (yX0_play, cX0_play, 5, (some .int), tb_X0_play) = true := by decide +kernel
theorem ok_X0_rank : rmetB (yX0_rank, cX0_rank, 5, (some .int), tb_X0_rank) = true := by decide +kernel
theorem ok_X1_init : rmetB (yX1_init, cX1_init, 1, none, tb_X1_init) = true := by decide +kernel
theorem ok_X1_find : rmetB (yX1_find, cX1_find, 5, none, tb_X1_find) = true := by decide +kernel
theorem ok_X1_weightOf : rmetB (yX1_weightOf, cX1_weightOf, 3, (some .int), tb_X1_weightOf) = true := by decide +kernel
theorem ok_X1_judge : rmetB (yX1_judge, cX1_judge, 3, none, tb_X1_judge) = true := by decide +kernel
theorem ok_X2_init : rmetB (yX2_init, cX2_init, 1, none, tb_X2_init) = true := by decide +kernel
theorem ok_X2_clear : rmetB (yX2_clear, cX2_clear, 2, none, tb_X2_clear) = true := by decide +kernel
theorem ok_X2_write : rmetB (yX2_write, cX2_write, 3, none, tb_X2_write) = true := by decide +kernel
theorem ok_X2_draw : rmetB (yX2_draw, cX2_draw, 7, (some .int), tb_X2_draw) = true := by decide +kernel
theorem ok_X2_numberOfLot : rmetB (yX2_numberOfLot, cX2_numberOfLot, 4, (some .int), tb_X2_numberOfLot) = true := by decide +kernel
theorem ok_X2_writers : rmetB (yX2_writers, cX2_writers, 4, (some .int), tb_X2_writers) = true := by decide +kernel
theorem ok_X3_init : rmetB (yX3_init, cX3_init, 1, none, tb_X3_init) = true := by decide +kernel
theorem ok_X3_read : rmetB (yX3_read, cX3_read, 4, none, tb_X3_read) = true := by decide +kernel
theorem ok_X3_bind : rmetB (yX3_bind, cX3_bind, 3, none, tb_X3_bind) = true := by decide +kernel
theorem ok_X3_demand : rmetB (yX3_demand, cX3_demand, 2, none, tb_X3_demand) = true := by decide +kernel
theorem ok_X3_rows : rmetB (yX3_rows, cX3_rows, 2, (some .int), tb_X3_rows) = true := by decide +kernel
theorem ok_X3_bindFirst : rmetB (yX3_bindFirst, cX3_bindFirst, 4, none, tb_X3_bindFirst) = true := by decide +kernel
theorem ok_X3_numbersOf : rmetB (yX3_numbersOf, cX3_numbersOf, 5, (some .int), tb_X3_numbersOf) = true := by decide +kernel
theorem ok_X4_init : rmetB (yX4_init, cX4_init, 1, none, tb_X4_init) = true := by decide +kernel
theorem ok_X4_meet : rmetB (yX4_meet, cX4_meet, 7, none, tb_X4_meet) = true := by decide +kernel
theorem ok_X4_top : rmetB (yX4_top, cX4_top, 3, (some .int), tb_X4_top) = true := by decide +kernel
theorem ok_X4_average : rmetB (yX4_average, cX4_average, 5, (some .long), tb_X4_average) = true := by decide +kernel
theorem ok_X4_surplus : rmetB (yX4_surplus, cX4_surplus, 3, (some .long), tb_X4_surplus) = true := by decide +kernel
theorem ok_X5_init : rmetB (yX5_init, cX5_init, 1, none, tb_X5_init) = true := by decide +kernel
theorem ok_X5_find : rmetB (yX5_find, cX5_find, 3, none, tb_X5_find) = true := by decide +kernel
theorem ok_X5_numberOf : rmetB (yX5_numberOf, cX5_numberOf, 3, (some .int), tb_X5_numberOf) = true := by decide +kernel
theorem ok_X5_gather : rmetB (yX5_gather, cX5_gather, 4, none, tb_X5_gather) = true := by decide +kernel
theorem ok_X5_judge : rmetB (yX5_judge, cX5_judge, 5, none, tb_X5_judge) = true := by decide +kernel
theorem ok_X6_init : rmetB (yX6_init, cX6_init, 1, none, tb_X6_init) = true := by decide +kernel
theorem ok_X6_open : rmetB (yX6_open, cX6_open, 4, none, tb_X6_open) = true := by decide +kernel
theorem ok_X6_copy : rmetB (yX6_copy, cX6_copy, 2, none, tb_X6_copy) = true := by decide +kernel
theorem ok_X6_addSight : rmetB (yX6_addSight, cX6_addSight, 4, none, tb_X6_addSight) = true := by decide +kernel
theorem ok_X6_hasMan : rmetB (yX6_hasMan, cX6_hasMan, 2, (some .boolean), tb_X6_hasMan) = true := by decide +kernel
theorem ok_X6_hasNumber : rmetB (yX6_hasNumber, cX6_hasNumber, 2, (some .boolean), tb_X6_hasNumber) = true := by decide +kernel
theorem ok_X6_allWeights : rmetB (yX6_allWeights, cX6_allWeights, 3, (some .int), tb_X6_allWeights) = true := by decide +kernel
theorem ok_X6_shares : rmetB (yX6_shares, cX6_shares, 1, (some .int), tb_X6_shares) = true := by decide +kernel
theorem ok_X7_init : rmetB (yX7_init, cX7_init, 1, none, tb_X7_init) = true := by decide +kernel
theorem ok_X7_clear : rmetB (yX7_clear, cX7_clear, 4, none, tb_X7_clear) = true := by decide +kernel
theorem ok_X7_join : rmetB (yX7_join, cX7_join, 2, none, tb_X7_join) = true := by decide +kernel
theorem ok_X7_run : rmetB (yX7_run, cX7_run, 3, none, tb_X7_run) = true := by decide +kernel
theorem ok_X8_init : rmetB (yX8_init, cX8_init, 1, none, tb_X8_init) = true := by decide +kernel
theorem ok_X8_meet : rmetB (yX8_meet, cX8_meet, 4, none, tb_X8_meet) = true := by decide +kernel
theorem ok_J6_bitCount_0f7a4 : rmetB (yJ6_bitCount_0f7a4, cJ6_bitCount_0f7a4, 1, (some .int), tb_J6_bitCount_0f7a4) = true := by decide +kernel
