theorem ok_X9_init : rmetB (yX9_init, cX9_init, 1, none, tb_X9_init) = true := by decide +kernel
theorem ok_X9_inn : rmetB (yX9_inn, cX9_inn, 4, (some .int), tb_X9_inn) = true := by decide +kernel
theorem ok_X9_rule : rmetB (yX9_rule, cX9_rule, 3, (some .int), tb_X9_rule) = true := by decide +kernel
theorem ok_X9_say : rmetB (yX9_say, cX9_say, 2, (some .int), tb_X9_say) = true := by decide +kernel
theorem ok_X9_wipe : rmetB (yX9_wipe, cX9_wipe, 2, (some .int), tb_X9_wipe) = true := by decide +kernel
theorem ok_X9_fault : rmetB (yX9_fault, cX9_fault, 2, (some .int), tb_X9_fault) = true := by decide +kernel
theorem ok_X9_wins : rmetB (yX9_wins, cX9_wins, 3, (some .int), tb_X9_wins) = true := by decide +kernel
theorem ok_X9_weight : rmetB (yX9_weight, cX9_weight, 5, (some .int), tb_X9_weight) = true := by decide +kernel
theorem ok_X9_fool : rmetB (yX9_fool, cX9_fool, 4, (some .int), tb_X9_fool) = true := by decide +kernel
theorem ok_X9_worth : rmetB (yX9_worth, cX9_worth, 4, (some .long), tb_X9_worth) = true := by decide +kernel
theorem ok_X9_best : rmetB (yX9_best, cX9_best, 2, (some .int), tb_X9_best) = true := by decide +kernel
theorem ok_X9_mean : rmetB (yX9_mean, cX9_mean, 6, (some .long), tb_X9_mean) = true := by decide +kernel
theorem ok_X9_nobody : rmetB (yX9_nobody, cX9_nobody, 2, (some .long), tb_X9_nobody) = true := by decide +kernel
theorem ok_X9_rest : rmetB (yX9_rest, cX9_rest, 3, (some .int), tb_X9_rest) = true := by decide +kernel
theorem ok_X9_gap : rmetB (yX9_gap, cX9_gap, 3, (some .long), tb_X9_gap) = true := by decide +kernel
theorem ok_X9_friends : rmetB (yX9_friends, cX9_friends, 3, (some .int), tb_X9_friends) = true := by decide +kernel
theorem ok_X9_league : rmetB (yX9_league, cX9_league, 3, (some .long), tb_X9_league) = true := by decide +kernel
theorem ok_X9_spy : rmetB (yX9_spy, cX9_spy, 2, (some .int), tb_X9_spy) = true := by decide +kernel
theorem ok_X9_spied : rmetB (yX9_spied, cX9_spied, 3, (some .long), tb_X9_spied) = true := by decide +kernel
theorem ok_X9_steps : rmetB (yX9_steps, cX9_steps, 5, (some .int), tb_X9_steps) = true := by decide +kernel
theorem ok_X9_late : rmetB (yX9_late, cX9_late, 4, (some .int), tb_X9_late) = true := by decide +kernel
theorem ok_X9_prize : rmetB (yX9_prize, cX9_prize, 8, (some .long), tb_X9_prize) = true := by decide +kernel
theorem ok_X9_seen : rmetB (yX9_seen, cX9_seen, 4, (some .int), tb_X9_seen) = true := by decide +kernel
theorem ok_X9_forget : rmetB (yX9_forget, cX9_forget, 2, (some .int), tb_X9_forget) = true := by decide +kernel
theorem ok_X9_fits : rmetB (yX9_fits, cX9_fits, 2, (some .int), tb_X9_fits) = true := by decide +kernel
theorem ok_X9_could : rmetB (yX9_could, cX9_could, 2, (some .int), tb_X9_could) = true := by decide +kernel
theorem ok_X9_year : rmetB (yX9_year, cX9_year, 8, (some .int), tb_X9_year) = true := by decide +kernel
theorem ok_X9_image : rmetB (yX9_image, cX9_image, 2, (some .int), tb_X9_image) = true := by decide +kernel
theorem ok_X9_restore : rmetB (yX9_restore, cX9_restore, 2, (some .int), tb_X9_restore) = true := by decide +kernel
theorem ok_X9_told : rmetB (yX9_told, cX9_told, 2, (some .int), tb_X9_told) = true := by decide +kernel
theorem ok_X9_toldOfOne : rmetB (yX9_toldOfOne, cX9_toldOfOne, 2, (some .int), tb_X9_toldOfOne) = true := by decide +kernel
theorem ok_X9_isSize : rmetB (yX9_isSize, cX9_isSize, 1, (some .boolean), tb_X9_isSize) = true := by decide +kernel
theorem ok_X9_isBit : rmetB (yX9_isBit, cX9_isBit, 1, (some .boolean), tb_X9_isBit) = true := by decide +kernel
theorem ok_X9_isSum : rmetB (yX9_isSum, cX9_isSum, 1, (some .boolean), tb_X9_isSum) = true := by decide +kernel
theorem ok_X9_isSet : rmetB (yX9_isSet, cX9_isSet, 2, (some .boolean), tb_X9_isSet) = true := by decide +kernel
theorem ok_X9_isSlip : rmetB (yX9_isSlip, cX9_isSlip, 2, (some .boolean), tb_X9_isSlip) = true := by decide +kernel
theorem ok_X9_isUntold : rmetB (yX9_isUntold, cX9_isUntold, 2, (some .boolean), tb_X9_isUntold) = true := by decide +kernel
theorem ok_X9_lower : rmetB (yX9_lower, cX9_lower, 2, (some .long), tb_X9_lower) = true := by decide +kernel
theorem ok_X9_weighOthers : rmetB (yX9_weighOthers, cX9_weighOthers, 3, none, tb_X9_weighOthers) = true := by decide +kernel
theorem ok_X9_weighPad : rmetB (yX9_weighPad, cX9_weighPad, 3, none, tb_X9_weighPad) = true := by decide +kernel
theorem ok_X9_weighAll : rmetB (yX9_weighAll, cX9_weighAll, 2, none, tb_X9_weighAll) = true := by decide +kernel
theorem ok_X9_power : rmetB (yX9_power, cX9_power, 6, (some .long), tb_X9_power) = true := by decide +kernel
theorem ok_X9_lowest : rmetB (yX9_lowest, cX9_lowest, 7, (some .long), tb_X9_lowest) = true := by decide +kernel
theorem ok_X9_commonDivisor : rmetB (yX9_commonDivisor, cX9_commonDivisor, 11, (some .long), tb_X9_commonDivisor) = true := by decide +kernel
theorem ok_X9_writersToWin : rmetB (yX9_writersToWin, cX9_writersToWin, 1, (some .int), tb_X9_writersToWin) = true := by decide +kernel
theorem ok_X9_numbersWritten : rmetB (yX9_numbersWritten, cX9_numbersWritten, 5, (some .int), tb_X9_numbersWritten) = true := by decide +kernel
theorem ok_X9_winner : rmetB (yX9_winner, cX9_winner, 6, (some .int), tb_X9_winner) = true := by decide +kernel
theorem ok_X9_winning : rmetB (yX9_winning, cX9_winning, 2, (some .int), tb_X9_winning) = true := by decide +kernel
theorem ok_X9_place : rmetB (yX9_place, cX9_place, 10, none, tb_X9_place) = true := by decide +kernel
theorem ok_X9_spread : rmetB (yX9_spread, cX9_spread, 4, none, tb_X9_spread) = true := by decide +kernel
theorem ok_X9_agree : rmetB (yX9_agree, cX9_agree, 5, none, tb_X9_agree) = true := by decide +kernel
theorem ok_X9_choice : rmetB (yX9_choice, cX9_choice, 4, (some .int), tb_X9_choice) = true := by decide +kernel
theorem ok_X9_endWith : rmetB (yX9_endWith, cX9_endWith, 5, (some .int), tb_X9_endWith) = true := by decide +kernel
theorem ok_X9_end : rmetB (yX9_end, cX9_end, 5, (some .int), tb_X9_end) = true := by decide +kernel
