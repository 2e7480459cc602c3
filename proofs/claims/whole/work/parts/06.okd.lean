theorem ok_X10_layLeague : rmetB (yX10_layLeague, cX10_layLeague, 7, none, tb_X10_layLeague) = true := by decide +kernel
theorem ok_X10_isSet : rmetB (yX10_isSet, cX10_isSet, 2, (some .boolean), tb_X10_isSet) = true := by decide +kernel
theorem ok_X10_friends : rmetB (yX10_friends, cX10_friends, 3, (some .int), tb_X10_friends) = true := by decide +kernel
theorem ok_X10_league : rmetB (yX10_league, cX10_league, 3, (some .long), tb_X10_league) = true := by decide +kernel
theorem ok_X10_layTold : rmetB (yX10_layTold, cX10_layTold, 4, none, tb_X10_layTold) = true := by decide +kernel
theorem ok_X10_spy : rmetB (yX10_spy, cX10_spy, 2, (some .int), tb_X10_spy) = true := by decide +kernel
theorem ok_X10_spied : rmetB (yX10_spied, cX10_spied, 3, (some .long), tb_X10_spied) = true := by decide +kernel
theorem ok_X10_steps : rmetB (yX10_steps, cX10_steps, 5, (some .int), tb_X10_steps) = true := by decide +kernel
theorem ok_X10_hasOf : rmetB (yX10_hasOf, cX10_hasOf, 3, (some .int), tb_X10_hasOf) = true := by decide +kernel
theorem ok_X10_lateEvening : rmetB (yX10_lateEvening, cX10_lateEvening, 9, (some .int), tb_X10_lateEvening) = true := by decide +kernel
theorem ok_X10_layWrote : rmetB (yX10_layWrote, cX10_layWrote, 4, none, tb_X10_layWrote) = true := by decide +kernel
theorem ok_X10_late : rmetB (yX10_late, cX10_late, 5, (some .int), tb_X10_late) = true := by decide +kernel
theorem ok_X10_prize : rmetB (yX10_prize, cX10_prize, 8, (some .long), tb_X10_prize) = true := by decide +kernel
theorem ok_X10_seen : rmetB (yX10_seen, cX10_seen, 5, (some .int), tb_X10_seen) = true := by decide +kernel
theorem ok_X10_forget : rmetB (yX10_forget, cX10_forget, 2, (some .int), tb_X10_forget) = true := by decide +kernel
theorem ok_X10_isSeen : rmetB (yX10_isSeen, cX10_isSeen, 7, (some .boolean), tb_X10_isSeen) = true := by decide +kernel
theorem ok_X10_codes : rmetB (yX10_codes, cX10_codes, 3, (some .int), tb_X10_codes) = true := by decide +kernel
theorem ok_X10_fits : rmetB (yX10_fits, cX10_fits, 5, (some .int), tb_X10_fits) = true := by decide +kernel
theorem ok_X10_could : rmetB (yX10_could, cX10_could, 4, (some .int), tb_X10_could) = true := by decide +kernel
theorem ok_X10_year : rmetB (yX10_year, cX10_year, 10, (some .int), tb_X10_year) = true := by decide +kernel
theorem ok_X10_image : rmetB (yX10_image, cX10_image, 4, (some .int), tb_X10_image) = true := by decide +kernel
theorem ok_X10_restore : rmetB (yX10_restore, cX10_restore, 4, (some .int), tb_X10_restore) = true := by decide +kernel
theorem ok_X10_told : rmetB (yX10_told, cX10_told, 2, (some .int), tb_X10_told) = true := by decide +kernel
