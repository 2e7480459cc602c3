theorem ok_L_all : tb_L_law.all (rchk yL_law.cls (decide (yL_law.name = "<init>")) cL_law) = true := by
  simp only [tb_L_law, List.all_append, Bool.and_eq_true]
  exact ⟨okL_0, ⟨okL_1, ⟨okL_2, ⟨okL_3, ⟨okL_4, ⟨okL_5, ⟨okL_6, ⟨okL_7, ⟨okL_8, ⟨okL_9, ⟨okL_10, ⟨okL_11, ⟨okL_12, ⟨okL_13, ⟨okL_14, ⟨okL_15, ⟨okL_16, okL_17⟩⟩⟩⟩⟩⟩⟩⟩⟩⟩⟩⟩⟩⟩⟩⟩⟩
theorem ok_L_law : rmetB (yL_law, cL_law, 4, (some .boolean), tb_L_law) = true := by
  simp only [rmetB, Bool.and_eq_true]
  exact ⟨⟨⟨ok_L_all, by decide +kernel⟩, by decide +kernel⟩, by decide +kernel⟩
set_option maxRecDepth 20000 in
/-- every method of the program is as its table says -/
theorem ok_pgm : ∀ q ∈ pgm, rmetB q = true :=
  List.forall_mem_cons.mpr ⟨ok_X0_init, List.forall_mem_cons.mpr ⟨ok_X0_play, List.forall_mem_cons.mpr ⟨ok_X0_rank, List.forall_mem_cons.mpr ⟨ok_X1_init, List.forall_mem_cons.mpr ⟨ok_X1_find, List.forall_mem_cons.mpr ⟨ok_X1_weightOf, List.forall_mem_cons.mpr ⟨ok_X1_judge, List.forall_mem_cons.mpr ⟨ok_X2_init, List.forall_mem_cons.mpr ⟨ok_X2_clear, List.forall_mem_cons.mpr ⟨ok_X2_write, List.forall_mem_cons.mpr ⟨ok_X2_draw, List.forall_mem_cons.mpr ⟨ok_X2_numberOfLot, List.forall_mem_cons.mpr ⟨ok_X2_writers, List.forall_mem_cons.mpr ⟨ok_X3_init, List.forall_mem_cons.mpr ⟨ok_X3_read, List.forall_mem_cons.mpr ⟨ok_X3_bind, List.forall_mem_cons.mpr ⟨ok_X3_demand, List.forall_mem_cons.mpr ⟨ok_X3_rows, List.forall_mem_cons.mpr ⟨ok_X3_bindFirst, List.forall_mem_cons.mpr ⟨ok_X3_numbersOf, List.forall_mem_cons.mpr ⟨ok_X4_init, List.forall_mem_cons.mpr ⟨ok_X4_meet, List.forall_mem_cons.mpr ⟨ok_X4_top, List.forall_mem_cons.mpr ⟨ok_X4_average, List.forall_mem_cons.mpr ⟨ok_X4_surplus, List.forall_mem_cons.mpr ⟨ok_X5_init, List.forall_mem_cons.mpr ⟨ok_X5_find, List.forall_mem_cons.mpr ⟨ok_X5_numberOf, List.forall_mem_cons.mpr ⟨ok_X5_gather, List.forall_mem_cons.mpr ⟨ok_X5_judge, List.forall_mem_cons.mpr ⟨ok_X6_init, List.forall_mem_cons.mpr ⟨ok_X6_open, List.forall_mem_cons.mpr ⟨ok_X6_copy, List.forall_mem_cons.mpr ⟨ok_X6_addSight, List.forall_mem_cons.mpr ⟨ok_X6_hasMan, List.forall_mem_cons.mpr ⟨ok_X6_hasNumber, List.forall_mem_cons.mpr ⟨ok_X6_allWeights, List.forall_mem_cons.mpr ⟨ok_X6_shares, List.forall_mem_cons.mpr ⟨ok_X7_init, List.forall_mem_cons.mpr ⟨ok_X7_clear, List.forall_mem_cons.mpr ⟨ok_X7_join, List.forall_mem_cons.mpr ⟨ok_X7_run, List.forall_mem_cons.mpr ⟨ok_X8_init, List.forall_mem_cons.mpr ⟨ok_X8_meet, List.forall_mem_cons.mpr ⟨ok_X9_init, List.forall_mem_cons.mpr ⟨ok_X9_inn, List.forall_mem_cons.mpr ⟨ok_X9_rule, List.forall_mem_cons.mpr ⟨ok_X9_say, List.forall_mem_cons.mpr ⟨ok_X9_wipe, List.forall_mem_cons.mpr ⟨ok_X9_fault, List.forall_mem_cons.mpr ⟨ok_X9_wins, List.forall_mem_cons.mpr ⟨ok_X9_weight, List.forall_mem_cons.mpr ⟨ok_X9_fool, List.forall_mem_cons.mpr ⟨ok_X9_worth, List.forall_mem_cons.mpr ⟨ok_X9_best, List.forall_mem_cons.mpr ⟨ok_X9_mean, List.forall_mem_cons.mpr ⟨ok_X9_nobody, List.forall_mem_cons.mpr ⟨ok_X9_rest, List.forall_mem_cons.mpr ⟨ok_X9_gap, List.forall_mem_cons.mpr ⟨ok_X9_friends, List.forall_mem_cons.mpr ⟨ok_X9_league, List.forall_mem_cons.mpr ⟨ok_X9_spy, List.forall_mem_cons.mpr ⟨ok_X9_spied, List.forall_mem_cons.mpr ⟨ok_X9_steps, List.forall_mem_cons.mpr ⟨ok_X9_late, List.forall_mem_cons.mpr ⟨ok_X9_prize, List.forall_mem_cons.mpr ⟨ok_X9_seen, List.forall_mem_cons.mpr ⟨ok_X9_forget, List.forall_mem_cons.mpr ⟨ok_X9_fits, List.forall_mem_cons.mpr ⟨ok_X9_could, List.forall_mem_cons.mpr ⟨ok_X9_year, List.forall_mem_cons.mpr ⟨ok_X9_image, List.forall_mem_cons.mpr ⟨ok_X9_restore, List.forall_mem_cons.mpr ⟨ok_X9_told, List.forall_mem_cons.mpr ⟨ok_X9_toldOfOne, List.forall_mem_cons.mpr ⟨ok_X9_isSize, List.forall_mem_cons.mpr ⟨ok_X9_isBit, List.forall_mem_cons.mpr ⟨ok_X9_isSum, List.forall_mem_cons.mpr ⟨ok_X9_isSet, List.forall_mem_cons.mpr ⟨ok_X9_isSlip, List.forall_mem_cons.mpr ⟨ok_X9_isUntold, List.forall_mem_cons.mpr ⟨ok_X9_lower, List.forall_mem_cons.mpr ⟨ok_X9_weighOthers, List.forall_mem_cons.mpr ⟨ok_X9_weighPad, List.forall_mem_cons.mpr ⟨ok_X9_weighAll, List.forall_mem_cons.mpr ⟨ok_X9_power, List.forall_mem_cons.mpr ⟨ok_X9_lowest, List.forall_mem_cons.mpr ⟨ok_X9_commonDivisor, List.forall_mem_cons.mpr ⟨ok_X9_writersToWin, List.forall_mem_cons.mpr ⟨ok_X9_numbersWritten, List.forall_mem_cons.mpr ⟨ok_X9_winner, List.forall_mem_cons.mpr ⟨ok_X9_winning, List.forall_mem_cons.mpr ⟨ok_X9_place, List.forall_mem_cons.mpr ⟨ok_X9_spread, List.forall_mem_cons.mpr ⟨ok_X9_agree, List.forall_mem_cons.mpr ⟨ok_X9_choice, List.forall_mem_cons.mpr ⟨ok_X9_endWith, List.forall_mem_cons.mpr ⟨ok_X9_end, List.forall_mem_cons.mpr ⟨ok_X10_init, List.forall_mem_cons.mpr ⟨ok_X10_plain, List.forall_mem_cons.mpr ⟨ok_X10_in, List.forall_mem_cons.mpr ⟨ok_X10_has, List.forall_mem_cons.mpr ⟨ok_X10_isMan, List.forall_mem_cons.mpr ⟨ok_X10_isNumber, List.forall_mem_cons.mpr ⟨ok_X10_inn, List.forall_mem_cons.mpr ⟨ok_X10_rule, List.forall_mem_cons.mpr ⟨ok_X10_say, List.forall_mem_cons.mpr ⟨ok_X10_wipe, List.forall_mem_cons.mpr ⟨ok_X10_faultOf, List.forall_mem_cons.mpr ⟨ok_X10_fault, List.forall_mem_cons.mpr ⟨ok_X10_winner, List.forall_mem_cons.mpr ⟨ok_X10_nobodyWrote, List.forall_mem_cons.mpr ⟨ok_X10_wins, List.forall_mem_cons.mpr ⟨ok_X10_weight, List.forall_mem_cons.mpr ⟨ok_X10_allWeights, List.forall_mem_cons.mpr ⟨ok_X10_fool, List.forall_mem_cons.mpr ⟨ok_X10_asWeights, List.forall_mem_cons.mpr ⟨ok_X10_power, List.forall_mem_cons.mpr ⟨ok_X10_choose, List.forall_mem_cons.mpr ⟨ok_X10_beginFill, List.forall_mem_cons.mpr ⟨ok_X10_nextFill, List.forall_mem_cons.mpr ⟨ok_X10_waysOfFill, List.forall_mem_cons.mpr ⟨ok_X10_both, List.forall_mem_cons.mpr ⟨ok_X10_waysToWin, List.forall_mem_cons.mpr ⟨ok_X10_sumOfWeights, List.forall_mem_cons.mpr ⟨ok_X10_lowOf, List.forall_mem_cons.mpr ⟨ok_X10_layOthers, List.forall_mem_cons.mpr ⟨ok_X10_worthOf, List.forall_mem_cons.mpr ⟨ok_X10_term, List.forall_mem_cons.mpr ⟨ok_X10_worth, List.forall_mem_cons.mpr ⟨ok_X10_bestOf, List.forall_mem_cons.mpr ⟨ok_X10_best, List.forall_mem_cons.mpr ⟨ok_X10_meanOf, List.forall_mem_cons.mpr ⟨ok_X10_gapOf, List.forall_mem_cons.mpr ⟨ok_X10_mean, List.forall_mem_cons.mpr ⟨ok_X10_waysOfNobody, List.forall_mem_cons.mpr ⟨ok_X10_nobody, List.forall_mem_cons.mpr ⟨ok_X10_layRest, List.forall_mem_cons.mpr ⟨ok_X10_nextWeights, List.forall_mem_cons.mpr ⟨ok_X10_rest, List.forall_mem_cons.mpr ⟨ok_X10_gap, List.forall_mem_cons.mpr ⟨ok_X10_waysOfSet, List.forall_mem_cons.mpr ⟨ok_X10_layAgreed, List.forall_mem_cons.mpr ⟨ok_X10_layLeague, List.forall_mem_cons.mpr ⟨ok_X10_isSet, List.forall_mem_cons.mpr ⟨ok_X10_friends, List.forall_mem_cons.mpr ⟨ok_X10_league, List.forall_mem_cons.mpr ⟨ok_X10_layTold, List.forall_mem_cons.mpr ⟨ok_X10_spy, List.forall_mem_cons.mpr ⟨ok_X10_spied, List.forall_mem_cons.mpr ⟨ok_X10_steps, List.forall_mem_cons.mpr ⟨ok_X10_hasOf, List.forall_mem_cons.mpr ⟨ok_X10_lateEvening, List.forall_mem_cons.mpr ⟨ok_X10_layWrote, List.forall_mem_cons.mpr ⟨ok_X10_late, List.forall_mem_cons.mpr ⟨ok_X10_prize, List.forall_mem_cons.mpr ⟨ok_X10_seen, List.forall_mem_cons.mpr ⟨ok_X10_forget, List.forall_mem_cons.mpr ⟨ok_X10_isSeen, List.forall_mem_cons.mpr ⟨ok_X10_codes, List.forall_mem_cons.mpr ⟨ok_X10_fits, List.forall_mem_cons.mpr ⟨ok_X10_could, List.forall_mem_cons.mpr ⟨ok_X10_year, List.forall_mem_cons.mpr ⟨ok_X10_image, List.forall_mem_cons.mpr ⟨ok_X10_restore, List.forall_mem_cons.mpr ⟨ok_X10_told, List.forall_mem_cons.mpr ⟨ok_J6_bitCount_0f7a4, fun _ h => absurd h List.not_mem_nil⟩⟩⟩⟩⟩⟩⟩⟩⟩⟩⟩⟩⟩⟩⟩⟩⟩⟩⟩⟩⟩⟩⟩⟩⟩⟩⟩⟩⟩⟩⟩⟩⟩⟩⟩⟩⟩⟩⟩⟩⟩⟩⟩⟩⟩⟩⟩⟩⟩⟩⟩⟩⟩⟩⟩⟩⟩⟩⟩⟩⟩⟩⟩⟩⟩⟩⟩⟩⟩⟩⟩⟩⟩⟩⟩⟩⟩⟩⟩⟩⟩⟩⟩⟩⟩⟩⟩⟩⟩⟩⟩⟩⟩⟩⟩⟩⟩⟩⟩⟩⟩⟩⟩⟩⟩⟩⟩⟩⟩⟩⟩⟩⟩⟩⟩⟩⟩⟩⟩⟩⟩⟩⟩⟩⟩⟩⟩⟩⟩⟩⟩⟩⟩⟩⟩⟩⟩⟩⟩⟩⟩⟩⟩⟩⟩⟩⟩⟩⟩⟩⟩⟩⟩⟩⟩⟩⟩⟩⟩⟩⟩⟩⟩⟩⟩⟩⟩
theorem tb1_in {w : Cond} (h : w ∈ tables_1_1 ∨ w ∈ tables_1_2 ∨ w ∈ tables_1_3 ∨ w ∈ tables_1_4 ∨ w ∈ tables_1_5) (hg : goodWord w = true) : w ∈ rBig := by
  refine List.mem_filter.mpr ⟨List.mem_append_right _ ?_, hg⟩
  show w ∈ tables_1_1 ++ (tables_1_2 ++ (tables_1_3 ++ (tables_1_4 ++ tables_1_5)))
  simpa only [List.mem_append] using h
set_option maxRecDepth 20000 in
theorem cw_X0_init : Cond.code yX0_init cX0_init 1 none ∈ rBig := tb1_in (Or.inl (List.mem_of_getElem? (i := 234) rfl)) rfl
set_option maxRecDepth 20000 in
theorem cw_X0_play : Cond.code yX0_play cX0_play 5 (some .int) ∈ rBig := tb1_in (Or.inr (Or.inr (Or.inl (List.mem_of_getElem? (i := 127) rfl)))) rfl
set_option maxRecDepth 20000 in
theorem cw_X0_rank : Cond.code yX0_rank cX0_rank 5 (some .int) ∈ rBig := tb1_in (Or.inr (Or.inr (Or.inl (List.mem_of_getElem? (i := 141) rfl)))) rfl
set_option maxRecDepth 20000 in
theorem cw_X1_init : Cond.code yX1_init cX1_init 1 none ∈ rBig := tb1_in (Or.inl (List.mem_of_getElem? (i := 171) rfl)) rfl
set_option maxRecDepth 20000 in
theorem cw_X1_find : Cond.code yX1_find cX1_find 5 none ∈ rBig := tb1_in (Or.inr (Or.inr (Or.inl (List.mem_of_getElem? (i := 37) rfl)))) rfl
set_option maxRecDepth 20000 in
theorem cw_X1_weightOf : Cond.code yX1_weightOf cX1_weightOf 3 (some .int) ∈ rBig := tb1_in (Or.inr (Or.inr (Or.inl (List.mem_of_getElem? (i := 57) rfl)))) rfl
set_option maxRecDepth 20000 in
theorem cw_X1_judge : Cond.code yX1_judge cX1_judge 3 none ∈ rBig := tb1_in (Or.inr (Or.inr (Or.inl (List.mem_of_getElem? (i := 48) rfl)))) rfl
set_option maxRecDepth 20000 in
theorem cw_X2_init : Cond.code yX2_init cX2_init 1 none ∈ rBig := tb1_in (Or.inl (List.mem_of_getElem? (i := 89) rfl)) rfl
set_option maxRecDepth 20000 in
theorem cw_X2_clear : Cond.code yX2_clear cX2_clear 2 none ∈ rBig := tb1_in (Or.inr (Or.inl (List.mem_of_getElem? (i := 120) rfl))) rfl
set_option maxRecDepth 20000 in
theorem cw_X2_write : Cond.code yX2_write cX2_write 3 none ∈ rBig := tb1_in (Or.inr (Or.inl (List.mem_of_getElem? (i := 124) rfl))) rfl
set_option maxRecDepth 20000 in
theorem cw_X2_draw : Cond.code yX2_draw cX2_draw 7 (some .int) ∈ rBig := tb1_in (Or.inr (Or.inr (Or.inl (List.mem_of_getElem? (i := 211) rfl)))) rfl
set_option maxRecDepth 20000 in
theorem cw_X2_numberOfLot : Cond.code yX2_numberOfLot cX2_numberOfLot 4 (some .int) ∈ rBig := tb1_in (Or.inr (Or.inr (Or.inl (List.mem_of_getElem? (i := 217) rfl)))) rfl
set_option maxRecDepth 20000 in
theorem cw_X2_writers : Cond.code yX2_writers cX2_writers 4 (some .int) ∈ rBig := tb1_in (Or.inr (Or.inl (List.mem_of_getElem? (i := 142) rfl))) rfl
set_option maxRecDepth 20000 in
theorem cw_X3_init : Cond.code yX3_init cX3_init 1 none ∈ rBig := tb1_in (Or.inr (Or.inl (List.mem_of_getElem? (i := 10) rfl))) rfl
set_option maxRecDepth 20000 in
theorem cw_X3_read : Cond.code yX3_read cX3_read 4 none ∈ rBig := tb1_in (Or.inr (Or.inr (Or.inl (List.mem_of_getElem? (i := 172) rfl)))) rfl
set_option maxRecDepth 20000 in
theorem cw_X3_bind : Cond.code yX3_bind cX3_bind 3 none ∈ rBig := tb1_in (Or.inr (Or.inr (Or.inl (List.mem_of_getElem? (i := 176) rfl)))) rfl
set_option maxRecDepth 20000 in
theorem cw_X3_demand : Cond.code yX3_demand cX3_demand 2 none ∈ rBig := tb1_in (Or.inr (Or.inr (Or.inl (List.mem_of_getElem? (i := 180) rfl)))) rfl
set_option maxRecDepth 20000 in
theorem cw_X3_rows : Cond.code yX3_rows cX3_rows 2 (some .int) ∈ rBig := tb1_in (Or.inr (Or.inr (Or.inl (List.mem_of_getElem? (i := 184) rfl)))) rfl
set_option maxRecDepth 20000 in
theorem cw_X3_bindFirst : Cond.code yX3_bindFirst cX3_bindFirst 4 none ∈ rBig := tb1_in (Or.inr (Or.inr (Or.inl (List.mem_of_getElem? (i := 194) rfl)))) rfl
set_option maxRecDepth 20000 in
theorem cw_X3_numbersOf : Cond.code yX3_numbersOf cX3_numbersOf 5 (some .int) ∈ rBig := tb1_in (Or.inr (Or.inr (Or.inl (List.mem_of_getElem? (i := 203) rfl)))) rfl
set_option maxRecDepth 20000 in
theorem cw_X4_init : Cond.code yX4_init cX4_init 1 none ∈ rBig := tb1_in (Or.inl (List.mem_of_getElem? (i := 105) rfl)) rfl
set_option maxRecDepth 20000 in
theorem cw_X4_meet : Cond.code yX4_meet cX4_meet 7 none ∈ rBig := tb1_in (Or.inr (Or.inl (List.mem_of_getElem? (i := 202) rfl))) rfl
set_option maxRecDepth 20000 in
theorem cw_X4_top : Cond.code yX4_top cX4_top 3 (some .int) ∈ rBig := tb1_in (Or.inr (Or.inl (List.mem_of_getElem? (i := 235) rfl))) rfl
set_option maxRecDepth 20000 in
theorem cw_X4_average : Cond.code yX4_average cX4_average 5 (some .long) ∈ rBig := tb1_in (Or.inr (Or.inr (Or.inl (List.mem_of_getElem? (i := 3) rfl)))) rfl
set_option maxRecDepth 20000 in
theorem cw_X4_surplus : Cond.code yX4_surplus cX4_surplus 3 (some .long) ∈ rBig := tb1_in (Or.inr (Or.inr (Or.inl (List.mem_of_getElem? (i := 7) rfl)))) rfl
set_option maxRecDepth 20000 in
theorem cw_X5_init : Cond.code yX5_init cX5_init 1 none ∈ rBig := tb1_in (Or.inl (List.mem_of_getElem? (i := 202) rfl)) rfl
set_option maxRecDepth 20000 in
theorem cw_X5_find : Cond.code yX5_find cX5_find 3 none ∈ rBig := tb1_in (Or.inr (Or.inr (Or.inl (List.mem_of_getElem? (i := 73) rfl)))) rfl
set_option maxRecDepth 20000 in
theorem cw_X5_numberOf : Cond.code yX5_numberOf cX5_numberOf 3 (some .int) ∈ rBig := tb1_in (Or.inr (Or.inr (Or.inl (List.mem_of_getElem? (i := 98) rfl)))) rfl
set_option maxRecDepth 20000 in
theorem cw_X5_gather : Cond.code yX5_gather cX5_gather 4 none ∈ rBig := tb1_in (Or.inr (Or.inr (Or.inl (List.mem_of_getElem? (i := 86) rfl)))) rfl
set_option maxRecDepth 20000 in
theorem cw_X5_judge : Cond.code yX5_judge cX5_judge 5 none ∈ rBig := tb1_in (Or.inr (Or.inr (Or.inl (List.mem_of_getElem? (i := 92) rfl)))) rfl
set_option maxRecDepth 20000 in
theorem cw_X6_init : Cond.code yX6_init cX6_init 1 none ∈ rBig := tb1_in (Or.inl (List.mem_of_getElem? (i := 26) rfl)) rfl
set_option maxRecDepth 20000 in
theorem cw_X6_open : Cond.code yX6_open cX6_open 4 none ∈ rBig := tb1_in (Or.inr (Or.inl (List.mem_of_getElem? (i := 84) rfl))) rfl
set_option maxRecDepth 20000 in
theorem cw_X6_copy : Cond.code yX6_copy cX6_copy 2 none ∈ rBig := tb1_in (Or.inr (Or.inr (Or.inl (List.mem_of_getElem? (i := 226) rfl)))) rfl
set_option maxRecDepth 20000 in
theorem cw_X6_addSight : Cond.code yX6_addSight cX6_addSight 4 none ∈ rBig := tb1_in (Or.inr (Or.inr (Or.inl (List.mem_of_getElem? (i := 160) rfl)))) rfl
set_option maxRecDepth 20000 in
theorem cw_X6_hasMan : Cond.code yX6_hasMan cX6_hasMan 2 (some .boolean) ∈ rBig := tb1_in (Or.inr (Or.inl (List.mem_of_getElem? (i := 162) rfl))) rfl
set_option maxRecDepth 20000 in
theorem cw_X6_hasNumber : Cond.code yX6_hasNumber cX6_hasNumber 2 (some .boolean) ∈ rBig := tb1_in (Or.inr (Or.inl (List.mem_of_getElem? (i := 150) rfl))) rfl
set_option maxRecDepth 20000 in
theorem cw_X6_allWeights : Cond.code yX6_allWeights cX6_allWeights 3 (some .int) ∈ rBig := tb1_in (Or.inr (Or.inl (List.mem_of_getElem? (i := 154) rfl))) rfl
set_option maxRecDepth 20000 in
theorem cw_X6_shares : Cond.code yX6_shares cX6_shares 1 (some .int) ∈ rBig := tb1_in (Or.inr (Or.inl (List.mem_of_getElem? (i := 220) rfl))) rfl
set_option maxRecDepth 20000 in
theorem cw_X7_init : Cond.code yX7_init cX7_init 1 none ∈ rBig := tb1_in (Or.inl (List.mem_of_getElem? (i := 108) rfl)) rfl
set_option maxRecDepth 20000 in
theorem cw_X7_clear : Cond.code yX7_clear cX7_clear 4 none ∈ rBig := tb1_in (Or.inr (Or.inl (List.mem_of_getElem? (i := 178) rfl))) rfl
set_option maxRecDepth 20000 in
theorem cw_X7_join : Cond.code yX7_join cX7_join 2 none ∈ rBig := tb1_in (Or.inr (Or.inl (List.mem_of_getElem? (i := 184) rfl))) rfl
set_option maxRecDepth 20000 in
theorem cw_X7_run : Cond.code yX7_run cX7_run 3 none ∈ rBig := tb1_in (Or.inr (Or.inl (List.mem_of_getElem? (i := 190) rfl))) rfl
set_option maxRecDepth 20000 in
theorem cw_X8_init : Cond.code yX8_init cX8_init 1 none ∈ rBig := tb1_in (Or.inl (List.mem_of_getElem? (i := 159) rfl)) rfl
set_option maxRecDepth 20000 in
theorem cw_X8_meet : Cond.code yX8_meet cX8_meet 4 none ∈ rBig := tb1_in (Or.inr (Or.inl (List.mem_of_getElem? (i := 208) rfl))) rfl
set_option maxRecDepth 20000 in
theorem cw_X9_init : Cond.code yX9_init cX9_init 1 none ∈ rBig := tb1_in (Or.inl (List.mem_of_getElem? (i := 18) rfl)) rfl
set_option maxRecDepth 20000 in
theorem cw_X9_inn : Cond.code yX9_inn cX9_inn 4 (some .int) ∈ rBig := tb1_in (Or.inr (Or.inl (List.mem_of_getElem? (i := 77) rfl))) rfl
set_option maxRecDepth 20000 in
theorem cw_X9_rule : Cond.code yX9_rule cX9_rule 3 (some .int) ∈ rBig := tb1_in (Or.inr (Or.inl (List.mem_of_getElem? (i := 88) rfl))) rfl
set_option maxRecDepth 20000 in
theorem cw_X9_say : Cond.code yX9_say cX9_say 2 (some .int) ∈ rBig := tb1_in (Or.inr (Or.inl (List.mem_of_getElem? (i := 92) rfl))) rfl
set_option maxRecDepth 20000 in
theorem cw_X9_wipe : Cond.code yX9_wipe cX9_wipe 2 (some .int) ∈ rBig := tb1_in (Or.inr (Or.inl (List.mem_of_getElem? (i := 96) rfl))) rfl
set_option maxRecDepth 20000 in
theorem cw_X9_fault : Cond.code yX9_fault cX9_fault 2 (some .int) ∈ rBig := tb1_in (Or.inr (Or.inl (List.mem_of_getElem? (i := 100) rfl))) rfl
set_option maxRecDepth 20000 in
theorem cw_X9_wins : Cond.code yX9_wins cX9_wins 3 (some .int) ∈ rBig := tb1_in (Or.inr (Or.inl (List.mem_of_getElem? (i := 108) rfl))) rfl
set_option maxRecDepth 20000 in
theorem cw_X9_weight : Cond.code yX9_weight cX9_weight 5 (some .int) ∈ rBig := tb1_in (Or.inr (Or.inl (List.mem_of_getElem? (i := 146) rfl))) rfl
set_option maxRecDepth 20000 in
theorem cw_X9_fool : Cond.code yX9_fool cX9_fool 4 (some .int) ∈ rBig := tb1_in (Or.inr (Or.inl (List.mem_of_getElem? (i := 158) rfl))) rfl
set_option maxRecDepth 20000 in
theorem cw_X9_worth : Cond.code yX9_worth cX9_worth 4 (some .long) ∈ rBig := tb1_in (Or.inr (Or.inl (List.mem_of_getElem? (i := 166) rfl))) rfl
set_option maxRecDepth 20000 in
theorem cw_X9_best : Cond.code yX9_best cX9_best 2 (some .int) ∈ rBig := tb1_in (Or.inr (Or.inl (List.mem_of_getElem? (i := 231) rfl))) rfl
set_option maxRecDepth 20000 in
theorem cw_X9_mean : Cond.code yX9_mean cX9_mean 6 (some .long) ∈ rBig := tb1_in (Or.inr (Or.inl (List.mem_of_getElem? (i := 239) rfl))) rfl
set_option maxRecDepth 20000 in
theorem cw_X9_nobody : Cond.code yX9_nobody cX9_nobody 2 (some .long) ∈ rBig := tb1_in (Or.inr (Or.inr (Or.inl (List.mem_of_getElem? (i := 13) rfl)))) rfl
set_option maxRecDepth 20000 in
theorem cw_X9_rest : Cond.code yX9_rest cX9_rest 3 (some .int) ∈ rBig := tb1_in (Or.inr (Or.inr (Or.inl (List.mem_of_getElem? (i := 30) rfl)))) rfl
set_option maxRecDepth 20000 in
theorem cw_X9_gap : Cond.code yX9_gap cX9_gap 3 (some .long) ∈ rBig := tb1_in (Or.inr (Or.inr (Or.inl (List.mem_of_getElem? (i := 61) rfl)))) rfl
set_option maxRecDepth 20000 in
theorem cw_X9_friends : Cond.code yX9_friends cX9_friends 3 (some .int) ∈ rBig := tb1_in (Or.inr (Or.inr (Or.inl (List.mem_of_getElem? (i := 65) rfl)))) rfl
set_option maxRecDepth 20000 in
theorem cw_X9_league : Cond.code yX9_league cX9_league 3 (some .long) ∈ rBig := tb1_in (Or.inr (Or.inr (Or.inl (List.mem_of_getElem? (i := 102) rfl)))) rfl
set_option maxRecDepth 20000 in
theorem cw_X9_spy : Cond.code yX9_spy cX9_spy 2 (some .int) ∈ rBig := tb1_in (Or.inr (Or.inr (Or.inl (List.mem_of_getElem? (i := 106) rfl)))) rfl
set_option maxRecDepth 20000 in
theorem cw_X9_spied : Cond.code yX9_spied cX9_spied 3 (some .long) ∈ rBig := tb1_in (Or.inr (Or.inr (Or.inl (List.mem_of_getElem? (i := 114) rfl)))) rfl
set_option maxRecDepth 20000 in
theorem cw_X9_steps : Cond.code yX9_steps cX9_steps 5 (some .int) ∈ rBig := tb1_in (Or.inr (Or.inr (Or.inl (List.mem_of_getElem? (i := 119) rfl)))) rfl
set_option maxRecDepth 20000 in
theorem cw_X9_late : Cond.code yX9_late cX9_late 4 (some .int) ∈ rBig := tb1_in (Or.inr (Or.inr (Or.inl (List.mem_of_getElem? (i := 123) rfl)))) rfl
set_option maxRecDepth 20000 in
theorem cw_X9_prize : Cond.code yX9_prize cX9_prize 8 (some .long) ∈ rBig := tb1_in (Or.inr (Or.inr (Or.inl (List.mem_of_getElem? (i := 150) rfl)))) rfl
set_option maxRecDepth 20000 in
theorem cw_X9_seen : Cond.code yX9_seen cX9_seen 4 (some .int) ∈ rBig := tb1_in (Or.inr (Or.inr (Or.inl (List.mem_of_getElem? (i := 156) rfl)))) rfl
set_option maxRecDepth 20000 in
theorem cw_X9_forget : Cond.code yX9_forget cX9_forget 2 (some .int) ∈ rBig := tb1_in (Or.inr (Or.inr (Or.inl (List.mem_of_getElem? (i := 164) rfl)))) rfl
set_option maxRecDepth 20000 in
theorem cw_X9_fits : Cond.code yX9_fits cX9_fits 2 (some .int) ∈ rBig := tb1_in (Or.inr (Or.inr (Or.inl (List.mem_of_getElem? (i := 168) rfl)))) rfl
set_option maxRecDepth 20000 in
theorem cw_X9_could : Cond.code yX9_could cX9_could 2 (some .int) ∈ rBig := tb1_in (Or.inr (Or.inr (Or.inl (List.mem_of_getElem? (i := 199) rfl)))) rfl
set_option maxRecDepth 20000 in
theorem cw_X9_year : Cond.code yX9_year cX9_year 8 (some .int) ∈ rBig := tb1_in (Or.inr (Or.inr (Or.inl (List.mem_of_getElem? (i := 207) rfl)))) rfl
set_option maxRecDepth 20000 in
theorem cw_X9_image : Cond.code yX9_image cX9_image 2 (some .int) ∈ rBig := tb1_in (Or.inr (Or.inr (Or.inl (List.mem_of_getElem? (i := 222) rfl)))) rfl
set_option maxRecDepth 20000 in
theorem cw_X9_restore : Cond.code yX9_restore cX9_restore 2 (some .int) ∈ rBig := tb1_in (Or.inr (Or.inr (Or.inl (List.mem_of_getElem? (i := 231) rfl)))) rfl
set_option maxRecDepth 20000 in
theorem cw_X9_told : Cond.code yX9_told cX9_told 2 (some .int) ∈ rBig := tb1_in (Or.inr (Or.inr (Or.inl (List.mem_of_getElem? (i := 235) rfl)))) rfl
set_option maxRecDepth 20000 in
theorem cw_X9_toldOfOne : Cond.code yX9_toldOfOne cX9_toldOfOne 2 (some .int) ∈ rBig := tb1_in (Or.inr (Or.inr (Or.inl (List.mem_of_getElem? (i := 239) rfl)))) rfl
set_option maxRecDepth 20000 in
theorem cw_X9_isSize : Cond.code yX9_isSize cX9_isSize 1 (some .boolean) ∈ rBig := tb1_in (Or.inr (Or.inl (List.mem_of_getElem? (i := 80) rfl))) rfl
set_option maxRecDepth 20000 in
theorem cw_X9_isBit : Cond.code yX9_isBit cX9_isBit 1 (some .boolean) ∈ rBig := tb1_in (Or.inr (Or.inl (List.mem_of_getElem? (i := 111) rfl))) rfl
set_option maxRecDepth 20000 in
theorem cw_X9_isSum : Cond.code yX9_isSum cX9_isSum 1 (some .boolean) ∈ rBig := tb1_in (Or.inr (Or.inr (Or.inl (List.mem_of_getElem? (i := 33) rfl)))) rfl
set_option maxRecDepth 20000 in
theorem cw_X9_isSet : Cond.code yX9_isSet cX9_isSet 2 (some .boolean) ∈ rBig := tb1_in (Or.inr (Or.inr (Or.inl (List.mem_of_getElem? (i := 69) rfl)))) rfl
set_option maxRecDepth 20000 in
theorem cw_X9_isSlip : Cond.code yX9_isSlip cX9_isSlip 2 (some .boolean) ∈ rBig := tb1_in (Or.inr (Or.inl (List.mem_of_getElem? (i := 104) rfl))) rfl
set_option maxRecDepth 20000 in
theorem cw_X9_isUntold : Cond.code yX9_isUntold cX9_isUntold 2 (some .boolean) ∈ rBig := tb1_in (Or.inr (Or.inl (List.mem_of_getElem? (i := 116) rfl))) rfl
set_option maxRecDepth 20000 in
theorem cw_X9_lower : Cond.code yX9_lower cX9_lower 2 (some .long) ∈ rBig := tb1_in (Or.inr (Or.inl (List.mem_of_getElem? (i := 216) rfl))) rfl
set_option maxRecDepth 20000 in
theorem cw_X9_weighOthers : Cond.code yX9_weighOthers cX9_weighOthers 3 none ∈ rBig := tb1_in (Or.inr (Or.inl (List.mem_of_getElem? (i := 172) rfl))) rfl
set_option maxRecDepth 20000 in
theorem cw_X9_weighPad : Cond.code yX9_weighPad cX9_weighPad 3 none ∈ rBig := tb1_in (Or.inr (Or.inr (Or.inl (List.mem_of_getElem? (i := 110) rfl)))) rfl
set_option maxRecDepth 20000 in
theorem cw_X9_weighAll : Cond.code yX9_weighAll cX9_weighAll 2 none ∈ rBig := tb1_in (Or.inr (Or.inr (Or.inl (List.mem_of_getElem? (i := 17) rfl)))) rfl
set_option maxRecDepth 20000 in
theorem cw_X9_power : Cond.code yX9_power cX9_power 6 (some .long) ∈ rBig := tb1_in (Or.inr (Or.inl (List.mem_of_getElem? (i := 196) rfl))) rfl
set_option maxRecDepth 20000 in
theorem cw_X9_lowest : Cond.code yX9_lowest cX9_lowest 7 (some .long) ∈ rBig := tb1_in (Or.inr (Or.inl (List.mem_of_getElem? (i := 224) rfl))) rfl
set_option maxRecDepth 20000 in
theorem cw_X9_commonDivisor : Cond.code yX9_commonDivisor cX9_commonDivisor 11 (some .long) ∈ rBig := tb1_in (Or.inr (Or.inl (List.mem_of_getElem? (i := 227) rfl))) rfl
set_option maxRecDepth 20000 in
theorem cw_X9_writersToWin : Cond.code yX9_writersToWin cX9_writersToWin 1 (some .int) ∈ rBig := tb1_in (Or.inr (Or.inl (List.mem_of_getElem? (i := 130) rfl))) rfl
set_option maxRecDepth 20000 in
theorem cw_X9_numbersWritten : Cond.code yX9_numbersWritten cX9_numbersWritten 5 (some .int) ∈ rBig := tb1_in (Or.inr (Or.inl (List.mem_of_getElem? (i := 133) rfl))) rfl
set_option maxRecDepth 20000 in
theorem cw_X9_winner : Cond.code yX9_winner cX9_winner 6 (some .int) ∈ rBig := tb1_in (Or.inr (Or.inl (List.mem_of_getElem? (i := 127) rfl))) rfl
set_option maxRecDepth 20000 in
theorem cw_X9_winning : Cond.code yX9_winning cX9_winning 2 (some .int) ∈ rBig := tb1_in (Or.inr (Or.inl (List.mem_of_getElem? (i := 136) rfl))) rfl
set_option maxRecDepth 20000 in
theorem cw_X9_place : Cond.code yX9_place cX9_place 10 none ∈ rBig := tb1_in (Or.inr (Or.inl (List.mem_of_getElem? (i := 193) rfl))) rfl
set_option maxRecDepth 20000 in
theorem cw_X9_spread : Cond.code yX9_spread cX9_spread 4 none ∈ rBig := tb1_in (Or.inr (Or.inr (Or.inl (List.mem_of_getElem? (i := 44) rfl)))) rfl
set_option maxRecDepth 20000 in
theorem cw_X9_agree : Cond.code yX9_agree cX9_agree 5 none ∈ rBig := tb1_in (Or.inr (Or.inr (Or.inl (List.mem_of_getElem? (i := 82) rfl)))) rfl
set_option maxRecDepth 20000 in
theorem cw_X9_choice : Cond.code yX9_choice cX9_choice 4 (some .int) ∈ rBig := tb1_in (Or.inr (Or.inr (Or.inl (List.mem_of_getElem? (i := 131) rfl)))) rfl
set_option maxRecDepth 20000 in
theorem cw_X9_endWith : Cond.code yX9_endWith cX9_endWith 5 (some .int) ∈ rBig := tb1_in (Or.inr (Or.inr (Or.inl (List.mem_of_getElem? (i := 134) rfl)))) rfl
set_option maxRecDepth 20000 in
theorem cw_X9_end : Cond.code yX9_end cX9_end 5 (some .int) ∈ rBig := tb1_in (Or.inr (Or.inr (Or.inl (List.mem_of_getElem? (i := 137) rfl)))) rfl
set_option maxRecDepth 20000 in
theorem cw_X10_init : Cond.code yX10_init cX10_init 1 none ∈ rBig := tb1_in (Or.inr (Or.inr (Or.inr (Or.inl (List.mem_of_getElem? (i := 4) rfl))))) rfl
set_option maxRecDepth 20000 in
theorem cw_X10_plain : Cond.code yX10_plain cX10_plain 2 none ∈ rBig := tb1_in (Or.inr (Or.inr (Or.inr (Or.inl (List.mem_of_getElem? (i := 10) rfl))))) rfl
set_option maxRecDepth 20000 in
theorem cw_X10_in : Cond.code yX10_in cX10_in 3 (some .boolean) ∈ rBig := tb1_in (Or.inr (Or.inr (Or.inr (Or.inl (List.mem_of_getElem? (i := 13) rfl))))) rfl
set_option maxRecDepth 20000 in
theorem cw_X10_has : Cond.code yX10_has cX10_has 2 (some .boolean) ∈ rBig := tb1_in (Or.inr (Or.inr (Or.inr (Or.inr (List.mem_of_getElem? (i := 14) rfl))))) rfl
set_option maxRecDepth 20000 in
theorem cw_X10_isMan : Cond.code yX10_isMan cX10_isMan 2 (some .boolean) ∈ rBig := tb1_in (Or.inr (Or.inr (Or.inr (Or.inl (List.mem_of_getElem? (i := 142) rfl))))) rfl
set_option maxRecDepth 20000 in
theorem cw_X10_isNumber : Cond.code yX10_isNumber cX10_isNumber 2 (some .boolean) ∈ rBig := tb1_in (Or.inr (Or.inr (Or.inr (Or.inl (List.mem_of_getElem? (i := 130) rfl))))) rfl
set_option maxRecDepth 20000 in
theorem cw_X10_inn : Cond.code yX10_inn cX10_inn 4 (some .int) ∈ rBig := tb1_in (Or.inr (Or.inr (Or.inr (Or.inl (List.mem_of_getElem? (i := 90) rfl))))) rfl
set_option maxRecDepth 20000 in
theorem cw_X10_rule : Cond.code yX10_rule cX10_rule 3 (some .int) ∈ rBig := tb1_in (Or.inr (Or.inr (Or.inr (Or.inl (List.mem_of_getElem? (i := 94) rfl))))) rfl
set_option maxRecDepth 20000 in
theorem cw_X10_say : Cond.code yX10_say cX10_say 2 (some .int) ∈ rBig := tb1_in (Or.inr (Or.inr (Or.inr (Or.inl (List.mem_of_getElem? (i := 98) rfl))))) rfl
set_option maxRecDepth 20000 in
theorem cw_X10_wipe : Cond.code yX10_wipe cX10_wipe 2 (some .int) ∈ rBig := tb1_in (Or.inr (Or.inr (Or.inr (Or.inl (List.mem_of_getElem? (i := 102) rfl))))) rfl
set_option maxRecDepth 20000 in
theorem cw_X10_faultOf : Cond.code yX10_faultOf cX10_faultOf 2 (some .int) ∈ rBig := tb1_in (Or.inr (Or.inr (Or.inr (Or.inl (List.mem_of_getElem? (i := 110) rfl))))) rfl
set_option maxRecDepth 20000 in
theorem cw_X10_fault : Cond.code yX10_fault cX10_fault 1 (some .int) ∈ rBig := tb1_in (Or.inr (Or.inr (Or.inr (Or.inl (List.mem_of_getElem? (i := 106) rfl))))) rfl
set_option maxRecDepth 20000 in
theorem cw_X10_winner : Cond.code yX10_winner cX10_winner 7 (some .int) ∈ rBig := tb1_in (Or.inr (Or.inr (Or.inr (Or.inl (List.mem_of_getElem? (i := 122) rfl))))) rfl
set_option maxRecDepth 20000 in
theorem cw_X10_nobodyWrote : Cond.code yX10_nobodyWrote cX10_nobodyWrote 2 none ∈ rBig := tb1_in (Or.inr (Or.inr (Or.inr (Or.inl (List.mem_of_getElem? (i := 118) rfl))))) rfl
set_option maxRecDepth 20000 in
theorem cw_X10_wins : Cond.code yX10_wins cX10_wins 5 (some .int) ∈ rBig := tb1_in (Or.inr (Or.inr (Or.inr (Or.inl (List.mem_of_getElem? (i := 114) rfl))))) rfl
set_option maxRecDepth 20000 in
theorem cw_X10_weight : Cond.code yX10_weight cX10_weight 4 (some .int) ∈ rBig := tb1_in (Or.inr (Or.inr (Or.inr (Or.inl (List.mem_of_getElem? (i := 126) rfl))))) rfl
set_option maxRecDepth 20000 in
theorem cw_X10_allWeights : Cond.code yX10_allWeights cX10_allWeights 3 (some .int) ∈ rBig := tb1_in (Or.inr (Or.inr (Or.inr (Or.inl (List.mem_of_getElem? (i := 134) rfl))))) rfl
set_option maxRecDepth 20000 in
theorem cw_X10_fool : Cond.code yX10_fool cX10_fool 4 (some .int) ∈ rBig := tb1_in (Or.inr (Or.inr (Or.inr (Or.inl (List.mem_of_getElem? (i := 138) rfl))))) rfl
set_option maxRecDepth 20000 in
theorem cw_X10_asWeights : Cond.code yX10_asWeights cX10_asWeights 2 none ∈ rBig := tb1_in (Or.inr (Or.inr (Or.inr (Or.inl (List.mem_of_getElem? (i := 156) rfl))))) rfl
set_option maxRecDepth 20000 in
theorem cw_X10_power : Cond.code yX10_power cX10_power 6 (some .long) ∈ rBig := tb1_in (Or.inr (Or.inr (Or.inr (Or.inl (List.mem_of_getElem? (i := 183) rfl))))) rfl
set_option maxRecDepth 20000 in
theorem cw_X10_choose : Cond.code yX10_choose cX10_choose 4 (some .int) ∈ rBig := tb1_in (Or.inr (Or.inr (Or.inr (Or.inl (List.mem_of_getElem? (i := 180) rfl))))) rfl
set_option maxRecDepth 20000 in
theorem cw_X10_beginFill : Cond.code yX10_beginFill cX10_beginFill 2 none ∈ rBig := tb1_in (Or.inr (Or.inr (Or.inr (Or.inl (List.mem_of_getElem? (i := 168) rfl))))) rfl
set_option maxRecDepth 20000 in
theorem cw_X10_nextFill : Cond.code yX10_nextFill cX10_nextFill 3 (some .boolean) ∈ rBig := tb1_in (Or.inr (Or.inr (Or.inr (Or.inl (List.mem_of_getElem? (i := 187) rfl))))) rfl
set_option maxRecDepth 20000 in
theorem cw_X10_waysOfFill : Cond.code yX10_waysOfFill cX10_waysOfFill 5 (some .long) ∈ rBig := tb1_in (Or.inr (Or.inr (Or.inr (Or.inl (List.mem_of_getElem? (i := 177) rfl))))) rfl
set_option maxRecDepth 20000 in
theorem cw_X10_both : Cond.code yX10_both cX10_both 2 none ∈ rBig := tb1_in (Or.inr (Or.inr (Or.inr (Or.inl (List.mem_of_getElem? (i := 172) rfl))))) rfl
set_option maxRecDepth 20000 in
theorem cw_X10_waysToWin : Cond.code yX10_waysToWin cX10_waysToWin 5 (some .long) ∈ rBig := tb1_in (Or.inr (Or.inr (Or.inr (Or.inl (List.mem_of_getElem? (i := 164) rfl))))) rfl
set_option maxRecDepth 20000 in
theorem cw_X10_sumOfWeights : Cond.code yX10_sumOfWeights cX10_sumOfWeights 3 (some .int) ∈ rBig := tb1_in (Or.inr (Or.inr (Or.inr (Or.inl (List.mem_of_getElem? (i := 195) rfl))))) rfl
set_option maxRecDepth 20000 in
theorem cw_X10_lowOf : Cond.code yX10_lowOf cX10_lowOf 1 (some .long) ∈ rBig := tb1_in (Or.inr (Or.inr (Or.inr (Or.inl (List.mem_of_getElem? (i := 191) rfl))))) rfl
set_option maxRecDepth 20000 in
theorem cw_X10_layOthers : Cond.code yX10_layOthers cX10_layOthers 3 none ∈ rBig := tb1_in (Or.inr (Or.inr (Or.inr (Or.inl (List.mem_of_getElem? (i := 152) rfl))))) rfl
set_option maxRecDepth 20000 in
theorem cw_X10_worthOf : Cond.code yX10_worthOf cX10_worthOf 4 (some .long) ∈ rBig := tb1_in (Or.inr (Or.inr (Or.inr (Or.inl (List.mem_of_getElem? (i := 160) rfl))))) rfl
set_option maxRecDepth 20000 in
theorem cw_X10_term : Cond.code yX10_term cX10_term 11 (some .long) ∈ rBig := tb1_in (Or.inr (Or.inr (Or.inr (Or.inl (List.mem_of_getElem? (i := 198) rfl))))) rfl
set_option maxRecDepth 20000 in
theorem cw_X10_worth : Cond.code yX10_worth cX10_worth 4 (some .long) ∈ rBig := tb1_in (Or.inr (Or.inr (Or.inr (Or.inl (List.mem_of_getElem? (i := 146) rfl))))) rfl
set_option maxRecDepth 20000 in
theorem cw_X10_bestOf : Cond.code yX10_bestOf cX10_bestOf 7 (some .int) ∈ rBig := tb1_in (Or.inr (Or.inr (Or.inr (Or.inl (List.mem_of_getElem? (i := 206) rfl))))) rfl
set_option maxRecDepth 20000 in
theorem cw_X10_best : Cond.code yX10_best cX10_best 2 (some .int) ∈ rBig := tb1_in (Or.inr (Or.inr (Or.inr (Or.inl (List.mem_of_getElem? (i := 202) rfl))))) rfl
set_option maxRecDepth 20000 in
theorem cw_X10_meanOf : Cond.code yX10_meanOf cX10_meanOf 4 (some .long) ∈ rBig := tb1_in (Or.inr (Or.inr (Or.inr (Or.inl (List.mem_of_getElem? (i := 214) rfl))))) rfl
set_option maxRecDepth 20000 in
theorem cw_X10_gapOf : Cond.code yX10_gapOf cX10_gapOf 1 (some .long) ∈ rBig := tb1_in (Or.inr (Or.inr (Or.inr (Or.inl (List.mem_of_getElem? (i := 218) rfl))))) rfl
set_option maxRecDepth 20000 in
theorem cw_X10_mean : Cond.code yX10_mean cX10_mean 4 (some .long) ∈ rBig := tb1_in (Or.inr (Or.inr (Or.inr (Or.inl (List.mem_of_getElem? (i := 210) rfl))))) rfl
set_option maxRecDepth 20000 in
theorem cw_X10_waysOfNobody : Cond.code yX10_waysOfNobody cX10_waysOfNobody 4 (some .long) ∈ rBig := tb1_in (Or.inr (Or.inr (Or.inr (Or.inl (List.mem_of_getElem? (i := 226) rfl))))) rfl
set_option maxRecDepth 20000 in
theorem cw_X10_nobody : Cond.code yX10_nobody cX10_nobody 4 (some .long) ∈ rBig := tb1_in (Or.inr (Or.inr (Or.inr (Or.inl (List.mem_of_getElem? (i := 222) rfl))))) rfl
set_option maxRecDepth 20000 in
theorem cw_X10_layRest : Cond.code yX10_layRest cX10_layRest 6 none ∈ rBig := tb1_in (Or.inr (Or.inr (Or.inr (Or.inl (List.mem_of_getElem? (i := 234) rfl))))) rfl
set_option maxRecDepth 20000 in
theorem cw_X10_nextWeights : Cond.code yX10_nextWeights cX10_nextWeights 3 (some .boolean) ∈ rBig := tb1_in (Or.inr (Or.inr (Or.inr (Or.inl (List.mem_of_getElem? (i := 239) rfl))))) rfl
set_option maxRecDepth 20000 in
theorem cw_X10_rest : Cond.code yX10_rest cX10_rest 3 (some .int) ∈ rBig := tb1_in (Or.inr (Or.inr (Or.inr (Or.inl (List.mem_of_getElem? (i := 230) rfl))))) rfl
set_option maxRecDepth 20000 in
theorem cw_X10_gap : Cond.code yX10_gap cX10_gap 3 (some .long) ∈ rBig := tb1_in (Or.inr (Or.inr (Or.inr (Or.inr (List.mem_of_getElem? (i := 3) rfl))))) rfl
set_option maxRecDepth 20000 in
theorem cw_X10_waysOfSet : Cond.code yX10_waysOfSet cX10_waysOfSet 8 (some .long) ∈ rBig := tb1_in (Or.inr (Or.inr (Or.inr (Or.inr (List.mem_of_getElem? (i := 26) rfl))))) rfl
set_option maxRecDepth 20000 in
theorem cw_X10_layAgreed : Cond.code yX10_layAgreed cX10_layAgreed 5 (some .boolean) ∈ rBig := tb1_in (Or.inr (Or.inr (Or.inr (Or.inr (List.mem_of_getElem? (i := 22) rfl))))) rfl
set_option maxRecDepth 20000 in
theorem cw_X10_layLeague : Cond.code yX10_layLeague cX10_layLeague 7 none ∈ rBig := tb1_in (Or.inr (Or.inr (Or.inr (Or.inr (List.mem_of_getElem? (i := 18) rfl))))) rfl
set_option maxRecDepth 20000 in
theorem cw_X10_isSet : Cond.code yX10_isSet cX10_isSet 2 (some .boolean) ∈ rBig := tb1_in (Or.inr (Or.inr (Or.inr (Or.inr (List.mem_of_getElem? (i := 11) rfl))))) rfl
set_option maxRecDepth 20000 in
theorem cw_X10_friends : Cond.code yX10_friends cX10_friends 3 (some .int) ∈ rBig := tb1_in (Or.inr (Or.inr (Or.inr (Or.inr (List.mem_of_getElem? (i := 7) rfl))))) rfl
set_option maxRecDepth 20000 in
theorem cw_X10_league : Cond.code yX10_league cX10_league 3 (some .long) ∈ rBig := tb1_in (Or.inr (Or.inr (Or.inr (Or.inr (List.mem_of_getElem? (i := 30) rfl))))) rfl
set_option maxRecDepth 20000 in
theorem cw_X10_layTold : Cond.code yX10_layTold cX10_layTold 4 none ∈ rBig := tb1_in (Or.inr (Or.inr (Or.inr (Or.inr (List.mem_of_getElem? (i := 38) rfl))))) rfl
set_option maxRecDepth 20000 in
theorem cw_X10_spy : Cond.code yX10_spy cX10_spy 2 (some .int) ∈ rBig := tb1_in (Or.inr (Or.inr (Or.inr (Or.inr (List.mem_of_getElem? (i := 34) rfl))))) rfl
set_option maxRecDepth 20000 in
theorem cw_X10_spied : Cond.code yX10_spied cX10_spied 3 (some .long) ∈ rBig := tb1_in (Or.inr (Or.inr (Or.inr (Or.inr (List.mem_of_getElem? (i := 42) rfl))))) rfl
set_option maxRecDepth 20000 in
theorem cw_X10_steps : Cond.code yX10_steps cX10_steps 5 (some .int) ∈ rBig := tb1_in (Or.inr (Or.inr (Or.inr (Or.inr (List.mem_of_getElem? (i := 47) rfl))))) rfl
set_option maxRecDepth 20000 in
theorem cw_X10_hasOf : Cond.code yX10_hasOf cX10_hasOf 3 (some .int) ∈ rBig := tb1_in (Or.inr (Or.inr (Or.inr (Or.inr (List.mem_of_getElem? (i := 63) rfl))))) rfl
set_option maxRecDepth 20000 in
theorem cw_X10_lateEvening : Cond.code yX10_lateEvening cX10_lateEvening 9 (some .int) ∈ rBig := tb1_in (Or.inr (Or.inr (Or.inr (Or.inr (List.mem_of_getElem? (i := 55) rfl))))) rfl
set_option maxRecDepth 20000 in
theorem cw_X10_layWrote : Cond.code yX10_layWrote cX10_layWrote 4 none ∈ rBig := tb1_in (Or.inr (Or.inr (Or.inr (Or.inr (List.mem_of_getElem? (i := 59) rfl))))) rfl
set_option maxRecDepth 20000 in
theorem cw_X10_late : Cond.code yX10_late cX10_late 5 (some .int) ∈ rBig := tb1_in (Or.inr (Or.inr (Or.inr (Or.inr (List.mem_of_getElem? (i := 51) rfl))))) rfl
set_option maxRecDepth 20000 in
theorem cw_X10_prize : Cond.code yX10_prize cX10_prize 8 (some .long) ∈ rBig := tb1_in (Or.inr (Or.inr (Or.inr (Or.inr (List.mem_of_getElem? (i := 67) rfl))))) rfl
set_option maxRecDepth 20000 in
theorem cw_X10_seen : Cond.code yX10_seen cX10_seen 5 (some .int) ∈ rBig := tb1_in (Or.inr (Or.inr (Or.inr (Or.inr (List.mem_of_getElem? (i := 73) rfl))))) rfl
set_option maxRecDepth 20000 in
theorem cw_X10_forget : Cond.code yX10_forget cX10_forget 2 (some .int) ∈ rBig := tb1_in (Or.inr (Or.inr (Or.inr (Or.inr (List.mem_of_getElem? (i := 77) rfl))))) rfl
set_option maxRecDepth 20000 in
theorem cw_X10_isSeen : Cond.code yX10_isSeen cX10_isSeen 7 (some .boolean) ∈ rBig := tb1_in (Or.inr (Or.inr (Or.inr (Or.inr (List.mem_of_getElem? (i := 89) rfl))))) rfl
set_option maxRecDepth 20000 in
theorem cw_X10_codes : Cond.code yX10_codes cX10_codes 3 (some .int) ∈ rBig := tb1_in (Or.inr (Or.inr (Or.inr (Or.inr (List.mem_of_getElem? (i := 85) rfl))))) rfl
set_option maxRecDepth 20000 in
theorem cw_X10_fits : Cond.code yX10_fits cX10_fits 5 (some .int) ∈ rBig := tb1_in (Or.inr (Or.inr (Or.inr (Or.inr (List.mem_of_getElem? (i := 81) rfl))))) rfl
set_option maxRecDepth 20000 in
theorem cw_X10_could : Cond.code yX10_could cX10_could 4 (some .int) ∈ rBig := tb1_in (Or.inr (Or.inr (Or.inr (Or.inr (List.mem_of_getElem? (i := 93) rfl))))) rfl
set_option maxRecDepth 20000 in
theorem cw_X10_year : Cond.code yX10_year cX10_year 10 (some .int) ∈ rBig := tb1_in (Or.inr (Or.inr (Or.inr (Or.inr (List.mem_of_getElem? (i := 97) rfl))))) rfl
set_option maxRecDepth 20000 in
theorem cw_X10_image : Cond.code yX10_image cX10_image 4 (some .int) ∈ rBig := tb1_in (Or.inr (Or.inr (Or.inr (Or.inr (List.mem_of_getElem? (i := 102) rfl))))) rfl
set_option maxRecDepth 20000 in
theorem cw_X10_restore : Cond.code yX10_restore cX10_restore 4 (some .int) ∈ rBig := tb1_in (Or.inr (Or.inr (Or.inr (Or.inr (List.mem_of_getElem? (i := 106) rfl))))) rfl
set_option maxRecDepth 20000 in
theorem cw_X10_told : Cond.code yX10_told cX10_told 2 (some .int) ∈ rBig := tb1_in (Or.inr (Or.inr (Or.inr (Or.inr (List.mem_of_getElem? (i := 110) rfl))))) rfl
set_option maxRecDepth 20000 in
theorem cw_J6_bitCount_0f7a4 : Cond.code yJ6_bitCount_0f7a4 cJ6_bitCount_0f7a4 1 (some .int) ∈ rBig := tb1_in (Or.inr (Or.inr (Or.inl (List.mem_of_getElem? (i := 76) rfl)))) rfl
set_option maxRecDepth 20000 in
theorem ok_codes : ∀ q ∈ pgm, Cond.code q.1 q.2.1 q.2.2.1 q.2.2.2.1 ∈ rBig :=
  List.forall_mem_cons.mpr ⟨cw_X0_init, List.forall_mem_cons.mpr ⟨cw_X0_play, List.forall_mem_cons.mpr ⟨cw_X0_rank, List.forall_mem_cons.mpr ⟨cw_X1_init, List.forall_mem_cons.mpr ⟨cw_X1_find, List.forall_mem_cons.mpr ⟨cw_X1_weightOf, List.forall_mem_cons.mpr ⟨cw_X1_judge, List.forall_mem_cons.mpr ⟨cw_X2_init, List.forall_mem_cons.mpr ⟨cw_X2_clear, List.forall_mem_cons.mpr ⟨cw_X2_write, List.forall_mem_cons.mpr ⟨cw_X2_draw, List.forall_mem_cons.mpr ⟨cw_X2_numberOfLot, List.forall_mem_cons.mpr ⟨cw_X2_writers, List.forall_mem_cons.mpr ⟨cw_X3_init, List.forall_mem_cons.mpr ⟨cw_X3_read, List.forall_mem_cons.mpr ⟨cw_X3_bind, List.forall_mem_cons.mpr ⟨cw_X3_demand, List.forall_mem_cons.mpr ⟨cw_X3_rows, List.forall_mem_cons.mpr ⟨cw_X3_bindFirst, List.forall_mem_cons.mpr ⟨cw_X3_numbersOf, List.forall_mem_cons.mpr ⟨cw_X4_init, List.forall_mem_cons.mpr ⟨cw_X4_meet, List.forall_mem_cons.mpr ⟨cw_X4_top, List.forall_mem_cons.mpr ⟨cw_X4_average, List.forall_mem_cons.mpr ⟨cw_X4_surplus, List.forall_mem_cons.mpr ⟨cw_X5_init, List.forall_mem_cons.mpr ⟨cw_X5_find, List.forall_mem_cons.mpr ⟨cw_X5_numberOf, List.forall_mem_cons.mpr ⟨cw_X5_gather, List.forall_mem_cons.mpr ⟨cw_X5_judge, List.forall_mem_cons.mpr ⟨cw_X6_init, List.forall_mem_cons.mpr ⟨cw_X6_open, List.forall_mem_cons.mpr ⟨cw_X6_copy, List.forall_mem_cons.mpr ⟨cw_X6_addSight, List.forall_mem_cons.mpr ⟨cw_X6_hasMan, List.forall_mem_cons.mpr ⟨cw_X6_hasNumber, List.forall_mem_cons.mpr ⟨cw_X6_allWeights, List.forall_mem_cons.mpr ⟨cw_X6_shares, List.forall_mem_cons.mpr ⟨cw_X7_init, List.forall_mem_cons.mpr ⟨cw_X7_clear, List.forall_mem_cons.mpr ⟨cw_X7_join, List.forall_mem_cons.mpr ⟨cw_X7_run, List.forall_mem_cons.mpr ⟨cw_X8_init, List.forall_mem_cons.mpr ⟨cw_X8_meet, List.forall_mem_cons.mpr ⟨cw_X9_init, List.forall_mem_cons.mpr ⟨cw_X9_inn, List.forall_mem_cons.mpr ⟨cw_X9_rule, List.forall_mem_cons.mpr ⟨cw_X9_say, List.forall_mem_cons.mpr ⟨cw_X9_wipe, List.forall_mem_cons.mpr ⟨cw_X9_fault, List.forall_mem_cons.mpr ⟨cw_X9_wins, List.forall_mem_cons.mpr ⟨cw_X9_weight, List.forall_mem_cons.mpr ⟨cw_X9_fool, List.forall_mem_cons.mpr ⟨cw_X9_worth, List.forall_mem_cons.mpr ⟨cw_X9_best, List.forall_mem_cons.mpr ⟨cw_X9_mean, List.forall_mem_cons.mpr ⟨cw_X9_nobody, List.forall_mem_cons.mpr ⟨cw_X9_rest, List.forall_mem_cons.mpr ⟨cw_X9_gap, List.forall_mem_cons.mpr ⟨cw_X9_friends, List.forall_mem_cons.mpr ⟨cw_X9_league, List.forall_mem_cons.mpr ⟨cw_X9_spy, List.forall_mem_cons.mpr ⟨cw_X9_spied, List.forall_mem_cons.mpr ⟨cw_X9_steps, List.forall_mem_cons.mpr ⟨cw_X9_late, List.forall_mem_cons.mpr ⟨cw_X9_prize, List.forall_mem_cons.mpr ⟨cw_X9_seen, List.forall_mem_cons.mpr ⟨cw_X9_forget, List.forall_mem_cons.mpr ⟨cw_X9_fits, List.forall_mem_cons.mpr ⟨cw_X9_could, List.forall_mem_cons.mpr ⟨cw_X9_year, List.forall_mem_cons.mpr ⟨cw_X9_image, List.forall_mem_cons.mpr ⟨cw_X9_restore, List.forall_mem_cons.mpr ⟨cw_X9_told, List.forall_mem_cons.mpr ⟨cw_X9_toldOfOne, List.forall_mem_cons.mpr ⟨cw_X9_isSize, List.forall_mem_cons.mpr ⟨cw_X9_isBit, List.forall_mem_cons.mpr ⟨cw_X9_isSum, List.forall_mem_cons.mpr ⟨cw_X9_isSet, List.forall_mem_cons.mpr ⟨cw_X9_isSlip, List.forall_mem_cons.mpr ⟨cw_X9_isUntold, List.forall_mem_cons.mpr ⟨cw_X9_lower, List.forall_mem_cons.mpr ⟨cw_X9_weighOthers, List.forall_mem_cons.mpr ⟨cw_X9_weighPad, List.forall_mem_cons.mpr ⟨cw_X9_weighAll, List.forall_mem_cons.mpr ⟨cw_X9_power, List.forall_mem_cons.mpr ⟨cw_X9_lowest, List.forall_mem_cons.mpr ⟨cw_X9_commonDivisor, List.forall_mem_cons.mpr ⟨cw_X9_writersToWin, List.forall_mem_cons.mpr ⟨cw_X9_numbersWritten, List.forall_mem_cons.mpr ⟨cw_X9_winner, List.forall_mem_cons.mpr ⟨cw_X9_winning, List.forall_mem_cons.mpr ⟨cw_X9_place, List.forall_mem_cons.mpr ⟨cw_X9_spread, List.forall_mem_cons.mpr ⟨cw_X9_agree, List.forall_mem_cons.mpr ⟨cw_X9_choice, List.forall_mem_cons.mpr ⟨cw_X9_endWith, List.forall_mem_cons.mpr ⟨cw_X9_end, List.forall_mem_cons.mpr ⟨cw_X10_init, List.forall_mem_cons.mpr ⟨cw_X10_plain, List.forall_mem_cons.mpr ⟨cw_X10_in, List.forall_mem_cons.mpr ⟨cw_X10_has, List.forall_mem_cons.mpr ⟨cw_X10_isMan, List.forall_mem_cons.mpr ⟨cw_X10_isNumber, List.forall_mem_cons.mpr ⟨cw_X10_inn, List.forall_mem_cons.mpr ⟨cw_X10_rule, List.forall_mem_cons.mpr ⟨cw_X10_say, List.forall_mem_cons.mpr ⟨cw_X10_wipe, List.forall_mem_cons.mpr ⟨cw_X10_faultOf, List.forall_mem_cons.mpr ⟨cw_X10_fault, List.forall_mem_cons.mpr ⟨cw_X10_winner, List.forall_mem_cons.mpr ⟨cw_X10_nobodyWrote, List.forall_mem_cons.mpr ⟨cw_X10_wins, List.forall_mem_cons.mpr ⟨cw_X10_weight, List.forall_mem_cons.mpr ⟨cw_X10_allWeights, List.forall_mem_cons.mpr ⟨cw_X10_fool, List.forall_mem_cons.mpr ⟨cw_X10_asWeights, List.forall_mem_cons.mpr ⟨cw_X10_power, List.forall_mem_cons.mpr ⟨cw_X10_choose, List.forall_mem_cons.mpr ⟨cw_X10_beginFill, List.forall_mem_cons.mpr ⟨cw_X10_nextFill, List.forall_mem_cons.mpr ⟨cw_X10_waysOfFill, List.forall_mem_cons.mpr ⟨cw_X10_both, List.forall_mem_cons.mpr ⟨cw_X10_waysToWin, List.forall_mem_cons.mpr ⟨cw_X10_sumOfWeights, List.forall_mem_cons.mpr ⟨cw_X10_lowOf, List.forall_mem_cons.mpr ⟨cw_X10_layOthers, List.forall_mem_cons.mpr ⟨cw_X10_worthOf, List.forall_mem_cons.mpr ⟨cw_X10_term, List.forall_mem_cons.mpr ⟨cw_X10_worth, List.forall_mem_cons.mpr ⟨cw_X10_bestOf, List.forall_mem_cons.mpr ⟨cw_X10_best, List.forall_mem_cons.mpr ⟨cw_X10_meanOf, List.forall_mem_cons.mpr ⟨cw_X10_gapOf, List.forall_mem_cons.mpr ⟨cw_X10_mean, List.forall_mem_cons.mpr ⟨cw_X10_waysOfNobody, List.forall_mem_cons.mpr ⟨cw_X10_nobody, List.forall_mem_cons.mpr ⟨cw_X10_layRest, List.forall_mem_cons.mpr ⟨cw_X10_nextWeights, List.forall_mem_cons.mpr ⟨cw_X10_rest, List.forall_mem_cons.mpr ⟨cw_X10_gap, List.forall_mem_cons.mpr ⟨cw_X10_waysOfSet, List.forall_mem_cons.mpr ⟨cw_X10_layAgreed, List.forall_mem_cons.mpr ⟨cw_X10_layLeague, List.forall_mem_cons.mpr ⟨cw_X10_isSet, List.forall_mem_cons.mpr ⟨cw_X10_friends, List.forall_mem_cons.mpr ⟨cw_X10_league, List.forall_mem_cons.mpr ⟨cw_X10_layTold, List.forall_mem_cons.mpr ⟨cw_X10_spy, List.forall_mem_cons.mpr ⟨cw_X10_spied, List.forall_mem_cons.mpr ⟨cw_X10_steps, List.forall_mem_cons.mpr ⟨cw_X10_hasOf, List.forall_mem_cons.mpr ⟨cw_X10_lateEvening, List.forall_mem_cons.mpr ⟨cw_X10_layWrote, List.forall_mem_cons.mpr ⟨cw_X10_late, List.forall_mem_cons.mpr ⟨cw_X10_prize, List.forall_mem_cons.mpr ⟨cw_X10_seen, List.forall_mem_cons.mpr ⟨cw_X10_forget, List.forall_mem_cons.mpr ⟨cw_X10_isSeen, List.forall_mem_cons.mpr ⟨cw_X10_codes, List.forall_mem_cons.mpr ⟨cw_X10_fits, List.forall_mem_cons.mpr ⟨cw_X10_could, List.forall_mem_cons.mpr ⟨cw_X10_year, List.forall_mem_cons.mpr ⟨cw_X10_image, List.forall_mem_cons.mpr ⟨cw_X10_restore, List.forall_mem_cons.mpr ⟨cw_X10_told, List.forall_mem_cons.mpr ⟨cw_J6_bitCount_0f7a4, fun _ h => absurd h List.not_mem_nil⟩⟩⟩⟩⟩⟩⟩⟩⟩⟩⟩⟩⟩⟩⟩⟩⟩⟩⟩⟩⟩⟩⟩⟩⟩⟩⟩⟩⟩⟩⟩⟩⟩⟩⟩⟩⟩⟩⟩⟩⟩⟩⟩⟩⟩⟩⟩⟩⟩⟩⟩⟩⟩⟩⟩⟩⟩⟩⟩⟩⟩⟩⟩⟩⟩⟩⟩⟩⟩⟩⟩⟩⟩⟩⟩⟩⟩⟩⟩⟩⟩⟩⟩⟩⟩⟩⟩⟩⟩⟩⟩⟩⟩⟩⟩⟩⟩⟩⟩⟩⟩⟩⟩⟩⟩⟩⟩⟩⟩⟩⟩⟩⟩⟩⟩⟩⟩⟩⟩⟩⟩⟩⟩⟩⟩⟩⟩⟩⟩⟩⟩⟩⟩⟩⟩⟩⟩⟩⟩⟩⟩⟩⟩⟩⟩⟩⟩⟩⟩⟩⟩⟩⟩⟩⟩⟩⟩⟩⟩⟩⟩⟩⟩⟩⟩⟩⟩
theorem ok_code {f : Nat} {q : rP} (h : pgm[f]? = some q) : Cond.code q.1 q.2.1 q.2.2.1 q.2.2.2.1 ∈ rBig := ok_codes q (List.mem_of_getElem? h)
theorem ok_met {f : Nat} {q : rP} (h : pgm[f]? = some q) : rmetB q = true := ok_pgm q (List.mem_of_getElem? h)
def rClP : List (List Nat) := [[287, 289], [232, 234, 236, 238, 240, 242], [142, 144], [309, 311, 313, 315, 317, 319, 321], [190, 192, 194, 196, 198], [264, 266, 268, 270, 272, 274], [111, 113, 115, 117, 119, 121, 123, 125, 127], [208, 209, 210, 211, 212], [336, 338, 340, 342, 344, 346, 348, 350, 352, 354, 356, 358], [805, 807, 809, 811, 813, 815, 817, 819, 821, 823, 825, 827, 829, 831, 833, 835, 837, 839, 841, 843, 845, 847, 849, 851]]
theorem rCl_okB : (rCl.zip rClP).all (fun q => decide (q.2.length = q.1.2.2) && (q.2.zipIdx).all (fun r => rwordB r.1 (u_lay q.1.1 q.1.2.1 r.2))) = true := by decide +kernel
theorem rCl_in {ci : Nat} {q : vw_C} (h : rCl[ci]? = some q) : ∀ w ∈ u_ws q.1 q.2.1 q.2.2, w ∈ rBig := by
  intro w hw
  obtain ⟨k, hk, rfl⟩ := List.mem_map.mp hw
  have hk := List.mem_range.mp hk
  have hl : ci < rClP.length := by
    have h1 : ci < rCl.length := (List.getElem?_eq_some_iff.mp h).1
    exact h1
  have hz : (rCl.zip rClP)[ci]? = some (q, rClP[ci]) := by
    rw [List.getElem?_zip_eq_some]
    exact ⟨h, List.getElem?_eq_getElem hl⟩
  have h2 := List.all_eq_true.mp rCl_okB _ (List.mem_of_getElem? hz)
  simp only [Bool.and_eq_true, decide_eq_true_eq] at h2
  have hk2 : k < (rClP[ci]).length := by rw [h2.1]; exact hk
  have hz2 : (rClP[ci]).zipIdx[k]? = some ((rClP[ci])[k], k) := by
    rw [List.getElem?_zipIdx, List.getElem?_eq_getElem hk2]
    simp
  exact rwordB_mem (List.all_eq_true.mp h2.2 _ (List.mem_of_getElem? hz2))
