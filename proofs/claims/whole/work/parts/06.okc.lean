theorem ok_X10_init : rmetB (yX10_init, cX10_init, 1, none, tb_X10_init) = true := by decide +kernel
theorem ok_X10_plain : rmetB (yX10_plain, cX10_plain, 2, none, tb_X10_plain) = true := by decide +kernel
theorem ok_X10_in : rmetB (yX10_in, cX10_in, 3, (some .boolean), tb_X10_in) = true := by decide +kernel
theorem ok_X10_has : rmetB (yX10_has, cX10_has, 2, (some .boolean), tb_X10_has) = true := by decide +kernel
theorem ok_X10_isMan : rmetB (yX10_isMan, cX10_isMan, 2, (some .boolean), tb_X10_isMan) = true := by decide +kernel
theorem ok_X10_isNumber : rmetB (yX10_isNumber, cX10_isNumber, 2, (some .boolean), tb_X10_isNumber) = true := by decide +kernel
theorem ok_X10_inn : rmetB (yX10_inn, cX10_inn, 4, (some .int), tb_X10_inn) = true := by decide +kernel
theorem ok_X10_rule : rmetB (yX10_rule, cX10_rule, 3, (some .int), tb_X10_rule) = true := by decide +kernel
theorem ok_X10_say : rmetB (yX10_say, cX10_say, 2, (some .int), tb_X10_say) = true := by decide +kernel
theorem ok_X10_wipe : rmetB (yX10_wipe, cX10_wipe, 2, (some .int), tb_X10_wipe) = true := by decide +kernel
theorem ok_X10_faultOf : rmetB (yX10_faultOf, cX10_faultOf, 2, (some .int), tb_X10_faultOf) = true := by decide +kernel
theorem ok_X10_fault : rmetB (yX10_fault, cX10_fault, 1, (some .int), tb_X10_fault) = true := by decide +kernel
theorem ok_X10_winner : rmetB (yX10_winner, cX10_winner, 7, (some .int), tb_X10_winner) = true := by decide +kernel
theorem ok_X10_nobodyWrote : rmetB (yX10_nobodyWrote, cX10_nobodyWrote, 2, none, tb_X10_nobodyWrote) = true := by decide +kernel
theorem ok_X10_wins : rmetB (yX10_wins, cX10_wins, 5, (some .int), tb_X10_wins) = true := by decide +kernel
theorem ok_X10_weight : rmetB (yX10_weight, cX10_weight, 4, (some .int), tb_X10_weight) = true := by decide +kernel
theorem ok_X10_allWeights : rmetB (yX10_allWeights, cX10_allWeights, 3, (some .int), tb_X10_allWeights) = true := by decide +kernel
theorem ok_X10_fool : rmetB (yX10_fool, cX10_fool, 4, (some .int), tb_X10_fool) = true := by decide +kernel
theorem ok_X10_asWeights : rmetB (yX10_asWeights, cX10_asWeights, 2, none, tb_X10_asWeights) = true := by decide +kernel
theorem ok_X10_power : rmetB (yX10_power, cX10_power, 6, (some .long), tb_X10_power) = true := by decide +kernel
theorem ok_X10_choose : rmetB (yX10_choose, cX10_choose, 4, (some .int), tb_X10_choose) = true := by decide +kernel
theorem ok_X10_beginFill : rmetB (yX10_beginFill, cX10_beginFill, 2, none, tb_X10_beginFill) = true := by decide +kernel
theorem ok_X10_nextFill : rmetB (yX10_nextFill, cX10_nextFill, 3, (some .boolean), tb_X10_nextFill) = true := by decide +kernel
theorem ok_X10_waysOfFill : rmetB (yX10_waysOfFill, cX10_waysOfFill, 5, (some .long), tb_X10_waysOfFill) = true := by decide +kernel
theorem ok_X10_both : rmetB (yX10_both, cX10_both, 2, none, tb_X10_both) = true := by decide +kernel
theorem ok_X10_waysToWin : rmetB (yX10_waysToWin, cX10_waysToWin, 5, (some .long), tb_X10_waysToWin) = true := by decide +kernel
theorem ok_X10_sumOfWeights : rmetB (yX10_sumOfWeights, cX10_sumOfWeights, 3, (some .int), tb_X10_sumOfWeights) = true := by decide +kernel
theorem ok_X10_lowOf : rmetB (yX10_lowOf, cX10_lowOf, 1, (some .long), tb_X10_lowOf) = true := by decide +kernel
theorem ok_X10_layOthers : rmetB (yX10_layOthers, cX10_layOthers, 3, none, tb_X10_layOthers) = true := by decide +kernel
theorem ok_X10_worthOf : rmetB (yX10_worthOf, cX10_worthOf, 4, (some .long), tb_X10_worthOf) = true := by decide +kernel
theorem ok_X10_term : rmetB (yX10_term, cX10_term, 11, (some .long), tb_X10_term) = true := by decide +kernel
theorem ok_X10_worth : rmetB (yX10_worth, cX10_worth, 4, (some .long), tb_X10_worth) = true := by decide +kernel
theorem ok_X10_bestOf : rmetB (yX10_bestOf, cX10_bestOf, 7, (some .int), tb_X10_bestOf) = true := by decide +kernel
theorem ok_X10_best : rmetB (yX10_best, cX10_best, 2, (some .int), tb_X10_best) = true := by decide +kernel
theorem ok_X10_meanOf : rmetB (yX10_meanOf, cX10_meanOf, 4, (some .long), tb_X10_meanOf) = true := by decide +kernel
theorem ok_X10_gapOf : rmetB (yX10_gapOf, cX10_gapOf, 1, (some .long), tb_X10_gapOf) = true := by decide +kernel
theorem ok_X10_mean : rmetB (yX10_mean, cX10_mean, 4, (some .long), tb_X10_mean) = true := by decide +kernel
theorem ok_X10_waysOfNobody : rmetB (yX10_waysOfNobody, cX10_waysOfNobody, 4, (some .long), tb_X10_waysOfNobody) = true := by decide +kernel
theorem ok_X10_nobody : rmetB (yX10_nobody, cX10_nobody, 4, (some .long), tb_X10_nobody) = true := by decide +kernel
theorem ok_X10_layRest : rmetB (yX10_layRest, cX10_layRest, 6, none, tb_X10_layRest) = true := by decide +kernel
theorem ok_X10_nextWeights : rmetB (yX10_nextWeights, cX10_nextWeights, 3, (some .boolean), tb_X10_nextWeights) = true := by decide +kernel
theorem ok_X10_rest : rmetB (yX10_rest, cX10_rest, 3, (some .int), tb_X10_rest) = true := by decide +kernel
theorem ok_X10_gap : rmetB (yX10_gap, cX10_gap, 3, (some .long), tb_X10_gap) = true := by decide +kernel
theorem ok_X10_waysOfSet : rmetB (yX10_waysOfSet, cX10_waysOfSet, 8, (some .long), tb_X10_waysOfSet) = true := by decide +kernel
theorem ok_X10_layAgreed : rmetB (yX10_layAgreed, cX10_layAgreed, 5, (some .boolean), tb_X10_layAgreed) = true := by decide +kernel
