theorem ok_P_size : ab_okV y_P_size 0 := ⟨wd_164, wd_40, ⟨by decide +kernel, by decide +kernel⟩, by decide +kernel, wd_162, wd_163⟩
theorem ok_H_isAnimal : ab_okV y_H_isAnimal 1 := ⟨wd_274, wd_39, ⟨by decide +kernel, by decide +kernel⟩, by decide +kernel, wd_273, wd_4⟩
theorem ok_H_requireAnimal : ab_okV y_H_requireAnimal 1 := ⟨wd_270, wd_39, ⟨by decide +kernel, by decide +kernel⟩, by decide +kernel, wd_269, wd_3⟩
theorem ok_H_requireAnimalOrNone : ab_okV y_H_requireAnimalOrNone 1 := ⟨wd_266, wd_39, ⟨by decide +kernel, by decide +kernel⟩, by decide +kernel, wd_265, wd_2⟩
theorem ok_H_isFitParent : ab_okV y_H_isFitParent 3 := ⟨wd_298, wd_39, ⟨by decide +kernel, by decide +kernel⟩, by decide +kernel, wd_297, wd_6⟩
theorem ok_H_requireFitParents : ab_okV y_H_requireFitParents 3 := ⟨wd_294, wd_39, ⟨by decide +kernel, by decide +kernel⟩, by decide +kernel, wd_293, wd_5⟩
theorem ok_P_isFounder : ab_okV y_P_isFounder 1 := ⟨wd_342, wd_40, ⟨by decide +kernel, by decide +kernel⟩, by decide +kernel, wd_340, wd_341⟩
theorem ok_P_depthOrZero : ab_okV y_P_depthOrZero 1 := ⟨wd_346, wd_40, ⟨by decide +kernel, by decide +kernel⟩, by decide +kernel, wd_345, wd_8⟩
theorem ok_P_withForebears : ab_okV y_P_withForebears 1 := ⟨wd_353, wd_40, ⟨by decide +kernel, by decide +kernel⟩, by decide +kernel, wd_352, wd_9⟩
theorem ok_P_kinOf : ab_okV y_P_kinOf 2 := ⟨wd_176, wd_40, ⟨by decide +kernel, by decide +kernel⟩, by decide +kernel, wd_174, wd_175⟩
theorem ok_P_renew : ab_okV y_P_renew 1 := ⟨wd_338, wd_40, ⟨by decide +kernel, by decide +kernel⟩, by decide +kernel, wd_337, wd_7⟩
theorem ok_P_append : ab_okV y_P_append 2 := ⟨wd_334, wd_40, ⟨by decide +kernel, by decide +kernel⟩, by decide +kernel, wd_332, wd_333⟩
theorem ok_H_enter : ab_okV y_H_enter 4 := ⟨wd_192, wd_39, ⟨by decide +kernel, by decide +kernel⟩, by decide +kernel, wd_190, wd_191⟩
theorem ok_P_replaceParents : ab_okV y_P_replaceParents 3 := ⟨wd_368, wd_40, ⟨by decide +kernel, by decide +kernel⟩, by decide +kernel, wd_366, wd_367⟩
theorem ok_H_correct : ab_okV y_H_correct 3 := ⟨wd_363, wd_39, ⟨by decide +kernel, by decide +kernel⟩, by decide +kernel, wd_361, wd_362⟩
theorem ok_H_countLiving : ab_okV y_H_countLiving 0 := ⟨wd_380, wd_39, ⟨by decide +kernel, by decide +kernel⟩, by decide +kernel, wd_379, wd_10⟩
theorem ok_H_cull : ab_okV y_H_cull 1 := ⟨wd_375, wd_39, ⟨by decide +kernel, by decide +kernel⟩, by decide +kernel, wd_373, wd_374⟩
theorem ok_P_sireOf : ab_okV y_P_sireOf 1 := ⟨wd_392, wd_40, ⟨by decide +kernel, by decide +kernel⟩, by decide +kernel, wd_390, wd_391⟩
theorem ok_P_damOf : ab_okV y_P_damOf 1 := ⟨wd_396, wd_40, ⟨by decide +kernel, by decide +kernel⟩, by decide +kernel, wd_394, wd_395⟩
theorem ok_P_depthOf : ab_okV y_P_depthOf 1 := ⟨wd_400, wd_40, ⟨by decide +kernel, by decide +kernel⟩, by decide +kernel, wd_398, wd_399⟩
theorem ok_H_of : ab_okV y_H_of 2 := ⟨wd_388, wd_39, ⟨by decide +kernel, by decide +kernel⟩, by decide +kernel, wd_386, wd_387⟩
theorem ok_H_animals : ab_okV y_H_animals 0 := ⟨wd_160, wd_39, ⟨by decide +kernel, by decide +kernel⟩, by decide +kernel, wd_158, wd_159⟩
theorem ok_H_kinship : ab_okV y_H_kinship 2 := ⟨wd_423, wd_39, ⟨by decide +kernel, by decide +kernel⟩, by decide +kernel, wd_421, wd_422⟩
theorem ok_P_inbreedingOf : ab_okV y_P_inbreedingOf 1 := ⟨wd_434, wd_40, ⟨by decide +kernel, by decide +kernel⟩, by decide +kernel, wd_432, wd_433⟩
theorem ok_H_inbreeding : ab_okV y_H_inbreeding 1 := ⟨wd_430, wd_39, ⟨by decide +kernel, by decide +kernel⟩, by decide +kernel, wd_428, wd_429⟩
theorem ok_H_calf : ab_okV y_H_calf 2 := ⟨wd_441, wd_39, ⟨by decide +kernel, by decide +kernel⟩, by decide +kernel, wd_439, wd_440⟩
theorem ok_H_requireFounder : ab_okV y_H_requireFounder 1 := ⟨wd_452, wd_39, ⟨by decide +kernel, by decide +kernel⟩, by decide +kernel, wd_451, wd_11⟩
theorem ok_P_shareUpTo : ab_okV y_P_shareUpTo 2 := ⟨wd_462, wd_40, ⟨by decide +kernel, by decide +kernel⟩, by decide +kernel, wd_461, wd_12⟩
theorem ok_P_shareOf : ab_okV y_P_shareOf 2 := ⟨wd_458, wd_40, ⟨by decide +kernel, by decide +kernel⟩, by decide +kernel, wd_456, wd_457⟩
theorem ok_H_share : ab_okV y_H_share 2 := ⟨wd_448, wd_39, ⟨by decide +kernel, by decide +kernel⟩, by decide +kernel, wd_446, wd_447⟩
theorem ok_P_unknownIn : ab_okV y_P_unknownIn 1 := ⟨wd_473, wd_40, ⟨by decide +kernel, by decide +kernel⟩, by decide +kernel, wd_471, wd_472⟩
theorem ok_H_unknown : ab_okV y_H_unknown 1 := ⟨wd_469, wd_39, ⟨by decide +kernel, by decide +kernel⟩, by decide +kernel, wd_467, wd_468⟩
theorem ok_H_inHerd : ab_okV y_H_inHerd 1 := ⟨wd_481, wd_39, ⟨by decide +kernel, by decide +kernel⟩, by decide +kernel, wd_479, wd_480⟩
theorem ok_H_kinWithLivingUpTo : ab_okV y_H_kinWithLivingUpTo 1 := ⟨wd_172, wd_39, ⟨by decide +kernel, by decide +kernel⟩, by decide +kernel, wd_171, wd_0⟩
theorem ok_H_herd : ab_okV y_H_herd 0 := ⟨wd_168, wd_39, ⟨by decide +kernel, by decide +kernel⟩, by decide +kernel, wd_166, wd_167⟩
theorem ok_P_forebearsOf : ab_okV y_P_forebearsOf 1 := ⟨wd_492, wd_40, ⟨by decide +kernel, by decide +kernel⟩, by decide +kernel, wd_490, wd_491⟩
theorem ok_H_ancestors : ab_okV y_H_ancestors 1 := ⟨wd_488, wd_39, ⟨by decide +kernel, by decide +kernel⟩, by decide +kernel, wd_486, wd_487⟩
theorem ok_P_progenyOf : ab_okV y_P_progenyOf 1 := ⟨wd_503, wd_40, ⟨by decide +kernel, by decide +kernel⟩, by decide +kernel, wd_501, wd_502⟩
theorem ok_H_descendants : ab_okV y_H_descendants 1 := ⟨wd_499, wd_39, ⟨by decide +kernel, by decide +kernel⟩, by decide +kernel, wd_497, wd_498⟩
theorem ok_P_linesUpTo : ab_okV y_P_linesUpTo 2 := ⟨wd_518, wd_40, ⟨by decide +kernel, by decide +kernel⟩, by decide +kernel, wd_517, wd_13⟩
theorem ok_P_linesDown : ab_okV y_P_linesDown 2 := ⟨wd_514, wd_40, ⟨by decide +kernel, by decide +kernel⟩, by decide +kernel, wd_512, wd_513⟩
theorem ok_H_lines : ab_okV y_H_lines 2 := ⟨wd_510, wd_39, ⟨by decide +kernel, by decide +kernel⟩, by decide +kernel, wd_508, wd_509⟩
theorem ok_P_nearestCommon : ab_okV y_P_nearestCommon 2 := ⟨wd_529, wd_40, ⟨by decide +kernel, by decide +kernel⟩, by decide +kernel, wd_527, wd_528⟩
theorem ok_H_nearest : ab_okV y_H_nearest 2 := ⟨wd_525, wd_39, ⟨by decide +kernel, by decide +kernel⟩, by decide +kernel, wd_523, wd_524⟩
theorem ok_H_closest : ab_okV y_H_closest 1 := ⟨wd_536, wd_39, ⟨by decide +kernel, by decide +kernel⟩, by decide +kernel, wd_534, wd_535⟩
theorem ok_H_isLiving : ab_okV y_H_isLiving 2 := ⟨wd_547, wd_39, ⟨by decide +kernel, by decide +kernel⟩, by decide +kernel, wd_546, wd_14⟩
theorem ok_H_bestBull : ab_okV y_H_bestBull 1 := ⟨wd_543, wd_39, ⟨by decide +kernel, by decide +kernel⟩, by decide +kernel, wd_541, wd_542⟩
theorem ok_J_bitCount : ab_okS y_J_bitCount 1 := ⟨wd_557, wd_53, ⟨by decide +kernel, by decide +kernel⟩, by decide +kernel, wd_556⟩
theorem ok_H_requireLivingFemales : ab_okV y_H_requireLivingFemales 1 := ⟨wd_566, wd_39, ⟨by decide +kernel, by decide +kernel⟩, by decide +kernel, wd_565, wd_15⟩
theorem ok_B_begin : ab_okV y_B_begin 3 := ⟨wd_571, wd_41, ⟨by decide +kernel, by decide +kernel⟩, by decide +kernel, wd_569, wd_570⟩
theorem ok_B_allCows : ab_okV y_B_allCows 0 := ⟨wd_587, wd_41, ⟨by decide +kernel, by decide +kernel⟩, by decide +kernel, wd_586, wd_17⟩
theorem ok_B_sumOfKin : ab_okV y_B_sumOfKin 3 := ⟨wd_592, wd_41, ⟨by decide +kernel, by decide +kernel⟩, by decide +kernel, wd_591, wd_18⟩
theorem ok_B_shiftOf : ab_okS y_B_shiftOf 1 := ⟨wd_600, wd_41, ⟨by decide +kernel, by decide +kernel⟩, by decide +kernel, wd_599⟩
theorem ok_B_codeOf : ab_okV y_B_codeOf 2 := ⟨wd_597, wd_41, ⟨by decide +kernel, by decide +kernel⟩, by decide +kernel, wd_596, wd_19⟩
theorem ok_B_weighServices : ab_okV y_B_weighServices 2 := ⟨wd_583, wd_41, ⟨by decide +kernel, by decide +kernel⟩, by decide +kernel, wd_582, wd_16⟩
theorem ok_B_keepBetter : ab_okV y_B_keepBetter 3 := ⟨wd_608, wd_41, ⟨by decide +kernel, by decide +kernel⟩, by decide +kernel, wd_607, wd_21⟩
theorem ok_B_improve : ab_okV y_B_improve 1 := ⟨wd_604, wd_41, ⟨by decide +kernel, by decide +kernel⟩, by decide +kernel, wd_603, wd_20⟩
theorem ok_B_offer : ab_okV y_B_offer 2 := ⟨wd_579, wd_41, ⟨by decide +kernel, by decide +kernel⟩, by decide +kernel, wd_577, wd_578⟩
theorem ok_B_leastSum : ab_okV y_B_leastSum 0 := ⟨wd_616, wd_41, ⟨by decide +kernel, by decide +kernel⟩, by decide +kernel, wd_614, wd_615⟩
theorem ok_B_writeBulls : ab_okV y_B_writeBulls 1 := ⟨wd_620, wd_41, ⟨by decide +kernel, by decide +kernel⟩, by decide +kernel, wd_618, wd_619⟩
theorem ok_H_keepList : ab_okV y_H_keepList 0 := ⟨wd_612, wd_39, ⟨by decide +kernel, by decide +kernel⟩, by decide +kernel, wd_611, wd_22⟩
theorem ok_H_plan : ab_okV y_H_plan 3 := ⟨wd_554, wd_39, ⟨by decide +kernel, by decide +kernel⟩, by decide +kernel, wd_552, wd_553⟩
theorem ok_H_bull : ab_okV y_H_bull 1 := ⟨wd_627, wd_39, ⟨by decide +kernel, by decide +kernel⟩, by decide +kernel, wd_625, wd_626⟩
theorem ok_H_planned : ab_okV y_H_planned 0 := ⟨wd_180, wd_39, ⟨by decide +kernel, by decide +kernel⟩, by decide +kernel, wd_178, wd_179⟩
theorem ok_M_thrown : ab_okV y_M_thrown 0 := ⟨wd_695, wd_43, ⟨by decide +kernel, by decide +kernel⟩, by decide +kernel, wd_693, wd_694⟩
theorem ok_M_refused : ab_okV y_M_refused 4 := ⟨wd_715, wd_43, ⟨by decide +kernel, by decide +kernel⟩, by decide +kernel, wd_714, wd_26⟩
theorem ok_M_is : ab_okV y_M_is 1 := ⟨wd_707, wd_43, ⟨by decide +kernel, by decide +kernel⟩, by decide +kernel, wd_706, wd_24⟩
theorem ok_M_isParent : ab_okV y_M_isParent 1 := ⟨wd_703, wd_43, ⟨by decide +kernel, by decide +kernel⟩, by decide +kernel, wd_702, wd_23⟩
theorem ok_M_fits : ab_okV y_M_fits 4 := ⟨wd_711, wd_43, ⟨by decide +kernel, by decide +kernel⟩, by decide +kernel, wd_710, wd_25⟩
theorem ok_M_kinOf : ab_okV y_M_kinOf 2 := ⟨wd_723, wd_43, ⟨by decide +kernel, by decide +kernel⟩, by decide +kernel, wd_722, wd_28⟩
theorem ok_M_fill : ab_okV y_M_fill 0 := ⟨wd_719, wd_43, ⟨by decide +kernel, by decide +kernel⟩, by decide +kernel, wd_718, wd_27⟩
theorem ok_M_enter : ab_okV y_M_enter 4 := ⟨wd_699, wd_43, ⟨by decide +kernel, by decide +kernel⟩, by decide +kernel, wd_697, wd_698⟩
theorem ok_M_correct : ab_okV y_M_correct 3 := ⟨wd_729, wd_43, ⟨by decide +kernel, by decide +kernel⟩, by decide +kernel, wd_727, wd_728⟩
theorem ok_M_cull : ab_okV y_M_cull 1 := ⟨wd_733, wd_43, ⟨by decide +kernel, by decide +kernel⟩, by decide +kernel, wd_731, wd_732⟩
theorem ok_M_depthOf : ab_okV y_M_depthOf 1 := ⟨wd_741, wd_43, ⟨by decide +kernel, by decide +kernel⟩, by decide +kernel, wd_740, wd_29⟩
theorem ok_M_of : ab_okV y_M_of 2 := ⟨wd_737, wd_43, ⟨by decide +kernel, by decide +kernel⟩, by decide +kernel, wd_735, wd_736⟩
theorem ok_M_animals : ab_okV y_M_animals 0 := ⟨wd_745, wd_43, ⟨by decide +kernel, by decide +kernel⟩, by decide +kernel, wd_743, wd_744⟩
theorem ok_M_kinship : ab_okV y_M_kinship 2 := ⟨wd_749, wd_43, ⟨by decide +kernel, by decide +kernel⟩, by decide +kernel, wd_747, wd_748⟩
theorem ok_M_inbreeding : ab_okV y_M_inbreeding 1 := ⟨wd_753, wd_43, ⟨by decide +kernel, by decide +kernel⟩, by decide +kernel, wd_751, wd_752⟩
theorem ok_M_calf : ab_okV y_M_calf 2 := ⟨wd_757, wd_43, ⟨by decide +kernel, by decide +kernel⟩, by decide +kernel, wd_755, wd_756⟩
theorem ok_M_isFounder : ab_okV y_M_isFounder 1 := ⟨wd_765, wd_43, ⟨by decide +kernel, by decide +kernel⟩, by decide +kernel, wd_764, wd_30⟩
theorem ok_M_fillShares : ab_okV y_M_fillShares 1 := ⟨wd_769, wd_43, ⟨by decide +kernel, by decide +kernel⟩, by decide +kernel, wd_768, wd_31⟩
theorem ok_M_share : ab_okV y_M_share 2 := ⟨wd_761, wd_43, ⟨by decide +kernel, by decide +kernel⟩, by decide +kernel, wd_759, wd_760⟩
theorem ok_M_unknown : ab_okV y_M_unknown 1 := ⟨wd_773, wd_43, ⟨by decide +kernel, by decide +kernel⟩, by decide +kernel, wd_771, wd_772⟩
theorem ok_M_inHerd : ab_okV y_M_inHerd 1 := ⟨wd_777, wd_43, ⟨by decide +kernel, by decide +kernel⟩, by decide +kernel, wd_775, wd_776⟩
theorem ok_M_herd : ab_okV y_M_herd 0 := ⟨wd_781, wd_43, ⟨by decide +kernel, by decide +kernel⟩, by decide +kernel, wd_779, wd_780⟩
theorem ok_M_linesOf : ab_okV y_M_linesOf 2 := ⟨wd_793, wd_43, ⟨by decide +kernel, by decide +kernel⟩, by decide +kernel, wd_792, wd_33⟩
theorem ok_M_ancestorsOf : ab_okV y_M_ancestorsOf 1 := ⟨wd_789, wd_43, ⟨by decide +kernel, by decide +kernel⟩, by decide +kernel, wd_788, wd_32⟩
theorem ok_M_ancestors : ab_okV y_M_ancestors 1 := ⟨wd_785, wd_43, ⟨by decide +kernel, by decide +kernel⟩, by decide +kernel, wd_783, wd_784⟩
theorem ok_M_descendants : ab_okV y_M_descendants 1 := ⟨wd_797, wd_43, ⟨by decide +kernel, by decide +kernel⟩, by decide +kernel, wd_795, wd_796⟩
theorem ok_M_lines : ab_okV y_M_lines 2 := ⟨wd_801, wd_43, ⟨by decide +kernel, by decide +kernel⟩, by decide +kernel, wd_799, wd_800⟩
theorem ok_M_nearest : ab_okV y_M_nearest 2 := ⟨wd_805, wd_43, ⟨by decide +kernel, by decide +kernel⟩, by decide +kernel, wd_803, wd_804⟩
theorem ok_M_closest : ab_okV y_M_closest 1 := ⟨wd_809, wd_43, ⟨by decide +kernel, by decide +kernel⟩, by decide +kernel, wd_807, wd_808⟩
theorem ok_M_isBull : ab_okV y_M_isBull 1 := ⟨wd_817, wd_43, ⟨by decide +kernel, by decide +kernel⟩, by decide +kernel, wd_816, wd_34⟩
theorem ok_M_bestBull : ab_okV y_M_bestBull 1 := ⟨wd_813, wd_43, ⟨by decide +kernel, by decide +kernel⟩, by decide +kernel, wd_811, wd_812⟩
theorem ok_M_bitsOf : ab_okS y_M_bitsOf 1 := ⟨wd_824, wd_43, ⟨by decide +kernel, by decide +kernel⟩, by decide +kernel, wd_823⟩
theorem ok_M_nextBull : ab_okV y_M_nextBull 4 := ⟨wd_833, wd_43, ⟨by decide +kernel, by decide +kernel⟩, by decide +kernel, wd_832, wd_36⟩
theorem ok_M_leastFrom : ab_okV y_M_leastFrom 2 := ⟨wd_837, wd_43, ⟨by decide +kernel, by decide +kernel⟩, by decide +kernel, wd_836, wd_37⟩
theorem ok_M_findBest : ab_okV y_M_findBest 2 := ⟨wd_828, wd_43, ⟨by decide +kernel, by decide +kernel⟩, by decide +kernel, wd_827, wd_35⟩
theorem ok_M_plan : ab_okV y_M_plan 3 := ⟨wd_821, wd_43, ⟨by decide +kernel, by decide +kernel⟩, by decide +kernel, wd_819, wd_820⟩
theorem ok_M_bull : ab_okV y_M_bull 1 := ⟨wd_841, wd_43, ⟨by decide +kernel, by decide +kernel⟩, by decide +kernel, wd_839, wd_840⟩
theorem ok_M_planned : ab_okV y_M_planned 0 := ⟨wd_845, wd_43, ⟨by decide +kernel, by decide +kernel⟩, by decide +kernel, wd_843, wd_844⟩
theorem ok_L_enter : ab_okS y_L_enter 6 := ⟨wd_184, wd_38, ⟨by decide +kernel, by decide +kernel⟩, by decide +kernel, wd_183⟩
theorem ok_L_correct : ab_okS y_L_correct 5 := ⟨wd_359, wd_38, ⟨by decide +kernel, by decide +kernel⟩, by decide +kernel, wd_358⟩
theorem ok_L_cull : ab_okS y_L_cull 3 := ⟨wd_371, wd_38, ⟨by decide +kernel, by decide +kernel⟩, by decide +kernel, wd_370⟩
theorem ok_L_of : ab_okS y_L_of 4 := ⟨wd_383, wd_38, ⟨by decide +kernel, by decide +kernel⟩, by decide +kernel, wd_382⟩
theorem ok_L_kinship : ab_okS y_L_kinship 4 := ⟨wd_419, wd_38, ⟨by decide +kernel, by decide +kernel⟩, by decide +kernel, wd_418⟩
theorem ok_L_inbreeding : ab_okS y_L_inbreeding 3 := ⟨wd_426, wd_38, ⟨by decide +kernel, by decide +kernel⟩, by decide +kernel, wd_425⟩
theorem ok_L_calf : ab_okS y_L_calf 4 := ⟨wd_437, wd_38, ⟨by decide +kernel, by decide +kernel⟩, by decide +kernel, wd_436⟩
theorem ok_L_share : ab_okS y_L_share 4 := ⟨wd_444, wd_38, ⟨by decide +kernel, by decide +kernel⟩, by decide +kernel, wd_443⟩
theorem ok_L_unknown : ab_okS y_L_unknown 3 := ⟨wd_465, wd_38, ⟨by decide +kernel, by decide +kernel⟩, by decide +kernel, wd_464⟩
theorem ok_L_inHerd : ab_okS y_L_inHerd 3 := ⟨wd_477, wd_38, ⟨by decide +kernel, by decide +kernel⟩, by decide +kernel, wd_476⟩
theorem ok_L_ancestors : ab_okS y_L_ancestors 3 := ⟨wd_484, wd_38, ⟨by decide +kernel, by decide +kernel⟩, by decide +kernel, wd_483⟩
theorem ok_L_descendants : ab_okS y_L_descendants 3 := ⟨wd_495, wd_38, ⟨by decide +kernel, by decide +kernel⟩, by decide +kernel, wd_494⟩
theorem ok_L_lines : ab_okS y_L_lines 4 := ⟨wd_506, wd_38, ⟨by decide +kernel, by decide +kernel⟩, by decide +kernel, wd_505⟩
theorem ok_L_nearest : ab_okS y_L_nearest 4 := ⟨wd_521, wd_38, ⟨by decide +kernel, by decide +kernel⟩, by decide +kernel, wd_520⟩
theorem ok_L_closest : ab_okS y_L_closest 3 := ⟨wd_532, wd_38, ⟨by decide +kernel, by decide +kernel⟩, by decide +kernel, wd_531⟩
theorem ok_L_bestBull : ab_okS y_L_bestBull 3 := ⟨wd_539, wd_38, ⟨by decide +kernel, by decide +kernel⟩, by decide +kernel, wd_538⟩
theorem ok_L_plan : ab_okS y_L_plan 5 := ⟨wd_550, wd_38, ⟨by decide +kernel, by decide +kernel⟩, by decide +kernel, wd_549⟩
theorem ok_L_bull : ab_okS y_L_bull 3 := ⟨wd_623, wd_38, ⟨by decide +kernel, by decide +kernel⟩, by decide +kernel, wd_622⟩
theorem uw_H : ∀ w ∈ u_ws "HerdKinship" T_H 7, w ∈ ab_G := by
  have h : u_ws "HerdKinship" T_H 7 = [Cond.laysFinal "HerdKinship" "HerdKinship" "pedigree" "LHerdKinship$Pedigree;", Cond.laysFinal "HerdKinship" "HerdKinship" "search" "LHerdKinship$BestList;", Cond.laysFinal "HerdKinship" "HerdKinship" "sexes" "[I", Cond.laysFinal "HerdKinship" "HerdKinship" "years" "[I", Cond.laysFinal "HerdKinship" "HerdKinship" "alive" "[Z", Cond.laysFinal "HerdKinship" "HerdKinship" "listedBulls" "[I", Cond.lays "HerdKinship" "HerdKinship" "hasList" "Z"] := by decide +kernel
  rw [h]
  exact List.forall_mem_cons.mpr ⟨wd_141, List.forall_mem_cons.mpr ⟨wd_143, List.forall_mem_cons.mpr ⟨wd_145, List.forall_mem_cons.mpr ⟨wd_147, List.forall_mem_cons.mpr ⟨wd_149, List.forall_mem_cons.mpr ⟨wd_151, List.forall_mem_cons.mpr ⟨wd_153, fun _ h => absurd h List.not_mem_nil⟩⟩⟩⟩⟩⟩⟩
theorem uw_P : ∀ w ∈ u_ws "HerdKinship$Pedigree" T_P 9, w ∈ ab_G := by
  have h : u_ws "HerdKinship$Pedigree" T_P 9 = [Cond.lays "HerdKinship$Pedigree" "HerdKinship$Pedigree" "size" "I", Cond.laysFinal "HerdKinship$Pedigree" "HerdKinship$Pedigree" "sires" "[I", Cond.laysFinal "HerdKinship$Pedigree" "HerdKinship$Pedigree" "dams" "[I", Cond.laysFinal "HerdKinship$Pedigree" "HerdKinship$Pedigree" "depths" "[I", Cond.laysFinal "HerdKinship$Pedigree" "HerdKinship$Pedigree" "forebears" "[I", Cond.laysFinal "HerdKinship$Pedigree" "HerdKinship$Pedigree" "kin" "[[J", Cond.laysFinal "HerdKinship$Pedigree" "HerdKinship$Pedigree" "inbred" "[J", Cond.laysFinal "HerdKinship$Pedigree" "HerdKinship$Pedigree" "shares" "[J", Cond.laysFinal "HerdKinship$Pedigree" "HerdKinship$Pedigree" "lineCounts" "[I"] := by decide +kernel
  rw [h]
  exact List.forall_mem_cons.mpr ⟨wd_79, List.forall_mem_cons.mpr ⟨wd_81, List.forall_mem_cons.mpr ⟨wd_83, List.forall_mem_cons.mpr ⟨wd_85, List.forall_mem_cons.mpr ⟨wd_87, List.forall_mem_cons.mpr ⟨wd_89, List.forall_mem_cons.mpr ⟨wd_91, List.forall_mem_cons.mpr ⟨wd_93, List.forall_mem_cons.mpr ⟨wd_95, fun _ h => absurd h List.not_mem_nil⟩⟩⟩⟩⟩⟩⟩⟩⟩
theorem uw_B : ∀ w ∈ u_ws "HerdKinship$BestList" T_B 8, w ∈ ab_G := by
  have h : u_ws "HerdKinship$BestList" T_B 8 = [Cond.laysFinal "HerdKinship$BestList" "HerdKinship$BestList" "cows" "[I", Cond.lays "HerdKinship$BestList" "HerdKinship$BestList" "cowCount" "I", Cond.lays "HerdKinship$BestList" "HerdKinship$BestList" "limit" "I", Cond.lays "HerdKinship$BestList" "HerdKinship$BestList" "most" "J", Cond.laysFinal "HerdKinship$BestList" "HerdKinship$BestList" "sums" "[J", Cond.laysFinal "HerdKinship$BestList" "HerdKinship$BestList" "codes" "[I", Cond.laysFinal "HerdKinship$BestList" "HerdKinship$BestList" "servedSums" "[J", Cond.laysFinal "HerdKinship$BestList" "HerdKinship$BestList" "servedCodes" "[I"] := by decide +kernel
  rw [h]
  exact List.forall_mem_cons.mpr ⟨wd_114, List.forall_mem_cons.mpr ⟨wd_116, List.forall_mem_cons.mpr ⟨wd_118, List.forall_mem_cons.mpr ⟨wd_120, List.forall_mem_cons.mpr ⟨wd_122, List.forall_mem_cons.mpr ⟨wd_124, List.forall_mem_cons.mpr ⟨wd_126, List.forall_mem_cons.mpr ⟨wd_128, fun _ h => absurd h List.not_mem_nil⟩⟩⟩⟩⟩⟩⟩⟩
theorem uw_M : ∀ w ∈ u_ws "HerdKinshipModel" T_M 19, w ∈ ab_G := by
  have h : u_ws "HerdKinshipModel" T_M 19 = [Cond.lays "HerdKinshipModel" "HerdKinshipModel" "thrown" "I", Cond.lays "HerdKinshipModel" "HerdKinshipModel" "count" "I", Cond.laysFinal "HerdKinshipModel" "HerdKinshipModel" "sires" "[I", Cond.laysFinal "HerdKinshipModel" "HerdKinshipModel" "dams" "[I", Cond.laysFinal "HerdKinshipModel" "HerdKinshipModel" "sexes" "[I", Cond.laysFinal "HerdKinshipModel" "HerdKinshipModel" "years" "[I", Cond.laysFinal "HerdKinshipModel" "HerdKinshipModel" "dead" "[Z", Cond.laysFinal "HerdKinshipModel" "HerdKinshipModel" "kin" "[J", Cond.laysFinal "HerdKinshipModel" "HerdKinshipModel" "inbred" "[J", Cond.laysFinal "HerdKinshipModel" "HerdKinshipModel" "shares" "[J", Cond.laysFinal "HerdKinshipModel" "HerdKinshipModel" "depths" "[I", Cond.laysFinal "HerdKinshipModel" "HerdKinshipModel" "lineCounts" "[I", Cond.lays "HerdKinshipModel" "HerdKinshipModel" "listed" "Z", Cond.laysFinal "HerdKinshipModel" "HerdKinshipModel" "bulls" "[I", Cond.lays "HerdKinshipModel" "HerdKinshipModel" "cowCount" "I", Cond.laysFinal "HerdKinshipModel" "HerdKinshipModel" "cows" "[I", Cond.laysFinal "HerdKinshipModel" "HerdKinshipModel" "tried" "[I", Cond.laysFinal "HerdKinshipModel" "HerdKinshipModel" "best" "[I", Cond.laysFinal "HerdKinshipModel" "HerdKinshipModel" "used" "[I"] := by decide +kernel
  rw [h]
  exact List.forall_mem_cons.mpr ⟨wd_653, List.forall_mem_cons.mpr ⟨wd_655, List.forall_mem_cons.mpr ⟨wd_657, List.forall_mem_cons.mpr ⟨wd_659, List.forall_mem_cons.mpr ⟨wd_661, List.forall_mem_cons.mpr ⟨wd_663, List.forall_mem_cons.mpr ⟨wd_665, List.forall_mem_cons.mpr ⟨wd_667, List.forall_mem_cons.mpr ⟨wd_669, List.forall_mem_cons.mpr ⟨wd_671, List.forall_mem_cons.mpr ⟨wd_673, List.forall_mem_cons.mpr ⟨wd_675, List.forall_mem_cons.mpr ⟨wd_677, List.forall_mem_cons.mpr ⟨wd_679, List.forall_mem_cons.mpr ⟨wd_681, List.forall_mem_cons.mpr ⟨wd_683, List.forall_mem_cons.mpr ⟨wd_685, List.forall_mem_cons.mpr ⟨wd_687, List.forall_mem_cons.mpr ⟨wd_689, fun _ h => absurd h List.not_mem_nil⟩⟩⟩⟩⟩⟩⟩⟩⟩⟩⟩⟩⟩⟩⟩⟩⟩⟩⟩
theorem fd_0 : ab_fd "HerdKinship$Pedigree" 9 1 0 := ⟨"HerdKinship$Pedigree", T_P, 9, rfl, by decide, uw_P, rfl, wd_70⟩
theorem fd_1 : ab_fd "HerdKinship" 10 0 0 := ⟨"HerdKinship", T_H, 7, rfl, by decide, uw_H, rfl, wd_134⟩
theorem fd_2 : ab_fd "HerdKinship" 23 0 2 := ⟨"HerdKinship", T_H, 7, rfl, by decide, uw_H, rfl, wd_136⟩
theorem fd_3 : ab_fd "HerdKinship" 27 0 3 := ⟨"HerdKinship", T_H, 7, rfl, by decide, uw_H, rfl, wd_137⟩
theorem fd_4 : ab_fd "HerdKinship$Pedigree" 15 1 1 := ⟨"HerdKinship$Pedigree", T_P, 9, rfl, by decide, uw_P, rfl, wd_71⟩
theorem fd_5 : ab_fd "HerdKinship$Pedigree" 19 1 2 := ⟨"HerdKinship$Pedigree", T_P, 9, rfl, by decide, uw_P, rfl, wd_72⟩
theorem fd_6 : ab_fd "HerdKinship$Pedigree" 22 1 3 := ⟨"HerdKinship$Pedigree", T_P, 9, rfl, by decide, uw_P, rfl, wd_73⟩
theorem fd_7 : ab_fd "HerdKinship$Pedigree" 25 1 4 := ⟨"HerdKinship$Pedigree", T_P, 9, rfl, by decide, uw_P, rfl, wd_74⟩
theorem fd_8 : ab_fd "HerdKinship$Pedigree" 30 1 5 := ⟨"HerdKinship$Pedigree", T_P, 9, rfl, by decide, uw_P, rfl, wd_75⟩
theorem fd_9 : ab_fd "HerdKinship$Pedigree" 33 1 6 := ⟨"HerdKinship$Pedigree", T_P, 9, rfl, by decide, uw_P, rfl, wd_76⟩
theorem fd_10 : ab_fd "HerdKinship" 30 0 4 := ⟨"HerdKinship", T_H, 7, rfl, by decide, uw_H, rfl, wd_138⟩
theorem fd_11 : ab_fd "HerdKinship$Pedigree" 37 1 7 := ⟨"HerdKinship$Pedigree", T_P, 9, rfl, by decide, uw_P, rfl, wd_77⟩
theorem fd_12 : ab_fd "HerdKinship$Pedigree" 40 1 8 := ⟨"HerdKinship$Pedigree", T_P, 9, rfl, by decide, uw_P, rfl, wd_78⟩
theorem fd_13 : ab_fd "HerdKinship$BestList" 15 2 1 := ⟨"HerdKinship$BestList", T_B, 8, rfl, by decide, uw_B, rfl, wd_107⟩
theorem fd_14 : ab_fd "HerdKinship$BestList" 11 2 0 := ⟨"HerdKinship$BestList", T_B, 8, rfl, by decide, uw_B, rfl, wd_106⟩
theorem fd_15 : ab_fd "HerdKinship$BestList" 26 2 4 := ⟨"HerdKinship$BestList", T_B, 8, rfl, by decide, uw_B, rfl, wd_110⟩
theorem fd_16 : ab_fd "HerdKinship$BestList" 30 2 5 := ⟨"HerdKinship$BestList", T_B, 8, rfl, by decide, uw_B, rfl, wd_111⟩
theorem fd_17 : ab_fd "HerdKinship$BestList" 22 2 3 := ⟨"HerdKinship$BestList", T_B, 8, rfl, by decide, uw_B, rfl, wd_109⟩
theorem fd_18 : ab_fd "HerdKinship$BestList" 33 2 6 := ⟨"HerdKinship$BestList", T_B, 8, rfl, by decide, uw_B, rfl, wd_112⟩
theorem fd_19 : ab_fd "HerdKinship$BestList" 19 2 2 := ⟨"HerdKinship$BestList", T_B, 8, rfl, by decide, uw_B, rfl, wd_108⟩
theorem fd_20 : ab_fd "HerdKinship$BestList" 36 2 7 := ⟨"HerdKinship$BestList", T_B, 8, rfl, by decide, uw_B, rfl, wd_113⟩
theorem fd_21 : ab_fd "HerdKinship" 34 0 5 := ⟨"HerdKinship", T_H, 7, rfl, by decide, uw_H, rfl, wd_139⟩
theorem fd_22 : ab_fd "HerdKinship" 19 0 1 := ⟨"HerdKinship", T_H, 7, rfl, by decide, uw_H, rfl, wd_135⟩
theorem fd_23 : ab_fd "HerdKinship" 43 0 6 := ⟨"HerdKinship", T_H, 7, rfl, by decide, uw_H, rfl, wd_140⟩
theorem fd_24 : ab_fd "HerdKinshipModel" 57 3 0 := ⟨"HerdKinshipModel", T_M, 19, rfl, by decide, uw_M, rfl, wd_634⟩
theorem fd_25 : ab_fd "HerdKinshipModel" 61 3 1 := ⟨"HerdKinshipModel", T_M, 19, rfl, by decide, uw_M, rfl, wd_635⟩
theorem fd_26 : ab_fd "HerdKinshipModel" 16 3 4 := ⟨"HerdKinshipModel", T_M, 19, rfl, by decide, uw_M, rfl, wd_638⟩
theorem fd_27 : ab_fd "HerdKinshipModel" 19 3 5 := ⟨"HerdKinshipModel", T_M, 19, rfl, by decide, uw_M, rfl, wd_639⟩
theorem fd_28 : ab_fd "HerdKinshipModel" 26 3 7 := ⟨"HerdKinshipModel", T_M, 19, rfl, by decide, uw_M, rfl, wd_641⟩
theorem fd_29 : ab_fd "HerdKinshipModel" 30 3 8 := ⟨"HerdKinshipModel", T_M, 19, rfl, by decide, uw_M, rfl, wd_642⟩
theorem fd_30 : ab_fd "HerdKinshipModel" 7 3 2 := ⟨"HerdKinshipModel", T_M, 19, rfl, by decide, uw_M, rfl, wd_636⟩
theorem fd_31 : ab_fd "HerdKinshipModel" 13 3 3 := ⟨"HerdKinshipModel", T_M, 19, rfl, by decide, uw_M, rfl, wd_637⟩
theorem fd_32 : ab_fd "HerdKinshipModel" 33 3 9 := ⟨"HerdKinshipModel", T_M, 19, rfl, by decide, uw_M, rfl, wd_643⟩
theorem fd_33 : ab_fd "HerdKinshipModel" 22 3 6 := ⟨"HerdKinshipModel", T_M, 19, rfl, by decide, uw_M, rfl, wd_640⟩
theorem fd_34 : ab_fd "HerdKinshipModel" 36 3 10 := ⟨"HerdKinshipModel", T_M, 19, rfl, by decide, uw_M, rfl, wd_644⟩
theorem fd_35 : ab_fd "HerdKinshipModel" 39 3 11 := ⟨"HerdKinshipModel", T_M, 19, rfl, by decide, uw_M, rfl, wd_645⟩
theorem fd_36 : ab_fd "HerdKinshipModel" 54 3 18 := ⟨"HerdKinshipModel", T_M, 19, rfl, by decide, uw_M, rfl, wd_652⟩
theorem fd_37 : ab_fd "HerdKinshipModel" 111 3 14 := ⟨"HerdKinshipModel", T_M, 19, rfl, by decide, uw_M, rfl, wd_648⟩
theorem fd_38 : ab_fd "HerdKinshipModel" 45 3 15 := ⟨"HerdKinshipModel", T_M, 19, rfl, by decide, uw_M, rfl, wd_649⟩
theorem fd_39 : ab_fd "HerdKinshipModel" 48 3 16 := ⟨"HerdKinshipModel", T_M, 19, rfl, by decide, uw_M, rfl, wd_650⟩
theorem fd_40 : ab_fd "HerdKinshipModel" 51 3 17 := ⟨"HerdKinshipModel", T_M, 19, rfl, by decide, uw_M, rfl, wd_651⟩
theorem fd_41 : ab_fd "HerdKinshipModel" 42 3 13 := ⟨"HerdKinshipModel", T_M, 19, rfl, by decide, uw_M, rfl, wd_647⟩
theorem fd_42 : ab_fd "HerdKinshipModel" 130 3 12 := ⟨"HerdKinshipModel", T_M, 19, rfl, by decide, uw_M, rfl, wd_646⟩
theorem fw_0 : ab_fw "HerdKinship$Pedigree" 9 1 0 (.int) := ⟨"HerdKinship$Pedigree", T_P, 9, ty_P, rfl, by decide, uw_P, rfl, wd_70, ty_P_ok, nm_P_ok, rfl, rfl⟩
theorem fw_1 : ab_fw "HerdKinship$BestList" 15 2 1 (.int) := ⟨"HerdKinship$BestList", T_B, 8, ty_B, rfl, by decide, uw_B, rfl, wd_107, ty_B_ok, nm_B_ok, rfl, rfl⟩
theorem fw_2 : ab_fw "HerdKinship$BestList" 19 2 2 (.int) := ⟨"HerdKinship$BestList", T_B, 8, ty_B, rfl, by decide, uw_B, rfl, wd_108, ty_B_ok, nm_B_ok, rfl, rfl⟩
theorem fw_3 : ab_fw "HerdKinship$BestList" 22 2 3 (.long) := ⟨"HerdKinship$BestList", T_B, 8, ty_B, rfl, by decide, uw_B, rfl, wd_109, ty_B_ok, nm_B_ok, rfl, rfl⟩
theorem fw_4 : ab_fw "HerdKinship" 43 0 6 (.boolean) := ⟨"HerdKinship", T_H, 7, ty_H, rfl, by decide, uw_H, rfl, wd_140, ty_H_ok, nm_H_ok, rfl, rfl⟩
theorem fw_5 : ab_fw "HerdKinshipModel" 57 3 0 (.int) := ⟨"HerdKinshipModel", T_M, 19, ty_M, rfl, by decide, uw_M, rfl, wd_634, ty_M_ok, nm_M_ok, rfl, rfl⟩
theorem fw_6 : ab_fw "HerdKinshipModel" 61 3 1 (.int) := ⟨"HerdKinshipModel", T_M, 19, ty_M, rfl, by decide, uw_M, rfl, wd_635, ty_M_ok, nm_M_ok, rfl, rfl⟩
theorem fw_7 : ab_fw "HerdKinshipModel" 111 3 14 (.int) := ⟨"HerdKinshipModel", T_M, 19, ty_M, rfl, by decide, uw_M, rfl, wd_648, ty_M_ok, nm_M_ok, rfl, rfl⟩
theorem fw_8 : ab_fw "HerdKinshipModel" 130 3 12 (.boolean) := ⟨"HerdKinshipModel", T_M, 19, ty_M, rfl, by decide, uw_M, rfl, wd_646, ty_M_ok, nm_M_ok, rfl, rfl⟩
theorem lk_0 : Cond.methodLink "HerdKinship" 62 ⟨"HerdKinship$Pedigree", "size", "()I"⟩ ∈ ab_G := wd_161
theorem lk_1 : Cond.methodLink "HerdKinship" 175 ⟨"HerdKinship", "isAnimal", "(I)Z"⟩ ∈ ab_G := wd_271
theorem lk_2 : Cond.methodLink "HerdKinship" 75 ⟨"HerdKinship", "requireAnimal", "(I)V"⟩ ∈ ab_G := wd_267
theorem lk_3 : Cond.methodLink "HerdKinship" 181 ⟨"HerdKinship", "isFitParent", "(III)Z"⟩ ∈ ab_G := wd_295
theorem lk_4 : Cond.methodLink "HerdKinship$Pedigree" 55 ⟨"HerdKinship$Pedigree", "isFounder", "(I)Z"⟩ ∈ ab_G := wd_339
theorem lk_5 : Cond.methodLink "HerdKinship$Pedigree" 70 ⟨"HerdKinship$Pedigree", "depthOrZero", "(I)I"⟩ ∈ ab_G := wd_343
theorem lk_6 : Cond.methodLink "HerdKinship$Pedigree" 73 ⟨"java/lang/Math", "max", "(II)I"⟩ ∈ ab_G := wd_347
theorem lk_7 : Cond.methodLink "HerdKinship$Pedigree" 66 ⟨"HerdKinship$Pedigree", "withForebears", "(I)I"⟩ ∈ ab_G := wd_350
theorem lk_8 : Cond.methodLink "HerdKinship$Pedigree" 78 ⟨"HerdKinship$Pedigree", "kinOf", "(II)J"⟩ ∈ ab_G := wd_354
theorem lk_9 : Cond.methodLink "HerdKinship$Pedigree" 43 ⟨"HerdKinship$Pedigree", "renew", "(I)V"⟩ ∈ ab_G := wd_335
theorem lk_10 : Cond.methodLink "HerdKinship" 54 ⟨"HerdKinship", "requireAnimalOrNone", "(I)V"⟩ ∈ ab_G := wd_263
theorem lk_11 : Cond.methodLink "HerdKinship" 58 ⟨"HerdKinship", "requireFitParents", "(III)V"⟩ ∈ ab_G := wd_291
theorem lk_12 : Cond.methodLink "HerdKinship" 71 ⟨"HerdKinship$Pedigree", "append", "(II)I"⟩ ∈ ab_G := wd_331
theorem lk_13 : Cond.methodLink "HerdKinship" 83 ⟨"HerdKinship$Pedigree", "replaceParents", "(III)I"⟩ ∈ ab_G := wd_365
theorem lk_14 : Cond.methodLink "HerdKinship" 89 ⟨"HerdKinship", "countLiving", "()I"⟩ ∈ ab_G := wd_377
theorem lk_15 : Cond.methodLink "HerdKinship" 92 ⟨"HerdKinship$Pedigree", "sireOf", "(I)I"⟩ ∈ ab_G := wd_389
theorem lk_16 : Cond.methodLink "HerdKinship" 96 ⟨"HerdKinship$Pedigree", "damOf", "(I)I"⟩ ∈ ab_G := wd_393
theorem lk_17 : Cond.methodLink "HerdKinship" 99 ⟨"HerdKinship$Pedigree", "depthOf", "(I)I"⟩ ∈ ab_G := wd_397
theorem lk_18 : Cond.methodLink "HerdKinship" 107 ⟨"HerdKinship$Pedigree", "kinOf", "(II)J"⟩ ∈ ab_G := wd_173
theorem lk_19 : Cond.methodLink "HerdKinship" 111 ⟨"HerdKinship$Pedigree", "inbreedingOf", "(I)J"⟩ ∈ ab_G := wd_431
theorem lk_20 : Cond.methodLink "HerdKinship" 187 ⟨"HerdKinship$Pedigree", "isFounder", "(I)Z"⟩ ∈ ab_G := wd_453
theorem lk_21 : Cond.methodLink "HerdKinship$Pedigree" 49 ⟨"HerdKinship$Pedigree", "shareUpTo", "(II)J"⟩ ∈ ab_G := wd_459
theorem lk_22 : Cond.methodLink "HerdKinship" 115 ⟨"HerdKinship", "requireFounder", "(I)V"⟩ ∈ ab_G := wd_449
theorem lk_23 : Cond.methodLink "HerdKinship" 118 ⟨"HerdKinship$Pedigree", "shareOf", "(II)J"⟩ ∈ ab_G := wd_455
theorem lk_24 : Cond.methodLink "HerdKinship$Pedigree" 59 ⟨"HerdKinship$Pedigree", "shareOf", "(II)J"⟩ ∈ ab_G := wd_474
theorem lk_25 : Cond.methodLink "HerdKinship" 121 ⟨"HerdKinship$Pedigree", "unknownIn", "(I)J"⟩ ∈ ab_G := wd_470
theorem lk_26 : Cond.methodLink "HerdKinship" 124 ⟨"HerdKinship", "kinWithLivingUpTo", "(I)J"⟩ ∈ ab_G := wd_169
theorem lk_27 : Cond.methodLink "HerdKinship" 127 ⟨"HerdKinship$Pedigree", "forebearsOf", "(I)I"⟩ ∈ ab_G := wd_489
theorem lk_28 : Cond.methodLink "HerdKinship" 130 ⟨"HerdKinship$Pedigree", "progenyOf", "(I)I"⟩ ∈ ab_G := wd_500
theorem lk_29 : Cond.methodLink "HerdKinship$Pedigree" 62 ⟨"HerdKinship$Pedigree", "linesUpTo", "(II)I"⟩ ∈ ab_G := wd_515
theorem lk_30 : Cond.methodLink "HerdKinship" 133 ⟨"HerdKinship$Pedigree", "linesDown", "(II)I"⟩ ∈ ab_G := wd_511
theorem lk_31 : Cond.methodLink "HerdKinship" 136 ⟨"HerdKinship$Pedigree", "nearestCommon", "(II)I"⟩ ∈ ab_G := wd_526
theorem lk_32 : Cond.methodLink "HerdKinship" 139 ⟨"HerdKinship", "isLiving", "(II)Z"⟩ ∈ ab_G := wd_544
theorem lk_33 : Cond.methodLink "HerdKinship$BestList" 41 ⟨"java/util/Arrays", "fill", "([JJ)V"⟩ ∈ ab_G := wd_573
theorem lk_34 : Cond.methodLink "HerdKinship$BestList" 76 ⟨"HerdKinship$Pedigree", "kinOf", "(II)J"⟩ ∈ ab_G := wd_593
theorem lk_35 : Cond.methodLink "HerdKinship$BestList" 59 ⟨"HerdKinship$BestList", "shiftOf", "(I)I"⟩ ∈ ab_G := wd_598
theorem lk_36 : Cond.methodLink "HerdKinship$BestList" 51 ⟨"HerdKinship$BestList", "allCows", "()I"⟩ ∈ ab_G := wd_584
theorem lk_37 : Cond.methodLink "HerdKinship$BestList" 63 ⟨"java/lang/Integer", "bitCount", "(I)I"⟩ ∈ ab_G := wd_588
theorem lk_38 : Cond.methodLink "HerdKinship$BestList" 68 ⟨"HerdKinship$BestList", "sumOfKin", "(IILHerdKinship$Pedigree;)J"⟩ ∈ ab_G := wd_589
theorem lk_39 : Cond.methodLink "HerdKinship$BestList" 72 ⟨"HerdKinship$BestList", "codeOf", "(II)I"⟩ ∈ ab_G := wd_594
theorem lk_40 : Cond.methodLink "HerdKinship$BestList" 82 ⟨"HerdKinship$BestList", "keepBetter", "(IJI)V"⟩ ∈ ab_G := wd_605
theorem lk_41 : Cond.methodLink "HerdKinship$BestList" 47 ⟨"HerdKinship$BestList", "weighServices", "(ILHerdKinship$Pedigree;)V"⟩ ∈ ab_G := wd_580
theorem lk_42 : Cond.methodLink "HerdKinship$BestList" 55 ⟨"HerdKinship$BestList", "improve", "(I)V"⟩ ∈ ab_G := wd_601
theorem lk_43 : Cond.methodLink "HerdKinship" 37 ⟨"java/util/Arrays", "fill", "([II)V"⟩ ∈ ab_G := wd_131
theorem lk_44 : Cond.methodLink "HerdKinship" 169 ⟨"HerdKinship$BestList", "leastSum", "()J"⟩ ∈ ab_G := wd_613
theorem lk_45 : Cond.methodLink "HerdKinship" 194 ⟨"HerdKinship$BestList", "writeBulls", "([I)V"⟩ ∈ ab_G := wd_617
theorem lk_46 : Cond.methodLink "HerdKinship" 143 ⟨"java/lang/Integer", "bitCount", "(I)I"⟩ ∈ ab_G := wd_555
theorem lk_47 : Cond.methodLink "HerdKinship" 155 ⟨"HerdKinship", "requireLivingFemales", "(I)V"⟩ ∈ ab_G := wd_563
theorem lk_48 : Cond.methodLink "HerdKinship" 158 ⟨"HerdKinship$BestList", "begin", "(IIJ)V"⟩ ∈ ab_G := wd_568
theorem lk_49 : Cond.methodLink "HerdKinship" 166 ⟨"HerdKinship", "keepList", "()V"⟩ ∈ ab_G := wd_609
theorem lk_50 : Cond.methodLink "HerdKinship" 162 ⟨"HerdKinship$BestList", "offer", "(ILHerdKinship$Pedigree;)V"⟩ ∈ ab_G := wd_576
theorem lk_51 : Cond.methodLink "HerdKinshipModel" 64 ⟨"HerdKinshipModel", "is", "(I)Z"⟩ ∈ ab_G := wd_704
theorem lk_52 : Cond.methodLink "HerdKinshipModel" 68 ⟨"HerdKinshipModel", "kinOf", "(II)J"⟩ ∈ ab_G := wd_720
theorem lk_53 : Cond.methodLink "HerdKinshipModel" 76 ⟨"HerdKinshipModel", "isParent", "(I)Z"⟩ ∈ ab_G := wd_700
theorem lk_54 : Cond.methodLink "HerdKinshipModel" 79 ⟨"HerdKinshipModel", "fits", "(IIII)Z"⟩ ∈ ab_G := wd_708
theorem lk_55 : Cond.methodLink "HerdKinshipModel" 83 ⟨"HerdKinshipModel", "refused", "(ZZZZ)Z"⟩ ∈ ab_G := wd_712
theorem lk_56 : Cond.methodLink "HerdKinshipModel" 87 ⟨"HerdKinshipModel", "fill", "()V"⟩ ∈ ab_G := wd_716
theorem lk_57 : Cond.methodLink "HerdKinshipModel" 90 ⟨"HerdKinshipModel", "depthOf", "(I)I"⟩ ∈ ab_G := wd_738
theorem lk_58 : Cond.methodLink "HerdKinshipModel" 94 ⟨"HerdKinshipModel", "isFounder", "(I)Z"⟩ ∈ ab_G := wd_762
theorem lk_59 : Cond.methodLink "HerdKinshipModel" 97 ⟨"HerdKinshipModel", "fillShares", "(I)V"⟩ ∈ ab_G := wd_766
theorem lk_60 : Cond.methodLink "HerdKinshipModel" 101 ⟨"HerdKinshipModel", "linesOf", "(II)I"⟩ ∈ ab_G := wd_790
theorem lk_61 : Cond.methodLink "HerdKinshipModel" 105 ⟨"HerdKinshipModel", "ancestorsOf", "(I)I"⟩ ∈ ab_G := wd_786
theorem lk_62 : Cond.methodLink "HerdKinshipModel" 108 ⟨"HerdKinshipModel", "isBull", "(I)Z"⟩ ∈ ab_G := wd_814
theorem lk_63 : Cond.methodLink "HerdKinshipModel" 116 ⟨"HerdKinshipModel", "nextBull", "(IIIJ)I"⟩ ∈ ab_G := wd_830
theorem lk_64 : Cond.methodLink "HerdKinshipModel" 120 ⟨"HerdKinshipModel", "leastFrom", "(IJ)J"⟩ ∈ ab_G := wd_834
theorem lk_65 : Cond.methodLink "HerdKinshipModel" 124 ⟨"HerdKinshipModel", "bitsOf", "(I)I"⟩ ∈ ab_G := wd_822
theorem lk_66 : Cond.methodLink "HerdKinshipModel" 127 ⟨"HerdKinshipModel", "findBest", "(IJ)J"⟩ ∈ ab_G := wd_825
theorem lk_67 : Cond.methodLink "HerdKinshipLaw" 7 ⟨"HerdKinship", "enter", "(IIII)I"⟩ ∈ ab_G := wd_189
theorem lk_68 : Cond.methodLink "HerdKinshipLaw" 21 ⟨"HerdKinship", "correct", "(III)I"⟩ ∈ ab_G := wd_360
theorem lk_69 : Cond.methodLink "HerdKinshipLaw" 25 ⟨"HerdKinship", "cull", "(I)I"⟩ ∈ ab_G := wd_372
theorem lk_70 : Cond.methodLink "HerdKinshipLaw" 29 ⟨"HerdKinship", "of", "(II)I"⟩ ∈ ab_G := wd_385
theorem lk_71 : Cond.methodLink "HerdKinshipLaw" 35 ⟨"HerdKinship", "kinship", "(II)J"⟩ ∈ ab_G := wd_420
theorem lk_72 : Cond.methodLink "HerdKinshipLaw" 39 ⟨"HerdKinship", "inbreeding", "(I)J"⟩ ∈ ab_G := wd_427
theorem lk_73 : Cond.methodLink "HerdKinshipLaw" 43 ⟨"HerdKinship", "calf", "(II)J"⟩ ∈ ab_G := wd_438
theorem lk_74 : Cond.methodLink "HerdKinshipLaw" 46 ⟨"HerdKinship", "share", "(II)J"⟩ ∈ ab_G := wd_445
theorem lk_75 : Cond.methodLink "HerdKinshipLaw" 49 ⟨"HerdKinship", "unknown", "(I)J"⟩ ∈ ab_G := wd_466
theorem lk_76 : Cond.methodLink "HerdKinshipLaw" 52 ⟨"HerdKinship", "inHerd", "(I)J"⟩ ∈ ab_G := wd_478
theorem lk_77 : Cond.methodLink "HerdKinshipLaw" 55 ⟨"HerdKinship", "ancestors", "(I)I"⟩ ∈ ab_G := wd_485
theorem lk_78 : Cond.methodLink "HerdKinshipLaw" 58 ⟨"HerdKinship", "descendants", "(I)I"⟩ ∈ ab_G := wd_496
theorem lk_79 : Cond.methodLink "HerdKinshipLaw" 61 ⟨"HerdKinship", "lines", "(II)I"⟩ ∈ ab_G := wd_507
theorem lk_80 : Cond.methodLink "HerdKinshipLaw" 64 ⟨"HerdKinship", "nearest", "(II)I"⟩ ∈ ab_G := wd_522
theorem lk_81 : Cond.methodLink "HerdKinshipLaw" 67 ⟨"HerdKinship", "closest", "(I)I"⟩ ∈ ab_G := wd_533
theorem lk_82 : Cond.methodLink "HerdKinshipLaw" 70 ⟨"HerdKinship", "bestBull", "(I)I"⟩ ∈ ab_G := wd_540
theorem lk_83 : Cond.methodLink "HerdKinshipLaw" 73 ⟨"HerdKinship", "plan", "(IIJ)J"⟩ ∈ ab_G := wd_551
theorem lk_84 : Cond.methodLink "HerdKinshipLaw" 77 ⟨"HerdKinship", "bull", "(I)I"⟩ ∈ ab_G := wd_624
theorem w_0 : Cond.constantLong "HerdKinship$Pedigree" 47 (1125899906842624 : Int64) ∈ ab_G := wd_356
theorem w_1 : Cond.constantLong "HerdKinship$Pedigree" 53 (2 : Int64) ∈ ab_G := wd_355
theorem w_2 : Cond.constant "java/lang/Integer" 265 (1431655765 : Int32) ∈ ab_G := wd_558
theorem w_3 : Cond.constant "java/lang/Integer" 266 (858993459 : Int32) ∈ ab_G := wd_559
theorem w_4 : Cond.constant "java/lang/Integer" 267 (252645135 : Int32) ∈ ab_G := wd_560
theorem w_5 : Cond.constantLong "HerdKinship$BestList" 39 (-1 : Int64) ∈ ab_G := wd_572
theorem w_6 : Cond.constantLong "HerdKinship" 173 (-1 : Int64) ∈ ab_G := wd_181
theorem w_7 : Cond.constantLong "HerdKinshipModel" 74 (1125899906842624 : Int64) ∈ ab_G := wd_725
theorem w_8 : Cond.constantLong "HerdKinshipModel" 72 (2 : Int64) ∈ ab_G := wd_724
theorem w_9 : Cond.constantLong "HerdKinshipModel" 114 (-1 : Int64) ∈ ab_G := wd_829
theorem ce_0 : ab_ce "HerdKinshipLaw" [(0, 14, 17, 13), (0, 14, 21, 15), (0, 14, 25, 17), (0, 14, 29, 19)] 3 9 "java/lang/IllegalStateException" 29 := ⟨0, 14, 19, "java/lang/IllegalStateException", rfl, by decide, by decide, by decide, wd_188, by decide, List.forall_mem_cons.mpr ⟨⟨by decide, "java/lang/IllegalArgumentException", wd_185, by decide⟩, List.forall_mem_cons.mpr ⟨⟨by decide, "java/util/NoSuchElementException", wd_186, by decide⟩, List.forall_mem_cons.mpr ⟨⟨by decide, "java/lang/UnsupportedOperationException", wd_187, by decide⟩, fun _ h => absurd h List.not_mem_nil⟩⟩⟩⟩
theorem ce_1 : ab_ce "HerdKinshipLaw" [(0, 14, 17, 13), (0, 14, 21, 15), (0, 14, 25, 17), (0, 14, 29, 19)] 2 9 "java/lang/UnsupportedOperationException" 25 := ⟨0, 14, 17, "java/lang/UnsupportedOperationException", rfl, by decide, by decide, by decide, wd_187, by decide, List.forall_mem_cons.mpr ⟨⟨by decide, "java/lang/IllegalArgumentException", wd_185, by decide⟩, List.forall_mem_cons.mpr ⟨⟨by decide, "java/util/NoSuchElementException", wd_186, by decide⟩, fun _ h => absurd h List.not_mem_nil⟩⟩⟩
theorem ce_2 : ab_ce "HerdKinshipLaw" [(0, 14, 17, 13), (0, 14, 21, 15), (0, 14, 25, 17), (0, 14, 29, 19)] 1 9 "java/util/NoSuchElementException" 21 := ⟨0, 14, 15, "java/util/NoSuchElementException", rfl, by decide, by decide, by decide, wd_186, by decide, List.forall_mem_cons.mpr ⟨⟨by decide, "java/lang/IllegalArgumentException", wd_185, by decide⟩, fun _ h => absurd h List.not_mem_nil⟩⟩
theorem ce_3 : ab_ce "HerdKinshipLaw" [(0, 14, 17, 13), (0, 14, 21, 15), (0, 14, 25, 17), (0, 14, 29, 19)] 0 9 "java/lang/IllegalArgumentException" 17 := ⟨0, 14, 13, "java/lang/IllegalArgumentException", rfl, by decide, by decide, by decide, wd_185, by decide, fun _ h => absurd h List.not_mem_nil⟩
theorem ce_4 : ab_ce "HerdKinshipLaw" [(0, 12, 15, 15), (0, 12, 19, 17)] 1 7 "java/lang/UnsupportedOperationException" 19 := ⟨0, 12, 17, "java/lang/UnsupportedOperationException", rfl, by decide, by decide, by decide, wd_187, by decide, List.forall_mem_cons.mpr ⟨⟨by decide, "java/util/NoSuchElementException", wd_186, by decide⟩, fun _ h => absurd h List.not_mem_nil⟩⟩
theorem ce_5 : ab_ce "HerdKinshipLaw" [(0, 12, 15, 15), (0, 12, 19, 17)] 0 7 "java/util/NoSuchElementException" 15 := ⟨0, 12, 15, "java/util/NoSuchElementException", rfl, by decide, by decide, by decide, wd_186, by decide, fun _ h => absurd h List.not_mem_nil⟩
theorem ce_6 : ab_ce "HerdKinshipLaw" [(0, 9, 12, 15), (0, 9, 15, 19)] 1 4 "java/lang/IllegalStateException" 15 := ⟨0, 9, 19, "java/lang/IllegalStateException", rfl, by decide, by decide, by decide, wd_188, by decide, List.forall_mem_cons.mpr ⟨⟨by decide, "java/util/NoSuchElementException", wd_186, by decide⟩, fun _ h => absurd h List.not_mem_nil⟩⟩
theorem ce_7 : ab_ce "HerdKinshipLaw" [(0, 9, 12, 15), (0, 9, 15, 19)] 0 4 "java/util/NoSuchElementException" 12 := ⟨0, 9, 15, "java/util/NoSuchElementException", rfl, by decide, by decide, by decide, wd_186, by decide, fun _ h => absurd h List.not_mem_nil⟩
theorem ce_8 : ab_ce "HerdKinshipLaw" [(0, 10, 13, 15), (0, 10, 17, 33)] 1 5 "java/lang/IndexOutOfBoundsException" 17 := ⟨0, 10, 33, "java/lang/IndexOutOfBoundsException", rfl, by decide, by decide, by decide, wd_384, by decide, List.forall_mem_cons.mpr ⟨⟨by decide, "java/util/NoSuchElementException", wd_186, by decide⟩, fun _ h => absurd h List.not_mem_nil⟩⟩
theorem ce_9 : ab_ce "HerdKinshipLaw" [(0, 10, 13, 15), (0, 10, 17, 33)] 0 5 "java/util/NoSuchElementException" 13 := ⟨0, 10, 15, "java/util/NoSuchElementException", rfl, by decide, by decide, by decide, wd_186, by decide, fun _ h => absurd h List.not_mem_nil⟩
theorem ce_10 : ab_ce "HerdKinshipLaw" [(0, 9, 12, 15)] 0 5 "java/util/NoSuchElementException" 12 := ⟨0, 9, 15, "java/util/NoSuchElementException", rfl, by decide, by decide, by decide, wd_186, by decide, fun _ h => absurd h List.not_mem_nil⟩
theorem ce_11 : ab_ce "HerdKinshipLaw" [(0, 8, 11, 15)] 0 4 "java/util/NoSuchElementException" 11 := ⟨0, 8, 15, "java/util/NoSuchElementException", rfl, by decide, by decide, by decide, wd_186, by decide, fun _ h => absurd h List.not_mem_nil⟩
theorem ce_12 : ab_ce "HerdKinshipLaw" [(0, 9, 12, 15)] 0 5 "java/util/NoSuchElementException" 12 := ⟨0, 9, 15, "java/util/NoSuchElementException", rfl, by decide, by decide, by decide, wd_186, by decide, fun _ h => absurd h List.not_mem_nil⟩
theorem ce_13 : ab_ce "HerdKinshipLaw" [(0, 9, 12, 15), (0, 9, 16, 17)] 1 5 "java/lang/UnsupportedOperationException" 16 := ⟨0, 9, 17, "java/lang/UnsupportedOperationException", rfl, by decide, by decide, by decide, wd_187, by decide, List.forall_mem_cons.mpr ⟨⟨by decide, "java/util/NoSuchElementException", wd_186, by decide⟩, fun _ h => absurd h List.not_mem_nil⟩⟩
theorem ce_14 : ab_ce "HerdKinshipLaw" [(0, 9, 12, 15), (0, 9, 16, 17)] 0 5 "java/util/NoSuchElementException" 12 := ⟨0, 9, 15, "java/util/NoSuchElementException", rfl, by decide, by decide, by decide, wd_186, by decide, fun _ h => absurd h List.not_mem_nil⟩
theorem ce_15 : ab_ce "HerdKinshipLaw" [(0, 8, 11, 15)] 0 4 "java/util/NoSuchElementException" 11 := ⟨0, 8, 15, "java/util/NoSuchElementException", rfl, by decide, by decide, by decide, wd_186, by decide, fun _ h => absurd h List.not_mem_nil⟩
theorem ce_16 : ab_ce "HerdKinshipLaw" [(0, 8, 11, 15), (0, 8, 14, 17)] 1 4 "java/lang/UnsupportedOperationException" 14 := ⟨0, 8, 17, "java/lang/UnsupportedOperationException", rfl, by decide, by decide, by decide, wd_187, by decide, List.forall_mem_cons.mpr ⟨⟨by decide, "java/util/NoSuchElementException", wd_186, by decide⟩, fun _ h => absurd h List.not_mem_nil⟩⟩
theorem ce_17 : ab_ce "HerdKinshipLaw" [(0, 8, 11, 15), (0, 8, 14, 17)] 0 4 "java/util/NoSuchElementException" 11 := ⟨0, 8, 15, "java/util/NoSuchElementException", rfl, by decide, by decide, by decide, wd_186, by decide, fun _ h => absurd h List.not_mem_nil⟩
theorem ce_18 : ab_ce "HerdKinshipLaw" [(0, 9, 12, 15)] 0 4 "java/util/NoSuchElementException" 12 := ⟨0, 9, 15, "java/util/NoSuchElementException", rfl, by decide, by decide, by decide, wd_186, by decide, fun _ h => absurd h List.not_mem_nil⟩
theorem ce_19 : ab_ce "HerdKinshipLaw" [(0, 9, 12, 15)] 0 4 "java/util/NoSuchElementException" 12 := ⟨0, 9, 15, "java/util/NoSuchElementException", rfl, by decide, by decide, by decide, wd_186, by decide, fun _ h => absurd h List.not_mem_nil⟩
theorem ce_20 : ab_ce "HerdKinshipLaw" [(0, 10, 13, 15)] 0 5 "java/util/NoSuchElementException" 13 := ⟨0, 10, 15, "java/util/NoSuchElementException", rfl, by decide, by decide, by decide, wd_186, by decide, fun _ h => absurd h List.not_mem_nil⟩
theorem ce_21 : ab_ce "HerdKinshipLaw" [(0, 10, 13, 15)] 0 5 "java/util/NoSuchElementException" 13 := ⟨0, 10, 15, "java/util/NoSuchElementException", rfl, by decide, by decide, by decide, wd_186, by decide, fun _ h => absurd h List.not_mem_nil⟩
theorem ce_22 : ab_ce "HerdKinshipLaw" [(0, 9, 12, 15)] 0 4 "java/util/NoSuchElementException" 12 := ⟨0, 9, 15, "java/util/NoSuchElementException", rfl, by decide, by decide, by decide, wd_186, by decide, fun _ h => absurd h List.not_mem_nil⟩
theorem ce_23 : ab_ce "HerdKinshipLaw" [(0, 9, 12, 15)] 0 4 "java/util/NoSuchElementException" 12 := ⟨0, 9, 15, "java/util/NoSuchElementException", rfl, by decide, by decide, by decide, wd_186, by decide, fun _ h => absurd h List.not_mem_nil⟩
theorem ce_24 : ab_ce "HerdKinshipLaw" [(0, 11, 14, 13), (0, 11, 18, 15), (0, 11, 22, 17)] 2 7 "java/lang/UnsupportedOperationException" 22 := ⟨0, 11, 17, "java/lang/UnsupportedOperationException", rfl, by decide, by decide, by decide, wd_187, by decide, List.forall_mem_cons.mpr ⟨⟨by decide, "java/lang/IllegalArgumentException", wd_185, by decide⟩, List.forall_mem_cons.mpr ⟨⟨by decide, "java/util/NoSuchElementException", wd_186, by decide⟩, fun _ h => absurd h List.not_mem_nil⟩⟩⟩
theorem ce_25 : ab_ce "HerdKinshipLaw" [(0, 11, 14, 13), (0, 11, 18, 15), (0, 11, 22, 17)] 1 7 "java/util/NoSuchElementException" 18 := ⟨0, 11, 15, "java/util/NoSuchElementException", rfl, by decide, by decide, by decide, wd_186, by decide, List.forall_mem_cons.mpr ⟨⟨by decide, "java/lang/IllegalArgumentException", wd_185, by decide⟩, fun _ h => absurd h List.not_mem_nil⟩⟩
theorem ce_26 : ab_ce "HerdKinshipLaw" [(0, 11, 14, 13), (0, 11, 18, 15), (0, 11, 22, 17)] 0 7 "java/lang/IllegalArgumentException" 14 := ⟨0, 11, 13, "java/lang/IllegalArgumentException", rfl, by decide, by decide, by decide, wd_185, by decide, fun _ h => absurd h List.not_mem_nil⟩
theorem ce_27 : ab_ce "HerdKinshipLaw" [(0, 9, 12, 15)] 0 4 "java/util/NoSuchElementException" 12 := ⟨0, 9, 15, "java/util/NoSuchElementException", rfl, by decide, by decide, by decide, wd_186, by decide, fun _ h => absurd h List.not_mem_nil⟩
theorem te_0 : ab_te "HerdKinship" 150 179 154 "java/util/NoSuchElementException" 13 prog_17_method_4_code ["java/lang/RuntimeException", "java/lang/Exception"] "no such animal" := ⟨by decide +kernel, by decide +kernel, wd_275, wd_48, by decide +kernel, ⟨by decide +kernel, by decide +kernel, by decide +kernel, by decide +kernel⟩, ab_at [44, 215, 224, 230, 233, 235, 216, 217, 60, 61, 218, 223, 231, 251, 205, 252, 207, 253, 209, 219, 221, 211, 247, 248, 250, 211, 286, 287, 288, 241, 241, 242, 243, 244, 244, 245, 246, 247, 285, 276, 278, 229, 279, 280, 281, 282, 214, 213, 283] (by decide +kernel) (by decide +kernel), by decide +kernel⟩
theorem te_1 : ab_te "HerdKinship" 78 185 82 "java/lang/UnsupportedOperationException" 7 prog_15_method_2_code ["java/lang/RuntimeException", "java/lang/Exception"] "a parent has the wrong sex or year" := ⟨by decide +kernel, by decide +kernel, wd_299, wd_49, by decide +kernel, ⟨by decide +kernel, by decide +kernel, by decide +kernel, by decide +kernel⟩, ab_at [44, 215, 224, 230, 233, 235, 216, 217, 60, 61, 218, 223, 231, 251, 205, 252, 207, 253, 209, 219, 221, 211, 247, 248, 250, 211, 310, 311, 312, 241, 241, 242, 243, 244, 244, 245, 246, 247, 309, 300, 302, 228, 303, 304, 305, 306, 214, 213, 307] (by decide +kernel) (by decide +kernel), by decide +kernel⟩
theorem te_2 : ab_te "HerdKinship" 47 49 51 "java/lang/IllegalArgumentException" 7 prog_7_method_2_code ["java/lang/RuntimeException", "java/lang/Exception"] "sex or year" := ⟨by decide +kernel, by decide +kernel, wd_193, wd_47, by decide +kernel, ⟨by decide +kernel, by decide +kernel, by decide +kernel, by decide +kernel⟩, ab_at [44, 215, 224, 230, 233, 235, 216, 217, 60, 61, 218, 223, 231, 251, 205, 252, 207, 253, 209, 219, 221, 211, 247, 248, 250, 211, 238, 239, 240, 241, 241, 242, 243, 244, 244, 245, 246, 247, 237, 194, 202, 203, 204, 206, 208, 210, 214, 213, 212] (by decide +kernel) (by decide +kernel), by decide +kernel⟩
theorem te_3 : ab_te "HerdKinship" 66 68 70 "java/lang/IllegalStateException" 7 prog_8_method_2_code ["java/lang/RuntimeException", "java/lang/Exception"] "the book is full" := ⟨by decide +kernel, by decide +kernel, wd_315, wd_50, by decide +kernel, ⟨by decide +kernel, by decide +kernel, by decide +kernel, by decide +kernel⟩, ab_at [44, 215, 224, 230, 233, 235, 216, 217, 60, 61, 218, 223, 231, 251, 205, 252, 207, 253, 209, 219, 221, 211, 247, 248, 250, 211, 326, 327, 328, 241, 241, 242, 243, 244, 244, 245, 246, 247, 325, 316, 318, 226, 319, 320, 321, 322, 214, 213, 323] (by decide +kernel) (by decide +kernel), by decide +kernel⟩
theorem te_4 : ab_te "HerdKinship" 78 80 82 "java/lang/UnsupportedOperationException" 7 prog_15_method_2_code ["java/lang/RuntimeException", "java/lang/Exception"] "a parent has a number that is not less" := ⟨by decide +kernel, by decide +kernel, wd_299, wd_49, by decide +kernel, ⟨by decide +kernel, by decide +kernel, by decide +kernel, by decide +kernel⟩, ab_at [44, 215, 224, 230, 233, 235, 216, 217, 60, 61, 218, 223, 231, 251, 205, 252, 207, 253, 209, 219, 221, 211, 247, 248, 250, 211, 310, 311, 312, 241, 241, 242, 243, 244, 244, 245, 246, 247, 309, 300, 302, 228, 303, 304, 305, 306, 214, 213, 307] (by decide +kernel) (by decide +kernel), by decide +kernel⟩
theorem te_5 : ab_te "HerdKinship" 66 87 70 "java/lang/IllegalStateException" 7 prog_8_method_2_code ["java/lang/RuntimeException", "java/lang/Exception"] "it does not live" := ⟨by decide +kernel, by decide +kernel, wd_315, wd_50, by decide +kernel, ⟨by decide +kernel, by decide +kernel, by decide +kernel, by decide +kernel⟩, ab_at [44, 215, 224, 230, 233, 235, 216, 217, 60, 61, 218, 223, 231, 251, 205, 252, 207, 253, 209, 219, 221, 211, 247, 248, 250, 211, 326, 327, 328, 241, 241, 242, 243, 244, 244, 245, 246, 247, 325, 316, 318, 226, 319, 320, 321, 322, 214, 213, 323] (by decide +kernel) (by decide +kernel), by decide +kernel⟩
theorem te_6 : ab_te "HerdKinship" 102 104 106 "java/lang/IndexOutOfBoundsException" 7 prog_9_method_2_code ["java/lang/RuntimeException", "java/lang/Exception"] "no such what" := ⟨by decide +kernel, by decide +kernel, wd_401, wd_52, by decide +kernel, ⟨by decide +kernel, by decide +kernel, by decide +kernel, by decide +kernel⟩, ab_at [44, 215, 224, 230, 233, 235, 216, 217, 60, 61, 218, 223, 231, 251, 205, 252, 207, 253, 209, 219, 221, 211, 247, 248, 250, 211, 412, 413, 414, 241, 241, 242, 243, 244, 244, 245, 246, 247, 411, 402, 404, 227, 405, 406, 407, 408, 214, 213, 409] (by decide +kernel) (by decide +kernel), by decide +kernel⟩
theorem te_7 : ab_te "HerdKinship" 78 190 82 "java/lang/UnsupportedOperationException" 7 prog_15_method_2_code ["java/lang/RuntimeException", "java/lang/Exception"] "no founder" := ⟨by decide +kernel, by decide +kernel, wd_299, wd_49, by decide +kernel, ⟨by decide +kernel, by decide +kernel, by decide +kernel, by decide +kernel⟩, ab_at [44, 215, 224, 230, 233, 235, 216, 217, 60, 61, 218, 223, 231, 251, 205, 252, 207, 253, 209, 219, 221, 211, 247, 248, 250, 211, 310, 311, 312, 241, 241, 242, 243, 244, 244, 245, 246, 247, 309, 300, 302, 228, 303, 304, 305, 306, 214, 213, 307] (by decide +kernel) (by decide +kernel), by decide +kernel⟩
theorem te_8 : ab_te "HerdKinship" 78 192 82 "java/lang/UnsupportedOperationException" 7 prog_15_method_2_code ["java/lang/RuntimeException", "java/lang/Exception"] "one is no living female" := ⟨by decide +kernel, by decide +kernel, wd_299, wd_49, by decide +kernel, ⟨by decide +kernel, by decide +kernel, by decide +kernel, by decide +kernel⟩, ab_at [44, 215, 224, 230, 233, 235, 216, 217, 60, 61, 218, 223, 231, 251, 205, 252, 207, 253, 209, 219, 221, 211, 247, 248, 250, 211, 310, 311, 312, 241, 241, 242, 243, 244, 244, 245, 246, 247, 309, 300, 302, 228, 303, 304, 305, 306, 214, 213, 307] (by decide +kernel) (by decide +kernel), by decide +kernel⟩
theorem te_9 : ab_te "HerdKinship" 47 148 51 "java/lang/IllegalArgumentException" 7 prog_7_method_2_code ["java/lang/RuntimeException", "java/lang/Exception"] "limit, number of cows or most" := ⟨by decide +kernel, by decide +kernel, wd_193, wd_47, by decide +kernel, ⟨by decide +kernel, by decide +kernel, by decide +kernel, by decide +kernel⟩, ab_at [44, 215, 224, 230, 233, 235, 216, 217, 60, 61, 218, 223, 231, 251, 205, 252, 207, 253, 209, 219, 221, 211, 247, 248, 250, 211, 238, 239, 240, 241, 241, 242, 243, 244, 244, 245, 246, 247, 237, 194, 202, 203, 204, 206, 208, 210, 214, 213, 212] (by decide +kernel) (by decide +kernel), by decide +kernel⟩
theorem te_10 : ab_te "HerdKinship" 150 152 154 "java/util/NoSuchElementException" 13 prog_17_method_4_code ["java/lang/RuntimeException", "java/lang/Exception"] "a bit of the set is no animal" := ⟨by decide +kernel, by decide +kernel, wd_275, wd_48, by decide +kernel, ⟨by decide +kernel, by decide +kernel, by decide +kernel, by decide +kernel⟩, ab_at [44, 215, 224, 230, 233, 235, 216, 217, 60, 61, 218, 223, 231, 251, 205, 252, 207, 253, 209, 219, 221, 211, 247, 248, 250, 211, 286, 287, 288, 241, 241, 242, 243, 244, 244, 245, 246, 247, 285, 276, 278, 229, 279, 280, 281, 282, 214, 213, 283] (by decide +kernel) (by decide +kernel), by decide +kernel⟩
