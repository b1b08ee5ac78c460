/-! each op list, checked by the kernel: labels 0 to 140 -/
set_option maxRecDepth 100000 in
theorem e_q0 : c_blk 0 kL_law_156 [] = true := by decide +kernel
set_option maxRecDepth 100000 in
theorem e_q1 : c_blk 0 kL_law_179 [] = true := by decide +kernel
set_option maxRecDepth 100000 in
theorem e_q2 : c_blk 0 kL_law_232 [] = true := by decide +kernel
set_option maxRecDepth 100000 in
theorem e_q3 : c_blk 0 kL_law_275 [] = true := by decide +kernel
set_option maxRecDepth 100000 in
theorem e_q4 : c_blk 0 kL_law_308 [] = true := by decide +kernel
set_option maxRecDepth 100000 in
theorem e_q5 : c_blk 0 kL_law_331 [] = true := by decide +kernel
set_option maxRecDepth 100000 in
theorem e_q6 : c_blk 0 kL_law_344 [] = true := by decide +kernel
set_option maxRecDepth 100000 in
theorem e_q7 : c_blk 0 kL_law_357 [] = true := by decide +kernel
set_option maxRecDepth 100000 in
theorem e_q8 : c_blk 0 kL_law_420 [] = true := by decide +kernel
set_option maxRecDepth 100000 in
theorem e_q9 : c_blk 0 kL_law_453 [] = true := by decide +kernel
set_option maxRecDepth 100000 in
theorem e_q10 : c_blk 0 kL_law_528 [] = true := by decide +kernel
set_option maxRecDepth 100000 in
theorem e_q11 : c_blk 0 kL_law_561 [] = true := by decide +kernel
set_option maxRecDepth 100000 in
theorem e_q12 : c_blk 0 kL_law_584 [] = true := by decide +kernel
set_option maxRecDepth 100000 in
theorem e_q13 : c_blk 0 kL_law_597 [] = true := by decide +kernel
set_option maxRecDepth 100000 in
theorem e_q14 : c_blk 0 kL_law_620 [] = true := by decide +kernel
set_option maxRecDepth 100000 in
theorem e_q15 : c_blk 0 kL_law_643 [] = true := by decide +kernel
set_option maxRecDepth 100000 in
theorem e_q16 : c_blk 0 kL_law_666 [] = true := by decide +kernel
set_option maxRecDepth 100000 in
theorem e_q17 : c_blk 0 kL_law_689 [] = true := by decide +kernel
set_option maxRecDepth 100000 in
theorem e_q18 : c_blk 0 kL_law_712 [] = true := by decide +kernel
set_option maxRecDepth 100000 in
theorem e_q19 : c_blk 0 kL_law_735 [] = true := by decide +kernel
set_option maxRecDepth 100000 in
theorem e_q20 : c_blk 0 kL_law_758 [] = true := by decide +kernel
set_option maxRecDepth 100000 in
theorem e_q21 : c_blk 0 kL_law_781 [] = true := by decide +kernel
set_option maxRecDepth 100000 in
theorem e_q22 : c_blk 0 kL_law_794 [] = true := by decide +kernel
set_option maxRecDepth 100000 in
theorem e_q23 : c_blk 0 kL_law_817 [] = true := by decide +kernel
set_option maxRecDepth 100000 in
theorem e_q24 : c_blk 0 kL_law_850 [] = true := by decide +kernel
set_option maxRecDepth 100000 in
theorem e_q25 : c_blk 0 kL_law_863 [] = true := by decide +kernel
set_option maxRecDepth 100000 in
theorem e_q26 : c_blk 0 kL_law_886 [] = true := by decide +kernel
set_option maxRecDepth 100000 in
theorem e_q27 : c_blk 0 kL_law_0 [[53, 54, 41], [], [], [], [685, 686, 50], [], [], [], [], [], []] = true := by decide +kernel
set_option maxRecDepth 100000 in
theorem e_q28 : c_blk 0 kL_law_18 [] = true := by decide +kernel
set_option maxRecDepth 100000 in
theorem e_q29 : c_blk 0 kL_law_900 [] = true := by decide +kernel
set_option maxRecDepth 100000 in
theorem e_q30 : c_blk 0 kL_law_906 [] = true := by decide +kernel
set_option maxRecDepth 100000 in
theorem e_q31 : c_blk 1 kX0_init_0 [[], [135, 59, 60], []] = true := by decide +kernel
set_option maxRecDepth 100000 in
theorem e_q32 : c_blk 2 kX0_copyFrom_0 [] = true := by decide +kernel
set_option maxRecDepth 100000 in
theorem e_q33 : c_blk 3 kX0_isByTime_0 [] = true := by decide +kernel
set_option maxRecDepth 100000 in
theorem e_q34 : c_blk 3 kX0_isByTime_19 [] = true := by decide +kernel
set_option maxRecDepth 100000 in
theorem e_q35 : c_blk 3 kX0_isByTime_20 [] = true := by decide +kernel
set_option maxRecDepth 100000 in
theorem e_q36 : c_blk 4 kX0_isByFlow_0 [] = true := by decide +kernel
set_option maxRecDepth 100000 in
theorem e_q37 : c_blk 4 kX0_isByFlow_19 [] = true := by decide +kernel
set_option maxRecDepth 100000 in
theorem e_q38 : c_blk 4 kX0_isByFlow_20 [] = true := by decide +kernel
set_option maxRecDepth 100000 in
theorem e_q39 : c_blk 5 kX0_isOnByTime_0 [] = true := by decide +kernel
set_option maxRecDepth 100000 in
theorem e_q40 : c_blk 5 kX0_isOnByTime_31 [] = true := by decide +kernel
set_option maxRecDepth 100000 in
theorem e_q41 : c_blk 5 kX0_isOnByTime_35 [] = true := by decide +kernel
set_option maxRecDepth 100000 in
theorem e_q42 : c_blk 5 kX0_isOnByTime_51 [] = true := by decide +kernel
set_option maxRecDepth 100000 in
theorem e_q43 : c_blk 5 kX0_isOnByTime_55 [] = true := by decide +kernel
set_option maxRecDepth 100000 in
theorem e_q44 : c_blk 5 kX0_isOnByTime_56 [] = true := by decide +kernel
set_option maxRecDepth 100000 in
theorem e_q45 : c_blk 6 kX0_supply_0 [] = true := by decide +kernel
set_option maxRecDepth 100000 in
theorem e_q46 : c_blk 6 kX0_supply_19 [] = true := by decide +kernel
set_option maxRecDepth 100000 in
theorem e_q47 : c_blk 6 kX0_supply_23 [] = true := by decide +kernel
set_option maxRecDepth 100000 in
theorem e_q48 : c_blk 6 kX0_supply_35 [] = true := by decide +kernel
set_option maxRecDepth 100000 in
theorem e_q49 : c_blk 6 kX0_supply_36 [] = true := by decide +kernel
set_option maxRecDepth 100000 in
theorem e_q50 : c_blk 7 kX0_countMinute_0 [] = true := by decide +kernel
set_option maxRecDepth 100000 in
theorem e_q51 : c_blk 7 kX0_countMinute_19 [] = true := by decide +kernel
set_option maxRecDepth 100000 in
theorem e_q52 : c_blk 7 kX0_countMinute_23 [] = true := by decide +kernel
set_option maxRecDepth 100000 in
theorem e_q53 : c_blk 7 kX0_countMinute_35 [] = true := by decide +kernel
set_option maxRecDepth 100000 in
theorem e_q54 : c_blk 7 kX0_countMinute_36 [] = true := by decide +kernel
set_option maxRecDepth 100000 in
theorem e_q55 : c_blk 7 kX0_countMinute_51 [] = true := by decide +kernel
set_option maxRecDepth 100000 in
theorem e_q56 : c_blk 7 kX0_countMinute_52 [] = true := by decide +kernel
set_option maxRecDepth 100000 in
theorem e_q57 : c_blk 8 kX0_isDue_0 [] = true := by decide +kernel
set_option maxRecDepth 100000 in
theorem e_q58 : c_blk 8 kX0_isDue_15 [] = true := by decide +kernel
set_option maxRecDepth 100000 in
theorem e_q59 : c_blk 8 kX0_isDue_16 [] = true := by decide +kernel
set_option maxRecDepth 100000 in
theorem e_q60 : c_blk 9 kX0_change_0 [] = true := by decide +kernel
set_option maxRecDepth 100000 in
theorem e_q61 : c_blk 9 kX0_change_12 [] = true := by decide +kernel
set_option maxRecDepth 100000 in
theorem e_q62 : c_blk 9 kX0_change_13 [] = true := by decide +kernel
set_option maxRecDepth 100000 in
theorem e_q63 : c_blk 10 kX1_init_0 [[], [66, 59, 60], [], [], [], [], [], [129], [], [], [], [67, 68], [], [], [], []] = true := by decide +kernel
set_option maxRecDepth 100000 in
theorem e_q64 : c_blk 10 kX1_init_30 [] = true := by decide +kernel
set_option maxRecDepth 100000 in
theorem e_q65 : c_blk 10 kX1_init_50 [] = true := by decide +kernel
set_option maxRecDepth 100000 in
theorem e_q66 : c_blk 10 kX1_init_52 [[], [], [], [], [], [], [67, 69, 43], [], [], [], [], []] = true := by decide +kernel
set_option maxRecDepth 100000 in
theorem e_q67 : c_blk 10 kX1_init_77 [] = true := by decide +kernel
set_option maxRecDepth 100000 in
theorem e_q68 : c_blk 11 kX1_copyFrom_0 [[], [], [], [], [], [], [], [], [], [], [], [], [], [], [], [], [], [], [], [], [], [], [], [373, 375, 374, 51], [], [], []] = true := by decide +kernel
set_option maxRecDepth 100000 in
theorem e_q69 : c_blk 11 kX1_copyFrom_49 [] = true := by decide +kernel
set_option maxRecDepth 100000 in
theorem e_q70 : c_blk 11 kX1_copyFrom_76 [] = true := by decide +kernel
set_option maxRecDepth 100000 in
theorem e_q71 : c_blk 12 kX1_hour_0 [[], [], [], [], [], [502, 504, 503, 52], []] = true := by decide +kernel
set_option maxRecDepth 100000 in
theorem e_q72 : c_blk 13 kX1_releaseLocks_0 [] = true := by decide +kernel
set_option maxRecDepth 100000 in
theorem e_q73 : c_blk 13 kX1_releaseLocks_2 [] = true := by decide +kernel
set_option maxRecDepth 100000 in
theorem e_q74 : c_blk 13 kX1_releaseLocks_28 [] = true := by decide +kernel
set_option maxRecDepth 100000 in
theorem e_q75 : c_blk 14 kX1_switchBanksByTime_0 [] = true := by decide +kernel
set_option maxRecDepth 100000 in
theorem e_q76 : c_blk 14 kX1_switchBanksByTime_7 [] = true := by decide +kernel
set_option maxRecDepth 100000 in
theorem e_q77 : c_blk 14 kX1_switchBanksByTime_41 [] = true := by decide +kernel
set_option maxRecDepth 100000 in
theorem e_q78 : c_blk 14 kX1_switchBanksByTime_47 [] = true := by decide +kernel
set_option maxRecDepth 100000 in
theorem e_q79 : c_blk 15 kX1_switchBankByFlow_0 [] = true := by decide +kernel
set_option maxRecDepth 100000 in
theorem e_q80 : c_blk 15 kX1_switchBankByFlow_4 [] = true := by decide +kernel
set_option maxRecDepth 100000 in
theorem e_q81 : c_blk 15 kX1_switchBankByFlow_61 [] = true := by decide +kernel
set_option maxRecDepth 100000 in
theorem e_q82 : c_blk 15 kX1_switchBankByFlow_67 [] = true := by decide +kernel
set_option maxRecDepth 100000 in
theorem e_q83 : c_blk 16 kX1_moveRegulators_0 [] = true := by decide +kernel
set_option maxRecDepth 100000 in
theorem e_q84 : c_blk 16 kX1_moveRegulators_5 [] = true := by decide +kernel
set_option maxRecDepth 100000 in
theorem e_q85 : c_blk 16 kX1_moveRegulators_81 [] = true := by decide +kernel
set_option maxRecDepth 100000 in
theorem e_q86 : c_blk 16 kX1_moveRegulators_87 [] = true := by decide +kernel
set_option maxRecDepth 100000 in
theorem e_q87 : c_blk 17 kX2_init_0 [[], [240, 59, 60], [], [], [129], [], [], [], [129], [], [], [], [129], [], []] = true := by decide +kernel
set_option maxRecDepth 100000 in
theorem e_q88 : c_blk 18 kX2_solve_0 [] = true := by decide +kernel
set_option maxRecDepth 100000 in
theorem e_q89 : c_blk 19 kX2_sumLoads_0 [] = true := by decide +kernel
set_option maxRecDepth 100000 in
theorem e_q90 : c_blk 19 kX2_sumLoads_20 [] = true := by decide +kernel
set_option maxRecDepth 100000 in
theorem e_q91 : c_blk 19 kX2_sumLoads_102 [] = true := by decide +kernel
set_option maxRecDepth 100000 in
theorem e_q92 : c_blk 20 kX2_findVoltages_0 [] = true := by decide +kernel
set_option maxRecDepth 100000 in
theorem e_q93 : c_blk 20 kX2_findVoltages_17 [] = true := by decide +kernel
set_option maxRecDepth 100000 in
theorem e_q94 : c_blk 20 kX2_findVoltages_45 [] = true := by decide +kernel
set_option maxRecDepth 100000 in
theorem e_q95 : c_blk 20 kX2_findVoltages_53 [[], [], [], [], [], [], [], [], [], [], [], [], [], [], [], [], [], [], [], [], [], [], [], [], [], [], [], [], [], [], [], [532, 534, 533, 52], [], [], [], [], [], [], [], []] = true := by decide +kernel
set_option maxRecDepth 100000 in
theorem e_q96 : c_blk 20 kX2_findVoltages_128 [] = true := by decide +kernel
set_option maxRecDepth 100000 in
theorem e_q97 : c_blk 21 kX2_countBadNodes_0 [] = true := by decide +kernel
set_option maxRecDepth 100000 in
theorem e_q98 : c_blk 21 kX2_countBadNodes_4 [] = true := by decide +kernel
set_option maxRecDepth 100000 in
theorem e_q99 : c_blk 21 kX2_countBadNodes_36 [] = true := by decide +kernel
set_option maxRecDepth 100000 in
theorem e_q100 : c_blk 21 kX2_countBadNodes_42 [] = true := by decide +kernel
set_option maxRecDepth 100000 in
theorem e_q101 : c_blk 22 kX3_init_0 [[], [313, 59, 60], [], [], [314, 315], [], [], [], []] = true := by decide +kernel
set_option maxRecDepth 100000 in
theorem e_q102 : c_blk 22 kX3_init_14 [[], [], [], [], [], [], [314, 62, 42], [], [], [], [], []] = true := by decide +kernel
set_option maxRecDepth 100000 in
theorem e_q103 : c_blk 22 kX3_init_38 [] = true := by decide +kernel
set_option maxRecDepth 100000 in
theorem e_q104 : c_blk 23 kX3_save_0 [] = true := by decide +kernel
set_option maxRecDepth 100000 in
theorem e_q105 : c_blk 23 kX3_save_12 [] = true := by decide +kernel
set_option maxRecDepth 100000 in
theorem e_q106 : c_blk 24 kX3_dropOldest_0 [] = true := by decide +kernel
set_option maxRecDepth 100000 in
theorem e_q107 : c_blk 24 kX3_dropOldest_9 [] = true := by decide +kernel
set_option maxRecDepth 100000 in
theorem e_q108 : c_blk 24 kX3_dropOldest_34 [] = true := by decide +kernel
set_option maxRecDepth 100000 in
theorem e_q109 : c_blk 25 kX3_restore_0 [] = true := by decide +kernel
set_option maxRecDepth 100000 in
theorem e_q110 : c_blk 26 kX4_init_0 [[], [73, 59, 60], [], [74, 75, 44], [], [], [], [], [130, 131, 45], [], [], [], []] = true := by decide +kernel
set_option maxRecDepth 100000 in
theorem e_q111 : c_blk 27 kX4_copyFrom_0 [] = true := by decide +kernel
set_option maxRecDepth 100000 in
theorem e_q112 : c_blk 28 kX5_init_0 [[], [262, 59, 60], [], [263, 236, 46], [], [], [], [], [], [], [265, 266, 129], [], [], [], [129], [], [], [], [129], [], []] = true := by decide +kernel
set_option maxRecDepth 100000 in
theorem e_q113 : c_blk 29 kX5_makePlan_0 [] = true := by decide +kernel
set_option maxRecDepth 100000 in
theorem e_q114 : c_blk 29 kX5_makePlan_2 [] = true := by decide +kernel
set_option maxRecDepth 100000 in
theorem e_q115 : c_blk 29 kX5_makePlan_21 [] = true := by decide +kernel
set_option maxRecDepth 100000 in
theorem e_q116 : c_blk 29 kX5_makePlan_24 [] = true := by decide +kernel
set_option maxRecDepth 100000 in
theorem e_q117 : c_blk 29 kX5_makePlan_46 [] = true := by decide +kernel
set_option maxRecDepth 100000 in
theorem e_q118 : c_blk 30 kX5_countStepsAfter_0 [] = true := by decide +kernel
set_option maxRecDepth 100000 in
theorem e_q119 : c_blk 30 kX5_countStepsAfter_13 [] = true := by decide +kernel
set_option maxRecDepth 100000 in
theorem e_q120 : c_blk 30 kX5_countStepsAfter_52 [] = true := by decide +kernel
set_option maxRecDepth 100000 in
theorem e_q121 : c_blk 30 kX5_countStepsAfter_53 [] = true := by decide +kernel
set_option maxRecDepth 100000 in
theorem e_q122 : c_blk 30 kX5_countStepsAfter_78 [[635], []] = true := by decide +kernel
set_option maxRecDepth 100000 in
theorem e_q123 : c_blk 30 kX5_countStepsAfter_80 [] = true := by decide +kernel
set_option maxRecDepth 100000 in
theorem e_q124 : c_blk 30 kX5_countStepsAfter_87 [] = true := by decide +kernel
set_option maxRecDepth 100000 in
theorem e_q125 : c_blk 31 kX5_countStepsFrom_0 [] = true := by decide +kernel
set_option maxRecDepth 100000 in
theorem e_q126 : c_blk 31 kX5_countStepsFrom_2 [] = true := by decide +kernel
set_option maxRecDepth 100000 in
theorem e_q127 : c_blk 31 kX5_countStepsFrom_28 [] = true := by decide +kernel
set_option maxRecDepth 100000 in
theorem e_q128 : c_blk 31 kX5_countStepsFrom_30 [[], [], [], [], [], [], [], [], [], [], [], [], [], [], [], [], [], [], [640, 642, 641, 52], [], [], []] = true := by decide +kernel
set_option maxRecDepth 100000 in
theorem e_q129 : c_blk 31 kX5_countStepsFrom_67 [] = true := by decide +kernel
set_option maxRecDepth 100000 in
theorem e_q130 : c_blk 31 kX5_countStepsFrom_70 [[], [], [], [], [], [], [], [], [], [], [], [], [], [], [], [], [], [640, 642, 641, 52], [], [], []] = true := by decide +kernel
set_option maxRecDepth 100000 in
theorem e_q131 : c_blk 31 kX5_countStepsFrom_105 [] = true := by decide +kernel
set_option maxRecDepth 100000 in
theorem e_q132 : c_blk 32 kX5_chooseTaps_0 [] = true := by decide +kernel
set_option maxRecDepth 100000 in
theorem e_q133 : c_blk 32 kX5_chooseTaps_9 [] = true := by decide +kernel
set_option maxRecDepth 100000 in
theorem e_q134 : c_blk 32 kX5_chooseTaps_30 [[], [], [], [], [], [], [651, 653, 652, 52], [], [], [], [], [], [], [], [], [], [], [], [], []] = true := by decide +kernel
set_option maxRecDepth 100000 in
theorem e_q135 : c_blk 32 kX5_chooseTaps_66 [] = true := by decide +kernel
set_option maxRecDepth 100000 in
theorem e_q136 : c_blk 33 kX5_bestPlace_0 [[], [], [635], [], [], [], []] = true := by decide +kernel
set_option maxRecDepth 100000 in
theorem e_q137 : c_blk 33 kX5_bestPlace_9 [[], [], [], [], [], [], [651, 653, 652, 52], [], [], [], [], [], [], [], [], [], [], [], [], [], [], [], []] = true := by decide +kernel
set_option maxRecDepth 100000 in
theorem e_q138 : c_blk 33 kX5_bestPlace_49 [] = true := by decide +kernel
set_option maxRecDepth 100000 in
theorem e_q139 : c_blk 33 kX5_bestPlace_55 [] = true := by decide +kernel
set_option maxRecDepth 100000 in
theorem e_q140 : c_blk 34 kX6_init_0 [[], [290, 59, 60], [], [], [307], [], []] = true := by decide +kernel
