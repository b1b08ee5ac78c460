/-! each op list, checked by the kernel: labels 282 to 422 -/
set_option maxRecDepth 100000 in
theorem e_q282 : c_blk 78 kX8_mixBank_0 [] = true := by decide +kernel
set_option maxRecDepth 100000 in
theorem e_q283 : c_blk 78 kX8_mixBank_21 [] = true := by decide +kernel
set_option maxRecDepth 100000 in
theorem e_q284 : c_blk 79 kX8_mix_0 [[678], [], [], [], [], [], []] = true := by decide +kernel
set_option maxRecDepth 100000 in
theorem e_q285 : c_blk 80 kX8_isWithin_0 [] = true := by decide +kernel
set_option maxRecDepth 100000 in
theorem e_q286 : c_blk 80 kX8_isWithin_14 [] = true := by decide +kernel
set_option maxRecDepth 100000 in
theorem e_q287 : c_blk 80 kX8_isWithin_15 [] = true := by decide +kernel
set_option maxRecDepth 100000 in
theorem e_q288 : c_blk 81 kX8_isHour_0 [] = true := by decide +kernel
set_option maxRecDepth 100000 in
theorem e_q289 : c_blk 82 kX8_isLoad_0 [] = true := by decide +kernel
set_option maxRecDepth 100000 in
theorem e_q290 : c_blk 82 kX8_isLoad_30 [] = true := by decide +kernel
set_option maxRecDepth 100000 in
theorem e_q291 : c_blk 82 kX8_isLoad_31 [] = true := by decide +kernel
set_option maxRecDepth 100000 in
theorem e_q292 : c_blk 83 kX8_areBankSettings_0 [] = true := by decide +kernel
set_option maxRecDepth 100000 in
theorem e_q293 : c_blk 83 kX8_areBankSettings_23 [] = true := by decide +kernel
set_option maxRecDepth 100000 in
theorem e_q294 : c_blk 83 kX8_areBankSettings_24 [] = true := by decide +kernel
set_option maxRecDepth 100000 in
theorem e_q295 : c_blk 83 kX8_areBankSettings_25 [] = true := by decide +kernel
set_option maxRecDepth 100000 in
theorem e_q296 : c_blk 83 kX8_areBankSettings_65 [] = true := by decide +kernel
set_option maxRecDepth 100000 in
theorem e_q297 : c_blk 83 kX8_areBankSettings_66 [] = true := by decide +kernel
set_option maxRecDepth 100000 in
theorem e_q298 : c_blk 83 kX8_areBankSettings_67 [] = true := by decide +kernel
set_option maxRecDepth 100000 in
theorem e_q299 : c_blk 83 kX8_areBankSettings_75 [] = true := by decide +kernel
set_option maxRecDepth 100000 in
theorem e_q300 : c_blk 83 kX8_areBankSettings_76 [] = true := by decide +kernel
set_option maxRecDepth 100000 in
theorem e_q301 : c_blk 84 kX8_bit_0 [] = true := by decide +kernel
set_option maxRecDepth 100000 in
theorem e_q302 : c_blk 84 kX8_bit_8 [] = true := by decide +kernel
set_option maxRecDepth 100000 in
theorem e_q303 : c_blk 84 kX8_bit_9 [] = true := by decide +kernel
set_option maxRecDepth 100000 in
theorem e_q304 : c_blk 85 kX8_hasNode_0 [] = true := by decide +kernel
set_option maxRecDepth 100000 in
theorem e_q305 : c_blk 86 kX8_regulatorFault_0 [] = true := by decide +kernel
set_option maxRecDepth 100000 in
theorem e_q306 : c_blk 86 kX8_regulatorFault_11 [] = true := by decide +kernel
set_option maxRecDepth 100000 in
theorem e_q307 : c_blk 86 kX8_regulatorFault_33 [] = true := by decide +kernel
set_option maxRecDepth 100000 in
theorem e_q308 : c_blk 86 kX8_regulatorFault_35 [] = true := by decide +kernel
set_option maxRecDepth 100000 in
theorem e_q309 : c_blk 87 kX8_bankFault_0 [] = true := by decide +kernel
set_option maxRecDepth 100000 in
theorem e_q310 : c_blk 87 kX8_bankFault_11 [] = true := by decide +kernel
set_option maxRecDepth 100000 in
theorem e_q311 : c_blk 87 kX8_bankFault_33 [] = true := by decide +kernel
set_option maxRecDepth 100000 in
theorem e_q312 : c_blk 87 kX8_bankFault_35 [] = true := by decide +kernel
set_option maxRecDepth 100000 in
theorem e_q313 : c_blk 88 kX8_isErrorCode_0 [] = true := by decide +kernel
set_option maxRecDepth 100000 in
theorem e_q314 : c_blk 89 kX8_refuse_0 [] = true := by decide +kernel
set_option maxRecDepth 100000 in
theorem e_q315 : c_blk 89 kX8_refuse_20 [] = true := by decide +kernel
set_option maxRecDepth 100000 in
theorem e_q316 : c_blk 90 kX9_init_0 [[], [690, 59, 60], [], [], [129], [], [], [], [129], [], [], [], [129], [], [], [], [129], [], [], [], [129], [], [], [], [129], [], [], [], [129], [], [], [], [129], [], [], [], [129], [], [], [], [], [], [], [], [], []] = true := by decide +kernel
set_option maxRecDepth 100000 in
theorem e_q317 : c_blk 90 kX9_init_90 [] = true := by decide +kernel
set_option maxRecDepth 100000 in
theorem e_q318 : c_blk 90 kX9_init_112 [] = true := by decide +kernel
set_option maxRecDepth 100000 in
theorem e_q319 : c_blk 91 kX9_in_0 [] = true := by decide +kernel
set_option maxRecDepth 100000 in
theorem e_q320 : c_blk 91 kX9_in_14 [] = true := by decide +kernel
set_option maxRecDepth 100000 in
theorem e_q321 : c_blk 91 kX9_in_15 [] = true := by decide +kernel
set_option maxRecDepth 100000 in
theorem e_q322 : c_blk 92 kX9_error_0 [] = true := by decide +kernel
set_option maxRecDepth 100000 in
theorem e_q323 : c_blk 93 kX9_isNode_0 [] = true := by decide +kernel
set_option maxRecDepth 100000 in
theorem e_q324 : c_blk 94 kX9_spot_0 [] = true := by decide +kernel
set_option maxRecDepth 100000 in
theorem e_q325 : c_blk 95 kX9_of_0 [] = true := by decide +kernel
set_option maxRecDepth 100000 in
theorem e_q326 : c_blk 96 kX9_put_0 [] = true := by decide +kernel
set_option maxRecDepth 100000 in
theorem e_q327 : c_blk 97 kX9_save_0 [] = true := by decide +kernel
set_option maxRecDepth 100000 in
theorem e_q328 : c_blk 97 kX9_save_10 [] = true := by decide +kernel
set_option maxRecDepth 100000 in
theorem e_q329 : c_blk 97 kX9_save_39 [] = true := by decide +kernel
set_option maxRecDepth 100000 in
theorem e_q330 : c_blk 97 kX9_save_49 [] = true := by decide +kernel
set_option maxRecDepth 100000 in
theorem e_q331 : c_blk 97 kX9_save_51 [] = true := by decide +kernel
set_option maxRecDepth 100000 in
theorem e_q332 : c_blk 97 kX9_save_85 [] = true := by decide +kernel
set_option maxRecDepth 100000 in
theorem e_q333 : c_blk 98 kX9_setSource_0 [] = true := by decide +kernel
set_option maxRecDepth 100000 in
theorem e_q334 : c_blk 98 kX9_setSource_20 [] = true := by decide +kernel
set_option maxRecDepth 100000 in
theorem e_q335 : c_blk 99 kX9_isLoad_0 [] = true := by decide +kernel
set_option maxRecDepth 100000 in
theorem e_q336 : c_blk 99 kX9_isLoad_30 [] = true := by decide +kernel
set_option maxRecDepth 100000 in
theorem e_q337 : c_blk 99 kX9_isLoad_31 [] = true := by decide +kernel
set_option maxRecDepth 100000 in
theorem e_q338 : c_blk 100 kX9_addNode_0 [] = true := by decide +kernel
set_option maxRecDepth 100000 in
theorem e_q339 : c_blk 100 kX9_addNode_29 [] = true := by decide +kernel
set_option maxRecDepth 100000 in
theorem e_q340 : c_blk 100 kX9_addNode_36 [] = true := by decide +kernel
set_option maxRecDepth 100000 in
theorem e_q341 : c_blk 100 kX9_addNode_54 [] = true := by decide +kernel
set_option maxRecDepth 100000 in
theorem e_q342 : c_blk 100 kX9_addNode_79 [] = true := by decide +kernel
set_option maxRecDepth 100000 in
theorem e_q343 : c_blk 100 kX9_addNode_101 [] = true := by decide +kernel
set_option maxRecDepth 100000 in
theorem e_q344 : c_blk 101 kX9_setLoad_0 [] = true := by decide +kernel
set_option maxRecDepth 100000 in
theorem e_q345 : c_blk 101 kX9_setLoad_16 [] = true := by decide +kernel
set_option maxRecDepth 100000 in
theorem e_q346 : c_blk 101 kX9_setLoad_23 [] = true := by decide +kernel
set_option maxRecDepth 100000 in
theorem e_q347 : c_blk 102 kX9_setFactor_0 [] = true := by decide +kernel
set_option maxRecDepth 100000 in
theorem e_q348 : c_blk 102 kX9_setFactor_21 [] = true := by decide +kernel
set_option maxRecDepth 100000 in
theorem e_q349 : c_blk 102 kX9_setFactor_28 [] = true := by decide +kernel
set_option maxRecDepth 100000 in
theorem e_q350 : c_blk 103 kX9_append_0 [] = true := by decide +kernel
set_option maxRecDepth 100000 in
theorem e_q351 : c_blk 103 kX9_append_17 [] = true := by decide +kernel
set_option maxRecDepth 100000 in
theorem e_q352 : c_blk 103 kX9_append_33 [] = true := by decide +kernel
set_option maxRecDepth 100000 in
theorem e_q353 : c_blk 104 kX9_clearText_0 [] = true := by decide +kernel
set_option maxRecDepth 100000 in
theorem e_q354 : c_blk 105 kX9_next_0 [] = true := by decide +kernel
set_option maxRecDepth 100000 in
theorem e_q355 : c_blk 105 kX9_next_38 [] = true := by decide +kernel
set_option maxRecDepth 100000 in
theorem e_q356 : c_blk 105 kX9_next_61 [] = true := by decide +kernel
set_option maxRecDepth 100000 in
theorem e_q357 : c_blk 105 kX9_next_62 [] = true := by decide +kernel
set_option maxRecDepth 100000 in
theorem e_q358 : c_blk 106 kX9_takes_0 [] = true := by decide +kernel
set_option maxRecDepth 100000 in
theorem e_q359 : c_blk 106 kX9_takes_12 [] = true := by decide +kernel
set_option maxRecDepth 100000 in
theorem e_q360 : c_blk 106 kX9_takes_13 [] = true := by decide +kernel
set_option maxRecDepth 100000 in
theorem e_q361 : c_blk 106 kX9_takes_27 [] = true := by decide +kernel
set_option maxRecDepth 100000 in
theorem e_q362 : c_blk 106 kX9_takes_28 [] = true := by decide +kernel
set_option maxRecDepth 100000 in
theorem e_q363 : c_blk 107 kX9_number_0 [] = true := by decide +kernel
set_option maxRecDepth 100000 in
theorem e_q364 : c_blk 107 kX9_number_13 [] = true := by decide +kernel
set_option maxRecDepth 100000 in
theorem e_q365 : c_blk 107 kX9_number_86 [] = true := by decide +kernel
set_option maxRecDepth 100000 in
theorem e_q366 : c_blk 107 kX9_number_130 [] = true := by decide +kernel
set_option maxRecDepth 100000 in
theorem e_q367 : c_blk 107 kX9_number_131 [] = true := by decide +kernel
set_option maxRecDepth 100000 in
theorem e_q368 : c_blk 107 kX9_number_146 [] = true := by decide +kernel
set_option maxRecDepth 100000 in
theorem e_q369 : c_blk 107 kX9_number_148 [] = true := by decide +kernel
set_option maxRecDepth 100000 in
theorem e_q370 : c_blk 107 kX9_number_165 [] = true := by decide +kernel
set_option maxRecDepth 100000 in
theorem e_q371 : c_blk 108 kX9_readsItem_0 [] = true := by decide +kernel
set_option maxRecDepth 100000 in
theorem e_q372 : c_blk 108 kX9_readsItem_14 [] = true := by decide +kernel
set_option maxRecDepth 100000 in
theorem e_q373 : c_blk 108 kX9_readsItem_39 [] = true := by decide +kernel
set_option maxRecDepth 100000 in
theorem e_q374 : c_blk 108 kX9_readsItem_50 [] = true := by decide +kernel
set_option maxRecDepth 100000 in
theorem e_q375 : c_blk 108 kX9_readsItem_72 [] = true := by decide +kernel
set_option maxRecDepth 100000 in
theorem e_q376 : c_blk 108 kX9_readsItem_74 [] = true := by decide +kernel
set_option maxRecDepth 100000 in
theorem e_q377 : c_blk 108 kX9_readsItem_77 [] = true := by decide +kernel
set_option maxRecDepth 100000 in
theorem e_q378 : c_blk 108 kX9_readsItem_97 [] = true := by decide +kernel
set_option maxRecDepth 100000 in
theorem e_q379 : c_blk 109 kX9_parseProfile_0 [] = true := by decide +kernel
set_option maxRecDepth 100000 in
theorem e_q380 : c_blk 109 kX9_parseProfile_2 [] = true := by decide +kernel
set_option maxRecDepth 100000 in
theorem e_q381 : c_blk 109 kX9_parseProfile_28 [] = true := by decide +kernel
set_option maxRecDepth 100000 in
theorem e_q382 : c_blk 109 kX9_parseProfile_35 [] = true := by decide +kernel
set_option maxRecDepth 100000 in
theorem e_q383 : c_blk 109 kX9_parseProfile_57 [] = true := by decide +kernel
set_option maxRecDepth 100000 in
theorem e_q384 : c_blk 109 kX9_parseProfile_63 [] = true := by decide +kernel
set_option maxRecDepth 100000 in
theorem e_q385 : c_blk 109 kX9_parseProfile_69 [] = true := by decide +kernel
set_option maxRecDepth 100000 in
theorem e_q386 : c_blk 109 kX9_parseProfile_95 [] = true := by decide +kernel
set_option maxRecDepth 100000 in
theorem e_q387 : c_blk 110 kX9_addRegulator_0 [] = true := by decide +kernel
set_option maxRecDepth 100000 in
theorem e_q388 : c_blk 110 kX9_addRegulator_54 [] = true := by decide +kernel
set_option maxRecDepth 100000 in
theorem e_q389 : c_blk 110 kX9_addRegulator_61 [] = true := by decide +kernel
set_option maxRecDepth 100000 in
theorem e_q390 : c_blk 110 kX9_addRegulator_78 [] = true := by decide +kernel
set_option maxRecDepth 100000 in
theorem e_q391 : c_blk 111 kX9_lacks_0 [] = true := by decide +kernel
set_option maxRecDepth 100000 in
theorem e_q392 : c_blk 111 kX9_lacks_13 [] = true := by decide +kernel
set_option maxRecDepth 100000 in
theorem e_q393 : c_blk 111 kX9_lacks_27 [] = true := by decide +kernel
set_option maxRecDepth 100000 in
theorem e_q394 : c_blk 111 kX9_lacks_28 [] = true := by decide +kernel
set_option maxRecDepth 100000 in
theorem e_q395 : c_blk 112 kX9_setTap_0 [] = true := by decide +kernel
set_option maxRecDepth 100000 in
theorem e_q396 : c_blk 112 kX9_setTap_20 [] = true := by decide +kernel
set_option maxRecDepth 100000 in
theorem e_q397 : c_blk 112 kX9_setTap_22 [] = true := by decide +kernel
set_option maxRecDepth 100000 in
theorem e_q398 : c_blk 112 kX9_setTap_33 [] = true := by decide +kernel
set_option maxRecDepth 100000 in
theorem e_q399 : c_blk 113 kX9_addBank_0 [] = true := by decide +kernel
set_option maxRecDepth 100000 in
theorem e_q400 : c_blk 113 kX9_addBank_27 [] = true := by decide +kernel
set_option maxRecDepth 100000 in
theorem e_q401 : c_blk 113 kX9_addBank_31 [] = true := by decide +kernel
set_option maxRecDepth 100000 in
theorem e_q402 : c_blk 113 kX9_addBank_32 [] = true := by decide +kernel
set_option maxRecDepth 100000 in
theorem e_q403 : c_blk 113 kX9_addBank_74 [] = true := by decide +kernel
set_option maxRecDepth 100000 in
theorem e_q404 : c_blk 113 kX9_addBank_78 [] = true := by decide +kernel
set_option maxRecDepth 100000 in
theorem e_q405 : c_blk 113 kX9_addBank_79 [] = true := by decide +kernel
set_option maxRecDepth 100000 in
theorem e_q406 : c_blk 113 kX9_addBank_130 [] = true := by decide +kernel
set_option maxRecDepth 100000 in
theorem e_q407 : c_blk 113 kX9_addBank_137 [] = true := by decide +kernel
set_option maxRecDepth 100000 in
theorem e_q408 : c_blk 113 kX9_addBank_155 [] = true := by decide +kernel
set_option maxRecDepth 100000 in
theorem e_q409 : c_blk 114 kX9_switchBank_0 [] = true := by decide +kernel
set_option maxRecDepth 100000 in
theorem e_q410 : c_blk 114 kX9_switchBank_19 [] = true := by decide +kernel
set_option maxRecDepth 100000 in
theorem e_q411 : c_blk 114 kX9_switchBank_21 [] = true := by decide +kernel
set_option maxRecDepth 100000 in
theorem e_q412 : c_blk 114 kX9_switchBank_32 [] = true := by decide +kernel
set_option maxRecDepth 100000 in
theorem e_q413 : c_blk 115 kX9_hour_0 [] = true := by decide +kernel
set_option maxRecDepth 100000 in
theorem e_q414 : c_blk 116 kX9_isTime_0 [] = true := by decide +kernel
set_option maxRecDepth 100000 in
theorem e_q415 : c_blk 116 kX9_isTime_38 [] = true := by decide +kernel
set_option maxRecDepth 100000 in
theorem e_q416 : c_blk 116 kX9_isTime_42 [] = true := by decide +kernel
set_option maxRecDepth 100000 in
theorem e_q417 : c_blk 116 kX9_isTime_53 [] = true := by decide +kernel
set_option maxRecDepth 100000 in
theorem e_q418 : c_blk 116 kX9_isTime_57 [] = true := by decide +kernel
set_option maxRecDepth 100000 in
theorem e_q419 : c_blk 116 kX9_isTime_58 [] = true := by decide +kernel
set_option maxRecDepth 100000 in
theorem e_q420 : c_blk 117 kX9_compute_0 [] = true := by decide +kernel
set_option maxRecDepth 100000 in
theorem e_q421 : c_blk 117 kX9_compute_14 [] = true := by decide +kernel
set_option maxRecDepth 100000 in
theorem e_q422 : c_blk 117 kX9_compute_93 [] = true := by decide +kernel
