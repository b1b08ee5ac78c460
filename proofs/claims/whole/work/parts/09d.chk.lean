/-! each op list, checked by the kernel: labels 423 to 561 -/
set_option maxRecDepth 100000 in
theorem e_q423 : c_blk 117 kX9_compute_109 [] = true := by decide +kernel
set_option maxRecDepth 100000 in
theorem e_q424 : c_blk 117 kX9_compute_110 [] = true := by decide +kernel
set_option maxRecDepth 100000 in
theorem e_q425 : c_blk 117 kX9_compute_142 [] = true := by decide +kernel
set_option maxRecDepth 100000 in
theorem e_q426 : c_blk 117 kX9_compute_143 [] = true := by decide +kernel
set_option maxRecDepth 100000 in
theorem e_q427 : c_blk 117 kX9_compute_170 [] = true := by decide +kernel
set_option maxRecDepth 100000 in
theorem e_q428 : c_blk 117 kX9_compute_185 [] = true := by decide +kernel
set_option maxRecDepth 100000 in
theorem e_q429 : c_blk 117 kX9_compute_207 [] = true := by decide +kernel
set_option maxRecDepth 100000 in
theorem e_q430 : c_blk 117 kX9_compute_215 [] = true := by decide +kernel
set_option maxRecDepth 100000 in
theorem e_q431 : c_blk 117 kX9_compute_251 [] = true := by decide +kernel
set_option maxRecDepth 100000 in
theorem e_q432 : c_blk 117 kX9_compute_260 [] = true := by decide +kernel
set_option maxRecDepth 100000 in
theorem e_q433 : c_blk 117 kX9_compute_316 [] = true := by decide +kernel
set_option maxRecDepth 100000 in
theorem e_q434 : c_blk 117 kX9_compute_318 [] = true := by decide +kernel
set_option maxRecDepth 100000 in
theorem e_q435 : c_blk 117 kX9_compute_325 [] = true := by decide +kernel
set_option maxRecDepth 100000 in
theorem e_q436 : c_blk 118 kX9_outside_0 [] = true := by decide +kernel
set_option maxRecDepth 100000 in
theorem e_q437 : c_blk 118 kX9_outside_4 [] = true := by decide +kernel
set_option maxRecDepth 100000 in
theorem e_q438 : c_blk 118 kX9_outside_37 [] = true := by decide +kernel
set_option maxRecDepth 100000 in
theorem e_q439 : c_blk 118 kX9_outside_38 [] = true := by decide +kernel
set_option maxRecDepth 100000 in
theorem e_q440 : c_blk 118 kX9_outside_46 [] = true := by decide +kernel
set_option maxRecDepth 100000 in
theorem e_q441 : c_blk 119 kX9_computeNow_0 [] = true := by decide +kernel
set_option maxRecDepth 100000 in
theorem e_q442 : c_blk 120 kX9_unlocks_0 [] = true := by decide +kernel
set_option maxRecDepth 100000 in
theorem e_q443 : c_blk 120 kX9_unlocks_2 [] = true := by decide +kernel
set_option maxRecDepth 100000 in
theorem e_q444 : c_blk 120 kX9_unlocks_34 [] = true := by decide +kernel
set_option maxRecDepth 100000 in
theorem e_q445 : c_blk 121 kX9_switches_0 [] = true := by decide +kernel
set_option maxRecDepth 100000 in
theorem e_q446 : c_blk 121 kX9_switches_4 [] = true := by decide +kernel
set_option maxRecDepth 100000 in
theorem e_q447 : c_blk 121 kX9_switches_66 [] = true := by decide +kernel
set_option maxRecDepth 100000 in
theorem e_q448 : c_blk 121 kX9_switches_70 [] = true := by decide +kernel
set_option maxRecDepth 100000 in
theorem e_q449 : c_blk 121 kX9_switches_90 [] = true := by decide +kernel
set_option maxRecDepth 100000 in
theorem e_q450 : c_blk 121 kX9_switches_91 [] = true := by decide +kernel
set_option maxRecDepth 100000 in
theorem e_q451 : c_blk 121 kX9_switches_112 [] = true := by decide +kernel
set_option maxRecDepth 100000 in
theorem e_q452 : c_blk 121 kX9_switches_113 [] = true := by decide +kernel
set_option maxRecDepth 100000 in
theorem e_q453 : c_blk 121 kX9_switches_167 [] = true := by decide +kernel
set_option maxRecDepth 100000 in
theorem e_q454 : c_blk 121 kX9_switches_173 [] = true := by decide +kernel
set_option maxRecDepth 100000 in
theorem e_q455 : c_blk 122 kX9_wants_0 [] = true := by decide +kernel
set_option maxRecDepth 100000 in
theorem e_q456 : c_blk 122 kX9_wants_20 [] = true := by decide +kernel
set_option maxRecDepth 100000 in
theorem e_q457 : c_blk 122 kX9_wants_31 [] = true := by decide +kernel
set_option maxRecDepth 100000 in
theorem e_q458 : c_blk 122 kX9_wants_33 [] = true := by decide +kernel
set_option maxRecDepth 100000 in
theorem e_q459 : c_blk 122 kX9_wants_72 [] = true := by decide +kernel
set_option maxRecDepth 100000 in
theorem e_q460 : c_blk 122 kX9_wants_73 [] = true := by decide +kernel
set_option maxRecDepth 100000 in
theorem e_q461 : c_blk 122 kX9_wants_113 [] = true := by decide +kernel
set_option maxRecDepth 100000 in
theorem e_q462 : c_blk 122 kX9_wants_114 [] = true := by decide +kernel
set_option maxRecDepth 100000 in
theorem e_q463 : c_blk 122 kX9_wants_123 [] = true := by decide +kernel
set_option maxRecDepth 100000 in
theorem e_q464 : c_blk 122 kX9_wants_131 [] = true := by decide +kernel
set_option maxRecDepth 100000 in
theorem e_q465 : c_blk 122 kX9_wants_132 [] = true := by decide +kernel
set_option maxRecDepth 100000 in
theorem e_q466 : c_blk 123 kX9_goes_0 [] = true := by decide +kernel
set_option maxRecDepth 100000 in
theorem e_q467 : c_blk 123 kX9_goes_95 [] = true := by decide +kernel
set_option maxRecDepth 100000 in
theorem e_q468 : c_blk 123 kX9_goes_96 [] = true := by decide +kernel
set_option maxRecDepth 100000 in
theorem e_q469 : c_blk 123 kX9_goes_99 [] = true := by decide +kernel
set_option maxRecDepth 100000 in
theorem e_q470 : c_blk 124 kX9_regulates_0 [] = true := by decide +kernel
set_option maxRecDepth 100000 in
theorem e_q471 : c_blk 124 kX9_regulates_4 [] = true := by decide +kernel
set_option maxRecDepth 100000 in
theorem e_q472 : c_blk 124 kX9_regulates_44 [] = true := by decide +kernel
set_option maxRecDepth 100000 in
theorem e_q473 : c_blk 124 kX9_regulates_61 [] = true := by decide +kernel
set_option maxRecDepth 100000 in
theorem e_q474 : c_blk 124 kX9_regulates_70 [] = true := by decide +kernel
set_option maxRecDepth 100000 in
theorem e_q475 : c_blk 124 kX9_regulates_121 [] = true := by decide +kernel
set_option maxRecDepth 100000 in
theorem e_q476 : c_blk 124 kX9_regulates_127 [] = true := by decide +kernel
set_option maxRecDepth 100000 in
theorem e_q477 : c_blk 125 kX9_passes_0 [] = true := by decide +kernel
set_option maxRecDepth 100000 in
theorem e_q478 : c_blk 125 kX9_passes_26 [] = true := by decide +kernel
set_option maxRecDepth 100000 in
theorem e_q479 : c_blk 125 kX9_passes_28 [] = true := by decide +kernel
set_option maxRecDepth 100000 in
theorem e_q480 : c_blk 125 kX9_passes_80 [] = true := by decide +kernel
set_option maxRecDepth 100000 in
theorem e_q481 : c_blk 125 kX9_passes_81 [] = true := by decide +kernel
set_option maxRecDepth 100000 in
theorem e_q482 : c_blk 125 kX9_passes_84 [] = true := by decide +kernel
set_option maxRecDepth 100000 in
theorem e_q483 : c_blk 125 kX9_passes_90 [] = true := by decide +kernel
set_option maxRecDepth 100000 in
theorem e_q484 : c_blk 125 kX9_passes_108 [] = true := by decide +kernel
set_option maxRecDepth 100000 in
theorem e_q485 : c_blk 125 kX9_passes_109 [] = true := by decide +kernel
set_option maxRecDepth 100000 in
theorem e_q486 : c_blk 125 kX9_passes_138 [] = true := by decide +kernel
set_option maxRecDepth 100000 in
theorem e_q487 : c_blk 125 kX9_passes_142 [] = true := by decide +kernel
set_option maxRecDepth 100000 in
theorem e_q488 : c_blk 125 kX9_passes_143 [] = true := by decide +kernel
set_option maxRecDepth 100000 in
theorem e_q489 : c_blk 126 kX9_run_0 [] = true := by decide +kernel
set_option maxRecDepth 100000 in
theorem e_q490 : c_blk 126 kX9_run_18 [] = true := by decide +kernel
set_option maxRecDepth 100000 in
theorem e_q491 : c_blk 126 kX9_run_26 [] = true := by decide +kernel
set_option maxRecDepth 100000 in
theorem e_q492 : c_blk 126 kX9_run_44 [] = true := by decide +kernel
set_option maxRecDepth 100000 in
theorem e_q493 : c_blk 127 kX9_minute_0 [] = true := by decide +kernel
set_option maxRecDepth 100000 in
theorem e_q494 : c_blk 128 kX9_voltage_0 [] = true := by decide +kernel
set_option maxRecDepth 100000 in
theorem e_q495 : c_blk 128 kX9_voltage_19 [] = true := by decide +kernel
set_option maxRecDepth 100000 in
theorem e_q496 : c_blk 129 kX9_activeFlow_0 [] = true := by decide +kernel
set_option maxRecDepth 100000 in
theorem e_q497 : c_blk 129 kX9_activeFlow_15 [] = true := by decide +kernel
set_option maxRecDepth 100000 in
theorem e_q498 : c_blk 130 kX9_reactiveFlow_0 [] = true := by decide +kernel
set_option maxRecDepth 100000 in
theorem e_q499 : c_blk 130 kX9_reactiveFlow_15 [] = true := by decide +kernel
set_option maxRecDepth 100000 in
theorem e_q500 : c_blk 131 kX9_told_0 [] = true := by decide +kernel
set_option maxRecDepth 100000 in
theorem e_q501 : c_blk 131 kX9_told_22 [] = true := by decide +kernel
set_option maxRecDepth 100000 in
theorem e_q502 : c_blk 131 kX9_told_31 [] = true := by decide +kernel
set_option maxRecDepth 100000 in
theorem e_q503 : c_blk 132 kX9_tap_0 [] = true := by decide +kernel
set_option maxRecDepth 100000 in
theorem e_q504 : c_blk 133 kX9_timer_0 [] = true := by decide +kernel
set_option maxRecDepth 100000 in
theorem e_q505 : c_blk 134 kX9_isLocked_0 [] = true := by decide +kernel
set_option maxRecDepth 100000 in
theorem e_q506 : c_blk 135 kX9_steps_0 [] = true := by decide +kernel
set_option maxRecDepth 100000 in
theorem e_q507 : c_blk 136 kX9_isOn_0 [] = true := by decide +kernel
set_option maxRecDepth 100000 in
theorem e_q508 : c_blk 137 kX9_violations_0 [] = true := by decide +kernel
set_option maxRecDepth 100000 in
theorem e_q509 : c_blk 138 kX9_apart_0 [] = true := by decide +kernel
set_option maxRecDepth 100000 in
theorem e_q510 : c_blk 138 kX9_apart_11 [] = true := by decide +kernel
set_option maxRecDepth 100000 in
theorem e_q511 : c_blk 138 kX9_apart_14 [] = true := by decide +kernel
set_option maxRecDepth 100000 in
theorem e_q512 : c_blk 139 kX9_best_0 [[], [], [929], [], [], [], []] = true := by decide +kernel
set_option maxRecDepth 100000 in
theorem e_q513 : c_blk 139 kX9_best_9 [[], [], [], [], [], [], [], [], [], [], [], [], [], [], [], [], [], [], [], [], [], [], [], [], [929], [], [], [], [], [], [], [], [], []] = true := by decide +kernel
set_option maxRecDepth 100000 in
theorem e_q514 : c_blk 139 kX9_best_68 [] = true := by decide +kernel
set_option maxRecDepth 100000 in
theorem e_q515 : c_blk 139 kX9_best_74 [] = true := by decide +kernel
set_option maxRecDepth 100000 in
theorem e_q516 : c_blk 140 kX9_plans_0 [] = true := by decide +kernel
set_option maxRecDepth 100000 in
theorem e_q517 : c_blk 140 kX9_plans_5 [] = true := by decide +kernel
set_option maxRecDepth 100000 in
theorem e_q518 : c_blk 140 kX9_plans_15 [] = true := by decide +kernel
set_option maxRecDepth 100000 in
theorem e_q519 : c_blk 140 kX9_plans_44 [] = true := by decide +kernel
set_option maxRecDepth 100000 in
theorem e_q520 : c_blk 140 kX9_plans_48 [] = true := by decide +kernel
set_option maxRecDepth 100000 in
theorem e_q521 : c_blk 140 kX9_plans_57 [] = true := by decide +kernel
set_option maxRecDepth 100000 in
theorem e_q522 : c_blk 140 kX9_plans_68 [] = true := by decide +kernel
set_option maxRecDepth 100000 in
theorem e_q523 : c_blk 140 kX9_plans_90 [] = true := by decide +kernel
set_option maxRecDepth 100000 in
theorem e_q524 : c_blk 140 kX9_plans_115 [[929], []] = true := by decide +kernel
set_option maxRecDepth 100000 in
theorem e_q525 : c_blk 140 kX9_plans_117 [] = true := by decide +kernel
set_option maxRecDepth 100000 in
theorem e_q526 : c_blk 140 kX9_plans_130 [] = true := by decide +kernel
set_option maxRecDepth 100000 in
theorem e_q527 : c_blk 140 kX9_plans_134 [] = true := by decide +kernel
set_option maxRecDepth 100000 in
theorem e_q528 : c_blk 140 kX9_plans_135 [] = true := by decide +kernel
set_option maxRecDepth 100000 in
theorem e_q529 : c_blk 140 kX9_plans_143 [] = true := by decide +kernel
set_option maxRecDepth 100000 in
theorem e_q530 : c_blk 140 kX9_plans_156 [] = true := by decide +kernel
set_option maxRecDepth 100000 in
theorem e_q531 : c_blk 140 kX9_plans_157 [] = true := by decide +kernel
set_option maxRecDepth 100000 in
theorem e_q532 : c_blk 140 kX9_plans_164 [] = true := by decide +kernel
set_option maxRecDepth 100000 in
theorem e_q533 : c_blk 141 kX9_lacksPlan_0 [] = true := by decide +kernel
set_option maxRecDepth 100000 in
theorem e_q534 : c_blk 141 kX9_lacksPlan_15 [] = true := by decide +kernel
set_option maxRecDepth 100000 in
theorem e_q535 : c_blk 141 kX9_lacksPlan_27 [] = true := by decide +kernel
set_option maxRecDepth 100000 in
theorem e_q536 : c_blk 141 kX9_lacksPlan_29 [] = true := by decide +kernel
set_option maxRecDepth 100000 in
theorem e_q537 : c_blk 142 kX9_planSteps_0 [] = true := by decide +kernel
set_option maxRecDepth 100000 in
theorem e_q538 : c_blk 142 kX9_planSteps_16 [] = true := by decide +kernel
set_option maxRecDepth 100000 in
theorem e_q539 : c_blk 143 kX9_planTap_0 [] = true := by decide +kernel
set_option maxRecDepth 100000 in
theorem e_q540 : c_blk 143 kX9_planTap_18 [] = true := by decide +kernel
set_option maxRecDepth 100000 in
theorem e_q541 : c_blk 143 kX9_planTap_20 [] = true := by decide +kernel
set_option maxRecDepth 100000 in
theorem e_q542 : c_blk 143 kX9_planTap_31 [] = true := by decide +kernel
set_option maxRecDepth 100000 in
theorem e_q543 : c_blk 143 kX9_planTap_46 [] = true := by decide +kernel
set_option maxRecDepth 100000 in
theorem e_q544 : c_blk 143 kX9_planTap_68 [] = true := by decide +kernel
set_option maxRecDepth 100000 in
theorem e_q545 : c_blk 144 kX9_undo_0 [] = true := by decide +kernel
set_option maxRecDepth 100000 in
theorem e_q546 : c_blk 144 kX9_undo_14 [] = true := by decide +kernel
set_option maxRecDepth 100000 in
theorem e_q547 : c_blk 144 kX9_undo_26 [] = true := by decide +kernel
set_option maxRecDepth 100000 in
theorem e_q548 : c_blk 144 kX9_undo_60 [] = true := by decide +kernel
set_option maxRecDepth 100000 in
theorem e_q549 : c_blk 145 kX9_errorCount_0 [] = true := by decide +kernel
set_option maxRecDepth 100000 in
theorem e_q550 : c_blk 145 kX9_errorCount_21 [] = true := by decide +kernel
set_option maxRecDepth 100000 in
theorem e_q551 : c_blk 145 kX9_errorCount_27 [] = true := by decide +kernel
set_option maxRecDepth 100000 in
theorem e_q552 : c_blk 146 kX9_mixed_0 [[953], [], [], [], [], []] = true := by decide +kernel
set_option maxRecDepth 100000 in
theorem e_q553 : c_blk 147 kX9_digest_0 [[], [], [949], [], [], [], []] = true := by decide +kernel
set_option maxRecDepth 100000 in
theorem e_q554 : c_blk 147 kX9_digest_10 [] = true := by decide +kernel
set_option maxRecDepth 100000 in
theorem e_q555 : c_blk 147 kX9_digest_34 [] = true := by decide +kernel
set_option maxRecDepth 100000 in
theorem e_q556 : c_blk 147 kX9_digest_66 [] = true := by decide +kernel
set_option maxRecDepth 100000 in
theorem e_q557 : c_blk 147 kX9_digest_92 [] = true := by decide +kernel
set_option maxRecDepth 100000 in
theorem e_q558 : c_blk 147 kX9_digest_106 [] = true := by decide +kernel
set_option maxRecDepth 100000 in
theorem e_q559 : c_blk 147 kX9_digest_216 [] = true := by decide +kernel
set_option maxRecDepth 100000 in
theorem e_q560 : c_blk 147 kX9_digest_264 [] = true := by decide +kernel
set_option maxRecDepth 100000 in
theorem e_q561 : c_blk 147 kX9_digest_270 [] = true := by decide +kernel
