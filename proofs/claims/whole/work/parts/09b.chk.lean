/-! each op list, checked by the kernel: labels 141 to 281 -/
set_option maxRecDepth 100000 in
theorem e_q141 : c_blk 35 kX6_readItems_0 [] = true := by decide +kernel
set_option maxRecDepth 100000 in
theorem e_q142 : c_blk 35 kX6_readItems_21 [] = true := by decide +kernel
set_option maxRecDepth 100000 in
theorem e_q143 : c_blk 35 kX6_readItems_61 [] = true := by decide +kernel
set_option maxRecDepth 100000 in
theorem e_q144 : c_blk 36 kX6_readItem_0 [] = true := by decide +kernel
set_option maxRecDepth 100000 in
theorem e_q145 : c_blk 36 kX6_readItem_33 [] = true := by decide +kernel
set_option maxRecDepth 100000 in
theorem e_q146 : c_blk 36 kX6_readItem_63 [] = true := by decide +kernel
set_option maxRecDepth 100000 in
theorem e_q147 : c_blk 36 kX6_readItem_66 [] = true := by decide +kernel
set_option maxRecDepth 100000 in
theorem e_q148 : c_blk 36 kX6_readItem_84 [] = true := by decide +kernel
set_option maxRecDepth 100000 in
theorem e_q149 : c_blk 37 kX6_readNumber_0 [] = true := by decide +kernel
set_option maxRecDepth 100000 in
theorem e_q150 : c_blk 37 kX6_readNumber_9 [] = true := by decide +kernel
set_option maxRecDepth 100000 in
theorem e_q151 : c_blk 37 kX6_readNumber_21 [] = true := by decide +kernel
set_option maxRecDepth 100000 in
theorem e_q152 : c_blk 37 kX6_readNumber_71 [] = true := by decide +kernel
set_option maxRecDepth 100000 in
theorem e_q153 : c_blk 37 kX6_readNumber_104 [] = true := by decide +kernel
set_option maxRecDepth 100000 in
theorem e_q154 : c_blk 37 kX6_readNumber_122 [] = true := by decide +kernel
set_option maxRecDepth 100000 in
theorem e_q155 : c_blk 37 kX6_readNumber_129 [] = true := by decide +kernel
set_option maxRecDepth 100000 in
theorem e_q156 : c_blk 38 kX6_isNext_0 [] = true := by decide +kernel
set_option maxRecDepth 100000 in
theorem e_q157 : c_blk 38 kX6_isNext_32 [] = true := by decide +kernel
set_option maxRecDepth 100000 in
theorem e_q158 : c_blk 38 kX6_isNext_33 [] = true := by decide +kernel
set_option maxRecDepth 100000 in
theorem e_q159 : c_blk 39 kX6_expect_0 [] = true := by decide +kernel
set_option maxRecDepth 100000 in
theorem e_q160 : c_blk 39 kX6_expect_8 [] = true := by decide +kernel
set_option maxRecDepth 100000 in
theorem e_q161 : c_blk 39 kX6_expect_29 [] = true := by decide +kernel
set_option maxRecDepth 100000 in
theorem e_q162 : c_blk 39 kX6_expect_37 [] = true := by decide +kernel
set_option maxRecDepth 100000 in
theorem e_q163 : c_blk 40 kX6_skipSpaces_0 [] = true := by decide +kernel
set_option maxRecDepth 100000 in
theorem e_q164 : c_blk 40 kX6_skipSpaces_38 [] = true := by decide +kernel
set_option maxRecDepth 100000 in
theorem e_q165 : c_blk 41 kX7_init_0 [[], [79, 59, 60], []] = true := by decide +kernel
set_option maxRecDepth 100000 in
theorem e_q166 : c_blk 42 kX7_copyFrom_0 [] = true := by decide +kernel
set_option maxRecDepth 100000 in
theorem e_q167 : c_blk 43 kX7_release_0 [] = true := by decide +kernel
set_option maxRecDepth 100000 in
theorem e_q168 : c_blk 44 kX7_wantedDirection_0 [] = true := by decide +kernel
set_option maxRecDepth 100000 in
theorem e_q169 : c_blk 44 kX7_wantedDirection_18 [] = true := by decide +kernel
set_option maxRecDepth 100000 in
theorem e_q170 : c_blk 44 kX7_wantedDirection_20 [] = true := by decide +kernel
set_option maxRecDepth 100000 in
theorem e_q171 : c_blk 44 kX7_wantedDirection_44 [] = true := by decide +kernel
set_option maxRecDepth 100000 in
theorem e_q172 : c_blk 44 kX7_wantedDirection_70 [] = true := by decide +kernel
set_option maxRecDepth 100000 in
theorem e_q173 : c_blk 44 kX7_wantedDirection_71 [] = true := by decide +kernel
set_option maxRecDepth 100000 in
theorem e_q174 : c_blk 45 kX7_countMinute_0 [] = true := by decide +kernel
set_option maxRecDepth 100000 in
theorem e_q175 : c_blk 45 kX7_countMinute_12 [] = true := by decide +kernel
set_option maxRecDepth 100000 in
theorem e_q176 : c_blk 45 kX7_countMinute_29 [] = true := by decide +kernel
set_option maxRecDepth 100000 in
theorem e_q177 : c_blk 45 kX7_countMinute_39 [] = true := by decide +kernel
set_option maxRecDepth 100000 in
theorem e_q178 : c_blk 46 kX7_isDue_0 [] = true := by decide +kernel
set_option maxRecDepth 100000 in
theorem e_q179 : c_blk 46 kX7_isDue_22 [] = true := by decide +kernel
set_option maxRecDepth 100000 in
theorem e_q180 : c_blk 46 kX7_isDue_23 [] = true := by decide +kernel
set_option maxRecDepth 100000 in
theorem e_q181 : c_blk 47 kX7_makeStep_0 [] = true := by decide +kernel
set_option maxRecDepth 100000 in
theorem e_q182 : c_blk 47 kX7_makeStep_35 [] = true := by decide +kernel
set_option maxRecDepth 100000 in
theorem e_q183 : c_blk 47 kX7_makeStep_36 [] = true := by decide +kernel
set_option maxRecDepth 100000 in
theorem e_q184 : c_blk 47 kX7_makeStep_39 [] = true := by decide +kernel
set_option maxRecDepth 100000 in
theorem e_q185 : c_blk 48 kX8_init_0 [[], [58, 59, 60], [], [61, 62, 42], [], [], [], [], [235, 236, 46], [], [], [], [], [257, 258, 47], [], [], [], [], [285, 286, 48], [], [], [], [], [308, 309, 49], [], [], [], [], [], [129], [], [], [], [129], [], []] = true := by decide +kernel
set_option maxRecDepth 100000 in
theorem e_q186 : c_blk 49 kX8_setSource_0 [] = true := by decide +kernel
set_option maxRecDepth 100000 in
theorem e_q187 : c_blk 49 kX8_setSource_20 [] = true := by decide +kernel
set_option maxRecDepth 100000 in
theorem e_q188 : c_blk 50 kX8_addNode_0 [] = true := by decide +kernel
set_option maxRecDepth 100000 in
theorem e_q189 : c_blk 50 kX8_addNode_29 [] = true := by decide +kernel
set_option maxRecDepth 100000 in
theorem e_q190 : c_blk 50 kX8_addNode_36 [] = true := by decide +kernel
set_option maxRecDepth 100000 in
theorem e_q191 : c_blk 50 kX8_addNode_55 [] = true := by decide +kernel
set_option maxRecDepth 100000 in
theorem e_q192 : c_blk 51 kX8_setLoad_0 [] = true := by decide +kernel
set_option maxRecDepth 100000 in
theorem e_q193 : c_blk 51 kX8_setLoad_16 [] = true := by decide +kernel
set_option maxRecDepth 100000 in
theorem e_q194 : c_blk 51 kX8_setLoad_23 [] = true := by decide +kernel
set_option maxRecDepth 100000 in
theorem e_q195 : c_blk 52 kX8_setFactor_0 [] = true := by decide +kernel
set_option maxRecDepth 100000 in
theorem e_q196 : c_blk 52 kX8_setFactor_18 [] = true := by decide +kernel
set_option maxRecDepth 100000 in
theorem e_q197 : c_blk 52 kX8_setFactor_25 [] = true := by decide +kernel
set_option maxRecDepth 100000 in
theorem e_q198 : c_blk 53 kX8_append_0 [] = true := by decide +kernel
set_option maxRecDepth 100000 in
theorem e_q199 : c_blk 53 kX8_append_17 [] = true := by decide +kernel
set_option maxRecDepth 100000 in
theorem e_q200 : c_blk 53 kX8_append_36 [] = true := by decide +kernel
set_option maxRecDepth 100000 in
theorem e_q201 : c_blk 54 kX8_clearText_0 [] = true := by decide +kernel
set_option maxRecDepth 100000 in
theorem e_q202 : c_blk 55 kX8_parseProfile_0 [[], [], [], [], [], [], [], [], [422, 375, 374, 51], [], [], [], [], [], [], [], [], [], [], [], [], [], [], [], []] = true := by decide +kernel
set_option maxRecDepth 100000 in
theorem e_q203 : c_blk 55 kX8_parseProfile_51 [[], [], [], [], [], [], [], [], [], [], [], [], [], [422, 375, 374, 51], [], []] = true := by decide +kernel
set_option maxRecDepth 100000 in
theorem e_q204 : c_blk 56 kX8_addRegulator_0 [] = true := by decide +kernel
set_option maxRecDepth 100000 in
theorem e_q205 : c_blk 56 kX8_addRegulator_54 [] = true := by decide +kernel
set_option maxRecDepth 100000 in
theorem e_q206 : c_blk 56 kX8_addRegulator_61 [] = true := by decide +kernel
set_option maxRecDepth 100000 in
theorem e_q207 : c_blk 56 kX8_addRegulator_90 [] = true := by decide +kernel
set_option maxRecDepth 100000 in
theorem e_q208 : c_blk 56 kX8_addRegulator_138 [] = true := by decide +kernel
set_option maxRecDepth 100000 in
theorem e_q209 : c_blk 56 kX8_addRegulator_139 [] = true := by decide +kernel
set_option maxRecDepth 100000 in
theorem e_q210 : c_blk 57 kX8_setTap_0 [] = true := by decide +kernel
set_option maxRecDepth 100000 in
theorem e_q211 : c_blk 57 kX8_setTap_18 [] = true := by decide +kernel
set_option maxRecDepth 100000 in
theorem e_q212 : c_blk 57 kX8_setTap_34 [] = true := by decide +kernel
set_option maxRecDepth 100000 in
theorem e_q213 : c_blk 58 kX8_addBank_0 [] = true := by decide +kernel
set_option maxRecDepth 100000 in
theorem e_q214 : c_blk 58 kX8_addBank_41 [] = true := by decide +kernel
set_option maxRecDepth 100000 in
theorem e_q215 : c_blk 58 kX8_addBank_48 [] = true := by decide +kernel
set_option maxRecDepth 100000 in
theorem e_q216 : c_blk 58 kX8_addBank_77 [] = true := by decide +kernel
set_option maxRecDepth 100000 in
theorem e_q217 : c_blk 59 kX8_switchBank_0 [] = true := by decide +kernel
set_option maxRecDepth 100000 in
theorem e_q218 : c_blk 59 kX8_switchBank_16 [] = true := by decide +kernel
set_option maxRecDepth 100000 in
theorem e_q219 : c_blk 59 kX8_switchBank_32 [] = true := by decide +kernel
set_option maxRecDepth 100000 in
theorem e_q220 : c_blk 59 kX8_switchBank_78 [] = true := by decide +kernel
set_option maxRecDepth 100000 in
theorem e_q221 : c_blk 59 kX8_switchBank_79 [] = true := by decide +kernel
set_option maxRecDepth 100000 in
theorem e_q222 : c_blk 60 kX8_run_0 [] = true := by decide +kernel
set_option maxRecDepth 100000 in
theorem e_q223 : c_blk 60 kX8_run_18 [] = true := by decide +kernel
set_option maxRecDepth 100000 in
theorem e_q224 : c_blk 60 kX8_run_33 [] = true := by decide +kernel
set_option maxRecDepth 100000 in
theorem e_q225 : c_blk 60 kX8_run_48 [] = true := by decide +kernel
set_option maxRecDepth 100000 in
theorem e_q226 : c_blk 60 kX8_run_54 [] = true := by decide +kernel
set_option maxRecDepth 100000 in
theorem e_q227 : c_blk 61 kX8_minute_0 [] = true := by decide +kernel
set_option maxRecDepth 100000 in
theorem e_q228 : c_blk 62 kX8_passMinute_0 [] = true := by decide +kernel
set_option maxRecDepth 100000 in
theorem e_q229 : c_blk 62 kX8_passMinute_33 [] = true := by decide +kernel
set_option maxRecDepth 100000 in
theorem e_q230 : c_blk 62 kX8_passMinute_79 [] = true := by decide +kernel
set_option maxRecDepth 100000 in
theorem e_q231 : c_blk 62 kX8_passMinute_80 [] = true := by decide +kernel
set_option maxRecDepth 100000 in
theorem e_q232 : c_blk 62 kX8_passMinute_92 [] = true := by decide +kernel
set_option maxRecDepth 100000 in
theorem e_q233 : c_blk 62 kX8_passMinute_103 [] = true := by decide +kernel
set_option maxRecDepth 100000 in
theorem e_q234 : c_blk 62 kX8_passMinute_137 [] = true := by decide +kernel
set_option maxRecDepth 100000 in
theorem e_q235 : c_blk 62 kX8_passMinute_141 [] = true := by decide +kernel
set_option maxRecDepth 100000 in
theorem e_q236 : c_blk 62 kX8_passMinute_142 [] = true := by decide +kernel
set_option maxRecDepth 100000 in
theorem e_q237 : c_blk 63 kX8_voltage_0 [] = true := by decide +kernel
set_option maxRecDepth 100000 in
theorem e_q238 : c_blk 63 kX8_voltage_22 [] = true := by decide +kernel
set_option maxRecDepth 100000 in
theorem e_q239 : c_blk 64 kX8_activeFlow_0 [] = true := by decide +kernel
set_option maxRecDepth 100000 in
theorem e_q240 : c_blk 64 kX8_activeFlow_15 [] = true := by decide +kernel
set_option maxRecDepth 100000 in
theorem e_q241 : c_blk 65 kX8_reactiveFlow_0 [] = true := by decide +kernel
set_option maxRecDepth 100000 in
theorem e_q242 : c_blk 65 kX8_reactiveFlow_15 [] = true := by decide +kernel
set_option maxRecDepth 100000 in
theorem e_q243 : c_blk 66 kX8_tap_0 [] = true := by decide +kernel
set_option maxRecDepth 100000 in
theorem e_q244 : c_blk 66 kX8_tap_18 [] = true := by decide +kernel
set_option maxRecDepth 100000 in
theorem e_q245 : c_blk 66 kX8_tap_36 [] = true := by decide +kernel
set_option maxRecDepth 100000 in
theorem e_q246 : c_blk 67 kX8_timer_0 [] = true := by decide +kernel
set_option maxRecDepth 100000 in
theorem e_q247 : c_blk 67 kX8_timer_18 [] = true := by decide +kernel
set_option maxRecDepth 100000 in
theorem e_q248 : c_blk 67 kX8_timer_33 [] = true := by decide +kernel
set_option maxRecDepth 100000 in
theorem e_q249 : c_blk 68 kX8_isLocked_0 [] = true := by decide +kernel
set_option maxRecDepth 100000 in
theorem e_q250 : c_blk 68 kX8_isLocked_18 [] = true := by decide +kernel
set_option maxRecDepth 100000 in
theorem e_q251 : c_blk 68 kX8_isLocked_36 [] = true := by decide +kernel
set_option maxRecDepth 100000 in
theorem e_q252 : c_blk 69 kX8_steps_0 [] = true := by decide +kernel
set_option maxRecDepth 100000 in
theorem e_q253 : c_blk 69 kX8_steps_18 [] = true := by decide +kernel
set_option maxRecDepth 100000 in
theorem e_q254 : c_blk 69 kX8_steps_33 [] = true := by decide +kernel
set_option maxRecDepth 100000 in
theorem e_q255 : c_blk 70 kX8_isOn_0 [] = true := by decide +kernel
set_option maxRecDepth 100000 in
theorem e_q256 : c_blk 70 kX8_isOn_18 [] = true := by decide +kernel
set_option maxRecDepth 100000 in
theorem e_q257 : c_blk 70 kX8_isOn_36 [] = true := by decide +kernel
set_option maxRecDepth 100000 in
theorem e_q258 : c_blk 71 kX8_violations_0 [] = true := by decide +kernel
set_option maxRecDepth 100000 in
theorem e_q259 : c_blk 72 kX8_planSteps_0 [] = true := by decide +kernel
set_option maxRecDepth 100000 in
theorem e_q260 : c_blk 72 kX8_planSteps_16 [] = true := by decide +kernel
set_option maxRecDepth 100000 in
theorem e_q261 : c_blk 72 kX8_planSteps_41 [] = true := by decide +kernel
set_option maxRecDepth 100000 in
theorem e_q262 : c_blk 72 kX8_planSteps_47 [] = true := by decide +kernel
set_option maxRecDepth 100000 in
theorem e_q263 : c_blk 73 kX8_planTap_0 [] = true := by decide +kernel
set_option maxRecDepth 100000 in
theorem e_q264 : c_blk 73 kX8_planTap_14 [] = true := by decide +kernel
set_option maxRecDepth 100000 in
theorem e_q265 : c_blk 73 kX8_planTap_30 [] = true := by decide +kernel
set_option maxRecDepth 100000 in
theorem e_q266 : c_blk 73 kX8_planTap_60 [] = true := by decide +kernel
set_option maxRecDepth 100000 in
theorem e_q267 : c_blk 73 kX8_planTap_66 [] = true := by decide +kernel
set_option maxRecDepth 100000 in
theorem e_q268 : c_blk 74 kX8_undo_0 [] = true := by decide +kernel
set_option maxRecDepth 100000 in
theorem e_q269 : c_blk 74 kX8_undo_17 [] = true := by decide +kernel
set_option maxRecDepth 100000 in
theorem e_q270 : c_blk 75 kX8_errorCount_0 [] = true := by decide +kernel
set_option maxRecDepth 100000 in
theorem e_q271 : c_blk 75 kX8_errorCount_19 [] = true := by decide +kernel
set_option maxRecDepth 100000 in
theorem e_q272 : c_blk 75 kX8_errorCount_25 [] = true := by decide +kernel
set_option maxRecDepth 100000 in
theorem e_q273 : c_blk 76 kX8_digest_0 [[], [], [], [], [], [674], [], [], [], []] = true := by decide +kernel
set_option maxRecDepth 100000 in
theorem e_q274 : c_blk 76 kX8_digest_17 [] = true := by decide +kernel
set_option maxRecDepth 100000 in
theorem e_q275 : c_blk 76 kX8_digest_39 [] = true := by decide +kernel
set_option maxRecDepth 100000 in
theorem e_q276 : c_blk 76 kX8_digest_77 [] = true := by decide +kernel
set_option maxRecDepth 100000 in
theorem e_q277 : c_blk 76 kX8_digest_103 [] = true := by decide +kernel
set_option maxRecDepth 100000 in
theorem e_q278 : c_blk 76 kX8_digest_117 [] = true := by decide +kernel
set_option maxRecDepth 100000 in
theorem e_q279 : c_blk 76 kX8_digest_210 [] = true := by decide +kernel
set_option maxRecDepth 100000 in
theorem e_q280 : c_blk 77 kX8_mixRegulator_0 [] = true := by decide +kernel
set_option maxRecDepth 100000 in
theorem e_q281 : c_blk 77 kX8_mixRegulator_21 [] = true := by decide +kernel
