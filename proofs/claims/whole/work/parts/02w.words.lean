/-! the words of the tables that the ops need, each found once -/
def e_isN : Jvm.Cond → Bool
  | .methodLinkNest .. => true
  | _ => false
def e_isO : Jvm.Cond → Bool
  | .arrayOver (.object _) => true
  | .arrayOver (.array _) => true
  | _ => false
def e_wk (w : Jvm.Cond) : Prop := (∃ i : Nat, lw_tbl[i]? = some w) ∧ (goodWord w || e_isN w || e_isO w) = true
def e_flok (q : Nat × Nat × Nat × Nat) : Prop := ∃ C T N, vwCl[q.2.2.1]? = some (C, T, N) ∧ q.2.2.2 < N ∧ e_wk (.fieldLink (e_cn q.1) q.2.1 C (T q.2.2.2).2.1 (T q.2.2.2).2.2.1)
def e_mlok (q : Nat × Nat × Nat × Nat) : Prop := if q.2.2.2 = 0 then e_wk (.methodLink (e_cn q.1) q.2.1 (e_mN q.2.2.1)) else e_wk (.methodLinkNest (e_cn q.1) q.2.1 (e_mN q.2.2.1) "FeederControl")
set_option maxRecDepth 20000 in
theorem e_fl_0_9 : e_flok (0, 9, 0, 0) := ⟨_, _, _, rfl, by decide, ⟨136, rfl⟩, rfl⟩
set_option maxRecDepth 20000 in
theorem e_fl_0_15 : e_flok (0, 15, 0, 1) := ⟨_, _, _, rfl, by decide, ⟨138, rfl⟩, rfl⟩
set_option maxRecDepth 20000 in
theorem e_fl_0_19 : e_flok (0, 19, 0, 2) := ⟨_, _, _, rfl, by decide, ⟨140, rfl⟩, rfl⟩
set_option maxRecDepth 20000 in
theorem e_fl_0_22 : e_flok (0, 22, 0, 3) := ⟨_, _, _, rfl, by decide, ⟨142, rfl⟩, rfl⟩
set_option maxRecDepth 20000 in
theorem e_fl_0_25 : e_flok (0, 25, 0, 4) := ⟨_, _, _, rfl, by decide, ⟨144, rfl⟩, rfl⟩
set_option maxRecDepth 20000 in
theorem e_fl_0_28 : e_flok (0, 28, 0, 5) := ⟨_, _, _, rfl, by decide, ⟨146, rfl⟩, rfl⟩
set_option maxRecDepth 20000 in
theorem e_fl_0_31 : e_flok (0, 31, 0, 6) := ⟨_, _, _, rfl, by decide, ⟨148, rfl⟩, rfl⟩
set_option maxRecDepth 20000 in
theorem e_fl_0_34 : e_flok (0, 34, 0, 7) := ⟨_, _, _, rfl, by decide, ⟨151, rfl⟩, rfl⟩
set_option maxRecDepth 20000 in
theorem e_fl_1_9 : e_flok (1, 9, 1, 1) := ⟨_, _, _, rfl, by decide, ⟨206, rfl⟩, rfl⟩
set_option maxRecDepth 20000 in
theorem e_fl_1_15 : e_flok (1, 15, 1, 4) := ⟨_, _, _, rfl, by decide, ⟨215, rfl⟩, rfl⟩
set_option maxRecDepth 20000 in
theorem e_fl_1_21 : e_flok (1, 21, 1, 5) := ⟨_, _, _, rfl, by decide, ⟨218, rfl⟩, rfl⟩
set_option maxRecDepth 20000 in
theorem e_fl_1_26 : e_flok (1, 26, 1, 0) := ⟨_, _, _, rfl, by decide, ⟨204, rfl⟩, rfl⟩
set_option maxRecDepth 20000 in
theorem e_fl_1_29 : e_flok (1, 29, 1, 2) := ⟨_, _, _, rfl, by decide, ⟨209, rfl⟩, rfl⟩
set_option maxRecDepth 20000 in
theorem e_fl_1_32 : e_flok (1, 32, 1, 3) := ⟨_, _, _, rfl, by decide, ⟨213, rfl⟩, rfl⟩
set_option maxRecDepth 20000 in
theorem e_fl_1_51 : e_flok (1, 51, 4, 4) := ⟨_, _, _, rfl, by decide, ⟨184, rfl⟩, rfl⟩
set_option maxRecDepth 20000 in
theorem e_fl_1_64 : e_flok (1, 64, 4, 5) := ⟨_, _, _, rfl, by decide, ⟨189, rfl⟩, rfl⟩
set_option maxRecDepth 20000 in
theorem e_fl_1_78 : e_flok (1, 78, 0, 6) := ⟨_, _, _, rfl, by decide, ⟨149, rfl⟩, rfl⟩
set_option maxRecDepth 20000 in
theorem e_fl_1_85 : e_flok (1, 85, 2, 1) := ⟨_, _, _, rfl, by decide, ⟨245, rfl⟩, rfl⟩
set_option maxRecDepth 20000 in
theorem e_fl_1_100 : e_flok (1, 100, 7, 0) := ⟨_, _, _, rfl, by decide, ⟨81, rfl⟩, rfl⟩
set_option maxRecDepth 20000 in
theorem e_fl_1_103 : e_flok (1, 103, 2, 2) := ⟨_, _, _, rfl, by decide, ⟨248, rfl⟩, rfl⟩
set_option maxRecDepth 20000 in
theorem e_fl_1_106 : e_flok (1, 106, 2, 0) := ⟨_, _, _, rfl, by decide, ⟨242, rfl⟩, rfl⟩
set_option maxRecDepth 20000 in
theorem e_fl_2_9 : e_flok (2, 9, 2, 0) := ⟨_, _, _, rfl, by decide, ⟨241, rfl⟩, rfl⟩
set_option maxRecDepth 20000 in
theorem e_fl_2_15 : e_flok (2, 15, 2, 1) := ⟨_, _, _, rfl, by decide, ⟨244, rfl⟩, rfl⟩
set_option maxRecDepth 20000 in
theorem e_fl_2_18 : e_flok (2, 18, 2, 2) := ⟨_, _, _, rfl, by decide, ⟨247, rfl⟩, rfl⟩
set_option maxRecDepth 20000 in
theorem e_fl_2_35 : e_flok (2, 35, 1, 4) := ⟨_, _, _, rfl, by decide, ⟨216, rfl⟩, rfl⟩
set_option maxRecDepth 20000 in
theorem e_fl_2_38 : e_flok (2, 38, 1, 2) := ⟨_, _, _, rfl, by decide, ⟨210, rfl⟩, rfl⟩
set_option maxRecDepth 20000 in
theorem e_fl_2_42 : e_flok (2, 42, 1, 5) := ⟨_, _, _, rfl, by decide, ⟨220, rfl⟩, rfl⟩
set_option maxRecDepth 20000 in
theorem e_fl_2_46 : e_flok (2, 46, 4, 2) := ⟨_, _, _, rfl, by decide, ⟨177, rfl⟩, rfl⟩
set_option maxRecDepth 20000 in
theorem e_fl_2_51 : e_flok (2, 51, 4, 3) := ⟨_, _, _, rfl, by decide, ⟨180, rfl⟩, rfl⟩
set_option maxRecDepth 20000 in
theorem e_fl_2_54 : e_flok (2, 54, 4, 5) := ⟨_, _, _, rfl, by decide, ⟨188, rfl⟩, rfl⟩
set_option maxRecDepth 20000 in
theorem e_fl_2_64 : e_flok (2, 64, 1, 1) := ⟨_, _, _, rfl, by decide, ⟨208, rfl⟩, rfl⟩
set_option maxRecDepth 20000 in
theorem e_fl_2_67 : e_flok (2, 67, 4, 4) := ⟨_, _, _, rfl, by decide, ⟨185, rfl⟩, rfl⟩
set_option maxRecDepth 20000 in
theorem e_fl_2_71 : e_flok (2, 71, 7, 5) := ⟨_, _, _, rfl, by decide, ⟨93, rfl⟩, rfl⟩
set_option maxRecDepth 20000 in
theorem e_fl_2_76 : e_flok (2, 76, 4, 0) := ⟨_, _, _, rfl, by decide, ⟨172, rfl⟩, rfl⟩
set_option maxRecDepth 20000 in
theorem e_fl_2_79 : e_flok (2, 79, 4, 1) := ⟨_, _, _, rfl, by decide, ⟨175, rfl⟩, rfl⟩
set_option maxRecDepth 20000 in
theorem e_fl_3_11 : e_flok (3, 11, 3, 0) := ⟨_, _, _, rfl, by decide, ⟨317, rfl⟩, rfl⟩
set_option maxRecDepth 20000 in
theorem e_fl_3_18 : e_flok (3, 18, 3, 1) := ⟨_, _, _, rfl, by decide, ⟨318, rfl⟩, rfl⟩
set_option maxRecDepth 20000 in
theorem e_fl_4_10 : e_flok (4, 10, 4, 4) := ⟨_, _, _, rfl, by decide, ⟨182, rfl⟩, rfl⟩
set_option maxRecDepth 20000 in
theorem e_fl_4_19 : e_flok (4, 19, 4, 5) := ⟨_, _, _, rfl, by decide, ⟨187, rfl⟩, rfl⟩
set_option maxRecDepth 20000 in
theorem e_fl_4_23 : e_flok (4, 23, 4, 0) := ⟨_, _, _, rfl, by decide, ⟨170, rfl⟩, rfl⟩
set_option maxRecDepth 20000 in
theorem e_fl_4_27 : e_flok (4, 27, 4, 1) := ⟨_, _, _, rfl, by decide, ⟨173, rfl⟩, rfl⟩
set_option maxRecDepth 20000 in
theorem e_fl_4_30 : e_flok (4, 30, 4, 2) := ⟨_, _, _, rfl, by decide, ⟨176, rfl⟩, rfl⟩
set_option maxRecDepth 20000 in
theorem e_fl_4_33 : e_flok (4, 33, 4, 3) := ⟨_, _, _, rfl, by decide, ⟨179, rfl⟩, rfl⟩
set_option maxRecDepth 20000 in
theorem e_fl_5_12 : e_flok (5, 12, 5, 0) := ⟨_, _, _, rfl, by decide, ⟨267, rfl⟩, rfl⟩
set_option maxRecDepth 20000 in
theorem e_fl_5_20 : e_flok (5, 20, 5, 1) := ⟨_, _, _, rfl, by decide, ⟨268, rfl⟩, rfl⟩
set_option maxRecDepth 20000 in
theorem e_fl_5_23 : e_flok (5, 23, 5, 2) := ⟨_, _, _, rfl, by decide, ⟨269, rfl⟩, rfl⟩
set_option maxRecDepth 20000 in
theorem e_fl_5_27 : e_flok (5, 27, 5, 3) := ⟨_, _, _, rfl, by decide, ⟨270, rfl⟩, rfl⟩
set_option maxRecDepth 20000 in
theorem e_fl_5_38 : e_flok (5, 38, 1, 5) := ⟨_, _, _, rfl, by decide, ⟨219, rfl⟩, rfl⟩
set_option maxRecDepth 20000 in
theorem e_fl_5_44 : e_flok (5, 44, 4, 4) := ⟨_, _, _, rfl, by decide, ⟨183, rfl⟩, rfl⟩
set_option maxRecDepth 20000 in
theorem e_fl_5_50 : e_flok (5, 50, 7, 5) := ⟨_, _, _, rfl, by decide, ⟨92, rfl⟩, rfl⟩
set_option maxRecDepth 20000 in
theorem e_fl_5_67 : e_flok (5, 67, 1, 2) := ⟨_, _, _, rfl, by decide, ⟨211, rfl⟩, rfl⟩
set_option maxRecDepth 20000 in
theorem e_fl_5_81 : e_flok (5, 81, 5, 4) := ⟨_, _, _, rfl, by decide, ⟨272, rfl⟩, rfl⟩
set_option maxRecDepth 20000 in
theorem e_fl_6_9 : e_flok (6, 9, 6, 0) := ⟨_, _, _, rfl, by decide, ⟨291, rfl⟩, rfl⟩
set_option maxRecDepth 20000 in
theorem e_fl_6_15 : e_flok (6, 15, 6, 2) := ⟨_, _, _, rfl, by decide, ⟨295, rfl⟩, rfl⟩
set_option maxRecDepth 20000 in
theorem e_fl_6_19 : e_flok (6, 19, 6, 3) := ⟨_, _, _, rfl, by decide, ⟨296, rfl⟩, rfl⟩
set_option maxRecDepth 20000 in
theorem e_fl_6_25 : e_flok (6, 25, 6, 1) := ⟨_, _, _, rfl, by decide, ⟨293, rfl⟩, rfl⟩
set_option maxRecDepth 20000 in
theorem e_fl_7_9 : e_flok (7, 9, 7, 0) := ⟨_, _, _, rfl, by decide, ⟨80, rfl⟩, rfl⟩
set_option maxRecDepth 20000 in
theorem e_fl_7_15 : e_flok (7, 15, 7, 1) := ⟨_, _, _, rfl, by decide, ⟨83, rfl⟩, rfl⟩
set_option maxRecDepth 20000 in
theorem e_fl_7_19 : e_flok (7, 19, 7, 2) := ⟨_, _, _, rfl, by decide, ⟨85, rfl⟩, rfl⟩
set_option maxRecDepth 20000 in
theorem e_fl_7_22 : e_flok (7, 22, 7, 3) := ⟨_, _, _, rfl, by decide, ⟨87, rfl⟩, rfl⟩
set_option maxRecDepth 20000 in
theorem e_fl_7_25 : e_flok (7, 25, 7, 4) := ⟨_, _, _, rfl, by decide, ⟨89, rfl⟩, rfl⟩
set_option maxRecDepth 20000 in
theorem e_fl_7_28 : e_flok (7, 28, 7, 5) := ⟨_, _, _, rfl, by decide, ⟨91, rfl⟩, rfl⟩
set_option maxRecDepth 20000 in
theorem e_fl_7_31 : e_flok (7, 31, 7, 6) := ⟨_, _, _, rfl, by decide, ⟨95, rfl⟩, rfl⟩
set_option maxRecDepth 20000 in
theorem e_fl_7_34 : e_flok (7, 34, 7, 7) := ⟨_, _, _, rfl, by decide, ⟨97, rfl⟩, rfl⟩
set_option maxRecDepth 20000 in
theorem e_fl_7_37 : e_flok (7, 37, 7, 8) := ⟨_, _, _, rfl, by decide, ⟨99, rfl⟩, rfl⟩
set_option maxRecDepth 20000 in
theorem e_fl_7_40 : e_flok (7, 40, 7, 9) := ⟨_, _, _, rfl, by decide, ⟨101, rfl⟩, rfl⟩
set_option maxRecDepth 20000 in
theorem e_fl_7_43 : e_flok (7, 43, 7, 10) := ⟨_, _, _, rfl, by decide, ⟨102, rfl⟩, rfl⟩
set_option maxRecDepth 20000 in
theorem e_fl_7_46 : e_flok (7, 46, 7, 11) := ⟨_, _, _, rfl, by decide, ⟨103, rfl⟩, rfl⟩
set_option maxRecDepth 20000 in
theorem e_fl_8_10 : e_flok (8, 10, 8, 0) := ⟨_, _, _, rfl, by decide, ⟨325, rfl⟩, rfl⟩
set_option maxRecDepth 20000 in
theorem e_fl_8_19 : e_flok (8, 19, 8, 1) := ⟨_, _, _, rfl, by decide, ⟨326, rfl⟩, rfl⟩
set_option maxRecDepth 20000 in
theorem e_fl_8_26 : e_flok (8, 26, 8, 2) := ⟨_, _, _, rfl, by decide, ⟨327, rfl⟩, rfl⟩
set_option maxRecDepth 20000 in
theorem e_fl_8_33 : e_flok (8, 33, 8, 3) := ⟨_, _, _, rfl, by decide, ⟨328, rfl⟩, rfl⟩
set_option maxRecDepth 20000 in
theorem e_fl_8_40 : e_flok (8, 40, 8, 4) := ⟨_, _, _, rfl, by decide, ⟨329, rfl⟩, rfl⟩
set_option maxRecDepth 20000 in
theorem e_fl_8_44 : e_flok (8, 44, 8, 5) := ⟨_, _, _, rfl, by decide, ⟨330, rfl⟩, rfl⟩
set_option maxRecDepth 20000 in
theorem e_fl_8_48 : e_flok (8, 48, 8, 6) := ⟨_, _, _, rfl, by decide, ⟨331, rfl⟩, rfl⟩
set_option maxRecDepth 20000 in
theorem e_fl_8_63 : e_flok (8, 63, 1, 1) := ⟨_, _, _, rfl, by decide, ⟨207, rfl⟩, rfl⟩
set_option maxRecDepth 20000 in
theorem e_fl_8_71 : e_flok (8, 71, 1, 2) := ⟨_, _, _, rfl, by decide, ⟨212, rfl⟩, rfl⟩
set_option maxRecDepth 20000 in
theorem e_fl_8_74 : e_flok (8, 74, 1, 5) := ⟨_, _, _, rfl, by decide, ⟨221, rfl⟩, rfl⟩
set_option maxRecDepth 20000 in
theorem e_fl_8_78 : e_flok (8, 78, 4, 0) := ⟨_, _, _, rfl, by decide, ⟨171, rfl⟩, rfl⟩
set_option maxRecDepth 20000 in
theorem e_fl_8_83 : e_flok (8, 83, 4, 1) := ⟨_, _, _, rfl, by decide, ⟨174, rfl⟩, rfl⟩
set_option maxRecDepth 20000 in
theorem e_fl_8_86 : e_flok (8, 86, 4, 2) := ⟨_, _, _, rfl, by decide, ⟨178, rfl⟩, rfl⟩
set_option maxRecDepth 20000 in
theorem e_fl_8_89 : e_flok (8, 89, 4, 3) := ⟨_, _, _, rfl, by decide, ⟨181, rfl⟩, rfl⟩
set_option maxRecDepth 20000 in
theorem e_fl_8_99 : e_flok (8, 99, 1, 4) := ⟨_, _, _, rfl, by decide, ⟨217, rfl⟩, rfl⟩
set_option maxRecDepth 20000 in
theorem e_fl_8_102 : e_flok (8, 102, 6, 1) := ⟨_, _, _, rfl, by decide, ⟨294, rfl⟩, rfl⟩
set_option maxRecDepth 20000 in
theorem e_fl_8_105 : e_flok (8, 105, 6, 0) := ⟨_, _, _, rfl, by decide, ⟨292, rfl⟩, rfl⟩
set_option maxRecDepth 20000 in
theorem e_fl_8_119 : e_flok (8, 119, 6, 3) := ⟨_, _, _, rfl, by decide, ⟨297, rfl⟩, rfl⟩
set_option maxRecDepth 20000 in
theorem e_fl_8_122 : e_flok (8, 122, 4, 4) := ⟨_, _, _, rfl, by decide, ⟨186, rfl⟩, rfl⟩
set_option maxRecDepth 20000 in
theorem e_fl_8_126 : e_flok (8, 126, 7, 0) := ⟨_, _, _, rfl, by decide, ⟨82, rfl⟩, rfl⟩
set_option maxRecDepth 20000 in
theorem e_fl_8_132 : e_flok (8, 132, 7, 1) := ⟨_, _, _, rfl, by decide, ⟨84, rfl⟩, rfl⟩
set_option maxRecDepth 20000 in
theorem e_fl_8_135 : e_flok (8, 135, 7, 2) := ⟨_, _, _, rfl, by decide, ⟨86, rfl⟩, rfl⟩
set_option maxRecDepth 20000 in
theorem e_fl_8_138 : e_flok (8, 138, 7, 3) := ⟨_, _, _, rfl, by decide, ⟨88, rfl⟩, rfl⟩
set_option maxRecDepth 20000 in
theorem e_fl_8_141 : e_flok (8, 141, 7, 4) := ⟨_, _, _, rfl, by decide, ⟨90, rfl⟩, rfl⟩
set_option maxRecDepth 20000 in
theorem e_fl_8_147 : e_flok (8, 147, 7, 5) := ⟨_, _, _, rfl, by decide, ⟨94, rfl⟩, rfl⟩
set_option maxRecDepth 20000 in
theorem e_fl_8_153 : e_flok (8, 153, 4, 5) := ⟨_, _, _, rfl, by decide, ⟨190, rfl⟩, rfl⟩
set_option maxRecDepth 20000 in
theorem e_fl_8_157 : e_flok (8, 157, 0, 0) := ⟨_, _, _, rfl, by decide, ⟨137, rfl⟩, rfl⟩
set_option maxRecDepth 20000 in
theorem e_fl_8_160 : e_flok (8, 160, 0, 1) := ⟨_, _, _, rfl, by decide, ⟨139, rfl⟩, rfl⟩
set_option maxRecDepth 20000 in
theorem e_fl_8_163 : e_flok (8, 163, 0, 2) := ⟨_, _, _, rfl, by decide, ⟨141, rfl⟩, rfl⟩
set_option maxRecDepth 20000 in
theorem e_fl_8_166 : e_flok (8, 166, 0, 3) := ⟨_, _, _, rfl, by decide, ⟨143, rfl⟩, rfl⟩
set_option maxRecDepth 20000 in
theorem e_fl_8_169 : e_flok (8, 169, 0, 4) := ⟨_, _, _, rfl, by decide, ⟨145, rfl⟩, rfl⟩
set_option maxRecDepth 20000 in
theorem e_fl_8_172 : e_flok (8, 172, 0, 5) := ⟨_, _, _, rfl, by decide, ⟨147, rfl⟩, rfl⟩
set_option maxRecDepth 20000 in
theorem e_fl_8_176 : e_flok (8, 176, 0, 6) := ⟨_, _, _, rfl, by decide, ⟨150, rfl⟩, rfl⟩
set_option maxRecDepth 20000 in
theorem e_fl_8_187 : e_flok (8, 187, 1, 0) := ⟨_, _, _, rfl, by decide, ⟨205, rfl⟩, rfl⟩
set_option maxRecDepth 20000 in
theorem e_fl_8_207 : e_flok (8, 207, 1, 3) := ⟨_, _, _, rfl, by decide, ⟨214, rfl⟩, rfl⟩
set_option maxRecDepth 20000 in
theorem e_fl_8_213 : e_flok (8, 213, 2, 2) := ⟨_, _, _, rfl, by decide, ⟨249, rfl⟩, rfl⟩
set_option maxRecDepth 20000 in
theorem e_fl_8_216 : e_flok (8, 216, 2, 0) := ⟨_, _, _, rfl, by decide, ⟨243, rfl⟩, rfl⟩
set_option maxRecDepth 20000 in
theorem e_fl_8_219 : e_flok (8, 219, 2, 1) := ⟨_, _, _, rfl, by decide, ⟨246, rfl⟩, rfl⟩
set_option maxRecDepth 20000 in
theorem e_fl_8_222 : e_flok (8, 222, 7, 6) := ⟨_, _, _, rfl, by decide, ⟨96, rfl⟩, rfl⟩
set_option maxRecDepth 20000 in
theorem e_fl_8_225 : e_flok (8, 225, 7, 8) := ⟨_, _, _, rfl, by decide, ⟨100, rfl⟩, rfl⟩
set_option maxRecDepth 20000 in
theorem e_fl_8_228 : e_flok (8, 228, 7, 7) := ⟨_, _, _, rfl, by decide, ⟨98, rfl⟩, rfl⟩
set_option maxRecDepth 20000 in
theorem e_fl_8_235 : e_flok (8, 235, 5, 4) := ⟨_, _, _, rfl, by decide, ⟨273, rfl⟩, rfl⟩
set_option maxRecDepth 20000 in
theorem e_fl_8_236 : e_flok (8, 236, 5, 3) := ⟨_, _, _, rfl, by decide, ⟨271, rfl⟩, rfl⟩
set_option maxRecDepth 20000 in
theorem e_fl_8_239 : e_flok (8, 239, 3, 1) := ⟨_, _, _, rfl, by decide, ⟨319, rfl⟩, rfl⟩
set_option maxRecDepth 20000 in
theorem e_fl_8_260 : e_flok (8, 260, 0, 7) := ⟨_, _, _, rfl, by decide, ⟨152, rfl⟩, rfl⟩
set_option maxRecDepth 20000 in
theorem e_fl_9_7 : e_flok (9, 7, 9, 0) := ⟨_, _, _, rfl, by decide, ⟨691, rfl⟩, rfl⟩
set_option maxRecDepth 20000 in
theorem e_fl_9_13 : e_flok (9, 13, 9, 1) := ⟨_, _, _, rfl, by decide, ⟨692, rfl⟩, rfl⟩
set_option maxRecDepth 20000 in
theorem e_fl_9_16 : e_flok (9, 16, 9, 3) := ⟨_, _, _, rfl, by decide, ⟨694, rfl⟩, rfl⟩
set_option maxRecDepth 20000 in
theorem e_fl_9_19 : e_flok (9, 19, 9, 5) := ⟨_, _, _, rfl, by decide, ⟨696, rfl⟩, rfl⟩
set_option maxRecDepth 20000 in
theorem e_fl_9_22 : e_flok (9, 22, 9, 6) := ⟨_, _, _, rfl, by decide, ⟨697, rfl⟩, rfl⟩
set_option maxRecDepth 20000 in
theorem e_fl_9_25 : e_flok (9, 25, 9, 7) := ⟨_, _, _, rfl, by decide, ⟨698, rfl⟩, rfl⟩
set_option maxRecDepth 20000 in
theorem e_fl_9_28 : e_flok (9, 28, 9, 8) := ⟨_, _, _, rfl, by decide, ⟨699, rfl⟩, rfl⟩
set_option maxRecDepth 20000 in
theorem e_fl_9_31 : e_flok (9, 31, 9, 10) := ⟨_, _, _, rfl, by decide, ⟨701, rfl⟩, rfl⟩
set_option maxRecDepth 20000 in
theorem e_fl_9_34 : e_flok (9, 34, 9, 11) := ⟨_, _, _, rfl, by decide, ⟨702, rfl⟩, rfl⟩
set_option maxRecDepth 20000 in
theorem e_fl_9_45 : e_flok (9, 45, 9, 2) := ⟨_, _, _, rfl, by decide, ⟨693, rfl⟩, rfl⟩
set_option maxRecDepth 20000 in
theorem e_fl_9_68 : e_flok (9, 68, 9, 4) := ⟨_, _, _, rfl, by decide, ⟨695, rfl⟩, rfl⟩
set_option maxRecDepth 20000 in
theorem e_fl_9_71 : e_flok (9, 71, 9, 9) := ⟨_, _, _, rfl, by decide, ⟨700, rfl⟩, rfl⟩
set_option maxRecDepth 20000 in
theorem e_ml_0_37 : e_mlok (0, 37, 3, 0) := ⟨⟨526, rfl⟩, rfl⟩
set_option maxRecDepth 20000 in
theorem e_ml_0_41 : e_mlok (0, 41, 5, 0) := ⟨⟨527, rfl⟩, rfl⟩
set_option maxRecDepth 20000 in
theorem e_ml_1_25 : e_mlok (1, 25, 26, 1) := ⟨⟨70, rfl⟩, rfl⟩
set_option maxRecDepth 20000 in
theorem e_ml_1_41 : e_mlok (1, 41, 27, 0) := ⟨⟨376, rfl⟩, rfl⟩
set_option maxRecDepth 20000 in
theorem e_ml_1_55 : e_mlok (1, 55, 43, 0) := ⟨⟨490, rfl⟩, rfl⟩
set_option maxRecDepth 20000 in
theorem e_ml_1_60 : e_mlok (1, 60, 12, 0) := ⟨⟨498, rfl⟩, rfl⟩
set_option maxRecDepth 20000 in
theorem e_ml_1_68 : e_mlok (1, 68, 3, 0) := ⟨⟨505, rfl⟩, rfl⟩
set_option maxRecDepth 20000 in
theorem e_ml_1_74 : e_mlok (1, 74, 5, 0) := ⟨⟨509, rfl⟩, rfl⟩
set_option maxRecDepth 20000 in
theorem e_ml_1_82 : e_mlok (1, 82, 4, 0) := ⟨⟨539, rfl⟩, rfl⟩
set_option maxRecDepth 20000 in
theorem e_ml_1_90 : e_mlok (1, 90, 7, 0) := ⟨⟨543, rfl⟩, rfl⟩
set_option maxRecDepth 20000 in
theorem e_ml_1_94 : e_mlok (1, 94, 8, 0) := ⟨⟨547, rfl⟩, rfl⟩
set_option maxRecDepth 20000 in
theorem e_ml_1_97 : e_mlok (1, 97, 9, 0) := ⟨⟨551, rfl⟩, rfl⟩
set_option maxRecDepth 20000 in
theorem e_ml_1_109 : e_mlok (1, 109, 44, 0) := ⟨⟨559, rfl⟩, rfl⟩
set_option maxRecDepth 20000 in
theorem e_ml_1_112 : e_mlok (1, 112, 45, 0) := ⟨⟨563, rfl⟩, rfl⟩
set_option maxRecDepth 20000 in
theorem e_ml_1_113 : e_mlok (1, 113, 46, 0) := ⟨⟨567, rfl⟩, rfl⟩
set_option maxRecDepth 20000 in
theorem e_ml_1_114 : e_mlok (1, 114, 47, 0) := ⟨⟨571, rfl⟩, rfl⟩
set_option maxRecDepth 20000 in
theorem e_ml_2_21 : e_mlok (2, 21, 12, 0) := ⟨⟨517, rfl⟩, rfl⟩
set_option maxRecDepth 20000 in
theorem e_ml_2_27 : e_mlok (2, 27, 19, 0) := ⟨⟨518, rfl⟩, rfl⟩
set_option maxRecDepth 20000 in
theorem e_ml_2_31 : e_mlok (2, 31, 20, 0) := ⟨⟨528, rfl⟩, rfl⟩
set_option maxRecDepth 20000 in
theorem e_ml_2_58 : e_mlok (2, 58, 6, 0) := ⟨⟨522, rfl⟩, rfl⟩
set_option maxRecDepth 20000 in
theorem e_ml_2_88 : e_mlok (2, 88, 80, 1) := ⟨⟨579, rfl⟩, rfl⟩
set_option maxRecDepth 20000 in
theorem e_ml_3_17 : e_mlok (3, 17, 10, 0) := ⟨⟨316, rfl⟩, rfl⟩
set_option maxRecDepth 20000 in
theorem e_ml_3_22 : e_mlok (3, 22, 24, 0) := ⟨⟨365, rfl⟩, rfl⟩
set_option maxRecDepth 20000 in
theorem e_ml_3_25 : e_mlok (3, 25, 11, 0) := ⟨⟨369, rfl⟩, rfl⟩
set_option maxRecDepth 20000 in
theorem e_ml_4_9 : e_mlok (4, 9, 41, 1) := ⟨⟨76, rfl⟩, rfl⟩
set_option maxRecDepth 20000 in
theorem e_ml_4_18 : e_mlok (4, 18, 1, 1) := ⟨⟨132, rfl⟩, rfl⟩
set_option maxRecDepth 20000 in
theorem e_ml_4_36 : e_mlok (4, 36, 42, 0) := ⟨⟨380, rfl⟩, rfl⟩
set_option maxRecDepth 20000 in
theorem e_ml_4_40 : e_mlok (4, 40, 2, 0) := ⟨⟨384, rfl⟩, rfl⟩
set_option maxRecDepth 20000 in
theorem e_ml_5_11 : e_mlok (5, 11, 17, 1) := ⟨⟨264, rfl⟩, rfl⟩
set_option maxRecDepth 20000 in
theorem e_ml_5_30 : e_mlok (5, 30, 30, 0) := ⟨⟨628, rfl⟩, rfl⟩
set_option maxRecDepth 20000 in
theorem e_ml_5_34 : e_mlok (5, 34, 31, 0) := ⟨⟨636, rfl⟩, rfl⟩
set_option maxRecDepth 20000 in
theorem e_ml_5_56 : e_mlok (5, 56, 32, 0) := ⟨⟨643, rfl⟩, rfl⟩
set_option maxRecDepth 20000 in
theorem e_ml_5_60 : e_mlok (5, 60, 19, 0) := ⟨⟨632, rfl⟩, rfl⟩
set_option maxRecDepth 20000 in
theorem e_ml_5_64 : e_mlok (5, 64, 20, 0) := ⟨⟨633, rfl⟩, rfl⟩
set_option maxRecDepth 20000 in
theorem e_ml_5_70 : e_mlok (5, 70, 21, 0) := ⟨⟨634, rfl⟩, rfl⟩
set_option maxRecDepth 20000 in
theorem e_ml_5_84 : e_mlok (5, 84, 33, 0) := ⟨⟨647, rfl⟩, rfl⟩
set_option maxRecDepth 20000 in
theorem e_ml_6_22 : e_mlok (6, 22, 40, 0) := ⟨⟨427, rfl⟩, rfl⟩
set_option maxRecDepth 20000 in
theorem e_ml_6_28 : e_mlok (6, 28, 36, 0) := ⟨⟨431, rfl⟩, rfl⟩
set_option maxRecDepth 20000 in
theorem e_ml_6_32 : e_mlok (6, 32, 37, 0) := ⟨⟨435, rfl⟩, rfl⟩
set_option maxRecDepth 20000 in
theorem e_ml_6_36 : e_mlok (6, 36, 38, 0) := ⟨⟨440, rfl⟩, rfl⟩
set_option maxRecDepth 20000 in
theorem e_ml_6_40 : e_mlok (6, 40, 39, 0) := ⟨⟨444, rfl⟩, rfl⟩
set_option maxRecDepth 20000 in
theorem e_ml_6_44 : e_mlok (6, 44, 80, 1) := ⟨⟨439, rfl⟩, rfl⟩
set_option maxRecDepth 20000 in
theorem e_ml_8_9 : e_mlok (8, 9, 10, 0) := ⟨⟨63, rfl⟩, rfl⟩
set_option maxRecDepth 20000 in
theorem e_ml_8_18 : e_mlok (8, 18, 17, 1) := ⟨⟨237, rfl⟩, rfl⟩
set_option maxRecDepth 20000 in
theorem e_ml_8_25 : e_mlok (8, 25, 28, 1) := ⟨⟨259, rfl⟩, rfl⟩
set_option maxRecDepth 20000 in
theorem e_ml_8_32 : e_mlok (8, 32, 34, 1) := ⟨⟨287, rfl⟩, rfl⟩
set_option maxRecDepth 20000 in
theorem e_ml_8_39 : e_mlok (8, 39, 22, 0) := ⟨⟨310, rfl⟩, rfl⟩
set_option maxRecDepth 20000 in
theorem e_ml_8_51 : e_mlok (8, 51, 80, 0) := ⟨⟨351, rfl⟩, rfl⟩
set_option maxRecDepth 20000 in
theorem e_ml_8_55 : e_mlok (8, 55, 89, 0) := ⟨⟨354, rfl⟩, rfl⟩
set_option maxRecDepth 20000 in
theorem e_ml_8_59 : e_mlok (8, 59, 23, 0) := ⟨⟨361, rfl⟩, rfl⟩
set_option maxRecDepth 20000 in
theorem e_ml_8_67 : e_mlok (8, 67, 82, 0) := ⟨⟨392, rfl⟩, rfl⟩
set_option maxRecDepth 20000 in
theorem e_ml_8_92 : e_mlok (8, 92, 85, 0) := ⟨⟨399, rfl⟩, rfl⟩
set_option maxRecDepth 20000 in
theorem e_ml_8_96 : e_mlok (8, 96, 81, 0) := ⟨⟨407, rfl⟩, rfl⟩
set_option maxRecDepth 20000 in
theorem e_ml_8_115 : e_mlok (8, 115, 35, 0) := ⟨⟨423, rfl⟩, rfl⟩
set_option maxRecDepth 20000 in
theorem e_ml_8_144 : e_mlok (8, 144, 86, 0) := ⟨⟨456, rfl⟩, rfl⟩
set_option maxRecDepth 20000 in
theorem e_ml_8_150 : e_mlok (8, 150, 83, 0) := ⟨⟨464, rfl⟩, rfl⟩
set_option maxRecDepth 20000 in
theorem e_ml_8_173 : e_mlok (8, 173, 87, 0) := ⟨⟨471, rfl⟩, rfl⟩
set_option maxRecDepth 20000 in
theorem e_ml_8_179 : e_mlok (8, 179, 84, 0) := ⟨⟨475, rfl⟩, rfl⟩
set_option maxRecDepth 20000 in
theorem e_ml_8_183 : e_mlok (8, 183, 62, 0) := ⟨⟨482, rfl⟩, rfl⟩
set_option maxRecDepth 20000 in
theorem e_ml_8_190 : e_mlok (8, 190, 13, 0) := ⟨⟨486, rfl⟩, rfl⟩
set_option maxRecDepth 20000 in
theorem e_ml_8_193 : e_mlok (8, 193, 14, 0) := ⟨⟨494, rfl⟩, rfl⟩
set_option maxRecDepth 20000 in
theorem e_ml_8_196 : e_mlok (8, 196, 18, 0) := ⟨⟨513, rfl⟩, rfl⟩
set_option maxRecDepth 20000 in
theorem e_ml_8_199 : e_mlok (8, 199, 15, 0) := ⟨⟨535, rfl⟩, rfl⟩
set_option maxRecDepth 20000 in
theorem e_ml_8_203 : e_mlok (8, 203, 16, 0) := ⟨⟨555, rfl⟩, rfl⟩
set_option maxRecDepth 20000 in
theorem e_ml_8_210 : e_mlok (8, 210, 21, 0) := ⟨⟨575, rfl⟩, rfl⟩
set_option maxRecDepth 20000 in
theorem e_ml_8_231 : e_mlok (8, 231, 29, 0) := ⟨⟨624, rfl⟩, rfl⟩
set_option maxRecDepth 20000 in
theorem e_ml_8_240 : e_mlok (8, 240, 25, 0) := ⟨⟨662, rfl⟩, rfl⟩
set_option maxRecDepth 20000 in
theorem e_ml_8_243 : e_mlok (8, 243, 88, 0) := ⟨⟨358, rfl⟩, rfl⟩
set_option maxRecDepth 20000 in
theorem e_ml_8_248 : e_mlok (8, 248, 79, 0) := ⟨⟨675, rfl⟩, rfl⟩
set_option maxRecDepth 20000 in
theorem e_ml_8_252 : e_mlok (8, 252, 77, 0) := ⟨⟨679, rfl⟩, rfl⟩
set_option maxRecDepth 20000 in
theorem e_ml_8_256 : e_mlok (8, 256, 78, 0) := ⟨⟨682, rfl⟩, rfl⟩
set_option maxRecDepth 20000 in
theorem e_ml_9_37 : e_mlok (9, 37, 91, 0) := ⟨⟨732, rfl⟩, rfl⟩
set_option maxRecDepth 20000 in
theorem e_ml_9_41 : e_mlok (9, 41, 94, 0) := ⟨⟨754, rfl⟩, rfl⟩
set_option maxRecDepth 20000 in
theorem e_ml_9_49 : e_mlok (9, 49, 92, 0) := ⟨⟨735, rfl⟩, rfl⟩
set_option maxRecDepth 20000 in
theorem e_ml_9_53 : e_mlok (9, 53, 97, 0) := ⟨⟨739, rfl⟩, rfl⟩
set_option maxRecDepth 20000 in
theorem e_ml_9_56 : e_mlok (9, 56, 99, 0) := ⟨⟨747, rfl⟩, rfl⟩
set_option maxRecDepth 20000 in
theorem e_ml_9_60 : e_mlok (9, 60, 96, 0) := ⟨⟨750, rfl⟩, rfl⟩
set_option maxRecDepth 20000 in
theorem e_ml_9_64 : e_mlok (9, 64, 93, 0) := ⟨⟨761, rfl⟩, rfl⟩
set_option maxRecDepth 20000 in
theorem e_ml_9_74 : e_mlok (9, 74, 105, 0) := ⟨⟨781, rfl⟩, rfl⟩
set_option maxRecDepth 20000 in
theorem e_ml_9_78 : e_mlok (9, 78, 107, 0) := ⟨⟨789, rfl⟩, rfl⟩
set_option maxRecDepth 20000 in
theorem e_ml_9_81 : e_mlok (9, 81, 106, 0) := ⟨⟨793, rfl⟩, rfl⟩
set_option maxRecDepth 20000 in
theorem e_ml_9_84 : e_mlok (9, 84, 108, 0) := ⟨⟨785, rfl⟩, rfl⟩
set_option maxRecDepth 20000 in
theorem e_ml_9_88 : e_mlok (9, 88, 95, 0) := ⟨⟨801, rfl⟩, rfl⟩
set_option maxRecDepth 20000 in
theorem e_ml_9_91 : e_mlok (9, 91, 111, 0) := ⟨⟨809, rfl⟩, rfl⟩
set_option maxRecDepth 20000 in
theorem e_ml_9_94 : e_mlok (9, 94, 116, 0) := ⟨⟨837, rfl⟩, rfl⟩
set_option maxRecDepth 20000 in
theorem e_ml_9_97 : e_mlok (9, 97, 115, 0) := ⟨⟨833, rfl⟩, rfl⟩
set_option maxRecDepth 20000 in
theorem e_ml_9_100 : e_mlok (9, 100, 117, 0) := ⟨⟨845, rfl⟩, rfl⟩
set_option maxRecDepth 20000 in
theorem e_ml_9_104 : e_mlok (9, 104, 122, 0) := ⟨⟨857, rfl⟩, rfl⟩
set_option maxRecDepth 20000 in
theorem e_ml_9_107 : e_mlok (9, 107, 123, 0) := ⟨⟨861, rfl⟩, rfl⟩
set_option maxRecDepth 20000 in
theorem e_ml_9_111 : e_mlok (9, 111, 120, 0) := ⟨⟨829, rfl⟩, rfl⟩
set_option maxRecDepth 20000 in
theorem e_ml_9_114 : e_mlok (9, 114, 119, 0) := ⟨⟨841, rfl⟩, rfl⟩
set_option maxRecDepth 20000 in
theorem e_ml_9_117 : e_mlok (9, 117, 121, 0) := ⟨⟨849, rfl⟩, rfl⟩
set_option maxRecDepth 20000 in
theorem e_ml_9_120 : e_mlok (9, 120, 124, 0) := ⟨⟨853, rfl⟩, rfl⟩
set_option maxRecDepth 20000 in
theorem e_ml_9_124 : e_mlok (9, 124, 118, 0) := ⟨⟨865, rfl⟩, rfl⟩
set_option maxRecDepth 20000 in
theorem e_ml_9_127 : e_mlok (9, 127, 125, 0) := ⟨⟨825, rfl⟩, rfl⟩
set_option maxRecDepth 20000 in
theorem e_ml_9_130 : e_mlok (9, 130, 131, 0) := ⟨⟨889, rfl⟩, rfl⟩
set_option maxRecDepth 20000 in
theorem e_ml_9_135 : e_mlok (9, 135, 138, 0) := ⟨⟨930, rfl⟩, rfl⟩
set_option maxRecDepth 20000 in
theorem e_ml_9_138 : e_mlok (9, 138, 139, 0) := ⟨⟨925, rfl⟩, rfl⟩
set_option maxRecDepth 20000 in
theorem e_ml_9_141 : e_mlok (9, 141, 140, 0) := ⟨⟨921, rfl⟩, rfl⟩
set_option maxRecDepth 20000 in
theorem e_ml_9_144 : e_mlok (9, 144, 141, 0) := ⟨⟨917, rfl⟩, rfl⟩
set_option maxRecDepth 20000 in
theorem e_ml_9_151 : e_mlok (9, 151, 146, 0) := ⟨⟨950, rfl⟩, rfl⟩
set_option maxRecDepth 20000 in
theorem e_ml_10_9 : e_mlok (10, 9, 48, 0) := ⟨⟨55, rfl⟩, rfl⟩
set_option maxRecDepth 20000 in
theorem e_ml_10_12 : e_mlok (10, 12, 90, 0) := ⟨⟨687, rfl⟩, rfl⟩
set_option maxRecDepth 20000 in
theorem e_ml_10_13 : e_mlok (10, 13, 49, 0) := ⟨⟨347, rfl⟩, rfl⟩
set_option maxRecDepth 20000 in
theorem e_ml_10_17 : e_mlok (10, 17, 98, 0) := ⟨⟨728, rfl⟩, rfl⟩
set_option maxRecDepth 20000 in
theorem e_ml_10_18 : e_mlok (10, 18, 50, 0) := ⟨⟨388, rfl⟩, rfl⟩
set_option maxRecDepth 20000 in
theorem e_ml_10_22 : e_mlok (10, 22, 100, 0) := ⟨⟨743, rfl⟩, rfl⟩
set_option maxRecDepth 20000 in
theorem e_ml_10_23 : e_mlok (10, 23, 51, 0) := ⟨⟨395, rfl⟩, rfl⟩
set_option maxRecDepth 20000 in
theorem e_ml_10_27 : e_mlok (10, 27, 101, 0) := ⟨⟨757, rfl⟩, rfl⟩
set_option maxRecDepth 20000 in
theorem e_ml_10_28 : e_mlok (10, 28, 52, 0) := ⟨⟨403, rfl⟩, rfl⟩
set_option maxRecDepth 20000 in
theorem e_ml_10_32 : e_mlok (10, 32, 102, 0) := ⟨⟨765, rfl⟩, rfl⟩
set_option maxRecDepth 20000 in
theorem e_ml_10_33 : e_mlok (10, 33, 53, 0) := ⟨⟨410, rfl⟩, rfl⟩
set_option maxRecDepth 20000 in
theorem e_ml_10_36 : e_mlok (10, 36, 103, 0) := ⟨⟨769, rfl⟩, rfl⟩
set_option maxRecDepth 20000 in
theorem e_ml_10_37 : e_mlok (10, 37, 54, 0) := ⟨⟨414, rfl⟩, rfl⟩
set_option maxRecDepth 20000 in
theorem e_ml_10_41 : e_mlok (10, 41, 104, 0) := ⟨⟨773, rfl⟩, rfl⟩
set_option maxRecDepth 20000 in
theorem e_ml_10_42 : e_mlok (10, 42, 55, 0) := ⟨⟨418, rfl⟩, rfl⟩
set_option maxRecDepth 20000 in
theorem e_ml_10_45 : e_mlok (10, 45, 109, 0) := ⟨⟨777, rfl⟩, rfl⟩
set_option maxRecDepth 20000 in
theorem e_ml_10_46 : e_mlok (10, 46, 56, 0) := ⟨⟨448, rfl⟩, rfl⟩
set_option maxRecDepth 20000 in
theorem e_ml_10_50 : e_mlok (10, 50, 110, 0) := ⟨⟨797, rfl⟩, rfl⟩
set_option maxRecDepth 20000 in
theorem e_ml_10_51 : e_mlok (10, 51, 57, 0) := ⟨⟨452, rfl⟩, rfl⟩
set_option maxRecDepth 20000 in
theorem e_ml_10_54 : e_mlok (10, 54, 112, 0) := ⟨⟨805, rfl⟩, rfl⟩
set_option maxRecDepth 20000 in
theorem e_ml_10_55 : e_mlok (10, 55, 58, 0) := ⟨⟨460, rfl⟩, rfl⟩
set_option maxRecDepth 20000 in
theorem e_ml_10_59 : e_mlok (10, 59, 113, 0) := ⟨⟨813, rfl⟩, rfl⟩
set_option maxRecDepth 20000 in
theorem e_ml_10_60 : e_mlok (10, 60, 59, 0) := ⟨⟨467, rfl⟩, rfl⟩
set_option maxRecDepth 20000 in
theorem e_ml_10_63 : e_mlok (10, 63, 114, 0) := ⟨⟨817, rfl⟩, rfl⟩
set_option maxRecDepth 20000 in
theorem e_ml_10_64 : e_mlok (10, 64, 60, 0) := ⟨⟨478, rfl⟩, rfl⟩
set_option maxRecDepth 20000 in
theorem e_ml_10_67 : e_mlok (10, 67, 126, 0) := ⟨⟨821, rfl⟩, rfl⟩
set_option maxRecDepth 20000 in
theorem e_ml_10_68 : e_mlok (10, 68, 61, 0) := ⟨⟨580, rfl⟩, rfl⟩
set_option maxRecDepth 20000 in
theorem e_ml_10_71 : e_mlok (10, 71, 127, 0) := ⟨⟨869, rfl⟩, rfl⟩
set_option maxRecDepth 20000 in
theorem e_ml_10_72 : e_mlok (10, 72, 63, 0) := ⟨⟨584, rfl⟩, rfl⟩
set_option maxRecDepth 20000 in
theorem e_ml_10_75 : e_mlok (10, 75, 128, 0) := ⟨⟨873, rfl⟩, rfl⟩
set_option maxRecDepth 20000 in
theorem e_ml_10_76 : e_mlok (10, 76, 64, 0) := ⟨⟨588, rfl⟩, rfl⟩
set_option maxRecDepth 20000 in
theorem e_ml_10_79 : e_mlok (10, 79, 129, 0) := ⟨⟨877, rfl⟩, rfl⟩
set_option maxRecDepth 20000 in
theorem e_ml_10_80 : e_mlok (10, 80, 65, 0) := ⟨⟨592, rfl⟩, rfl⟩
set_option maxRecDepth 20000 in
theorem e_ml_10_83 : e_mlok (10, 83, 130, 0) := ⟨⟨881, rfl⟩, rfl⟩
set_option maxRecDepth 20000 in
theorem e_ml_10_84 : e_mlok (10, 84, 66, 0) := ⟨⟨596, rfl⟩, rfl⟩
set_option maxRecDepth 20000 in
theorem e_ml_10_87 : e_mlok (10, 87, 132, 0) := ⟨⟨885, rfl⟩, rfl⟩
set_option maxRecDepth 20000 in
theorem e_ml_10_88 : e_mlok (10, 88, 67, 0) := ⟨⟨600, rfl⟩, rfl⟩
set_option maxRecDepth 20000 in
theorem e_ml_10_91 : e_mlok (10, 91, 133, 0) := ⟨⟨893, rfl⟩, rfl⟩
set_option maxRecDepth 20000 in
theorem e_ml_10_92 : e_mlok (10, 92, 68, 0) := ⟨⟨604, rfl⟩, rfl⟩
set_option maxRecDepth 20000 in
theorem e_ml_10_95 : e_mlok (10, 95, 134, 0) := ⟨⟨897, rfl⟩, rfl⟩
set_option maxRecDepth 20000 in
theorem e_ml_10_96 : e_mlok (10, 96, 69, 0) := ⟨⟨608, rfl⟩, rfl⟩
set_option maxRecDepth 20000 in
theorem e_ml_10_99 : e_mlok (10, 99, 135, 0) := ⟨⟨901, rfl⟩, rfl⟩
set_option maxRecDepth 20000 in
theorem e_ml_10_100 : e_mlok (10, 100, 70, 0) := ⟨⟨612, rfl⟩, rfl⟩
set_option maxRecDepth 20000 in
theorem e_ml_10_103 : e_mlok (10, 103, 136, 0) := ⟨⟨905, rfl⟩, rfl⟩
set_option maxRecDepth 20000 in
theorem e_ml_10_104 : e_mlok (10, 104, 71, 0) := ⟨⟨616, rfl⟩, rfl⟩
set_option maxRecDepth 20000 in
theorem e_ml_10_107 : e_mlok (10, 107, 137, 0) := ⟨⟨909, rfl⟩, rfl⟩
set_option maxRecDepth 20000 in
theorem e_ml_10_108 : e_mlok (10, 108, 72, 0) := ⟨⟨620, rfl⟩, rfl⟩
set_option maxRecDepth 20000 in
theorem e_ml_10_111 : e_mlok (10, 111, 142, 0) := ⟨⟨913, rfl⟩, rfl⟩
set_option maxRecDepth 20000 in
theorem e_ml_10_112 : e_mlok (10, 112, 73, 0) := ⟨⟨654, rfl⟩, rfl⟩
set_option maxRecDepth 20000 in
theorem e_ml_10_115 : e_mlok (10, 115, 143, 0) := ⟨⟨933, rfl⟩, rfl⟩
set_option maxRecDepth 20000 in
theorem e_ml_10_116 : e_mlok (10, 116, 74, 0) := ⟨⟨658, rfl⟩, rfl⟩
set_option maxRecDepth 20000 in
theorem e_ml_10_119 : e_mlok (10, 119, 144, 0) := ⟨⟨937, rfl⟩, rfl⟩
set_option maxRecDepth 20000 in
theorem e_ml_10_120 : e_mlok (10, 120, 75, 0) := ⟨⟨666, rfl⟩, rfl⟩
set_option maxRecDepth 20000 in
theorem e_ml_10_123 : e_mlok (10, 123, 145, 0) := ⟨⟨941, rfl⟩, rfl⟩
set_option maxRecDepth 20000 in
theorem e_ml_10_124 : e_mlok (10, 124, 76, 0) := ⟨⟨670, rfl⟩, rfl⟩
set_option maxRecDepth 20000 in
theorem e_ml_10_128 : e_mlok (10, 128, 147, 0) := ⟨⟨945, rfl⟩, rfl⟩
def e_FLs_0 : List (Nat × Nat × Nat × Nat) := [(0, 9, 0, 0), (0, 15, 0, 1), (0, 19, 0, 2), (0, 22, 0, 3), (0, 25, 0, 4), (0, 28, 0, 5), (0, 31, 0, 6), (0, 34, 0, 7), (1, 9, 1, 1), (1, 15, 1, 4), (1, 21, 1, 5), (1, 26, 1, 0), (1, 29, 1, 2), (1, 32, 1, 3), (1, 51, 4, 4), (1, 64, 4, 5), (1, 78, 0, 6), (1, 85, 2, 1), (1, 100, 7, 0), (1, 103, 2, 2), (1, 106, 2, 0), (2, 9, 2, 0), (2, 15, 2, 1), (2, 18, 2, 2), (2, 35, 1, 4), (2, 38, 1, 2), (2, 42, 1, 5), (2, 46, 4, 2), (2, 51, 4, 3), (2, 54, 4, 5), (2, 64, 1, 1), (2, 67, 4, 4), (2, 71, 7, 5), (2, 76, 4, 0), (2, 79, 4, 1), (3, 11, 3, 0), (3, 18, 3, 1), (4, 10, 4, 4), (4, 19, 4, 5), (4, 23, 4, 0)]
theorem e_FLs_0_ok : ∀ q ∈ e_FLs_0, e_flok q := List.forall_mem_cons.mpr ⟨e_fl_0_9, List.forall_mem_cons.mpr ⟨e_fl_0_15, List.forall_mem_cons.mpr ⟨e_fl_0_19, List.forall_mem_cons.mpr ⟨e_fl_0_22, List.forall_mem_cons.mpr ⟨e_fl_0_25, List.forall_mem_cons.mpr ⟨e_fl_0_28, List.forall_mem_cons.mpr ⟨e_fl_0_31, List.forall_mem_cons.mpr ⟨e_fl_0_34, List.forall_mem_cons.mpr ⟨e_fl_1_9, List.forall_mem_cons.mpr ⟨e_fl_1_15, List.forall_mem_cons.mpr ⟨e_fl_1_21, List.forall_mem_cons.mpr ⟨e_fl_1_26, List.forall_mem_cons.mpr ⟨e_fl_1_29, List.forall_mem_cons.mpr ⟨e_fl_1_32, List.forall_mem_cons.mpr ⟨e_fl_1_51, List.forall_mem_cons.mpr ⟨e_fl_1_64, List.forall_mem_cons.mpr ⟨e_fl_1_78, List.forall_mem_cons.mpr ⟨e_fl_1_85, List.forall_mem_cons.mpr ⟨e_fl_1_100, List.forall_mem_cons.mpr ⟨e_fl_1_103, List.forall_mem_cons.mpr ⟨e_fl_1_106, List.forall_mem_cons.mpr ⟨e_fl_2_9, List.forall_mem_cons.mpr ⟨e_fl_2_15, List.forall_mem_cons.mpr ⟨e_fl_2_18, List.forall_mem_cons.mpr ⟨e_fl_2_35, List.forall_mem_cons.mpr ⟨e_fl_2_38, List.forall_mem_cons.mpr ⟨e_fl_2_42, List.forall_mem_cons.mpr ⟨e_fl_2_46, List.forall_mem_cons.mpr ⟨e_fl_2_51, List.forall_mem_cons.mpr ⟨e_fl_2_54, List.forall_mem_cons.mpr ⟨e_fl_2_64, List.forall_mem_cons.mpr ⟨e_fl_2_67, List.forall_mem_cons.mpr ⟨e_fl_2_71, List.forall_mem_cons.mpr ⟨e_fl_2_76, List.forall_mem_cons.mpr ⟨e_fl_2_79, List.forall_mem_cons.mpr ⟨e_fl_3_11, List.forall_mem_cons.mpr ⟨e_fl_3_18, List.forall_mem_cons.mpr ⟨e_fl_4_10, List.forall_mem_cons.mpr ⟨e_fl_4_19, List.forall_mem_cons.mpr ⟨e_fl_4_23, (fun _ h => absurd h List.not_mem_nil)⟩⟩⟩⟩⟩⟩⟩⟩⟩⟩⟩⟩⟩⟩⟩⟩⟩⟩⟩⟩⟩⟩⟩⟩⟩⟩⟩⟩⟩⟩⟩⟩⟩⟩⟩⟩⟩⟩⟩⟩
def e_FLs_1 : List (Nat × Nat × Nat × Nat) := [(4, 27, 4, 1), (4, 30, 4, 2), (4, 33, 4, 3), (5, 12, 5, 0), (5, 20, 5, 1), (5, 23, 5, 2), (5, 27, 5, 3), (5, 38, 1, 5), (5, 44, 4, 4), (5, 50, 7, 5), (5, 67, 1, 2), (5, 81, 5, 4), (6, 9, 6, 0), (6, 15, 6, 2), (6, 19, 6, 3), (6, 25, 6, 1), (7, 9, 7, 0), (7, 15, 7, 1), (7, 19, 7, 2), (7, 22, 7, 3), (7, 25, 7, 4), (7, 28, 7, 5), (7, 31, 7, 6), (7, 34, 7, 7), (7, 37, 7, 8), (7, 40, 7, 9), (7, 43, 7, 10), (7, 46, 7, 11), (8, 10, 8, 0), (8, 19, 8, 1), (8, 26, 8, 2), (8, 33, 8, 3), (8, 40, 8, 4), (8, 44, 8, 5), (8, 48, 8, 6), (8, 63, 1, 1), (8, 71, 1, 2), (8, 74, 1, 5), (8, 78, 4, 0), (8, 83, 4, 1)]
theorem e_FLs_1_ok : ∀ q ∈ e_FLs_1, e_flok q := List.forall_mem_cons.mpr ⟨e_fl_4_27, List.forall_mem_cons.mpr ⟨e_fl_4_30, List.forall_mem_cons.mpr ⟨e_fl_4_33, List.forall_mem_cons.mpr ⟨e_fl_5_12, List.forall_mem_cons.mpr ⟨e_fl_5_20, List.forall_mem_cons.mpr ⟨e_fl_5_23, List.forall_mem_cons.mpr ⟨e_fl_5_27, List.forall_mem_cons.mpr ⟨e_fl_5_38, List.forall_mem_cons.mpr ⟨e_fl_5_44, List.forall_mem_cons.mpr ⟨e_fl_5_50, List.forall_mem_cons.mpr ⟨e_fl_5_67, List.forall_mem_cons.mpr ⟨e_fl_5_81, List.forall_mem_cons.mpr ⟨e_fl_6_9, List.forall_mem_cons.mpr ⟨e_fl_6_15, List.forall_mem_cons.mpr ⟨e_fl_6_19, List.forall_mem_cons.mpr ⟨e_fl_6_25, List.forall_mem_cons.mpr ⟨e_fl_7_9, List.forall_mem_cons.mpr ⟨e_fl_7_15, List.forall_mem_cons.mpr ⟨e_fl_7_19, List.forall_mem_cons.mpr ⟨e_fl_7_22, List.forall_mem_cons.mpr ⟨e_fl_7_25, List.forall_mem_cons.mpr ⟨e_fl_7_28, List.forall_mem_cons.mpr ⟨e_fl_7_31, List.forall_mem_cons.mpr ⟨e_fl_7_34, List.forall_mem_cons.mpr ⟨e_fl_7_37, List.forall_mem_cons.mpr ⟨e_fl_7_40, List.forall_mem_cons.mpr ⟨e_fl_7_43, List.forall_mem_cons.mpr ⟨e_fl_7_46, List.forall_mem_cons.mpr ⟨e_fl_8_10, List.forall_mem_cons.mpr ⟨e_fl_8_19, List.forall_mem_cons.mpr ⟨e_fl_8_26, List.forall_mem_cons.mpr ⟨e_fl_8_33, List.forall_mem_cons.mpr ⟨e_fl_8_40, List.forall_mem_cons.mpr ⟨e_fl_8_44, List.forall_mem_cons.mpr ⟨e_fl_8_48, List.forall_mem_cons.mpr ⟨e_fl_8_63, List.forall_mem_cons.mpr ⟨e_fl_8_71, List.forall_mem_cons.mpr ⟨e_fl_8_74, List.forall_mem_cons.mpr ⟨e_fl_8_78, List.forall_mem_cons.mpr ⟨e_fl_8_83, (fun _ h => absurd h List.not_mem_nil)⟩⟩⟩⟩⟩⟩⟩⟩⟩⟩⟩⟩⟩⟩⟩⟩⟩⟩⟩⟩⟩⟩⟩⟩⟩⟩⟩⟩⟩⟩⟩⟩⟩⟩⟩⟩⟩⟩⟩⟩
def e_FLs_2 : List (Nat × Nat × Nat × Nat) := [(8, 86, 4, 2), (8, 89, 4, 3), (8, 99, 1, 4), (8, 102, 6, 1), (8, 105, 6, 0), (8, 119, 6, 3), (8, 122, 4, 4), (8, 126, 7, 0), (8, 132, 7, 1), (8, 135, 7, 2), (8, 138, 7, 3), (8, 141, 7, 4), (8, 147, 7, 5), (8, 153, 4, 5), (8, 157, 0, 0), (8, 160, 0, 1), (8, 163, 0, 2), (8, 166, 0, 3), (8, 169, 0, 4), (8, 172, 0, 5), (8, 176, 0, 6), (8, 187, 1, 0), (8, 207, 1, 3), (8, 213, 2, 2), (8, 216, 2, 0), (8, 219, 2, 1), (8, 222, 7, 6), (8, 225, 7, 8), (8, 228, 7, 7), (8, 235, 5, 4), (8, 236, 5, 3), (8, 239, 3, 1), (8, 260, 0, 7), (9, 7, 9, 0), (9, 13, 9, 1), (9, 16, 9, 3), (9, 19, 9, 5), (9, 22, 9, 6), (9, 25, 9, 7), (9, 28, 9, 8)]
theorem e_FLs_2_ok : ∀ q ∈ e_FLs_2, e_flok q := List.forall_mem_cons.mpr ⟨e_fl_8_86, List.forall_mem_cons.mpr ⟨e_fl_8_89, List.forall_mem_cons.mpr ⟨e_fl_8_99, List.forall_mem_cons.mpr ⟨e_fl_8_102, List.forall_mem_cons.mpr ⟨e_fl_8_105, List.forall_mem_cons.mpr ⟨e_fl_8_119, List.forall_mem_cons.mpr ⟨e_fl_8_122, List.forall_mem_cons.mpr ⟨e_fl_8_126, List.forall_mem_cons.mpr ⟨e_fl_8_132, List.forall_mem_cons.mpr ⟨e_fl_8_135, List.forall_mem_cons.mpr ⟨e_fl_8_138, List.forall_mem_cons.mpr ⟨e_fl_8_141, List.forall_mem_cons.mpr ⟨e_fl_8_147, List.forall_mem_cons.mpr ⟨e_fl_8_153, List.forall_mem_cons.mpr ⟨e_fl_8_157, List.forall_mem_cons.mpr ⟨e_fl_8_160, List.forall_mem_cons.mpr ⟨e_fl_8_163, List.forall_mem_cons.mpr ⟨e_fl_8_166, List.forall_mem_cons.mpr ⟨e_fl_8_169, List.forall_mem_cons.mpr ⟨e_fl_8_172, List.forall_mem_cons.mpr ⟨e_fl_8_176, List.forall_mem_cons.mpr ⟨e_fl_8_187, List.forall_mem_cons.mpr ⟨e_fl_8_207, List.forall_mem_cons.mpr ⟨e_fl_8_213, List.forall_mem_cons.mpr ⟨e_fl_8_216, List.forall_mem_cons.mpr ⟨e_fl_8_219, List.forall_mem_cons.mpr ⟨e_fl_8_222, List.forall_mem_cons.mpr ⟨e_fl_8_225, List.forall_mem_cons.mpr ⟨e_fl_8_228, List.forall_mem_cons.mpr ⟨e_fl_8_235, List.forall_mem_cons.mpr ⟨e_fl_8_236, List.forall_mem_cons.mpr ⟨e_fl_8_239, List.forall_mem_cons.mpr ⟨e_fl_8_260, List.forall_mem_cons.mpr ⟨e_fl_9_7, List.forall_mem_cons.mpr ⟨e_fl_9_13, List.forall_mem_cons.mpr ⟨e_fl_9_16, List.forall_mem_cons.mpr ⟨e_fl_9_19, List.forall_mem_cons.mpr ⟨e_fl_9_22, List.forall_mem_cons.mpr ⟨e_fl_9_25, List.forall_mem_cons.mpr ⟨e_fl_9_28, (fun _ h => absurd h List.not_mem_nil)⟩⟩⟩⟩⟩⟩⟩⟩⟩⟩⟩⟩⟩⟩⟩⟩⟩⟩⟩⟩⟩⟩⟩⟩⟩⟩⟩⟩⟩⟩⟩⟩⟩⟩⟩⟩⟩⟩⟩⟩
def e_FLs_3 : List (Nat × Nat × Nat × Nat) := [(9, 31, 9, 10), (9, 34, 9, 11), (9, 45, 9, 2), (9, 68, 9, 4), (9, 71, 9, 9)]
theorem e_FLs_3_ok : ∀ q ∈ e_FLs_3, e_flok q := List.forall_mem_cons.mpr ⟨e_fl_9_31, List.forall_mem_cons.mpr ⟨e_fl_9_34, List.forall_mem_cons.mpr ⟨e_fl_9_45, List.forall_mem_cons.mpr ⟨e_fl_9_68, List.forall_mem_cons.mpr ⟨e_fl_9_71, (fun _ h => absurd h List.not_mem_nil)⟩⟩⟩⟩⟩
def e_FLs : List (Nat × Nat × Nat × Nat) := e_FLs_0 ++ e_FLs_1 ++ e_FLs_2 ++ e_FLs_3
theorem e_FLs_ok : ∀ q ∈ e_FLs, e_flok q := List.forall_mem_append.mpr ⟨List.forall_mem_append.mpr ⟨List.forall_mem_append.mpr ⟨e_FLs_0_ok, e_FLs_1_ok⟩, e_FLs_2_ok⟩, e_FLs_3_ok⟩
def e_MLs_0 : List (Nat × Nat × Nat × Nat) := [(0, 37, 3, 0), (0, 41, 5, 0), (1, 25, 26, 1), (1, 41, 27, 0), (1, 55, 43, 0), (1, 60, 12, 0), (1, 68, 3, 0), (1, 74, 5, 0), (1, 82, 4, 0), (1, 90, 7, 0), (1, 94, 8, 0), (1, 97, 9, 0), (1, 109, 44, 0), (1, 112, 45, 0), (1, 113, 46, 0), (1, 114, 47, 0), (2, 21, 12, 0), (2, 27, 19, 0), (2, 31, 20, 0), (2, 58, 6, 0), (2, 88, 80, 1), (3, 17, 10, 0), (3, 22, 24, 0), (3, 25, 11, 0), (4, 9, 41, 1), (4, 18, 1, 1), (4, 36, 42, 0), (4, 40, 2, 0), (5, 11, 17, 1), (5, 30, 30, 0), (5, 34, 31, 0), (5, 56, 32, 0), (5, 60, 19, 0), (5, 64, 20, 0), (5, 70, 21, 0), (5, 84, 33, 0), (6, 22, 40, 0), (6, 28, 36, 0), (6, 32, 37, 0), (6, 36, 38, 0)]
theorem e_MLs_0_ok : ∀ q ∈ e_MLs_0, e_mlok q := List.forall_mem_cons.mpr ⟨e_ml_0_37, List.forall_mem_cons.mpr ⟨e_ml_0_41, List.forall_mem_cons.mpr ⟨e_ml_1_25, List.forall_mem_cons.mpr ⟨e_ml_1_41, List.forall_mem_cons.mpr ⟨e_ml_1_55, List.forall_mem_cons.mpr ⟨e_ml_1_60, List.forall_mem_cons.mpr ⟨e_ml_1_68, List.forall_mem_cons.mpr ⟨e_ml_1_74, List.forall_mem_cons.mpr ⟨e_ml_1_82, List.forall_mem_cons.mpr ⟨e_ml_1_90, List.forall_mem_cons.mpr ⟨e_ml_1_94, List.forall_mem_cons.mpr ⟨e_ml_1_97, List.forall_mem_cons.mpr ⟨e_ml_1_109, List.forall_mem_cons.mpr ⟨e_ml_1_112, List.forall_mem_cons.mpr ⟨e_ml_1_113, List.forall_mem_cons.mpr ⟨e_ml_1_114, List.forall_mem_cons.mpr ⟨e_ml_2_21, List.forall_mem_cons.mpr ⟨e_ml_2_27, List.forall_mem_cons.mpr ⟨e_ml_2_31, List.forall_mem_cons.mpr ⟨e_ml_2_58, List.forall_mem_cons.mpr ⟨e_ml_2_88, List.forall_mem_cons.mpr ⟨e_ml_3_17, List.forall_mem_cons.mpr ⟨e_ml_3_22, List.forall_mem_cons.mpr ⟨e_ml_3_25, List.forall_mem_cons.mpr ⟨e_ml_4_9, List.forall_mem_cons.mpr ⟨e_ml_4_18, List.forall_mem_cons.mpr ⟨e_ml_4_36, List.forall_mem_cons.mpr ⟨e_ml_4_40, List.forall_mem_cons.mpr ⟨e_ml_5_11, List.forall_mem_cons.mpr ⟨e_ml_5_30, List.forall_mem_cons.mpr ⟨e_ml_5_34, List.forall_mem_cons.mpr ⟨e_ml_5_56, List.forall_mem_cons.mpr ⟨e_ml_5_60, List.forall_mem_cons.mpr ⟨e_ml_5_64, List.forall_mem_cons.mpr ⟨e_ml_5_70, List.forall_mem_cons.mpr ⟨e_ml_5_84, List.forall_mem_cons.mpr ⟨e_ml_6_22, List.forall_mem_cons.mpr ⟨e_ml_6_28, List.forall_mem_cons.mpr ⟨e_ml_6_32, List.forall_mem_cons.mpr ⟨e_ml_6_36, (fun _ h => absurd h List.not_mem_nil)⟩⟩⟩⟩⟩⟩⟩⟩⟩⟩⟩⟩⟩⟩⟩⟩⟩⟩⟩⟩⟩⟩⟩⟩⟩⟩⟩⟩⟩⟩⟩⟩⟩⟩⟩⟩⟩⟩⟩⟩
def e_MLs_1 : List (Nat × Nat × Nat × Nat) := [(6, 40, 39, 0), (6, 44, 80, 1), (8, 9, 10, 0), (8, 18, 17, 1), (8, 25, 28, 1), (8, 32, 34, 1), (8, 39, 22, 0), (8, 51, 80, 0), (8, 55, 89, 0), (8, 59, 23, 0), (8, 67, 82, 0), (8, 92, 85, 0), (8, 96, 81, 0), (8, 115, 35, 0), (8, 144, 86, 0), (8, 150, 83, 0), (8, 173, 87, 0), (8, 179, 84, 0), (8, 183, 62, 0), (8, 190, 13, 0), (8, 193, 14, 0), (8, 196, 18, 0), (8, 199, 15, 0), (8, 203, 16, 0), (8, 210, 21, 0), (8, 231, 29, 0), (8, 240, 25, 0), (8, 243, 88, 0), (8, 248, 79, 0), (8, 252, 77, 0), (8, 256, 78, 0), (9, 37, 91, 0), (9, 41, 94, 0), (9, 49, 92, 0), (9, 53, 97, 0), (9, 56, 99, 0), (9, 60, 96, 0), (9, 64, 93, 0), (9, 74, 105, 0), (9, 78, 107, 0)]
theorem e_MLs_1_ok : ∀ q ∈ e_MLs_1, e_mlok q := List.forall_mem_cons.mpr ⟨e_ml_6_40, List.forall_mem_cons.mpr ⟨e_ml_6_44, List.forall_mem_cons.mpr ⟨e_ml_8_9, List.forall_mem_cons.mpr ⟨e_ml_8_18, List.forall_mem_cons.mpr ⟨e_ml_8_25, List.forall_mem_cons.mpr ⟨e_ml_8_32, List.forall_mem_cons.mpr ⟨e_ml_8_39, List.forall_mem_cons.mpr ⟨e_ml_8_51, List.forall_mem_cons.mpr ⟨e_ml_8_55, List.forall_mem_cons.mpr ⟨e_ml_8_59, List.forall_mem_cons.mpr ⟨e_ml_8_67, List.forall_mem_cons.mpr ⟨e_ml_8_92, List.forall_mem_cons.mpr ⟨e_ml_8_96, List.forall_mem_cons.mpr ⟨e_ml_8_115, List.forall_mem_cons.mpr ⟨e_ml_8_144, List.forall_mem_cons.mpr ⟨e_ml_8_150, List.forall_mem_cons.mpr ⟨e_ml_8_173, List.forall_mem_cons.mpr ⟨e_ml_8_179, List.forall_mem_cons.mpr ⟨e_ml_8_183, List.forall_mem_cons.mpr ⟨e_ml_8_190, List.forall_mem_cons.mpr ⟨e_ml_8_193, List.forall_mem_cons.mpr ⟨e_ml_8_196, List.forall_mem_cons.mpr ⟨e_ml_8_199, List.forall_mem_cons.mpr ⟨e_ml_8_203, List.forall_mem_cons.mpr ⟨e_ml_8_210, List.forall_mem_cons.mpr ⟨e_ml_8_231, List.forall_mem_cons.mpr ⟨e_ml_8_240, List.forall_mem_cons.mpr ⟨e_ml_8_243, List.forall_mem_cons.mpr ⟨e_ml_8_248, List.forall_mem_cons.mpr ⟨e_ml_8_252, List.forall_mem_cons.mpr ⟨e_ml_8_256, List.forall_mem_cons.mpr ⟨e_ml_9_37, List.forall_mem_cons.mpr ⟨e_ml_9_41, List.forall_mem_cons.mpr ⟨e_ml_9_49, List.forall_mem_cons.mpr ⟨e_ml_9_53, List.forall_mem_cons.mpr ⟨e_ml_9_56, List.forall_mem_cons.mpr ⟨e_ml_9_60, List.forall_mem_cons.mpr ⟨e_ml_9_64, List.forall_mem_cons.mpr ⟨e_ml_9_74, List.forall_mem_cons.mpr ⟨e_ml_9_78, (fun _ h => absurd h List.not_mem_nil)⟩⟩⟩⟩⟩⟩⟩⟩⟩⟩⟩⟩⟩⟩⟩⟩⟩⟩⟩⟩⟩⟩⟩⟩⟩⟩⟩⟩⟩⟩⟩⟩⟩⟩⟩⟩⟩⟩⟩⟩
def e_MLs_2 : List (Nat × Nat × Nat × Nat) := [(9, 81, 106, 0), (9, 84, 108, 0), (9, 88, 95, 0), (9, 91, 111, 0), (9, 94, 116, 0), (9, 97, 115, 0), (9, 100, 117, 0), (9, 104, 122, 0), (9, 107, 123, 0), (9, 111, 120, 0), (9, 114, 119, 0), (9, 117, 121, 0), (9, 120, 124, 0), (9, 124, 118, 0), (9, 127, 125, 0), (9, 130, 131, 0), (9, 135, 138, 0), (9, 138, 139, 0), (9, 141, 140, 0), (9, 144, 141, 0), (9, 151, 146, 0), (10, 9, 48, 0), (10, 12, 90, 0), (10, 13, 49, 0), (10, 17, 98, 0), (10, 18, 50, 0), (10, 22, 100, 0), (10, 23, 51, 0), (10, 27, 101, 0), (10, 28, 52, 0), (10, 32, 102, 0), (10, 33, 53, 0), (10, 36, 103, 0), (10, 37, 54, 0), (10, 41, 104, 0), (10, 42, 55, 0), (10, 45, 109, 0), (10, 46, 56, 0), (10, 50, 110, 0), (10, 51, 57, 0)]
theorem e_MLs_2_ok : ∀ q ∈ e_MLs_2, e_mlok q := List.forall_mem_cons.mpr ⟨e_ml_9_81, List.forall_mem_cons.mpr ⟨e_ml_9_84, List.forall_mem_cons.mpr ⟨e_ml_9_88, List.forall_mem_cons.mpr ⟨e_ml_9_91, List.forall_mem_cons.mpr ⟨e_ml_9_94, List.forall_mem_cons.mpr ⟨e_ml_9_97, List.forall_mem_cons.mpr ⟨e_ml_9_100, List.forall_mem_cons.mpr ⟨e_ml_9_104, List.forall_mem_cons.mpr ⟨e_ml_9_107, List.forall_mem_cons.mpr ⟨e_ml_9_111, List.forall_mem_cons.mpr ⟨e_ml_9_114, List.forall_mem_cons.mpr ⟨e_ml_9_117, List.forall_mem_cons.mpr ⟨e_ml_9_120, List.forall_mem_cons.mpr ⟨e_ml_9_124, List.forall_mem_cons.mpr ⟨e_ml_9_127, List.forall_mem_cons.mpr ⟨e_ml_9_130, List.forall_mem_cons.mpr ⟨e_ml_9_135, List.forall_mem_cons.mpr ⟨e_ml_9_138, List.forall_mem_cons.mpr ⟨e_ml_9_141, List.forall_mem_cons.mpr ⟨e_ml_9_144, List.forall_mem_cons.mpr ⟨e_ml_9_151, List.forall_mem_cons.mpr ⟨e_ml_10_9, List.forall_mem_cons.mpr ⟨e_ml_10_12, List.forall_mem_cons.mpr ⟨e_ml_10_13, List.forall_mem_cons.mpr ⟨e_ml_10_17, List.forall_mem_cons.mpr ⟨e_ml_10_18, List.forall_mem_cons.mpr ⟨e_ml_10_22, List.forall_mem_cons.mpr ⟨e_ml_10_23, List.forall_mem_cons.mpr ⟨e_ml_10_27, List.forall_mem_cons.mpr ⟨e_ml_10_28, List.forall_mem_cons.mpr ⟨e_ml_10_32, List.forall_mem_cons.mpr ⟨e_ml_10_33, List.forall_mem_cons.mpr ⟨e_ml_10_36, List.forall_mem_cons.mpr ⟨e_ml_10_37, List.forall_mem_cons.mpr ⟨e_ml_10_41, List.forall_mem_cons.mpr ⟨e_ml_10_42, List.forall_mem_cons.mpr ⟨e_ml_10_45, List.forall_mem_cons.mpr ⟨e_ml_10_46, List.forall_mem_cons.mpr ⟨e_ml_10_50, List.forall_mem_cons.mpr ⟨e_ml_10_51, (fun _ h => absurd h List.not_mem_nil)⟩⟩⟩⟩⟩⟩⟩⟩⟩⟩⟩⟩⟩⟩⟩⟩⟩⟩⟩⟩⟩⟩⟩⟩⟩⟩⟩⟩⟩⟩⟩⟩⟩⟩⟩⟩⟩⟩⟩⟩
def e_MLs_3 : List (Nat × Nat × Nat × Nat) := [(10, 54, 112, 0), (10, 55, 58, 0), (10, 59, 113, 0), (10, 60, 59, 0), (10, 63, 114, 0), (10, 64, 60, 0), (10, 67, 126, 0), (10, 68, 61, 0), (10, 71, 127, 0), (10, 72, 63, 0), (10, 75, 128, 0), (10, 76, 64, 0), (10, 79, 129, 0), (10, 80, 65, 0), (10, 83, 130, 0), (10, 84, 66, 0), (10, 87, 132, 0), (10, 88, 67, 0), (10, 91, 133, 0), (10, 92, 68, 0), (10, 95, 134, 0), (10, 96, 69, 0), (10, 99, 135, 0), (10, 100, 70, 0), (10, 103, 136, 0), (10, 104, 71, 0), (10, 107, 137, 0), (10, 108, 72, 0), (10, 111, 142, 0), (10, 112, 73, 0), (10, 115, 143, 0), (10, 116, 74, 0), (10, 119, 144, 0), (10, 120, 75, 0), (10, 123, 145, 0), (10, 124, 76, 0), (10, 128, 147, 0)]
theorem e_MLs_3_ok : ∀ q ∈ e_MLs_3, e_mlok q := List.forall_mem_cons.mpr ⟨e_ml_10_54, List.forall_mem_cons.mpr ⟨e_ml_10_55, List.forall_mem_cons.mpr ⟨e_ml_10_59, List.forall_mem_cons.mpr ⟨e_ml_10_60, List.forall_mem_cons.mpr ⟨e_ml_10_63, List.forall_mem_cons.mpr ⟨e_ml_10_64, List.forall_mem_cons.mpr ⟨e_ml_10_67, List.forall_mem_cons.mpr ⟨e_ml_10_68, List.forall_mem_cons.mpr ⟨e_ml_10_71, List.forall_mem_cons.mpr ⟨e_ml_10_72, List.forall_mem_cons.mpr ⟨e_ml_10_75, List.forall_mem_cons.mpr ⟨e_ml_10_76, List.forall_mem_cons.mpr ⟨e_ml_10_79, List.forall_mem_cons.mpr ⟨e_ml_10_80, List.forall_mem_cons.mpr ⟨e_ml_10_83, List.forall_mem_cons.mpr ⟨e_ml_10_84, List.forall_mem_cons.mpr ⟨e_ml_10_87, List.forall_mem_cons.mpr ⟨e_ml_10_88, List.forall_mem_cons.mpr ⟨e_ml_10_91, List.forall_mem_cons.mpr ⟨e_ml_10_92, List.forall_mem_cons.mpr ⟨e_ml_10_95, List.forall_mem_cons.mpr ⟨e_ml_10_96, List.forall_mem_cons.mpr ⟨e_ml_10_99, List.forall_mem_cons.mpr ⟨e_ml_10_100, List.forall_mem_cons.mpr ⟨e_ml_10_103, List.forall_mem_cons.mpr ⟨e_ml_10_104, List.forall_mem_cons.mpr ⟨e_ml_10_107, List.forall_mem_cons.mpr ⟨e_ml_10_108, List.forall_mem_cons.mpr ⟨e_ml_10_111, List.forall_mem_cons.mpr ⟨e_ml_10_112, List.forall_mem_cons.mpr ⟨e_ml_10_115, List.forall_mem_cons.mpr ⟨e_ml_10_116, List.forall_mem_cons.mpr ⟨e_ml_10_119, List.forall_mem_cons.mpr ⟨e_ml_10_120, List.forall_mem_cons.mpr ⟨e_ml_10_123, List.forall_mem_cons.mpr ⟨e_ml_10_124, List.forall_mem_cons.mpr ⟨e_ml_10_128, (fun _ h => absurd h List.not_mem_nil)⟩⟩⟩⟩⟩⟩⟩⟩⟩⟩⟩⟩⟩⟩⟩⟩⟩⟩⟩⟩⟩⟩⟩⟩⟩⟩⟩⟩⟩⟩⟩⟩⟩⟩⟩⟩⟩
def e_MLs : List (Nat × Nat × Nat × Nat) := e_MLs_0 ++ e_MLs_1 ++ e_MLs_2 ++ e_MLs_3
theorem e_MLs_ok : ∀ q ∈ e_MLs, e_mlok q := List.forall_mem_append.mpr ⟨List.forall_mem_append.mpr ⟨List.forall_mem_append.mpr ⟨e_MLs_0_ok, e_MLs_1_ok⟩, e_MLs_2_ok⟩, e_MLs_3_ok⟩
def e_zok (z : Nat) : Prop := e_wk (.code (e_mN z) (e_mB z) (e_mL z) (e_mR z)) ∧ e_wk (.initialized (e_mN z).cls) ∧ (e_mK z = 0 → e_wk (.static (e_mN z))) ∧ (e_mK z = 1 ∨ e_mK z = 2 → e_wk (.instanceMethod (e_mN z))) ∧ (e_mK z = 2 → e_wk (.selects (e_mN z).cls (e_mN z) (e_mN z)))
set_option maxRecDepth 20000 in
theorem e_z_1 : e_zok 1 := ⟨⟨⟨134, rfl⟩, rfl⟩, ⟨⟨45, rfl⟩, rfl⟩, fun h => absurd h (by decide), fun _ => ⟨⟨133, rfl⟩, rfl⟩, fun h => absurd h (by decide)⟩
set_option maxRecDepth 20000 in
theorem e_z_2 : e_zok 2 := ⟨⟨⟨387, rfl⟩, rfl⟩, ⟨⟨45, rfl⟩, rfl⟩, fun h => absurd h (by decide), fun _ => ⟨⟨385, rfl⟩, rfl⟩, fun _ => ⟨⟨386, rfl⟩, rfl⟩⟩
set_option maxRecDepth 20000 in
theorem e_z_3 : e_zok 3 := ⟨⟨⟨508, rfl⟩, rfl⟩, ⟨⟨45, rfl⟩, rfl⟩, fun h => absurd h (by decide), fun _ => ⟨⟨506, rfl⟩, rfl⟩, fun _ => ⟨⟨507, rfl⟩, rfl⟩⟩
set_option maxRecDepth 20000 in
theorem e_z_4 : e_zok 4 := ⟨⟨⟨542, rfl⟩, rfl⟩, ⟨⟨45, rfl⟩, rfl⟩, fun h => absurd h (by decide), fun _ => ⟨⟨540, rfl⟩, rfl⟩, fun _ => ⟨⟨541, rfl⟩, rfl⟩⟩
set_option maxRecDepth 20000 in
theorem e_z_5 : e_zok 5 := ⟨⟨⟨512, rfl⟩, rfl⟩, ⟨⟨45, rfl⟩, rfl⟩, fun h => absurd h (by decide), fun _ => ⟨⟨510, rfl⟩, rfl⟩, fun _ => ⟨⟨511, rfl⟩, rfl⟩⟩
set_option maxRecDepth 20000 in
theorem e_z_6 : e_zok 6 := ⟨⟨⟨525, rfl⟩, rfl⟩, ⟨⟨45, rfl⟩, rfl⟩, fun h => absurd h (by decide), fun _ => ⟨⟨523, rfl⟩, rfl⟩, fun _ => ⟨⟨524, rfl⟩, rfl⟩⟩
set_option maxRecDepth 20000 in
theorem e_z_7 : e_zok 7 := ⟨⟨⟨546, rfl⟩, rfl⟩, ⟨⟨45, rfl⟩, rfl⟩, fun h => absurd h (by decide), fun _ => ⟨⟨544, rfl⟩, rfl⟩, fun _ => ⟨⟨545, rfl⟩, rfl⟩⟩
set_option maxRecDepth 20000 in
theorem e_z_8 : e_zok 8 := ⟨⟨⟨550, rfl⟩, rfl⟩, ⟨⟨45, rfl⟩, rfl⟩, fun h => absurd h (by decide), fun _ => ⟨⟨548, rfl⟩, rfl⟩, fun _ => ⟨⟨549, rfl⟩, rfl⟩⟩
set_option maxRecDepth 20000 in
theorem e_z_9 : e_zok 9 := ⟨⟨⟨554, rfl⟩, rfl⟩, ⟨⟨45, rfl⟩, rfl⟩, fun h => absurd h (by decide), fun _ => ⟨⟨552, rfl⟩, rfl⟩, fun _ => ⟨⟨553, rfl⟩, rfl⟩⟩
set_option maxRecDepth 20000 in
theorem e_z_10 : e_zok 10 := ⟨⟨⟨65, rfl⟩, rfl⟩, ⟨⟨42, rfl⟩, rfl⟩, fun h => absurd h (by decide), fun _ => ⟨⟨64, rfl⟩, rfl⟩, fun h => absurd h (by decide)⟩
set_option maxRecDepth 20000 in
theorem e_z_11 : e_zok 11 := ⟨⟨⟨372, rfl⟩, rfl⟩, ⟨⟨42, rfl⟩, rfl⟩, fun h => absurd h (by decide), fun _ => ⟨⟨370, rfl⟩, rfl⟩, fun _ => ⟨⟨371, rfl⟩, rfl⟩⟩
set_option maxRecDepth 20000 in
theorem e_z_12 : e_zok 12 := ⟨⟨⟨501, rfl⟩, rfl⟩, ⟨⟨42, rfl⟩, rfl⟩, fun h => absurd h (by decide), fun _ => ⟨⟨499, rfl⟩, rfl⟩, fun _ => ⟨⟨500, rfl⟩, rfl⟩⟩
set_option maxRecDepth 20000 in
theorem e_z_13 : e_zok 13 := ⟨⟨⟨489, rfl⟩, rfl⟩, ⟨⟨42, rfl⟩, rfl⟩, fun h => absurd h (by decide), fun _ => ⟨⟨487, rfl⟩, rfl⟩, fun _ => ⟨⟨488, rfl⟩, rfl⟩⟩
set_option maxRecDepth 20000 in
theorem e_z_14 : e_zok 14 := ⟨⟨⟨497, rfl⟩, rfl⟩, ⟨⟨42, rfl⟩, rfl⟩, fun h => absurd h (by decide), fun _ => ⟨⟨495, rfl⟩, rfl⟩, fun _ => ⟨⟨496, rfl⟩, rfl⟩⟩
set_option maxRecDepth 20000 in
theorem e_z_15 : e_zok 15 := ⟨⟨⟨538, rfl⟩, rfl⟩, ⟨⟨42, rfl⟩, rfl⟩, fun h => absurd h (by decide), fun _ => ⟨⟨536, rfl⟩, rfl⟩, fun _ => ⟨⟨537, rfl⟩, rfl⟩⟩
set_option maxRecDepth 20000 in
theorem e_z_16 : e_zok 16 := ⟨⟨⟨558, rfl⟩, rfl⟩, ⟨⟨42, rfl⟩, rfl⟩, fun h => absurd h (by decide), fun _ => ⟨⟨556, rfl⟩, rfl⟩, fun _ => ⟨⟨557, rfl⟩, rfl⟩⟩
set_option maxRecDepth 20000 in
theorem e_z_17 : e_zok 17 := ⟨⟨⟨239, rfl⟩, rfl⟩, ⟨⟨46, rfl⟩, rfl⟩, fun h => absurd h (by decide), fun _ => ⟨⟨238, rfl⟩, rfl⟩, fun h => absurd h (by decide)⟩
set_option maxRecDepth 20000 in
theorem e_z_18 : e_zok 18 := ⟨⟨⟨516, rfl⟩, rfl⟩, ⟨⟨46, rfl⟩, rfl⟩, fun h => absurd h (by decide), fun _ => ⟨⟨514, rfl⟩, rfl⟩, fun _ => ⟨⟨515, rfl⟩, rfl⟩⟩
set_option maxRecDepth 20000 in
theorem e_z_19 : e_zok 19 := ⟨⟨⟨521, rfl⟩, rfl⟩, ⟨⟨46, rfl⟩, rfl⟩, fun h => absurd h (by decide), fun _ => ⟨⟨519, rfl⟩, rfl⟩, fun _ => ⟨⟨520, rfl⟩, rfl⟩⟩
set_option maxRecDepth 20000 in
theorem e_z_20 : e_zok 20 := ⟨⟨⟨531, rfl⟩, rfl⟩, ⟨⟨46, rfl⟩, rfl⟩, fun h => absurd h (by decide), fun _ => ⟨⟨529, rfl⟩, rfl⟩, fun _ => ⟨⟨530, rfl⟩, rfl⟩⟩
set_option maxRecDepth 20000 in
theorem e_z_21 : e_zok 21 := ⟨⟨⟨578, rfl⟩, rfl⟩, ⟨⟨46, rfl⟩, rfl⟩, fun h => absurd h (by decide), fun _ => ⟨⟨576, rfl⟩, rfl⟩, fun _ => ⟨⟨577, rfl⟩, rfl⟩⟩
set_option maxRecDepth 20000 in
theorem e_z_22 : e_zok 22 := ⟨⟨⟨312, rfl⟩, rfl⟩, ⟨⟨49, rfl⟩, rfl⟩, fun h => absurd h (by decide), fun _ => ⟨⟨311, rfl⟩, rfl⟩, fun h => absurd h (by decide)⟩
set_option maxRecDepth 20000 in
theorem e_z_23 : e_zok 23 := ⟨⟨⟨364, rfl⟩, rfl⟩, ⟨⟨49, rfl⟩, rfl⟩, fun h => absurd h (by decide), fun _ => ⟨⟨362, rfl⟩, rfl⟩, fun _ => ⟨⟨363, rfl⟩, rfl⟩⟩
set_option maxRecDepth 20000 in
theorem e_z_24 : e_zok 24 := ⟨⟨⟨368, rfl⟩, rfl⟩, ⟨⟨49, rfl⟩, rfl⟩, fun h => absurd h (by decide), fun _ => ⟨⟨367, rfl⟩, rfl⟩, fun _ => ⟨⟨1, rfl⟩, rfl⟩⟩
set_option maxRecDepth 20000 in
theorem e_z_25 : e_zok 25 := ⟨⟨⟨665, rfl⟩, rfl⟩, ⟨⟨49, rfl⟩, rfl⟩, fun h => absurd h (by decide), fun _ => ⟨⟨663, rfl⟩, rfl⟩, fun _ => ⟨⟨664, rfl⟩, rfl⟩⟩
set_option maxRecDepth 20000 in
theorem e_z_26 : e_zok 26 := ⟨⟨⟨72, rfl⟩, rfl⟩, ⟨⟨43, rfl⟩, rfl⟩, fun h => absurd h (by decide), fun _ => ⟨⟨71, rfl⟩, rfl⟩, fun h => absurd h (by decide)⟩
set_option maxRecDepth 20000 in
theorem e_z_27 : e_zok 27 := ⟨⟨⟨379, rfl⟩, rfl⟩, ⟨⟨43, rfl⟩, rfl⟩, fun h => absurd h (by decide), fun _ => ⟨⟨377, rfl⟩, rfl⟩, fun _ => ⟨⟨378, rfl⟩, rfl⟩⟩
set_option maxRecDepth 20000 in
theorem e_z_28 : e_zok 28 := ⟨⟨⟨261, rfl⟩, rfl⟩, ⟨⟨47, rfl⟩, rfl⟩, fun h => absurd h (by decide), fun _ => ⟨⟨260, rfl⟩, rfl⟩, fun h => absurd h (by decide)⟩
set_option maxRecDepth 20000 in
theorem e_z_29 : e_zok 29 := ⟨⟨⟨627, rfl⟩, rfl⟩, ⟨⟨47, rfl⟩, rfl⟩, fun h => absurd h (by decide), fun _ => ⟨⟨625, rfl⟩, rfl⟩, fun _ => ⟨⟨626, rfl⟩, rfl⟩⟩
set_option maxRecDepth 20000 in
theorem e_z_30 : e_zok 30 := ⟨⟨⟨631, rfl⟩, rfl⟩, ⟨⟨47, rfl⟩, rfl⟩, fun h => absurd h (by decide), fun _ => ⟨⟨630, rfl⟩, rfl⟩, fun _ => ⟨⟨11, rfl⟩, rfl⟩⟩
set_option maxRecDepth 20000 in
theorem e_z_31 : e_zok 31 := ⟨⟨⟨639, rfl⟩, rfl⟩, ⟨⟨47, rfl⟩, rfl⟩, fun h => absurd h (by decide), fun _ => ⟨⟨638, rfl⟩, rfl⟩, fun _ => ⟨⟨12, rfl⟩, rfl⟩⟩
set_option maxRecDepth 20000 in
theorem e_z_32 : e_zok 32 := ⟨⟨⟨646, rfl⟩, rfl⟩, ⟨⟨47, rfl⟩, rfl⟩, fun h => absurd h (by decide), fun _ => ⟨⟨645, rfl⟩, rfl⟩, fun _ => ⟨⟨13, rfl⟩, rfl⟩⟩
set_option maxRecDepth 20000 in
theorem e_z_33 : e_zok 33 := ⟨⟨⟨650, rfl⟩, rfl⟩, ⟨⟨47, rfl⟩, rfl⟩, fun h => absurd h (by decide), fun _ => ⟨⟨649, rfl⟩, rfl⟩, fun _ => ⟨⟨14, rfl⟩, rfl⟩⟩
set_option maxRecDepth 20000 in
theorem e_z_34 : e_zok 34 := ⟨⟨⟨289, rfl⟩, rfl⟩, ⟨⟨48, rfl⟩, rfl⟩, fun h => absurd h (by decide), fun _ => ⟨⟨288, rfl⟩, rfl⟩, fun h => absurd h (by decide)⟩
set_option maxRecDepth 20000 in
theorem e_z_35 : e_zok 35 := ⟨⟨⟨426, rfl⟩, rfl⟩, ⟨⟨48, rfl⟩, rfl⟩, fun h => absurd h (by decide), fun _ => ⟨⟨424, rfl⟩, rfl⟩, fun _ => ⟨⟨425, rfl⟩, rfl⟩⟩
set_option maxRecDepth 20000 in
theorem e_z_36 : e_zok 36 := ⟨⟨⟨434, rfl⟩, rfl⟩, ⟨⟨48, rfl⟩, rfl⟩, fun h => absurd h (by decide), fun _ => ⟨⟨433, rfl⟩, rfl⟩, fun _ => ⟨⟨4, rfl⟩, rfl⟩⟩
set_option maxRecDepth 20000 in
theorem e_z_37 : e_zok 37 := ⟨⟨⟨438, rfl⟩, rfl⟩, ⟨⟨48, rfl⟩, rfl⟩, fun h => absurd h (by decide), fun _ => ⟨⟨437, rfl⟩, rfl⟩, fun _ => ⟨⟨5, rfl⟩, rfl⟩⟩
set_option maxRecDepth 20000 in
theorem e_z_38 : e_zok 38 := ⟨⟨⟨443, rfl⟩, rfl⟩, ⟨⟨48, rfl⟩, rfl⟩, fun h => absurd h (by decide), fun _ => ⟨⟨442, rfl⟩, rfl⟩, fun _ => ⟨⟨6, rfl⟩, rfl⟩⟩
set_option maxRecDepth 20000 in
theorem e_z_39 : e_zok 39 := ⟨⟨⟨447, rfl⟩, rfl⟩, ⟨⟨48, rfl⟩, rfl⟩, fun h => absurd h (by decide), fun _ => ⟨⟨446, rfl⟩, rfl⟩, fun _ => ⟨⟨7, rfl⟩, rfl⟩⟩
set_option maxRecDepth 20000 in
theorem e_z_40 : e_zok 40 := ⟨⟨⟨430, rfl⟩, rfl⟩, ⟨⟨48, rfl⟩, rfl⟩, fun h => absurd h (by decide), fun _ => ⟨⟨429, rfl⟩, rfl⟩, fun _ => ⟨⟨3, rfl⟩, rfl⟩⟩
set_option maxRecDepth 20000 in
theorem e_z_41 : e_zok 41 := ⟨⟨⟨78, rfl⟩, rfl⟩, ⟨⟨44, rfl⟩, rfl⟩, fun h => absurd h (by decide), fun _ => ⟨⟨77, rfl⟩, rfl⟩, fun h => absurd h (by decide)⟩
set_option maxRecDepth 20000 in
theorem e_z_42 : e_zok 42 := ⟨⟨⟨383, rfl⟩, rfl⟩, ⟨⟨44, rfl⟩, rfl⟩, fun h => absurd h (by decide), fun _ => ⟨⟨381, rfl⟩, rfl⟩, fun _ => ⟨⟨382, rfl⟩, rfl⟩⟩
set_option maxRecDepth 20000 in
theorem e_z_43 : e_zok 43 := ⟨⟨⟨493, rfl⟩, rfl⟩, ⟨⟨44, rfl⟩, rfl⟩, fun h => absurd h (by decide), fun _ => ⟨⟨491, rfl⟩, rfl⟩, fun _ => ⟨⟨492, rfl⟩, rfl⟩⟩
set_option maxRecDepth 20000 in
theorem e_z_44 : e_zok 44 := ⟨⟨⟨562, rfl⟩, rfl⟩, ⟨⟨44, rfl⟩, rfl⟩, fun h => absurd h (by decide), fun _ => ⟨⟨560, rfl⟩, rfl⟩, fun _ => ⟨⟨561, rfl⟩, rfl⟩⟩
set_option maxRecDepth 20000 in
theorem e_z_45 : e_zok 45 := ⟨⟨⟨566, rfl⟩, rfl⟩, ⟨⟨44, rfl⟩, rfl⟩, fun h => absurd h (by decide), fun _ => ⟨⟨564, rfl⟩, rfl⟩, fun _ => ⟨⟨565, rfl⟩, rfl⟩⟩
set_option maxRecDepth 20000 in
theorem e_z_46 : e_zok 46 := ⟨⟨⟨570, rfl⟩, rfl⟩, ⟨⟨44, rfl⟩, rfl⟩, fun h => absurd h (by decide), fun _ => ⟨⟨568, rfl⟩, rfl⟩, fun _ => ⟨⟨569, rfl⟩, rfl⟩⟩
set_option maxRecDepth 20000 in
theorem e_z_47 : e_zok 47 := ⟨⟨⟨574, rfl⟩, rfl⟩, ⟨⟨44, rfl⟩, rfl⟩, fun h => absurd h (by decide), fun _ => ⟨⟨572, rfl⟩, rfl⟩, fun _ => ⟨⟨573, rfl⟩, rfl⟩⟩
set_option maxRecDepth 20000 in
theorem e_z_48 : e_zok 48 := ⟨⟨⟨57, rfl⟩, rfl⟩, ⟨⟨41, rfl⟩, rfl⟩, fun h => absurd h (by decide), fun _ => ⟨⟨56, rfl⟩, rfl⟩, fun h => absurd h (by decide)⟩
set_option maxRecDepth 20000 in
theorem e_z_49 : e_zok 49 := ⟨⟨⟨350, rfl⟩, rfl⟩, ⟨⟨41, rfl⟩, rfl⟩, fun h => absurd h (by decide), fun _ => ⟨⟨348, rfl⟩, rfl⟩, fun _ => ⟨⟨349, rfl⟩, rfl⟩⟩
set_option maxRecDepth 20000 in
theorem e_z_50 : e_zok 50 := ⟨⟨⟨391, rfl⟩, rfl⟩, ⟨⟨41, rfl⟩, rfl⟩, fun h => absurd h (by decide), fun _ => ⟨⟨389, rfl⟩, rfl⟩, fun _ => ⟨⟨390, rfl⟩, rfl⟩⟩
set_option maxRecDepth 20000 in
theorem e_z_51 : e_zok 51 := ⟨⟨⟨398, rfl⟩, rfl⟩, ⟨⟨41, rfl⟩, rfl⟩, fun h => absurd h (by decide), fun _ => ⟨⟨396, rfl⟩, rfl⟩, fun _ => ⟨⟨397, rfl⟩, rfl⟩⟩
set_option maxRecDepth 20000 in
theorem e_z_52 : e_zok 52 := ⟨⟨⟨406, rfl⟩, rfl⟩, ⟨⟨41, rfl⟩, rfl⟩, fun h => absurd h (by decide), fun _ => ⟨⟨404, rfl⟩, rfl⟩, fun _ => ⟨⟨405, rfl⟩, rfl⟩⟩
set_option maxRecDepth 20000 in
theorem e_z_53 : e_zok 53 := ⟨⟨⟨413, rfl⟩, rfl⟩, ⟨⟨41, rfl⟩, rfl⟩, fun h => absurd h (by decide), fun _ => ⟨⟨411, rfl⟩, rfl⟩, fun _ => ⟨⟨412, rfl⟩, rfl⟩⟩
set_option maxRecDepth 20000 in
theorem e_z_54 : e_zok 54 := ⟨⟨⟨417, rfl⟩, rfl⟩, ⟨⟨41, rfl⟩, rfl⟩, fun h => absurd h (by decide), fun _ => ⟨⟨415, rfl⟩, rfl⟩, fun _ => ⟨⟨416, rfl⟩, rfl⟩⟩
set_option maxRecDepth 20000 in
theorem e_z_55 : e_zok 55 := ⟨⟨⟨421, rfl⟩, rfl⟩, ⟨⟨41, rfl⟩, rfl⟩, fun h => absurd h (by decide), fun _ => ⟨⟨419, rfl⟩, rfl⟩, fun _ => ⟨⟨420, rfl⟩, rfl⟩⟩
set_option maxRecDepth 20000 in
theorem e_z_56 : e_zok 56 := ⟨⟨⟨451, rfl⟩, rfl⟩, ⟨⟨41, rfl⟩, rfl⟩, fun h => absurd h (by decide), fun _ => ⟨⟨449, rfl⟩, rfl⟩, fun _ => ⟨⟨450, rfl⟩, rfl⟩⟩
set_option maxRecDepth 20000 in
theorem e_z_57 : e_zok 57 := ⟨⟨⟨455, rfl⟩, rfl⟩, ⟨⟨41, rfl⟩, rfl⟩, fun h => absurd h (by decide), fun _ => ⟨⟨453, rfl⟩, rfl⟩, fun _ => ⟨⟨454, rfl⟩, rfl⟩⟩
set_option maxRecDepth 20000 in
theorem e_z_58 : e_zok 58 := ⟨⟨⟨463, rfl⟩, rfl⟩, ⟨⟨41, rfl⟩, rfl⟩, fun h => absurd h (by decide), fun _ => ⟨⟨461, rfl⟩, rfl⟩, fun _ => ⟨⟨462, rfl⟩, rfl⟩⟩
set_option maxRecDepth 20000 in
theorem e_z_59 : e_zok 59 := ⟨⟨⟨470, rfl⟩, rfl⟩, ⟨⟨41, rfl⟩, rfl⟩, fun h => absurd h (by decide), fun _ => ⟨⟨468, rfl⟩, rfl⟩, fun _ => ⟨⟨469, rfl⟩, rfl⟩⟩
set_option maxRecDepth 20000 in
theorem e_z_60 : e_zok 60 := ⟨⟨⟨481, rfl⟩, rfl⟩, ⟨⟨41, rfl⟩, rfl⟩, fun h => absurd h (by decide), fun _ => ⟨⟨479, rfl⟩, rfl⟩, fun _ => ⟨⟨480, rfl⟩, rfl⟩⟩
set_option maxRecDepth 20000 in
theorem e_z_61 : e_zok 61 := ⟨⟨⟨583, rfl⟩, rfl⟩, ⟨⟨41, rfl⟩, rfl⟩, fun h => absurd h (by decide), fun _ => ⟨⟨581, rfl⟩, rfl⟩, fun _ => ⟨⟨582, rfl⟩, rfl⟩⟩
set_option maxRecDepth 20000 in
theorem e_z_62 : e_zok 62 := ⟨⟨⟨485, rfl⟩, rfl⟩, ⟨⟨41, rfl⟩, rfl⟩, fun h => absurd h (by decide), fun _ => ⟨⟨484, rfl⟩, rfl⟩, fun _ => ⟨⟨10, rfl⟩, rfl⟩⟩
set_option maxRecDepth 20000 in
theorem e_z_63 : e_zok 63 := ⟨⟨⟨587, rfl⟩, rfl⟩, ⟨⟨41, rfl⟩, rfl⟩, fun h => absurd h (by decide), fun _ => ⟨⟨585, rfl⟩, rfl⟩, fun _ => ⟨⟨586, rfl⟩, rfl⟩⟩
set_option maxRecDepth 20000 in
theorem e_z_64 : e_zok 64 := ⟨⟨⟨591, rfl⟩, rfl⟩, ⟨⟨41, rfl⟩, rfl⟩, fun h => absurd h (by decide), fun _ => ⟨⟨589, rfl⟩, rfl⟩, fun _ => ⟨⟨590, rfl⟩, rfl⟩⟩
set_option maxRecDepth 20000 in
theorem e_z_65 : e_zok 65 := ⟨⟨⟨595, rfl⟩, rfl⟩, ⟨⟨41, rfl⟩, rfl⟩, fun h => absurd h (by decide), fun _ => ⟨⟨593, rfl⟩, rfl⟩, fun _ => ⟨⟨594, rfl⟩, rfl⟩⟩
set_option maxRecDepth 20000 in
theorem e_z_66 : e_zok 66 := ⟨⟨⟨599, rfl⟩, rfl⟩, ⟨⟨41, rfl⟩, rfl⟩, fun h => absurd h (by decide), fun _ => ⟨⟨597, rfl⟩, rfl⟩, fun _ => ⟨⟨598, rfl⟩, rfl⟩⟩
set_option maxRecDepth 20000 in
theorem e_z_67 : e_zok 67 := ⟨⟨⟨603, rfl⟩, rfl⟩, ⟨⟨41, rfl⟩, rfl⟩, fun h => absurd h (by decide), fun _ => ⟨⟨601, rfl⟩, rfl⟩, fun _ => ⟨⟨602, rfl⟩, rfl⟩⟩
set_option maxRecDepth 20000 in
theorem e_z_68 : e_zok 68 := ⟨⟨⟨607, rfl⟩, rfl⟩, ⟨⟨41, rfl⟩, rfl⟩, fun h => absurd h (by decide), fun _ => ⟨⟨605, rfl⟩, rfl⟩, fun _ => ⟨⟨606, rfl⟩, rfl⟩⟩
set_option maxRecDepth 20000 in
theorem e_z_69 : e_zok 69 := ⟨⟨⟨611, rfl⟩, rfl⟩, ⟨⟨41, rfl⟩, rfl⟩, fun h => absurd h (by decide), fun _ => ⟨⟨609, rfl⟩, rfl⟩, fun _ => ⟨⟨610, rfl⟩, rfl⟩⟩
set_option maxRecDepth 20000 in
theorem e_z_70 : e_zok 70 := ⟨⟨⟨615, rfl⟩, rfl⟩, ⟨⟨41, rfl⟩, rfl⟩, fun h => absurd h (by decide), fun _ => ⟨⟨613, rfl⟩, rfl⟩, fun _ => ⟨⟨614, rfl⟩, rfl⟩⟩
set_option maxRecDepth 20000 in
theorem e_z_71 : e_zok 71 := ⟨⟨⟨619, rfl⟩, rfl⟩, ⟨⟨41, rfl⟩, rfl⟩, fun h => absurd h (by decide), fun _ => ⟨⟨617, rfl⟩, rfl⟩, fun _ => ⟨⟨618, rfl⟩, rfl⟩⟩
set_option maxRecDepth 20000 in
theorem e_z_72 : e_zok 72 := ⟨⟨⟨623, rfl⟩, rfl⟩, ⟨⟨41, rfl⟩, rfl⟩, fun h => absurd h (by decide), fun _ => ⟨⟨621, rfl⟩, rfl⟩, fun _ => ⟨⟨622, rfl⟩, rfl⟩⟩
set_option maxRecDepth 20000 in
theorem e_z_73 : e_zok 73 := ⟨⟨⟨657, rfl⟩, rfl⟩, ⟨⟨41, rfl⟩, rfl⟩, fun h => absurd h (by decide), fun _ => ⟨⟨655, rfl⟩, rfl⟩, fun _ => ⟨⟨656, rfl⟩, rfl⟩⟩
set_option maxRecDepth 20000 in
theorem e_z_74 : e_zok 74 := ⟨⟨⟨661, rfl⟩, rfl⟩, ⟨⟨41, rfl⟩, rfl⟩, fun h => absurd h (by decide), fun _ => ⟨⟨659, rfl⟩, rfl⟩, fun _ => ⟨⟨660, rfl⟩, rfl⟩⟩
set_option maxRecDepth 20000 in
theorem e_z_75 : e_zok 75 := ⟨⟨⟨669, rfl⟩, rfl⟩, ⟨⟨41, rfl⟩, rfl⟩, fun h => absurd h (by decide), fun _ => ⟨⟨667, rfl⟩, rfl⟩, fun _ => ⟨⟨668, rfl⟩, rfl⟩⟩
set_option maxRecDepth 20000 in
theorem e_z_76 : e_zok 76 := ⟨⟨⟨673, rfl⟩, rfl⟩, ⟨⟨41, rfl⟩, rfl⟩, fun h => absurd h (by decide), fun _ => ⟨⟨671, rfl⟩, rfl⟩, fun _ => ⟨⟨672, rfl⟩, rfl⟩⟩
set_option maxRecDepth 20000 in
theorem e_z_77 : e_zok 77 := ⟨⟨⟨681, rfl⟩, rfl⟩, ⟨⟨41, rfl⟩, rfl⟩, fun _ => ⟨⟨680, rfl⟩, rfl⟩, fun h => absurd h (by decide), fun h => absurd h (by decide)⟩
set_option maxRecDepth 20000 in
theorem e_z_78 : e_zok 78 := ⟨⟨⟨684, rfl⟩, rfl⟩, ⟨⟨41, rfl⟩, rfl⟩, fun _ => ⟨⟨683, rfl⟩, rfl⟩, fun h => absurd h (by decide), fun h => absurd h (by decide)⟩
set_option maxRecDepth 20000 in
theorem e_z_79 : e_zok 79 := ⟨⟨⟨677, rfl⟩, rfl⟩, ⟨⟨41, rfl⟩, rfl⟩, fun _ => ⟨⟨676, rfl⟩, rfl⟩, fun h => absurd h (by decide), fun h => absurd h (by decide)⟩
set_option maxRecDepth 20000 in
theorem e_z_80 : e_zok 80 := ⟨⟨⟨353, rfl⟩, rfl⟩, ⟨⟨41, rfl⟩, rfl⟩, fun _ => ⟨⟨352, rfl⟩, rfl⟩, fun h => absurd h (by decide), fun h => absurd h (by decide)⟩
set_option maxRecDepth 20000 in
theorem e_z_81 : e_zok 81 := ⟨⟨⟨409, rfl⟩, rfl⟩, ⟨⟨41, rfl⟩, rfl⟩, fun _ => ⟨⟨408, rfl⟩, rfl⟩, fun h => absurd h (by decide), fun h => absurd h (by decide)⟩
set_option maxRecDepth 20000 in
theorem e_z_82 : e_zok 82 := ⟨⟨⟨394, rfl⟩, rfl⟩, ⟨⟨41, rfl⟩, rfl⟩, fun _ => ⟨⟨393, rfl⟩, rfl⟩, fun h => absurd h (by decide), fun h => absurd h (by decide)⟩
set_option maxRecDepth 20000 in
theorem e_z_83 : e_zok 83 := ⟨⟨⟨466, rfl⟩, rfl⟩, ⟨⟨41, rfl⟩, rfl⟩, fun _ => ⟨⟨465, rfl⟩, rfl⟩, fun h => absurd h (by decide), fun h => absurd h (by decide)⟩
set_option maxRecDepth 20000 in
theorem e_z_84 : e_zok 84 := ⟨⟨⟨477, rfl⟩, rfl⟩, ⟨⟨41, rfl⟩, rfl⟩, fun _ => ⟨⟨476, rfl⟩, rfl⟩, fun h => absurd h (by decide), fun h => absurd h (by decide)⟩
set_option maxRecDepth 20000 in
theorem e_z_85 : e_zok 85 := ⟨⟨⟨402, rfl⟩, rfl⟩, ⟨⟨41, rfl⟩, rfl⟩, fun h => absurd h (by decide), fun _ => ⟨⟨401, rfl⟩, rfl⟩, fun _ => ⟨⟨2, rfl⟩, rfl⟩⟩
set_option maxRecDepth 20000 in
theorem e_z_86 : e_zok 86 := ⟨⟨⟨459, rfl⟩, rfl⟩, ⟨⟨41, rfl⟩, rfl⟩, fun h => absurd h (by decide), fun _ => ⟨⟨458, rfl⟩, rfl⟩, fun _ => ⟨⟨8, rfl⟩, rfl⟩⟩
set_option maxRecDepth 20000 in
theorem e_z_87 : e_zok 87 := ⟨⟨⟨474, rfl⟩, rfl⟩, ⟨⟨41, rfl⟩, rfl⟩, fun h => absurd h (by decide), fun _ => ⟨⟨473, rfl⟩, rfl⟩, fun _ => ⟨⟨9, rfl⟩, rfl⟩⟩
set_option maxRecDepth 20000 in
theorem e_z_88 : e_zok 88 := ⟨⟨⟨360, rfl⟩, rfl⟩, ⟨⟨41, rfl⟩, rfl⟩, fun _ => ⟨⟨359, rfl⟩, rfl⟩, fun h => absurd h (by decide), fun h => absurd h (by decide)⟩
set_option maxRecDepth 20000 in
theorem e_z_89 : e_zok 89 := ⟨⟨⟨357, rfl⟩, rfl⟩, ⟨⟨41, rfl⟩, rfl⟩, fun h => absurd h (by decide), fun _ => ⟨⟨356, rfl⟩, rfl⟩, fun _ => ⟨⟨0, rfl⟩, rfl⟩⟩
set_option maxRecDepth 20000 in
theorem e_z_90 : e_zok 90 := ⟨⟨⟨689, rfl⟩, rfl⟩, ⟨⟨50, rfl⟩, rfl⟩, fun h => absurd h (by decide), fun _ => ⟨⟨688, rfl⟩, rfl⟩, fun h => absurd h (by decide)⟩
set_option maxRecDepth 20000 in
theorem e_z_91 : e_zok 91 := ⟨⟨⟨734, rfl⟩, rfl⟩, ⟨⟨50, rfl⟩, rfl⟩, fun _ => ⟨⟨733, rfl⟩, rfl⟩, fun h => absurd h (by decide), fun h => absurd h (by decide)⟩
set_option maxRecDepth 20000 in
theorem e_z_92 : e_zok 92 := ⟨⟨⟨738, rfl⟩, rfl⟩, ⟨⟨50, rfl⟩, rfl⟩, fun h => absurd h (by decide), fun _ => ⟨⟨737, rfl⟩, rfl⟩, fun _ => ⟨⟨15, rfl⟩, rfl⟩⟩
set_option maxRecDepth 20000 in
theorem e_z_93 : e_zok 93 := ⟨⟨⟨764, rfl⟩, rfl⟩, ⟨⟨50, rfl⟩, rfl⟩, fun h => absurd h (by decide), fun _ => ⟨⟨763, rfl⟩, rfl⟩, fun _ => ⟨⟨18, rfl⟩, rfl⟩⟩
set_option maxRecDepth 20000 in
theorem e_z_94 : e_zok 94 := ⟨⟨⟨756, rfl⟩, rfl⟩, ⟨⟨50, rfl⟩, rfl⟩, fun _ => ⟨⟨755, rfl⟩, rfl⟩, fun h => absurd h (by decide), fun h => absurd h (by decide)⟩
set_option maxRecDepth 20000 in
theorem e_z_95 : e_zok 95 := ⟨⟨⟨804, rfl⟩, rfl⟩, ⟨⟨50, rfl⟩, rfl⟩, fun h => absurd h (by decide), fun _ => ⟨⟨803, rfl⟩, rfl⟩, fun _ => ⟨⟨23, rfl⟩, rfl⟩⟩
set_option maxRecDepth 20000 in
theorem e_z_96 : e_zok 96 := ⟨⟨⟨753, rfl⟩, rfl⟩, ⟨⟨50, rfl⟩, rfl⟩, fun h => absurd h (by decide), fun _ => ⟨⟨752, rfl⟩, rfl⟩, fun _ => ⟨⟨17, rfl⟩, rfl⟩⟩
set_option maxRecDepth 20000 in
theorem e_z_97 : e_zok 97 := ⟨⟨⟨742, rfl⟩, rfl⟩, ⟨⟨50, rfl⟩, rfl⟩, fun h => absurd h (by decide), fun _ => ⟨⟨741, rfl⟩, rfl⟩, fun _ => ⟨⟨16, rfl⟩, rfl⟩⟩
set_option maxRecDepth 20000 in
theorem e_z_98 : e_zok 98 := ⟨⟨⟨731, rfl⟩, rfl⟩, ⟨⟨50, rfl⟩, rfl⟩, fun h => absurd h (by decide), fun _ => ⟨⟨729, rfl⟩, rfl⟩, fun _ => ⟨⟨730, rfl⟩, rfl⟩⟩
set_option maxRecDepth 20000 in
theorem e_z_99 : e_zok 99 := ⟨⟨⟨749, rfl⟩, rfl⟩, ⟨⟨50, rfl⟩, rfl⟩, fun _ => ⟨⟨748, rfl⟩, rfl⟩, fun h => absurd h (by decide), fun h => absurd h (by decide)⟩
set_option maxRecDepth 20000 in
theorem e_z_100 : e_zok 100 := ⟨⟨⟨746, rfl⟩, rfl⟩, ⟨⟨50, rfl⟩, rfl⟩, fun h => absurd h (by decide), fun _ => ⟨⟨744, rfl⟩, rfl⟩, fun _ => ⟨⟨745, rfl⟩, rfl⟩⟩
set_option maxRecDepth 20000 in
theorem e_z_101 : e_zok 101 := ⟨⟨⟨760, rfl⟩, rfl⟩, ⟨⟨50, rfl⟩, rfl⟩, fun h => absurd h (by decide), fun _ => ⟨⟨758, rfl⟩, rfl⟩, fun _ => ⟨⟨759, rfl⟩, rfl⟩⟩
set_option maxRecDepth 20000 in
theorem e_z_102 : e_zok 102 := ⟨⟨⟨768, rfl⟩, rfl⟩, ⟨⟨50, rfl⟩, rfl⟩, fun h => absurd h (by decide), fun _ => ⟨⟨766, rfl⟩, rfl⟩, fun _ => ⟨⟨767, rfl⟩, rfl⟩⟩
set_option maxRecDepth 20000 in
theorem e_z_103 : e_zok 103 := ⟨⟨⟨772, rfl⟩, rfl⟩, ⟨⟨50, rfl⟩, rfl⟩, fun h => absurd h (by decide), fun _ => ⟨⟨770, rfl⟩, rfl⟩, fun _ => ⟨⟨771, rfl⟩, rfl⟩⟩
set_option maxRecDepth 20000 in
theorem e_z_104 : e_zok 104 := ⟨⟨⟨776, rfl⟩, rfl⟩, ⟨⟨50, rfl⟩, rfl⟩, fun h => absurd h (by decide), fun _ => ⟨⟨774, rfl⟩, rfl⟩, fun _ => ⟨⟨775, rfl⟩, rfl⟩⟩
set_option maxRecDepth 20000 in
theorem e_z_105 : e_zok 105 := ⟨⟨⟨784, rfl⟩, rfl⟩, ⟨⟨50, rfl⟩, rfl⟩, fun h => absurd h (by decide), fun _ => ⟨⟨783, rfl⟩, rfl⟩, fun _ => ⟨⟨19, rfl⟩, rfl⟩⟩
set_option maxRecDepth 20000 in
theorem e_z_106 : e_zok 106 := ⟨⟨⟨796, rfl⟩, rfl⟩, ⟨⟨50, rfl⟩, rfl⟩, fun h => absurd h (by decide), fun _ => ⟨⟨795, rfl⟩, rfl⟩, fun _ => ⟨⟨22, rfl⟩, rfl⟩⟩
set_option maxRecDepth 20000 in
theorem e_z_107 : e_zok 107 := ⟨⟨⟨792, rfl⟩, rfl⟩, ⟨⟨50, rfl⟩, rfl⟩, fun h => absurd h (by decide), fun _ => ⟨⟨791, rfl⟩, rfl⟩, fun _ => ⟨⟨21, rfl⟩, rfl⟩⟩
set_option maxRecDepth 20000 in
theorem e_z_108 : e_zok 108 := ⟨⟨⟨788, rfl⟩, rfl⟩, ⟨⟨50, rfl⟩, rfl⟩, fun h => absurd h (by decide), fun _ => ⟨⟨787, rfl⟩, rfl⟩, fun _ => ⟨⟨20, rfl⟩, rfl⟩⟩
set_option maxRecDepth 20000 in
theorem e_z_109 : e_zok 109 := ⟨⟨⟨780, rfl⟩, rfl⟩, ⟨⟨50, rfl⟩, rfl⟩, fun h => absurd h (by decide), fun _ => ⟨⟨778, rfl⟩, rfl⟩, fun _ => ⟨⟨779, rfl⟩, rfl⟩⟩
set_option maxRecDepth 20000 in
theorem e_z_110 : e_zok 110 := ⟨⟨⟨800, rfl⟩, rfl⟩, ⟨⟨50, rfl⟩, rfl⟩, fun h => absurd h (by decide), fun _ => ⟨⟨798, rfl⟩, rfl⟩, fun _ => ⟨⟨799, rfl⟩, rfl⟩⟩
set_option maxRecDepth 20000 in
theorem e_z_111 : e_zok 111 := ⟨⟨⟨812, rfl⟩, rfl⟩, ⟨⟨50, rfl⟩, rfl⟩, fun h => absurd h (by decide), fun _ => ⟨⟨811, rfl⟩, rfl⟩, fun _ => ⟨⟨24, rfl⟩, rfl⟩⟩
set_option maxRecDepth 20000 in
theorem e_z_112 : e_zok 112 := ⟨⟨⟨808, rfl⟩, rfl⟩, ⟨⟨50, rfl⟩, rfl⟩, fun h => absurd h (by decide), fun _ => ⟨⟨806, rfl⟩, rfl⟩, fun _ => ⟨⟨807, rfl⟩, rfl⟩⟩
set_option maxRecDepth 20000 in
theorem e_z_113 : e_zok 113 := ⟨⟨⟨816, rfl⟩, rfl⟩, ⟨⟨50, rfl⟩, rfl⟩, fun h => absurd h (by decide), fun _ => ⟨⟨814, rfl⟩, rfl⟩, fun _ => ⟨⟨815, rfl⟩, rfl⟩⟩
set_option maxRecDepth 20000 in
theorem e_z_114 : e_zok 114 := ⟨⟨⟨820, rfl⟩, rfl⟩, ⟨⟨50, rfl⟩, rfl⟩, fun h => absurd h (by decide), fun _ => ⟨⟨818, rfl⟩, rfl⟩, fun _ => ⟨⟨819, rfl⟩, rfl⟩⟩
set_option maxRecDepth 20000 in
theorem e_z_115 : e_zok 115 := ⟨⟨⟨836, rfl⟩, rfl⟩, ⟨⟨50, rfl⟩, rfl⟩, fun h => absurd h (by decide), fun _ => ⟨⟨835, rfl⟩, rfl⟩, fun _ => ⟨⟨27, rfl⟩, rfl⟩⟩
set_option maxRecDepth 20000 in
theorem e_z_116 : e_zok 116 := ⟨⟨⟨840, rfl⟩, rfl⟩, ⟨⟨50, rfl⟩, rfl⟩, fun h => absurd h (by decide), fun _ => ⟨⟨839, rfl⟩, rfl⟩, fun _ => ⟨⟨28, rfl⟩, rfl⟩⟩
set_option maxRecDepth 20000 in
theorem e_z_117 : e_zok 117 := ⟨⟨⟨848, rfl⟩, rfl⟩, ⟨⟨50, rfl⟩, rfl⟩, fun h => absurd h (by decide), fun _ => ⟨⟨847, rfl⟩, rfl⟩, fun _ => ⟨⟨30, rfl⟩, rfl⟩⟩
set_option maxRecDepth 20000 in
theorem e_z_118 : e_zok 118 := ⟨⟨⟨868, rfl⟩, rfl⟩, ⟨⟨50, rfl⟩, rfl⟩, fun h => absurd h (by decide), fun _ => ⟨⟨867, rfl⟩, rfl⟩, fun _ => ⟨⟨35, rfl⟩, rfl⟩⟩
set_option maxRecDepth 20000 in
theorem e_z_119 : e_zok 119 := ⟨⟨⟨844, rfl⟩, rfl⟩, ⟨⟨50, rfl⟩, rfl⟩, fun h => absurd h (by decide), fun _ => ⟨⟨843, rfl⟩, rfl⟩, fun _ => ⟨⟨29, rfl⟩, rfl⟩⟩
set_option maxRecDepth 20000 in
theorem e_z_120 : e_zok 120 := ⟨⟨⟨832, rfl⟩, rfl⟩, ⟨⟨50, rfl⟩, rfl⟩, fun h => absurd h (by decide), fun _ => ⟨⟨831, rfl⟩, rfl⟩, fun _ => ⟨⟨26, rfl⟩, rfl⟩⟩
set_option maxRecDepth 20000 in
theorem e_z_121 : e_zok 121 := ⟨⟨⟨852, rfl⟩, rfl⟩, ⟨⟨50, rfl⟩, rfl⟩, fun h => absurd h (by decide), fun _ => ⟨⟨851, rfl⟩, rfl⟩, fun _ => ⟨⟨31, rfl⟩, rfl⟩⟩
set_option maxRecDepth 20000 in
theorem e_z_122 : e_zok 122 := ⟨⟨⟨860, rfl⟩, rfl⟩, ⟨⟨50, rfl⟩, rfl⟩, fun h => absurd h (by decide), fun _ => ⟨⟨859, rfl⟩, rfl⟩, fun _ => ⟨⟨33, rfl⟩, rfl⟩⟩
set_option maxRecDepth 20000 in
theorem e_z_123 : e_zok 123 := ⟨⟨⟨864, rfl⟩, rfl⟩, ⟨⟨50, rfl⟩, rfl⟩, fun h => absurd h (by decide), fun _ => ⟨⟨863, rfl⟩, rfl⟩, fun _ => ⟨⟨34, rfl⟩, rfl⟩⟩
set_option maxRecDepth 20000 in
theorem e_z_124 : e_zok 124 := ⟨⟨⟨856, rfl⟩, rfl⟩, ⟨⟨50, rfl⟩, rfl⟩, fun h => absurd h (by decide), fun _ => ⟨⟨855, rfl⟩, rfl⟩, fun _ => ⟨⟨32, rfl⟩, rfl⟩⟩
set_option maxRecDepth 20000 in
theorem e_z_125 : e_zok 125 := ⟨⟨⟨828, rfl⟩, rfl⟩, ⟨⟨50, rfl⟩, rfl⟩, fun h => absurd h (by decide), fun _ => ⟨⟨827, rfl⟩, rfl⟩, fun _ => ⟨⟨25, rfl⟩, rfl⟩⟩
set_option maxRecDepth 20000 in
theorem e_z_126 : e_zok 126 := ⟨⟨⟨824, rfl⟩, rfl⟩, ⟨⟨50, rfl⟩, rfl⟩, fun h => absurd h (by decide), fun _ => ⟨⟨822, rfl⟩, rfl⟩, fun _ => ⟨⟨823, rfl⟩, rfl⟩⟩
set_option maxRecDepth 20000 in
theorem e_z_127 : e_zok 127 := ⟨⟨⟨872, rfl⟩, rfl⟩, ⟨⟨50, rfl⟩, rfl⟩, fun h => absurd h (by decide), fun _ => ⟨⟨870, rfl⟩, rfl⟩, fun _ => ⟨⟨871, rfl⟩, rfl⟩⟩
set_option maxRecDepth 20000 in
theorem e_z_128 : e_zok 128 := ⟨⟨⟨876, rfl⟩, rfl⟩, ⟨⟨50, rfl⟩, rfl⟩, fun h => absurd h (by decide), fun _ => ⟨⟨874, rfl⟩, rfl⟩, fun _ => ⟨⟨875, rfl⟩, rfl⟩⟩
set_option maxRecDepth 20000 in
theorem e_z_129 : e_zok 129 := ⟨⟨⟨880, rfl⟩, rfl⟩, ⟨⟨50, rfl⟩, rfl⟩, fun h => absurd h (by decide), fun _ => ⟨⟨878, rfl⟩, rfl⟩, fun _ => ⟨⟨879, rfl⟩, rfl⟩⟩
set_option maxRecDepth 20000 in
theorem e_z_130 : e_zok 130 := ⟨⟨⟨884, rfl⟩, rfl⟩, ⟨⟨50, rfl⟩, rfl⟩, fun h => absurd h (by decide), fun _ => ⟨⟨882, rfl⟩, rfl⟩, fun _ => ⟨⟨883, rfl⟩, rfl⟩⟩
set_option maxRecDepth 20000 in
theorem e_z_131 : e_zok 131 := ⟨⟨⟨892, rfl⟩, rfl⟩, ⟨⟨50, rfl⟩, rfl⟩, fun h => absurd h (by decide), fun _ => ⟨⟨891, rfl⟩, rfl⟩, fun _ => ⟨⟨36, rfl⟩, rfl⟩⟩
set_option maxRecDepth 20000 in
theorem e_z_132 : e_zok 132 := ⟨⟨⟨888, rfl⟩, rfl⟩, ⟨⟨50, rfl⟩, rfl⟩, fun h => absurd h (by decide), fun _ => ⟨⟨886, rfl⟩, rfl⟩, fun _ => ⟨⟨887, rfl⟩, rfl⟩⟩
set_option maxRecDepth 20000 in
theorem e_z_133 : e_zok 133 := ⟨⟨⟨896, rfl⟩, rfl⟩, ⟨⟨50, rfl⟩, rfl⟩, fun h => absurd h (by decide), fun _ => ⟨⟨894, rfl⟩, rfl⟩, fun _ => ⟨⟨895, rfl⟩, rfl⟩⟩
set_option maxRecDepth 20000 in
theorem e_z_134 : e_zok 134 := ⟨⟨⟨900, rfl⟩, rfl⟩, ⟨⟨50, rfl⟩, rfl⟩, fun h => absurd h (by decide), fun _ => ⟨⟨898, rfl⟩, rfl⟩, fun _ => ⟨⟨899, rfl⟩, rfl⟩⟩
set_option maxRecDepth 20000 in
theorem e_z_135 : e_zok 135 := ⟨⟨⟨904, rfl⟩, rfl⟩, ⟨⟨50, rfl⟩, rfl⟩, fun h => absurd h (by decide), fun _ => ⟨⟨902, rfl⟩, rfl⟩, fun _ => ⟨⟨903, rfl⟩, rfl⟩⟩
set_option maxRecDepth 20000 in
theorem e_z_136 : e_zok 136 := ⟨⟨⟨908, rfl⟩, rfl⟩, ⟨⟨50, rfl⟩, rfl⟩, fun h => absurd h (by decide), fun _ => ⟨⟨906, rfl⟩, rfl⟩, fun _ => ⟨⟨907, rfl⟩, rfl⟩⟩
set_option maxRecDepth 20000 in
theorem e_z_137 : e_zok 137 := ⟨⟨⟨912, rfl⟩, rfl⟩, ⟨⟨50, rfl⟩, rfl⟩, fun h => absurd h (by decide), fun _ => ⟨⟨910, rfl⟩, rfl⟩, fun _ => ⟨⟨911, rfl⟩, rfl⟩⟩
set_option maxRecDepth 20000 in
theorem e_z_138 : e_zok 138 := ⟨⟨⟨932, rfl⟩, rfl⟩, ⟨⟨50, rfl⟩, rfl⟩, fun _ => ⟨⟨931, rfl⟩, rfl⟩, fun h => absurd h (by decide), fun h => absurd h (by decide)⟩
set_option maxRecDepth 20000 in
theorem e_z_139 : e_zok 139 := ⟨⟨⟨928, rfl⟩, rfl⟩, ⟨⟨50, rfl⟩, rfl⟩, fun h => absurd h (by decide), fun _ => ⟨⟨927, rfl⟩, rfl⟩, fun _ => ⟨⟨39, rfl⟩, rfl⟩⟩
set_option maxRecDepth 20000 in
theorem e_z_140 : e_zok 140 := ⟨⟨⟨924, rfl⟩, rfl⟩, ⟨⟨50, rfl⟩, rfl⟩, fun h => absurd h (by decide), fun _ => ⟨⟨923, rfl⟩, rfl⟩, fun _ => ⟨⟨38, rfl⟩, rfl⟩⟩
set_option maxRecDepth 20000 in
theorem e_z_141 : e_zok 141 := ⟨⟨⟨920, rfl⟩, rfl⟩, ⟨⟨50, rfl⟩, rfl⟩, fun h => absurd h (by decide), fun _ => ⟨⟨919, rfl⟩, rfl⟩, fun _ => ⟨⟨37, rfl⟩, rfl⟩⟩
set_option maxRecDepth 20000 in
theorem e_z_142 : e_zok 142 := ⟨⟨⟨916, rfl⟩, rfl⟩, ⟨⟨50, rfl⟩, rfl⟩, fun h => absurd h (by decide), fun _ => ⟨⟨914, rfl⟩, rfl⟩, fun _ => ⟨⟨915, rfl⟩, rfl⟩⟩
set_option maxRecDepth 20000 in
theorem e_z_143 : e_zok 143 := ⟨⟨⟨936, rfl⟩, rfl⟩, ⟨⟨50, rfl⟩, rfl⟩, fun h => absurd h (by decide), fun _ => ⟨⟨934, rfl⟩, rfl⟩, fun _ => ⟨⟨935, rfl⟩, rfl⟩⟩
set_option maxRecDepth 20000 in
theorem e_z_144 : e_zok 144 := ⟨⟨⟨940, rfl⟩, rfl⟩, ⟨⟨50, rfl⟩, rfl⟩, fun h => absurd h (by decide), fun _ => ⟨⟨938, rfl⟩, rfl⟩, fun _ => ⟨⟨939, rfl⟩, rfl⟩⟩
set_option maxRecDepth 20000 in
theorem e_z_145 : e_zok 145 := ⟨⟨⟨944, rfl⟩, rfl⟩, ⟨⟨50, rfl⟩, rfl⟩, fun h => absurd h (by decide), fun _ => ⟨⟨942, rfl⟩, rfl⟩, fun _ => ⟨⟨943, rfl⟩, rfl⟩⟩
set_option maxRecDepth 20000 in
theorem e_z_146 : e_zok 146 := ⟨⟨⟨952, rfl⟩, rfl⟩, ⟨⟨50, rfl⟩, rfl⟩, fun _ => ⟨⟨951, rfl⟩, rfl⟩, fun h => absurd h (by decide), fun h => absurd h (by decide)⟩
set_option maxRecDepth 20000 in
theorem e_z_147 : e_zok 147 := ⟨⟨⟨948, rfl⟩, rfl⟩, ⟨⟨50, rfl⟩, rfl⟩, fun h => absurd h (by decide), fun _ => ⟨⟨946, rfl⟩, rfl⟩, fun _ => ⟨⟨947, rfl⟩, rfl⟩⟩
theorem e_zs_ok : ∀ z, 1 ≤ z → z < 148 → e_zok z := by
  intro z h1 h2
  match z, h1, h2 with
  | 1, _, _ => exact e_z_1
  | 2, _, _ => exact e_z_2
  | 3, _, _ => exact e_z_3
  | 4, _, _ => exact e_z_4
  | 5, _, _ => exact e_z_5
  | 6, _, _ => exact e_z_6
  | 7, _, _ => exact e_z_7
  | 8, _, _ => exact e_z_8
  | 9, _, _ => exact e_z_9
  | 10, _, _ => exact e_z_10
  | 11, _, _ => exact e_z_11
  | 12, _, _ => exact e_z_12
  | 13, _, _ => exact e_z_13
  | 14, _, _ => exact e_z_14
  | 15, _, _ => exact e_z_15
  | 16, _, _ => exact e_z_16
  | 17, _, _ => exact e_z_17
  | 18, _, _ => exact e_z_18
  | 19, _, _ => exact e_z_19
  | 20, _, _ => exact e_z_20
  | 21, _, _ => exact e_z_21
  | 22, _, _ => exact e_z_22
  | 23, _, _ => exact e_z_23
  | 24, _, _ => exact e_z_24
  | 25, _, _ => exact e_z_25
  | 26, _, _ => exact e_z_26
  | 27, _, _ => exact e_z_27
  | 28, _, _ => exact e_z_28
  | 29, _, _ => exact e_z_29
  | 30, _, _ => exact e_z_30
  | 31, _, _ => exact e_z_31
  | 32, _, _ => exact e_z_32
  | 33, _, _ => exact e_z_33
  | 34, _, _ => exact e_z_34
  | 35, _, _ => exact e_z_35
  | 36, _, _ => exact e_z_36
  | 37, _, _ => exact e_z_37
  | 38, _, _ => exact e_z_38
  | 39, _, _ => exact e_z_39
  | 40, _, _ => exact e_z_40
  | 41, _, _ => exact e_z_41
  | 42, _, _ => exact e_z_42
  | 43, _, _ => exact e_z_43
  | 44, _, _ => exact e_z_44
  | 45, _, _ => exact e_z_45
  | 46, _, _ => exact e_z_46
  | 47, _, _ => exact e_z_47
  | 48, _, _ => exact e_z_48
  | 49, _, _ => exact e_z_49
  | 50, _, _ => exact e_z_50
  | 51, _, _ => exact e_z_51
  | 52, _, _ => exact e_z_52
  | 53, _, _ => exact e_z_53
  | 54, _, _ => exact e_z_54
  | 55, _, _ => exact e_z_55
  | 56, _, _ => exact e_z_56
  | 57, _, _ => exact e_z_57
  | 58, _, _ => exact e_z_58
  | 59, _, _ => exact e_z_59
  | 60, _, _ => exact e_z_60
  | 61, _, _ => exact e_z_61
  | 62, _, _ => exact e_z_62
  | 63, _, _ => exact e_z_63
  | 64, _, _ => exact e_z_64
  | 65, _, _ => exact e_z_65
  | 66, _, _ => exact e_z_66
  | 67, _, _ => exact e_z_67
  | 68, _, _ => exact e_z_68
  | 69, _, _ => exact e_z_69
  | 70, _, _ => exact e_z_70
  | 71, _, _ => exact e_z_71
  | 72, _, _ => exact e_z_72
  | 73, _, _ => exact e_z_73
  | 74, _, _ => exact e_z_74
  | 75, _, _ => exact e_z_75
  | 76, _, _ => exact e_z_76
  | 77, _, _ => exact e_z_77
  | 78, _, _ => exact e_z_78
  | 79, _, _ => exact e_z_79
  | 80, _, _ => exact e_z_80
  | 81, _, _ => exact e_z_81
  | 82, _, _ => exact e_z_82
  | 83, _, _ => exact e_z_83
  | 84, _, _ => exact e_z_84
  | 85, _, _ => exact e_z_85
  | 86, _, _ => exact e_z_86
  | 87, _, _ => exact e_z_87
  | 88, _, _ => exact e_z_88
  | 89, _, _ => exact e_z_89
  | 90, _, _ => exact e_z_90
  | 91, _, _ => exact e_z_91
  | 92, _, _ => exact e_z_92
  | 93, _, _ => exact e_z_93
  | 94, _, _ => exact e_z_94
  | 95, _, _ => exact e_z_95
  | 96, _, _ => exact e_z_96
  | 97, _, _ => exact e_z_97
  | 98, _, _ => exact e_z_98
  | 99, _, _ => exact e_z_99
  | 100, _, _ => exact e_z_100
  | 101, _, _ => exact e_z_101
  | 102, _, _ => exact e_z_102
  | 103, _, _ => exact e_z_103
  | 104, _, _ => exact e_z_104
  | 105, _, _ => exact e_z_105
  | 106, _, _ => exact e_z_106
  | 107, _, _ => exact e_z_107
  | 108, _, _ => exact e_z_108
  | 109, _, _ => exact e_z_109
  | 110, _, _ => exact e_z_110
  | 111, _, _ => exact e_z_111
  | 112, _, _ => exact e_z_112
  | 113, _, _ => exact e_z_113
  | 114, _, _ => exact e_z_114
  | 115, _, _ => exact e_z_115
  | 116, _, _ => exact e_z_116
  | 117, _, _ => exact e_z_117
  | 118, _, _ => exact e_z_118
  | 119, _, _ => exact e_z_119
  | 120, _, _ => exact e_z_120
  | 121, _, _ => exact e_z_121
  | 122, _, _ => exact e_z_122
  | 123, _, _ => exact e_z_123
  | 124, _, _ => exact e_z_124
  | 125, _, _ => exact e_z_125
  | 126, _, _ => exact e_z_126
  | 127, _, _ => exact e_z_127
  | 128, _, _ => exact e_z_128
  | 129, _, _ => exact e_z_129
  | 130, _, _ => exact e_z_130
  | 131, _, _ => exact e_z_131
  | 132, _, _ => exact e_z_132
  | 133, _, _ => exact e_z_133
  | 134, _, _ => exact e_z_134
  | 135, _, _ => exact e_z_135
  | 136, _, _ => exact e_z_136
  | 137, _, _ => exact e_z_137
  | 138, _, _ => exact e_z_138
  | 139, _, _ => exact e_z_139
  | 140, _, _ => exact e_z_140
  | 141, _, _ => exact e_z_141
  | 142, _, _ => exact e_z_142
  | 143, _, _ => exact e_z_143
  | 144, _, _ => exact e_z_144
  | 145, _, _ => exact e_z_145
  | 146, _, _ => exact e_z_146
  | 147, _, _ => exact e_z_147
  | z + 148, h1, h2 => omega
def e_zc (z : Nat) : Bool := decide ((e_mN z).cls = e_mO z ∧ ((e_mN z).cls ≠ "java/lang/invoke/MethodHandle" ∧ (e_mN z).cls ≠ "java/lang/invoke/VarHandle") ∧ plainName (e_mN z).cls = true ∧ (parseMethodDescriptor (e_mN z).desc).map (fun d => d.parameters.length) = some (e_mP z) ∧ (e_mK z = 1 → (e_mN z).name = "<init>" ∧ e_mR z = none) ∧ (e_mK z = 2 → e_mC z < 10 ∧ vwCl[e_mC z]?.map (·.1) = some (e_mN z).cls))
theorem e_zc_1 : e_zc 1 = true := by decide +kernel
theorem e_zc_2 : e_zc 2 = true := by decide +kernel
theorem e_zc_3 : e_zc 3 = true := by decide +kernel
theorem e_zc_4 : e_zc 4 = true := by decide +kernel
theorem e_zc_5 : e_zc 5 = true := by decide +kernel
theorem e_zc_6 : e_zc 6 = true := by decide +kernel
theorem e_zc_7 : e_zc 7 = true := by decide +kernel
theorem e_zc_8 : e_zc 8 = true := by decide +kernel
theorem e_zc_9 : e_zc 9 = true := by decide +kernel
theorem e_zc_10 : e_zc 10 = true := by decide +kernel
theorem e_zc_11 : e_zc 11 = true := by decide +kernel
theorem e_zc_12 : e_zc 12 = true := by decide +kernel
theorem e_zc_13 : e_zc 13 = true := by decide +kernel
theorem e_zc_14 : e_zc 14 = true := by decide +kernel
theorem e_zc_15 : e_zc 15 = true := by decide +kernel
theorem e_zc_16 : e_zc 16 = true := by decide +kernel
theorem e_zc_17 : e_zc 17 = true := by decide +kernel
theorem e_zc_18 : e_zc 18 = true := by decide +kernel
theorem e_zc_19 : e_zc 19 = true := by decide +kernel
theorem e_zc_20 : e_zc 20 = true := by decide +kernel
theorem e_zc_21 : e_zc 21 = true := by decide +kernel
theorem e_zc_22 : e_zc 22 = true := by decide +kernel
theorem e_zc_23 : e_zc 23 = true := by decide +kernel
theorem e_zc_24 : e_zc 24 = true := by decide +kernel
theorem e_zc_25 : e_zc 25 = true := by decide +kernel
theorem e_zc_26 : e_zc 26 = true := by decide +kernel
theorem e_zc_27 : e_zc 27 = true := by decide +kernel
theorem e_zc_28 : e_zc 28 = true := by decide +kernel
theorem e_zc_29 : e_zc 29 = true := by decide +kernel
theorem e_zc_30 : e_zc 30 = true := by decide +kernel
theorem e_zc_31 : e_zc 31 = true := by decide +kernel
theorem e_zc_32 : e_zc 32 = true := by decide +kernel
theorem e_zc_33 : e_zc 33 = true := by decide +kernel
theorem e_zc_34 : e_zc 34 = true := by decide +kernel
theorem e_zc_35 : e_zc 35 = true := by decide +kernel
theorem e_zc_36 : e_zc 36 = true := by decide +kernel
theorem e_zc_37 : e_zc 37 = true := by decide +kernel
theorem e_zc_38 : e_zc 38 = true := by decide +kernel
theorem e_zc_39 : e_zc 39 = true := by decide +kernel
theorem e_zc_40 : e_zc 40 = true := by decide +kernel
theorem e_zc_41 : e_zc 41 = true := by decide +kernel
theorem e_zc_42 : e_zc 42 = true := by decide +kernel
theorem e_zc_43 : e_zc 43 = true := by decide +kernel
theorem e_zc_44 : e_zc 44 = true := by decide +kernel
theorem e_zc_45 : e_zc 45 = true := by decide +kernel
theorem e_zc_46 : e_zc 46 = true := by decide +kernel
theorem e_zc_47 : e_zc 47 = true := by decide +kernel
theorem e_zc_48 : e_zc 48 = true := by decide +kernel
theorem e_zc_49 : e_zc 49 = true := by decide +kernel
theorem e_zc_50 : e_zc 50 = true := by decide +kernel
theorem e_zc_51 : e_zc 51 = true := by decide +kernel
theorem e_zc_52 : e_zc 52 = true := by decide +kernel
theorem e_zc_53 : e_zc 53 = true := by decide +kernel
theorem e_zc_54 : e_zc 54 = true := by decide +kernel
theorem e_zc_55 : e_zc 55 = true := by decide +kernel
theorem e_zc_56 : e_zc 56 = true := by decide +kernel
theorem e_zc_57 : e_zc 57 = true := by decide +kernel
theorem e_zc_58 : e_zc 58 = true := by decide +kernel
theorem e_zc_59 : e_zc 59 = true := by decide +kernel
theorem e_zc_60 : e_zc 60 = true := by decide +kernel
theorem e_zc_61 : e_zc 61 = true := by decide +kernel
theorem e_zc_62 : e_zc 62 = true := by decide +kernel
theorem e_zc_63 : e_zc 63 = true := by decide +kernel
theorem e_zc_64 : e_zc 64 = true := by decide +kernel
theorem e_zc_65 : e_zc 65 = true := by decide +kernel
theorem e_zc_66 : e_zc 66 = true := by decide +kernel
theorem e_zc_67 : e_zc 67 = true := by decide +kernel
theorem e_zc_68 : e_zc 68 = true := by decide +kernel
theorem e_zc_69 : e_zc 69 = true := by decide +kernel
theorem e_zc_70 : e_zc 70 = true := by decide +kernel
theorem e_zc_71 : e_zc 71 = true := by decide +kernel
theorem e_zc_72 : e_zc 72 = true := by decide +kernel
theorem e_zc_73 : e_zc 73 = true := by decide +kernel
theorem e_zc_74 : e_zc 74 = true := by decide +kernel
theorem e_zc_75 : e_zc 75 = true := by decide +kernel
theorem e_zc_76 : e_zc 76 = true := by decide +kernel
theorem e_zc_77 : e_zc 77 = true := by decide +kernel
theorem e_zc_78 : e_zc 78 = true := by decide +kernel
theorem e_zc_79 : e_zc 79 = true := by decide +kernel
theorem e_zc_80 : e_zc 80 = true := by decide +kernel
theorem e_zc_81 : e_zc 81 = true := by decide +kernel
theorem e_zc_82 : e_zc 82 = true := by decide +kernel
theorem e_zc_83 : e_zc 83 = true := by decide +kernel
theorem e_zc_84 : e_zc 84 = true := by decide +kernel
theorem e_zc_85 : e_zc 85 = true := by decide +kernel
theorem e_zc_86 : e_zc 86 = true := by decide +kernel
theorem e_zc_87 : e_zc 87 = true := by decide +kernel
theorem e_zc_88 : e_zc 88 = true := by decide +kernel
theorem e_zc_89 : e_zc 89 = true := by decide +kernel
theorem e_zc_90 : e_zc 90 = true := by decide +kernel
theorem e_zc_91 : e_zc 91 = true := by decide +kernel
theorem e_zc_92 : e_zc 92 = true := by decide +kernel
theorem e_zc_93 : e_zc 93 = true := by decide +kernel
theorem e_zc_94 : e_zc 94 = true := by decide +kernel
theorem e_zc_95 : e_zc 95 = true := by decide +kernel
theorem e_zc_96 : e_zc 96 = true := by decide +kernel
theorem e_zc_97 : e_zc 97 = true := by decide +kernel
theorem e_zc_98 : e_zc 98 = true := by decide +kernel
theorem e_zc_99 : e_zc 99 = true := by decide +kernel
theorem e_zc_100 : e_zc 100 = true := by decide +kernel
theorem e_zc_101 : e_zc 101 = true := by decide +kernel
theorem e_zc_102 : e_zc 102 = true := by decide +kernel
theorem e_zc_103 : e_zc 103 = true := by decide +kernel
theorem e_zc_104 : e_zc 104 = true := by decide +kernel
theorem e_zc_105 : e_zc 105 = true := by decide +kernel
theorem e_zc_106 : e_zc 106 = true := by decide +kernel
theorem e_zc_107 : e_zc 107 = true := by decide +kernel
theorem e_zc_108 : e_zc 108 = true := by decide +kernel
theorem e_zc_109 : e_zc 109 = true := by decide +kernel
theorem e_zc_110 : e_zc 110 = true := by decide +kernel
theorem e_zc_111 : e_zc 111 = true := by decide +kernel
theorem e_zc_112 : e_zc 112 = true := by decide +kernel
theorem e_zc_113 : e_zc 113 = true := by decide +kernel
theorem e_zc_114 : e_zc 114 = true := by decide +kernel
theorem e_zc_115 : e_zc 115 = true := by decide +kernel
theorem e_zc_116 : e_zc 116 = true := by decide +kernel
theorem e_zc_117 : e_zc 117 = true := by decide +kernel
theorem e_zc_118 : e_zc 118 = true := by decide +kernel
theorem e_zc_119 : e_zc 119 = true := by decide +kernel
theorem e_zc_120 : e_zc 120 = true := by decide +kernel
theorem e_zc_121 : e_zc 121 = true := by decide +kernel
theorem e_zc_122 : e_zc 122 = true := by decide +kernel
theorem e_zc_123 : e_zc 123 = true := by decide +kernel
theorem e_zc_124 : e_zc 124 = true := by decide +kernel
theorem e_zc_125 : e_zc 125 = true := by decide +kernel
theorem e_zc_126 : e_zc 126 = true := by decide +kernel
theorem e_zc_127 : e_zc 127 = true := by decide +kernel
theorem e_zc_128 : e_zc 128 = true := by decide +kernel
theorem e_zc_129 : e_zc 129 = true := by decide +kernel
theorem e_zc_130 : e_zc 130 = true := by decide +kernel
theorem e_zc_131 : e_zc 131 = true := by decide +kernel
theorem e_zc_132 : e_zc 132 = true := by decide +kernel
theorem e_zc_133 : e_zc 133 = true := by decide +kernel
theorem e_zc_134 : e_zc 134 = true := by decide +kernel
theorem e_zc_135 : e_zc 135 = true := by decide +kernel
theorem e_zc_136 : e_zc 136 = true := by decide +kernel
theorem e_zc_137 : e_zc 137 = true := by decide +kernel
theorem e_zc_138 : e_zc 138 = true := by decide +kernel
theorem e_zc_139 : e_zc 139 = true := by decide +kernel
theorem e_zc_140 : e_zc 140 = true := by decide +kernel
theorem e_zc_141 : e_zc 141 = true := by decide +kernel
theorem e_zc_142 : e_zc 142 = true := by decide +kernel
theorem e_zc_143 : e_zc 143 = true := by decide +kernel
theorem e_zc_144 : e_zc 144 = true := by decide +kernel
theorem e_zc_145 : e_zc 145 = true := by decide +kernel
theorem e_zc_146 : e_zc 146 = true := by decide +kernel
theorem e_zc_147 : e_zc 147 = true := by decide +kernel
theorem e_zcs_ok : ∀ z, 1 ≤ z → z < 148 → e_zc z = true := by
  intro z h1 h2
  match z, h1, h2 with
  | 1, _, _ => exact e_zc_1
  | 2, _, _ => exact e_zc_2
  | 3, _, _ => exact e_zc_3
  | 4, _, _ => exact e_zc_4
  | 5, _, _ => exact e_zc_5
  | 6, _, _ => exact e_zc_6
  | 7, _, _ => exact e_zc_7
  | 8, _, _ => exact e_zc_8
  | 9, _, _ => exact e_zc_9
  | 10, _, _ => exact e_zc_10
  | 11, _, _ => exact e_zc_11
  | 12, _, _ => exact e_zc_12
  | 13, _, _ => exact e_zc_13
  | 14, _, _ => exact e_zc_14
  | 15, _, _ => exact e_zc_15
  | 16, _, _ => exact e_zc_16
  | 17, _, _ => exact e_zc_17
  | 18, _, _ => exact e_zc_18
  | 19, _, _ => exact e_zc_19
  | 20, _, _ => exact e_zc_20
  | 21, _, _ => exact e_zc_21
  | 22, _, _ => exact e_zc_22
  | 23, _, _ => exact e_zc_23
  | 24, _, _ => exact e_zc_24
  | 25, _, _ => exact e_zc_25
  | 26, _, _ => exact e_zc_26
  | 27, _, _ => exact e_zc_27
  | 28, _, _ => exact e_zc_28
  | 29, _, _ => exact e_zc_29
  | 30, _, _ => exact e_zc_30
  | 31, _, _ => exact e_zc_31
  | 32, _, _ => exact e_zc_32
  | 33, _, _ => exact e_zc_33
  | 34, _, _ => exact e_zc_34
  | 35, _, _ => exact e_zc_35
  | 36, _, _ => exact e_zc_36
  | 37, _, _ => exact e_zc_37
  | 38, _, _ => exact e_zc_38
  | 39, _, _ => exact e_zc_39
  | 40, _, _ => exact e_zc_40
  | 41, _, _ => exact e_zc_41
  | 42, _, _ => exact e_zc_42
  | 43, _, _ => exact e_zc_43
  | 44, _, _ => exact e_zc_44
  | 45, _, _ => exact e_zc_45
  | 46, _, _ => exact e_zc_46
  | 47, _, _ => exact e_zc_47
  | 48, _, _ => exact e_zc_48
  | 49, _, _ => exact e_zc_49
  | 50, _, _ => exact e_zc_50
  | 51, _, _ => exact e_zc_51
  | 52, _, _ => exact e_zc_52
  | 53, _, _ => exact e_zc_53
  | 54, _, _ => exact e_zc_54
  | 55, _, _ => exact e_zc_55
  | 56, _, _ => exact e_zc_56
  | 57, _, _ => exact e_zc_57
  | 58, _, _ => exact e_zc_58
  | 59, _, _ => exact e_zc_59
  | 60, _, _ => exact e_zc_60
  | 61, _, _ => exact e_zc_61
  | 62, _, _ => exact e_zc_62
  | 63, _, _ => exact e_zc_63
  | 64, _, _ => exact e_zc_64
  | 65, _, _ => exact e_zc_65
  | 66, _, _ => exact e_zc_66
  | 67, _, _ => exact e_zc_67
  | 68, _, _ => exact e_zc_68
  | 69, _, _ => exact e_zc_69
  | 70, _, _ => exact e_zc_70
  | 71, _, _ => exact e_zc_71
  | 72, _, _ => exact e_zc_72
  | 73, _, _ => exact e_zc_73
  | 74, _, _ => exact e_zc_74
  | 75, _, _ => exact e_zc_75
  | 76, _, _ => exact e_zc_76
  | 77, _, _ => exact e_zc_77
  | 78, _, _ => exact e_zc_78
  | 79, _, _ => exact e_zc_79
  | 80, _, _ => exact e_zc_80
  | 81, _, _ => exact e_zc_81
  | 82, _, _ => exact e_zc_82
  | 83, _, _ => exact e_zc_83
  | 84, _, _ => exact e_zc_84
  | 85, _, _ => exact e_zc_85
  | 86, _, _ => exact e_zc_86
  | 87, _, _ => exact e_zc_87
  | 88, _, _ => exact e_zc_88
  | 89, _, _ => exact e_zc_89
  | 90, _, _ => exact e_zc_90
  | 91, _, _ => exact e_zc_91
  | 92, _, _ => exact e_zc_92
  | 93, _, _ => exact e_zc_93
  | 94, _, _ => exact e_zc_94
  | 95, _, _ => exact e_zc_95
  | 96, _, _ => exact e_zc_96
  | 97, _, _ => exact e_zc_97
  | 98, _, _ => exact e_zc_98
  | 99, _, _ => exact e_zc_99
  | 100, _, _ => exact e_zc_100
  | 101, _, _ => exact e_zc_101
  | 102, _, _ => exact e_zc_102
  | 103, _, _ => exact e_zc_103
  | 104, _, _ => exact e_zc_104
  | 105, _, _ => exact e_zc_105
  | 106, _, _ => exact e_zc_106
  | 107, _, _ => exact e_zc_107
  | 108, _, _ => exact e_zc_108
  | 109, _, _ => exact e_zc_109
  | 110, _, _ => exact e_zc_110
  | 111, _, _ => exact e_zc_111
  | 112, _, _ => exact e_zc_112
  | 113, _, _ => exact e_zc_113
  | 114, _, _ => exact e_zc_114
  | 115, _, _ => exact e_zc_115
  | 116, _, _ => exact e_zc_116
  | 117, _, _ => exact e_zc_117
  | 118, _, _ => exact e_zc_118
  | 119, _, _ => exact e_zc_119
  | 120, _, _ => exact e_zc_120
  | 121, _, _ => exact e_zc_121
  | 122, _, _ => exact e_zc_122
  | 123, _, _ => exact e_zc_123
  | 124, _, _ => exact e_zc_124
  | 125, _, _ => exact e_zc_125
  | 126, _, _ => exact e_zc_126
  | 127, _, _ => exact e_zc_127
  | 128, _, _ => exact e_zc_128
  | 129, _, _ => exact e_zc_129
  | 130, _, _ => exact e_zc_130
  | 131, _, _ => exact e_zc_131
  | 132, _, _ => exact e_zc_132
  | 133, _, _ => exact e_zc_133
  | 134, _, _ => exact e_zc_134
  | 135, _, _ => exact e_zc_135
  | 136, _, _ => exact e_zc_136
  | 137, _, _ => exact e_zc_137
  | 138, _, _ => exact e_zc_138
  | 139, _, _ => exact e_zc_139
  | 140, _, _ => exact e_zc_140
  | 141, _, _ => exact e_zc_141
  | 142, _, _ => exact e_zc_142
  | 143, _, _ => exact e_zc_143
  | 144, _, _ => exact e_zc_144
  | 145, _, _ => exact e_zc_145
  | 146, _, _ => exact e_zc_146
  | 147, _, _ => exact e_zc_147
  | z + 148, h1, h2 => omega
