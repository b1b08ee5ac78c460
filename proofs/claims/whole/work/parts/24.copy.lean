/-! copying a feeder -/
def cpN (m : e_Tb) (q x : Nat) : e_Tb := e_set (e_set (e_set (e_set m q 0 (m x 0)) q 1 (m x 1)) q 2 (m x 2)) q 3 (m x 3)
def cpR (m : e_Tb) (q x : Nat) : e_Tb := e_set (e_set (e_set (e_set (e_set (e_set (e_set (e_set (e_set (e_set (e_set (e_set m q 0 (m x 0)) q 1 (m x 1)) q 2 (m x 2)) q 3 (m x 3)) q 4 (m x 4)) q 5 (m x 5)) q 6 (m x 6)) q 7 (m x 7)) q 8 (m x 8)) q 9 (m x 9)) q 10 (m x 10)) q 11 (m x 11)
def cpB (m : e_Tb) (q x : Nat) : e_Tb := e_set (e_set (e_set (e_set (e_set (e_set (e_set (e_set m q 0 (m x 0)) q 1 (m x 1)) q 2 (m x 2)) q 3 (m x 3)) q 4 (m x 4)) q 5 (m x 5)) q 6 (m x 6)) q 7 (m x 7)
/-- nothing but the block B changed -/
def Fb (B : Nat) (m m' : e_Tb) : Prop := ∀ c, (c < B ∨ B + 30 ≤ c) → m' c = m c
theorem Fb.rf {B : Nat} {m : e_Tb} : Fb B m m := fun _ _ => rfl
theorem Fb.set {B : Nat} {m m' : e_Tb} (h : Fb B m m') {c s : Nat} {v : Int32} (h1 : B ≤ c) (h2 : c < B + 30) : Fb B m (e_set m' c s v) := fun x hx => by
  rw [← h x hx]
  funext k
  exact e_set_cell (by omega)
theorem Fb.tr {B : Nat} {a b c : e_Tb} (h1 : Fb B a b) (h2 : Fb B b c) : Fb B a c := fun x hx => (h2 x hx).trans (h1 x hx)
theorem fb_ne {B B' : Nat} (h : e_fb B) (h' : e_fb B') (hn : B' ≠ B) : B' + 30 ≤ B ∨ B + 30 ≤ B' := by
  rcases h with h | h | h | h <;> rcases h' with h' | h' | h' | h' <;> omega
theorem Fb.vw {B B' : Nat} (h : e_fb B) (h' : e_fb B') (hn : B' ≠ B) {m m' : e_Tb} (hf : Fb B m m') : vw B' m' = vw B' m := vw_cong (fun c h1 h2 => hf c (by have := fb_ne h h' hn; omega))
theorem cpN_fb {B k x : Nat} (m : e_Tb) (h1 : k ≤ 8) : Fb B m (cpN m (nd B k) x) := by
  have a : B ≤ nd B k ∧ nd B k < B + 30 := by unfold nd; omega
  exact (((Fb.rf.set a.1 a.2).set a.1 a.2).set a.1 a.2).set a.1 a.2
theorem cpR_fb {B k x : Nat} (m : e_Tb) (h1 : k ≤ 8) : Fb B m (cpR m (rg B k) x) := by
  have a : B ≤ rg B k ∧ rg B k < B + 30 := by unfold rg; omega
  exact (((((((((((Fb.rf.set a.1 a.2).set a.1 a.2).set a.1 a.2).set a.1 a.2).set a.1 a.2).set a.1 a.2).set a.1 a.2).set a.1 a.2).set a.1 a.2).set a.1 a.2).set a.1 a.2).set a.1 a.2
theorem cpB_fb {B k x : Nat} (m : e_Tb) (h1 : k ≤ 8) : Fb B m (cpB m (bk B k) x) := by
  have a : B ≤ bk B k ∧ bk B k < B + 30 := by unfold bk; omega
  exact (((((((Fb.rf.set a.1 a.2).set a.1 a.2).set a.1 a.2).set a.1 a.2).set a.1 a.2).set a.1 a.2).set a.1 a.2).set a.1 a.2
section P24
variable {xs : Nat → Int32} {L : Nat} {Q : e_Rs → Prop} {sv : Nat → Nat}
theorem c_X0_copyFrom {m : e_Tb} {r : Nat → Nat → Nat} {q x : Nat} (hq : e_okc q 0 = true) (hx : e_okc x 0 = true) (ne : ¬ x = q) (b0 : e_01 (m x 0)) (b6 : e_01 (m x 6)) :
    Wp xs L kX0_copyFrom_0 [(0, .ref q), (1, .ref x)] [] (173, m, r) Q = Q (none, (173, cpB m q x, r)) := by
  have ec : ∀ (u : e_Tb) (s : Nat) (v : Int32) (s' : Nat), e_set u q s v x s' = u x s' := fun u s v s' => e_set_cell ne
  simp only [r_aload_n, r_getf0, r_getf1, r_getf2, r_nop, r_putf0, r_putf1, r_ret, kX0_copyFrom_0, lX0_copyFrom_0, sl_n, sl_i, sl_r, sl_l, e_wi_s, e_wr_s, e_wl_s, e_lk, e_sto, e_ok, e_no, e_isL, Option.toList_some, Option.toList_none, List.cons_append, List.nil_append, List.length_cons, List.length_nil, Bool.not_false, Bool.not_true, Bool.and_true, Bool.true_and, Bool.false_and, Bool.and_false, Bool.and_self, Nat.reduceBEq, Nat.reduceAdd, Nat.reduceEqDiff, Nat.reduceLeDiff, Nat.reduceLT, Nat.zero_le, Nat.le_refl, if_true, if_false, ite_true, ite_false, true_and, and_true, true_or, or_true, not_false_eq_true, not_true_eq_false, e_set_self, Nat.succ_ne_zero, eq_self, hq, hx, ec, b0, b6, cpB, e_set_slot, zero_01, one_01, e_b_0, e_b_01, or_self, or_false, false_or, R_1_0, R_1_1, R_1_2, R_1_3, R_1_4, R_1_5, R_1_6, R_32_0, R_32_1, R_32_2, R_36_0, R_36_1, R_36_2, R_36_3, R_37_0, R_37_1, R_37_2, R_68_0, R_70_0, R_164_0, R_164_1, R_164_3, R_164_5, R_164_6, R_164_7, R_164_8, R_164_10, R_164_11, R_2_4, R_2_5, ok_1, ok_32, ok_36, ok_37, ok_68, ok_70, ok_164, ok_2, ok_3, sz_3, ok_4, sz_4, ok_33, sz_33, ok_34, sz_34, ok_35, sz_35, ok_38, sz_38, ok_39, sz_39, ok_40, sz_40, ok_41, sz_41, ok_66, sz_66, ok_67, sz_67, ok_69, sz_69, ok_71, sz_71, ok_162, sz_162, ok_163, sz_163, ok_165, sz_165, ok_166, sz_166, ok_167, sz_167, ok_168, sz_168, ok_169, sz_169, ok_170, sz_170, ok_171, sz_171, ok_172, sz_172, ok_173, sz_173, tn_0, tn_1, tn_2, tn_3, tn_4, tn_5, tn_6, tn_7, tn_8, tn_9, tn_10, tn_11, tn_12, tn_13, tn_14, tn_15, tn_16, tn_17, tn_18, tn_19, tn_20, tn_21, tn_22, tn_23, tn_24, tn_25, tn_26, tn_27, in_0, in_1, in_2, in_3, in_4, in_5, in_6, in_7, in_8, in_9, in_10, in_11, in_12, in_13, in_14, in_15, in_16, in_17, in_18, in_19, in_20, in_21, in_22, in_23, in_24, in_25, in_26, in_27, e_rf_s]
theorem c_X7_copyFrom {m : e_Tb} {r : Nat → Nat → Nat} {q x : Nat} (hq : e_okc q 7 = true) (hx : e_okc x 7 = true) (ne : ¬ x = q) (b0 : e_01 (m x 0)) (b4 : e_01 (m x 4)) (b8 : e_01 (m x 8)) :
    Wp xs L kX7_copyFrom_0 [(0, .ref q), (1, .ref x)] [] (173, m, r) Q = Q (none, (173, cpR m q x, r)) := by
  have ec : ∀ (u : e_Tb) (s : Nat) (v : Int32) (s' : Nat), e_set u q s v x s' = u x s' := fun u s v s' => e_set_cell ne
  simp only [r_aload_n, r_getf0, r_getf1, r_getf2, r_nop, r_putf0, r_putf1, r_ret, kX7_copyFrom_0, lX7_copyFrom_0, sl_n, sl_i, sl_r, sl_l, e_wi_s, e_wr_s, e_wl_s, e_lk, e_sto, e_ok, e_no, e_isL, Option.toList_some, Option.toList_none, List.cons_append, List.nil_append, List.length_cons, List.length_nil, Bool.not_false, Bool.not_true, Bool.and_true, Bool.true_and, Bool.false_and, Bool.and_false, Bool.and_self, Nat.reduceBEq, Nat.reduceAdd, Nat.reduceEqDiff, Nat.reduceLeDiff, Nat.reduceLT, Nat.zero_le, Nat.le_refl, if_true, if_false, ite_true, ite_false, true_and, and_true, true_or, or_true, not_false_eq_true, not_true_eq_false, e_set_self, Nat.succ_ne_zero, eq_self, hq, hx, ec, b0, b4, b8, cpR, e_set_slot, zero_01, one_01, e_b_0, e_b_01, or_self, or_false, false_or, R_1_0, R_1_1, R_1_2, R_1_3, R_1_4, R_1_5, R_1_6, R_32_0, R_32_1, R_32_2, R_36_0, R_36_1, R_36_2, R_36_3, R_37_0, R_37_1, R_37_2, R_68_0, R_70_0, R_164_0, R_164_1, R_164_3, R_164_5, R_164_6, R_164_7, R_164_8, R_164_10, R_164_11, R_2_4, R_2_5, ok_1, ok_32, ok_36, ok_37, ok_68, ok_70, ok_164, ok_2, ok_3, sz_3, ok_4, sz_4, ok_33, sz_33, ok_34, sz_34, ok_35, sz_35, ok_38, sz_38, ok_39, sz_39, ok_40, sz_40, ok_41, sz_41, ok_66, sz_66, ok_67, sz_67, ok_69, sz_69, ok_71, sz_71, ok_162, sz_162, ok_163, sz_163, ok_165, sz_165, ok_166, sz_166, ok_167, sz_167, ok_168, sz_168, ok_169, sz_169, ok_170, sz_170, ok_171, sz_171, ok_172, sz_172, ok_173, sz_173, tn_0, tn_1, tn_2, tn_3, tn_4, tn_5, tn_6, tn_7, tn_8, tn_9, tn_10, tn_11, tn_12, tn_13, tn_14, tn_15, tn_16, tn_17, tn_18, tn_19, tn_20, tn_21, tn_22, tn_23, tn_24, tn_25, tn_26, tn_27, in_0, in_1, in_2, in_3, in_4, in_5, in_6, in_7, in_8, in_9, in_10, in_11, in_12, in_13, in_14, in_15, in_16, in_17, in_18, in_19, in_20, in_21, in_22, in_23, in_24, in_25, in_26, in_27, e_rf_s]
end P24
