/-! copying a feeder -/
def cpN (m : e_Tb) (q x : Nat) : e_Tb := e_set (e_set (e_set (e_set m q 0 (m x 0)) q 1 (m x 1)) q 2 (m x 2)) q 3 (m x 3)
def cpR (m : e_Tb) (q x : Nat) : e_Tb := e_set (e_set (e_set (e_set (e_set (e_set (e_set (e_set (e_set (e_set (e_set (e_set m q 0 (m x 0)) q 1 (m x 1)) q 2 (m x 2)) q 3 (m x 3)) q 4 (m x 4)) q 5 (m x 5)) q 6 (m x 6)) q 7 (m x 7)) q 8 (m x 8)) q 9 (m x 9)) q 10 (m x 10)) q 11 (m x 11)
def cpB (m : e_Tb) (q x : Nat) : e_Tb := e_set (e_set (e_set (e_set (e_set (e_set (e_set (e_set m q 0 (m x 0)) q 1 (m x 1)) q 2 (m x 2)) q 3 (m x 3)) q 4 (m x 4)) q 5 (m x 5)) q 6 (m x 6)) q 7 (m x 7)
/-- nothing but the block B changed -/
def Fb (B : Nat) (m m' : e_Tb) : Prop := ∀ c, (c < B ∨ B + 30 ≤ c) → m' c = m c
theorem Fb.rf {B : Nat} {m : e_Tb} : Fb B m m := fun _ _ => rfl
theorem Fb.set {B : Nat} {m m' : e_Tb} (h : Fb B m m') {c s : Nat} {v : Int32} (h1 : B ≤ c) (h2 : c < B + 30) : Fb B m (e_set m' c s v) := fun x hx => by
  rw [← h x hx]
  funext k
  exact e_set_cell (by omega)
theorem Fb.tr {B : Nat} {a b c : e_Tb} (h1 : Fb B a b) (h2 : Fb B b c) : Fb B a c := fun x hx => (h2 x hx).trans (h1 x hx)
theorem fb_ne {B B' : Nat} (h : e_fb B) (h' : e_fb B') (hn : B' ≠ B) : B' + 30 ≤ B ∨ B + 30 ≤ B' := by
  rcases h with h | h | h | h <;> rcases h' with h' | h' | h' | h' <;> omega
theorem Fb.vw {B B' : Nat} (h : e_fb B) (h' : e_fb B') (hn : B' ≠ B) {m m' : e_Tb} (hf : Fb B m m') : vw B' m' = vw B' m := vw_cong (fun c h1 h2 => hf c (by have := fb_ne h h' hn; omega))
theorem cpN_fb {B k x : Nat} (m : e_Tb) (h1 : k ≤ 8) : Fb B m (cpN m (nd B k) x) := by
  have a : B ≤ nd B k ∧ nd B k < B + 30 := by unfold nd; omega
  exact (((Fb.rf.set a.1 a.2).set a.1 a.2).set a.1 a.2).set a.1 a.2
theorem cpR_fb {B k x : Nat} (m : e_Tb) (h1 : k ≤ 8) : Fb B m (cpR m (rg B k) x) := by
  have a : B ≤ rg B k ∧ rg B k < B + 30 := by unfold rg; omega
  exact (((((((((((Fb.rf.set a.1 a.2).set a.1 a.2).set a.1 a.2).set a.1 a.2).set a.1 a.2).set a.1 a.2).set a.1 a.2).set a.1 a.2).set a.1 a.2).set a.1 a.2).set a.1 a.2).set a.1 a.2
theorem cpB_fb {B k x : Nat} (m : e_Tb) (h1 : k ≤ 8) : Fb B m (cpB m (bk B k) x) := by
  have a : B ≤ bk B k ∧ bk B k < B + 30 := by unfold bk; omega
  exact (((((((Fb.rf.set a.1 a.2).set a.1 a.2).set a.1 a.2).set a.1 a.2).set a.1 a.2).set a.1 a.2).set a.1 a.2).set a.1 a.2
def chN (w : e_Tb) (r : Nat → Int32) (k : Nat) : e_Tb := e_set (e_set (e_set (e_set w k 0 (r 0)) k 1 (r 1)) k 2 (r 2)) k 3 (r 3)
def chR (w : e_Tb) (r : Nat → Int32) (k : Nat) : e_Tb := e_set (e_set (e_set (e_set (e_set (e_set (e_set (e_set (e_set (e_set (e_set (e_set w k 4 (r 4)) k 5 (r 5)) k 6 (r 6)) k 7 (r 7)) k 8 (r 8)) k 10 (r 10)) k 9 (r 9)) k 15 (r 15)) k 14 (r 14)) k 11 (r 11)) k 12 (r 12)) k 13 (r 13)
def chB (w : e_Tb) (r : Nat → Int32) (k : Nat) : e_Tb := e_set (e_set (e_set (e_set (e_set (e_set (e_set (e_set w k 16 (r 16)) k 17 (r 17)) k 18 (r 18)) k 19 (r 19)) k 20 (r 20)) k 21 (r 21)) k 23 (r 23)) k 22 (r 22)
theorem vw_cpN {B B' k : Nat} (g1 : 1 ≤ k) (g2 : k ≤ 8) (m : e_Tb) : vw B (cpN m (nd B k) (nd B' k)) = chN (vw B m) (vw B' m k) k := by
  unfold cpN chN
  simp only [vu_nd0 g1 g2, vr_nd0 (B := B') g1 g2, vu_nd1 g1 g2, vr_nd1 (B := B') g1 g2, vu_nd2 g1 g2, vr_nd2 (B := B') g1 g2, vu_nd3 g1 g2, vr_nd3 (B := B') g1 g2]
theorem vw_cpR {B B' k : Nat} (g1 : 1 ≤ k) (g2 : k ≤ 8) (m : e_Tb) : vw B (cpR m (rg B k) (rg B' k)) = chR (vw B m) (vw B' m k) k := by
  unfold cpR chR
  simp only [vu_rg0 g1 g2, vr_rg0 (B := B') g1 g2, vu_rg1 g1 g2, vr_rg1 (B := B') g1 g2, vu_rg2 g1 g2, vr_rg2 (B := B') g1 g2, vu_rg3 g1 g2, vr_rg3 (B := B') g1 g2, vu_rg4 g1 g2, vr_rg4 (B := B') g1 g2, vu_rg5 g1 g2, vr_rg5 (B := B') g1 g2, vu_rg6 g1 g2, vr_rg6 (B := B') g1 g2, vu_rg7 g1 g2, vr_rg7 (B := B') g1 g2, vu_rg8 g1 g2, vr_rg8 (B := B') g1 g2, vu_rg9 g1 g2, vr_rg9 (B := B') g1 g2, vu_rg10 g1 g2, vr_rg10 (B := B') g1 g2, vu_rg11 g1 g2, vr_rg11 (B := B') g1 g2]
theorem vw_cpB {B B' k : Nat} (g1 : 1 ≤ k) (g2 : k ≤ 8) (m : e_Tb) : vw B (cpB m (bk B k) (bk B' k)) = chB (vw B m) (vw B' m k) k := by
  unfold cpB chB
  simp only [vu_bk0 g1 g2, vr_bk0 (B := B') g1 g2, vu_bk1 g1 g2, vr_bk1 (B := B') g1 g2, vu_bk2 g1 g2, vr_bk2 (B := B') g1 g2, vu_bk3 g1 g2, vr_bk3 (B := B') g1 g2, vu_bk4 g1 g2, vr_bk4 (B := B') g1 g2, vu_bk5 g1 g2, vr_bk5 (B := B') g1 g2, vu_bk6 g1 g2, vr_bk6 (B := B') g1 g2, vu_bk7 g1 g2, vr_bk7 (B := B') g1 g2]
theorem ch_row {w : e_Tb} {r : Nat → Int32} {k : Nat} : chB (chR (chN w r k) r k) r k = fun k' j => if k' = k ∧ j < 24 then r j else w k' j := by
  funext k' j
  unfold chB chR chN e_set
  by_cases hk : k' = k
  · subst hk
    match j with
    | 0 => simp
    | 1 => simp
    | 2 => simp
    | 3 => simp
    | 4 => simp
    | 5 => simp
    | 6 => simp
    | 7 => simp
    | 8 => simp
    | 9 => simp
    | 10 => simp
    | 11 => simp
    | 12 => simp
    | 13 => simp
    | 14 => simp
    | 15 => simp
    | 16 => simp
    | 17 => simp
    | 18 => simp
    | 19 => simp
    | 20 => simp
    | 21 => simp
    | 22 => simp
    | 23 => simp
    | j + 24 =>
      simp
      intro h
      omega
  · simp [hk]
theorem vw_hi {B : Nat} {m : e_Tb} {k j : Nat} (h : ¬ e_val k j) : vw B m k j = 0 := by
  unfold vw
  rw [if_neg (fun q => h (e_valb_iff.mp q))]
section P24
variable {xs : Nat → Int32} {L : Nat} {Q : e_Rs → Prop} {sv : Nat → Nat}
theorem c_X0_copyFrom {m : e_Tb} {r : Nat → Nat → Nat} {q x : Nat} (hq : e_okc q 0 = true) (hx : e_okc x 0 = true) (ne : ¬ x = q) (b0 : e_01 (m x 0)) (b6 : e_01 (m x 6)) :
    Wp xs L kX0_copyFrom_0 [(0, .ref q), (1, .ref x)] [] (173, m, r) Q = Q (none, (173, cpB m q x, r)) := by
  have ec : ∀ (u : e_Tb) (s : Nat) (v : Int32) (s' : Nat), e_set u q s v x s' = u x s' := fun u s v s' => e_set_cell ne
  simp only [r_aload_n, r_getf0, r_getf1, r_getf2, r_nop, r_putf0, r_putf1, r_ret, kX0_copyFrom_0, lX0_copyFrom_0, sl_n, sl_i, sl_r, sl_l, e_wi_s, e_wr_s, e_wl_s, e_lk, e_sto, e_ok, e_no, e_isL, Option.toList_some, Option.toList_none, List.cons_append, List.nil_append, List.length_cons, List.length_nil, Bool.not_false, Bool.not_true, Bool.and_true, Bool.true_and, Bool.false_and, Bool.and_false, Bool.and_self, Nat.reduceBEq, Nat.reduceAdd, Nat.reduceEqDiff, Nat.reduceLeDiff, Nat.reduceLT, Nat.zero_le, Nat.le_refl, if_true, if_false, ite_true, ite_false, true_and, and_true, true_or, or_true, not_false_eq_true, not_true_eq_false, e_set_self, Nat.succ_ne_zero, eq_self, hq, hx, ec, b0, b6, cpB, e_set_slot, zero_01, one_01, e_b_0, e_b_01, or_self, or_false, false_or, R_1_0, R_1_1, R_1_2, R_1_3, R_1_4, R_1_5, R_1_6, R_32_0, R_32_1, R_32_2, R_36_0, R_36_1, R_36_2, R_36_3, R_37_0, R_37_1, R_37_2, R_68_0, R_70_0, R_164_0, R_164_1, R_164_3, R_164_5, R_164_6, R_164_7, R_164_8, R_164_10, R_164_11, R_2_4, R_2_5, ok_1, ok_32, ok_36, ok_37, ok_68, ok_70, ok_164, ok_2, ok_3, sz_3, ok_4, sz_4, ok_33, sz_33, ok_34, sz_34, ok_35, sz_35, ok_38, sz_38, ok_39, sz_39, ok_40, sz_40, ok_41, sz_41, ok_66, sz_66, ok_67, sz_67, ok_69, sz_69, ok_71, sz_71, ok_162, sz_162, ok_163, sz_163, ok_165, sz_165, ok_166, sz_166, ok_167, sz_167, ok_168, sz_168, ok_169, sz_169, ok_170, sz_170, ok_171, sz_171, ok_172, sz_172, ok_173, sz_173, tn_0, tn_1, tn_2, tn_3, tn_4, tn_5, tn_6, tn_7, tn_8, tn_9, tn_10, tn_11, tn_12, tn_13, tn_14, tn_15, tn_16, tn_17, tn_18, tn_19, tn_20, tn_21, tn_22, tn_23, tn_24, tn_25, tn_26, tn_27, in_0, in_1, in_2, in_3, in_4, in_5, in_6, in_7, in_8, in_9, in_10, in_11, in_12, in_13, in_14, in_15, in_16, in_17, in_18, in_19, in_20, in_21, in_22, in_23, in_24, in_25, in_26, in_27, e_rf_s]
theorem c_X7_copyFrom {m : e_Tb} {r : Nat → Nat → Nat} {q x : Nat} (hq : e_okc q 7 = true) (hx : e_okc x 7 = true) (ne : ¬ x = q) (b0 : e_01 (m x 0)) (b4 : e_01 (m x 4)) (b8 : e_01 (m x 8)) :
    Wp xs L kX7_copyFrom_0 [(0, .ref q), (1, .ref x)] [] (173, m, r) Q = Q (none, (173, cpR m q x, r)) := by
  have ec : ∀ (u : e_Tb) (s : Nat) (v : Int32) (s' : Nat), e_set u q s v x s' = u x s' := fun u s v s' => e_set_cell ne
  simp only [r_aload_n, r_getf0, r_getf1, r_getf2, r_nop, r_putf0, r_putf1, r_ret, kX7_copyFrom_0, lX7_copyFrom_0, sl_n, sl_i, sl_r, sl_l, e_wi_s, e_wr_s, e_wl_s, e_lk, e_sto, e_ok, e_no, e_isL, Option.toList_some, Option.toList_none, List.cons_append, List.nil_append, List.length_cons, List.length_nil, Bool.not_false, Bool.not_true, Bool.and_true, Bool.true_and, Bool.false_and, Bool.and_false, Bool.and_self, Nat.reduceBEq, Nat.reduceAdd, Nat.reduceEqDiff, Nat.reduceLeDiff, Nat.reduceLT, Nat.zero_le, Nat.le_refl, if_true, if_false, ite_true, ite_false, true_and, and_true, true_or, or_true, not_false_eq_true, not_true_eq_false, e_set_self, Nat.succ_ne_zero, eq_self, hq, hx, ec, b0, b4, b8, cpR, e_set_slot, zero_01, one_01, e_b_0, e_b_01, or_self, or_false, false_or, R_1_0, R_1_1, R_1_2, R_1_3, R_1_4, R_1_5, R_1_6, R_32_0, R_32_1, R_32_2, R_36_0, R_36_1, R_36_2, R_36_3, R_37_0, R_37_1, R_37_2, R_68_0, R_70_0, R_164_0, R_164_1, R_164_3, R_164_5, R_164_6, R_164_7, R_164_8, R_164_10, R_164_11, R_2_4, R_2_5, ok_1, ok_32, ok_36, ok_37, ok_68, ok_70, ok_164, ok_2, ok_3, sz_3, ok_4, sz_4, ok_33, sz_33, ok_34, sz_34, ok_35, sz_35, ok_38, sz_38, ok_39, sz_39, ok_40, sz_40, ok_41, sz_41, ok_66, sz_66, ok_67, sz_67, ok_69, sz_69, ok_71, sz_71, ok_162, sz_162, ok_163, sz_163, ok_165, sz_165, ok_166, sz_166, ok_167, sz_167, ok_168, sz_168, ok_169, sz_169, ok_170, sz_170, ok_171, sz_171, ok_172, sz_172, ok_173, sz_173, tn_0, tn_1, tn_2, tn_3, tn_4, tn_5, tn_6, tn_7, tn_8, tn_9, tn_10, tn_11, tn_12, tn_13, tn_14, tn_15, tn_16, tn_17, tn_18, tn_19, tn_20, tn_21, tn_22, tn_23, tn_24, tn_25, tn_26, tn_27, in_0, in_1, in_2, in_3, in_4, in_5, in_6, in_7, in_8, in_9, in_10, in_11, in_12, in_13, in_14, in_15, in_16, in_17, in_18, in_19, in_20, in_21, in_22, in_23, in_24, in_25, in_26, in_27, e_rf_s]
def rb (r : Nat → Int32) : Prop := e_01 (r 4) ∧ e_01 (r 8) ∧ e_01 (r 14) ∧ e_01 (r 16) ∧ e_01 (r 23)
theorem c_X4_copyFrom {m : e_Tb} {B B' k : Nat} (hB : e_fb B) (hB' : e_fb B') (hne : B' ≠ B) (g1 : 1 ≤ k) (g2 : k ≤ 8) (hb : rb (vw B' m k))
    (hQ : ∀ m', Fb B m m' → (vw B m' = fun k' j => if k' = k ∧ j < 24 then vw B' m k j else vw B m k' j) → Q (none, (173, m', e_rs sv))) :
    Wp xs L kX4_copyFrom_0 [(0, .ref (nd B k)), (1, .ref (nd B' k))] [] (173, m, e_rs sv) Q := by
  have hk9 : k < 9 := by omega
  have hd := fb_ne hB hB' hne
  have n1 : ¬ nd B' k = nd B k := by unfold nd; omega
  have n2 : ¬ rg B' k = rg B k := by unfold rg; omega
  have n3 : ¬ bk B' k = bk B k := by unfold bk; omega
  have o1 := ok_nd hB hk9
  have o2 := ok_rg hB hk9
  have o3 := ok_bk hB hk9
  have p1 := ok_nd hB' hk9
  have p2 := ok_rg hB' hk9
  have p3 := ok_bk hB' hk9
  have r4 := R_nd4 sv hB hk9
  have r5 := R_nd5 sv hB hk9
  have q4 := R_nd4 sv hB' hk9
  have q5 := R_nd5 sv hB' hk9
  have ec : ∀ (u : e_Tb) (s : Nat) (v : Int32) (s' : Nat), e_set u (nd B k) s v (nd B' k) s' = u (nd B' k) s' := fun u s v s' => e_set_cell n1
  have f1 : Fb B m (cpN m (nd B k) (nd B' k)) := cpN_fb m g2
  have v1 := f1.vw hB hB' hne
  have f2 : Fb B (cpN m (nd B k) (nd B' k)) (cpR (cpN m (nd B k) (nd B' k)) (rg B k) (rg B' k)) := cpR_fb _ g2
  have v2 := f2.vw hB hB' hne
  have f3 : Fb B (cpR (cpN m (nd B k) (nd B' k)) (rg B k) (rg B' k)) (cpB (cpR (cpN m (nd B k) (nd B' k)) (rg B k) (rg B' k)) (bk B k) (bk B' k)) := cpB_fb _ g2
  have e := hQ _ ((f1.tr f2).tr f3) (by
    rw [vw_cpB g1 g2, vw_cpR g1 g2, vw_cpN g1 g2, v2, v1, ch_row])
  obtain ⟨b1, b2, b3, b4, b5⟩ := hb
  have c0 : e_01 (cpN m (nd B k) (nd B' k) (rg B' k) 0) := by rw [← vr_rg0 (B := B') (m := cpN m (nd B k) (nd B' k)) g1 g2, v1]; exact b1
  have c4 : e_01 (cpN m (nd B k) (nd B' k) (rg B' k) 4) := by rw [← vr_rg4 (B := B') (m := cpN m (nd B k) (nd B' k)) g1 g2, v1]; exact b2
  have c8 : e_01 (cpN m (nd B k) (nd B' k) (rg B' k) 8) := by rw [← vr_rg8 (B := B') (m := cpN m (nd B k) (nd B' k)) g1 g2, v1]; exact b3
  have d0 : e_01 (cpR (cpN m (nd B k) (nd B' k)) (rg B k) (rg B' k) (bk B' k) 0) := by rw [← vr_bk0 (B := B') (m := cpR (cpN m (nd B k) (nd B' k)) (rg B k) (rg B' k)) g1 g2, v2, v1]; exact b4
  have d6 : e_01 (cpR (cpN m (nd B k) (nd B' k)) (rg B k) (rg B' k) (bk B' k) 6) := by rw [← vr_bk6 (B := B') (m := cpR (cpN m (nd B k) (nd B' k)) (rg B k) (rg B' k)) g1 g2, v2, v1]; exact b5
  have k7 := fun Q' : e_Rs → Prop => c_X7_copyFrom (xs := xs) (L := L) (Q := Q') (r := e_rs sv) o2 p2 n2 c0 c4 c8
  have k0 := fun Q' : e_Rs → Prop => c_X0_copyFrom (xs := xs) (L := L) (Q := Q') (r := e_rs sv) o3 p3 n3 d0 d6
  unfold cpN at k7
  unfold cpN at k0
  unfold cpN at e
  simp only [r_aload_n, r_getf0, r_getf1, r_getf2, r_nop, r_putf0, r_putf1, r_ret, kX4_copyFrom_0, lX4_copyFrom_0, vX0_copyFrom, vX7_copyFrom, sl_n, sl_i, sl_r, sl_l, e_wi_s, e_wr_s, e_wl_s, e_lk, e_sto, e_ok, e_no, e_isL, Option.toList_some, Option.toList_none, List.cons_append, List.nil_append, List.length_cons, List.length_nil, Bool.not_false, Bool.not_true, Bool.and_true, Bool.true_and, Bool.false_and, Bool.and_false, Bool.and_self, Nat.reduceBEq, Nat.reduceAdd, Nat.reduceEqDiff, Nat.reduceLeDiff, Nat.reduceLT, Nat.zero_le, Nat.le_refl, if_true, if_false, ite_true, ite_false, true_and, and_true, true_or, or_true, not_false_eq_true, not_true_eq_false, e_set_self, Nat.succ_ne_zero, eq_self, o1, o2, o3, p1, p2, p3, r4, r5, q4, q5, ec, e_rf_nd, e_rf_rg, e_rf_bk, k7, k0, e_set_slot, zero_01, one_01, e_b_0, e_b_01, or_self, or_false, false_or, R_1_0, R_1_1, R_1_2, R_1_3, R_1_4, R_1_5, R_1_6, R_32_0, R_32_1, R_32_2, R_36_0, R_36_1, R_36_2, R_36_3, R_37_0, R_37_1, R_37_2, R_68_0, R_70_0, R_164_0, R_164_1, R_164_3, R_164_5, R_164_6, R_164_7, R_164_8, R_164_10, R_164_11, R_2_4, R_2_5, ok_1, ok_32, ok_36, ok_37, ok_68, ok_70, ok_164, ok_2, ok_3, sz_3, ok_4, sz_4, ok_33, sz_33, ok_34, sz_34, ok_35, sz_35, ok_38, sz_38, ok_39, sz_39, ok_40, sz_40, ok_41, sz_41, ok_66, sz_66, ok_67, sz_67, ok_69, sz_69, ok_71, sz_71, ok_162, sz_162, ok_163, sz_163, ok_165, sz_165, ok_166, sz_166, ok_167, sz_167, ok_168, sz_168, ok_169, sz_169, ok_170, sz_170, ok_171, sz_171, ok_172, sz_172, ok_173, sz_173, tn_0, tn_1, tn_2, tn_3, tn_4, tn_5, tn_6, tn_7, tn_8, tn_9, tn_10, tn_11, tn_12, tn_13, tn_14, tn_15, tn_16, tn_17, tn_18, tn_19, tn_20, tn_21, tn_22, tn_23, tn_24, tn_25, tn_26, tn_27, in_0, in_1, in_2, in_3, in_4, in_5, in_6, in_7, in_8, in_9, in_10, in_11, in_12, in_13, in_14, in_15, in_16, in_17, in_18, in_19, in_20, in_21, in_22, in_23, in_24, in_25, in_26, in_27, e_rf_s]
  exact e
def cpF (m : e_Tb) (B B' : Nat) : e_Tb := e_cpy (e_set (e_set (e_set (e_set m B 0 (m B' 0)) B 1 (m B' 1)) B 2 (m B' 2)) B 3 (m B' 3)) (B' + 1) 0 (B + 1) 0 24
theorem cpF_fb {m : e_Tb} {B B' : Nat} : Fb B m (cpF m B B') := by
  have f : Fb B m (e_set (e_set (e_set (e_set m B 0 (m B' 0)) B 1 (m B' 1)) B 2 (m B' 2)) B 3 (m B' 3)) := (((Fb.rf.set (Nat.le_refl _) (by omega)).set (Nat.le_refl _) (by omega)).set (Nat.le_refl _) (by omega)).set (Nat.le_refl _) (by omega)
  intro c hc
  rw [← f c hc]
  funext s
  unfold cpF e_cpy
  rw [if_neg (by omega)]
theorem cpF_vw {m : e_Tb} {B B' : Nat} (hB : e_fb B) (hB' : e_fb B') (hne : B' ≠ B) : vw B (cpF m B B') = fun k j => if k ≤ 0 then vw B' m k j else vw B m k j := by
  have hd := fb_ne hB hB' hne
  funext k j
  by_cases hv : e_val k j
  · rcases hv with ⟨rfl, hj⟩ | ⟨h1, h2, hj⟩
    · rw [if_pos (Nat.le_refl _)]
      by_cases h4 : j < 4
      · have : j = 0 ∨ j = 1 ∨ j = 2 ∨ j = 3 := by omega
        have eF : ∀ s, cpF m B B' B s = e_set (e_set (e_set (e_set m B 0 (m B' 0)) B 1 (m B' 1)) B 2 (m B' 2)) B 3 (m B' 3) B s := fun s => by
          unfold cpF e_cpy
          rw [if_neg (by omega)]
        rcases this with rfl | rfl | rfl | rfl
        · rw [vr_g0, vr_g0, eF]; simp [e_set]
        · rw [vr_g1, vr_g1, eF]; simp [e_set]
        · rw [vr_g3, vr_g3, eF]; simp [e_set]
        · rw [vr_g2, vr_g2, eF]; simp [e_set]
      · obtain ⟨h, rfl⟩ : ∃ h, j = 4 + h := ⟨j - 4, by omega⟩
        rw [vr_f (by omega), vr_f (by omega)]
        unfold cpF e_cpy
        rw [if_pos (by omega), e_set_cell (by omega), e_set_cell (by omega), e_set_cell (by omega), e_set_cell (by omega)]
        congr 1
        omega
    · rw [if_neg (by omega)]
      unfold vw
      have hc : B + 1 < vl B k j := by
        unfold vl nd rg bk
        rw [if_neg (by omega)]
        split
        · omega
        · split <;> omega
      split
      · unfold cpF e_cpy
        rw [if_neg (by omega), e_set_cell (by omega), e_set_cell (by omega), e_set_cell (by omega), e_set_cell (by omega)]
      · rfl
  · rw [vw_hi hv, vw_hi hv, vw_hi hv, ite_self]
theorem lp_copyFrom {B B' : Nat} (hB : e_fb B) (hB' : e_fb B') (hne : B' ≠ B) {m0 : e_Tb} (hb : ∀ k, 1 ≤ k → k ≤ 8 → rb (vw B' m0 k)) : ∀ (d i : Nat), i + d = 8 → ∀ m, Fb B m0 m → (vw B m = fun k j => if k ≤ i then vw B' m0 k j else vw B m0 k j) →
    (∀ m', Fb B m0 m' → vw B m' = vw B' m0 → Q (none, (173, m', e_rs sv))) →
    Wp xs L kX1_copyFrom_49 [(0, .ref B), (1, .ref B'), (2, .int (nI (i + 1)))] [] (173, m, e_rs sv) Q
  | 0, i, hi, m, hm, hv, hQ => by
    have hin : i = 8 := by omega
    subst hin
    have e1 : (8 < nI (8 + 1)) = True := by decide
    have fin := hQ m hm (by
      rw [hv]
      funext k j
      by_cases h : k ≤ 8
      · rw [if_pos h]
      · rw [if_neg h, vw_hi (by unfold e_val; omega), vw_hi (by unfold e_val; omega)])
    rw [kX1_copyFrom_49]
    simp only [r_aald12, r_aald13, r_aald14, r_aload_n, r_bipush, r_copy, r_fmod, r_getf0, r_getf1, r_getf2, r_goto, r_ic_gt, r_iconst, r_iinc, r_iload_n, r_istore_n, r_mabs, r_mmax, r_mmin, r_nop, r_putf0, r_putf1, r_ret, kX1_copyFrom_0, kX1_copyFrom_76, lX1_copyFrom_0, lX1_copyFrom_49, lX1_copyFrom_76, vX4_copyFrom, sl_n, sl_i, sl_r, sl_l, e_wi_s, e_wr_s, e_wl_s, e_lk, e_sto, e_ok, e_no, e_isL, Option.toList_some, Option.toList_none, List.cons_append, List.nil_append, List.length_cons, List.length_nil, Bool.not_false, Bool.not_true, Bool.and_true, Bool.true_and, Bool.false_and, Bool.and_false, Bool.and_self, Nat.reduceBEq, Nat.reduceAdd, Nat.reduceEqDiff, Nat.reduceLeDiff, Nat.reduceLT, Nat.zero_le, Nat.le_refl, if_true, if_false, ite_true, ite_false, true_and, and_true, true_or, or_true, not_false_eq_true, not_true_eq_false, e_set_self, Nat.succ_ne_zero, eq_self, e1, e_set_slot, zero_01, one_01, e_b_0, e_b_01, or_self, or_false, false_or, R_1_0, R_1_1, R_1_2, R_1_3, R_1_4, R_1_5, R_1_6, R_32_0, R_32_1, R_32_2, R_36_0, R_36_1, R_36_2, R_36_3, R_37_0, R_37_1, R_37_2, R_68_0, R_70_0, R_164_0, R_164_1, R_164_3, R_164_5, R_164_6, R_164_7, R_164_8, R_164_10, R_164_11, R_2_4, R_2_5, ok_1, ok_32, ok_36, ok_37, ok_68, ok_70, ok_164, ok_2, ok_3, sz_3, ok_4, sz_4, ok_33, sz_33, ok_34, sz_34, ok_35, sz_35, ok_38, sz_38, ok_39, sz_39, ok_40, sz_40, ok_41, sz_41, ok_66, sz_66, ok_67, sz_67, ok_69, sz_69, ok_71, sz_71, ok_162, sz_162, ok_163, sz_163, ok_165, sz_165, ok_166, sz_166, ok_167, sz_167, ok_168, sz_168, ok_169, sz_169, ok_170, sz_170, ok_171, sz_171, ok_172, sz_172, ok_173, sz_173, tn_0, tn_1, tn_2, tn_3, tn_4, tn_5, tn_6, tn_7, tn_8, tn_9, tn_10, tn_11, tn_12, tn_13, tn_14, tn_15, tn_16, tn_17, tn_18, tn_19, tn_20, tn_21, tn_22, tn_23, tn_24, tn_25, tn_26, tn_27, in_0, in_1, in_2, in_3, in_4, in_5, in_6, in_7, in_8, in_9, in_10, in_11, in_12, in_13, in_14, in_15, in_16, in_17, in_18, in_19, in_20, in_21, in_22, in_23, in_24, in_25, in_26, in_27, e_rf_s]
    exact fin
  | d + 1, i, hi, m, hm, hv, hQ => by
    have e1 : (8 < nI (i + 1)) = False := eq_false (by
      have h8 : (8 : Int32) = nI 8 := rfl
      rw [h8]
      exact nI_nlt (by omega) (by omega))
    have hk9 : i + 1 < 9 := by omega
    have i1 : e_in (nI (i + 1)) 9 = true := e_in_nI (by omega) (by omega)
    have i2 : (nI (i + 1)).toNatClampNeg = i + 1 := nI_nat (by omega)
    have i3 : nI (i + 1) + 1 = nI (i + 1 + 1) := nI_1 (i + 1)
    have g1 : 1 ≤ i + 1 := by omega
    have g2 : i + 1 ≤ 8 := by omega
    have o1 := ok_fb hB
    have o2 := ok_fb hB'
    have o3 := ok_fb2 hB
    have o4 := ok_fb2 hB'
    have z1 := sz_fb2 hB
    have z2 := sz_fb2 hB'
    have r1 := R_fb5 sv hB
    have r2 := R_fb5 sv hB'
    have r3 := R_fbn sv hB hk9
    have r4 := R_fbn sv hB' hk9
    have o5 := ok_nd hB hk9
    have o6 := ok_nd hB' hk9
    have v' := hm.vw hB hB' hne
    have key := fun m' h1 h2 => lp_copyFrom hB hB' hne hb d (i + 1) (by omega) m' h1 h2 hQ
    have bb : rb (vw B' m (i + 1)) := by rw [v']; exact hb _ g1 g2
    have nz1 : e_rf (B + 2) = .ref (B + 2) := rfl
    have nz2 : e_rf (B' + 2) = .ref (B' + 2) := rfl
    rw [kX1_copyFrom_49]
    simp only [r_aald12, r_aald13, r_aald14, r_aload_n, r_bipush, r_copy, r_fmod, r_getf0, r_getf1, r_getf2, r_goto, r_ic_gt, r_iconst, r_iinc, r_iload_n, r_istore_n, r_mabs, r_mmax, r_mmin, r_nop, r_putf0, r_putf1, r_ret, kX1_copyFrom_0, kX1_copyFrom_76, lX1_copyFrom_0, lX1_copyFrom_49, lX1_copyFrom_76, vX4_copyFrom, sl_n, sl_i, sl_r, sl_l, e_wi_s, e_wr_s, e_wl_s, e_lk, e_sto, e_ok, e_no, e_isL, Option.toList_some, Option.toList_none, List.cons_append, List.nil_append, List.length_cons, List.length_nil, Bool.not_false, Bool.not_true, Bool.and_true, Bool.true_and, Bool.false_and, Bool.and_false, Bool.and_self, Nat.reduceBEq, Nat.reduceAdd, Nat.reduceEqDiff, Nat.reduceLeDiff, Nat.reduceLT, Nat.zero_le, Nat.le_refl, if_true, if_false, ite_true, ite_false, true_and, and_true, true_or, or_true, not_false_eq_true, not_true_eq_false, e_set_self, Nat.succ_ne_zero, eq_self, e1, i1, i2, i3, o1, o2, o3, o4, o5, o6, z1, z2, r1, r2, r3, r4, nz1, nz2, e_rf_nd, e_set_slot, zero_01, one_01, e_b_0, e_b_01, or_self, or_false, false_or, R_1_0, R_1_1, R_1_2, R_1_3, R_1_4, R_1_5, R_1_6, R_32_0, R_32_1, R_32_2, R_36_0, R_36_1, R_36_2, R_36_3, R_37_0, R_37_1, R_37_2, R_68_0, R_70_0, R_164_0, R_164_1, R_164_3, R_164_5, R_164_6, R_164_7, R_164_8, R_164_10, R_164_11, R_2_4, R_2_5, ok_1, ok_32, ok_36, ok_37, ok_68, ok_70, ok_164, ok_2, ok_3, sz_3, ok_4, sz_4, ok_33, sz_33, ok_34, sz_34, ok_35, sz_35, ok_38, sz_38, ok_39, sz_39, ok_40, sz_40, ok_41, sz_41, ok_66, sz_66, ok_67, sz_67, ok_69, sz_69, ok_71, sz_71, ok_162, sz_162, ok_163, sz_163, ok_165, sz_165, ok_166, sz_166, ok_167, sz_167, ok_168, sz_168, ok_169, sz_169, ok_170, sz_170, ok_171, sz_171, ok_172, sz_172, ok_173, sz_173, tn_0, tn_1, tn_2, tn_3, tn_4, tn_5, tn_6, tn_7, tn_8, tn_9, tn_10, tn_11, tn_12, tn_13, tn_14, tn_15, tn_16, tn_17, tn_18, tn_19, tn_20, tn_21, tn_22, tn_23, tn_24, tn_25, tn_26, tn_27, in_0, in_1, in_2, in_3, in_4, in_5, in_6, in_7, in_8, in_9, in_10, in_11, in_12, in_13, in_14, in_15, in_16, in_17, in_18, in_19, in_20, in_21, in_22, in_23, in_24, in_25, in_26, in_27, e_rf_s]
    refine c_X4_copyFrom hB hB' hne g1 g2 bb (fun m' f1 v1 => ?_)
    have k := key m' (hm.tr f1) (by
      rw [v1, hv, v']
      funext k j
      dsimp only
      by_cases h : k = i + 1
      · subst h
        by_cases hj : j < 24
        · rw [if_pos ⟨rfl, hj⟩, if_pos (Nat.le_refl _)]
        · rw [if_neg (fun h => hj h.2), if_pos (Nat.le_refl _), if_neg (by omega), vw_hi (by unfold e_val; omega), vw_hi (by unfold e_val; omega)]
      · rw [if_neg (fun q => h q.1)]
        by_cases h2 : k ≤ i
        · rw [if_pos h2, if_pos (by omega)]
        · rw [if_neg h2, if_neg (by omega)])
    simp only [r_aald12, r_aald13, r_aald14, r_aload_n, r_bipush, r_copy, r_fmod, r_getf0, r_getf1, r_getf2, r_goto, r_ic_gt, r_iconst, r_iinc, r_iload_n, r_istore_n, r_mabs, r_mmax, r_mmin, r_nop, r_putf0, r_putf1, r_ret, kX1_copyFrom_0, kX1_copyFrom_76, lX1_copyFrom_0, lX1_copyFrom_49, lX1_copyFrom_76, vX4_copyFrom, sl_n, sl_i, sl_r, sl_l, e_wi_s, e_wr_s, e_wl_s, e_lk, e_sto, e_ok, e_no, e_isL, Option.toList_some, Option.toList_none, List.cons_append, List.nil_append, List.length_cons, List.length_nil, Bool.not_false, Bool.not_true, Bool.and_true, Bool.true_and, Bool.false_and, Bool.and_false, Bool.and_self, Nat.reduceBEq, Nat.reduceAdd, Nat.reduceEqDiff, Nat.reduceLeDiff, Nat.reduceLT, Nat.zero_le, Nat.le_refl, if_true, if_false, ite_true, ite_false, true_and, and_true, true_or, or_true, not_false_eq_true, not_true_eq_false, e_set_self, Nat.succ_ne_zero, eq_self, i3, e_set_slot, zero_01, one_01, e_b_0, e_b_01, or_self, or_false, false_or, R_1_0, R_1_1, R_1_2, R_1_3, R_1_4, R_1_5, R_1_6, R_32_0, R_32_1, R_32_2, R_36_0, R_36_1, R_36_2, R_36_3, R_37_0, R_37_1, R_37_2, R_68_0, R_70_0, R_164_0, R_164_1, R_164_3, R_164_5, R_164_6, R_164_7, R_164_8, R_164_10, R_164_11, R_2_4, R_2_5, ok_1, ok_32, ok_36, ok_37, ok_68, ok_70, ok_164, ok_2, ok_3, sz_3, ok_4, sz_4, ok_33, sz_33, ok_34, sz_34, ok_35, sz_35, ok_38, sz_38, ok_39, sz_39, ok_40, sz_40, ok_41, sz_41, ok_66, sz_66, ok_67, sz_67, ok_69, sz_69, ok_71, sz_71, ok_162, sz_162, ok_163, sz_163, ok_165, sz_165, ok_166, sz_166, ok_167, sz_167, ok_168, sz_168, ok_169, sz_169, ok_170, sz_170, ok_171, sz_171, ok_172, sz_172, ok_173, sz_173, tn_0, tn_1, tn_2, tn_3, tn_4, tn_5, tn_6, tn_7, tn_8, tn_9, tn_10, tn_11, tn_12, tn_13, tn_14, tn_15, tn_16, tn_17, tn_18, tn_19, tn_20, tn_21, tn_22, tn_23, tn_24, tn_25, tn_26, tn_27, in_0, in_1, in_2, in_3, in_4, in_5, in_6, in_7, in_8, in_9, in_10, in_11, in_12, in_13, in_14, in_15, in_16, in_17, in_18, in_19, in_20, in_21, in_22, in_23, in_24, in_25, in_26, in_27, e_rf_s]
    exact k
theorem c_X1_copyFrom {B B' : Nat} (hB : e_fb B) (hB' : e_fb B') (hne : B' ≠ B) {m : e_Tb} (hb : ∀ k, 1 ≤ k → k ≤ 8 → rb (vw B' m k)) (hQ : ∀ m', Fb B m m' → vw B m' = vw B' m → Q (none, (173, m', e_rs sv))) :
    Wp xs L kX1_copyFrom_0 [(0, .ref B), (1, .ref B')] [] (173, m, e_rs sv) Q := by
  have hne' : ¬ B' = B := hne
  have hd := fb_ne hB hB' hne
  have ec : ∀ (u : e_Tb) (s : Nat) (v : Int32) (s' : Nat), e_set u B s v B' s' = u B' s' := fun u s v s' => e_set_cell hne'
  have o1 := ok_fb hB
  have o2 := ok_fb hB'
  have o3 := ok_fb1 hB
  have o4 := ok_fb1 hB'
  have z1 := sz_fb1 hB
  have z2 := sz_fb1 hB'
  have r1 := R_fb4 sv hB
  have r2 := R_fb4 sv hB'
  have nz1 : e_rf (B + 1) = .ref (B + 1) := rfl
  have nz2 : e_rf (B' + 1) = .ref (B' + 1) := rfl
  have n24 : ¬ (24 : Int32) < 0 := by decide
  have c24 : (24 : Int32).toNatClampNeg = 24 := by decide
  have l24 : 24 ≤ 24 := Nat.le_refl _
  have key := lp_copyFrom (xs := xs) (L := L) (Q := Q) (sv := sv) hB hB' hne hb 8 0 (by omega) (cpF m B B') cpF_fb (cpF_vw hB hB' hne) hQ
  unfold cpF at key
  simp only [r_aald12, r_aald13, r_aald14, r_aload_n, r_bipush, r_copy, r_fmod, r_getf0, r_getf1, r_getf2, r_goto, r_ic_gt, r_iconst, r_iinc, r_iload_n, r_istore_n, r_mabs, r_mmax, r_mmin, r_nop, r_putf0, r_putf1, r_ret, kX1_copyFrom_0, kX1_copyFrom_76, lX1_copyFrom_0, lX1_copyFrom_49, lX1_copyFrom_76, vX4_copyFrom, sl_n, sl_i, sl_r, sl_l, e_wi_s, e_wr_s, e_wl_s, e_lk, e_sto, e_ok, e_no, e_isL, Option.toList_some, Option.toList_none, List.cons_append, List.nil_append, List.length_cons, List.length_nil, Bool.not_false, Bool.not_true, Bool.and_true, Bool.true_and, Bool.false_and, Bool.and_false, Bool.and_self, Nat.reduceBEq, Nat.reduceAdd, Nat.reduceEqDiff, Nat.reduceLeDiff, Nat.reduceLT, Nat.zero_le, Nat.le_refl, if_true, if_false, ite_true, ite_false, true_and, and_true, true_or, or_true, not_false_eq_true, not_true_eq_false, e_set_self, Nat.succ_ne_zero, eq_self, o1, o2, o3, o4, z1, z2, r1, r2, nz1, nz2, n24, c24, l24, ec, e_set_slot, zero_01, one_01, e_b_0, e_b_01, or_self, or_false, false_or, R_1_0, R_1_1, R_1_2, R_1_3, R_1_4, R_1_5, R_1_6, R_32_0, R_32_1, R_32_2, R_36_0, R_36_1, R_36_2, R_36_3, R_37_0, R_37_1, R_37_2, R_68_0, R_70_0, R_164_0, R_164_1, R_164_3, R_164_5, R_164_6, R_164_7, R_164_8, R_164_10, R_164_11, R_2_4, R_2_5, ok_1, ok_32, ok_36, ok_37, ok_68, ok_70, ok_164, ok_2, ok_3, sz_3, ok_4, sz_4, ok_33, sz_33, ok_34, sz_34, ok_35, sz_35, ok_38, sz_38, ok_39, sz_39, ok_40, sz_40, ok_41, sz_41, ok_66, sz_66, ok_67, sz_67, ok_69, sz_69, ok_71, sz_71, ok_162, sz_162, ok_163, sz_163, ok_165, sz_165, ok_166, sz_166, ok_167, sz_167, ok_168, sz_168, ok_169, sz_169, ok_170, sz_170, ok_171, sz_171, ok_172, sz_172, ok_173, sz_173, tn_0, tn_1, tn_2, tn_3, tn_4, tn_5, tn_6, tn_7, tn_8, tn_9, tn_10, tn_11, tn_12, tn_13, tn_14, tn_15, tn_16, tn_17, tn_18, tn_19, tn_20, tn_21, tn_22, tn_23, tn_24, tn_25, tn_26, tn_27, in_0, in_1, in_2, in_3, in_4, in_5, in_6, in_7, in_8, in_9, in_10, in_11, in_12, in_13, in_14, in_15, in_16, in_17, in_18, in_19, in_20, in_21, in_22, in_23, in_24, in_25, in_26, in_27, e_rf_s]
  exact key
end P24
