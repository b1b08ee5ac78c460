/-! flows and voltages: what they are, of a table; and that the class computes them -/
/-- the active load of the d nodes from node k on -/
def sP (w : Nat → Nat → Int32) (f : Int32) : Nat → Nat → Int32
  | 0, _ => 0
  | d + 1, k => sP w f d (k + 1) + w k 2 * f / 100
/-- what a bank takes off -/
def sSup (w : Nat → Nat → Int32) (h pl : Int32) (k : Nat) : Int32 := if (if ¬ pl = 0 ∧ ¬ w k 16 = 0 ∧ w k 18 = 1 then (if w k 19 < w k 20 then ¬ h < w k 19 ∧ h < w k 20 else ¬ h < w k 19 ∨ h < w k 20) else ¬ w k 23 = 0) then w k 17 else 0
def sQ (w : Nat → Nat → Int32) (f h pl : Int32) : Nat → Nat → Int32
  | 0, _ => 0
  | d + 1, k => sQ w f h pl d (k + 1) + (w k 3 * f / 100 - sSup w h pl k)
/-- the voltage of node k, regulator seg having the tap tp -/
def sV (w : Nat → Nat → Int32) (A R : Nat → Int32) (seg tp : Int32) : Nat → Int32
  | 0 => w 0 1
  | k + 1 => (let x := sV w A R seg tp k * (160 + (if nI (k + 1) = seg then tp else w (k + 1) 10)) / 160 - (w (k + 1) 0 * A (k + 1) + w (k + 1) 1 * R (k + 1)) / 100; if x < 0 then 0 else x)
/-- how many of the first k voltages are bad -/
def sB (V : Nat → Int32) : Nat → Int32
  | 0 => 0
  | k + 1 => sB V k + e_b (V (k + 1) < 9500 ∨ 10500 < V (k + 1))
theorem nI_lt1 {j : Nat} (h : j < 1000) : (nI (j + 1) < 1) = False := eq_false (by
  have h1 : (1 : Int32) = nI 1 := rfl
  rw [h1]
  exact nI_nlt (by omega) (by omega))
theorem nI_0_1 : (nI 0 < 1) = True := by decide
theorem e_fl_ok {fl : Nat} (h : fl = 32 ∨ fl = 37) : e_okc fl 2 = true ∧ e_okc (fl + 1) 10 = true ∧ e_okc (fl + 2) 10 = true ∧ e_okc (fl + 3) 10 = true ∧ e_sz (fl + 1) = 9 ∧ e_sz (fl + 2) = 9 ∧ e_sz (fl + 3) = 9 ∧ (∀ sv, e_rs sv fl 0 = fl + 1) ∧ (∀ sv, e_rs sv fl 1 = fl + 2) ∧ (∀ sv, e_rs sv fl 2 = fl + 3) := by
  rcases h with rfl | rfl <;> exact ⟨by decide, by decide, by decide, by decide, by decide, by decide, by decide, fun _ => rfl, fun _ => rfl, fun _ => rfl⟩
section P16
variable {xs : Nat → Int32} {L : Nat} {Q : e_Rs → Prop} {sv : Nat → Nat}
set_option maxHeartbeats 4000000 in
theorem lp_sumLoads {fl n : Nat} (hf : fl = 32 ∨ fl = 37) (hn : n ≤ 8) {m0 : Nat → Nat → Int32} {f h pl : Int32} : ∀ (j : Nat), j ≤ n → ∀ (m : Nat → Nat → Int32) (tl : e_Lv), (tl = [] ∨ ∃ z, tl = [(8, .ref z)]) →
    (∀ c, c ≠ fl + 1 → c ≠ fl + 2 → m c = m0 c) → (∀ k, j < k → k ≤ n → m (fl + 1) k = sP (vw 2 m0) f (n + 1 - k) k ∧ m (fl + 2) k = sQ (vw 2 m0) f h pl (n + 1 - k) k) →
    (∀ m', (∀ c, c ≠ fl + 1 → c ≠ fl + 2 → m' c = m0 c) → (∀ k, 0 < k → k ≤ n → m' (fl + 1) k = sP (vw 2 m0) f (n + 1 - k) k ∧ m' (fl + 2) k = sQ (vw 2 m0) f h pl (n + 1 - k) k) → Q (none, (173, m', e_rs sv))) →
    Wp xs L kX2_sumLoads_20 ([(0, .ref fl), (1, .ref (2 : Nat)), (2, .int h), (3, .int pl), (4, .int f), (5, .int (sP (vw 2 m0) f (n - j) (j + 1))), (6, .int (sQ (vw 2 m0) f h pl (n - j) (j + 1))), (7, .int (nI j))] ++ tl) [] (173, m, e_rs sv) Q
  | 0, _, m, tl, htl, hm, hk, hQ => by
    rw [kX2_sumLoads_20]
    have e1 := nI_0_1
    rcases htl with rfl | ⟨z, rfl⟩ <;> (simp only [r_aald12, r_aald13, r_aald14, r_aload, r_aload_n, r_astore, r_bipush, r_getf0, r_getf1, r_getf2, r_goto, r_iadd, r_iald, r_iast, r_ic_lt, r_iconst, r_idiv, r_iinc, r_iload, r_iload_n, r_imul, r_istore, r_isub, r_nop, r_ret, kX2_sumLoads_0, kX2_sumLoads_102, lX2_sumLoads_0, lX2_sumLoads_20, lX2_sumLoads_102, vX0_supply, sl_n, sl_i, sl_r, sl_l, e_wi_s, e_wr_s, e_wl_s, e_lk, e_sto, e_ok, e_no, e_isL, Option.toList_some, Option.toList_none, List.cons_append, List.nil_append, List.length_cons, List.length_nil, Bool.not_false, Bool.not_true, Bool.and_true, Bool.true_and, Bool.false_and, Bool.and_false, Bool.and_self, Nat.reduceBEq, Nat.reduceAdd, Nat.reduceEqDiff, Nat.reduceLeDiff, Nat.reduceLT, Nat.zero_le, Nat.le_refl, if_true, if_false, ite_true, ite_false, true_and, and_true, true_or, or_true, not_false_eq_true, not_true_eq_false, e_set_self, Nat.succ_ne_zero, eq_self, e1, e_set_slot, zero_01, one_01, e_b_0, e_b_01, or_self, or_false, false_or, R_1_0, R_1_1, R_1_2, R_1_3, R_1_4, R_1_5, R_1_6, R_32_0, R_32_1, R_32_2, R_36_0, R_36_1, R_36_2, R_36_3, R_37_0, R_37_1, R_37_2, R_68_0, R_70_0, R_164_0, R_164_1, R_164_3, R_164_5, R_164_6, R_164_7, R_164_8, R_164_10, R_164_11, R_2_4, R_2_5, ok_1, ok_32, ok_36, ok_37, ok_68, ok_70, ok_164, ok_2, ok_3, sz_3, ok_4, sz_4, ok_33, sz_33, ok_34, sz_34, ok_35, sz_35, ok_38, sz_38, ok_39, sz_39, ok_40, sz_40, ok_41, sz_41, ok_66, sz_66, ok_67, sz_67, ok_69, sz_69, ok_71, sz_71, ok_162, sz_162, ok_163, sz_163, ok_165, sz_165, ok_166, sz_166, ok_167, sz_167, ok_168, sz_168, ok_169, sz_169, ok_170, sz_170, ok_171, sz_171, ok_172, sz_172, ok_173, sz_173, tn_0, tn_1, tn_2, tn_3, tn_4, tn_5, tn_6, tn_7, tn_8, tn_9, tn_10, tn_11, tn_12, tn_13, tn_14, tn_15, tn_16, tn_17, tn_18, tn_19, tn_20, tn_21, tn_22, tn_23, tn_24, tn_25, tn_26, tn_27, in_0, in_1, in_2, in_3, in_4, in_5, in_6, in_7, in_8, in_9, in_10, in_11, in_12, in_13, in_14, in_15, in_16, in_17, in_18, in_19, in_20, in_21, in_22, in_23, in_24, in_25, in_26, in_27, e_rf_s]; exact hQ m hm hk)
  | j + 1, hj, m, tl, htl, hm, hk, hQ => by
    have e1 := nI_lt1 (j := j) (by omega)
    obtain ⟨f1, f2, f3, f4, f5, f6, f7, f8, f9, f10⟩ := e_fl_ok hf
    have hk9 : j + 1 < 9 := by omega
    have i1 : e_in (nI (j + 1)) 9 = true := e_in_nI (by omega) (by omega)
    have i2 : (nI (j + 1)).toNatClampNeg = j + 1 := nI_nat (by omega)
    have i3 : nI (j + 1) + -1 = nI j := pk_m1 j
    have c1 : m 2 = m0 2 := hm 2 (by omega) (by omega)
    have c2 : m (nd 2 (j + 1)) = m0 (nd 2 (j + 1)) := hm _ (by unfold nd; omega) (by unfold nd; omega)
    have c3 : m (bk 2 (j + 1)) = m0 (bk 2 (j + 1)) := hm _ (by unfold bk; omega) (by unfold bk; omega)
    have r4 := R_4 sv hk9
    have r5 := R_nd5 sv e_fb2 hk9
    have o1 := ok_nd e_fb2 hk9
    have o2 := ok_bk e_fb2 hk9
    have key := fun (m' : Nat → Nat → Int32) z h1 h2 => lp_sumLoads hf hn (m0 := m0) (f := f) (h := h) (pl := pl) j (by omega) m' [(8, .ref z)] (Or.inr ⟨z, rfl⟩) h1 h2 hQ
    have n0 : ¬ (100 : Int32) = 0 := by decide
    have eP : sP (vw 2 m0) f (n - (j + 1)) (j + 1 + 1) + m0 (nd 2 (j + 1)) 2 * f / 100 = sP (vw 2 m0) f (n - j) (j + 1) := by
      rw [show n - j = n - (j + 1) + 1 by omega]
      simp only [sP, vr_nd2 (B := 2) (m := m0) (show 1 ≤ j + 1 by omega) (show j + 1 ≤ 8 by omega)]
    have eQ : sQ (vw 2 m0) f h pl (n - (j + 1)) (j + 1 + 1) + (m0 (nd 2 (j + 1)) 3 * f / 100 - (if (if ¬ pl = 0 ∧ ¬ m0 (bk 2 (j + 1)) 0 = 0 ∧ m0 (bk 2 (j + 1)) 2 = 1 then (if m0 (bk 2 (j + 1)) 3 < m0 (bk 2 (j + 1)) 4 then ¬ h < m0 (bk 2 (j + 1)) 3 ∧ h < m0 (bk 2 (j + 1)) 4 else ¬ h < m0 (bk 2 (j + 1)) 3 ∨ h < m0 (bk 2 (j + 1)) 4) else ¬ m0 (bk 2 (j + 1)) 6 = 0) then m0 (bk 2 (j + 1)) 1 else 0)) = sQ (vw 2 m0) f h pl (n - j) (j + 1) := by
      rw [show n - j = n - (j + 1) + 1 by omega]
      have g1 : 1 ≤ j + 1 := by omega
      have g2 : j + 1 ≤ 8 := by omega
      simp only [sQ, sSup, vr_nd3 (B := 2) (m := m0) g1 g2, vr_bk0 (B := 2) (m := m0) g1 g2, vr_bk1 (B := 2) (m := m0) g1 g2, vr_bk2 (B := 2) (m := m0) g1 g2, vr_bk3 (B := 2) (m := m0) g1 g2, vr_bk4 (B := 2) (m := m0) g1 g2, vr_bk6 (B := 2) (m := m0) g1 g2]
    rw [kX2_sumLoads_20]
    rcases htl with rfl | ⟨z, rfl⟩ <;> (
      simp only [r_aald12, r_aald13, r_aald14, r_aload, r_aload_n, r_astore, r_bipush, r_getf0, r_getf1, r_getf2, r_goto, r_iadd, r_iald, r_iast, r_ic_lt, r_iconst, r_idiv, r_iinc, r_iload, r_iload_n, r_imul, r_istore, r_isub, r_nop, r_ret, kX2_sumLoads_0, kX2_sumLoads_102, lX2_sumLoads_0, lX2_sumLoads_20, lX2_sumLoads_102, vX0_supply, sl_n, sl_i, sl_r, sl_l, e_wi_s, e_wr_s, e_wl_s, e_lk, e_sto, e_ok, e_no, e_isL, Option.toList_some, Option.toList_none, List.cons_append, List.nil_append, List.length_cons, List.length_nil, Bool.not_false, Bool.not_true, Bool.and_true, Bool.true_and, Bool.false_and, Bool.and_false, Bool.and_self, Nat.reduceBEq, Nat.reduceAdd, Nat.reduceEqDiff, Nat.reduceLeDiff, Nat.reduceLT, Nat.zero_le, Nat.le_refl, if_true, if_false, ite_true, ite_false, true_and, and_true, true_or, or_true, not_false_eq_true, not_true_eq_false, e_set_self, Nat.succ_ne_zero, eq_self, e1, f1, f2, f3, f4, f5, f6, f7, f8, f9, f10, i1, i2, i3, c1, c2, c3, r4, r5, o1, o2, n0, e_rf_nd, e_rf_bk, c_X0_supply o2, eP, eQ, e_set_slot, zero_01, one_01, e_b_0, e_b_01, or_self, or_false, false_or, R_1_0, R_1_1, R_1_2, R_1_3, R_1_4, R_1_5, R_1_6, R_32_0, R_32_1, R_32_2, R_36_0, R_36_1, R_36_2, R_36_3, R_37_0, R_37_1, R_37_2, R_68_0, R_70_0, R_164_0, R_164_1, R_164_3, R_164_5, R_164_6, R_164_7, R_164_8, R_164_10, R_164_11, R_2_4, R_2_5, ok_1, ok_32, ok_36, ok_37, ok_68, ok_70, ok_164, ok_2, ok_3, sz_3, ok_4, sz_4, ok_33, sz_33, ok_34, sz_34, ok_35, sz_35, ok_38, sz_38, ok_39, sz_39, ok_40, sz_40, ok_41, sz_41, ok_66, sz_66, ok_67, sz_67, ok_69, sz_69, ok_71, sz_71, ok_162, sz_162, ok_163, sz_163, ok_165, sz_165, ok_166, sz_166, ok_167, sz_167, ok_168, sz_168, ok_169, sz_169, ok_170, sz_170, ok_171, sz_171, ok_172, sz_172, ok_173, sz_173, tn_0, tn_1, tn_2, tn_3, tn_4, tn_5, tn_6, tn_7, tn_8, tn_9, tn_10, tn_11, tn_12, tn_13, tn_14, tn_15, tn_16, tn_17, tn_18, tn_19, tn_20, tn_21, tn_22, tn_23, tn_24, tn_25, tn_26, tn_27, in_0, in_1, in_2, in_3, in_4, in_5, in_6, in_7, in_8, in_9, in_10, in_11, in_12, in_13, in_14, in_15, in_16, in_17, in_18, in_19, in_20, in_21, in_22, in_23, in_24, in_25, in_26, in_27, e_rf_s]
      refine key _ _ (fun c h1 h2 => ?_) (fun k h1 h2 => ?_)
      · funext k'
        rw [e_set_cell h2, e_set_cell h1, hm c h1 h2]
      · by_cases hkj : k = j + 1
        · subst hkj
          rw [e_set_self, e_set_cell (by omega), e_set_self, show n + 1 - (j + 1) = n - j by omega]
          exact ⟨rfl, rfl⟩
        · simp only [e_set_slot hkj]
          exact hk k (by omega) h2)
set_option maxHeartbeats 4000000 in
theorem lp_findVoltages {fl n : Nat} (hf : fl = 32 ∨ fl = 37) (hn : n ≤ 8) {m1 : Nat → Nat → Int32} {seg tp : Int32} (hc : m1 2 2 = nI n) : ∀ (d i : Nat), i + d = n → ∀ (m : Nat → Nat → Int32) (tl : e_Lv), (tl = [] ∨ ∃ a b c d, tl = [(6, .ref a), (7, .int b), (8, .int c), (9, .int d)]) →
    (∀ c, c ≠ fl + 3 → m c = m1 c) → (∀ k, k ≤ i → m (fl + 3) k = sV (vw 2 m1) (m1 (fl + 1)) (m1 (fl + 2)) seg tp k) →
    (∀ m', (∀ c, c ≠ fl + 3 → m' c = m1 c) → (∀ k, k ≤ n → m' (fl + 3) k = sV (vw 2 m1) (m1 (fl + 1)) (m1 (fl + 2)) seg tp k) → Q (none, (173, m', e_rs sv))) →
    Wp xs L kX2_findVoltages_17 ([(0, .ref fl), (1, .ref (2 : Nat)), (2, .int seg), (3, .int tp), (4, .int (sV (vw 2 m1) (m1 (fl + 1)) (m1 (fl + 2)) seg tp i)), (5, .int (nI (i + 1)))] ++ tl) [] (173, m, e_rs sv) Q
  | 0, i, hi, m, tl, htl, hm, hk, hQ => by
    have c1 : m 2 = m1 2 := hm 2 (by omega)
    have e1 : (nI n < nI (i + 1)) = True := eq_true (nI_lt (by omega) (by omega))
    rw [kX2_findVoltages_17]
    have hin : i = n := by omega
    rcases htl with rfl | ⟨a, b, c, d, rfl⟩ <;> (simp only [r_aald12, r_aald13, r_aald14, r_aload, r_aload_n, r_astore, r_bipush, r_copy, r_fmod, r_getf0, r_getf1, r_getf2, r_goto, r_iadd, r_iald, r_iast, r_ic_gt, r_ic_ne, r_iconst, r_idiv, r_iinc, r_iload, r_iload_n, r_imul, r_istore, r_isub, r_mabs, r_mmax, r_mmin, r_nop, r_ret, r_sipush, kX2_findVoltages_0, kX2_findVoltages_45, kX2_findVoltages_128, lX2_findVoltages_0, lX2_findVoltages_17, lX2_findVoltages_45, lX2_findVoltages_53, lX2_findVoltages_128, sl_n, sl_i, sl_r, sl_l, e_wi_s, e_wr_s, e_wl_s, e_lk, e_sto, e_ok, e_no, e_isL, Option.toList_some, Option.toList_none, List.cons_append, List.nil_append, List.length_cons, List.length_nil, Bool.not_false, Bool.not_true, Bool.and_true, Bool.true_and, Bool.false_and, Bool.and_false, Bool.and_self, Nat.reduceBEq, Nat.reduceAdd, Nat.reduceEqDiff, Nat.reduceLeDiff, Nat.reduceLT, Nat.zero_le, Nat.le_refl, if_true, if_false, ite_true, ite_false, true_and, and_true, true_or, or_true, not_false_eq_true, not_true_eq_false, e_set_self, Nat.succ_ne_zero, eq_self, e1, c1, hc, ok_2, e_set_slot, zero_01, one_01, e_b_0, e_b_01, or_self, or_false, false_or, R_1_0, R_1_1, R_1_2, R_1_3, R_1_4, R_1_5, R_1_6, R_32_0, R_32_1, R_32_2, R_36_0, R_36_1, R_36_2, R_36_3, R_37_0, R_37_1, R_37_2, R_68_0, R_70_0, R_164_0, R_164_1, R_164_3, R_164_5, R_164_6, R_164_7, R_164_8, R_164_10, R_164_11, R_2_4, R_2_5, ok_1, ok_32, ok_36, ok_37, ok_68, ok_70, ok_164, ok_2, ok_3, sz_3, ok_4, sz_4, ok_33, sz_33, ok_34, sz_34, ok_35, sz_35, ok_38, sz_38, ok_39, sz_39, ok_40, sz_40, ok_41, sz_41, ok_66, sz_66, ok_67, sz_67, ok_69, sz_69, ok_71, sz_71, ok_162, sz_162, ok_163, sz_163, ok_165, sz_165, ok_166, sz_166, ok_167, sz_167, ok_168, sz_168, ok_169, sz_169, ok_170, sz_170, ok_171, sz_171, ok_172, sz_172, ok_173, sz_173, tn_0, tn_1, tn_2, tn_3, tn_4, tn_5, tn_6, tn_7, tn_8, tn_9, tn_10, tn_11, tn_12, tn_13, tn_14, tn_15, tn_16, tn_17, tn_18, tn_19, tn_20, tn_21, tn_22, tn_23, tn_24, tn_25, tn_26, tn_27, in_0, in_1, in_2, in_3, in_4, in_5, in_6, in_7, in_8, in_9, in_10, in_11, in_12, in_13, in_14, in_15, in_16, in_17, in_18, in_19, in_20, in_21, in_22, in_23, in_24, in_25, in_26, in_27, e_rf_s]; exact hQ m hm (fun k h => hk k (by omega)))
  | d + 1, i, hi, m, tl, htl, hm, hk, hQ => by
    have c1 : m 2 = m1 2 := hm 2 (by omega)
    have e1 : (nI n < nI (i + 1)) = False := eq_false (nI_nlt (by omega) (by omega))
    obtain ⟨f1, f2, f3, f4, f5, f6, f7, f8, f9, f10⟩ := e_fl_ok hf
    have hk9 : i + 1 < 9 := by omega
    have i1 : e_in (nI (i + 1)) 9 = true := e_in_nI (by omega) (by omega)
    have i2 : (nI (i + 1)).toNatClampNeg = i + 1 := nI_nat (by omega)
    have i3 : nI (i + 1) + 1 = nI (i + 1 + 1) := nI_1 (i + 1)
    have c2 : m (nd 2 (i + 1)) = m1 (nd 2 (i + 1)) := hm _ (by unfold nd; omega)
    have c3 : m (rg 2 (i + 1)) = m1 (rg 2 (i + 1)) := hm _ (by unfold rg; omega)
    have c4 : m (fl + 1) = m1 (fl + 1) := hm _ (by omega)
    have c5 : m (fl + 2) = m1 (fl + 2) := hm _ (by omega)
    have r4 := R_4 sv hk9
    have r5 := R_nd4 sv e_fb2 hk9
    have o1 := ok_nd e_fb2 hk9
    have o2 := ok_rg e_fb2 hk9
    have n0 : ¬ (160 : Int32) = 0 := by decide
    have n1 : ¬ (100 : Int32) = 0 := by decide
    have key := fun (m' : Nat → Nat → Int32) tl htl h1 h2 => lp_findVoltages hf hn (m1 := m1) (seg := seg) (tp := tp) hc d (i + 1) (by omega) m' tl htl h1 h2 hQ
    have g1 : 1 ≤ i + 1 := by omega
    have g2 : i + 1 ≤ 8 := by omega
    have fin : ∀ (x : Int32), x = sV (vw 2 m1) (m1 (fl + 1)) (m1 (fl + 2)) seg tp (i + 1) → ∀ a b c dd, Wp xs L kX2_findVoltages_17 [(0, .ref fl), (1, .ref (2 : Nat)), (2, .int seg), (3, .int tp), (4, .int x), (5, .int (nI (i + 1 + 1))), (6, .ref a), (7, .int b), (8, .int c), (9, .int dd)] [] (173, e_set m (fl + 3) (i + 1) x, e_rs sv) Q := by
      intro x hx a b c dd
      subst hx
      refine key _ [(6, .ref a), (7, .int b), (8, .int c), (9, .int dd)] (Or.inr ⟨a, b, c, dd, rfl⟩) (fun c h1 => ?_) (fun k h1 => ?_)
      · funext k'
        rw [e_set_cell h1, hm c h1]
      · by_cases hkj : k = i + 1
        · subst hkj
          rw [e_set_self]
        · rw [e_set_slot hkj]
          exact hk k (by omega)
    have es : sV (vw 2 m1) (m1 (fl + 1)) (m1 (fl + 2)) seg tp (i + 1) = (if sV (vw 2 m1) (m1 (fl + 1)) (m1 (fl + 2)) seg tp i * (160 + (if nI (i + 1) = seg then tp else m1 (rg 2 (i + 1)) 5)) / 160 - (m1 (nd 2 (i + 1)) 0 * m1 (fl + 1) (i + 1) + m1 (nd 2 (i + 1)) 1 * m1 (fl + 2) (i + 1)) / 100 < 0 then 0 else sV (vw 2 m1) (m1 (fl + 1)) (m1 (fl + 2)) seg tp i * (160 + (if nI (i + 1) = seg then tp else m1 (rg 2 (i + 1)) 5)) / 160 - (m1 (nd 2 (i + 1)) 0 * m1 (fl + 1) (i + 1) + m1 (nd 2 (i + 1)) 1 * m1 (fl + 2) (i + 1)) / 100) := by
      simp only [sV, vr_nd0 (B := 2) (m := m1) g1 g2, vr_nd1 (B := 2) (m := m1) g1 g2, vr_rg5 (B := 2) (m := m1) g1 g2]
    rw [kX2_findVoltages_17]
    by_cases hs : nI (i + 1) = seg
    · have hs' := eq_true hs
      simp only [hs', if_true] at es
      rcases htl with rfl | ⟨a, b, c, dd, rfl⟩ <;> (
        simp only [r_aald12, r_aald13, r_aald14, r_aload, r_aload_n, r_astore, r_bipush, r_copy, r_fmod, r_getf0, r_getf1, r_getf2, r_goto, r_iadd, r_iald, r_iast, r_ic_gt, r_ic_ne, r_iconst, r_idiv, r_iinc, r_iload, r_iload_n, r_imul, r_istore, r_isub, r_mabs, r_mmax, r_mmin, r_nop, r_ret, r_sipush, kX2_findVoltages_0, kX2_findVoltages_45, kX2_findVoltages_53, kX2_findVoltages_128, lX2_findVoltages_0, lX2_findVoltages_17, lX2_findVoltages_45, lX2_findVoltages_53, lX2_findVoltages_128, sl_n, sl_i, sl_r, sl_l, e_wi_s, e_wr_s, e_wl_s, e_lk, e_sto, e_ok, e_no, e_isL, Option.toList_some, Option.toList_none, List.cons_append, List.nil_append, List.length_cons, List.length_nil, Bool.not_false, Bool.not_true, Bool.and_true, Bool.true_and, Bool.false_and, Bool.and_false, Bool.and_self, Nat.reduceBEq, Nat.reduceAdd, Nat.reduceEqDiff, Nat.reduceLeDiff, Nat.reduceLT, Nat.zero_le, Nat.le_refl, if_true, if_false, ite_true, ite_false, true_and, and_true, true_or, or_true, not_false_eq_true, not_true_eq_false, e_set_self, Nat.succ_ne_zero, eq_self, e1, c1, hc, ok_2, hs', f1, f2, f3, f4, f5, f6, f7, f8, f9, f10, i1, i2, i3, c2, c3, c4, c5, r4, r5, o1, o2, n0, n1, e_rf_nd, e_rf_rg, e_set_slot, zero_01, one_01, e_b_0, e_b_01, or_self, or_false, false_or, R_1_0, R_1_1, R_1_2, R_1_3, R_1_4, R_1_5, R_1_6, R_32_0, R_32_1, R_32_2, R_36_0, R_36_1, R_36_2, R_36_3, R_37_0, R_37_1, R_37_2, R_68_0, R_70_0, R_164_0, R_164_1, R_164_3, R_164_5, R_164_6, R_164_7, R_164_8, R_164_10, R_164_11, R_2_4, R_2_5, ok_1, ok_32, ok_36, ok_37, ok_68, ok_70, ok_164, ok_2, ok_3, sz_3, ok_4, sz_4, ok_33, sz_33, ok_34, sz_34, ok_35, sz_35, ok_38, sz_38, ok_39, sz_39, ok_40, sz_40, ok_41, sz_41, ok_66, sz_66, ok_67, sz_67, ok_69, sz_69, ok_71, sz_71, ok_162, sz_162, ok_163, sz_163, ok_165, sz_165, ok_166, sz_166, ok_167, sz_167, ok_168, sz_168, ok_169, sz_169, ok_170, sz_170, ok_171, sz_171, ok_172, sz_172, ok_173, sz_173, tn_0, tn_1, tn_2, tn_3, tn_4, tn_5, tn_6, tn_7, tn_8, tn_9, tn_10, tn_11, tn_12, tn_13, tn_14, tn_15, tn_16, tn_17, tn_18, tn_19, tn_20, tn_21, tn_22, tn_23, tn_24, tn_25, tn_26, tn_27, in_0, in_1, in_2, in_3, in_4, in_5, in_6, in_7, in_8, in_9, in_10, in_11, in_12, in_13, in_14, in_15, in_16, in_17, in_18, in_19, in_20, in_21, in_22, in_23, in_24, in_25, in_26, in_27, e_rf_s]
        exact fin _ es.symm _ _ _ _)
    · have hs' := eq_false hs
      simp only [hs', if_false] at es
      rcases htl with rfl | ⟨a, b, c, dd, rfl⟩ <;> (
        simp only [r_aald12, r_aald13, r_aald14, r_aload, r_aload_n, r_astore, r_bipush, r_copy, r_fmod, r_getf0, r_getf1, r_getf2, r_goto, r_iadd, r_iald, r_iast, r_ic_gt, r_ic_ne, r_iconst, r_idiv, r_iinc, r_iload, r_iload_n, r_imul, r_istore, r_isub, r_mabs, r_mmax, r_mmin, r_nop, r_ret, r_sipush, kX2_findVoltages_0, kX2_findVoltages_45, kX2_findVoltages_53, kX2_findVoltages_128, lX2_findVoltages_0, lX2_findVoltages_17, lX2_findVoltages_45, lX2_findVoltages_53, lX2_findVoltages_128, sl_n, sl_i, sl_r, sl_l, e_wi_s, e_wr_s, e_wl_s, e_lk, e_sto, e_ok, e_no, e_isL, Option.toList_some, Option.toList_none, List.cons_append, List.nil_append, List.length_cons, List.length_nil, Bool.not_false, Bool.not_true, Bool.and_true, Bool.true_and, Bool.false_and, Bool.and_false, Bool.and_self, Nat.reduceBEq, Nat.reduceAdd, Nat.reduceEqDiff, Nat.reduceLeDiff, Nat.reduceLT, Nat.zero_le, Nat.le_refl, if_true, if_false, ite_true, ite_false, true_and, and_true, true_or, or_true, not_false_eq_true, not_true_eq_false, e_set_self, Nat.succ_ne_zero, eq_self, e1, c1, hc, ok_2, hs', f1, f2, f3, f4, f5, f6, f7, f8, f9, f10, i1, i2, i3, c2, c3, c4, c5, r4, r5, o1, o2, n0, n1, e_rf_nd, e_rf_rg, e_set_slot, zero_01, one_01, e_b_0, e_b_01, or_self, or_false, false_or, R_1_0, R_1_1, R_1_2, R_1_3, R_1_4, R_1_5, R_1_6, R_32_0, R_32_1, R_32_2, R_36_0, R_36_1, R_36_2, R_36_3, R_37_0, R_37_1, R_37_2, R_68_0, R_70_0, R_164_0, R_164_1, R_164_3, R_164_5, R_164_6, R_164_7, R_164_8, R_164_10, R_164_11, R_2_4, R_2_5, ok_1, ok_32, ok_36, ok_37, ok_68, ok_70, ok_164, ok_2, ok_3, sz_3, ok_4, sz_4, ok_33, sz_33, ok_34, sz_34, ok_35, sz_35, ok_38, sz_38, ok_39, sz_39, ok_40, sz_40, ok_41, sz_41, ok_66, sz_66, ok_67, sz_67, ok_69, sz_69, ok_71, sz_71, ok_162, sz_162, ok_163, sz_163, ok_165, sz_165, ok_166, sz_166, ok_167, sz_167, ok_168, sz_168, ok_169, sz_169, ok_170, sz_170, ok_171, sz_171, ok_172, sz_172, ok_173, sz_173, tn_0, tn_1, tn_2, tn_3, tn_4, tn_5, tn_6, tn_7, tn_8, tn_9, tn_10, tn_11, tn_12, tn_13, tn_14, tn_15, tn_16, tn_17, tn_18, tn_19, tn_20, tn_21, tn_22, tn_23, tn_24, tn_25, tn_26, tn_27, in_0, in_1, in_2, in_3, in_4, in_5, in_6, in_7, in_8, in_9, in_10, in_11, in_12, in_13, in_14, in_15, in_16, in_17, in_18, in_19, in_20, in_21, in_22, in_23, in_24, in_25, in_26, in_27, e_rf_s]
        exact fin _ es.symm _ _ _ _)
theorem lp_countBad {fl n : Nat} (hf : fl = 32 ∨ fl = 37) (hn : n ≤ 8) {m : Nat → Nat → Int32} : ∀ (d i : Nat), i + d = n →
    Wp xs L kX2_countBadNodes_4 [(0, .ref fl), (1, .int (nI n)), (2, .int (sB (m (fl + 3)) i)), (3, .int (nI (i + 1)))] [] (173, m, e_rs sv) Q = Q (some (.int (sB (m (fl + 3)) n)), (173, m, e_rs sv))
  | 0, i, hi => by
    have e1 : (nI n < nI (i + 1)) = True := eq_true (nI_lt (by omega) (by omega))
    have hin : i = n := by omega
    rw [kX2_countBadNodes_4]
    simp only [r_aload_n, r_bipush, r_copy, r_fmod, r_getf0, r_getf1, r_getf2, r_goto, r_iald, r_ic_gt, r_iconst, r_if_ne, r_iinc, r_iload_n, r_iret0, r_iret1, r_istore_n, r_mabs, r_mmax, r_mmin, r_nop, r_sipush, kX2_countBadNodes_0, kX2_countBadNodes_36, kX2_countBadNodes_42, lX2_countBadNodes_0, lX2_countBadNodes_4, lX2_countBadNodes_36, lX2_countBadNodes_42, vX8_isWithin, sl_n, sl_i, sl_r, sl_l, e_wi_s, e_wr_s, e_wl_s, e_lk, e_sto, e_ok, e_no, e_isL, Option.toList_some, Option.toList_none, List.cons_append, List.nil_append, List.length_cons, List.length_nil, Bool.not_false, Bool.not_true, Bool.and_true, Bool.true_and, Bool.false_and, Bool.and_false, Bool.and_self, Nat.reduceBEq, Nat.reduceAdd, Nat.reduceEqDiff, Nat.reduceLeDiff, Nat.reduceLT, Nat.zero_le, Nat.le_refl, if_true, if_false, ite_true, ite_false, true_and, and_true, true_or, or_true, not_false_eq_true, not_true_eq_false, e_set_self, Nat.succ_ne_zero, eq_self, e1, e_set_slot, zero_01, one_01, e_b_0, e_b_01, or_self, or_false, false_or, R_1_0, R_1_1, R_1_2, R_1_3, R_1_4, R_1_5, R_1_6, R_32_0, R_32_1, R_32_2, R_36_0, R_36_1, R_36_2, R_36_3, R_37_0, R_37_1, R_37_2, R_68_0, R_70_0, R_164_0, R_164_1, R_164_3, R_164_5, R_164_6, R_164_7, R_164_8, R_164_10, R_164_11, R_2_4, R_2_5, ok_1, ok_32, ok_36, ok_37, ok_68, ok_70, ok_164, ok_2, ok_3, sz_3, ok_4, sz_4, ok_33, sz_33, ok_34, sz_34, ok_35, sz_35, ok_38, sz_38, ok_39, sz_39, ok_40, sz_40, ok_41, sz_41, ok_66, sz_66, ok_67, sz_67, ok_69, sz_69, ok_71, sz_71, ok_162, sz_162, ok_163, sz_163, ok_165, sz_165, ok_166, sz_166, ok_167, sz_167, ok_168, sz_168, ok_169, sz_169, ok_170, sz_170, ok_171, sz_171, ok_172, sz_172, ok_173, sz_173, tn_0, tn_1, tn_2, tn_3, tn_4, tn_5, tn_6, tn_7, tn_8, tn_9, tn_10, tn_11, tn_12, tn_13, tn_14, tn_15, tn_16, tn_17, tn_18, tn_19, tn_20, tn_21, tn_22, tn_23, tn_24, tn_25, tn_26, tn_27, in_0, in_1, in_2, in_3, in_4, in_5, in_6, in_7, in_8, in_9, in_10, in_11, in_12, in_13, in_14, in_15, in_16, in_17, in_18, in_19, in_20, in_21, in_22, in_23, in_24, in_25, in_26, in_27, e_rf_s]
    rw [hin]
  | d + 1, i, hi => by
    have e1 : (nI n < nI (i + 1)) = False := eq_false (nI_nlt (by omega) (by omega))
    have e2 : ((8 : Int32) < nI (i + 1)) = False := eq_false (nI_nlt (a := 8) (by omega) (by omega))
    obtain ⟨f1, f2, f3, f4, f5, f6, f7, f8, f9, f10⟩ := e_fl_ok hf
    have i1 : e_in (nI (i + 1)) 9 = true := e_in_nI (by omega) (by omega)
    have i2 : (nI (i + 1)).toNatClampNeg = i + 1 := nI_nat (by omega)
    have i3 : nI (i + 1) + 1 = nI (i + 1 + 1) := nI_1 (i + 1)
    have ih := lp_countBad hf hn (m := m) d (i + 1) (by omega)
    simp only [sB] at ih
    rw [kX2_countBadNodes_4]
    by_cases hv : ¬ m (fl + 3) (i + 1) < 9500 ∧ ¬ 10500 < m (fl + 3) (i + 1)
    · have hv' := eq_true hv
      have hb : e_b (m (fl + 3) (i + 1) < 9500 ∨ 10500 < m (fl + 3) (i + 1)) = 0 := e_b_f (by rintro (h | h); exact hv.1 h; exact hv.2 h)
      rw [hb] at ih
      simp only [r_aload_n, r_bipush, r_copy, r_fmod, r_getf0, r_getf1, r_getf2, r_goto, r_iald, r_ic_gt, r_iconst, r_if_ne, r_iinc, r_iload_n, r_iret0, r_iret1, r_istore_n, r_mabs, r_mmax, r_mmin, r_nop, r_sipush, kX2_countBadNodes_0, kX2_countBadNodes_36, kX2_countBadNodes_42, lX2_countBadNodes_0, lX2_countBadNodes_4, lX2_countBadNodes_36, lX2_countBadNodes_42, vX8_isWithin, sl_n, sl_i, sl_r, sl_l, e_wi_s, e_wr_s, e_wl_s, e_lk, e_sto, e_ok, e_no, e_isL, Option.toList_some, Option.toList_none, List.cons_append, List.nil_append, List.length_cons, List.length_nil, Bool.not_false, Bool.not_true, Bool.and_true, Bool.true_and, Bool.false_and, Bool.and_false, Bool.and_self, Nat.reduceBEq, Nat.reduceAdd, Nat.reduceEqDiff, Nat.reduceLeDiff, Nat.reduceLT, Nat.zero_le, Nat.le_refl, if_true, if_false, ite_true, ite_false, true_and, and_true, true_or, or_true, not_false_eq_true, not_true_eq_false, e_set_self, Nat.succ_ne_zero, eq_self, e1, e2, f1, f2, f3, f4, f5, f6, f7, f8, f9, f10, i1, i2, i3, c_X8_isWithin, hv', e_set_slot, zero_01, one_01, e_b_0, e_b_01, or_self, or_false, false_or, R_1_0, R_1_1, R_1_2, R_1_3, R_1_4, R_1_5, R_1_6, R_32_0, R_32_1, R_32_2, R_36_0, R_36_1, R_36_2, R_36_3, R_37_0, R_37_1, R_37_2, R_68_0, R_70_0, R_164_0, R_164_1, R_164_3, R_164_5, R_164_6, R_164_7, R_164_8, R_164_10, R_164_11, R_2_4, R_2_5, ok_1, ok_32, ok_36, ok_37, ok_68, ok_70, ok_164, ok_2, ok_3, sz_3, ok_4, sz_4, ok_33, sz_33, ok_34, sz_34, ok_35, sz_35, ok_38, sz_38, ok_39, sz_39, ok_40, sz_40, ok_41, sz_41, ok_66, sz_66, ok_67, sz_67, ok_69, sz_69, ok_71, sz_71, ok_162, sz_162, ok_163, sz_163, ok_165, sz_165, ok_166, sz_166, ok_167, sz_167, ok_168, sz_168, ok_169, sz_169, ok_170, sz_170, ok_171, sz_171, ok_172, sz_172, ok_173, sz_173, tn_0, tn_1, tn_2, tn_3, tn_4, tn_5, tn_6, tn_7, tn_8, tn_9, tn_10, tn_11, tn_12, tn_13, tn_14, tn_15, tn_16, tn_17, tn_18, tn_19, tn_20, tn_21, tn_22, tn_23, tn_24, tn_25, tn_26, tn_27, in_0, in_1, in_2, in_3, in_4, in_5, in_6, in_7, in_8, in_9, in_10, in_11, in_12, in_13, in_14, in_15, in_16, in_17, in_18, in_19, in_20, in_21, in_22, in_23, in_24, in_25, in_26, in_27, e_rf_s]
      rw [← ih]
      simp
    · have hv' := eq_false hv
      have hb : e_b (m (fl + 3) (i + 1) < 9500 ∨ 10500 < m (fl + 3) (i + 1)) = 1 := e_b_t (by
        rcases Classical.em (m (fl + 3) (i + 1) < 9500) with h | h
        · exact Or.inl h
        · exact Or.inr (Classical.byContradiction fun h2 => hv ⟨h, h2⟩))
      rw [hb] at ih
      simp only [r_aload_n, r_bipush, r_copy, r_fmod, r_getf0, r_getf1, r_getf2, r_goto, r_iald, r_ic_gt, r_iconst, r_if_ne, r_iinc, r_iload_n, r_iret0, r_iret1, r_istore_n, r_mabs, r_mmax, r_mmin, r_nop, r_sipush, kX2_countBadNodes_0, kX2_countBadNodes_36, kX2_countBadNodes_42, lX2_countBadNodes_0, lX2_countBadNodes_4, lX2_countBadNodes_36, lX2_countBadNodes_42, vX8_isWithin, sl_n, sl_i, sl_r, sl_l, e_wi_s, e_wr_s, e_wl_s, e_lk, e_sto, e_ok, e_no, e_isL, Option.toList_some, Option.toList_none, List.cons_append, List.nil_append, List.length_cons, List.length_nil, Bool.not_false, Bool.not_true, Bool.and_true, Bool.true_and, Bool.false_and, Bool.and_false, Bool.and_self, Nat.reduceBEq, Nat.reduceAdd, Nat.reduceEqDiff, Nat.reduceLeDiff, Nat.reduceLT, Nat.zero_le, Nat.le_refl, if_true, if_false, ite_true, ite_false, true_and, and_true, true_or, or_true, not_false_eq_true, not_true_eq_false, e_set_self, Nat.succ_ne_zero, eq_self, e1, e2, f1, f2, f3, f4, f5, f6, f7, f8, f9, f10, i1, i2, i3, c_X8_isWithin, hv', e_set_slot, zero_01, one_01, e_b_0, e_b_01, or_self, or_false, false_or, R_1_0, R_1_1, R_1_2, R_1_3, R_1_4, R_1_5, R_1_6, R_32_0, R_32_1, R_32_2, R_36_0, R_36_1, R_36_2, R_36_3, R_37_0, R_37_1, R_37_2, R_68_0, R_70_0, R_164_0, R_164_1, R_164_3, R_164_5, R_164_6, R_164_7, R_164_8, R_164_10, R_164_11, R_2_4, R_2_5, ok_1, ok_32, ok_36, ok_37, ok_68, ok_70, ok_164, ok_2, ok_3, sz_3, ok_4, sz_4, ok_33, sz_33, ok_34, sz_34, ok_35, sz_35, ok_38, sz_38, ok_39, sz_39, ok_40, sz_40, ok_41, sz_41, ok_66, sz_66, ok_67, sz_67, ok_69, sz_69, ok_71, sz_71, ok_162, sz_162, ok_163, sz_163, ok_165, sz_165, ok_166, sz_166, ok_167, sz_167, ok_168, sz_168, ok_169, sz_169, ok_170, sz_170, ok_171, sz_171, ok_172, sz_172, ok_173, sz_173, tn_0, tn_1, tn_2, tn_3, tn_4, tn_5, tn_6, tn_7, tn_8, tn_9, tn_10, tn_11, tn_12, tn_13, tn_14, tn_15, tn_16, tn_17, tn_18, tn_19, tn_20, tn_21, tn_22, tn_23, tn_24, tn_25, tn_26, tn_27, in_0, in_1, in_2, in_3, in_4, in_5, in_6, in_7, in_8, in_9, in_10, in_11, in_12, in_13, in_14, in_15, in_16, in_17, in_18, in_19, in_20, in_21, in_22, in_23, in_24, in_25, in_26, in_27, e_rf_s]
      rw [← ih]
theorem c_X2_countBadNodes {fl n : Nat} (hf : fl = 32 ∨ fl = 37) (hn : n ≤ 8) {m : Nat → Nat → Int32} : Wp xs L kX2_countBadNodes_0 [(0, .ref fl), (1, .int (nI n))] [] (173, m, e_rs sv) Q = Q (some (.int (sB (m (fl + 3)) n)), (173, m, e_rs sv)) := by
  have h := lp_countBad (xs := xs) (L := L) (Q := Q) (sv := sv) hf hn (m := m) n 0 (by omega)
  simp only [r_aload_n, r_bipush, r_copy, r_fmod, r_getf0, r_getf1, r_getf2, r_goto, r_iald, r_ic_gt, r_iconst, r_if_ne, r_iinc, r_iload_n, r_iret0, r_iret1, r_istore_n, r_mabs, r_mmax, r_mmin, r_nop, r_sipush, kX2_countBadNodes_0, kX2_countBadNodes_36, kX2_countBadNodes_42, lX2_countBadNodes_0, lX2_countBadNodes_4, lX2_countBadNodes_36, lX2_countBadNodes_42, vX8_isWithin, sl_n, sl_i, sl_r, sl_l, e_wi_s, e_wr_s, e_wl_s, e_lk, e_sto, e_ok, e_no, e_isL, Option.toList_some, Option.toList_none, List.cons_append, List.nil_append, List.length_cons, List.length_nil, Bool.not_false, Bool.not_true, Bool.and_true, Bool.true_and, Bool.false_and, Bool.and_false, Bool.and_self, Nat.reduceBEq, Nat.reduceAdd, Nat.reduceEqDiff, Nat.reduceLeDiff, Nat.reduceLT, Nat.zero_le, Nat.le_refl, if_true, if_false, ite_true, ite_false, true_and, and_true, true_or, or_true, not_false_eq_true, not_true_eq_false, e_set_self, Nat.succ_ne_zero, eq_self, e_set_slot, zero_01, one_01, e_b_0, e_b_01, or_self, or_false, false_or, R_1_0, R_1_1, R_1_2, R_1_3, R_1_4, R_1_5, R_1_6, R_32_0, R_32_1, R_32_2, R_36_0, R_36_1, R_36_2, R_36_3, R_37_0, R_37_1, R_37_2, R_68_0, R_70_0, R_164_0, R_164_1, R_164_3, R_164_5, R_164_6, R_164_7, R_164_8, R_164_10, R_164_11, R_2_4, R_2_5, ok_1, ok_32, ok_36, ok_37, ok_68, ok_70, ok_164, ok_2, ok_3, sz_3, ok_4, sz_4, ok_33, sz_33, ok_34, sz_34, ok_35, sz_35, ok_38, sz_38, ok_39, sz_39, ok_40, sz_40, ok_41, sz_41, ok_66, sz_66, ok_67, sz_67, ok_69, sz_69, ok_71, sz_71, ok_162, sz_162, ok_163, sz_163, ok_165, sz_165, ok_166, sz_166, ok_167, sz_167, ok_168, sz_168, ok_169, sz_169, ok_170, sz_170, ok_171, sz_171, ok_172, sz_172, ok_173, sz_173, tn_0, tn_1, tn_2, tn_3, tn_4, tn_5, tn_6, tn_7, tn_8, tn_9, tn_10, tn_11, tn_12, tn_13, tn_14, tn_15, tn_16, tn_17, tn_18, tn_19, tn_20, tn_21, tn_22, tn_23, tn_24, tn_25, tn_26, tn_27, in_0, in_1, in_2, in_3, in_4, in_5, in_6, in_7, in_8, in_9, in_10, in_11, in_12, in_13, in_14, in_15, in_16, in_17, in_18, in_19, in_20, in_21, in_22, in_23, in_24, in_25, in_26, in_27, e_rf_s]
  exact h
theorem c_X1_hour {m : Nat → Nat → Int32} : Wp xs L kX1_hour_0 [(0, .ref (2 : Nat))] [] (173, m, e_rs sv) Q = Q (some (.int (Jvm.Free.MCB.fmod (m 2 0 / 60) 24)), (173, m, e_rs sv)) := by
  have n0 : ¬ (60 : Int32) = 0 := by decide
  have n1 : ¬ (24 : Int32) = 0 := by decide
  simp only [r_aload_n, r_bipush, r_copy, r_fmod, r_getf0, r_getf1, r_getf2, r_idiv, r_iret0, r_iret1, r_mabs, r_mmax, r_mmin, r_nop, kX1_hour_0, lX1_hour_0, sl_n, sl_i, sl_r, sl_l, e_wi_s, e_wr_s, e_wl_s, e_lk, e_sto, e_ok, e_no, e_isL, Option.toList_some, Option.toList_none, List.cons_append, List.nil_append, List.length_cons, List.length_nil, Bool.not_false, Bool.not_true, Bool.and_true, Bool.true_and, Bool.false_and, Bool.and_false, Bool.and_self, Nat.reduceBEq, Nat.reduceAdd, Nat.reduceEqDiff, Nat.reduceLeDiff, Nat.reduceLT, Nat.zero_le, Nat.le_refl, if_true, if_false, ite_true, ite_false, true_and, and_true, true_or, or_true, not_false_eq_true, not_true_eq_false, e_set_self, Nat.succ_ne_zero, eq_self, n0, n1, e_set_slot, zero_01, one_01, e_b_0, e_b_01, or_self, or_false, false_or, R_1_0, R_1_1, R_1_2, R_1_3, R_1_4, R_1_5, R_1_6, R_32_0, R_32_1, R_32_2, R_36_0, R_36_1, R_36_2, R_36_3, R_37_0, R_37_1, R_37_2, R_68_0, R_70_0, R_164_0, R_164_1, R_164_3, R_164_5, R_164_6, R_164_7, R_164_8, R_164_10, R_164_11, R_2_4, R_2_5, ok_1, ok_32, ok_36, ok_37, ok_68, ok_70, ok_164, ok_2, ok_3, sz_3, ok_4, sz_4, ok_33, sz_33, ok_34, sz_34, ok_35, sz_35, ok_38, sz_38, ok_39, sz_39, ok_40, sz_40, ok_41, sz_41, ok_66, sz_66, ok_67, sz_67, ok_69, sz_69, ok_71, sz_71, ok_162, sz_162, ok_163, sz_163, ok_165, sz_165, ok_166, sz_166, ok_167, sz_167, ok_168, sz_168, ok_169, sz_169, ok_170, sz_170, ok_171, sz_171, ok_172, sz_172, ok_173, sz_173, tn_0, tn_1, tn_2, tn_3, tn_4, tn_5, tn_6, tn_7, tn_8, tn_9, tn_10, tn_11, tn_12, tn_13, tn_14, tn_15, tn_16, tn_17, tn_18, tn_19, tn_20, tn_21, tn_22, tn_23, tn_24, tn_25, tn_26, tn_27, in_0, in_1, in_2, in_3, in_4, in_5, in_6, in_7, in_8, in_9, in_10, in_11, in_12, in_13, in_14, in_15, in_16, in_17, in_18, in_19, in_20, in_21, in_22, in_23, in_24, in_25, in_26, in_27, e_rf_s]
theorem fmod_hour {t : Nat} (ht : t < 1000000000) : Jvm.Free.MCB.fmod (nI t / 60) 24 = nI (t / 60 % 24) := by
  have h1 : nI t / 60 = nI (t / 60) := pk_div (a := t) (d := 60) (by omega) (by omega) (by omega)
  rw [h1]
  have h2 : (24 : Int32) = nI 24 := rfl
  rw [h2]
  unfold Jvm.Free.MCB.fmod
  have h3 : Jvm.Free.MCB.remI (nI (t / 60)) (nI 24) = nI (t / 60 % 24) := pk_rem (by omega) (by omega) (by omega)
  rw [h3]
  rw [if_pos]
  have hm : ∀ a, a < 2 ^ 31 → (nI a).toBitVec.msb = false := fun a ha => by
    have h := BitVec.msb_eq_toInt (x := (nI a).toBitVec)
    rw [h]
    have e : (nI a).toBitVec.toInt = (a : Int) := nI_toInt ha
    rw [e]
    exact decide_eq_false (by omega)
  have h4 : (nI (t / 60) ^^^ nI 24).toBitVec.msb = false := by
    rw [Int32.toBitVec_xor, BitVec.msb_xor, hm _ (by omega), hm _ (by omega)]
    rfl
  rw [BitVec.msb_eq_toInt] at h4
  have h5 := of_decide_eq_false h4
  rw [Int32.le_iff_toInt_le]
  have h6 : (nI (t / 60) ^^^ nI 24).toInt = (nI (t / 60) ^^^ nI 24).toBitVec.toInt := rfl
  rw [h6, show (0 : Int32).toInt = 0 from rfl]
  exact Int.not_lt.mp h5
/-- the sums of the loads -/
theorem c_X2_sumLoads {fl n h : Nat} (hf : fl = 32 ∨ fl = 37) (hn : n ≤ 8) (hh : h < 24) {m : Nat → Nat → Int32} (hc : m 2 2 = nI n) {pl : Int32}
    (hQ : ∀ m', (∀ c, c ≠ fl + 1 → c ≠ fl + 2 → m' c = m c) → (∀ k, 0 < k → k ≤ n → m' (fl + 1) k = sP (vw 2 m) (m 3 h) (n + 1 - k) k ∧ m' (fl + 2) k = sQ (vw 2 m) (m 3 h) (nI h) pl (n + 1 - k) k) → Q (none, (173, m', e_rs sv))) :
    Wp xs L kX2_sumLoads_0 [(0, .ref fl), (1, .ref (2 : Nat)), (2, .int (nI h)), (3, .int pl)] [] (173, m, e_rs sv) Q := by
  have i1 : e_in (nI h) 24 = true := e_in_nI hh (by omega)
  have i2 : (nI h).toNatClampNeg = h := nI_nat (by omega)
  have key := lp_sumLoads (xs := xs) (L := L) (Q := Q) (sv := sv) hf hn (m0 := m) (f := m 3 h) (h := nI h) (pl := pl) n (Nat.le_refl _) m [] (Or.inl rfl) (fun _ _ _ => rfl) (fun k h1 h2 => by omega) hQ
  rw [Nat.sub_self] at key
  simp only [r_aald12, r_aald13, r_aald14, r_aload, r_aload_n, r_astore, r_bipush, r_getf0, r_getf1, r_getf2, r_goto, r_iadd, r_iald, r_iast, r_ic_lt, r_iconst, r_idiv, r_iinc, r_iload, r_iload_n, r_imul, r_istore, r_isub, r_nop, r_ret, kX2_sumLoads_0, kX2_sumLoads_102, lX2_sumLoads_0, lX2_sumLoads_20, lX2_sumLoads_102, vX0_supply, sl_n, sl_i, sl_r, sl_l, e_wi_s, e_wr_s, e_wl_s, e_lk, e_sto, e_ok, e_no, e_isL, Option.toList_some, Option.toList_none, List.cons_append, List.nil_append, List.length_cons, List.length_nil, Bool.not_false, Bool.not_true, Bool.and_true, Bool.true_and, Bool.false_and, Bool.and_false, Bool.and_self, Nat.reduceBEq, Nat.reduceAdd, Nat.reduceEqDiff, Nat.reduceLeDiff, Nat.reduceLT, Nat.zero_le, Nat.le_refl, if_true, if_false, ite_true, ite_false, true_and, and_true, true_or, or_true, not_false_eq_true, not_true_eq_false, e_set_self, Nat.succ_ne_zero, eq_self, i1, i2, hc, e_set_slot, zero_01, one_01, e_b_0, e_b_01, or_self, or_false, false_or, R_1_0, R_1_1, R_1_2, R_1_3, R_1_4, R_1_5, R_1_6, R_32_0, R_32_1, R_32_2, R_36_0, R_36_1, R_36_2, R_36_3, R_37_0, R_37_1, R_37_2, R_68_0, R_70_0, R_164_0, R_164_1, R_164_3, R_164_5, R_164_6, R_164_7, R_164_8, R_164_10, R_164_11, R_2_4, R_2_5, ok_1, ok_32, ok_36, ok_37, ok_68, ok_70, ok_164, ok_2, ok_3, sz_3, ok_4, sz_4, ok_33, sz_33, ok_34, sz_34, ok_35, sz_35, ok_38, sz_38, ok_39, sz_39, ok_40, sz_40, ok_41, sz_41, ok_66, sz_66, ok_67, sz_67, ok_69, sz_69, ok_71, sz_71, ok_162, sz_162, ok_163, sz_163, ok_165, sz_165, ok_166, sz_166, ok_167, sz_167, ok_168, sz_168, ok_169, sz_169, ok_170, sz_170, ok_171, sz_171, ok_172, sz_172, ok_173, sz_173, tn_0, tn_1, tn_2, tn_3, tn_4, tn_5, tn_6, tn_7, tn_8, tn_9, tn_10, tn_11, tn_12, tn_13, tn_14, tn_15, tn_16, tn_17, tn_18, tn_19, tn_20, tn_21, tn_22, tn_23, tn_24, tn_25, tn_26, tn_27, in_0, in_1, in_2, in_3, in_4, in_5, in_6, in_7, in_8, in_9, in_10, in_11, in_12, in_13, in_14, in_15, in_16, in_17, in_18, in_19, in_20, in_21, in_22, in_23, in_24, in_25, in_26, in_27, e_rf_s]
  exact key
theorem sV_cong {w : Nat → Nat → Int32} {A R A' R' : Nat → Int32} {seg tp : Int32} : ∀ n, (∀ k, 0 < k → k ≤ n → A k = A' k ∧ R k = R' k) → sV w A R seg tp n = sV w A' R' seg tp n
  | 0, _ => rfl
  | n + 1, h => by
    have h1 := h (n + 1) (by omega) (by omega)
    simp only [sV, sV_cong n (fun k a b => h k a (by omega)), h1.1, h1.2]
theorem c_X2_findVoltages {fl n : Nat} (hf : fl = 32 ∨ fl = 37) (hn : n ≤ 8) {m : Nat → Nat → Int32} (hc : m 2 2 = nI n) {seg tp : Int32}
    (hQ : ∀ m', (∀ c, c ≠ fl + 3 → m' c = m c) → (∀ k, k ≤ n → m' (fl + 3) k = sV (vw 2 m) (m (fl + 1)) (m (fl + 2)) seg tp k) → Q (none, (173, m', e_rs sv))) :
    Wp xs L kX2_findVoltages_0 [(0, .ref fl), (1, .ref (2 : Nat)), (2, .int seg), (3, .int tp)] [] (173, m, e_rs sv) Q := by
  obtain ⟨f1, f2, f3, f4, f5, f6, f7, f8, f9, f10⟩ := e_fl_ok hf
  have key := lp_findVoltages (xs := xs) (L := L) (Q := Q) (sv := sv) hf hn (m1 := m) (seg := seg) (tp := tp) hc n 0 (by omega) (e_set m (fl + 3) 0 (m 2 1)) [] (Or.inl rfl) (fun c h => by funext k; exact e_set_cell h) (fun k h => by
    have : k = 0 := by omega
    subst this
    rw [e_set_self]
    rfl) hQ
  simp only [r_aald12, r_aald13, r_aald14, r_aload, r_aload_n, r_astore, r_bipush, r_copy, r_fmod, r_getf0, r_getf1, r_getf2, r_goto, r_iadd, r_iald, r_iast, r_ic_gt, r_ic_ne, r_iconst, r_idiv, r_iinc, r_iload, r_iload_n, r_imul, r_istore, r_isub, r_mabs, r_mmax, r_mmin, r_nop, r_ret, r_sipush, kX2_findVoltages_0, kX2_findVoltages_45, kX2_findVoltages_53, kX2_findVoltages_128, lX2_findVoltages_0, lX2_findVoltages_17, lX2_findVoltages_45, lX2_findVoltages_53, lX2_findVoltages_128, sl_n, sl_i, sl_r, sl_l, e_wi_s, e_wr_s, e_wl_s, e_lk, e_sto, e_ok, e_no, e_isL, Option.toList_some, Option.toList_none, List.cons_append, List.nil_append, List.length_cons, List.length_nil, Bool.not_false, Bool.not_true, Bool.and_true, Bool.true_and, Bool.false_and, Bool.and_false, Bool.and_self, Nat.reduceBEq, Nat.reduceAdd, Nat.reduceEqDiff, Nat.reduceLeDiff, Nat.reduceLT, Nat.zero_le, Nat.le_refl, if_true, if_false, ite_true, ite_false, true_and, and_true, true_or, or_true, not_false_eq_true, not_true_eq_false, e_set_self, Nat.succ_ne_zero, eq_self, f1, f2, f3, f4, f5, f6, f7, f8, f9, f10, e_set_slot, zero_01, one_01, e_b_0, e_b_01, or_self, or_false, false_or, R_1_0, R_1_1, R_1_2, R_1_3, R_1_4, R_1_5, R_1_6, R_32_0, R_32_1, R_32_2, R_36_0, R_36_1, R_36_2, R_36_3, R_37_0, R_37_1, R_37_2, R_68_0, R_70_0, R_164_0, R_164_1, R_164_3, R_164_5, R_164_6, R_164_7, R_164_8, R_164_10, R_164_11, R_2_4, R_2_5, ok_1, ok_32, ok_36, ok_37, ok_68, ok_70, ok_164, ok_2, ok_3, sz_3, ok_4, sz_4, ok_33, sz_33, ok_34, sz_34, ok_35, sz_35, ok_38, sz_38, ok_39, sz_39, ok_40, sz_40, ok_41, sz_41, ok_66, sz_66, ok_67, sz_67, ok_69, sz_69, ok_71, sz_71, ok_162, sz_162, ok_163, sz_163, ok_165, sz_165, ok_166, sz_166, ok_167, sz_167, ok_168, sz_168, ok_169, sz_169, ok_170, sz_170, ok_171, sz_171, ok_172, sz_172, ok_173, sz_173, tn_0, tn_1, tn_2, tn_3, tn_4, tn_5, tn_6, tn_7, tn_8, tn_9, tn_10, tn_11, tn_12, tn_13, tn_14, tn_15, tn_16, tn_17, tn_18, tn_19, tn_20, tn_21, tn_22, tn_23, tn_24, tn_25, tn_26, tn_27, in_0, in_1, in_2, in_3, in_4, in_5, in_6, in_7, in_8, in_9, in_10, in_11, in_12, in_13, in_14, in_15, in_16, in_17, in_18, in_19, in_20, in_21, in_22, in_23, in_24, in_25, in_26, in_27, e_rf_s]
  exact key
/-- flows and voltages of table w with n nodes in hour h -/
def fA (w : Nat → Nat → Int32) (h n k : Nat) : Int32 := sP w (w 0 (4 + h)) (n + 1 - k) k
def fR (w : Nat → Nat → Int32) (h : Nat) (pl : Int32) (n k : Nat) : Int32 := sQ w (w 0 (4 + h)) (nI h) pl (n + 1 - k) k
def fV (w : Nat → Nat → Int32) (h : Nat) (pl : Int32) (n : Nat) (seg tp : Int32) (k : Nat) : Int32 := sV w (fA w h n) (fR w h pl n) seg tp k
def hr (t : Nat) : Nat := t / 60 % 24
theorem hr_lt (t : Nat) : hr t < 24 := Nat.mod_lt _ (by decide)
/-- what solve leaves -/
def Sol (n t : Nat) (m m' : Nat → Nat → Int32) : Prop := (∀ c, c ≠ 33 → c ≠ 34 → c ≠ 35 → m' c = m c) ∧ (∀ k, 0 < k → k ≤ n → m' 33 k = fA (vw 2 m) (hr t) n k ∧ m' 34 k = fR (vw 2 m) (hr t) 0 n k) ∧ ∀ k, k ≤ n → m' 35 k = fV (vw 2 m) (hr t) 0 n 0 0 k
theorem c_X2_solve {n t : Nat} (hn : n ≤ 8) {m : Nat → Nat → Int32} (hc : m 2 2 = nI n) (ht : m 2 0 = nI t) (ht2 : t < 1000000000)
    (hQ : ∀ m', Sol n t m m' → Q (none, (173, m', e_rs sv))) :
    Wp xs L kX2_solve_0 [(0, .ref (32 : Nat)), (1, .ref (2 : Nat))] [] (173, m, e_rs sv) Q := by
  have hh := hr_lt t
  have eh : Jvm.Free.MCB.fmod (m 2 0 / 60) 24 = nI (hr t) := by rw [ht]; exact fmod_hour ht2
  simp only [r_aload_n, r_iconst, r_nop, r_ret, kX2_solve_0, lX2_solve_0, vX1_hour, vX2_findVoltages, vX2_sumLoads, sl_n, sl_i, sl_r, sl_l, e_wi_s, e_wr_s, e_wl_s, e_lk, e_sto, e_ok, e_no, e_isL, Option.toList_some, Option.toList_none, List.cons_append, List.nil_append, List.length_cons, List.length_nil, Bool.not_false, Bool.not_true, Bool.and_true, Bool.true_and, Bool.false_and, Bool.and_false, Bool.and_self, Nat.reduceBEq, Nat.reduceAdd, Nat.reduceEqDiff, Nat.reduceLeDiff, Nat.reduceLT, Nat.zero_le, Nat.le_refl, if_true, if_false, ite_true, ite_false, true_and, and_true, true_or, or_true, not_false_eq_true, not_true_eq_false, e_set_self, Nat.succ_ne_zero, eq_self, c_X1_hour, eh, e_set_slot, zero_01, one_01, e_b_0, e_b_01, or_self, or_false, false_or, R_1_0, R_1_1, R_1_2, R_1_3, R_1_4, R_1_5, R_1_6, R_32_0, R_32_1, R_32_2, R_36_0, R_36_1, R_36_2, R_36_3, R_37_0, R_37_1, R_37_2, R_68_0, R_70_0, R_164_0, R_164_1, R_164_3, R_164_5, R_164_6, R_164_7, R_164_8, R_164_10, R_164_11, R_2_4, R_2_5, ok_1, ok_32, ok_36, ok_37, ok_68, ok_70, ok_164, ok_2, ok_3, sz_3, ok_4, sz_4, ok_33, sz_33, ok_34, sz_34, ok_35, sz_35, ok_38, sz_38, ok_39, sz_39, ok_40, sz_40, ok_41, sz_41, ok_66, sz_66, ok_67, sz_67, ok_69, sz_69, ok_71, sz_71, ok_162, sz_162, ok_163, sz_163, ok_165, sz_165, ok_166, sz_166, ok_167, sz_167, ok_168, sz_168, ok_169, sz_169, ok_170, sz_170, ok_171, sz_171, ok_172, sz_172, ok_173, sz_173, tn_0, tn_1, tn_2, tn_3, tn_4, tn_5, tn_6, tn_7, tn_8, tn_9, tn_10, tn_11, tn_12, tn_13, tn_14, tn_15, tn_16, tn_17, tn_18, tn_19, tn_20, tn_21, tn_22, tn_23, tn_24, tn_25, tn_26, tn_27, in_0, in_1, in_2, in_3, in_4, in_5, in_6, in_7, in_8, in_9, in_10, in_11, in_12, in_13, in_14, in_15, in_16, in_17, in_18, in_19, in_20, in_21, in_22, in_23, in_24, in_25, in_26, in_27, e_rf_s]
  refine c_X2_sumLoads (Or.inl rfl) hn hh hc (fun m1 h1 h2 => ?_)
  simp only [r_aload_n, r_iconst, r_nop, r_ret, kX2_solve_0, lX2_solve_0, vX1_hour, vX2_findVoltages, vX2_sumLoads, sl_n, sl_i, sl_r, sl_l, e_wi_s, e_wr_s, e_wl_s, e_lk, e_sto, e_ok, e_no, e_isL, Option.toList_some, Option.toList_none, List.cons_append, List.nil_append, List.length_cons, List.length_nil, Bool.not_false, Bool.not_true, Bool.and_true, Bool.true_and, Bool.false_and, Bool.and_false, Bool.and_self, Nat.reduceBEq, Nat.reduceAdd, Nat.reduceEqDiff, Nat.reduceLeDiff, Nat.reduceLT, Nat.zero_le, Nat.le_refl, if_true, if_false, ite_true, ite_false, true_and, and_true, true_or, or_true, not_false_eq_true, not_true_eq_false, e_set_self, Nat.succ_ne_zero, eq_self, c_X1_hour, eh, e_set_slot, zero_01, one_01, e_b_0, e_b_01, or_self, or_false, false_or, R_1_0, R_1_1, R_1_2, R_1_3, R_1_4, R_1_5, R_1_6, R_32_0, R_32_1, R_32_2, R_36_0, R_36_1, R_36_2, R_36_3, R_37_0, R_37_1, R_37_2, R_68_0, R_70_0, R_164_0, R_164_1, R_164_3, R_164_5, R_164_6, R_164_7, R_164_8, R_164_10, R_164_11, R_2_4, R_2_5, ok_1, ok_32, ok_36, ok_37, ok_68, ok_70, ok_164, ok_2, ok_3, sz_3, ok_4, sz_4, ok_33, sz_33, ok_34, sz_34, ok_35, sz_35, ok_38, sz_38, ok_39, sz_39, ok_40, sz_40, ok_41, sz_41, ok_66, sz_66, ok_67, sz_67, ok_69, sz_69, ok_71, sz_71, ok_162, sz_162, ok_163, sz_163, ok_165, sz_165, ok_166, sz_166, ok_167, sz_167, ok_168, sz_168, ok_169, sz_169, ok_170, sz_170, ok_171, sz_171, ok_172, sz_172, ok_173, sz_173, tn_0, tn_1, tn_2, tn_3, tn_4, tn_5, tn_6, tn_7, tn_8, tn_9, tn_10, tn_11, tn_12, tn_13, tn_14, tn_15, tn_16, tn_17, tn_18, tn_19, tn_20, tn_21, tn_22, tn_23, tn_24, tn_25, tn_26, tn_27, in_0, in_1, in_2, in_3, in_4, in_5, in_6, in_7, in_8, in_9, in_10, in_11, in_12, in_13, in_14, in_15, in_16, in_17, in_18, in_19, in_20, in_21, in_22, in_23, in_24, in_25, in_26, in_27, e_rf_s]
  have hc1 : m1 2 2 = nI n := by rw [h1 2 (by omega) (by omega)]; exact hc
  have ew : vw 2 m1 = vw 2 m := vw_cong (fun c a b => h1 c (by omega) (by omega))
  have ef : m 3 (hr t) = vw 2 m 0 (4 + hr t) := (vr_f (B := 2) hh).symm
  refine c_X2_findVoltages (Or.inl rfl) hn hc1 (fun m2 g1 g2 => ?_)
  simp only [r_aload_n, r_iconst, r_nop, r_ret, kX2_solve_0, lX2_solve_0, vX1_hour, vX2_findVoltages, vX2_sumLoads, sl_n, sl_i, sl_r, sl_l, e_wi_s, e_wr_s, e_wl_s, e_lk, e_sto, e_ok, e_no, e_isL, Option.toList_some, Option.toList_none, List.cons_append, List.nil_append, List.length_cons, List.length_nil, Bool.not_false, Bool.not_true, Bool.and_true, Bool.true_and, Bool.false_and, Bool.and_false, Bool.and_self, Nat.reduceBEq, Nat.reduceAdd, Nat.reduceEqDiff, Nat.reduceLeDiff, Nat.reduceLT, Nat.zero_le, Nat.le_refl, if_true, if_false, ite_true, ite_false, true_and, and_true, true_or, or_true, not_false_eq_true, not_true_eq_false, e_set_self, Nat.succ_ne_zero, eq_self, c_X1_hour, eh, e_set_slot, zero_01, one_01, e_b_0, e_b_01, or_self, or_false, false_or, R_1_0, R_1_1, R_1_2, R_1_3, R_1_4, R_1_5, R_1_6, R_32_0, R_32_1, R_32_2, R_36_0, R_36_1, R_36_2, R_36_3, R_37_0, R_37_1, R_37_2, R_68_0, R_70_0, R_164_0, R_164_1, R_164_3, R_164_5, R_164_6, R_164_7, R_164_8, R_164_10, R_164_11, R_2_4, R_2_5, ok_1, ok_32, ok_36, ok_37, ok_68, ok_70, ok_164, ok_2, ok_3, sz_3, ok_4, sz_4, ok_33, sz_33, ok_34, sz_34, ok_35, sz_35, ok_38, sz_38, ok_39, sz_39, ok_40, sz_40, ok_41, sz_41, ok_66, sz_66, ok_67, sz_67, ok_69, sz_69, ok_71, sz_71, ok_162, sz_162, ok_163, sz_163, ok_165, sz_165, ok_166, sz_166, ok_167, sz_167, ok_168, sz_168, ok_169, sz_169, ok_170, sz_170, ok_171, sz_171, ok_172, sz_172, ok_173, sz_173, tn_0, tn_1, tn_2, tn_3, tn_4, tn_5, tn_6, tn_7, tn_8, tn_9, tn_10, tn_11, tn_12, tn_13, tn_14, tn_15, tn_16, tn_17, tn_18, tn_19, tn_20, tn_21, tn_22, tn_23, tn_24, tn_25, tn_26, tn_27, in_0, in_1, in_2, in_3, in_4, in_5, in_6, in_7, in_8, in_9, in_10, in_11, in_12, in_13, in_14, in_15, in_16, in_17, in_18, in_19, in_20, in_21, in_22, in_23, in_24, in_25, in_26, in_27, e_rf_s]
  refine hQ m2 ⟨fun c a b d => by rw [g1 c d, h1 c a b], fun k a b => ?_, fun k a => ?_⟩
  · rw [g1 33 (by omega), g1 34 (by omega)]
    have := h2 k a b
    rw [ef] at this
    exact this
  · have e := g2 k a
    rw [ew] at e
    refine e.trans (sV_cong k (fun k' a' b' => ?_))
    have := h2 k' a' (by omega)
    rw [ef] at this
    exact this
end P16
