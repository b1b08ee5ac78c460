/-! the class's history -/
def Sv (sv : Nat → Nat) : Prop := (∀ i, i < 3 → e_fb (sv i) ∧ sv i ≠ 2) ∧ sv 0 ≠ sv 1 ∧ sv 0 ≠ sv 2 ∧ sv 1 ≠ sv 2
def rot (sv : Nat → Nat) : Nat → Nat := fun j => if j = 0 then sv 1 else if j = 1 then sv 2 else if j = 2 then sv 0 else sv j
theorem Sv.rot {sv : Nat → Nat} (h : Sv sv) : Sv (rot sv) := by
  refine ⟨fun i hi => ?_, h.2.2.2, ?_, ?_⟩
  · have : i = 0 ∨ i = 1 ∨ i = 2 := by omega
    rcases this with rfl | rfl | rfl
    · exact h.1 1 (by decide)
    · exact h.1 2 (by decide)
    · exact h.1 0 (by decide)
  · exact fun q => h.2.1 q.symm
  · exact fun q => h.2.2.1 q.symm
theorem Sv.ne {sv : Nat → Nat} (h : Sv sv) {i j : Nat} (hi : i < 3) (hj : j < 3) (hij : i ≠ j) : sv i ≠ sv j := by
  have h1 : i = 0 ∨ i = 1 ∨ i = 2 := by omega
  have h2 : j = 0 ∨ j = 1 ∨ j = 2 := by omega
  rcases h1 with rfl | rfl | rfl <;> rcases h2 with rfl | rfl | rfl
  · exact absurd rfl hij
  · exact h.2.1
  · exact h.2.2.1
  · exact fun q => h.2.1 q.symm
  · exact absurd rfl hij
  · exact h.2.2.2
  · exact fun q => h.2.2.1 q.symm
  · exact fun q => h.2.2.2 q.symm
  · exact absurd rfl hij
theorem rs_set {sv : Nat → Nat} {i z : Nat} (hi : i < 3) : e_set (e_rs sv) 71 i z = e_rs (fun j => if j = i then z else sv j) := by
  funext c k
  unfold e_set e_rs
  by_cases hc : c = 71
  · subst hc
    by_cases hk : k = i
    · subst hk
      simp [hi]
    · simp [hk]
  · simp [hc]
theorem rot_eq {sv : Nat → Nat} : (fun j => if j = 2 then sv 0 else (fun j => if j = 1 then sv 2 else (fun j => if j = 0 then sv 1 else sv j) j) j) = rot sv := by
  funext j
  unfold rot
  by_cases h0 : j = 0
  · subst h0; rfl
  · by_cases h1 : j = 1
    · subst h1; rfl
    · by_cases h2 : j = 2
      · subst h2; rfl
      · simp [h0, h1, h2]
section P25
variable {xs : Nat → Int32} {L : Nat} {Q : e_Rs → Prop} {sv : Nat → Nat}
theorem c_X3_dropOldest {m : e_Tb} (hS : Sv sv) : Wp xs L kX3_dropOldest_0 [(0, .ref (70 : Nat))] [] (173, m, e_rs sv) Q = Q (none, (173, e_set m 70 1 2, e_rs (rot sv))) := by
  have f0 := (hS.1 0 (by decide)).1
  have f1 := (hS.1 1 (by decide)).1
  have f2 := (hS.1 2 (by decide)).1
  have o0 := ok_fb f0
  have o1 := ok_fb f1
  have o2 := ok_fb f2
  have g0 := e_rf_fb f0
  have g1 := e_rf_fb f1
  have g2 := e_rf_fb f2
  have r0 : ∀ s, e_rs s 71 0 = s 0 := fun s => R_71 s (by decide)
  have r1 : ∀ s, e_rs s 71 1 = s 1 := fun s => R_71 s (by decide)
  have r2 : ∀ s, e_rs s 71 2 = s 2 := fun s => R_71 s (by decide)
  have d1 : ((1 : Int32) < 3) = True := by decide
  have d2 : ((2 : Int32) < 3) = True := by decide
  have d3 : ((3 : Int32) < 3) = False := by decide
  have a1 : (1 : Int32) + 1 = 2 := by decide
  have a2 : (2 : Int32) + 1 = 3 := by decide
  have b1 : (1 : Int32) - 1 = 0 := by decide
  have b2 : (2 : Int32) - 1 = 1 := by decide
  have s0 : ∀ (s : Nat → Nat) (z : Nat), e_set (e_rs s) 71 0 z = e_rs (fun j => if j = 0 then z else s j) := fun s z => rs_set (by decide)
  have s1 : ∀ (s : Nat → Nat) (z : Nat), e_set (e_rs s) 71 1 z = e_rs (fun j => if j = 1 then z else s j) := fun s z => rs_set (by decide)
  have s2 : ∀ (s : Nat → Nat) (z : Nat), e_set (e_rs s) 71 2 z = e_rs (fun j => if j = 2 then z else s j) := fun s z => rs_set (by decide)
  have n20 : ((2 : Nat) = 0) = False := by decide
  have n21 : ((2 : Nat) = 1) = False := by decide
  have n10 : ((1 : Nat) = 0) = False := by decide
  simp only [r_aald12, r_aald13, r_aald14, r_aast, r_aload_n, r_astore_n, r_getf0, r_getf1, r_getf2, r_goto, r_ic_ge, r_iconst, r_iinc, r_iload_n, r_istore_n, r_isub, r_nop, r_putf0, r_putf1, r_ret, kX3_dropOldest_0, kX3_dropOldest_34, lX3_dropOldest_0, lX3_dropOldest_9, lX3_dropOldest_34, sl_n, sl_i, sl_r, sl_l, e_wi_s, e_wr_s, e_wl_s, e_lk, e_sto, e_ok, e_no, e_isL, Option.toList_some, Option.toList_none, List.cons_append, List.nil_append, List.length_cons, List.length_nil, Bool.not_false, Bool.not_true, Bool.and_true, Bool.true_and, Bool.false_and, Bool.and_false, Bool.and_self, Nat.reduceBEq, Nat.reduceAdd, Nat.reduceEqDiff, Nat.reduceLeDiff, Nat.reduceLT, Nat.zero_le, Nat.le_refl, if_true, if_false, ite_true, ite_false, true_and, and_true, true_or, or_true, not_false_eq_true, not_true_eq_false, e_set_self, Nat.succ_ne_zero, eq_self, o0, o1, o2, g0, g1, g2, r0, r1, r2, e_set_slot, zero_01, one_01, e_b_0, e_b_01, or_self, or_false, false_or, R_1_0, R_1_1, R_1_2, R_1_3, R_1_4, R_1_5, R_1_6, R_32_0, R_32_1, R_32_2, R_36_0, R_36_1, R_36_2, R_36_3, R_37_0, R_37_1, R_37_2, R_68_0, R_70_0, R_164_0, R_164_1, R_164_3, R_164_5, R_164_6, R_164_7, R_164_8, R_164_10, R_164_11, R_2_4, R_2_5, ok_1, ok_32, ok_36, ok_37, ok_68, ok_70, ok_164, ok_2, ok_3, sz_3, ok_4, sz_4, ok_33, sz_33, ok_34, sz_34, ok_35, sz_35, ok_38, sz_38, ok_39, sz_39, ok_40, sz_40, ok_41, sz_41, ok_66, sz_66, ok_67, sz_67, ok_69, sz_69, ok_71, sz_71, ok_162, sz_162, ok_163, sz_163, ok_165, sz_165, ok_166, sz_166, ok_167, sz_167, ok_168, sz_168, ok_169, sz_169, ok_170, sz_170, ok_171, sz_171, ok_172, sz_172, ok_173, sz_173, tn_0, tn_1, tn_2, tn_3, tn_4, tn_5, tn_6, tn_7, tn_8, tn_9, tn_10, tn_11, tn_12, tn_13, tn_14, tn_15, tn_16, tn_17, tn_18, tn_19, tn_20, tn_21, tn_22, tn_23, tn_24, tn_25, tn_26, tn_27, in_0, in_1, in_2, in_3, in_4, in_5, in_6, in_7, in_8, in_9, in_10, in_11, in_12, in_13, in_14, in_15, in_16, in_17, in_18, in_19, in_20, in_21, in_22, in_23, in_24, in_25, in_26, in_27, e_rf_s]
  rw [kX3_dropOldest_9]
  simp only [r_aald12, r_aald13, r_aald14, r_aast, r_aload_n, r_astore_n, r_getf0, r_getf1, r_getf2, r_goto, r_ic_ge, r_iconst, r_iinc, r_iload_n, r_istore_n, r_isub, r_nop, r_putf0, r_putf1, r_ret, kX3_dropOldest_0, kX3_dropOldest_34, lX3_dropOldest_0, lX3_dropOldest_9, lX3_dropOldest_34, sl_n, sl_i, sl_r, sl_l, e_wi_s, e_wr_s, e_wl_s, e_lk, e_sto, e_ok, e_no, e_isL, Option.toList_some, Option.toList_none, List.cons_append, List.nil_append, List.length_cons, List.length_nil, Bool.not_false, Bool.not_true, Bool.and_true, Bool.true_and, Bool.false_and, Bool.and_false, Bool.and_self, Nat.reduceBEq, Nat.reduceAdd, Nat.reduceEqDiff, Nat.reduceLeDiff, Nat.reduceLT, Nat.zero_le, Nat.le_refl, if_true, if_false, ite_true, ite_false, true_and, and_true, true_or, or_true, not_false_eq_true, not_true_eq_false, e_set_self, Nat.succ_ne_zero, eq_self, o0, o1, o2, g0, g1, g2, r0, r1, r2, d1, a1, b1, s0, e_set_slot, zero_01, one_01, e_b_0, e_b_01, or_self, or_false, false_or, R_1_0, R_1_1, R_1_2, R_1_3, R_1_4, R_1_5, R_1_6, R_32_0, R_32_1, R_32_2, R_36_0, R_36_1, R_36_2, R_36_3, R_37_0, R_37_1, R_37_2, R_68_0, R_70_0, R_164_0, R_164_1, R_164_3, R_164_5, R_164_6, R_164_7, R_164_8, R_164_10, R_164_11, R_2_4, R_2_5, ok_1, ok_32, ok_36, ok_37, ok_68, ok_70, ok_164, ok_2, ok_3, sz_3, ok_4, sz_4, ok_33, sz_33, ok_34, sz_34, ok_35, sz_35, ok_38, sz_38, ok_39, sz_39, ok_40, sz_40, ok_41, sz_41, ok_66, sz_66, ok_67, sz_67, ok_69, sz_69, ok_71, sz_71, ok_162, sz_162, ok_163, sz_163, ok_165, sz_165, ok_166, sz_166, ok_167, sz_167, ok_168, sz_168, ok_169, sz_169, ok_170, sz_170, ok_171, sz_171, ok_172, sz_172, ok_173, sz_173, tn_0, tn_1, tn_2, tn_3, tn_4, tn_5, tn_6, tn_7, tn_8, tn_9, tn_10, tn_11, tn_12, tn_13, tn_14, tn_15, tn_16, tn_17, tn_18, tn_19, tn_20, tn_21, tn_22, tn_23, tn_24, tn_25, tn_26, tn_27, in_0, in_1, in_2, in_3, in_4, in_5, in_6, in_7, in_8, in_9, in_10, in_11, in_12, in_13, in_14, in_15, in_16, in_17, in_18, in_19, in_20, in_21, in_22, in_23, in_24, in_25, in_26, in_27, e_rf_s]
  rw [kX3_dropOldest_9]
  simp only [r_aald12, r_aald13, r_aald14, r_aast, r_aload_n, r_astore_n, r_getf0, r_getf1, r_getf2, r_goto, r_ic_ge, r_iconst, r_iinc, r_iload_n, r_istore_n, r_isub, r_nop, r_putf0, r_putf1, r_ret, kX3_dropOldest_0, kX3_dropOldest_34, lX3_dropOldest_0, lX3_dropOldest_9, lX3_dropOldest_34, sl_n, sl_i, sl_r, sl_l, e_wi_s, e_wr_s, e_wl_s, e_lk, e_sto, e_ok, e_no, e_isL, Option.toList_some, Option.toList_none, List.cons_append, List.nil_append, List.length_cons, List.length_nil, Bool.not_false, Bool.not_true, Bool.and_true, Bool.true_and, Bool.false_and, Bool.and_false, Bool.and_self, Nat.reduceBEq, Nat.reduceAdd, Nat.reduceEqDiff, Nat.reduceLeDiff, Nat.reduceLT, Nat.zero_le, Nat.le_refl, if_true, if_false, ite_true, ite_false, true_and, and_true, true_or, or_true, not_false_eq_true, not_true_eq_false, e_set_self, Nat.succ_ne_zero, eq_self, o0, o1, o2, g0, g1, g2, r0, r1, r2, d2, a2, b2, s1, n20, e_set_slot, zero_01, one_01, e_b_0, e_b_01, or_self, or_false, false_or, R_1_0, R_1_1, R_1_2, R_1_3, R_1_4, R_1_5, R_1_6, R_32_0, R_32_1, R_32_2, R_36_0, R_36_1, R_36_2, R_36_3, R_37_0, R_37_1, R_37_2, R_68_0, R_70_0, R_164_0, R_164_1, R_164_3, R_164_5, R_164_6, R_164_7, R_164_8, R_164_10, R_164_11, R_2_4, R_2_5, ok_1, ok_32, ok_36, ok_37, ok_68, ok_70, ok_164, ok_2, ok_3, sz_3, ok_4, sz_4, ok_33, sz_33, ok_34, sz_34, ok_35, sz_35, ok_38, sz_38, ok_39, sz_39, ok_40, sz_40, ok_41, sz_41, ok_66, sz_66, ok_67, sz_67, ok_69, sz_69, ok_71, sz_71, ok_162, sz_162, ok_163, sz_163, ok_165, sz_165, ok_166, sz_166, ok_167, sz_167, ok_168, sz_168, ok_169, sz_169, ok_170, sz_170, ok_171, sz_171, ok_172, sz_172, ok_173, sz_173, tn_0, tn_1, tn_2, tn_3, tn_4, tn_5, tn_6, tn_7, tn_8, tn_9, tn_10, tn_11, tn_12, tn_13, tn_14, tn_15, tn_16, tn_17, tn_18, tn_19, tn_20, tn_21, tn_22, tn_23, tn_24, tn_25, tn_26, tn_27, in_0, in_1, in_2, in_3, in_4, in_5, in_6, in_7, in_8, in_9, in_10, in_11, in_12, in_13, in_14, in_15, in_16, in_17, in_18, in_19, in_20, in_21, in_22, in_23, in_24, in_25, in_26, in_27, e_rf_s]
  rw [kX3_dropOldest_9]
  simp only [r_aald12, r_aald13, r_aald14, r_aast, r_aload_n, r_astore_n, r_getf0, r_getf1, r_getf2, r_goto, r_ic_ge, r_iconst, r_iinc, r_iload_n, r_istore_n, r_isub, r_nop, r_putf0, r_putf1, r_ret, kX3_dropOldest_0, kX3_dropOldest_34, lX3_dropOldest_0, lX3_dropOldest_9, lX3_dropOldest_34, sl_n, sl_i, sl_r, sl_l, e_wi_s, e_wr_s, e_wl_s, e_lk, e_sto, e_ok, e_no, e_isL, Option.toList_some, Option.toList_none, List.cons_append, List.nil_append, List.length_cons, List.length_nil, Bool.not_false, Bool.not_true, Bool.and_true, Bool.true_and, Bool.false_and, Bool.and_false, Bool.and_self, Nat.reduceBEq, Nat.reduceAdd, Nat.reduceEqDiff, Nat.reduceLeDiff, Nat.reduceLT, Nat.zero_le, Nat.le_refl, if_true, if_false, ite_true, ite_false, true_and, and_true, true_or, or_true, not_false_eq_true, not_true_eq_false, e_set_self, Nat.succ_ne_zero, eq_self, o0, o1, o2, g0, g1, g2, r0, r1, r2, d3, s2, e_set_slot, zero_01, one_01, e_b_0, e_b_01, or_self, or_false, false_or, R_1_0, R_1_1, R_1_2, R_1_3, R_1_4, R_1_5, R_1_6, R_32_0, R_32_1, R_32_2, R_36_0, R_36_1, R_36_2, R_36_3, R_37_0, R_37_1, R_37_2, R_68_0, R_70_0, R_164_0, R_164_1, R_164_3, R_164_5, R_164_6, R_164_7, R_164_8, R_164_10, R_164_11, R_2_4, R_2_5, ok_1, ok_32, ok_36, ok_37, ok_68, ok_70, ok_164, ok_2, ok_3, sz_3, ok_4, sz_4, ok_33, sz_33, ok_34, sz_34, ok_35, sz_35, ok_38, sz_38, ok_39, sz_39, ok_40, sz_40, ok_41, sz_41, ok_66, sz_66, ok_67, sz_67, ok_69, sz_69, ok_71, sz_71, ok_162, sz_162, ok_163, sz_163, ok_165, sz_165, ok_166, sz_166, ok_167, sz_167, ok_168, sz_168, ok_169, sz_169, ok_170, sz_170, ok_171, sz_171, ok_172, sz_172, ok_173, sz_173, tn_0, tn_1, tn_2, tn_3, tn_4, tn_5, tn_6, tn_7, tn_8, tn_9, tn_10, tn_11, tn_12, tn_13, tn_14, tn_15, tn_16, tn_17, tn_18, tn_19, tn_20, tn_21, tn_22, tn_23, tn_24, tn_25, tn_26, tn_27, in_0, in_1, in_2, in_3, in_4, in_5, in_6, in_7, in_8, in_9, in_10, in_11, in_12, in_13, in_14, in_15, in_16, in_17, in_18, in_19, in_20, in_21, in_22, in_23, in_24, in_25, in_26, in_27, e_rf_s]
  rw [← rot_eq]
/-- nothing but the history and what it holds changed -/
def Fh (m m' : e_Tb) : Prop := ∀ c, (c < 70 ∨ 162 ≤ c) → m' c = m c
theorem Fb.fh {B : Nat} (h : e_fb B) (h2 : B ≠ 2) {m m' : e_Tb} (hf : Fb B m m') : Fh m m' := fun c hc => hf c (by rcases h with h | h | h | h <;> omega)
theorem c_X3_save {m : e_Tb} {c : Nat} (hc : c ≤ 3) (hS : Sv sv) (hm : m 70 1 = nI c) (hb : ∀ k, 1 ≤ k → k ≤ 8 → rb (vw 2 m k))
    (hQ : ∀ m' sv', Sv sv' → Fh m m' → m' 70 1 = nI (if c = 3 then 3 else c + 1) → (∀ i, i < (if c = 3 then 2 else c) → vw (sv' i) m' = vw (sv (if c = 3 then i + 1 else i)) m) → vw (sv' (if c = 3 then 2 else c)) m' = vw 2 m → Q (none, (173, m', e_rs sv'))) :
    Wp xs L kX3_save_0 [(0, .ref (70 : Nat)), (1, .ref (2 : Nat))] [] (173, m, e_rs sv) Q := by
  have st : ∀ (m1 : e_Tb) (sv1 : Nat → Nat) (j : Nat), j < 3 → Sv sv1 → m1 70 1 = nI j → (∀ k, 1 ≤ k → k ≤ 8 → rb (vw 2 m1 k)) →
      (∀ m2, Fh m1 m2 → m2 70 1 = nI (j + 1) → (∀ i, i < 3 → i ≠ j → vw (sv1 i) m2 = vw (sv1 i) m1) → vw (sv1 j) m2 = vw 2 m1 → Q (none, (173, m2, e_rs sv1))) →
      Wp xs L kX3_save_12 [(0, .ref (70 : Nat)), (1, .ref (2 : Nat))] [] (173, m1, e_rs sv1) Q := by
    intro m1 sv1 j hj hS1 h1 hb1 hQ1
    have fj := hS1.1 j hj
    have o1 := ok_fb fj.1
    have g1 := e_rf_fb fj.1
    have r1 : e_rs sv1 71 j = sv1 j := R_71 sv1 hj
    have i1 : e_in (nI j) 3 = true := e_in_nI (by omega) (by omega)
    have i2 : (nI j).toNatClampNeg = j := nI_nat (by omega)
    have i3 : nI j + 1 = nI (j + 1) := nI_1 j
    rw [kX3_save_12]
    simp only [r_aald12, r_aald13, r_aald14, r_aload_n, r_dupa, r_dupi, r_getf0, r_getf1, r_getf2, r_iadd, r_ic_lt, r_iconst, r_nop, r_putf0, r_putf1, r_ret, kX3_save_0, lX3_save_0, lX3_save_12, vX1_copyFrom, vX3_dropOldest, sl_n, sl_i, sl_r, sl_l, e_wi_s, e_wr_s, e_wl_s, e_lk, e_sto, e_ok, e_no, e_isL, Option.toList_some, Option.toList_none, List.cons_append, List.nil_append, List.length_cons, List.length_nil, Bool.not_false, Bool.not_true, Bool.and_true, Bool.true_and, Bool.false_and, Bool.and_false, Bool.and_self, Nat.reduceBEq, Nat.reduceAdd, Nat.reduceEqDiff, Nat.reduceLeDiff, Nat.reduceLT, Nat.zero_le, Nat.le_refl, if_true, if_false, ite_true, ite_false, true_and, and_true, true_or, or_true, not_false_eq_true, not_true_eq_false, e_set_self, Nat.succ_ne_zero, eq_self, h1, o1, g1, r1, i1, i2, e_set_slot, zero_01, one_01, e_b_0, e_b_01, or_self, or_false, false_or, R_1_0, R_1_1, R_1_2, R_1_3, R_1_4, R_1_5, R_1_6, R_32_0, R_32_1, R_32_2, R_36_0, R_36_1, R_36_2, R_36_3, R_37_0, R_37_1, R_37_2, R_68_0, R_70_0, R_164_0, R_164_1, R_164_3, R_164_5, R_164_6, R_164_7, R_164_8, R_164_10, R_164_11, R_2_4, R_2_5, ok_1, ok_32, ok_36, ok_37, ok_68, ok_70, ok_164, ok_2, ok_3, sz_3, ok_4, sz_4, ok_33, sz_33, ok_34, sz_34, ok_35, sz_35, ok_38, sz_38, ok_39, sz_39, ok_40, sz_40, ok_41, sz_41, ok_66, sz_66, ok_67, sz_67, ok_69, sz_69, ok_71, sz_71, ok_162, sz_162, ok_163, sz_163, ok_165, sz_165, ok_166, sz_166, ok_167, sz_167, ok_168, sz_168, ok_169, sz_169, ok_170, sz_170, ok_171, sz_171, ok_172, sz_172, ok_173, sz_173, tn_0, tn_1, tn_2, tn_3, tn_4, tn_5, tn_6, tn_7, tn_8, tn_9, tn_10, tn_11, tn_12, tn_13, tn_14, tn_15, tn_16, tn_17, tn_18, tn_19, tn_20, tn_21, tn_22, tn_23, tn_24, tn_25, tn_26, tn_27, in_0, in_1, in_2, in_3, in_4, in_5, in_6, in_7, in_8, in_9, in_10, in_11, in_12, in_13, in_14, in_15, in_16, in_17, in_18, in_19, in_20, in_21, in_22, in_23, in_24, in_25, in_26, in_27, e_rf_s]
    refine c_X1_copyFrom fj.1 e_fb2 (fun h => fj.2 h.symm) hb1 (fun m2 f2 v2 => ?_)
    have c2 : m2 70 1 = nI j := by rw [f2 70 (by rcases fj.1 with h | h | h | h <;> omega)]; exact h1
    have q := hQ1 (e_set m2 70 1 (nI (j + 1))) (fun c hc => by
      rw [← f2.fh fj.1 fj.2 c hc]
      funext s
      exact e_set_cell (by omega)) (by rw [e_set_self]) (fun i hi hij => by
      have fi := hS1.1 i hi
      rw [vw_out (by rcases fi.1 with h | h | h | h <;> omega)]
      exact f2.vw fj.1 fi.1 (hS1.ne hi hj hij)) (by
      rw [vw_out (by rcases fj.1 with h | h | h | h <;> omega)]
      exact v2)
    simp only [r_aald12, r_aald13, r_aald14, r_aload_n, r_dupa, r_dupi, r_getf0, r_getf1, r_getf2, r_iadd, r_ic_lt, r_iconst, r_nop, r_putf0, r_putf1, r_ret, kX3_save_0, lX3_save_0, lX3_save_12, vX1_copyFrom, vX3_dropOldest, sl_n, sl_i, sl_r, sl_l, e_wi_s, e_wr_s, e_wl_s, e_lk, e_sto, e_ok, e_no, e_isL, Option.toList_some, Option.toList_none, List.cons_append, List.nil_append, List.length_cons, List.length_nil, Bool.not_false, Bool.not_true, Bool.and_true, Bool.true_and, Bool.false_and, Bool.and_false, Bool.and_self, Nat.reduceBEq, Nat.reduceAdd, Nat.reduceEqDiff, Nat.reduceLeDiff, Nat.reduceLT, Nat.zero_le, Nat.le_refl, if_true, if_false, ite_true, ite_false, true_and, and_true, true_or, or_true, not_false_eq_true, not_true_eq_false, e_set_self, Nat.succ_ne_zero, eq_self, c2, i3, e_set_slot, zero_01, one_01, e_b_0, e_b_01, or_self, or_false, false_or, R_1_0, R_1_1, R_1_2, R_1_3, R_1_4, R_1_5, R_1_6, R_32_0, R_32_1, R_32_2, R_36_0, R_36_1, R_36_2, R_36_3, R_37_0, R_37_1, R_37_2, R_68_0, R_70_0, R_164_0, R_164_1, R_164_3, R_164_5, R_164_6, R_164_7, R_164_8, R_164_10, R_164_11, R_2_4, R_2_5, ok_1, ok_32, ok_36, ok_37, ok_68, ok_70, ok_164, ok_2, ok_3, sz_3, ok_4, sz_4, ok_33, sz_33, ok_34, sz_34, ok_35, sz_35, ok_38, sz_38, ok_39, sz_39, ok_40, sz_40, ok_41, sz_41, ok_66, sz_66, ok_67, sz_67, ok_69, sz_69, ok_71, sz_71, ok_162, sz_162, ok_163, sz_163, ok_165, sz_165, ok_166, sz_166, ok_167, sz_167, ok_168, sz_168, ok_169, sz_169, ok_170, sz_170, ok_171, sz_171, ok_172, sz_172, ok_173, sz_173, tn_0, tn_1, tn_2, tn_3, tn_4, tn_5, tn_6, tn_7, tn_8, tn_9, tn_10, tn_11, tn_12, tn_13, tn_14, tn_15, tn_16, tn_17, tn_18, tn_19, tn_20, tn_21, tn_22, tn_23, tn_24, tn_25, tn_26, tn_27, in_0, in_1, in_2, in_3, in_4, in_5, in_6, in_7, in_8, in_9, in_10, in_11, in_12, in_13, in_14, in_15, in_16, in_17, in_18, in_19, in_20, in_21, in_22, in_23, in_24, in_25, in_26, in_27, e_rf_s]
    exact q
  by_cases h3 : c = 3
  · subst h3
    have e1 : (nI 3 < 3) = False := by decide
    have f := st (e_set m 70 1 2) (rot sv) 2 (by decide) hS.rot (by rw [e_set_self]; rfl) (by rw [vw_out (by omega)]; exact hb) (fun m2 f2 c2 v2 w2 => by
      refine hQ m2 (rot sv) hS.rot (fun c hc => ?_) c2 (fun i hi => ?_) ?_
      · rw [f2 c hc]
        funext s
        exact e_set_cell (by omega)
      · have hi : i < 2 := hi
        rw [v2 i (by omega) (by omega)]
        have : i = 0 ∨ i = 1 := by omega
        have f1 := (hS.1 1 (by decide)).1
        have f2 := (hS.1 2 (by decide)).1
        rcases this with rfl | rfl
        · show vw (sv 1) _ = _
          exact vw_out (by rcases f1 with h | h | h | h <;> omega)
        · show vw (sv 2) _ = _
          exact vw_out (by rcases f2 with h | h | h | h <;> omega)
      · show vw (rot sv 2) m2 = _
        rw [w2]
        exact vw_out (by omega))
    simp only [r_aald12, r_aald13, r_aald14, r_aload_n, r_dupa, r_dupi, r_getf0, r_getf1, r_getf2, r_iadd, r_ic_lt, r_iconst, r_nop, r_putf0, r_putf1, r_ret, kX3_save_0, lX3_save_0, lX3_save_12, vX1_copyFrom, vX3_dropOldest, sl_n, sl_i, sl_r, sl_l, e_wi_s, e_wr_s, e_wl_s, e_lk, e_sto, e_ok, e_no, e_isL, Option.toList_some, Option.toList_none, List.cons_append, List.nil_append, List.length_cons, List.length_nil, Bool.not_false, Bool.not_true, Bool.and_true, Bool.true_and, Bool.false_and, Bool.and_false, Bool.and_self, Nat.reduceBEq, Nat.reduceAdd, Nat.reduceEqDiff, Nat.reduceLeDiff, Nat.reduceLT, Nat.zero_le, Nat.le_refl, if_true, if_false, ite_true, ite_false, true_and, and_true, true_or, or_true, not_false_eq_true, not_true_eq_false, e_set_self, Nat.succ_ne_zero, eq_self, hm, e1, c_X3_dropOldest hS, e_set_slot, zero_01, one_01, e_b_0, e_b_01, or_self, or_false, false_or, R_1_0, R_1_1, R_1_2, R_1_3, R_1_4, R_1_5, R_1_6, R_32_0, R_32_1, R_32_2, R_36_0, R_36_1, R_36_2, R_36_3, R_37_0, R_37_1, R_37_2, R_68_0, R_70_0, R_164_0, R_164_1, R_164_3, R_164_5, R_164_6, R_164_7, R_164_8, R_164_10, R_164_11, R_2_4, R_2_5, ok_1, ok_32, ok_36, ok_37, ok_68, ok_70, ok_164, ok_2, ok_3, sz_3, ok_4, sz_4, ok_33, sz_33, ok_34, sz_34, ok_35, sz_35, ok_38, sz_38, ok_39, sz_39, ok_40, sz_40, ok_41, sz_41, ok_66, sz_66, ok_67, sz_67, ok_69, sz_69, ok_71, sz_71, ok_162, sz_162, ok_163, sz_163, ok_165, sz_165, ok_166, sz_166, ok_167, sz_167, ok_168, sz_168, ok_169, sz_169, ok_170, sz_170, ok_171, sz_171, ok_172, sz_172, ok_173, sz_173, tn_0, tn_1, tn_2, tn_3, tn_4, tn_5, tn_6, tn_7, tn_8, tn_9, tn_10, tn_11, tn_12, tn_13, tn_14, tn_15, tn_16, tn_17, tn_18, tn_19, tn_20, tn_21, tn_22, tn_23, tn_24, tn_25, tn_26, tn_27, in_0, in_1, in_2, in_3, in_4, in_5, in_6, in_7, in_8, in_9, in_10, in_11, in_12, in_13, in_14, in_15, in_16, in_17, in_18, in_19, in_20, in_21, in_22, in_23, in_24, in_25, in_26, in_27, e_rf_s]
    exact f
  · have hc3 : c < 3 := by omega
    have e1 : (nI c < 3) = True := eq_true (by
      have h8 : (3 : Int32) = nI 3 := rfl
      rw [h8]
      exact nI_lt (by omega) (by omega))
    simp only [h3, if_false] at hQ
    have f := st m sv c hc3 hS hm hb (fun m2 f2 c2 v2 w2 => hQ m2 sv hS f2 c2 (fun i hi => v2 i (by omega) (by omega)) w2)
    simp only [r_aald12, r_aald13, r_aald14, r_aload_n, r_dupa, r_dupi, r_getf0, r_getf1, r_getf2, r_iadd, r_ic_lt, r_iconst, r_nop, r_putf0, r_putf1, r_ret, kX3_save_0, lX3_save_0, lX3_save_12, vX1_copyFrom, vX3_dropOldest, sl_n, sl_i, sl_r, sl_l, e_wi_s, e_wr_s, e_wl_s, e_lk, e_sto, e_ok, e_no, e_isL, Option.toList_some, Option.toList_none, List.cons_append, List.nil_append, List.length_cons, List.length_nil, Bool.not_false, Bool.not_true, Bool.and_true, Bool.true_and, Bool.false_and, Bool.and_false, Bool.and_self, Nat.reduceBEq, Nat.reduceAdd, Nat.reduceEqDiff, Nat.reduceLeDiff, Nat.reduceLT, Nat.zero_le, Nat.le_refl, if_true, if_false, ite_true, ite_false, true_and, and_true, true_or, or_true, not_false_eq_true, not_true_eq_false, e_set_self, Nat.succ_ne_zero, eq_self, hm, e1, e_set_slot, zero_01, one_01, e_b_0, e_b_01, or_self, or_false, false_or, R_1_0, R_1_1, R_1_2, R_1_3, R_1_4, R_1_5, R_1_6, R_32_0, R_32_1, R_32_2, R_36_0, R_36_1, R_36_2, R_36_3, R_37_0, R_37_1, R_37_2, R_68_0, R_70_0, R_164_0, R_164_1, R_164_3, R_164_5, R_164_6, R_164_7, R_164_8, R_164_10, R_164_11, R_2_4, R_2_5, ok_1, ok_32, ok_36, ok_37, ok_68, ok_70, ok_164, ok_2, ok_3, sz_3, ok_4, sz_4, ok_33, sz_33, ok_34, sz_34, ok_35, sz_35, ok_38, sz_38, ok_39, sz_39, ok_40, sz_40, ok_41, sz_41, ok_66, sz_66, ok_67, sz_67, ok_69, sz_69, ok_71, sz_71, ok_162, sz_162, ok_163, sz_163, ok_165, sz_165, ok_166, sz_166, ok_167, sz_167, ok_168, sz_168, ok_169, sz_169, ok_170, sz_170, ok_171, sz_171, ok_172, sz_172, ok_173, sz_173, tn_0, tn_1, tn_2, tn_3, tn_4, tn_5, tn_6, tn_7, tn_8, tn_9, tn_10, tn_11, tn_12, tn_13, tn_14, tn_15, tn_16, tn_17, tn_18, tn_19, tn_20, tn_21, tn_22, tn_23, tn_24, tn_25, tn_26, tn_27, in_0, in_1, in_2, in_3, in_4, in_5, in_6, in_7, in_8, in_9, in_10, in_11, in_12, in_13, in_14, in_15, in_16, in_17, in_18, in_19, in_20, in_21, in_22, in_23, in_24, in_25, in_26, in_27, e_rf_s]
    exact f
theorem c_X3_restore {m : e_Tb} {c : Nat} (hc : c < 3) (hS : Sv sv) (hm : m 70 1 = nI (c + 1)) (hb : ∀ k, 1 ≤ k → k ≤ 8 → rb (vw (sv c) m k))
    (hQ : ∀ m', (∀ c, (c < 2 ∨ 32 ≤ c) → c ≠ 70 → m' c = m c) → m' 70 1 = nI c → vw 2 m' = vw (sv c) m → Q (none, (173, m', e_rs sv))) :
    Wp xs L kX3_restore_0 [(0, .ref (70 : Nat)), (1, .ref (2 : Nat))] [] (173, m, e_rs sv) Q := by
  have fc := hS.1 c hc
  have g1 := e_rf_fb fc.1
  have r1 : e_rs sv 71 c = sv c := R_71 sv hc
  have i1 : e_in (nI c) 3 = true := e_in_nI (by omega) (by omega)
  have i2 : (nI c).toNatClampNeg = c := nI_nat (by omega)
  have i3 : nI (c + 1) - 1 = nI c := nI_pred c
  have vo : vw (sv c) (e_set m 70 1 (nI c)) = vw (sv c) m := vw_out (by rcases fc.1 with h | h | h | h <;> omega)
  simp only [r_aald12, r_aald13, r_aald14, r_aload_n, r_dupa, r_dupi, r_getf0, r_getf1, r_getf2, r_iconst, r_isub, r_nop, r_putf0, r_putf1, r_ret, kX3_restore_0, lX3_restore_0, vX1_copyFrom, sl_n, sl_i, sl_r, sl_l, e_wi_s, e_wr_s, e_wl_s, e_lk, e_sto, e_ok, e_no, e_isL, Option.toList_some, Option.toList_none, List.cons_append, List.nil_append, List.length_cons, List.length_nil, Bool.not_false, Bool.not_true, Bool.and_true, Bool.true_and, Bool.false_and, Bool.and_false, Bool.and_self, Nat.reduceBEq, Nat.reduceAdd, Nat.reduceEqDiff, Nat.reduceLeDiff, Nat.reduceLT, Nat.zero_le, Nat.le_refl, if_true, if_false, ite_true, ite_false, true_and, and_true, true_or, or_true, not_false_eq_true, not_true_eq_false, e_set_self, Nat.succ_ne_zero, eq_self, hm, g1, r1, i1, i2, i3, e_set_self, e_set_slot, zero_01, one_01, e_b_0, e_b_01, or_self, or_false, false_or, R_1_0, R_1_1, R_1_2, R_1_3, R_1_4, R_1_5, R_1_6, R_32_0, R_32_1, R_32_2, R_36_0, R_36_1, R_36_2, R_36_3, R_37_0, R_37_1, R_37_2, R_68_0, R_70_0, R_164_0, R_164_1, R_164_3, R_164_5, R_164_6, R_164_7, R_164_8, R_164_10, R_164_11, R_2_4, R_2_5, ok_1, ok_32, ok_36, ok_37, ok_68, ok_70, ok_164, ok_2, ok_3, sz_3, ok_4, sz_4, ok_33, sz_33, ok_34, sz_34, ok_35, sz_35, ok_38, sz_38, ok_39, sz_39, ok_40, sz_40, ok_41, sz_41, ok_66, sz_66, ok_67, sz_67, ok_69, sz_69, ok_71, sz_71, ok_162, sz_162, ok_163, sz_163, ok_165, sz_165, ok_166, sz_166, ok_167, sz_167, ok_168, sz_168, ok_169, sz_169, ok_170, sz_170, ok_171, sz_171, ok_172, sz_172, ok_173, sz_173, tn_0, tn_1, tn_2, tn_3, tn_4, tn_5, tn_6, tn_7, tn_8, tn_9, tn_10, tn_11, tn_12, tn_13, tn_14, tn_15, tn_16, tn_17, tn_18, tn_19, tn_20, tn_21, tn_22, tn_23, tn_24, tn_25, tn_26, tn_27, in_0, in_1, in_2, in_3, in_4, in_5, in_6, in_7, in_8, in_9, in_10, in_11, in_12, in_13, in_14, in_15, in_16, in_17, in_18, in_19, in_20, in_21, in_22, in_23, in_24, in_25, in_26, in_27, e_rf_s]
  refine c_X1_copyFrom e_fb2 fc.1 fc.2 (by rw [vo]; exact hb) (fun m2 f2 v2 => ?_)
  have q := hQ m2 (fun c hc h70 => by
    rw [f2 c (by omega)]
    funext s
    exact e_set_cell h70) (by rw [f2 70 (by omega), e_set_self]) (by rw [v2, vo])
  simp only [r_aald12, r_aald13, r_aald14, r_aload_n, r_dupa, r_dupi, r_getf0, r_getf1, r_getf2, r_iconst, r_isub, r_nop, r_putf0, r_putf1, r_ret, kX3_restore_0, lX3_restore_0, vX1_copyFrom, sl_n, sl_i, sl_r, sl_l, e_wi_s, e_wr_s, e_wl_s, e_lk, e_sto, e_ok, e_no, e_isL, Option.toList_some, Option.toList_none, List.cons_append, List.nil_append, List.length_cons, List.length_nil, Bool.not_false, Bool.not_true, Bool.and_true, Bool.true_and, Bool.false_and, Bool.and_false, Bool.and_self, Nat.reduceBEq, Nat.reduceAdd, Nat.reduceEqDiff, Nat.reduceLeDiff, Nat.reduceLT, Nat.zero_le, Nat.le_refl, if_true, if_false, ite_true, ite_false, true_and, and_true, true_or, or_true, not_false_eq_true, not_true_eq_false, e_set_self, Nat.succ_ne_zero, eq_self, e_set_slot, zero_01, one_01, e_b_0, e_b_01, or_self, or_false, false_or, R_1_0, R_1_1, R_1_2, R_1_3, R_1_4, R_1_5, R_1_6, R_32_0, R_32_1, R_32_2, R_36_0, R_36_1, R_36_2, R_36_3, R_37_0, R_37_1, R_37_2, R_68_0, R_70_0, R_164_0, R_164_1, R_164_3, R_164_5, R_164_6, R_164_7, R_164_8, R_164_10, R_164_11, R_2_4, R_2_5, ok_1, ok_32, ok_36, ok_37, ok_68, ok_70, ok_164, ok_2, ok_3, sz_3, ok_4, sz_4, ok_33, sz_33, ok_34, sz_34, ok_35, sz_35, ok_38, sz_38, ok_39, sz_39, ok_40, sz_40, ok_41, sz_41, ok_66, sz_66, ok_67, sz_67, ok_69, sz_69, ok_71, sz_71, ok_162, sz_162, ok_163, sz_163, ok_165, sz_165, ok_166, sz_166, ok_167, sz_167, ok_168, sz_168, ok_169, sz_169, ok_170, sz_170, ok_171, sz_171, ok_172, sz_172, ok_173, sz_173, tn_0, tn_1, tn_2, tn_3, tn_4, tn_5, tn_6, tn_7, tn_8, tn_9, tn_10, tn_11, tn_12, tn_13, tn_14, tn_15, tn_16, tn_17, tn_18, tn_19, tn_20, tn_21, tn_22, tn_23, tn_24, tn_25, tn_26, tn_27, in_0, in_1, in_2, in_3, in_4, in_5, in_6, in_7, in_8, in_9, in_10, in_11, in_12, in_13, in_14, in_15, in_16, in_17, in_18, in_19, in_20, in_21, in_22, in_23, in_24, in_25, in_26, in_27, e_rf_s]
  exact q
end P25
