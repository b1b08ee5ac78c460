/-! what holds between the two, from call to call -/
def Zr (n : Nat) (w : e_Tb) : Prop := ∀ k, n < k → ∀ i, w k i = 0
/-- the class's table and the reference's, of which the first n rows count -/
def Tbn (j n t : Nat) (w w' : e_Tb) : Prop := n ≤ 8 ∧ t ≤ 1440 * j ∧ w 0 3 = nI n ∧ w 0 0 = nI t ∧ Ag n w w' ∧ Iv n w ∧ Zr n w
def Tb (j : Nat) (w w' : e_Tb) : Prop := ∃ n t, Tbn j n t w w'
theorem Tb.mono {j j' : Nat} (h : j ≤ j') {w w' : e_Tb} (hT : Tb j w w') : Tb j' w w' := by
  obtain ⟨n, t, h1, h2, h3⟩ := hT
  exact ⟨n, t, h1, by have := Nat.mul_le_mul_left 1440 h; omega, h3⟩
theorem Iv.ag {n : Nat} {w w' : e_Tb} (h : Iv n w) (ha : Ag n w w') : Iv n w' := by
  refine ⟨?_, fun k h1 h2 => ?_⟩
  · rw [← ha 0 (Nat.zero_le _)]; exact h.1
  · rw [← ha k h2]; exact h.2 k h1 h2
theorem rb_0 : rb (fun _ => 0) := ⟨Or.inl rfl, Or.inl rfl, Or.inl rfl, Or.inl rfl, Or.inl rfl⟩
theorem Tbn.rb {j n t : Nat} {w w' : e_Tb} (h : Tbn j n t w w') : ∀ k, 1 ≤ k → k ≤ 8 → rb (w k) := fun k h1 _ => by
  obtain ⟨_, _, _, _, _, hI, hZ⟩ := h
  by_cases hk : k ≤ n
  · exact (hI.2 k h1 hk).1
  · have e : w k = fun _ => 0 := funext (hZ k (by omega))
    rw [e]
    exact rb_0
def Tx (m : e_Tb) : Prop := ∃ l, l ≤ 120 ∧ m 68 1 = nI l ∧ m 164 4 = nI l ∧ ∀ i, i < l → m 69 i = m 167 i ∧ bt 0 255 (m 167 i)
def Hs (j : Nat) (sv : Nat → Nat) (m : e_Tb) : Prop := ∃ c, c ≤ 3 ∧ m 70 1 = nI c ∧ m 164 2 = nI c ∧ ∀ i, i < c → Tb j (vw (sv i) m) (mw 166 (220 * i) m)
def Rl (j : Nat) (sv : Nat → Nat) (m : e_Tb) : Prop := Sv sv ∧ Tb j (vw 2 m) (mw 165 0 m) ∧ Hs j sv m ∧ Tx m ∧ ∀ i, i < 5 → m 163 i = m 168 (i + 2)
theorem Rl.sv {j : Nat} {sv : Nat → Nat} {m : e_Tb} (h : Rl j sv m) : Sv sv := h.1
theorem Rl.tb {j : Nat} {sv : Nat → Nat} {m : e_Tb} (h : Rl j sv m) : Tb j (vw 2 m) (mw 165 0 m) := h.2.1
theorem Rl.hs {j : Nat} {sv : Nat → Nat} {m : e_Tb} (h : Rl j sv m) : Hs j sv m := h.2.2.1
theorem Rl.tx {j : Nat} {sv : Nat → Nat} {m : e_Tb} (h : Rl j sv m) : Tx m := h.2.2.2.1
theorem Rl.er {j : Nat} {sv : Nat → Nat} {m : e_Tb} (h : Rl j sv m) : ∀ i, i < 5 → m 163 i = m 168 (i + 2) := h.2.2.2.2
/-- a call of both: the same answer, and what holds between them holds on -/
def Step (xs : Nat → Int32) (L j : Nat) (sv : Nat → Nat) (m : e_Tb) (A : List e_Op) (la : e_Lv) (B : List e_Op) (lb : e_Lv) : Prop :=
  Wp xs L A la [] (173, m, e_rs sv) (fun z => ∃ v m1 sv1, z = (some (.int v), (173, m1, e_rs sv1)) ∧ Wp xs L B lb [] (173, m1, e_rs sv1) (fun y => ∃ m', y = (some (.int v), (173, m', e_rs sv1)) ∧ Rl (j + 1) sv1 m'))
theorem Rl.err {j i : Nat} {sv : Nat → Nat} {m : e_Tb} {u v : Int32} (h : Rl j sv m) (hi : i < 5) (hu : u = m 163 i + 1) (hv : v = m 168 (i + 2) + 1) : Rl (j + 1) sv (e_set (e_set m 163 i u) 168 (i + 2) v) := by
  have hc : ∀ c, c ≠ 163 → c ≠ 168 → e_set (e_set m 163 i u) 168 (i + 2) v c = m c := fun c h1 h2 => by
    funext s
    rw [e_set_cell h2, e_set_cell h1]
  have tb := h.tb
  obtain ⟨c, c1, c2, c3, c4⟩ := h.hs
  obtain ⟨l, l1, l2, l3, l4⟩ := h.tx
  refine ⟨h.sv, ?_, ⟨c, c1, ?_, ?_, fun x hx => ?_⟩, ⟨l, l1, ?_, ?_, fun x hx => ?_⟩, fun x hx => ?_⟩
  · rw [vw_cong (fun c a b => hc c (by omega) (by omega)), mw_cong (hc 165 (by decide) (by decide))]
    exact tb.mono (by omega)
  · rw [hc 70 (by decide) (by decide)]; exact c2
  · rw [hc 164 (by decide) (by decide)]; exact c3
  · have fx := (h.sv.1 x (by omega)).1
    rw [vw_cong (fun c a b => hc c (by rcases fx with h | h | h | h <;> omega) (by rcases fx with h | h | h | h <;> omega)), mw_cong (hc 166 (by decide) (by decide))]
    exact (c4 x hx).mono (by omega)
  · rw [hc 68 (by decide) (by decide)]; exact l2
  · rw [hc 164 (by decide) (by decide)]; exact l3
  · rw [hc 69 (by decide) (by decide), hc 167 (by decide) (by decide)]; exact l4 x hx
  · have e0 := h.er x hx
    by_cases hxi : x = i
    · subst hxi
      rw [e_set_self, e_set_cell (by decide), e_set_self, hu, hv, e0]
    · have eL : e_set (e_set m 163 i u) 168 (i + 2) v 163 x = m 163 x := (e_set_cell (by decide)).trans (e_set_slot hxi)
      have eR : e_set (e_set m 163 i u) 168 (i + 2) v 168 (x + 2) = m 168 (x + 2) := (e_set_slot (by omega)).trans (e_set_cell (by decide))
      rw [eL, eR]
      exact e0
section P27
variable {xs : Nat → Int32} {L : Nat} {Q : e_Rs → Prop} {sv : Nat → Nat} {m : e_Tb}
theorem c_X8_refuse {i : Nat} (hi : i < 5) {v : Int32} (hv : v = -(nI (i + 2))) : Wp xs L kX8_refuse_0 [(0, .ref (1 : Nat)), (1, .int v)] [] (173, m, e_rs sv) Q = Q (some (.int v), (173, e_set m 163 i (m 163 i + 1), e_rs sv)) := by
  have k1 : (¬ v < -6 ∧ ¬ -2 < v) = True := by
    apply eq_true
    subst hv
    have : i = 0 ∨ i = 1 ∨ i = 2 ∨ i = 3 ∨ i = 4 := by omega
    rcases this with rfl | rfl | rfl | rfl | rfl <;> decide
  have k2 : -2 - v = nI i := by
    subst hv
    have : i = 0 ∨ i = 1 ∨ i = 2 ∨ i = 3 ∨ i = 4 := by omega
    rcases this with rfl | rfl | rfl | rfl | rfl <;> decide
  have i1 : e_in (nI i) 5 = true := e_in_nI (by omega) (by omega)
  have i2 : (nI i).toNatClampNeg = i := nI_nat (by omega)
  simp only [r_aload_n, r_bipush, r_copy, r_dup2, r_fmod, r_getf0, r_getf1, r_getf2, r_iadd, r_iald, r_iast, r_iconst, r_if_eq, r_iload_n, r_iret0, r_iret1, r_isub, r_mabs, r_mmax, r_mmin, r_nop, kX8_refuse_0, kX8_refuse_20, lX8_refuse_0, lX8_refuse_20, vX8_isErrorCode, sl_n, sl_i, sl_r, sl_l, e_wi_s, e_wr_s, e_wl_s, e_lk, e_sto, e_ok, e_no, e_isL, Option.toList_some, Option.toList_none, List.cons_append, List.nil_append, List.length_cons, List.length_nil, Bool.not_false, Bool.not_true, Bool.and_true, Bool.true_and, Bool.false_and, Bool.and_false, Bool.and_self, Nat.reduceBEq, Nat.reduceAdd, Nat.reduceEqDiff, Nat.reduceLeDiff, Nat.reduceLT, Nat.zero_le, Nat.le_refl, if_true, if_false, ite_true, ite_false, true_and, and_true, true_or, or_true, not_false_eq_true, not_true_eq_false, e_set_self, Nat.succ_ne_zero, eq_self, c_X8_isErrorCode, k1, k2, i1, i2, n_10, e_set_slot, zero_01, one_01, e_b_0, e_b_01, or_self, or_false, false_or, R_1_0, R_1_1, R_1_2, R_1_3, R_1_4, R_1_5, R_1_6, R_32_0, R_32_1, R_32_2, R_36_0, R_36_1, R_36_2, R_36_3, R_37_0, R_37_1, R_37_2, R_68_0, R_70_0, R_164_0, R_164_1, R_164_3, R_164_5, R_164_6, R_164_7, R_164_8, R_164_10, R_164_11, R_2_4, R_2_5, ok_1, ok_32, ok_36, ok_37, ok_68, ok_70, ok_164, ok_2, ok_3, sz_3, ok_4, sz_4, ok_33, sz_33, ok_34, sz_34, ok_35, sz_35, ok_38, sz_38, ok_39, sz_39, ok_40, sz_40, ok_41, sz_41, ok_66, sz_66, ok_67, sz_67, ok_69, sz_69, ok_71, sz_71, ok_162, sz_162, ok_163, sz_163, ok_165, sz_165, ok_166, sz_166, ok_167, sz_167, ok_168, sz_168, ok_169, sz_169, ok_170, sz_170, ok_171, sz_171, ok_172, sz_172, ok_173, sz_173, tn_0, tn_1, tn_2, tn_3, tn_4, tn_5, tn_6, tn_7, tn_8, tn_9, tn_10, tn_11, tn_12, tn_13, tn_14, tn_15, tn_16, tn_17, tn_18, tn_19, tn_20, tn_21, tn_22, tn_23, tn_24, tn_25, tn_26, tn_27, in_0, in_1, in_2, in_3, in_4, in_5, in_6, in_7, in_8, in_9, in_10, in_11, in_12, in_13, in_14, in_15, in_16, in_17, in_18, in_19, in_20, in_21, in_22, in_23, in_24, in_25, in_26, in_27, e_rf_s]
theorem c_X9_error {i : Nat} (hi : i < 5) {v : Int32} (hv : v = -(nI (i + 2))) : Wp xs L kX9_error_0 [(0, .ref (164 : Nat)), (1, .int v)] [] (173, m, e_rs sv) Q = Q (some (.int v), (173, e_set m 168 (i + 2) (m 168 (i + 2) + 1), e_rs sv)) := by
  have k2 : -v = nI (i + 2) := by
    subst hv
    have : i = 0 ∨ i = 1 ∨ i = 2 ∨ i = 3 ∨ i = 4 := by omega
    rcases this with rfl | rfl | rfl | rfl | rfl <;> decide
  have i1 : e_in (nI (i + 2)) 7 = true := e_in_nI (by omega) (by omega)
  have i2 : (nI (i + 2)).toNatClampNeg = i + 2 := nI_nat (by omega)
  simp only [r_aload_n, r_dup2, r_getf0, r_getf1, r_getf2, r_iadd, r_iald, r_iast, r_iconst, r_iload_n, r_ineg, r_iret0, r_iret1, r_nop, kX9_error_0, lX9_error_0, sl_n, sl_i, sl_r, sl_l, e_wi_s, e_wr_s, e_wl_s, e_lk, e_sto, e_ok, e_no, e_isL, Option.toList_some, Option.toList_none, List.cons_append, List.nil_append, List.length_cons, List.length_nil, Bool.not_false, Bool.not_true, Bool.and_true, Bool.true_and, Bool.false_and, Bool.and_false, Bool.and_self, Nat.reduceBEq, Nat.reduceAdd, Nat.reduceEqDiff, Nat.reduceLeDiff, Nat.reduceLT, Nat.zero_le, Nat.le_refl, if_true, if_false, ite_true, ite_false, true_and, and_true, true_or, or_true, not_false_eq_true, not_true_eq_false, e_set_self, Nat.succ_ne_zero, eq_self, k2, i1, i2, e_set_slot, zero_01, one_01, e_b_0, e_b_01, or_self, or_false, false_or, R_1_0, R_1_1, R_1_2, R_1_3, R_1_4, R_1_5, R_1_6, R_32_0, R_32_1, R_32_2, R_36_0, R_36_1, R_36_2, R_36_3, R_37_0, R_37_1, R_37_2, R_68_0, R_70_0, R_164_0, R_164_1, R_164_3, R_164_5, R_164_6, R_164_7, R_164_8, R_164_10, R_164_11, R_2_4, R_2_5, ok_1, ok_32, ok_36, ok_37, ok_68, ok_70, ok_164, ok_2, ok_3, sz_3, ok_4, sz_4, ok_33, sz_33, ok_34, sz_34, ok_35, sz_35, ok_38, sz_38, ok_39, sz_39, ok_40, sz_40, ok_41, sz_41, ok_66, sz_66, ok_67, sz_67, ok_69, sz_69, ok_71, sz_71, ok_162, sz_162, ok_163, sz_163, ok_165, sz_165, ok_166, sz_166, ok_167, sz_167, ok_168, sz_168, ok_169, sz_169, ok_170, sz_170, ok_171, sz_171, ok_172, sz_172, ok_173, sz_173, tn_0, tn_1, tn_2, tn_3, tn_4, tn_5, tn_6, tn_7, tn_8, tn_9, tn_10, tn_11, tn_12, tn_13, tn_14, tn_15, tn_16, tn_17, tn_18, tn_19, tn_20, tn_21, tn_22, tn_23, tn_24, tn_25, tn_26, tn_27, in_0, in_1, in_2, in_3, in_4, in_5, in_6, in_7, in_8, in_9, in_10, in_11, in_12, in_13, in_14, in_15, in_16, in_17, in_18, in_19, in_20, in_21, in_22, in_23, in_24, in_25, in_26, in_27, e_rf_s]
end P27
