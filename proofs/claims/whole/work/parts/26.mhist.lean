/-! the reference's history -/
/-- nothing but the past changed -/
def Fs (m m' : e_Tb) : Prop := ∀ c, c ≠ 166 → m' c = m c
theorem Fs.rf {m : e_Tb} : Fs m m := fun _ _ => rfl
theorem Fs.set {m m' : e_Tb} (h : Fs m m') {s : Nat} {v : Int32} : Fs m (e_set m' 166 s v) := fun x hx => by
  rw [← h x hx]
  funext k
  exact e_set_cell hx
theorem mw_in {c o c' o' : Nat} {m m' : e_Tb} (h : ∀ j, j < 220 → m' c (o + j) = m c' (o' + j)) : mw c o m' = mw c' o' m := by
  funext k i
  unfold mw
  by_cases hv : e_valb k i = true
  · rw [if_pos hv, if_pos hv]
    exact h _ (mp_lt (e_valb_iff.mp hv))
  · rw [if_neg hv, if_neg hv]
theorem nI_ltL {i b : Nat} {B : Int32} (hB : B = nI b) (hb : b < 1000) (h : i < b) : (nI i < B) = True := eq_true (by rw [hB]; exact nI_lt (by omega) (by omega))
theorem nI_nltL {i b : Nat} {B : Int32} (hB : B = nI b) (hb : b < 1000) (hi : i < 1000) (h : b ≤ i) : (nI i < B) = False := eq_false (by rw [hB]; exact nI_nlt (by omega) (by omega))
section P26
variable {xs : Nat → Int32} {L : Nat} {Q : e_Rs → Prop} {sv : Nat → Nat}
theorem lp_shift {m0 : e_Tb} : ∀ (d i : Nat), i + d = 440 → ∀ m, Fs m0 m → (∀ j, m 166 j = if j < i then m0 166 (j + 220) else m0 166 j) →
    (∀ m', Fs m0 m' → (∀ j, m' 166 j = if j < 440 then m0 166 (j + 220) else m0 166 j) → Wp xs L kX9_save_39 [(0, .ref (164 : Nat)), (1, .int (nI 440))] [] (173, m', e_rs sv) Q) →
    Wp xs L kX9_save_10 [(0, .ref (164 : Nat)), (1, .int (nI i))] [] (173, m, e_rs sv) Q
  | 0, i, hi, m, hm, hv, hQ => by
    have hin : i = 440 := by omega
    subst hin
    have e1 : (nI 440 < 440) = False := by decide
    have fin := hQ m hm hv
    rw [kX9_save_10]
    simp only [r_aload_n, r_dupa, r_dupi, r_getf0, r_getf1, r_getf2, r_goto, r_iadd, r_iald, r_iast, r_ic_ge, r_ic_ne, r_iconst, r_iinc, r_iload_n, r_imul, r_istore_n, r_isub, r_nop, r_putf0, r_putf1, r_ret, r_sipush, kX9_save_0, kX9_save_85, lX9_save_0, lX9_save_10, lX9_save_39, lX9_save_49, lX9_save_51, lX9_save_85, sl_n, sl_i, sl_r, sl_l, e_wi_s, e_wr_s, e_wl_s, e_lk, e_sto, e_ok, e_no, e_isL, Option.toList_some, Option.toList_none, List.cons_append, List.nil_append, List.length_cons, List.length_nil, Bool.not_false, Bool.not_true, Bool.and_true, Bool.true_and, Bool.false_and, Bool.and_false, Bool.and_self, Nat.reduceBEq, Nat.reduceAdd, Nat.reduceEqDiff, Nat.reduceLeDiff, Nat.reduceLT, Nat.zero_le, Nat.le_refl, if_true, if_false, ite_true, ite_false, true_and, and_true, true_or, or_true, not_false_eq_true, not_true_eq_false, e_set_self, Nat.succ_ne_zero, eq_self, e1, e_set_slot, zero_01, one_01, e_b_0, e_b_01, or_self, or_false, false_or, R_1_0, R_1_1, R_1_2, R_1_3, R_1_4, R_1_5, R_1_6, R_32_0, R_32_1, R_32_2, R_36_0, R_36_1, R_36_2, R_36_3, R_37_0, R_37_1, R_37_2, R_68_0, R_70_0, R_164_0, R_164_1, R_164_3, R_164_5, R_164_6, R_164_7, R_164_8, R_164_10, R_164_11, R_2_4, R_2_5, ok_1, ok_32, ok_36, ok_37, ok_68, ok_70, ok_164, ok_2, ok_3, sz_3, ok_4, sz_4, ok_33, sz_33, ok_34, sz_34, ok_35, sz_35, ok_38, sz_38, ok_39, sz_39, ok_40, sz_40, ok_41, sz_41, ok_66, sz_66, ok_67, sz_67, ok_69, sz_69, ok_71, sz_71, ok_162, sz_162, ok_163, sz_163, ok_165, sz_165, ok_166, sz_166, ok_167, sz_167, ok_168, sz_168, ok_169, sz_169, ok_170, sz_170, ok_171, sz_171, ok_172, sz_172, ok_173, sz_173, tn_0, tn_1, tn_2, tn_3, tn_4, tn_5, tn_6, tn_7, tn_8, tn_9, tn_10, tn_11, tn_12, tn_13, tn_14, tn_15, tn_16, tn_17, tn_18, tn_19, tn_20, tn_21, tn_22, tn_23, tn_24, tn_25, tn_26, tn_27, in_0, in_1, in_2, in_3, in_4, in_5, in_6, in_7, in_8, in_9, in_10, in_11, in_12, in_13, in_14, in_15, in_16, in_17, in_18, in_19, in_20, in_21, in_22, in_23, in_24, in_25, in_26, in_27, e_rf_s]
    exact fin
  | d + 1, i, hi, m, hm, hv, hQ => by
    have e1 : (nI i < 440) = True := nI_ltL (b := 440) rfl (by decide) (by omega)
    have i1 : e_in (nI i) 660 = true := e_in_nI (by omega) (by omega)
    have i2 : (nI i).toNatClampNeg = i := nI_nat (by omega)
    have a1 : nI i + 220 = nI (i + 220) := by rw [show (220 : Int32) = nI 220 from rfl, nI_add]
    have i3 : e_in (nI (i + 220)) 660 = true := e_in_nI (by omega) (by omega)
    have i4 : (nI (i + 220)).toNatClampNeg = i + 220 := nI_nat (by omega)
    have i5 : nI i + 1 = nI (i + 1) := nI_1 i
    have key := lp_shift d (i + 1) (by omega) (e_set m 166 i (m 166 (i + 220))) hm.set (fun j => by
      rw [hv (i + 220), if_neg (by omega)]
      by_cases hj : j = i
      · subst hj
        rw [e_set_self, if_pos (by omega)]
      · rw [e_set_slot hj, hv j]
        by_cases h2 : j < i
        · rw [if_pos h2, if_pos (by omega)]
        · rw [if_neg h2, if_neg (by omega)]) hQ
    rw [kX9_save_10]
    simp only [r_aload_n, r_dupa, r_dupi, r_getf0, r_getf1, r_getf2, r_goto, r_iadd, r_iald, r_iast, r_ic_ge, r_ic_ne, r_iconst, r_iinc, r_iload_n, r_imul, r_istore_n, r_isub, r_nop, r_putf0, r_putf1, r_ret, r_sipush, kX9_save_0, kX9_save_85, lX9_save_0, lX9_save_10, lX9_save_39, lX9_save_49, lX9_save_51, lX9_save_85, sl_n, sl_i, sl_r, sl_l, e_wi_s, e_wr_s, e_wl_s, e_lk, e_sto, e_ok, e_no, e_isL, Option.toList_some, Option.toList_none, List.cons_append, List.nil_append, List.length_cons, List.length_nil, Bool.not_false, Bool.not_true, Bool.and_true, Bool.true_and, Bool.false_and, Bool.and_false, Bool.and_self, Nat.reduceBEq, Nat.reduceAdd, Nat.reduceEqDiff, Nat.reduceLeDiff, Nat.reduceLT, Nat.zero_le, Nat.le_refl, if_true, if_false, ite_true, ite_false, true_and, and_true, true_or, or_true, not_false_eq_true, not_true_eq_false, e_set_self, Nat.succ_ne_zero, eq_self, e1, i1, i2, a1, i3, i4, i5, e_set_slot, zero_01, one_01, e_b_0, e_b_01, or_self, or_false, false_or, R_1_0, R_1_1, R_1_2, R_1_3, R_1_4, R_1_5, R_1_6, R_32_0, R_32_1, R_32_2, R_36_0, R_36_1, R_36_2, R_36_3, R_37_0, R_37_1, R_37_2, R_68_0, R_70_0, R_164_0, R_164_1, R_164_3, R_164_5, R_164_6, R_164_7, R_164_8, R_164_10, R_164_11, R_2_4, R_2_5, ok_1, ok_32, ok_36, ok_37, ok_68, ok_70, ok_164, ok_2, ok_3, sz_3, ok_4, sz_4, ok_33, sz_33, ok_34, sz_34, ok_35, sz_35, ok_38, sz_38, ok_39, sz_39, ok_40, sz_40, ok_41, sz_41, ok_66, sz_66, ok_67, sz_67, ok_69, sz_69, ok_71, sz_71, ok_162, sz_162, ok_163, sz_163, ok_165, sz_165, ok_166, sz_166, ok_167, sz_167, ok_168, sz_168, ok_169, sz_169, ok_170, sz_170, ok_171, sz_171, ok_172, sz_172, ok_173, sz_173, tn_0, tn_1, tn_2, tn_3, tn_4, tn_5, tn_6, tn_7, tn_8, tn_9, tn_10, tn_11, tn_12, tn_13, tn_14, tn_15, tn_16, tn_17, tn_18, tn_19, tn_20, tn_21, tn_22, tn_23, tn_24, tn_25, tn_26, tn_27, in_0, in_1, in_2, in_3, in_4, in_5, in_6, in_7, in_8, in_9, in_10, in_11, in_12, in_13, in_14, in_15, in_16, in_17, in_18, in_19, in_20, in_21, in_22, in_23, in_24, in_25, in_26, in_27, e_rf_s]
    exact key
theorem lp_store {c : Nat} (hc : c < 3) {m0 : e_Tb} (hs : m0 164 2 = nI c) : ∀ (d i : Nat), i + d = 220 → ∀ m, Fs m0 m → (∀ j, m 166 j = if 220 * c ≤ j ∧ j < 220 * c + i then m0 165 (j - 220 * c) else m0 166 j) →
    (∀ m', Fs m0 m' → (∀ j, m' 166 j = if 220 * c ≤ j ∧ j < 220 * c + 220 then m0 165 (j - 220 * c) else m0 166 j) → Q (none, (173, e_set m' 164 2 (nI (c + 1)), e_rs sv))) →
    Wp xs L kX9_save_51 [(0, .ref (164 : Nat)), (1, .int (nI i))] [] (173, m, e_rs sv) Q
  | 0, i, hi, m, hm, hv, hQ => by
    have hin : i = 220 := by omega
    subst hin
    have e1 : (nI 220 < 220) = False := by decide
    have fin := hQ m hm hv
    have s1 : m 164 2 = nI c := by rw [hm 164 (by decide)]; exact hs
    have s2 : nI c + 1 = nI (c + 1) := nI_1 c
    rw [kX9_save_51]
    simp only [r_aload_n, r_dupa, r_dupi, r_getf0, r_getf1, r_getf2, r_goto, r_iadd, r_iald, r_iast, r_ic_ge, r_ic_ne, r_iconst, r_iinc, r_iload_n, r_imul, r_istore_n, r_isub, r_nop, r_putf0, r_putf1, r_ret, r_sipush, kX9_save_0, kX9_save_85, lX9_save_0, lX9_save_10, lX9_save_39, lX9_save_49, lX9_save_51, lX9_save_85, sl_n, sl_i, sl_r, sl_l, e_wi_s, e_wr_s, e_wl_s, e_lk, e_sto, e_ok, e_no, e_isL, Option.toList_some, Option.toList_none, List.cons_append, List.nil_append, List.length_cons, List.length_nil, Bool.not_false, Bool.not_true, Bool.and_true, Bool.true_and, Bool.false_and, Bool.and_false, Bool.and_self, Nat.reduceBEq, Nat.reduceAdd, Nat.reduceEqDiff, Nat.reduceLeDiff, Nat.reduceLT, Nat.zero_le, Nat.le_refl, if_true, if_false, ite_true, ite_false, true_and, and_true, true_or, or_true, not_false_eq_true, not_true_eq_false, e_set_self, Nat.succ_ne_zero, eq_self, e1, s1, s2, e_set_slot, zero_01, one_01, e_b_0, e_b_01, or_self, or_false, false_or, R_1_0, R_1_1, R_1_2, R_1_3, R_1_4, R_1_5, R_1_6, R_32_0, R_32_1, R_32_2, R_36_0, R_36_1, R_36_2, R_36_3, R_37_0, R_37_1, R_37_2, R_68_0, R_70_0, R_164_0, R_164_1, R_164_3, R_164_5, R_164_6, R_164_7, R_164_8, R_164_10, R_164_11, R_2_4, R_2_5, ok_1, ok_32, ok_36, ok_37, ok_68, ok_70, ok_164, ok_2, ok_3, sz_3, ok_4, sz_4, ok_33, sz_33, ok_34, sz_34, ok_35, sz_35, ok_38, sz_38, ok_39, sz_39, ok_40, sz_40, ok_41, sz_41, ok_66, sz_66, ok_67, sz_67, ok_69, sz_69, ok_71, sz_71, ok_162, sz_162, ok_163, sz_163, ok_165, sz_165, ok_166, sz_166, ok_167, sz_167, ok_168, sz_168, ok_169, sz_169, ok_170, sz_170, ok_171, sz_171, ok_172, sz_172, ok_173, sz_173, tn_0, tn_1, tn_2, tn_3, tn_4, tn_5, tn_6, tn_7, tn_8, tn_9, tn_10, tn_11, tn_12, tn_13, tn_14, tn_15, tn_16, tn_17, tn_18, tn_19, tn_20, tn_21, tn_22, tn_23, tn_24, tn_25, tn_26, tn_27, in_0, in_1, in_2, in_3, in_4, in_5, in_6, in_7, in_8, in_9, in_10, in_11, in_12, in_13, in_14, in_15, in_16, in_17, in_18, in_19, in_20, in_21, in_22, in_23, in_24, in_25, in_26, in_27, e_rf_s]
    exact fin
  | d + 1, i, hi, m, hm, hv, hQ => by
    have e1 : (nI i < 220) = True := nI_ltL (b := 220) rfl (by decide) (by omega)
    have i1 : e_in (nI i) 220 = true := e_in_nI (by omega) (by omega)
    have i2 : (nI i).toNatClampNeg = i := nI_nat (by omega)
    have s1 : m 164 2 = nI c := by rw [hm 164 (by decide)]; exact hs
    have a1 : 220 * nI c = nI (220 * c) := by rw [show (220 : Int32) = nI 220 from rfl, pk_mul]
    have a2 : nI (220 * c) + nI i = nI (220 * c + i) := nI_add _ _
    have i3 : e_in (nI (220 * c + i)) 660 = true := e_in_nI (by omega) (by omega)
    have i4 : (nI (220 * c + i)).toNatClampNeg = 220 * c + i := nI_nat (by omega)
    have i5 : nI i + 1 = nI (i + 1) := nI_1 i
    have key := lp_store hc hs d (i + 1) (by omega) (e_set m 166 (220 * c + i) (m 165 i)) hm.set (fun j => by
      rw [hm 165 (by decide)]
      by_cases hj : j = 220 * c + i
      · subst hj
        rw [e_set_self, if_pos (by omega)]
        congr 1
        omega
      · rw [e_set_slot hj, hv j]
        by_cases h2 : 220 * c ≤ j ∧ j < 220 * c + i
        · rw [if_pos h2, if_pos (by omega)]
        · rw [if_neg h2, if_neg (by omega)]) hQ
    rw [kX9_save_51]
    simp only [r_aload_n, r_dupa, r_dupi, r_getf0, r_getf1, r_getf2, r_goto, r_iadd, r_iald, r_iast, r_ic_ge, r_ic_ne, r_iconst, r_iinc, r_iload_n, r_imul, r_istore_n, r_isub, r_nop, r_putf0, r_putf1, r_ret, r_sipush, kX9_save_0, kX9_save_85, lX9_save_0, lX9_save_10, lX9_save_39, lX9_save_49, lX9_save_51, lX9_save_85, sl_n, sl_i, sl_r, sl_l, e_wi_s, e_wr_s, e_wl_s, e_lk, e_sto, e_ok, e_no, e_isL, Option.toList_some, Option.toList_none, List.cons_append, List.nil_append, List.length_cons, List.length_nil, Bool.not_false, Bool.not_true, Bool.and_true, Bool.true_and, Bool.false_and, Bool.and_false, Bool.and_self, Nat.reduceBEq, Nat.reduceAdd, Nat.reduceEqDiff, Nat.reduceLeDiff, Nat.reduceLT, Nat.zero_le, Nat.le_refl, if_true, if_false, ite_true, ite_false, true_and, and_true, true_or, or_true, not_false_eq_true, not_true_eq_false, e_set_self, Nat.succ_ne_zero, eq_self, e1, i1, i2, s1, a1, a2, i3, i4, i5, e_set_slot, zero_01, one_01, e_b_0, e_b_01, or_self, or_false, false_or, R_1_0, R_1_1, R_1_2, R_1_3, R_1_4, R_1_5, R_1_6, R_32_0, R_32_1, R_32_2, R_36_0, R_36_1, R_36_2, R_36_3, R_37_0, R_37_1, R_37_2, R_68_0, R_70_0, R_164_0, R_164_1, R_164_3, R_164_5, R_164_6, R_164_7, R_164_8, R_164_10, R_164_11, R_2_4, R_2_5, ok_1, ok_32, ok_36, ok_37, ok_68, ok_70, ok_164, ok_2, ok_3, sz_3, ok_4, sz_4, ok_33, sz_33, ok_34, sz_34, ok_35, sz_35, ok_38, sz_38, ok_39, sz_39, ok_40, sz_40, ok_41, sz_41, ok_66, sz_66, ok_67, sz_67, ok_69, sz_69, ok_71, sz_71, ok_162, sz_162, ok_163, sz_163, ok_165, sz_165, ok_166, sz_166, ok_167, sz_167, ok_168, sz_168, ok_169, sz_169, ok_170, sz_170, ok_171, sz_171, ok_172, sz_172, ok_173, sz_173, tn_0, tn_1, tn_2, tn_3, tn_4, tn_5, tn_6, tn_7, tn_8, tn_9, tn_10, tn_11, tn_12, tn_13, tn_14, tn_15, tn_16, tn_17, tn_18, tn_19, tn_20, tn_21, tn_22, tn_23, tn_24, tn_25, tn_26, tn_27, in_0, in_1, in_2, in_3, in_4, in_5, in_6, in_7, in_8, in_9, in_10, in_11, in_12, in_13, in_14, in_15, in_16, in_17, in_18, in_19, in_20, in_21, in_22, in_23, in_24, in_25, in_26, in_27, e_rf_s]
    exact key
/-- nothing but the past and its count changed -/
def Fq (m m' : e_Tb) : Prop := (∀ c, c ≠ 166 → c ≠ 164 → m' c = m c) ∧ ∀ s, s ≠ 2 → m' 164 s = m 164 s
theorem c_X9_save {m : e_Tb} {c : Nat} (hc : c ≤ 3) (hm : m 164 2 = nI c)
    (hQ : ∀ m', Fq m m' → m' 164 2 = nI (if c = 3 then 3 else c + 1) → (∀ i, i < (if c = 3 then 2 else c) → mw 166 (220 * i) m' = mw 166 (220 * (if c = 3 then i + 1 else i)) m) → mw 166 (220 * (if c = 3 then 2 else c)) m' = mw 165 0 m → Q (none, (173, m', e_rs sv))) :
    Wp xs L kX9_save_0 [(0, .ref (164 : Nat))] [] (173, m, e_rs sv) Q := by
  have st : ∀ (m1 : e_Tb) (j : Nat) (tl : Int32), j < 3 → m1 164 2 = nI j →
      (∀ m2, Fq m1 m2 → m2 164 2 = nI (j + 1) → (∀ i, i < j → mw 166 (220 * i) m2 = mw 166 (220 * i) m1) → mw 166 (220 * j) m2 = mw 165 0 m1 → Q (none, (173, m2, e_rs sv))) →
      Wp xs L kX9_save_51 [(0, .ref (164 : Nat)), (1, .int (nI 0))] [] (173, m1, e_rs sv) Q := by
    intro m1 j tl hj h1 hQ1
    refine lp_store hj h1 220 0 (by omega) m1 Fs.rf (fun x => by rw [if_neg (by omega)]) (fun m2 f2 v2 => hQ1 _ ⟨fun c h h' => ?_, fun s hs => ?_⟩ (by rw [e_set_self]) (fun i hi => ?_) ?_)
    · rw [← f2 c h]; funext s; exact e_set_cell h'
    · rw [e_set_slot hs, f2 164 (by decide)]
    · rw [mw_cell (by decide)]
      exact mw_in (fun x hx => by rw [v2, if_neg (by omega)])
    · rw [mw_cell (by decide)]
      exact mw_in (fun x hx => by
        rw [v2, if_pos (by omega)]
        congr 1
        omega)
  by_cases h3 : c = 3
  · subst h3
    have e1 : (nI 3 = 3) = True := by decide
    have n0 : (0 : Int32) = nI 0 := rfl
    have key := lp_shift (xs := xs) (L := L) (Q := Q) (sv := sv) (m0 := m) 440 0 (by omega) m Fs.rf (fun x => by rw [if_neg (by omega)]) (fun m1 f1 v1 => by
      have s1 : m1 164 2 = nI 3 := by rw [f1 164 (by decide)]; exact hm
      have s2 : nI 3 - 1 = nI 2 := by decide
      have k := st (e_set m1 164 2 (nI 2)) 2 0 (by decide) (by rw [e_set_self]) (fun m2 f2 c2 v2 w2 => hQ m2 ⟨fun c h h' => by
          rw [f2.1 c h h', ← f1 c h]
          funext s
          exact e_set_cell h', fun s hs => by rw [f2.2 s hs, e_set_slot hs, f1 164 (by decide)]⟩ c2 (fun i hi => by
          have hi : i < 2 := hi
          rw [v2 i hi, mw_cell (by decide)]
          exact mw_in (fun x hx => by
            rw [v1, if_pos (by omega)]
            congr 1
            simp only [if_true]
            omega)) (by
          refine w2.trans ?_
          rw [mw_cell (by decide)]
          exact mw_cong (f1 165 (by decide))))
      rw [kX9_save_39]
      simp only [r_aload_n, r_dupa, r_dupi, r_getf0, r_getf1, r_getf2, r_goto, r_iadd, r_iald, r_iast, r_ic_ge, r_ic_ne, r_iconst, r_iinc, r_iload_n, r_imul, r_istore_n, r_isub, r_nop, r_putf0, r_putf1, r_ret, r_sipush, kX9_save_0, kX9_save_85, lX9_save_0, lX9_save_10, lX9_save_39, lX9_save_49, lX9_save_51, lX9_save_85, sl_n, sl_i, sl_r, sl_l, e_wi_s, e_wr_s, e_wl_s, e_lk, e_sto, e_ok, e_no, e_isL, Option.toList_some, Option.toList_none, List.cons_append, List.nil_append, List.length_cons, List.length_nil, Bool.not_false, Bool.not_true, Bool.and_true, Bool.true_and, Bool.false_and, Bool.and_false, Bool.and_self, Nat.reduceBEq, Nat.reduceAdd, Nat.reduceEqDiff, Nat.reduceLeDiff, Nat.reduceLT, Nat.zero_le, Nat.le_refl, if_true, if_false, ite_true, ite_false, true_and, and_true, true_or, or_true, not_false_eq_true, not_true_eq_false, e_set_self, Nat.succ_ne_zero, eq_self, s1, s2, e_set_slot, zero_01, one_01, e_b_0, e_b_01, or_self, or_false, false_or, R_1_0, R_1_1, R_1_2, R_1_3, R_1_4, R_1_5, R_1_6, R_32_0, R_32_1, R_32_2, R_36_0, R_36_1, R_36_2, R_36_3, R_37_0, R_37_1, R_37_2, R_68_0, R_70_0, R_164_0, R_164_1, R_164_3, R_164_5, R_164_6, R_164_7, R_164_8, R_164_10, R_164_11, R_2_4, R_2_5, ok_1, ok_32, ok_36, ok_37, ok_68, ok_70, ok_164, ok_2, ok_3, sz_3, ok_4, sz_4, ok_33, sz_33, ok_34, sz_34, ok_35, sz_35, ok_38, sz_38, ok_39, sz_39, ok_40, sz_40, ok_41, sz_41, ok_66, sz_66, ok_67, sz_67, ok_69, sz_69, ok_71, sz_71, ok_162, sz_162, ok_163, sz_163, ok_165, sz_165, ok_166, sz_166, ok_167, sz_167, ok_168, sz_168, ok_169, sz_169, ok_170, sz_170, ok_171, sz_171, ok_172, sz_172, ok_173, sz_173, tn_0, tn_1, tn_2, tn_3, tn_4, tn_5, tn_6, tn_7, tn_8, tn_9, tn_10, tn_11, tn_12, tn_13, tn_14, tn_15, tn_16, tn_17, tn_18, tn_19, tn_20, tn_21, tn_22, tn_23, tn_24, tn_25, tn_26, tn_27, in_0, in_1, in_2, in_3, in_4, in_5, in_6, in_7, in_8, in_9, in_10, in_11, in_12, in_13, in_14, in_15, in_16, in_17, in_18, in_19, in_20, in_21, in_22, in_23, in_24, in_25, in_26, in_27, e_rf_s]
      rw [kX9_save_49]
      simp only [r_aload_n, r_dupa, r_dupi, r_getf0, r_getf1, r_getf2, r_goto, r_iadd, r_iald, r_iast, r_ic_ge, r_ic_ne, r_iconst, r_iinc, r_iload_n, r_imul, r_istore_n, r_isub, r_nop, r_putf0, r_putf1, r_ret, r_sipush, kX9_save_0, kX9_save_85, lX9_save_0, lX9_save_10, lX9_save_39, lX9_save_49, lX9_save_51, lX9_save_85, sl_n, sl_i, sl_r, sl_l, e_wi_s, e_wr_s, e_wl_s, e_lk, e_sto, e_ok, e_no, e_isL, Option.toList_some, Option.toList_none, List.cons_append, List.nil_append, List.length_cons, List.length_nil, Bool.not_false, Bool.not_true, Bool.and_true, Bool.true_and, Bool.false_and, Bool.and_false, Bool.and_self, Nat.reduceBEq, Nat.reduceAdd, Nat.reduceEqDiff, Nat.reduceLeDiff, Nat.reduceLT, Nat.zero_le, Nat.le_refl, if_true, if_false, ite_true, ite_false, true_and, and_true, true_or, or_true, not_false_eq_true, not_true_eq_false, e_set_self, Nat.succ_ne_zero, eq_self, e_set_slot, zero_01, one_01, e_b_0, e_b_01, or_self, or_false, false_or, R_1_0, R_1_1, R_1_2, R_1_3, R_1_4, R_1_5, R_1_6, R_32_0, R_32_1, R_32_2, R_36_0, R_36_1, R_36_2, R_36_3, R_37_0, R_37_1, R_37_2, R_68_0, R_70_0, R_164_0, R_164_1, R_164_3, R_164_5, R_164_6, R_164_7, R_164_8, R_164_10, R_164_11, R_2_4, R_2_5, ok_1, ok_32, ok_36, ok_37, ok_68, ok_70, ok_164, ok_2, ok_3, sz_3, ok_4, sz_4, ok_33, sz_33, ok_34, sz_34, ok_35, sz_35, ok_38, sz_38, ok_39, sz_39, ok_40, sz_40, ok_41, sz_41, ok_66, sz_66, ok_67, sz_67, ok_69, sz_69, ok_71, sz_71, ok_162, sz_162, ok_163, sz_163, ok_165, sz_165, ok_166, sz_166, ok_167, sz_167, ok_168, sz_168, ok_169, sz_169, ok_170, sz_170, ok_171, sz_171, ok_172, sz_172, ok_173, sz_173, tn_0, tn_1, tn_2, tn_3, tn_4, tn_5, tn_6, tn_7, tn_8, tn_9, tn_10, tn_11, tn_12, tn_13, tn_14, tn_15, tn_16, tn_17, tn_18, tn_19, tn_20, tn_21, tn_22, tn_23, tn_24, tn_25, tn_26, tn_27, in_0, in_1, in_2, in_3, in_4, in_5, in_6, in_7, in_8, in_9, in_10, in_11, in_12, in_13, in_14, in_15, in_16, in_17, in_18, in_19, in_20, in_21, in_22, in_23, in_24, in_25, in_26, in_27, e_rf_s]
      exact k)
    simp only [r_aload_n, r_dupa, r_dupi, r_getf0, r_getf1, r_getf2, r_goto, r_iadd, r_iald, r_iast, r_ic_ge, r_ic_ne, r_iconst, r_iinc, r_iload_n, r_imul, r_istore_n, r_isub, r_nop, r_putf0, r_putf1, r_ret, r_sipush, kX9_save_0, kX9_save_85, lX9_save_0, lX9_save_10, lX9_save_39, lX9_save_49, lX9_save_51, lX9_save_85, sl_n, sl_i, sl_r, sl_l, e_wi_s, e_wr_s, e_wl_s, e_lk, e_sto, e_ok, e_no, e_isL, Option.toList_some, Option.toList_none, List.cons_append, List.nil_append, List.length_cons, List.length_nil, Bool.not_false, Bool.not_true, Bool.and_true, Bool.true_and, Bool.false_and, Bool.and_false, Bool.and_self, Nat.reduceBEq, Nat.reduceAdd, Nat.reduceEqDiff, Nat.reduceLeDiff, Nat.reduceLT, Nat.zero_le, Nat.le_refl, if_true, if_false, ite_true, ite_false, true_and, and_true, true_or, or_true, not_false_eq_true, not_true_eq_false, e_set_self, Nat.succ_ne_zero, eq_self, hm, e1, e_set_slot, zero_01, one_01, e_b_0, e_b_01, or_self, or_false, false_or, R_1_0, R_1_1, R_1_2, R_1_3, R_1_4, R_1_5, R_1_6, R_32_0, R_32_1, R_32_2, R_36_0, R_36_1, R_36_2, R_36_3, R_37_0, R_37_1, R_37_2, R_68_0, R_70_0, R_164_0, R_164_1, R_164_3, R_164_5, R_164_6, R_164_7, R_164_8, R_164_10, R_164_11, R_2_4, R_2_5, ok_1, ok_32, ok_36, ok_37, ok_68, ok_70, ok_164, ok_2, ok_3, sz_3, ok_4, sz_4, ok_33, sz_33, ok_34, sz_34, ok_35, sz_35, ok_38, sz_38, ok_39, sz_39, ok_40, sz_40, ok_41, sz_41, ok_66, sz_66, ok_67, sz_67, ok_69, sz_69, ok_71, sz_71, ok_162, sz_162, ok_163, sz_163, ok_165, sz_165, ok_166, sz_166, ok_167, sz_167, ok_168, sz_168, ok_169, sz_169, ok_170, sz_170, ok_171, sz_171, ok_172, sz_172, ok_173, sz_173, tn_0, tn_1, tn_2, tn_3, tn_4, tn_5, tn_6, tn_7, tn_8, tn_9, tn_10, tn_11, tn_12, tn_13, tn_14, tn_15, tn_16, tn_17, tn_18, tn_19, tn_20, tn_21, tn_22, tn_23, tn_24, tn_25, tn_26, tn_27, in_0, in_1, in_2, in_3, in_4, in_5, in_6, in_7, in_8, in_9, in_10, in_11, in_12, in_13, in_14, in_15, in_16, in_17, in_18, in_19, in_20, in_21, in_22, in_23, in_24, in_25, in_26, in_27, e_rf_s]
    exact key
  · have hc3 : c < 3 := by omega
    have e1 : (nI c = 3) = False := eq_false (fun h => h3 (by
      have h2 : (nI c).toNatClampNeg = c := nI_nat (by omega)
      rw [h] at h2
      exact h2.symm))
    simp only [h3, if_false] at hQ
    have f := st m c 0 hc3 hm (fun m2 f2 c2 v2 w2 => hQ m2 f2 c2 v2 w2)
    simp only [r_aload_n, r_dupa, r_dupi, r_getf0, r_getf1, r_getf2, r_goto, r_iadd, r_iald, r_iast, r_ic_ge, r_ic_ne, r_iconst, r_iinc, r_iload_n, r_imul, r_istore_n, r_isub, r_nop, r_putf0, r_putf1, r_ret, r_sipush, kX9_save_0, kX9_save_85, lX9_save_0, lX9_save_10, lX9_save_39, lX9_save_49, lX9_save_51, lX9_save_85, sl_n, sl_i, sl_r, sl_l, e_wi_s, e_wr_s, e_wl_s, e_lk, e_sto, e_ok, e_no, e_isL, Option.toList_some, Option.toList_none, List.cons_append, List.nil_append, List.length_cons, List.length_nil, Bool.not_false, Bool.not_true, Bool.and_true, Bool.true_and, Bool.false_and, Bool.and_false, Bool.and_self, Nat.reduceBEq, Nat.reduceAdd, Nat.reduceEqDiff, Nat.reduceLeDiff, Nat.reduceLT, Nat.zero_le, Nat.le_refl, if_true, if_false, ite_true, ite_false, true_and, and_true, true_or, or_true, not_false_eq_true, not_true_eq_false, e_set_self, Nat.succ_ne_zero, eq_self, hm, e1, e_set_slot, zero_01, one_01, e_b_0, e_b_01, or_self, or_false, false_or, R_1_0, R_1_1, R_1_2, R_1_3, R_1_4, R_1_5, R_1_6, R_32_0, R_32_1, R_32_2, R_36_0, R_36_1, R_36_2, R_36_3, R_37_0, R_37_1, R_37_2, R_68_0, R_70_0, R_164_0, R_164_1, R_164_3, R_164_5, R_164_6, R_164_7, R_164_8, R_164_10, R_164_11, R_2_4, R_2_5, ok_1, ok_32, ok_36, ok_37, ok_68, ok_70, ok_164, ok_2, ok_3, sz_3, ok_4, sz_4, ok_33, sz_33, ok_34, sz_34, ok_35, sz_35, ok_38, sz_38, ok_39, sz_39, ok_40, sz_40, ok_41, sz_41, ok_66, sz_66, ok_67, sz_67, ok_69, sz_69, ok_71, sz_71, ok_162, sz_162, ok_163, sz_163, ok_165, sz_165, ok_166, sz_166, ok_167, sz_167, ok_168, sz_168, ok_169, sz_169, ok_170, sz_170, ok_171, sz_171, ok_172, sz_172, ok_173, sz_173, tn_0, tn_1, tn_2, tn_3, tn_4, tn_5, tn_6, tn_7, tn_8, tn_9, tn_10, tn_11, tn_12, tn_13, tn_14, tn_15, tn_16, tn_17, tn_18, tn_19, tn_20, tn_21, tn_22, tn_23, tn_24, tn_25, tn_26, tn_27, in_0, in_1, in_2, in_3, in_4, in_5, in_6, in_7, in_8, in_9, in_10, in_11, in_12, in_13, in_14, in_15, in_16, in_17, in_18, in_19, in_20, in_21, in_22, in_23, in_24, in_25, in_26, in_27, e_rf_s]
    rw [kX9_save_49]
    simp only [r_aload_n, r_dupa, r_dupi, r_getf0, r_getf1, r_getf2, r_goto, r_iadd, r_iald, r_iast, r_ic_ge, r_ic_ne, r_iconst, r_iinc, r_iload_n, r_imul, r_istore_n, r_isub, r_nop, r_putf0, r_putf1, r_ret, r_sipush, kX9_save_0, kX9_save_85, lX9_save_0, lX9_save_10, lX9_save_39, lX9_save_49, lX9_save_51, lX9_save_85, sl_n, sl_i, sl_r, sl_l, e_wi_s, e_wr_s, e_wl_s, e_lk, e_sto, e_ok, e_no, e_isL, Option.toList_some, Option.toList_none, List.cons_append, List.nil_append, List.length_cons, List.length_nil, Bool.not_false, Bool.not_true, Bool.and_true, Bool.true_and, Bool.false_and, Bool.and_false, Bool.and_self, Nat.reduceBEq, Nat.reduceAdd, Nat.reduceEqDiff, Nat.reduceLeDiff, Nat.reduceLT, Nat.zero_le, Nat.le_refl, if_true, if_false, ite_true, ite_false, true_and, and_true, true_or, or_true, not_false_eq_true, not_true_eq_false, e_set_self, Nat.succ_ne_zero, eq_self, e_set_slot, zero_01, one_01, e_b_0, e_b_01, or_self, or_false, false_or, R_1_0, R_1_1, R_1_2, R_1_3, R_1_4, R_1_5, R_1_6, R_32_0, R_32_1, R_32_2, R_36_0, R_36_1, R_36_2, R_36_3, R_37_0, R_37_1, R_37_2, R_68_0, R_70_0, R_164_0, R_164_1, R_164_3, R_164_5, R_164_6, R_164_7, R_164_8, R_164_10, R_164_11, R_2_4, R_2_5, ok_1, ok_32, ok_36, ok_37, ok_68, ok_70, ok_164, ok_2, ok_3, sz_3, ok_4, sz_4, ok_33, sz_33, ok_34, sz_34, ok_35, sz_35, ok_38, sz_38, ok_39, sz_39, ok_40, sz_40, ok_41, sz_41, ok_66, sz_66, ok_67, sz_67, ok_69, sz_69, ok_71, sz_71, ok_162, sz_162, ok_163, sz_163, ok_165, sz_165, ok_166, sz_166, ok_167, sz_167, ok_168, sz_168, ok_169, sz_169, ok_170, sz_170, ok_171, sz_171, ok_172, sz_172, ok_173, sz_173, tn_0, tn_1, tn_2, tn_3, tn_4, tn_5, tn_6, tn_7, tn_8, tn_9, tn_10, tn_11, tn_12, tn_13, tn_14, tn_15, tn_16, tn_17, tn_18, tn_19, tn_20, tn_21, tn_22, tn_23, tn_24, tn_25, tn_26, tn_27, in_0, in_1, in_2, in_3, in_4, in_5, in_6, in_7, in_8, in_9, in_10, in_11, in_12, in_13, in_14, in_15, in_16, in_17, in_18, in_19, in_20, in_21, in_22, in_23, in_24, in_25, in_26, in_27, e_rf_s]
    exact f
theorem lp_undo {c : Nat} (hc : c < 3) {m0 : e_Tb} (hs : m0 164 2 = nI c) : ∀ (d i : Nat), i + d = 220 → ∀ m, (∀ x, x ≠ 165 → m x = m0 x) → (∀ j, m 165 j = if j < i then m0 166 (220 * c + j) else m0 165 j) →
    (∀ m', (∀ x, x ≠ 165 → m' x = m0 x) → (∀ j, j < 220 → m' 165 j = m0 166 (220 * c + j)) → Q (some (.int (nI c)), (173, m', e_rs sv))) →
    Wp xs L kX9_undo_26 [(0, .ref (164 : Nat)), (1, .int (nI i))] [] (173, m, e_rs sv) Q
  | 0, i, hi, m, hm, hv, hQ => by
    have hin : i = 220 := by omega
    subst hin
    have e1 : (nI 220 < 220) = False := by decide
    have fin := hQ m hm (fun j hj => by rw [hv, if_pos hj])
    have s1 : m 164 2 = nI c := by rw [hm 164 (by decide)]; exact hs
    rw [kX9_undo_26]
    simp only [r_aload_n, r_bipush, r_dupa, r_dupi, r_getf0, r_getf1, r_getf2, r_goto, r_iadd, r_iald, r_iast, r_ic_ge, r_iconst, r_if_ne, r_iinc, r_iload_n, r_imul, r_iret0, r_iret1, r_istore_n, r_isub, r_nop, r_putf0, r_putf1, r_sipush, kX9_undo_0, kX9_undo_60, lX9_undo_0, lX9_undo_14, lX9_undo_26, lX9_undo_60, vX9_error, sl_n, sl_i, sl_r, sl_l, e_wi_s, e_wr_s, e_wl_s, e_lk, e_sto, e_ok, e_no, e_isL, Option.toList_some, Option.toList_none, List.cons_append, List.nil_append, List.length_cons, List.length_nil, Bool.not_false, Bool.not_true, Bool.and_true, Bool.true_and, Bool.false_and, Bool.and_false, Bool.and_self, Nat.reduceBEq, Nat.reduceAdd, Nat.reduceEqDiff, Nat.reduceLeDiff, Nat.reduceLT, Nat.zero_le, Nat.le_refl, if_true, if_false, ite_true, ite_false, true_and, and_true, true_or, or_true, not_false_eq_true, not_true_eq_false, e_set_self, Nat.succ_ne_zero, eq_self, e1, s1, e_set_slot, zero_01, one_01, e_b_0, e_b_01, or_self, or_false, false_or, R_1_0, R_1_1, R_1_2, R_1_3, R_1_4, R_1_5, R_1_6, R_32_0, R_32_1, R_32_2, R_36_0, R_36_1, R_36_2, R_36_3, R_37_0, R_37_1, R_37_2, R_68_0, R_70_0, R_164_0, R_164_1, R_164_3, R_164_5, R_164_6, R_164_7, R_164_8, R_164_10, R_164_11, R_2_4, R_2_5, ok_1, ok_32, ok_36, ok_37, ok_68, ok_70, ok_164, ok_2, ok_3, sz_3, ok_4, sz_4, ok_33, sz_33, ok_34, sz_34, ok_35, sz_35, ok_38, sz_38, ok_39, sz_39, ok_40, sz_40, ok_41, sz_41, ok_66, sz_66, ok_67, sz_67, ok_69, sz_69, ok_71, sz_71, ok_162, sz_162, ok_163, sz_163, ok_165, sz_165, ok_166, sz_166, ok_167, sz_167, ok_168, sz_168, ok_169, sz_169, ok_170, sz_170, ok_171, sz_171, ok_172, sz_172, ok_173, sz_173, tn_0, tn_1, tn_2, tn_3, tn_4, tn_5, tn_6, tn_7, tn_8, tn_9, tn_10, tn_11, tn_12, tn_13, tn_14, tn_15, tn_16, tn_17, tn_18, tn_19, tn_20, tn_21, tn_22, tn_23, tn_24, tn_25, tn_26, tn_27, in_0, in_1, in_2, in_3, in_4, in_5, in_6, in_7, in_8, in_9, in_10, in_11, in_12, in_13, in_14, in_15, in_16, in_17, in_18, in_19, in_20, in_21, in_22, in_23, in_24, in_25, in_26, in_27, e_rf_s]
    exact fin
  | d + 1, i, hi, m, hm, hv, hQ => by
    have e1 : (nI i < 220) = True := nI_ltL (b := 220) rfl (by decide) (by omega)
    have i1 : e_in (nI i) 220 = true := e_in_nI (by omega) (by omega)
    have i2 : (nI i).toNatClampNeg = i := nI_nat (by omega)
    have s1 : m 164 2 = nI c := by rw [hm 164 (by decide)]; exact hs
    have a1 : 220 * nI c = nI (220 * c) := by rw [show (220 : Int32) = nI 220 from rfl, pk_mul]
    have a2 : nI (220 * c) + nI i = nI (220 * c + i) := nI_add _ _
    have i3 : e_in (nI (220 * c + i)) 660 = true := e_in_nI (by omega) (by omega)
    have i4 : (nI (220 * c + i)).toNatClampNeg = 220 * c + i := nI_nat (by omega)
    have i5 : nI i + 1 = nI (i + 1) := nI_1 i
    have key := lp_undo hc hs d (i + 1) (by omega) (e_set m 165 i (m 166 (220 * c + i))) (fun x hx => by
      rw [← hm x hx]
      funext s
      exact e_set_cell hx) (fun j => by
      rw [hm 166 (by decide)]
      by_cases hj : j = i
      · subst hj
        rw [e_set_self, if_pos (by omega)]
      · rw [e_set_slot hj, hv j]
        by_cases h2 : j < i
        · rw [if_pos h2, if_pos (by omega)]
        · rw [if_neg h2, if_neg (by omega)]) hQ
    rw [kX9_undo_26]
    simp only [r_aload_n, r_bipush, r_dupa, r_dupi, r_getf0, r_getf1, r_getf2, r_goto, r_iadd, r_iald, r_iast, r_ic_ge, r_iconst, r_if_ne, r_iinc, r_iload_n, r_imul, r_iret0, r_iret1, r_istore_n, r_isub, r_nop, r_putf0, r_putf1, r_sipush, kX9_undo_0, kX9_undo_60, lX9_undo_0, lX9_undo_14, lX9_undo_26, lX9_undo_60, vX9_error, sl_n, sl_i, sl_r, sl_l, e_wi_s, e_wr_s, e_wl_s, e_lk, e_sto, e_ok, e_no, e_isL, Option.toList_some, Option.toList_none, List.cons_append, List.nil_append, List.length_cons, List.length_nil, Bool.not_false, Bool.not_true, Bool.and_true, Bool.true_and, Bool.false_and, Bool.and_false, Bool.and_self, Nat.reduceBEq, Nat.reduceAdd, Nat.reduceEqDiff, Nat.reduceLeDiff, Nat.reduceLT, Nat.zero_le, Nat.le_refl, if_true, if_false, ite_true, ite_false, true_and, and_true, true_or, or_true, not_false_eq_true, not_true_eq_false, e_set_self, Nat.succ_ne_zero, eq_self, e1, i1, i2, s1, a1, a2, i3, i4, i5, e_set_slot, zero_01, one_01, e_b_0, e_b_01, or_self, or_false, false_or, R_1_0, R_1_1, R_1_2, R_1_3, R_1_4, R_1_5, R_1_6, R_32_0, R_32_1, R_32_2, R_36_0, R_36_1, R_36_2, R_36_3, R_37_0, R_37_1, R_37_2, R_68_0, R_70_0, R_164_0, R_164_1, R_164_3, R_164_5, R_164_6, R_164_7, R_164_8, R_164_10, R_164_11, R_2_4, R_2_5, ok_1, ok_32, ok_36, ok_37, ok_68, ok_70, ok_164, ok_2, ok_3, sz_3, ok_4, sz_4, ok_33, sz_33, ok_34, sz_34, ok_35, sz_35, ok_38, sz_38, ok_39, sz_39, ok_40, sz_40, ok_41, sz_41, ok_66, sz_66, ok_67, sz_67, ok_69, sz_69, ok_71, sz_71, ok_162, sz_162, ok_163, sz_163, ok_165, sz_165, ok_166, sz_166, ok_167, sz_167, ok_168, sz_168, ok_169, sz_169, ok_170, sz_170, ok_171, sz_171, ok_172, sz_172, ok_173, sz_173, tn_0, tn_1, tn_2, tn_3, tn_4, tn_5, tn_6, tn_7, tn_8, tn_9, tn_10, tn_11, tn_12, tn_13, tn_14, tn_15, tn_16, tn_17, tn_18, tn_19, tn_20, tn_21, tn_22, tn_23, tn_24, tn_25, tn_26, tn_27, in_0, in_1, in_2, in_3, in_4, in_5, in_6, in_7, in_8, in_9, in_10, in_11, in_12, in_13, in_14, in_15, in_16, in_17, in_18, in_19, in_20, in_21, in_22, in_23, in_24, in_25, in_26, in_27, e_rf_s]
    exact key
theorem c_X9_undo14 {m : e_Tb} {c : Nat} (hc : c < 3) (hm : m 164 2 = nI (c + 1)) (hQ : ∀ m', (∀ x, x ≠ 165 → x ≠ 164 → m' x = m x) → (∀ s, s ≠ 2 → m' 164 s = m 164 s) → m' 164 2 = nI c → mw 165 0 m' = mw 166 (220 * c) m → Q (some (.int (nI c)), (173, m', e_rs sv))) :
    Wp xs L kX9_undo_14 [(0, .ref (164 : Nat))] [] (173, m, e_rs sv) Q := by
  have i3 : nI (c + 1) - 1 = nI c := nI_pred c
  have key := lp_undo (xs := xs) (L := L) (Q := Q) (sv := sv) hc (m0 := e_set m 164 2 (nI c)) (by rw [e_set_self]) 220 0 (by omega) _ (fun _ _ => rfl) (fun j => by rw [if_neg (by omega)]) (fun m' f v => hQ m' (fun x h h' => by
      rw [f x h]
      funext s
      exact e_set_cell h') (fun s hs => by rw [f 164 (by decide), e_set_slot hs]) (by rw [f 164 (by decide), e_set_self]) (by
      refine mw_in (fun x hx => ?_)
      rw [Nat.zero_add, v x hx]
      exact e_set_cell (by decide)))
  rw [kX9_undo_14]
  simp only [r_aload_n, r_bipush, r_dupa, r_dupi, r_getf0, r_getf1, r_getf2, r_goto, r_iadd, r_iald, r_iast, r_ic_ge, r_iconst, r_if_ne, r_iinc, r_iload_n, r_imul, r_iret0, r_iret1, r_istore_n, r_isub, r_nop, r_putf0, r_putf1, r_sipush, kX9_undo_0, kX9_undo_60, lX9_undo_0, lX9_undo_14, lX9_undo_26, lX9_undo_60, vX9_error, sl_n, sl_i, sl_r, sl_l, e_wi_s, e_wr_s, e_wl_s, e_lk, e_sto, e_ok, e_no, e_isL, Option.toList_some, Option.toList_none, List.cons_append, List.nil_append, List.length_cons, List.length_nil, Bool.not_false, Bool.not_true, Bool.and_true, Bool.true_and, Bool.false_and, Bool.and_false, Bool.and_self, Nat.reduceBEq, Nat.reduceAdd, Nat.reduceEqDiff, Nat.reduceLeDiff, Nat.reduceLT, Nat.zero_le, Nat.le_refl, if_true, if_false, ite_true, ite_false, true_and, and_true, true_or, or_true, not_false_eq_true, not_true_eq_false, e_set_self, Nat.succ_ne_zero, eq_self, hm, i3, e_set_slot, zero_01, one_01, e_b_0, e_b_01, or_self, or_false, false_or, R_1_0, R_1_1, R_1_2, R_1_3, R_1_4, R_1_5, R_1_6, R_32_0, R_32_1, R_32_2, R_36_0, R_36_1, R_36_2, R_36_3, R_37_0, R_37_1, R_37_2, R_68_0, R_70_0, R_164_0, R_164_1, R_164_3, R_164_5, R_164_6, R_164_7, R_164_8, R_164_10, R_164_11, R_2_4, R_2_5, ok_1, ok_32, ok_36, ok_37, ok_68, ok_70, ok_164, ok_2, ok_3, sz_3, ok_4, sz_4, ok_33, sz_33, ok_34, sz_34, ok_35, sz_35, ok_38, sz_38, ok_39, sz_39, ok_40, sz_40, ok_41, sz_41, ok_66, sz_66, ok_67, sz_67, ok_69, sz_69, ok_71, sz_71, ok_162, sz_162, ok_163, sz_163, ok_165, sz_165, ok_166, sz_166, ok_167, sz_167, ok_168, sz_168, ok_169, sz_169, ok_170, sz_170, ok_171, sz_171, ok_172, sz_172, ok_173, sz_173, tn_0, tn_1, tn_2, tn_3, tn_4, tn_5, tn_6, tn_7, tn_8, tn_9, tn_10, tn_11, tn_12, tn_13, tn_14, tn_15, tn_16, tn_17, tn_18, tn_19, tn_20, tn_21, tn_22, tn_23, tn_24, tn_25, tn_26, tn_27, in_0, in_1, in_2, in_3, in_4, in_5, in_6, in_7, in_8, in_9, in_10, in_11, in_12, in_13, in_14, in_15, in_16, in_17, in_18, in_19, in_20, in_21, in_22, in_23, in_24, in_25, in_26, in_27, e_rf_s]
  exact key
end P26
