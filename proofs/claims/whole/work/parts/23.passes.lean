/-! the bounds hold on; the reference's minute -/
def up (r : Nat → Int32) (i : Nat) (v : Int32) : Nat → Int32 := fun s => if s = i then v else r s
theorem e_set_row {w : e_Tb} {k i : Nat} {v : Int32} : e_set w k i v k = up (w k) i v := by
  funext s
  unfold e_set up
  simp only [true_and]
theorem Iv.set {n k i : Nat} {v : Int32} {w : e_Tb} (h : Iv n w) (hk : ¬ k = 0) (hr : 1 ≤ k → k ≤ n → Ri (up (w k) i v)) : Iv n (e_set w k i v) := by
  refine ⟨?_, fun k' h1 h2 => ?_⟩
  · have e : e_set w k i v 0 = w 0 := by funext s; exact e_set_cell (fun q => hk q.symm)
    rw [e]
    exact h.1
  · by_cases e : k' = k
    · subst e
      rw [e_set_row]
      exact hr h1 h2
    · have e : e_set w k i v k' = w k' := by funext s; exact e_set_cell e
      rw [e]
      exact h.2 k' h1 h2
theorem Iv.set0 {n i : Nat} {v : Int32} {w : e_Tb} (h : Iv n w) (hi : i = 0 ∨ i = 2 ∨ i = 3) : Iv n (e_set w 0 i v) := by
  refine ⟨?_, fun k' h1 h2 => ?_⟩
  · rw [e_set_row]
    refine ⟨?_, fun h' hh => ?_⟩
    · unfold up
      rw [if_neg (by omega)]
      exact h.1.1
    · unfold up
      rw [if_neg (by omega)]
      exact h.1.2 h' hh
  · have e : e_set w 0 i v k' = w k' := by funext s; exact e_set_cell (by omega)
    rw [e]
    exact h.2 k' h1 h2
theorem Ri.free {r : Nat → Int32} {i : Nat} {v : Int32} (h : Ri r) (hi : i = 9 ∨ i = 11 ∨ i = 12 ∨ i = 13 ∨ i = 15 ∨ i = 22) : Ri (up r i v) := by
  rcases hi with rfl | rfl | rfl | rfl | rfl | rfl <;> exact h
theorem Ri.s14 {r : Nat → Int32} {v : Int32} (h : Ri r) (hv : e_01 v) : Ri (up r 14 v) := ⟨⟨h.1.1, h.1.2.1, hv, h.1.2.2.2⟩, h.2⟩
theorem Ri.s23 {r : Nat → Int32} {v : Int32} (h : Ri r) (hv : e_01 v) (hp : ¬ r 16 = 0) : Ri (up r 23 v) := ⟨⟨h.1.1, h.1.2.1, h.1.2.2.1, h.1.2.2.2.1, hv⟩, fun q => absurd q hp, h.2.2⟩
theorem Ri.s10 {r : Nat → Int32} {v : Int32} (h : Ri r) (hv : bt (-16) 16 v) (hp : ¬ r 4 = 0) : Ri (up r 10 v) := ⟨h.1, h.2.1, fun q => absurd q hp, h.2.2.2.1, h.2.2.2.2.1, hv, h.2.2.2.2.2.2⟩
theorem Iv.free {n k i : Nat} {v : Int32} {w : e_Tb} (h : Iv n w) (hk : ¬ k = 0) (hi : i = 9 ∨ i = 11 ∨ i = 12 ∨ i = 13 ∨ i = 15 ∨ i = 22) : Iv n (e_set w k i v) := h.set hk (fun a b => (h.2 k a b).free hi)
theorem uL_iv {n : Nat} {w : e_Tb} (h : Iv n w) : ∀ i, Iv n (uL w i)
  | 0 => h
  | i + 1 => ((uL_iv h i).set (by omega) (fun a b => ((uL_iv h i).2 _ a b).s14 (Or.inl rfl))).free (by omega) (by decide)
theorem tB1_iv {n k : Nat} {w : e_Tb} {f : Int32} (h : Iv n w) (hk : ¬ k = 0) : Iv n (tB1 w f k) := by
  unfold tB1
  split
  · rename_i q
    exact h.set hk (fun a b => (h.2 k a b).s23 (e_b_01 _) q.1)
  · exact h
theorem tB_iv {n : Nat} {w : e_Tb} {f : Int32} (h : Iv n w) : ∀ i, Iv n (tB w f i)
  | 0 => h
  | i + 1 => tB1_iv (tB_iv h i) (by omega)
theorem sS1_iv {n k : Nat} {w : e_Tb} {s f : Int32} (h : Iv n w) (hk : ¬ k = 0) : Iv n (sS1 w s f k).1 := by
  unfold sS1
  split
  · rename_i q
    have h1 := h.free (k := k) (i := 22) (v := tmB w f k) hk (by decide)
    split
    · refine Iv.free (Iv.set h1 hk (fun a b => (h1.2 k a b).s23 (e_b_01 _) ?_)) hk (by decide)
      rw [e_set_row]
      exact q.1
    · exact h1
  · exact h
theorem sS_iv {n : Nat} {w : e_Tb} {R : Nat → Int32} (h : Iv n w) : ∀ i, Iv n (sS w R i).1
  | 0 => h
  | i + 1 => sS1_iv (sS_iv h i) (by omega)
theorem mkS_iv {n k : Nat} {w : e_Tb} {d : Int32} (h : Iv n w) (hk : ¬ k = 0) (h4 : ¬ w k 4 = 0) (hd : bt (-16) 16 (w k 10 + d)) : Iv n (mkS w k d) := by
  unfold mkS
  refine Iv.free (Iv.free (Iv.free ?_ hk (by decide)) hk (by decide)) hk (by decide)
  split
  · have a1 := h.free (k := k) (i := 13) (v := w k 13 + 1) hk (by decide)
    have a2 := (Iv.set a1 hk (fun a b => (a1.2 k a b).s14 (e_b_01 (¬ w k 13 + 1 < 3)))).free (k := k) (i := 12) (v := d) hk (by decide)
    refine Iv.set a2 hk (fun a b => (a2.2 k a b).s10 hd ?_)
    rw [e_set_row, e_set_row, e_set_row]
    exact h4
  · have a2 := h.free (k := k) (i := 12) (v := d) hk (by decide)
    refine Iv.set a2 hk (fun a b => (a2.2 k a b).s10 hd ?_)
    rw [e_set_row]
    exact h4
theorem i16 : (16 : Int32).toInt = 16 := by decide
theorem im16 : (-16 : Int32).toInt = -16 := by decide
theorem i1 : (1 : Int32).toInt = 1 := by decide
theorem im1 : (-1 : Int32).toInt = -1 := by decide
theorem wnt_b {w : e_Tb} {k : Nat} {v f : Int32} (h : bt (-16) 16 (w k 10)) : bt (-16) 16 (w k 10 + wnt w k v f) := by
  unfold wnt
  split
  · rw [Int32.add_zero]; exact h
  · split
    · rename_i q
      have q2 := q.2
      rw [Int32.lt_iff_toInt_lt, i16] at q2
      unfold bt at h ⊢
      rw [bt_add (by rw [i1]; omega) (by rw [i1]; omega), i1]
      omega
    · split
      · rename_i q
        have q2 := q.2
        rw [Int32.lt_iff_toInt_lt, im16] at q2
        unfold bt at h ⊢
        rw [bt_add (by rw [im1]; omega) (by rw [im1]; omega), im1]
        omega
      · rw [Int32.add_zero]; exact h
theorem rS1_iv {n k : Nat} {w : e_Tb} {s may v f : Int32} (h : Iv n w) (hk : 1 ≤ k) (hn : k ≤ n) : Iv n (rS1 w s may v f k).1 := by
  have hk0 : ¬ k = 0 := by omega
  unfold rS1
  split
  · rename_i q
    have h1 := (h.free (k := k) (i := 9) (v := tmR w k (wnt w k v f)) hk0 (by decide)).free (k := k) (i := 11) (v := wnt w k v f) hk0 (by decide)
    split
    · refine mkS_iv h1 hk0 ?_ ?_
      · rw [e_set_row, e_set_row]
        exact q
      · rw [e_set_row, e_set_row]
        exact wnt_b (h.2 k hk hn).2.2.2.2.2.1
    · exact h1
  · exact h
theorem rS_iv {n : Nat} {w : e_Tb} {may : Int32} {V A : Nat → Int32} (h : Iv n w) : ∀ i, i ≤ n → Iv n (rS w may V A i).1
  | 0, _ => h
  | i + 1, hi => rS1_iv (rS_iv h i (by omega)) (by omega) hi
theorem n0_iv {n t : Nat} {w : e_Tb} (h : Iv n w) : Iv n (n0 w n t) := by
  unfold n0
  refine tB_iv ?_ n
  split
  · exact uL_iv (h.set0 (Or.inl rfl)) n
  · exact h.set0 (Or.inl rfl)
theorem n1_iv {n t : Nat} {w : e_Tb} (h : Iv n w) : Iv n (n1 w n t).1 := sS_iv (n0_iv h) n
theorem n2_iv {n t : Nat} {w : e_Tb} (h : Iv n w) : Iv n (n2 w n t).1 := rS_iv (n1_iv h) n (Nat.le_refl _)
theorem n3_iv {n t : Nat} {w : e_Tb} (h : Iv n w) : Iv n (n3 w n t) := (n2_iv h).set0 (Or.inr (Or.inl rfl))
def Fp (m m' : e_Tb) : Prop := ∀ c, c ≠ 165 → c ≠ 169 → c ≠ 170 → c ≠ 171 → m' c = m c
theorem Fp.rf {m : e_Tb} : Fp m m := fun _ _ _ _ _ => rfl
theorem Fp.tr {a b c : e_Tb} (h1 : Fp a b) (h2 : Fp b c) : Fp a c := fun x p q r s => (h2 x p q r s).trans (h1 x p q r s)
theorem Fm.fp {m m' : e_Tb} (h : Fm m m') : Fp m m' := fun c p _ _ _ => h c p
theorem Com.fp {n h : Nat} {pl seg tp : Int32} {m m' : e_Tb} (H : Com n h pl seg tp m m') : Fp m m' := fun c _ p q r => H.1 c p q r
theorem Com.mw {n h : Nat} {pl seg tp : Int32} {m m' : e_Tb} (H : Com n h pl seg tp m m') : mw 165 0 m' = mw 165 0 m := mw_cong (H.1 165 (by decide) (by decide) (by decide))
theorem Iv.com {n : Nat} (hn : n ≤ 8) {m : e_Tb} (h : Iv n (mw 165 0 m)) : ∀ k, 1 ≤ k → k ≤ n → e_01 (m 165 (ix k 16)) ∧ e_01 (m 165 (ix k 23)) ∧ (m 165 (ix k 16) = 0 → m 165 (ix k 23) = 0 ∧ m 165 (ix k 18) = 0) := fun k a b => by
  have r := h.2 k a b
  have g2 : k ≤ 8 := by omega
  unfold Ri at r
  rw [mr_k16 a g2, mr_k23 a g2, mr_k18 a g2] at r
  exact ⟨r.1.2.2.2.1, r.1.2.2.2.2, r.2.1⟩
section P23
variable {xs : Nat → Int32} {L : Nat} {Q : e_Rs → Prop} {sv : Nat → Nat}
theorem c_X9_passes {n t : Nat} (hn : n ≤ 8) {m : e_Tb} (hc : m 165 3 = nI n) (ht : m 165 0 = nI t) (ht2 : t + 1 < 1000000000) (hI : Iv n (mw 165 0 m))
    (hQ : ∀ m', Fp m m' → mw 165 0 m' = n3 (mw 165 0 m) n t → Q (some (.int (nb (mw 165 0 m) n t)), (173, m', e_rs sv))) :
    Wp xs L kX9_passes_0 [(0, .ref (164 : Nat))] [] (173, m, e_rs sv) Q := by
  have a1 : nI t + 1 = nI (t + 1) := nI_1 t
  have a2 : nI (t + 1) - nI (t + 1) / 60 * 60 = nI ((t + 1) % 60) := pk_rem (a := t + 1) (d := 60) (by omega) (by omega) (by omega)
  have n60 : ¬ (60 : Int32) = 0 := by decide
  have cc : ∀ {a b : e_Tb}, mw 165 0 a 0 = b 0 → b 0 3 = nI n → a 165 3 = nI n := fun {a b} h h2 => by rw [← mr_0 (m := a) (i := 3) (by decide), h]; exact h2
  have tt : ∀ {a b : e_Tb}, mw 165 0 a 0 = b 0 → b 0 0 = nI (t + 1) → a 165 0 = nI (t + 1) := fun {a b} h h2 => by rw [← mr_0 (m := a) (i := 0) (by decide), h]; exact h2
  obtain ⟨w, hw⟩ : ∃ w, mw 165 0 m = w := ⟨_, rfl⟩
  rw [hw] at hQ hI
  have w3 : w 0 3 = nI n := by rw [← hw, mr_0 (by decide)]; exact hc
  have u3 : e_set w 0 0 (nI (t + 1)) 0 3 = nI n := by rw [e_set_slot (by decide)]; exact w3
  have u0 : e_set w 0 0 (nI (t + 1)) 0 0 = nI (t + 1) := e_set_self
  have r0 : n0 w n t 0 = e_set w 0 0 (nI (t + 1)) 0 := by
    unfold n0
    rw [tB_row n (Or.inr rfl)]
    split
    · rw [uL_row n (Or.inr rfl)]
    · rfl
  have r1 : (n1 w n t).1 0 = e_set w 0 0 (nI (t + 1)) 0 := by unfold n1; rw [sS_row n (Or.inr rfl), r0]
  have r2 : (n2 w n t).1 0 = e_set w 0 0 (nI (t + 1)) 0 := n2_row0
  have stA : ∀ m1, Fp m m1 → mw 165 0 m1 = n0 w n t → ∀ x, Wp xs L kX9_passes_90 [(0, .ref (164 : Nat)), (1, .int x)] [] (173, m1, e_rs sv) Q := by
    intro m1 f1 v1 x
    have k1 : m1 165 3 = nI n := cc (by rw [v1, r0]) u3
    have t1 : m1 165 0 = nI (t + 1) := tt (by rw [v1, r0]) u0
    have I0 := n0_iv (n := n) (t := t) hI
    have I1 := n1_iv (n := n) (t := t) hI
    have I2 := n2_iv (n := n) (t := t) hI
    rw [kX9_passes_90]
    simp only [r_aload_n, r_bipush, r_dup2, r_getf0, r_getf1, r_getf2, r_goto, r_iadd, r_iald, r_iast, r_ic_gt, r_ic_ne, r_iconst, r_if_eq, r_if_ne, r_iinc, r_iload_n, r_irem, r_iret0, r_iret1, r_istore_n, r_nop, kX9_passes_0, kX9_passes_26, kX9_passes_80, kX9_passes_81, kX9_passes_84, kX9_passes_108, kX9_passes_142, kX9_passes_143, lX9_passes_0, lX9_passes_26, lX9_passes_28, lX9_passes_80, lX9_passes_81, lX9_passes_84, lX9_passes_90, lX9_passes_108, lX9_passes_109, lX9_passes_138, lX9_passes_142, lX9_passes_143, vX9_computeNow, vX9_hour, vX9_isTime, vX9_of, vX9_outside, vX9_put, vX9_regulates, vX9_switches, vX9_unlocks, sl_n, sl_i, sl_r, sl_l, e_wi_s, e_wr_s, e_wl_s, e_lk, e_sto, e_ok, e_no, e_isL, Option.toList_some, Option.toList_none, List.cons_append, List.nil_append, List.length_cons, List.length_nil, Bool.not_false, Bool.not_true, Bool.and_true, Bool.true_and, Bool.false_and, Bool.and_false, Bool.and_self, Nat.reduceBEq, Nat.reduceAdd, Nat.reduceEqDiff, Nat.reduceLeDiff, Nat.reduceLT, Nat.zero_le, Nat.le_refl, if_true, if_false, ite_true, ite_false, true_and, and_true, true_or, or_true, not_false_eq_true, not_true_eq_false, e_set_self, Nat.succ_ne_zero, eq_self, e_set_slot, zero_01, one_01, e_b_0, e_b_01, or_self, or_false, false_or, R_1_0, R_1_1, R_1_2, R_1_3, R_1_4, R_1_5, R_1_6, R_32_0, R_32_1, R_32_2, R_36_0, R_36_1, R_36_2, R_36_3, R_37_0, R_37_1, R_37_2, R_68_0, R_70_0, R_164_0, R_164_1, R_164_3, R_164_5, R_164_6, R_164_7, R_164_8, R_164_10, R_164_11, R_2_4, R_2_5, ok_1, ok_32, ok_36, ok_37, ok_68, ok_70, ok_164, ok_2, ok_3, sz_3, ok_4, sz_4, ok_33, sz_33, ok_34, sz_34, ok_35, sz_35, ok_38, sz_38, ok_39, sz_39, ok_40, sz_40, ok_41, sz_41, ok_66, sz_66, ok_67, sz_67, ok_69, sz_69, ok_71, sz_71, ok_162, sz_162, ok_163, sz_163, ok_165, sz_165, ok_166, sz_166, ok_167, sz_167, ok_168, sz_168, ok_169, sz_169, ok_170, sz_170, ok_171, sz_171, ok_172, sz_172, ok_173, sz_173, tn_0, tn_1, tn_2, tn_3, tn_4, tn_5, tn_6, tn_7, tn_8, tn_9, tn_10, tn_11, tn_12, tn_13, tn_14, tn_15, tn_16, tn_17, tn_18, tn_19, tn_20, tn_21, tn_22, tn_23, tn_24, tn_25, tn_26, tn_27, in_0, in_1, in_2, in_3, in_4, in_5, in_6, in_7, in_8, in_9, in_10, in_11, in_12, in_13, in_14, in_15, in_16, in_17, in_18, in_19, in_20, in_21, in_22, in_23, in_24, in_25, in_26, in_27, e_rf_s]
    refine c_X9_computeNow hn k1 t1 ht2 (Iv.com hn (by rw [v1]; exact I0)) (fun m2 s2 => ?_)
    have v2 : mw 165 0 m2 = n0 w n t := by rw [s2.mw, v1]
    have k2 : m2 165 3 = nI n := cc (by rw [v2, r0]) u3
    have s2' := s2.2
    rw [v1] at s2'
    simp only [r_aload_n, r_bipush, r_dup2, r_getf0, r_getf1, r_getf2, r_goto, r_iadd, r_iald, r_iast, r_ic_gt, r_ic_ne, r_iconst, r_if_eq, r_if_ne, r_iinc, r_iload_n, r_irem, r_iret0, r_iret1, r_istore_n, r_nop, kX9_passes_0, kX9_passes_26, kX9_passes_80, kX9_passes_81, kX9_passes_84, kX9_passes_108, kX9_passes_142, kX9_passes_143, lX9_passes_0, lX9_passes_26, lX9_passes_28, lX9_passes_80, lX9_passes_81, lX9_passes_84, lX9_passes_90, lX9_passes_108, lX9_passes_109, lX9_passes_138, lX9_passes_142, lX9_passes_143, vX9_computeNow, vX9_hour, vX9_isTime, vX9_of, vX9_outside, vX9_put, vX9_regulates, vX9_switches, vX9_unlocks, sl_n, sl_i, sl_r, sl_l, e_wi_s, e_wr_s, e_wl_s, e_lk, e_sto, e_ok, e_no, e_isL, Option.toList_some, Option.toList_none, List.cons_append, List.nil_append, List.length_cons, List.length_nil, Bool.not_false, Bool.not_true, Bool.and_true, Bool.true_and, Bool.false_and, Bool.and_false, Bool.and_self, Nat.reduceBEq, Nat.reduceAdd, Nat.reduceEqDiff, Nat.reduceLeDiff, Nat.reduceLT, Nat.zero_le, Nat.le_refl, if_true, if_false, ite_true, ite_false, true_and, and_true, true_or, or_true, not_false_eq_true, not_true_eq_false, e_set_self, Nat.succ_ne_zero, eq_self, e_set_slot, zero_01, one_01, e_b_0, e_b_01, or_self, or_false, false_or, R_1_0, R_1_1, R_1_2, R_1_3, R_1_4, R_1_5, R_1_6, R_32_0, R_32_1, R_32_2, R_36_0, R_36_1, R_36_2, R_36_3, R_37_0, R_37_1, R_37_2, R_68_0, R_70_0, R_164_0, R_164_1, R_164_3, R_164_5, R_164_6, R_164_7, R_164_8, R_164_10, R_164_11, R_2_4, R_2_5, ok_1, ok_32, ok_36, ok_37, ok_68, ok_70, ok_164, ok_2, ok_3, sz_3, ok_4, sz_4, ok_33, sz_33, ok_34, sz_34, ok_35, sz_35, ok_38, sz_38, ok_39, sz_39, ok_40, sz_40, ok_41, sz_41, ok_66, sz_66, ok_67, sz_67, ok_69, sz_69, ok_71, sz_71, ok_162, sz_162, ok_163, sz_163, ok_165, sz_165, ok_166, sz_166, ok_167, sz_167, ok_168, sz_168, ok_169, sz_169, ok_170, sz_170, ok_171, sz_171, ok_172, sz_172, ok_173, sz_173, tn_0, tn_1, tn_2, tn_3, tn_4, tn_5, tn_6, tn_7, tn_8, tn_9, tn_10, tn_11, tn_12, tn_13, tn_14, tn_15, tn_16, tn_17, tn_18, tn_19, tn_20, tn_21, tn_22, tn_23, tn_24, tn_25, tn_26, tn_27, in_0, in_1, in_2, in_3, in_4, in_5, in_6, in_7, in_8, in_9, in_10, in_11, in_12, in_13, in_14, in_15, in_16, in_17, in_18, in_19, in_20, in_21, in_22, in_23, in_24, in_25, in_26, in_27, e_rf_s]
    refine c_X9_switches hn (fun k a b => ?_) k2 (fun m3 s f3 v3 b3 => ?_)
    · rw [v2]
      have r := I0.2 k a b
      exact ⟨r.1.2.2.2.1, r.1.2.2.2.2, r.2.2.2.1⟩
    rw [v2, sS_R n (fun k a b => (s2'.1 k a b).2)] at v3
    have v3 : (mw 165 0 m3, s) = n1 w n t := v3
    have v3a : mw 165 0 m3 = (n1 w n t).1 := by rw [← v3]
    have v3b : s = (n1 w n t).2 := by rw [← v3]
    have k3 : m3 165 3 = nI n := cc (by rw [v3a, r1]) u3
    have stB : Wp xs L kX9_passes_109 [(0, .ref (164 : Nat)), (1, .int s)] [.int (e_b (s = 0)), .ref (164 : Nat)] (173, m3, e_rs sv) Q := by
      rw [kX9_passes_109]
      simp only [r_aload_n, r_bipush, r_dup2, r_getf0, r_getf1, r_getf2, r_goto, r_iadd, r_iald, r_iast, r_ic_gt, r_ic_ne, r_iconst, r_if_eq, r_if_ne, r_iinc, r_iload_n, r_irem, r_iret0, r_iret1, r_istore_n, r_nop, kX9_passes_0, kX9_passes_26, kX9_passes_80, kX9_passes_81, kX9_passes_84, kX9_passes_108, kX9_passes_142, kX9_passes_143, lX9_passes_0, lX9_passes_26, lX9_passes_28, lX9_passes_80, lX9_passes_81, lX9_passes_84, lX9_passes_90, lX9_passes_108, lX9_passes_109, lX9_passes_138, lX9_passes_142, lX9_passes_143, vX9_computeNow, vX9_hour, vX9_isTime, vX9_of, vX9_outside, vX9_put, vX9_regulates, vX9_switches, vX9_unlocks, sl_n, sl_i, sl_r, sl_l, e_wi_s, e_wr_s, e_wl_s, e_lk, e_sto, e_ok, e_no, e_isL, Option.toList_some, Option.toList_none, List.cons_append, List.nil_append, List.length_cons, List.length_nil, Bool.not_false, Bool.not_true, Bool.and_true, Bool.true_and, Bool.false_and, Bool.and_false, Bool.and_self, Nat.reduceBEq, Nat.reduceAdd, Nat.reduceEqDiff, Nat.reduceLeDiff, Nat.reduceLT, Nat.zero_le, Nat.le_refl, if_true, if_false, ite_true, ite_false, true_and, and_true, true_or, or_true, not_false_eq_true, not_true_eq_false, e_set_self, Nat.succ_ne_zero, eq_self, e_set_slot, zero_01, one_01, e_b_0, e_b_01, or_self, or_false, false_or, R_1_0, R_1_1, R_1_2, R_1_3, R_1_4, R_1_5, R_1_6, R_32_0, R_32_1, R_32_2, R_36_0, R_36_1, R_36_2, R_36_3, R_37_0, R_37_1, R_37_2, R_68_0, R_70_0, R_164_0, R_164_1, R_164_3, R_164_5, R_164_6, R_164_7, R_164_8, R_164_10, R_164_11, R_2_4, R_2_5, ok_1, ok_32, ok_36, ok_37, ok_68, ok_70, ok_164, ok_2, ok_3, sz_3, ok_4, sz_4, ok_33, sz_33, ok_34, sz_34, ok_35, sz_35, ok_38, sz_38, ok_39, sz_39, ok_40, sz_40, ok_41, sz_41, ok_66, sz_66, ok_67, sz_67, ok_69, sz_69, ok_71, sz_71, ok_162, sz_162, ok_163, sz_163, ok_165, sz_165, ok_166, sz_166, ok_167, sz_167, ok_168, sz_168, ok_169, sz_169, ok_170, sz_170, ok_171, sz_171, ok_172, sz_172, ok_173, sz_173, tn_0, tn_1, tn_2, tn_3, tn_4, tn_5, tn_6, tn_7, tn_8, tn_9, tn_10, tn_11, tn_12, tn_13, tn_14, tn_15, tn_16, tn_17, tn_18, tn_19, tn_20, tn_21, tn_22, tn_23, tn_24, tn_25, tn_26, tn_27, in_0, in_1, in_2, in_3, in_4, in_5, in_6, in_7, in_8, in_9, in_10, in_11, in_12, in_13, in_14, in_15, in_16, in_17, in_18, in_19, in_20, in_21, in_22, in_23, in_24, in_25, in_26, in_27, e_rf_s]
      refine c_X9_regulates hn (fun k a b => ?_) k3 (fun m4 z f4 v4 b4 => ?_)
      · rw [v3a]
        have r := I1.2 k a b
        exact ⟨r.1.1, r.1.2.2.1, r.1.2.1⟩
      rw [v3a, f3 171 (by decide), f3 169 (by decide), rS_R n (fun k a b => ⟨(s2'.2 k b).trans (fW_fV0 hn I0 (hr_lt _) b), (s2'.1 k a b).1⟩), v3b] at v4
      have v4 : (mw 165 0 m4, z) = n2 w n t := v4
      have v4a : mw 165 0 m4 = (n2 w n t).1 := by rw [← v4]
      have v4b : z = (n2 w n t).2 := by rw [← v4]
      have k4 : m4 165 3 = nI n := cc (by rw [v4a, r2]) u3
      have t4 : m4 165 0 = nI (t + 1) := tt (by rw [v4a, r2]) u0
      simp only [r_aload_n, r_bipush, r_dup2, r_getf0, r_getf1, r_getf2, r_goto, r_iadd, r_iald, r_iast, r_ic_gt, r_ic_ne, r_iconst, r_if_eq, r_if_ne, r_iinc, r_iload_n, r_irem, r_iret0, r_iret1, r_istore_n, r_nop, kX9_passes_0, kX9_passes_26, kX9_passes_80, kX9_passes_81, kX9_passes_84, kX9_passes_108, kX9_passes_142, kX9_passes_143, lX9_passes_0, lX9_passes_26, lX9_passes_28, lX9_passes_80, lX9_passes_81, lX9_passes_84, lX9_passes_90, lX9_passes_108, lX9_passes_109, lX9_passes_138, lX9_passes_142, lX9_passes_143, vX9_computeNow, vX9_hour, vX9_isTime, vX9_of, vX9_outside, vX9_put, vX9_regulates, vX9_switches, vX9_unlocks, sl_n, sl_i, sl_r, sl_l, e_wi_s, e_wr_s, e_wl_s, e_lk, e_sto, e_ok, e_no, e_isL, Option.toList_some, Option.toList_none, List.cons_append, List.nil_append, List.length_cons, List.length_nil, Bool.not_false, Bool.not_true, Bool.and_true, Bool.true_and, Bool.false_and, Bool.and_false, Bool.and_self, Nat.reduceBEq, Nat.reduceAdd, Nat.reduceEqDiff, Nat.reduceLeDiff, Nat.reduceLT, Nat.zero_le, Nat.le_refl, if_true, if_false, ite_true, ite_false, true_and, and_true, true_or, or_true, not_false_eq_true, not_true_eq_false, e_set_self, Nat.succ_ne_zero, eq_self, e_set_slot, zero_01, one_01, e_b_0, e_b_01, or_self, or_false, false_or, R_1_0, R_1_1, R_1_2, R_1_3, R_1_4, R_1_5, R_1_6, R_32_0, R_32_1, R_32_2, R_36_0, R_36_1, R_36_2, R_36_3, R_37_0, R_37_1, R_37_2, R_68_0, R_70_0, R_164_0, R_164_1, R_164_3, R_164_5, R_164_6, R_164_7, R_164_8, R_164_10, R_164_11, R_2_4, R_2_5, ok_1, ok_32, ok_36, ok_37, ok_68, ok_70, ok_164, ok_2, ok_3, sz_3, ok_4, sz_4, ok_33, sz_33, ok_34, sz_34, ok_35, sz_35, ok_38, sz_38, ok_39, sz_39, ok_40, sz_40, ok_41, sz_41, ok_66, sz_66, ok_67, sz_67, ok_69, sz_69, ok_71, sz_71, ok_162, sz_162, ok_163, sz_163, ok_165, sz_165, ok_166, sz_166, ok_167, sz_167, ok_168, sz_168, ok_169, sz_169, ok_170, sz_170, ok_171, sz_171, ok_172, sz_172, ok_173, sz_173, tn_0, tn_1, tn_2, tn_3, tn_4, tn_5, tn_6, tn_7, tn_8, tn_9, tn_10, tn_11, tn_12, tn_13, tn_14, tn_15, tn_16, tn_17, tn_18, tn_19, tn_20, tn_21, tn_22, tn_23, tn_24, tn_25, tn_26, tn_27, in_0, in_1, in_2, in_3, in_4, in_5, in_6, in_7, in_8, in_9, in_10, in_11, in_12, in_13, in_14, in_15, in_16, in_17, in_18, in_19, in_20, in_21, in_22, in_23, in_24, in_25, in_26, in_27, e_rf_s]
      refine c_X9_computeNow hn k4 t4 ht2 (Iv.com hn (by rw [v4a]; exact I2)) (fun m5 s5 => ?_)
      have v5 : mw 165 0 m5 = (n2 w n t).1 := by rw [s5.mw, v4a]
      have k5 : m5 165 3 = nI n := cc (by rw [v5, r2]) u3
      have s5' := s5.2.2
      rw [v4a] at s5'
      have f05 : Fp m m5 := (((f1.tr s2.fp).tr f3.fp).tr f4.fp).tr s5.fp
      have e := hQ (e_set m5 165 2 (m5 165 2 + sB (m5 171) n)) (f05.tr (Fm.rf.set).fp) (by
        rw [mu_0 (by decide), v5, sB_R n (fun k a b => (s5' k b).trans (fW_fV0 hn I2 (hr_lt _) b)), ← mr_0 (m := m5) (i := 2) (by decide), v5]
        rfl)
      unfold nb at e
      rw [← v3b, ← v4b] at e
      by_cases p : s = 0
      · have p' := eq_true p
        by_cases q : z = 0
        · have q' := eq_true q
          rw [e_b_f (by rintro (h | h); exact h p; exact h q)] at e
          simp only [r_aload_n, r_bipush, r_dup2, r_getf0, r_getf1, r_getf2, r_goto, r_iadd, r_iald, r_iast, r_ic_gt, r_ic_ne, r_iconst, r_if_eq, r_if_ne, r_iinc, r_iload_n, r_irem, r_iret0, r_iret1, r_istore_n, r_nop, kX9_passes_0, kX9_passes_26, kX9_passes_80, kX9_passes_81, kX9_passes_84, kX9_passes_108, kX9_passes_142, kX9_passes_143, lX9_passes_0, lX9_passes_26, lX9_passes_28, lX9_passes_80, lX9_passes_81, lX9_passes_84, lX9_passes_90, lX9_passes_108, lX9_passes_109, lX9_passes_138, lX9_passes_142, lX9_passes_143, vX9_computeNow, vX9_hour, vX9_isTime, vX9_of, vX9_outside, vX9_put, vX9_regulates, vX9_switches, vX9_unlocks, sl_n, sl_i, sl_r, sl_l, e_wi_s, e_wr_s, e_wl_s, e_lk, e_sto, e_ok, e_no, e_isL, Option.toList_some, Option.toList_none, List.cons_append, List.nil_append, List.length_cons, List.length_nil, Bool.not_false, Bool.not_true, Bool.and_true, Bool.true_and, Bool.false_and, Bool.and_false, Bool.and_self, Nat.reduceBEq, Nat.reduceAdd, Nat.reduceEqDiff, Nat.reduceLeDiff, Nat.reduceLT, Nat.zero_le, Nat.le_refl, if_true, if_false, ite_true, ite_false, true_and, and_true, true_or, or_true, not_false_eq_true, not_true_eq_false, e_set_self, Nat.succ_ne_zero, eq_self, c_X9_outside hn k5, p', q', e_set_slot, zero_01, one_01, e_b_0, e_b_01, or_self, or_false, false_or, R_1_0, R_1_1, R_1_2, R_1_3, R_1_4, R_1_5, R_1_6, R_32_0, R_32_1, R_32_2, R_36_0, R_36_1, R_36_2, R_36_3, R_37_0, R_37_1, R_37_2, R_68_0, R_70_0, R_164_0, R_164_1, R_164_3, R_164_5, R_164_6, R_164_7, R_164_8, R_164_10, R_164_11, R_2_4, R_2_5, ok_1, ok_32, ok_36, ok_37, ok_68, ok_70, ok_164, ok_2, ok_3, sz_3, ok_4, sz_4, ok_33, sz_33, ok_34, sz_34, ok_35, sz_35, ok_38, sz_38, ok_39, sz_39, ok_40, sz_40, ok_41, sz_41, ok_66, sz_66, ok_67, sz_67, ok_69, sz_69, ok_71, sz_71, ok_162, sz_162, ok_163, sz_163, ok_165, sz_165, ok_166, sz_166, ok_167, sz_167, ok_168, sz_168, ok_169, sz_169, ok_170, sz_170, ok_171, sz_171, ok_172, sz_172, ok_173, sz_173, tn_0, tn_1, tn_2, tn_3, tn_4, tn_5, tn_6, tn_7, tn_8, tn_9, tn_10, tn_11, tn_12, tn_13, tn_14, tn_15, tn_16, tn_17, tn_18, tn_19, tn_20, tn_21, tn_22, tn_23, tn_24, tn_25, tn_26, tn_27, in_0, in_1, in_2, in_3, in_4, in_5, in_6, in_7, in_8, in_9, in_10, in_11, in_12, in_13, in_14, in_15, in_16, in_17, in_18, in_19, in_20, in_21, in_22, in_23, in_24, in_25, in_26, in_27, e_rf_s]
          exact e
        · have q' := eq_false q
          rw [e_b_t (Or.inr q)] at e
          simp only [r_aload_n, r_bipush, r_dup2, r_getf0, r_getf1, r_getf2, r_goto, r_iadd, r_iald, r_iast, r_ic_gt, r_ic_ne, r_iconst, r_if_eq, r_if_ne, r_iinc, r_iload_n, r_irem, r_iret0, r_iret1, r_istore_n, r_nop, kX9_passes_0, kX9_passes_26, kX9_passes_80, kX9_passes_81, kX9_passes_84, kX9_passes_108, kX9_passes_142, kX9_passes_143, lX9_passes_0, lX9_passes_26, lX9_passes_28, lX9_passes_80, lX9_passes_81, lX9_passes_84, lX9_passes_90, lX9_passes_108, lX9_passes_109, lX9_passes_138, lX9_passes_142, lX9_passes_143, vX9_computeNow, vX9_hour, vX9_isTime, vX9_of, vX9_outside, vX9_put, vX9_regulates, vX9_switches, vX9_unlocks, sl_n, sl_i, sl_r, sl_l, e_wi_s, e_wr_s, e_wl_s, e_lk, e_sto, e_ok, e_no, e_isL, Option.toList_some, Option.toList_none, List.cons_append, List.nil_append, List.length_cons, List.length_nil, Bool.not_false, Bool.not_true, Bool.and_true, Bool.true_and, Bool.false_and, Bool.and_false, Bool.and_self, Nat.reduceBEq, Nat.reduceAdd, Nat.reduceEqDiff, Nat.reduceLeDiff, Nat.reduceLT, Nat.zero_le, Nat.le_refl, if_true, if_false, ite_true, ite_false, true_and, and_true, true_or, or_true, not_false_eq_true, not_true_eq_false, e_set_self, Nat.succ_ne_zero, eq_self, c_X9_outside hn k5, p', q', e_set_slot, zero_01, one_01, e_b_0, e_b_01, or_self, or_false, false_or, R_1_0, R_1_1, R_1_2, R_1_3, R_1_4, R_1_5, R_1_6, R_32_0, R_32_1, R_32_2, R_36_0, R_36_1, R_36_2, R_36_3, R_37_0, R_37_1, R_37_2, R_68_0, R_70_0, R_164_0, R_164_1, R_164_3, R_164_5, R_164_6, R_164_7, R_164_8, R_164_10, R_164_11, R_2_4, R_2_5, ok_1, ok_32, ok_36, ok_37, ok_68, ok_70, ok_164, ok_2, ok_3, sz_3, ok_4, sz_4, ok_33, sz_33, ok_34, sz_34, ok_35, sz_35, ok_38, sz_38, ok_39, sz_39, ok_40, sz_40, ok_41, sz_41, ok_66, sz_66, ok_67, sz_67, ok_69, sz_69, ok_71, sz_71, ok_162, sz_162, ok_163, sz_163, ok_165, sz_165, ok_166, sz_166, ok_167, sz_167, ok_168, sz_168, ok_169, sz_169, ok_170, sz_170, ok_171, sz_171, ok_172, sz_172, ok_173, sz_173, tn_0, tn_1, tn_2, tn_3, tn_4, tn_5, tn_6, tn_7, tn_8, tn_9, tn_10, tn_11, tn_12, tn_13, tn_14, tn_15, tn_16, tn_17, tn_18, tn_19, tn_20, tn_21, tn_22, tn_23, tn_24, tn_25, tn_26, tn_27, in_0, in_1, in_2, in_3, in_4, in_5, in_6, in_7, in_8, in_9, in_10, in_11, in_12, in_13, in_14, in_15, in_16, in_17, in_18, in_19, in_20, in_21, in_22, in_23, in_24, in_25, in_26, in_27, e_rf_s]
          rw [kX9_passes_138]
          simp only [r_aload_n, r_bipush, r_dup2, r_getf0, r_getf1, r_getf2, r_goto, r_iadd, r_iald, r_iast, r_ic_gt, r_ic_ne, r_iconst, r_if_eq, r_if_ne, r_iinc, r_iload_n, r_irem, r_iret0, r_iret1, r_istore_n, r_nop, kX9_passes_0, kX9_passes_26, kX9_passes_80, kX9_passes_81, kX9_passes_84, kX9_passes_108, kX9_passes_142, kX9_passes_143, lX9_passes_0, lX9_passes_26, lX9_passes_28, lX9_passes_80, lX9_passes_81, lX9_passes_84, lX9_passes_90, lX9_passes_108, lX9_passes_109, lX9_passes_138, lX9_passes_142, lX9_passes_143, vX9_computeNow, vX9_hour, vX9_isTime, vX9_of, vX9_outside, vX9_put, vX9_regulates, vX9_switches, vX9_unlocks, sl_n, sl_i, sl_r, sl_l, e_wi_s, e_wr_s, e_wl_s, e_lk, e_sto, e_ok, e_no, e_isL, Option.toList_some, Option.toList_none, List.cons_append, List.nil_append, List.length_cons, List.length_nil, Bool.not_false, Bool.not_true, Bool.and_true, Bool.true_and, Bool.false_and, Bool.and_false, Bool.and_self, Nat.reduceBEq, Nat.reduceAdd, Nat.reduceEqDiff, Nat.reduceLeDiff, Nat.reduceLT, Nat.zero_le, Nat.le_refl, if_true, if_false, ite_true, ite_false, true_and, and_true, true_or, or_true, not_false_eq_true, not_true_eq_false, e_set_self, Nat.succ_ne_zero, eq_self, e_set_slot, zero_01, one_01, e_b_0, e_b_01, or_self, or_false, false_or, R_1_0, R_1_1, R_1_2, R_1_3, R_1_4, R_1_5, R_1_6, R_32_0, R_32_1, R_32_2, R_36_0, R_36_1, R_36_2, R_36_3, R_37_0, R_37_1, R_37_2, R_68_0, R_70_0, R_164_0, R_164_1, R_164_3, R_164_5, R_164_6, R_164_7, R_164_8, R_164_10, R_164_11, R_2_4, R_2_5, ok_1, ok_32, ok_36, ok_37, ok_68, ok_70, ok_164, ok_2, ok_3, sz_3, ok_4, sz_4, ok_33, sz_33, ok_34, sz_34, ok_35, sz_35, ok_38, sz_38, ok_39, sz_39, ok_40, sz_40, ok_41, sz_41, ok_66, sz_66, ok_67, sz_67, ok_69, sz_69, ok_71, sz_71, ok_162, sz_162, ok_163, sz_163, ok_165, sz_165, ok_166, sz_166, ok_167, sz_167, ok_168, sz_168, ok_169, sz_169, ok_170, sz_170, ok_171, sz_171, ok_172, sz_172, ok_173, sz_173, tn_0, tn_1, tn_2, tn_3, tn_4, tn_5, tn_6, tn_7, tn_8, tn_9, tn_10, tn_11, tn_12, tn_13, tn_14, tn_15, tn_16, tn_17, tn_18, tn_19, tn_20, tn_21, tn_22, tn_23, tn_24, tn_25, tn_26, tn_27, in_0, in_1, in_2, in_3, in_4, in_5, in_6, in_7, in_8, in_9, in_10, in_11, in_12, in_13, in_14, in_15, in_16, in_17, in_18, in_19, in_20, in_21, in_22, in_23, in_24, in_25, in_26, in_27, e_rf_s]
          exact e
      · have p' := eq_false p
        rw [e_b_t (Or.inl p)] at e
        simp only [r_aload_n, r_bipush, r_dup2, r_getf0, r_getf1, r_getf2, r_goto, r_iadd, r_iald, r_iast, r_ic_gt, r_ic_ne, r_iconst, r_if_eq, r_if_ne, r_iinc, r_iload_n, r_irem, r_iret0, r_iret1, r_istore_n, r_nop, kX9_passes_0, kX9_passes_26, kX9_passes_80, kX9_passes_81, kX9_passes_84, kX9_passes_108, kX9_passes_142, kX9_passes_143, lX9_passes_0, lX9_passes_26, lX9_passes_28, lX9_passes_80, lX9_passes_81, lX9_passes_84, lX9_passes_90, lX9_passes_108, lX9_passes_109, lX9_passes_138, lX9_passes_142, lX9_passes_143, vX9_computeNow, vX9_hour, vX9_isTime, vX9_of, vX9_outside, vX9_put, vX9_regulates, vX9_switches, vX9_unlocks, sl_n, sl_i, sl_r, sl_l, e_wi_s, e_wr_s, e_wl_s, e_lk, e_sto, e_ok, e_no, e_isL, Option.toList_some, Option.toList_none, List.cons_append, List.nil_append, List.length_cons, List.length_nil, Bool.not_false, Bool.not_true, Bool.and_true, Bool.true_and, Bool.false_and, Bool.and_false, Bool.and_self, Nat.reduceBEq, Nat.reduceAdd, Nat.reduceEqDiff, Nat.reduceLeDiff, Nat.reduceLT, Nat.zero_le, Nat.le_refl, if_true, if_false, ite_true, ite_false, true_and, and_true, true_or, or_true, not_false_eq_true, not_true_eq_false, e_set_self, Nat.succ_ne_zero, eq_self, c_X9_outside hn k5, p', e_set_slot, zero_01, one_01, e_b_0, e_b_01, or_self, or_false, false_or, R_1_0, R_1_1, R_1_2, R_1_3, R_1_4, R_1_5, R_1_6, R_32_0, R_32_1, R_32_2, R_36_0, R_36_1, R_36_2, R_36_3, R_37_0, R_37_1, R_37_2, R_68_0, R_70_0, R_164_0, R_164_1, R_164_3, R_164_5, R_164_6, R_164_7, R_164_8, R_164_10, R_164_11, R_2_4, R_2_5, ok_1, ok_32, ok_36, ok_37, ok_68, ok_70, ok_164, ok_2, ok_3, sz_3, ok_4, sz_4, ok_33, sz_33, ok_34, sz_34, ok_35, sz_35, ok_38, sz_38, ok_39, sz_39, ok_40, sz_40, ok_41, sz_41, ok_66, sz_66, ok_67, sz_67, ok_69, sz_69, ok_71, sz_71, ok_162, sz_162, ok_163, sz_163, ok_165, sz_165, ok_166, sz_166, ok_167, sz_167, ok_168, sz_168, ok_169, sz_169, ok_170, sz_170, ok_171, sz_171, ok_172, sz_172, ok_173, sz_173, tn_0, tn_1, tn_2, tn_3, tn_4, tn_5, tn_6, tn_7, tn_8, tn_9, tn_10, tn_11, tn_12, tn_13, tn_14, tn_15, tn_16, tn_17, tn_18, tn_19, tn_20, tn_21, tn_22, tn_23, tn_24, tn_25, tn_26, tn_27, in_0, in_1, in_2, in_3, in_4, in_5, in_6, in_7, in_8, in_9, in_10, in_11, in_12, in_13, in_14, in_15, in_16, in_17, in_18, in_19, in_20, in_21, in_22, in_23, in_24, in_25, in_26, in_27, e_rf_s]
        rw [kX9_passes_138]
        simp only [r_aload_n, r_bipush, r_dup2, r_getf0, r_getf1, r_getf2, r_goto, r_iadd, r_iald, r_iast, r_ic_gt, r_ic_ne, r_iconst, r_if_eq, r_if_ne, r_iinc, r_iload_n, r_irem, r_iret0, r_iret1, r_istore_n, r_nop, kX9_passes_0, kX9_passes_26, kX9_passes_80, kX9_passes_81, kX9_passes_84, kX9_passes_108, kX9_passes_142, kX9_passes_143, lX9_passes_0, lX9_passes_26, lX9_passes_28, lX9_passes_80, lX9_passes_81, lX9_passes_84, lX9_passes_90, lX9_passes_108, lX9_passes_109, lX9_passes_138, lX9_passes_142, lX9_passes_143, vX9_computeNow, vX9_hour, vX9_isTime, vX9_of, vX9_outside, vX9_put, vX9_regulates, vX9_switches, vX9_unlocks, sl_n, sl_i, sl_r, sl_l, e_wi_s, e_wr_s, e_wl_s, e_lk, e_sto, e_ok, e_no, e_isL, Option.toList_some, Option.toList_none, List.cons_append, List.nil_append, List.length_cons, List.length_nil, Bool.not_false, Bool.not_true, Bool.and_true, Bool.true_and, Bool.false_and, Bool.and_false, Bool.and_self, Nat.reduceBEq, Nat.reduceAdd, Nat.reduceEqDiff, Nat.reduceLeDiff, Nat.reduceLT, Nat.zero_le, Nat.le_refl, if_true, if_false, ite_true, ite_false, true_and, and_true, true_or, or_true, not_false_eq_true, not_true_eq_false, e_set_self, Nat.succ_ne_zero, eq_self, e_set_slot, zero_01, one_01, e_b_0, e_b_01, or_self, or_false, false_or, R_1_0, R_1_1, R_1_2, R_1_3, R_1_4, R_1_5, R_1_6, R_32_0, R_32_1, R_32_2, R_36_0, R_36_1, R_36_2, R_36_3, R_37_0, R_37_1, R_37_2, R_68_0, R_70_0, R_164_0, R_164_1, R_164_3, R_164_5, R_164_6, R_164_7, R_164_8, R_164_10, R_164_11, R_2_4, R_2_5, ok_1, ok_32, ok_36, ok_37, ok_68, ok_70, ok_164, ok_2, ok_3, sz_3, ok_4, sz_4, ok_33, sz_33, ok_34, sz_34, ok_35, sz_35, ok_38, sz_38, ok_39, sz_39, ok_40, sz_40, ok_41, sz_41, ok_66, sz_66, ok_67, sz_67, ok_69, sz_69, ok_71, sz_71, ok_162, sz_162, ok_163, sz_163, ok_165, sz_165, ok_166, sz_166, ok_167, sz_167, ok_168, sz_168, ok_169, sz_169, ok_170, sz_170, ok_171, sz_171, ok_172, sz_172, ok_173, sz_173, tn_0, tn_1, tn_2, tn_3, tn_4, tn_5, tn_6, tn_7, tn_8, tn_9, tn_10, tn_11, tn_12, tn_13, tn_14, tn_15, tn_16, tn_17, tn_18, tn_19, tn_20, tn_21, tn_22, tn_23, tn_24, tn_25, tn_26, tn_27, in_0, in_1, in_2, in_3, in_4, in_5, in_6, in_7, in_8, in_9, in_10, in_11, in_12, in_13, in_14, in_15, in_16, in_17, in_18, in_19, in_20, in_21, in_22, in_23, in_24, in_25, in_26, in_27, e_rf_s]
        exact e
    by_cases p : s = 0
    · have p' := eq_true p
      rw [e_b_t p] at stB
      simp only [r_aload_n, r_bipush, r_dup2, r_getf0, r_getf1, r_getf2, r_goto, r_iadd, r_iald, r_iast, r_ic_gt, r_ic_ne, r_iconst, r_if_eq, r_if_ne, r_iinc, r_iload_n, r_irem, r_iret0, r_iret1, r_istore_n, r_nop, kX9_passes_0, kX9_passes_26, kX9_passes_80, kX9_passes_81, kX9_passes_84, kX9_passes_108, kX9_passes_142, kX9_passes_143, lX9_passes_0, lX9_passes_26, lX9_passes_28, lX9_passes_80, lX9_passes_81, lX9_passes_84, lX9_passes_90, lX9_passes_108, lX9_passes_109, lX9_passes_138, lX9_passes_142, lX9_passes_143, vX9_computeNow, vX9_hour, vX9_isTime, vX9_of, vX9_outside, vX9_put, vX9_regulates, vX9_switches, vX9_unlocks, sl_n, sl_i, sl_r, sl_l, e_wi_s, e_wr_s, e_wl_s, e_lk, e_sto, e_ok, e_no, e_isL, Option.toList_some, Option.toList_none, List.cons_append, List.nil_append, List.length_cons, List.length_nil, Bool.not_false, Bool.not_true, Bool.and_true, Bool.true_and, Bool.false_and, Bool.and_false, Bool.and_self, Nat.reduceBEq, Nat.reduceAdd, Nat.reduceEqDiff, Nat.reduceLeDiff, Nat.reduceLT, Nat.zero_le, Nat.le_refl, if_true, if_false, ite_true, ite_false, true_and, and_true, true_or, or_true, not_false_eq_true, not_true_eq_false, e_set_self, Nat.succ_ne_zero, eq_self, p', e_set_slot, zero_01, one_01, e_b_0, e_b_01, or_self, or_false, false_or, R_1_0, R_1_1, R_1_2, R_1_3, R_1_4, R_1_5, R_1_6, R_32_0, R_32_1, R_32_2, R_36_0, R_36_1, R_36_2, R_36_3, R_37_0, R_37_1, R_37_2, R_68_0, R_70_0, R_164_0, R_164_1, R_164_3, R_164_5, R_164_6, R_164_7, R_164_8, R_164_10, R_164_11, R_2_4, R_2_5, ok_1, ok_32, ok_36, ok_37, ok_68, ok_70, ok_164, ok_2, ok_3, sz_3, ok_4, sz_4, ok_33, sz_33, ok_34, sz_34, ok_35, sz_35, ok_38, sz_38, ok_39, sz_39, ok_40, sz_40, ok_41, sz_41, ok_66, sz_66, ok_67, sz_67, ok_69, sz_69, ok_71, sz_71, ok_162, sz_162, ok_163, sz_163, ok_165, sz_165, ok_166, sz_166, ok_167, sz_167, ok_168, sz_168, ok_169, sz_169, ok_170, sz_170, ok_171, sz_171, ok_172, sz_172, ok_173, sz_173, tn_0, tn_1, tn_2, tn_3, tn_4, tn_5, tn_6, tn_7, tn_8, tn_9, tn_10, tn_11, tn_12, tn_13, tn_14, tn_15, tn_16, tn_17, tn_18, tn_19, tn_20, tn_21, tn_22, tn_23, tn_24, tn_25, tn_26, tn_27, in_0, in_1, in_2, in_3, in_4, in_5, in_6, in_7, in_8, in_9, in_10, in_11, in_12, in_13, in_14, in_15, in_16, in_17, in_18, in_19, in_20, in_21, in_22, in_23, in_24, in_25, in_26, in_27, e_rf_s]
      exact stB
    · have p' := eq_false p
      rw [e_b_f p] at stB
      simp only [r_aload_n, r_bipush, r_dup2, r_getf0, r_getf1, r_getf2, r_goto, r_iadd, r_iald, r_iast, r_ic_gt, r_ic_ne, r_iconst, r_if_eq, r_if_ne, r_iinc, r_iload_n, r_irem, r_iret0, r_iret1, r_istore_n, r_nop, kX9_passes_0, kX9_passes_26, kX9_passes_80, kX9_passes_81, kX9_passes_84, kX9_passes_108, kX9_passes_142, kX9_passes_143, lX9_passes_0, lX9_passes_26, lX9_passes_28, lX9_passes_80, lX9_passes_81, lX9_passes_84, lX9_passes_90, lX9_passes_108, lX9_passes_109, lX9_passes_138, lX9_passes_142, lX9_passes_143, vX9_computeNow, vX9_hour, vX9_isTime, vX9_of, vX9_outside, vX9_put, vX9_regulates, vX9_switches, vX9_unlocks, sl_n, sl_i, sl_r, sl_l, e_wi_s, e_wr_s, e_wl_s, e_lk, e_sto, e_ok, e_no, e_isL, Option.toList_some, Option.toList_none, List.cons_append, List.nil_append, List.length_cons, List.length_nil, Bool.not_false, Bool.not_true, Bool.and_true, Bool.true_and, Bool.false_and, Bool.and_false, Bool.and_self, Nat.reduceBEq, Nat.reduceAdd, Nat.reduceEqDiff, Nat.reduceLeDiff, Nat.reduceLT, Nat.zero_le, Nat.le_refl, if_true, if_false, ite_true, ite_false, true_and, and_true, true_or, or_true, not_false_eq_true, not_true_eq_false, e_set_self, Nat.succ_ne_zero, eq_self, p', e_set_slot, zero_01, one_01, e_b_0, e_b_01, or_self, or_false, false_or, R_1_0, R_1_1, R_1_2, R_1_3, R_1_4, R_1_5, R_1_6, R_32_0, R_32_1, R_32_2, R_36_0, R_36_1, R_36_2, R_36_3, R_37_0, R_37_1, R_37_2, R_68_0, R_70_0, R_164_0, R_164_1, R_164_3, R_164_5, R_164_6, R_164_7, R_164_8, R_164_10, R_164_11, R_2_4, R_2_5, ok_1, ok_32, ok_36, ok_37, ok_68, ok_70, ok_164, ok_2, ok_3, sz_3, ok_4, sz_4, ok_33, sz_33, ok_34, sz_34, ok_35, sz_35, ok_38, sz_38, ok_39, sz_39, ok_40, sz_40, ok_41, sz_41, ok_66, sz_66, ok_67, sz_67, ok_69, sz_69, ok_71, sz_71, ok_162, sz_162, ok_163, sz_163, ok_165, sz_165, ok_166, sz_166, ok_167, sz_167, ok_168, sz_168, ok_169, sz_169, ok_170, sz_170, ok_171, sz_171, ok_172, sz_172, ok_173, sz_173, tn_0, tn_1, tn_2, tn_3, tn_4, tn_5, tn_6, tn_7, tn_8, tn_9, tn_10, tn_11, tn_12, tn_13, tn_14, tn_15, tn_16, tn_17, tn_18, tn_19, tn_20, tn_21, tn_22, tn_23, tn_24, tn_25, tn_26, tn_27, in_0, in_1, in_2, in_3, in_4, in_5, in_6, in_7, in_8, in_9, in_10, in_11, in_12, in_13, in_14, in_15, in_16, in_17, in_18, in_19, in_20, in_21, in_22, in_23, in_24, in_25, in_26, in_27, e_rf_s]
      exact stB
  have stL : ∀ m1, Fp m m1 → mw 165 0 m1 = (if (t + 1) % 60 = 0 then uL (e_set w 0 0 (nI (t + 1))) n else e_set w 0 0 (nI (t + 1))) → Wp xs L kX9_passes_28 [(0, .ref (164 : Nat)), (1, .int (nI (0 + 1)))] [] (173, m1, e_rs sv) Q := by
    intro m1 f1 v1
    have hrow : mw 165 0 m1 0 = e_set w 0 0 (nI (t + 1)) 0 := by
      rw [v1]
      split
      · rw [uL_row n (Or.inr rfl)]
      · rfl
    have I : Iv n (mw 165 0 m1) := by
      rw [v1]
      split
      · exact uL_iv (hI.set0 (Or.inl rfl)) n
      · exact hI.set0 (Or.inl rfl)
    refine lp_passT hn ht2 (m0 := m1) (fun k a b => (I.2 k a b).1.2.2.2.1) n 0 (by omega) m1 Fm.rf rfl (cc hrow u3) (tt hrow u0) (fun m2 f2 v2 _ _ => ?_)
    refine stA m2 (f1.tr f2.fp) ?_ _
    rw [v2, v1]
    rfl
  have v0 : mw 165 0 (e_set m 165 0 (nI (t + 1))) = e_set w 0 0 (nI (t + 1)) := by rw [mu_0 (by decide), hw]
  have k0 : e_set m 165 0 (nI (t + 1)) 165 3 = nI n := by rw [e_set_slot (by decide)]; exact hc
  by_cases p : (t + 1) % 60 = 0
  · rw [if_pos p] at stL
    rw [p] at a2
    have z0 : (nI 0 = 0) = True := by decide
    simp only [r_aload_n, r_bipush, r_dup2, r_getf0, r_getf1, r_getf2, r_goto, r_iadd, r_iald, r_iast, r_ic_gt, r_ic_ne, r_iconst, r_if_eq, r_if_ne, r_iinc, r_iload_n, r_irem, r_iret0, r_iret1, r_istore_n, r_nop, kX9_passes_0, kX9_passes_26, kX9_passes_80, kX9_passes_81, kX9_passes_84, kX9_passes_108, kX9_passes_142, kX9_passes_143, lX9_passes_0, lX9_passes_26, lX9_passes_28, lX9_passes_80, lX9_passes_81, lX9_passes_84, lX9_passes_90, lX9_passes_108, lX9_passes_109, lX9_passes_138, lX9_passes_142, lX9_passes_143, vX9_computeNow, vX9_hour, vX9_isTime, vX9_of, vX9_outside, vX9_put, vX9_regulates, vX9_switches, vX9_unlocks, sl_n, sl_i, sl_r, sl_l, e_wi_s, e_wr_s, e_wl_s, e_lk, e_sto, e_ok, e_no, e_isL, Option.toList_some, Option.toList_none, List.cons_append, List.nil_append, List.length_cons, List.length_nil, Bool.not_false, Bool.not_true, Bool.and_true, Bool.true_and, Bool.false_and, Bool.and_false, Bool.and_self, Nat.reduceBEq, Nat.reduceAdd, Nat.reduceEqDiff, Nat.reduceLeDiff, Nat.reduceLT, Nat.zero_le, Nat.le_refl, if_true, if_false, ite_true, ite_false, true_and, and_true, true_or, or_true, not_false_eq_true, not_true_eq_false, e_set_self, Nat.succ_ne_zero, eq_self, ht, a1, n60, a2, e_set_self, z0, e_set_slot, zero_01, one_01, e_b_0, e_b_01, or_self, or_false, false_or, R_1_0, R_1_1, R_1_2, R_1_3, R_1_4, R_1_5, R_1_6, R_32_0, R_32_1, R_32_2, R_36_0, R_36_1, R_36_2, R_36_3, R_37_0, R_37_1, R_37_2, R_68_0, R_70_0, R_164_0, R_164_1, R_164_3, R_164_5, R_164_6, R_164_7, R_164_8, R_164_10, R_164_11, R_2_4, R_2_5, ok_1, ok_32, ok_36, ok_37, ok_68, ok_70, ok_164, ok_2, ok_3, sz_3, ok_4, sz_4, ok_33, sz_33, ok_34, sz_34, ok_35, sz_35, ok_38, sz_38, ok_39, sz_39, ok_40, sz_40, ok_41, sz_41, ok_66, sz_66, ok_67, sz_67, ok_69, sz_69, ok_71, sz_71, ok_162, sz_162, ok_163, sz_163, ok_165, sz_165, ok_166, sz_166, ok_167, sz_167, ok_168, sz_168, ok_169, sz_169, ok_170, sz_170, ok_171, sz_171, ok_172, sz_172, ok_173, sz_173, tn_0, tn_1, tn_2, tn_3, tn_4, tn_5, tn_6, tn_7, tn_8, tn_9, tn_10, tn_11, tn_12, tn_13, tn_14, tn_15, tn_16, tn_17, tn_18, tn_19, tn_20, tn_21, tn_22, tn_23, tn_24, tn_25, tn_26, tn_27, in_0, in_1, in_2, in_3, in_4, in_5, in_6, in_7, in_8, in_9, in_10, in_11, in_12, in_13, in_14, in_15, in_16, in_17, in_18, in_19, in_20, in_21, in_22, in_23, in_24, in_25, in_26, in_27, e_rf_s]
    refine c_X9_unlocks hn k0 (fun m1 f1 v1 => ?_)
    rw [v0] at v1
    have f := stL m1 ((Fm.rf.set).fp.tr f1.fp) v1
    simp only [r_aload_n, r_bipush, r_dup2, r_getf0, r_getf1, r_getf2, r_goto, r_iadd, r_iald, r_iast, r_ic_gt, r_ic_ne, r_iconst, r_if_eq, r_if_ne, r_iinc, r_iload_n, r_irem, r_iret0, r_iret1, r_istore_n, r_nop, kX9_passes_0, kX9_passes_26, kX9_passes_80, kX9_passes_81, kX9_passes_84, kX9_passes_108, kX9_passes_142, kX9_passes_143, lX9_passes_0, lX9_passes_26, lX9_passes_28, lX9_passes_80, lX9_passes_81, lX9_passes_84, lX9_passes_90, lX9_passes_108, lX9_passes_109, lX9_passes_138, lX9_passes_142, lX9_passes_143, vX9_computeNow, vX9_hour, vX9_isTime, vX9_of, vX9_outside, vX9_put, vX9_regulates, vX9_switches, vX9_unlocks, sl_n, sl_i, sl_r, sl_l, e_wi_s, e_wr_s, e_wl_s, e_lk, e_sto, e_ok, e_no, e_isL, Option.toList_some, Option.toList_none, List.cons_append, List.nil_append, List.length_cons, List.length_nil, Bool.not_false, Bool.not_true, Bool.and_true, Bool.true_and, Bool.false_and, Bool.and_false, Bool.and_self, Nat.reduceBEq, Nat.reduceAdd, Nat.reduceEqDiff, Nat.reduceLeDiff, Nat.reduceLT, Nat.zero_le, Nat.le_refl, if_true, if_false, ite_true, ite_false, true_and, and_true, true_or, or_true, not_false_eq_true, not_true_eq_false, e_set_self, Nat.succ_ne_zero, eq_self, e_set_slot, zero_01, one_01, e_b_0, e_b_01, or_self, or_false, false_or, R_1_0, R_1_1, R_1_2, R_1_3, R_1_4, R_1_5, R_1_6, R_32_0, R_32_1, R_32_2, R_36_0, R_36_1, R_36_2, R_36_3, R_37_0, R_37_1, R_37_2, R_68_0, R_70_0, R_164_0, R_164_1, R_164_3, R_164_5, R_164_6, R_164_7, R_164_8, R_164_10, R_164_11, R_2_4, R_2_5, ok_1, ok_32, ok_36, ok_37, ok_68, ok_70, ok_164, ok_2, ok_3, sz_3, ok_4, sz_4, ok_33, sz_33, ok_34, sz_34, ok_35, sz_35, ok_38, sz_38, ok_39, sz_39, ok_40, sz_40, ok_41, sz_41, ok_66, sz_66, ok_67, sz_67, ok_69, sz_69, ok_71, sz_71, ok_162, sz_162, ok_163, sz_163, ok_165, sz_165, ok_166, sz_166, ok_167, sz_167, ok_168, sz_168, ok_169, sz_169, ok_170, sz_170, ok_171, sz_171, ok_172, sz_172, ok_173, sz_173, tn_0, tn_1, tn_2, tn_3, tn_4, tn_5, tn_6, tn_7, tn_8, tn_9, tn_10, tn_11, tn_12, tn_13, tn_14, tn_15, tn_16, tn_17, tn_18, tn_19, tn_20, tn_21, tn_22, tn_23, tn_24, tn_25, tn_26, tn_27, in_0, in_1, in_2, in_3, in_4, in_5, in_6, in_7, in_8, in_9, in_10, in_11, in_12, in_13, in_14, in_15, in_16, in_17, in_18, in_19, in_20, in_21, in_22, in_23, in_24, in_25, in_26, in_27, e_rf_s]
    exact f
  · rw [if_neg p] at stL
    have z0 : (nI ((t + 1) % 60) = 0) = False := eq_false (fun h => p (by
      have h2 : (nI ((t + 1) % 60)).toNatClampNeg = (t + 1) % 60 := nI_nat (by omega)
      rw [h] at h2
      exact h2.symm))
    have f := stL _ (Fm.rf.set).fp v0
    simp only [r_aload_n, r_bipush, r_dup2, r_getf0, r_getf1, r_getf2, r_goto, r_iadd, r_iald, r_iast, r_ic_gt, r_ic_ne, r_iconst, r_if_eq, r_if_ne, r_iinc, r_iload_n, r_irem, r_iret0, r_iret1, r_istore_n, r_nop, kX9_passes_0, kX9_passes_26, kX9_passes_80, kX9_passes_81, kX9_passes_84, kX9_passes_108, kX9_passes_142, kX9_passes_143, lX9_passes_0, lX9_passes_26, lX9_passes_28, lX9_passes_80, lX9_passes_81, lX9_passes_84, lX9_passes_90, lX9_passes_108, lX9_passes_109, lX9_passes_138, lX9_passes_142, lX9_passes_143, vX9_computeNow, vX9_hour, vX9_isTime, vX9_of, vX9_outside, vX9_put, vX9_regulates, vX9_switches, vX9_unlocks, sl_n, sl_i, sl_r, sl_l, e_wi_s, e_wr_s, e_wl_s, e_lk, e_sto, e_ok, e_no, e_isL, Option.toList_some, Option.toList_none, List.cons_append, List.nil_append, List.length_cons, List.length_nil, Bool.not_false, Bool.not_true, Bool.and_true, Bool.true_and, Bool.false_and, Bool.and_false, Bool.and_self, Nat.reduceBEq, Nat.reduceAdd, Nat.reduceEqDiff, Nat.reduceLeDiff, Nat.reduceLT, Nat.zero_le, Nat.le_refl, if_true, if_false, ite_true, ite_false, true_and, and_true, true_or, or_true, not_false_eq_true, not_true_eq_false, e_set_self, Nat.succ_ne_zero, eq_self, ht, a1, n60, a2, e_set_self, z0, e_set_slot, zero_01, one_01, e_b_0, e_b_01, or_self, or_false, false_or, R_1_0, R_1_1, R_1_2, R_1_3, R_1_4, R_1_5, R_1_6, R_32_0, R_32_1, R_32_2, R_36_0, R_36_1, R_36_2, R_36_3, R_37_0, R_37_1, R_37_2, R_68_0, R_70_0, R_164_0, R_164_1, R_164_3, R_164_5, R_164_6, R_164_7, R_164_8, R_164_10, R_164_11, R_2_4, R_2_5, ok_1, ok_32, ok_36, ok_37, ok_68, ok_70, ok_164, ok_2, ok_3, sz_3, ok_4, sz_4, ok_33, sz_33, ok_34, sz_34, ok_35, sz_35, ok_38, sz_38, ok_39, sz_39, ok_40, sz_40, ok_41, sz_41, ok_66, sz_66, ok_67, sz_67, ok_69, sz_69, ok_71, sz_71, ok_162, sz_162, ok_163, sz_163, ok_165, sz_165, ok_166, sz_166, ok_167, sz_167, ok_168, sz_168, ok_169, sz_169, ok_170, sz_170, ok_171, sz_171, ok_172, sz_172, ok_173, sz_173, tn_0, tn_1, tn_2, tn_3, tn_4, tn_5, tn_6, tn_7, tn_8, tn_9, tn_10, tn_11, tn_12, tn_13, tn_14, tn_15, tn_16, tn_17, tn_18, tn_19, tn_20, tn_21, tn_22, tn_23, tn_24, tn_25, tn_26, tn_27, in_0, in_1, in_2, in_3, in_4, in_5, in_6, in_7, in_8, in_9, in_10, in_11, in_12, in_13, in_14, in_15, in_16, in_17, in_18, in_19, in_20, in_21, in_22, in_23, in_24, in_25, in_26, in_27, e_rf_s]
    exact f
end P23
