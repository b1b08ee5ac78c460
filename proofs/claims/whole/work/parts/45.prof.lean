/-! calls of both: the profile text read -/
theorem its_cg {T : Nat → Int32} {l : Nat} : ∀ d a (g g' : Nat → Int32) c, (∀ h, h < 24 → g h = g' h) → (∀ k, its T l d a g c = .error k → its T l d a g' c = .error k) ∧ (∀ c' r, its T l d a g c = .ok (c', r) → ∃ r', its T l d a g' c = .ok (c', r') ∧ ∀ h, h < 24 → r h = r' h)
  | 0, a, g, g', c, hg => by
    refine ⟨fun k hk => (by cases hk), fun c' r hr => ?_⟩
    have e := Prod.mk.inj (Except.ok.inj hr)
    rw [← e.1, ← e.2]
    exact ⟨g', rfl, hg⟩
  | d + 1, a, g, g', c, hg => by
    rw [its, its]
    by_cases p : a < l
    · rw [if_pos p, if_pos p]
      cases hi : itm T l a with
      | error f => exact ⟨fun k hk => hk, fun c' r hr => by cases hr⟩
      | ok z =>
        obtain ⟨e, v1, v2, v3⟩ := z
        dsimp only
        exact its_cg d _ _ _ _ (fun h hh => by
          unfold stF
          split
          · rfl
          · exact hg h hh)
    · rw [if_neg p, if_neg p]
      refine ⟨fun k hk => (by cases hk), fun c' r hr => ?_⟩
      have e := Prod.mk.inj (Except.ok.inj hr)
      rw [← e.1, ← e.2]
      exact ⟨g', rfl, hg⟩
theorem its_bt {T : Nat → Int32} {l : Nat} : ∀ d a (g : Nat → Int32) c c' r, a ≤ l → (∀ h, h < 24 → bt 0 200 (g h)) → its T l d a g c = .ok (c', r) → ∀ h, h < 24 → bt 0 200 (r h)
  | 0, a, g, c, c', r, ha, hg, hr => by
    have e := Prod.mk.inj (Except.ok.inj hr)
    rw [← e.2]
    exact hg
  | d + 1, a, g, c, c', r, ha, hg, hr => by
    rw [its] at hr
    by_cases p : a < l
    · rw [if_pos p] at hr
      cases hi : itm T l a with
      | error f => rw [hi] at hr; cases hr
      | ok z =>
        obtain ⟨e, v1, v2, v3⟩ := z
        rw [hi] at hr
        dsimp only at hr
        have n := itm_ok hi ha
        exact its_bt d _ _ _ _ _ (skp_le n.2.1).2 (fun h hh => by
          unfold stF
          split
          · exact bt_of (by decide) (by decide) n.2.2.2.2
          · exact hg h hh) hr
    · rw [if_neg p] at hr
      have e := Prod.mk.inj (Except.ok.inj hr)
      rw [← e.2]
      exact hg
def fcT (w : e_Tb) (G : Nat → Int32) (N : Nat) : e_Tb := fun k i => if k = 0 ∧ 4 ≤ i ∧ i < 4 + N then G (i - 4) else w k i
theorem fcT_0 {w : e_Tb} {G : Nat → Int32} : fcT w G 0 = w := by
  funext k i
  unfold fcT
  exact if_neg (by omega)
theorem fcT_s {w : e_Tb} {G : Nat → Int32} {i : Nat} : e_set (fcT w G i) 0 (4 + i) (G i) = fcT w G (i + 1) := by
  funext k s
  unfold e_set fcT
  by_cases a : k = 0 ∧ s = 4 + i
  · rw [if_pos a, if_pos (by omega), a.2]
    congr 1
    omega
  · rw [if_neg a]
    by_cases b : k = 0 ∧ 4 ≤ s ∧ s < 4 + i
    · rw [if_pos b, if_pos (by omega)]
    · rw [if_neg b, if_neg (by omega)]
theorem Tbn.fac8 {j n t : Nat} {w w' : e_Tb} {G G' : Nat → Int32} (h : Tbn j n t w w') (hG : ∀ h, h < 24 → G h = G' h) (hb : ∀ h, h < 24 → bt 0 200 (G h)) : Tbn j n t (fcT w G 24) (fcT w' G' 24) := by
  obtain ⟨a, b, c, d, e, f, g⟩ := h
  have row : ∀ (w : e_Tb) G k, k ≠ 0 → fcT w G 24 k = w k := fun w G k hk => by
    funext i
    unfold fcT
    exact if_neg (fun q => hk q.1)
  refine ⟨a, b, ?_, ?_, fun k hk => ?_, ⟨⟨?_, fun h hh => ?_⟩, fun k h1 h2 => ?_⟩, fun k hk i => ?_⟩
  · unfold fcT; rw [if_neg (by omega)]; exact c
  · unfold fcT; rw [if_neg (by omega)]; exact d
  · funext i
    unfold fcT
    by_cases q : k = 0 ∧ 4 ≤ i ∧ i < 4 + 24
    · rw [if_pos q, if_pos q]; exact hG _ (by omega)
    · rw [if_neg q, if_neg q, e k hk]
  · unfold fcT; rw [if_neg (by omega)]; exact f.1.1
  · unfold fcT
    rw [if_pos (by omega), show 4 + h - 4 = h by omega]
    exact hb h hh
  · rw [row w G k (by omega)]; exact f.2 k h1 h2
  · rw [row w G k (by omega)]; exact g k hk i
theorem vw_fac {m : e_Tb} : vw 2 (e_cpy m 162 0 3 0 24) = fcT (vw 2 m) (m 162) 24 := by
  funext k i
  unfold fcT
  by_cases hv : e_valb k i = true
  · by_cases q : k = 0 ∧ 4 ≤ i ∧ i < 4 + 24
    · rw [if_pos q]
      unfold vw
      rw [if_pos hv]
      have evl : vl 2 k i = 3 := by
        unfold vl
        rw [if_pos q.1, if_neg (by omega)]
      have evs : vs k i = i - 4 := by
        unfold vs
        rw [if_pos q.1, if_neg (by omega), if_neg (by omega), if_neg (by omega)]
      rw [evl, evs]
      unfold e_cpy
      rw [if_pos ⟨rfl, by omega, by omega⟩]
      congr 1
      omega
    · rw [if_neg q]
      unfold vw
      rw [if_pos hv, if_pos hv]
      unfold e_cpy
      rw [if_neg]
      rintro ⟨q1, _, q2⟩
      rcases e_valb_iff.mp hv with w | w
      · unfold vl at q1
        rw [if_pos w.1] at q1
        split at q1
        · omega
        · omega
      · unfold vl nd rg bk at q1
        rw [if_neg (by omega)] at q1
        split at q1
        · omega
        · split at q1 <;> omega
  · unfold vw
    rw [if_neg hv, if_neg hv]
    split
    · rename_i q
      exact absurd (e_valb_iff.mpr (Or.inl ⟨q.1, by omega⟩)) hv
    · rfl
section P45
variable {xs : Nat → Int32} {L : Nat} {Q : e_Rs → Prop} {sv sv1 : Nat → Nat} {m m1 m2 m' : e_Tb} {T : Nat → Int32} {l a j : Nat} {g : Nat → Int32}
theorem Rl.chg (h : Rl j sv m) (hm : ∀ c, c ≠ 68 → c ≠ 162 → c ≠ 164 → c ≠ 172 → m' c = m c) (h1 : m' 68 1 = m 68 1) (h2 : ∀ s, s ≠ 9 → m' 164 s = m 164 s) : Rl j sv m' := by
  obtain ⟨c, c1, c2, c3, c4⟩ := h.hs
  obtain ⟨l, l1, l2, l3, l4⟩ := h.tx
  refine ⟨h.sv, ?_, ⟨c, c1, ?_, ?_, fun x hx => ?_⟩, ⟨l, l1, ?_, ?_, fun x hx => ?_⟩, fun x hx => ?_⟩
  · rw [vw_cong (fun c a b => hm c (by omega) (by omega) (by omega) (by omega)), mw_cong (hm 165 (by decide) (by decide) (by decide) (by decide))]
    exact h.tb
  · rw [hm 70 (by decide) (by decide) (by decide) (by decide)]; exact c2
  · rw [h2 2 (by decide)]; exact c3
  · have fx := h.sv.1 x (by omega)
    rw [vw_cong (fun c a b => hm c (by rcases fx.1 with h | h | h | h <;> omega) (by rcases fx.1 with h | h | h | h <;> omega) (by rcases fx.1 with h | h | h | h <;> omega) (by rcases fx.1 with h | h | h | h <;> omega)), mw_cong (hm 166 (by decide) (by decide) (by decide) (by decide))]
    exact c4 x hx
  · rw [h1]; exact l2
  · rw [h2 4 (by decide)]; exact l3
  · rw [hm 69 (by decide) (by decide) (by decide) (by decide), hm 167 (by decide) (by decide) (by decide) (by decide)]; exact l4 x hx
  · rw [hm 163 (by decide) (by decide) (by decide) (by decide), hm 168 (by decide) (by decide) (by decide) (by decide)]; exact h.er x hx
theorem c_save9b (h : Rl j sv m) (s1 : S1 j sv m m1 sv1) (f : ∀ x, 36 ≤ x → x ≠ 164 → x ≠ 172 → m2 x = m1 x) (f2 : ∀ s, s ≠ 9 → m2 164 s = m1 164 s) (hQ : ∀ m3, S2 j sv1 m2 m3 → Q (none, (173, m3, e_rs sv1))) :
    Wp xs L kX9_save_0 [(0, .ref (164 : Nat))] [] (173, m2, e_rs sv1) Q := by
  obtain ⟨sS, fh, c, c1, c3, e1, v1, w1⟩ := s1
  have hh : ∀ x, 162 ≤ x → x ≠ 164 → x ≠ 172 → m2 x = m x := fun x hx a b => by rw [f x (by omega) a b, fh x (by omega)]
  have hg : ∀ s, s ≠ 9 → m2 164 s = m 164 s := fun s hs => by rw [f2 s hs, fh 164 (by omega)]
  have hl : ∀ x, 36 ≤ x → x < 70 → m2 x = m x := fun x hx h2 => by rw [f x (by omega) (by omega) (by omega), fh x (by omega)]
  refine c_X9_save c1 (by rw [hg 2 (by decide)]; exact c3) (fun m3 q e v w => hQ m3 ⟨q, fun m4 fp tb => ?_⟩)
  have h4 : ∀ x, x ≠ 164 → x ≠ 165 → x ≠ 166 → x ≠ 169 → x ≠ 170 → x ≠ 171 → m4 x = m2 x := fun x a b c d e g => by rw [fp x b d e g, q.1 x c a]
  have w4 : ∀ o, mw 166 o m4 = mw 166 o m3 := fun o => mw_cong (fp 166 (by decide) (by decide) (by decide) (by decide))
  have v4 : ∀ i, i < 3 → vw (sv1 i) m4 = vw (sv1 i) m1 := fun i hi => vw_cong (fun x a b => by
    have fx := sS.1 i hi
    have : 36 ≤ x ∧ x < 162 := by rcases fx.1 with h | h | h | h <;> omega
    rw [h4 x (by omega) (by omega) (by omega) (by omega) (by omega) (by omega), f x (by omega) (by omega) (by omega)])
  obtain ⟨l, l1, l2, l3, l4⟩ := h.tx
  refine ⟨sS, tb, ⟨if c = 3 then 3 else c + 1, by split <;> omega, ?_, ?_, fun i hi => ?_⟩, ⟨l, l1, ?_, ?_, fun i hi => ?_⟩, fun i hi => ?_⟩
  · rw [h4 70 (by decide) (by decide) (by decide) (by decide) (by decide) (by decide), f 70 (by omega) (by omega) (by omega)]; exact e1
  · rw [fp 164 (by decide) (by decide) (by decide) (by decide)]; exact e
  · have hi3 : i < 3 := by
      split at hi <;> omega
    rw [v4 i hi3, w4]
    have a166 : ∀ o, mw 166 o m2 = mw 166 o m := fun o => mw_cong (hh 166 (by decide) (by decide) (by decide))
    have a165 : mw 165 0 m2 = mw 165 0 m := mw_cong (hh 165 (by decide) (by decide) (by decide))
    by_cases hl : i < (if c = 3 then 2 else c)
    · rw [v i hl, a166]
      exact (v1 i hl).mono (by omega)
    · have hie : i = (if c = 3 then 2 else c) := by
        by_cases h3 : c = 3
        · simp only [h3, if_true] at hi hl ⊢; omega
        · simp only [h3, if_false] at hi hl ⊢; omega
      rw [hie, w, a165]
      exact w1.mono (by omega)
  · rw [h4 68 (by decide) (by decide) (by decide) (by decide) (by decide) (by decide), hl 68 (by decide) (by decide)]; exact l2
  · rw [fp 164 (by decide) (by decide) (by decide) (by decide), q.2 4 (by decide), hg 4 (by decide)]; exact l3
  · rw [h4 69 (by decide) (by decide) (by decide) (by decide) (by decide) (by decide), hl 69 (by decide) (by decide), h4 167 (by decide) (by decide) (by decide) (by decide) (by decide) (by decide), hh 167 (by decide) (by decide) (by decide)]; exact l4 i hi
  · rw [h4 163 (by decide) (by decide) (by decide) (by decide) (by decide) (by decide), hh 163 (by decide) (by decide) (by decide), h4 168 (by decide) (by decide) (by decide) (by decide) (by decide) (by decide), hh 168 (by decide) (by decide) (by decide)]; exact h.er i hi
def rdF (m : e_Tb) (N : Nat) : Nat → Int32 := fun s => if s < N then m 165 (4 + s) else m 172 s
theorem lp_read9 {m0 : e_Tb} : ∀ (d i : Nat) (m : e_Tb), i + d = 24 → (∀ c, c ≠ 172 → m c = m0 c) → m 172 = rdF m0 i → (∀ m', (∀ c, c ≠ 172 → m' c = m0 c) → m' 172 = rdF m0 24 → Wp xs L kX9_parseProfile_28 [(0, .ref (164 : Nat)), (1, .int (nI 24))] [] (173, m', e_rs sv) Q) →
    Wp xs L kX9_parseProfile_2 [(0, .ref (164 : Nat)), (1, .int (nI i))] [] (173, m, e_rs sv) Q
  | 0, i, m, hd, hm, hr, hQ => by
    have hin : i = 24 := by omega
    subst hin
    have e1 : (nI 24 < 24) = False := nI_nltL (b := 24) rfl (by decide) (by decide) (by decide)
    have fin := hQ m hm hr
    rw [kX9_parseProfile_2]
    simp only [r_aload_n, r_bipush, r_getf0, r_getf1, r_getf2, r_goto, r_iadd, r_iald, r_iast, r_ic_ge, r_iconst, r_if_lt, r_if_ne, r_iinc, r_iload_n, r_iret0, r_iret1, r_istore_n, r_isub, r_nop, r_putf0, r_putf1, kX9_parseProfile_0, kX9_parseProfile_35, kX9_parseProfile_57, kX9_parseProfile_63, kX9_parseProfile_69, kX9_parseProfile_95, lX9_parseProfile_0, lX9_parseProfile_2, lX9_parseProfile_28, lX9_parseProfile_35, lX9_parseProfile_57, lX9_parseProfile_63, lX9_parseProfile_69, lX9_parseProfile_95, vX9_next, vX9_readsItem, vX9_save, sl_n, sl_i, sl_r, sl_l, e_wi_s, e_wr_s, e_wl_s, e_lk, e_sto, e_ok, e_no, e_isL, Option.toList_some, Option.toList_none, List.cons_append, List.nil_append, List.length_cons, List.length_nil, Bool.not_false, Bool.not_true, Bool.and_true, Bool.true_and, Bool.false_and, Bool.and_false, Bool.and_self, Nat.reduceBEq, Nat.reduceAdd, Nat.reduceEqDiff, Nat.reduceLeDiff, Nat.reduceLT, Nat.zero_le, Nat.le_refl, if_true, if_false, ite_true, ite_false, true_and, and_true, true_or, or_true, not_false_eq_true, not_true_eq_false, e_set_self, Nat.succ_ne_zero, eq_self, e1, e_set_slot, zero_01, one_01, e_b_0, e_b_01, or_self, or_false, false_or, R_1_0, R_1_1, R_1_2, R_1_3, R_1_4, R_1_5, R_1_6, R_32_0, R_32_1, R_32_2, R_36_0, R_36_1, R_36_2, R_36_3, R_37_0, R_37_1, R_37_2, R_68_0, R_70_0, R_164_0, R_164_1, R_164_3, R_164_5, R_164_6, R_164_7, R_164_8, R_164_10, R_164_11, R_2_4, R_2_5, ok_1, ok_32, ok_36, ok_37, ok_68, ok_70, ok_164, ok_2, ok_3, sz_3, ok_4, sz_4, ok_33, sz_33, ok_34, sz_34, ok_35, sz_35, ok_38, sz_38, ok_39, sz_39, ok_40, sz_40, ok_41, sz_41, ok_66, sz_66, ok_67, sz_67, ok_69, sz_69, ok_71, sz_71, ok_162, sz_162, ok_163, sz_163, ok_165, sz_165, ok_166, sz_166, ok_167, sz_167, ok_168, sz_168, ok_169, sz_169, ok_170, sz_170, ok_171, sz_171, ok_172, sz_172, ok_173, sz_173, tn_0, tn_1, tn_2, tn_3, tn_4, tn_5, tn_6, tn_7, tn_8, tn_9, tn_10, tn_11, tn_12, tn_13, tn_14, tn_15, tn_16, tn_17, tn_18, tn_19, tn_20, tn_21, tn_22, tn_23, tn_24, tn_25, tn_26, tn_27, in_0, in_1, in_2, in_3, in_4, in_5, in_6, in_7, in_8, in_9, in_10, in_11, in_12, in_13, in_14, in_15, in_16, in_17, in_18, in_19, in_20, in_21, in_22, in_23, in_24, in_25, in_26, in_27, e_rf_s]
    exact fin
  | d + 1, i, m, hd, hm, hr, hQ => by
    have e1 : (nI i < 24) = True := nI_ltL (b := 24) rfl (by decide) (by omega)
    have i1 : e_in (nI i) 24 = true := e_in_nI (by omega) (by omega)
    have i2 : (nI i).toNatClampNeg = i := nI_nat (by omega)
    have i3 : nI i + 1 = nI (i + 1) := nI_1 i
    have i4 : 4 + nI i = nI (4 + i) := nI_add 4 i
    have i5 : e_in (nI (4 + i)) 220 = true := e_in_nI (by omega) (by omega)
    have i6 : (nI (4 + i)).toNatClampNeg = 4 + i := nI_nat (by omega)
    have c1 : m 165 = m0 165 := hm 165 (by decide)
    have key := lp_read9 d (i + 1) (e_set m 172 i (m0 165 (4 + i))) (by omega) (fun c hc => by rw [← hm c hc]; funext s; exact e_set_cell hc) (by
      rw [e_set_row, hr]
      funext s
      unfold up rdF
      by_cases q : s = i
      · rw [if_pos q, if_pos (by omega), q]
      · rw [if_neg q]
        by_cases q2 : s < i
        · rw [if_pos q2, if_pos (by omega)]
        · rw [if_neg q2, if_neg (by omega)]) hQ
    rw [kX9_parseProfile_2]
    simp only [r_aload_n, r_bipush, r_getf0, r_getf1, r_getf2, r_goto, r_iadd, r_iald, r_iast, r_ic_ge, r_iconst, r_if_lt, r_if_ne, r_iinc, r_iload_n, r_iret0, r_iret1, r_istore_n, r_isub, r_nop, r_putf0, r_putf1, kX9_parseProfile_0, kX9_parseProfile_35, kX9_parseProfile_57, kX9_parseProfile_63, kX9_parseProfile_69, kX9_parseProfile_95, lX9_parseProfile_0, lX9_parseProfile_2, lX9_parseProfile_28, lX9_parseProfile_35, lX9_parseProfile_57, lX9_parseProfile_63, lX9_parseProfile_69, lX9_parseProfile_95, vX9_next, vX9_readsItem, vX9_save, sl_n, sl_i, sl_r, sl_l, e_wi_s, e_wr_s, e_wl_s, e_lk, e_sto, e_ok, e_no, e_isL, Option.toList_some, Option.toList_none, List.cons_append, List.nil_append, List.length_cons, List.length_nil, Bool.not_false, Bool.not_true, Bool.and_true, Bool.true_and, Bool.false_and, Bool.and_false, Bool.and_self, Nat.reduceBEq, Nat.reduceAdd, Nat.reduceEqDiff, Nat.reduceLeDiff, Nat.reduceLT, Nat.zero_le, Nat.le_refl, if_true, if_false, ite_true, ite_false, true_and, and_true, true_or, or_true, not_false_eq_true, not_true_eq_false, e_set_self, Nat.succ_ne_zero, eq_self, e1, i1, i2, i3, i4, i5, i6, c1, e_set_slot, zero_01, one_01, e_b_0, e_b_01, or_self, or_false, false_or, R_1_0, R_1_1, R_1_2, R_1_3, R_1_4, R_1_5, R_1_6, R_32_0, R_32_1, R_32_2, R_36_0, R_36_1, R_36_2, R_36_3, R_37_0, R_37_1, R_37_2, R_68_0, R_70_0, R_164_0, R_164_1, R_164_3, R_164_5, R_164_6, R_164_7, R_164_8, R_164_10, R_164_11, R_2_4, R_2_5, ok_1, ok_32, ok_36, ok_37, ok_68, ok_70, ok_164, ok_2, ok_3, sz_3, ok_4, sz_4, ok_33, sz_33, ok_34, sz_34, ok_35, sz_35, ok_38, sz_38, ok_39, sz_39, ok_40, sz_40, ok_41, sz_41, ok_66, sz_66, ok_67, sz_67, ok_69, sz_69, ok_71, sz_71, ok_162, sz_162, ok_163, sz_163, ok_165, sz_165, ok_166, sz_166, ok_167, sz_167, ok_168, sz_168, ok_169, sz_169, ok_170, sz_170, ok_171, sz_171, ok_172, sz_172, ok_173, sz_173, tn_0, tn_1, tn_2, tn_3, tn_4, tn_5, tn_6, tn_7, tn_8, tn_9, tn_10, tn_11, tn_12, tn_13, tn_14, tn_15, tn_16, tn_17, tn_18, tn_19, tn_20, tn_21, tn_22, tn_23, tn_24, tn_25, tn_26, tn_27, in_0, in_1, in_2, in_3, in_4, in_5, in_6, in_7, in_8, in_9, in_10, in_11, in_12, in_13, in_14, in_15, in_16, in_17, in_18, in_19, in_20, in_21, in_22, in_23, in_24, in_25, in_26, in_27, e_rf_s]
    exact key
theorem c_parse9 (h4 : m 164 4 = nI l) (hl : l ≤ 120) (hT : ∀ i, i < l → m 167 i = T i ∧ ¬ T i < 0) (hE : ∀ k m', its T l l (skp T l 0) (rdF m 24) 0 = .error k → Pm T l m m' k (m' 172) → Q (some (.int (-10 - nI k)), (173, m', e_rs sv)))
    (hO : ∀ c' g' m' a', its T l l (skp T l 0) (rdF m 24) 0 = .ok (c', g') → Pm T l m m' a' g' → Wp xs L kX9_parseProfile_63 [(0, .ref (164 : Nat)), (1, .int (nI c'))] [] (173, m', e_rs sv) Q) :
    Wp xs L kX9_parseProfile_0 [(0, .ref (164 : Nat))] [] (173, m, e_rs sv) Q := by
  have key := lp_read9 (xs := xs) (L := L) (sv := sv) (Q := Q) (m0 := m) 24 0 m (by decide) (fun _ _ => rfl) (by
    funext s
    unfold rdF
    rw [if_neg (by omega)]) (fun m1 hm hr => by
    have hp : Pm T l m (e_set m1 164 9 0) 0 (rdF m 24) := by
      refine ⟨fun c a b => ?_, fun s hs => ?_, ?_, ?_, by omega, hl, fun i hi => ?_, ?_⟩
      · rw [← hm c b]; funext s; exact e_set_cell a
      · rw [e_set_slot hs, hm 164 (by decide)]
      · rw [e_set_self]; rfl
      · rw [e_set_slot (by decide), hm 164 (by decide)]; exact h4
      · rw [e_set_o (by decide), hm 167 (by decide)]; exact hT i hi
      · rw [← hr]; funext s; exact e_set_cell (by decide)
    have k2 := lp_items9 (xs := xs) (L := L) (sv := sv) (Q := Q) (T := T) (l := l) (m0 := m) l 0 (rdF m 24) 0 (e_set m1 164 9 0) (by omega) hp hE hO
    rw [kX9_parseProfile_28]
    simp only [r_aload_n, r_bipush, r_getf0, r_getf1, r_getf2, r_goto, r_iadd, r_iald, r_iast, r_ic_ge, r_iconst, r_if_lt, r_if_ne, r_iinc, r_iload_n, r_iret0, r_iret1, r_istore_n, r_isub, r_nop, r_putf0, r_putf1, kX9_parseProfile_0, kX9_parseProfile_57, kX9_parseProfile_69, kX9_parseProfile_95, lX9_parseProfile_0, lX9_parseProfile_2, lX9_parseProfile_28, lX9_parseProfile_35, lX9_parseProfile_57, lX9_parseProfile_63, lX9_parseProfile_69, lX9_parseProfile_95, vX9_next, vX9_readsItem, vX9_save, sl_n, sl_i, sl_r, sl_l, e_wi_s, e_wr_s, e_wl_s, e_lk, e_sto, e_ok, e_no, e_isL, Option.toList_some, Option.toList_none, List.cons_append, List.nil_append, List.length_cons, List.length_nil, Bool.not_false, Bool.not_true, Bool.and_true, Bool.true_and, Bool.false_and, Bool.and_false, Bool.and_self, Nat.reduceBEq, Nat.reduceAdd, Nat.reduceEqDiff, Nat.reduceLeDiff, Nat.reduceLT, Nat.zero_le, Nat.le_refl, if_true, if_false, ite_true, ite_false, true_and, and_true, true_or, or_true, not_false_eq_true, not_true_eq_false, e_set_self, Nat.succ_ne_zero, eq_self, e_set_slot, zero_01, one_01, e_b_0, e_b_01, or_self, or_false, false_or, R_1_0, R_1_1, R_1_2, R_1_3, R_1_4, R_1_5, R_1_6, R_32_0, R_32_1, R_32_2, R_36_0, R_36_1, R_36_2, R_36_3, R_37_0, R_37_1, R_37_2, R_68_0, R_70_0, R_164_0, R_164_1, R_164_3, R_164_5, R_164_6, R_164_7, R_164_8, R_164_10, R_164_11, R_2_4, R_2_5, ok_1, ok_32, ok_36, ok_37, ok_68, ok_70, ok_164, ok_2, ok_3, sz_3, ok_4, sz_4, ok_33, sz_33, ok_34, sz_34, ok_35, sz_35, ok_38, sz_38, ok_39, sz_39, ok_40, sz_40, ok_41, sz_41, ok_66, sz_66, ok_67, sz_67, ok_69, sz_69, ok_71, sz_71, ok_162, sz_162, ok_163, sz_163, ok_165, sz_165, ok_166, sz_166, ok_167, sz_167, ok_168, sz_168, ok_169, sz_169, ok_170, sz_170, ok_171, sz_171, ok_172, sz_172, ok_173, sz_173, tn_0, tn_1, tn_2, tn_3, tn_4, tn_5, tn_6, tn_7, tn_8, tn_9, tn_10, tn_11, tn_12, tn_13, tn_14, tn_15, tn_16, tn_17, tn_18, tn_19, tn_20, tn_21, tn_22, tn_23, tn_24, tn_25, tn_26, tn_27, in_0, in_1, in_2, in_3, in_4, in_5, in_6, in_7, in_8, in_9, in_10, in_11, in_12, in_13, in_14, in_15, in_16, in_17, in_18, in_19, in_20, in_21, in_22, in_23, in_24, in_25, in_26, in_27, e_rf_s]
    exact k2)
  simp only [r_aload_n, r_bipush, r_getf0, r_getf1, r_getf2, r_goto, r_iadd, r_iald, r_iast, r_ic_ge, r_iconst, r_if_lt, r_if_ne, r_iinc, r_iload_n, r_iret0, r_iret1, r_istore_n, r_isub, r_nop, r_putf0, r_putf1, kX9_parseProfile_0, kX9_parseProfile_57, kX9_parseProfile_69, kX9_parseProfile_95, lX9_parseProfile_0, lX9_parseProfile_2, lX9_parseProfile_28, lX9_parseProfile_35, lX9_parseProfile_57, lX9_parseProfile_63, lX9_parseProfile_69, lX9_parseProfile_95, vX9_next, vX9_readsItem, vX9_save, sl_n, sl_i, sl_r, sl_l, e_wi_s, e_wr_s, e_wl_s, e_lk, e_sto, e_ok, e_no, e_isL, Option.toList_some, Option.toList_none, List.cons_append, List.nil_append, List.length_cons, List.length_nil, Bool.not_false, Bool.not_true, Bool.and_true, Bool.true_and, Bool.false_and, Bool.and_false, Bool.and_self, Nat.reduceBEq, Nat.reduceAdd, Nat.reduceEqDiff, Nat.reduceLeDiff, Nat.reduceLT, Nat.zero_le, Nat.le_refl, if_true, if_false, ite_true, ite_false, true_and, and_true, true_or, or_true, not_false_eq_true, not_true_eq_false, e_set_self, Nat.succ_ne_zero, eq_self, e_set_slot, zero_01, one_01, e_b_0, e_b_01, or_self, or_false, false_or, R_1_0, R_1_1, R_1_2, R_1_3, R_1_4, R_1_5, R_1_6, R_32_0, R_32_1, R_32_2, R_36_0, R_36_1, R_36_2, R_36_3, R_37_0, R_37_1, R_37_2, R_68_0, R_70_0, R_164_0, R_164_1, R_164_3, R_164_5, R_164_6, R_164_7, R_164_8, R_164_10, R_164_11, R_2_4, R_2_5, ok_1, ok_32, ok_36, ok_37, ok_68, ok_70, ok_164, ok_2, ok_3, sz_3, ok_4, sz_4, ok_33, sz_33, ok_34, sz_34, ok_35, sz_35, ok_38, sz_38, ok_39, sz_39, ok_40, sz_40, ok_41, sz_41, ok_66, sz_66, ok_67, sz_67, ok_69, sz_69, ok_71, sz_71, ok_162, sz_162, ok_163, sz_163, ok_165, sz_165, ok_166, sz_166, ok_167, sz_167, ok_168, sz_168, ok_169, sz_169, ok_170, sz_170, ok_171, sz_171, ok_172, sz_172, ok_173, sz_173, tn_0, tn_1, tn_2, tn_3, tn_4, tn_5, tn_6, tn_7, tn_8, tn_9, tn_10, tn_11, tn_12, tn_13, tn_14, tn_15, tn_16, tn_17, tn_18, tn_19, tn_20, tn_21, tn_22, tn_23, tn_24, tn_25, tn_26, tn_27, in_0, in_1, in_2, in_3, in_4, in_5, in_6, in_7, in_8, in_9, in_10, in_11, in_12, in_13, in_14, in_15, in_16, in_17, in_18, in_19, in_20, in_21, in_22, in_23, in_24, in_25, in_26, in_27, e_rf_s]
  exact key
theorem lp_wr9 {m0 : e_Tb} {c : Nat} : ∀ (d i : Nat) (m : e_Tb), i + d = 24 → (∀ c, c ≠ 165 → m c = m0 c) → mw 165 0 m = fcT (mw 165 0 m0) (m0 172) i → (∀ m', (∀ c, c ≠ 165 → m' c = m0 c) → mw 165 0 m' = fcT (mw 165 0 m0) (m0 172) 24 → Q (some (.int (nI c)), (173, m', e_rs sv))) →
    Wp xs L kX9_parseProfile_69 [(0, .ref (164 : Nat)), (1, .int (nI c)), (2, .int (nI i))] [] (173, m, e_rs sv) Q
  | 0, i, m, hd, hm, hr, hQ => by
    have hin : i = 24 := by omega
    subst hin
    have e1 : (nI 24 < 24) = False := nI_nltL (b := 24) rfl (by decide) (by decide) (by decide)
    have fin := hQ m hm hr
    rw [kX9_parseProfile_69]
    simp only [r_aload_n, r_bipush, r_getf0, r_getf1, r_getf2, r_goto, r_iadd, r_iald, r_iast, r_ic_ge, r_iconst, r_if_lt, r_if_ne, r_iinc, r_iload_n, r_iret0, r_iret1, r_istore_n, r_isub, r_nop, r_putf0, r_putf1, kX9_parseProfile_0, kX9_parseProfile_28, kX9_parseProfile_57, kX9_parseProfile_63, kX9_parseProfile_95, lX9_parseProfile_0, lX9_parseProfile_2, lX9_parseProfile_28, lX9_parseProfile_35, lX9_parseProfile_57, lX9_parseProfile_63, lX9_parseProfile_69, lX9_parseProfile_95, vX9_next, vX9_readsItem, vX9_save, sl_n, sl_i, sl_r, sl_l, e_wi_s, e_wr_s, e_wl_s, e_lk, e_sto, e_ok, e_no, e_isL, Option.toList_some, Option.toList_none, List.cons_append, List.nil_append, List.length_cons, List.length_nil, Bool.not_false, Bool.not_true, Bool.and_true, Bool.true_and, Bool.false_and, Bool.and_false, Bool.and_self, Nat.reduceBEq, Nat.reduceAdd, Nat.reduceEqDiff, Nat.reduceLeDiff, Nat.reduceLT, Nat.zero_le, Nat.le_refl, if_true, if_false, ite_true, ite_false, true_and, and_true, true_or, or_true, not_false_eq_true, not_true_eq_false, e_set_self, Nat.succ_ne_zero, eq_self, e1, e_set_slot, zero_01, one_01, e_b_0, e_b_01, or_self, or_false, false_or, R_1_0, R_1_1, R_1_2, R_1_3, R_1_4, R_1_5, R_1_6, R_32_0, R_32_1, R_32_2, R_36_0, R_36_1, R_36_2, R_36_3, R_37_0, R_37_1, R_37_2, R_68_0, R_70_0, R_164_0, R_164_1, R_164_3, R_164_5, R_164_6, R_164_7, R_164_8, R_164_10, R_164_11, R_2_4, R_2_5, ok_1, ok_32, ok_36, ok_37, ok_68, ok_70, ok_164, ok_2, ok_3, sz_3, ok_4, sz_4, ok_33, sz_33, ok_34, sz_34, ok_35, sz_35, ok_38, sz_38, ok_39, sz_39, ok_40, sz_40, ok_41, sz_41, ok_66, sz_66, ok_67, sz_67, ok_69, sz_69, ok_71, sz_71, ok_162, sz_162, ok_163, sz_163, ok_165, sz_165, ok_166, sz_166, ok_167, sz_167, ok_168, sz_168, ok_169, sz_169, ok_170, sz_170, ok_171, sz_171, ok_172, sz_172, ok_173, sz_173, tn_0, tn_1, tn_2, tn_3, tn_4, tn_5, tn_6, tn_7, tn_8, tn_9, tn_10, tn_11, tn_12, tn_13, tn_14, tn_15, tn_16, tn_17, tn_18, tn_19, tn_20, tn_21, tn_22, tn_23, tn_24, tn_25, tn_26, tn_27, in_0, in_1, in_2, in_3, in_4, in_5, in_6, in_7, in_8, in_9, in_10, in_11, in_12, in_13, in_14, in_15, in_16, in_17, in_18, in_19, in_20, in_21, in_22, in_23, in_24, in_25, in_26, in_27, e_rf_s]
    exact fin
  | d + 1, i, m, hd, hm, hr, hQ => by
    have e1 : (nI i < 24) = True := nI_ltL (b := 24) rfl (by decide) (by omega)
    have i1 : e_in (nI i) 24 = true := e_in_nI (by omega) (by omega)
    have i2 : (nI i).toNatClampNeg = i := nI_nat (by omega)
    have i3 : nI i + 1 = nI (i + 1) := nI_1 i
    have i4 : 4 + nI i = nI (4 + i) := nI_add 4 i
    have i5 : e_in (nI (4 + i)) 220 = true := e_in_nI (by omega) (by omega)
    have i6 : (nI (4 + i)).toNatClampNeg = 4 + i := nI_nat (by omega)
    have c1 : m 172 = m0 172 := hm 172 (by decide)
    have key := lp_wr9 d (i + 1) (e_set m 165 (4 + i) (m0 172 i)) (by omega) (fun c hc => by rw [← hm c hc]; funext s; exact e_set_cell hc) (by
      rw [mu_0 (by omega), hr]
      exact fcT_s) hQ
    rw [kX9_parseProfile_69]
    simp only [r_aload_n, r_bipush, r_getf0, r_getf1, r_getf2, r_goto, r_iadd, r_iald, r_iast, r_ic_ge, r_iconst, r_if_lt, r_if_ne, r_iinc, r_iload_n, r_iret0, r_iret1, r_istore_n, r_isub, r_nop, r_putf0, r_putf1, kX9_parseProfile_0, kX9_parseProfile_28, kX9_parseProfile_57, kX9_parseProfile_63, kX9_parseProfile_95, lX9_parseProfile_0, lX9_parseProfile_2, lX9_parseProfile_28, lX9_parseProfile_35, lX9_parseProfile_57, lX9_parseProfile_63, lX9_parseProfile_69, lX9_parseProfile_95, vX9_next, vX9_readsItem, vX9_save, sl_n, sl_i, sl_r, sl_l, e_wi_s, e_wr_s, e_wl_s, e_lk, e_sto, e_ok, e_no, e_isL, Option.toList_some, Option.toList_none, List.cons_append, List.nil_append, List.length_cons, List.length_nil, Bool.not_false, Bool.not_true, Bool.and_true, Bool.true_and, Bool.false_and, Bool.and_false, Bool.and_self, Nat.reduceBEq, Nat.reduceAdd, Nat.reduceEqDiff, Nat.reduceLeDiff, Nat.reduceLT, Nat.zero_le, Nat.le_refl, if_true, if_false, ite_true, ite_false, true_and, and_true, true_or, or_true, not_false_eq_true, not_true_eq_false, e_set_self, Nat.succ_ne_zero, eq_self, e1, i1, i2, i3, i4, i5, i6, c1, e_set_slot, zero_01, one_01, e_b_0, e_b_01, or_self, or_false, false_or, R_1_0, R_1_1, R_1_2, R_1_3, R_1_4, R_1_5, R_1_6, R_32_0, R_32_1, R_32_2, R_36_0, R_36_1, R_36_2, R_36_3, R_37_0, R_37_1, R_37_2, R_68_0, R_70_0, R_164_0, R_164_1, R_164_3, R_164_5, R_164_6, R_164_7, R_164_8, R_164_10, R_164_11, R_2_4, R_2_5, ok_1, ok_32, ok_36, ok_37, ok_68, ok_70, ok_164, ok_2, ok_3, sz_3, ok_4, sz_4, ok_33, sz_33, ok_34, sz_34, ok_35, sz_35, ok_38, sz_38, ok_39, sz_39, ok_40, sz_40, ok_41, sz_41, ok_66, sz_66, ok_67, sz_67, ok_69, sz_69, ok_71, sz_71, ok_162, sz_162, ok_163, sz_163, ok_165, sz_165, ok_166, sz_166, ok_167, sz_167, ok_168, sz_168, ok_169, sz_169, ok_170, sz_170, ok_171, sz_171, ok_172, sz_172, ok_173, sz_173, tn_0, tn_1, tn_2, tn_3, tn_4, tn_5, tn_6, tn_7, tn_8, tn_9, tn_10, tn_11, tn_12, tn_13, tn_14, tn_15, tn_16, tn_17, tn_18, tn_19, tn_20, tn_21, tn_22, tn_23, tn_24, tn_25, tn_26, tn_27, in_0, in_1, in_2, in_3, in_4, in_5, in_6, in_7, in_8, in_9, in_10, in_11, in_12, in_13, in_14, in_15, in_16, in_17, in_18, in_19, in_20, in_21, in_22, in_23, in_24, in_25, in_26, in_27, e_rf_s]
    exact key
set_option maxHeartbeats 1000000 in
theorem step_parseProfile (h : Rl j sv m) : Step xs L j sv m kX8_parseProfile_0 [(0, .ref (1 : Nat))] kX9_parseProfile_0 [(0, .ref (164 : Nat))] := by
  unfold Step
  obtain ⟨n, t, tb⟩ := h.tb
  obtain ⟨l, l1, l2, l3, l4⟩ := h.tx
  have n24 : ¬ (24 : Int32) < 0 := by decide
  have c24 : (24 : Int32).toNatClampNeg = 24 := by decide
  have l24 : 24 ≤ 24 := Nat.le_refl _
  have hcp : ∀ c, c ≠ 162 → e_cpy m 3 0 162 0 24 c = m c := fun c hc => by
    funext s
    unfold e_cpy
    exact if_neg (fun q => hc q.1)
  have hrow := tb.2.2.2.2.1 0 (Nat.zero_le _)
  have g8 : ∀ h, h < 24 → e_cpy m 3 0 162 0 24 162 h = m 165 (4 + h) := fun h hh => by
    unfold e_cpy
    rw [if_pos ⟨rfl, by omega, by omega⟩, show 0 + (h - 0) = h by omega, ← mr_0 (m := m) (i := 4 + h) (by omega), ← hrow]
    exact (vr_f (B := 2) hh).symm
  have b8 : ∀ h, h < 24 → bt 0 200 (e_cpy m 3 0 162 0 24 162 h) := fun h hh => by
    rw [g8 h hh, ← mr_0 (m := m) (i := 4 + h) (by omega), ← hrow]
    exact tb.2.2.2.2.2.1.1.2 h hh
  simp only [r_aload_n, r_bipush, r_copy, r_fmod, r_getf0, r_getf1, r_getf2, r_iconst, r_if_lt, r_iload_n, r_iret0, r_iret1, r_istore_n, r_isub, r_mabs, r_mmax, r_mmin, r_nop, kX8_parseProfile_0, lX8_parseProfile_0, lX8_parseProfile_51, vX3_save, vX6_readItems, sl_n, sl_i, sl_r, sl_l, e_wi_s, e_wr_s, e_wl_s, e_lk, e_sto, e_ok, e_no, e_isL, Option.toList_some, Option.toList_none, List.cons_append, List.nil_append, List.length_cons, List.length_nil, Bool.not_false, Bool.not_true, Bool.and_true, Bool.true_and, Bool.false_and, Bool.and_false, Bool.and_self, Nat.reduceBEq, Nat.reduceAdd, Nat.reduceEqDiff, Nat.reduceLeDiff, Nat.reduceLT, Nat.zero_le, Nat.le_refl, if_true, if_false, ite_true, ite_false, true_and, and_true, true_or, or_true, not_false_eq_true, not_true_eq_false, e_set_self, Nat.succ_ne_zero, eq_self, n24, c24, l24, e_set_slot, zero_01, one_01, e_b_0, e_b_01, or_self, or_false, false_or, R_1_0, R_1_1, R_1_2, R_1_3, R_1_4, R_1_5, R_1_6, R_32_0, R_32_1, R_32_2, R_36_0, R_36_1, R_36_2, R_36_3, R_37_0, R_37_1, R_37_2, R_68_0, R_70_0, R_164_0, R_164_1, R_164_3, R_164_5, R_164_6, R_164_7, R_164_8, R_164_10, R_164_11, R_2_4, R_2_5, ok_1, ok_32, ok_36, ok_37, ok_68, ok_70, ok_164, ok_2, ok_3, sz_3, ok_4, sz_4, ok_33, sz_33, ok_34, sz_34, ok_35, sz_35, ok_38, sz_38, ok_39, sz_39, ok_40, sz_40, ok_41, sz_41, ok_66, sz_66, ok_67, sz_67, ok_69, sz_69, ok_71, sz_71, ok_162, sz_162, ok_163, sz_163, ok_165, sz_165, ok_166, sz_166, ok_167, sz_167, ok_168, sz_168, ok_169, sz_169, ok_170, sz_170, ok_171, sz_171, ok_172, sz_172, ok_173, sz_173, tn_0, tn_1, tn_2, tn_3, tn_4, tn_5, tn_6, tn_7, tn_8, tn_9, tn_10, tn_11, tn_12, tn_13, tn_14, tn_15, tn_16, tn_17, tn_18, tn_19, tn_20, tn_21, tn_22, tn_23, tn_24, tn_25, tn_26, tn_27, in_0, in_1, in_2, in_3, in_4, in_5, in_6, in_7, in_8, in_9, in_10, in_11, in_12, in_13, in_14, in_15, in_16, in_17, in_18, in_19, in_20, in_21, in_22, in_23, in_24, in_25, in_26, in_27, e_rf_s]
  refine c_items8 (T := m 167) (l := l) (by rw [hcp 68 (by decide)]; exact l2) l1 (fun i hi => by rw [hcp 69 (by decide)]; exact (l4 i hi).1) (fun k x m1 a1 g1 hk hp => ?_) (fun c g1 m1 a1 hk hp => ?_)
  · have k6 : k ≤ l := its_er _ _ _ _ _ (skp_le (Nat.zero_le _)).2 hk
    have p3 := hp.2.2.2.1
    have z : (nI k < 0) = False := eq_false (nI_pos (by omega))
    simp only [r_aload_n, r_bipush, r_copy, r_fmod, r_getf0, r_getf1, r_getf2, r_iconst, r_if_lt, r_iload_n, r_iret0, r_iret1, r_istore_n, r_isub, r_mabs, r_mmax, r_mmin, r_nop, kX8_parseProfile_0, lX8_parseProfile_0, lX8_parseProfile_51, vX3_save, vX6_readItems, sl_n, sl_i, sl_r, sl_l, e_wi_s, e_wr_s, e_wl_s, e_lk, e_sto, e_ok, e_no, e_isL, Option.toList_some, Option.toList_none, List.cons_append, List.nil_append, List.length_cons, List.length_nil, Bool.not_false, Bool.not_true, Bool.and_true, Bool.true_and, Bool.false_and, Bool.and_false, Bool.and_self, Nat.reduceBEq, Nat.reduceAdd, Nat.reduceEqDiff, Nat.reduceLeDiff, Nat.reduceLT, Nat.zero_le, Nat.le_refl, if_true, if_false, ite_true, ite_false, true_and, and_true, true_or, or_true, not_false_eq_true, not_true_eq_false, e_set_self, Nat.succ_ne_zero, eq_self, p3, z, e_set_slot, zero_01, one_01, e_b_0, e_b_01, or_self, or_false, false_or, R_1_0, R_1_1, R_1_2, R_1_3, R_1_4, R_1_5, R_1_6, R_32_0, R_32_1, R_32_2, R_36_0, R_36_1, R_36_2, R_36_3, R_37_0, R_37_1, R_37_2, R_68_0, R_70_0, R_164_0, R_164_1, R_164_3, R_164_5, R_164_6, R_164_7, R_164_8, R_164_10, R_164_11, R_2_4, R_2_5, ok_1, ok_32, ok_36, ok_37, ok_68, ok_70, ok_164, ok_2, ok_3, sz_3, ok_4, sz_4, ok_33, sz_33, ok_34, sz_34, ok_35, sz_35, ok_38, sz_38, ok_39, sz_39, ok_40, sz_40, ok_41, sz_41, ok_66, sz_66, ok_67, sz_67, ok_69, sz_69, ok_71, sz_71, ok_162, sz_162, ok_163, sz_163, ok_165, sz_165, ok_166, sz_166, ok_167, sz_167, ok_168, sz_168, ok_169, sz_169, ok_170, sz_170, ok_171, sz_171, ok_172, sz_172, ok_173, sz_173, tn_0, tn_1, tn_2, tn_3, tn_4, tn_5, tn_6, tn_7, tn_8, tn_9, tn_10, tn_11, tn_12, tn_13, tn_14, tn_15, tn_16, tn_17, tn_18, tn_19, tn_20, tn_21, tn_22, tn_23, tn_24, tn_25, tn_26, tn_27, in_0, in_1, in_2, in_3, in_4, in_5, in_6, in_7, in_8, in_9, in_10, in_11, in_12, in_13, in_14, in_15, in_16, in_17, in_18, in_19, in_20, in_21, in_22, in_23, in_24, in_25, in_26, in_27, e_rf_s]
    refine kk ?_
    have ch : ∀ c, c ≠ 68 → c ≠ 162 → m1 c = m c := fun c a b => by rw [hp.1 c a b, hcp c b]
    have cg := its_cg (T := m 167) (l := l) l (skp (m 167) l 0) (e_cpy m 3 0 162 0 24 162) (rdF m1 24) 0 (fun h hh => by
      rw [g8 h hh]
      unfold rdF
      rw [if_pos hh, ch 165 (by decide) (by decide)])
    refine c_parse9 (T := m 167) (l := l) (by rw [ch 164 (by decide) (by decide)]; exact l3) l1 (fun i hi => ?_) (fun k2 m2 hk2 hp2 => ?_) (fun c2 g2 m2 a2 hk2 hp2 => ?_)
    · rw [ch 167 (by decide) (by decide)]
      refine ⟨rfl, fun q => ?_⟩
      have b := (l4 i hi).2
      rw [Int32.lt_iff_toInt_lt, i0] at q
      unfold bt at b
      omega
    · have e := (cg.1 k hk).symm.trans hk2
      have e := Except.error.inj e
      subst e
      refine ⟨m2, rfl, Rl.same (h.chg (fun c a b d e => ?_) ?_ (fun s hs => ?_))⟩
      · rw [hp2.1 c d e, ch c a b]
      · rw [hp2.1 68 (by decide) (by decide), hp.2.1, l2]
      · rw [hp2.2.1 s hs, ch 164 (by decide) (by decide)]
    · exact absurd ((cg.1 k hk).symm.trans hk2) (fun q => by cases q)
  · have p3 := hp.2.2.2.1
    have ch : ∀ c, c ≠ 68 → c ≠ 162 → m1 c = m c := fun c a b => by rw [hp.1 c a b, hcp c b]
    have h1 : Rl j sv m1 := h.chg (fun c a b _ _ => ch c a b) (by rw [hp.2.1, l2]) (fun s _ => by rw [ch 164 (by decide) (by decide)])
    simp only [r_aload_n, r_bipush, r_copy, r_fmod, r_getf0, r_getf1, r_getf2, r_iconst, r_if_lt, r_iload_n, r_iret0, r_iret1, r_istore_n, r_isub, r_mabs, r_mmax, r_mmin, r_nop, kX8_parseProfile_0, lX8_parseProfile_0, lX8_parseProfile_51, vX3_save, vX6_readItems, sl_n, sl_i, sl_r, sl_l, e_wi_s, e_wr_s, e_wl_s, e_lk, e_sto, e_ok, e_no, e_isL, Option.toList_some, Option.toList_none, List.cons_append, List.nil_append, List.length_cons, List.length_nil, Bool.not_false, Bool.not_true, Bool.and_true, Bool.true_and, Bool.false_and, Bool.and_false, Bool.and_self, Nat.reduceBEq, Nat.reduceAdd, Nat.reduceEqDiff, Nat.reduceLeDiff, Nat.reduceLT, Nat.zero_le, Nat.le_refl, if_true, if_false, ite_true, ite_false, true_and, and_true, true_or, or_true, not_false_eq_true, not_true_eq_false, e_set_self, Nat.succ_ne_zero, eq_self, p3, n_m1l, e_set_slot, zero_01, one_01, e_b_0, e_b_01, or_self, or_false, false_or, R_1_0, R_1_1, R_1_2, R_1_3, R_1_4, R_1_5, R_1_6, R_32_0, R_32_1, R_32_2, R_36_0, R_36_1, R_36_2, R_36_3, R_37_0, R_37_1, R_37_2, R_68_0, R_70_0, R_164_0, R_164_1, R_164_3, R_164_5, R_164_6, R_164_7, R_164_8, R_164_10, R_164_11, R_2_4, R_2_5, ok_1, ok_32, ok_36, ok_37, ok_68, ok_70, ok_164, ok_2, ok_3, sz_3, ok_4, sz_4, ok_33, sz_33, ok_34, sz_34, ok_35, sz_35, ok_38, sz_38, ok_39, sz_39, ok_40, sz_40, ok_41, sz_41, ok_66, sz_66, ok_67, sz_67, ok_69, sz_69, ok_71, sz_71, ok_162, sz_162, ok_163, sz_163, ok_165, sz_165, ok_166, sz_166, ok_167, sz_167, ok_168, sz_168, ok_169, sz_169, ok_170, sz_170, ok_171, sz_171, ok_172, sz_172, ok_173, sz_173, tn_0, tn_1, tn_2, tn_3, tn_4, tn_5, tn_6, tn_7, tn_8, tn_9, tn_10, tn_11, tn_12, tn_13, tn_14, tn_15, tn_16, tn_17, tn_18, tn_19, tn_20, tn_21, tn_22, tn_23, tn_24, tn_25, tn_26, tn_27, in_0, in_1, in_2, in_3, in_4, in_5, in_6, in_7, in_8, in_9, in_10, in_11, in_12, in_13, in_14, in_15, in_16, in_17, in_18, in_19, in_20, in_21, in_22, in_23, in_24, in_25, in_26, in_27, e_rf_s]
    rw [kX8_parseProfile_51]
    simp only [r_aload_n, r_bipush, r_copy, r_fmod, r_getf0, r_getf1, r_getf2, r_iconst, r_if_lt, r_iload_n, r_iret0, r_iret1, r_istore_n, r_isub, r_mabs, r_mmax, r_mmin, r_nop, kX8_parseProfile_0, lX8_parseProfile_0, lX8_parseProfile_51, vX3_save, vX6_readItems, sl_n, sl_i, sl_r, sl_l, e_wi_s, e_wr_s, e_wl_s, e_lk, e_sto, e_ok, e_no, e_isL, Option.toList_some, Option.toList_none, List.cons_append, List.nil_append, List.length_cons, List.length_nil, Bool.not_false, Bool.not_true, Bool.and_true, Bool.true_and, Bool.false_and, Bool.and_false, Bool.and_self, Nat.reduceBEq, Nat.reduceAdd, Nat.reduceEqDiff, Nat.reduceLeDiff, Nat.reduceLT, Nat.zero_le, Nat.le_refl, if_true, if_false, ite_true, ite_false, true_and, and_true, true_or, or_true, not_false_eq_true, not_true_eq_false, e_set_self, Nat.succ_ne_zero, eq_self, e_set_slot, zero_01, one_01, e_b_0, e_b_01, or_self, or_false, false_or, R_1_0, R_1_1, R_1_2, R_1_3, R_1_4, R_1_5, R_1_6, R_32_0, R_32_1, R_32_2, R_36_0, R_36_1, R_36_2, R_36_3, R_37_0, R_37_1, R_37_2, R_68_0, R_70_0, R_164_0, R_164_1, R_164_3, R_164_5, R_164_6, R_164_7, R_164_8, R_164_10, R_164_11, R_2_4, R_2_5, ok_1, ok_32, ok_36, ok_37, ok_68, ok_70, ok_164, ok_2, ok_3, sz_3, ok_4, sz_4, ok_33, sz_33, ok_34, sz_34, ok_35, sz_35, ok_38, sz_38, ok_39, sz_39, ok_40, sz_40, ok_41, sz_41, ok_66, sz_66, ok_67, sz_67, ok_69, sz_69, ok_71, sz_71, ok_162, sz_162, ok_163, sz_163, ok_165, sz_165, ok_166, sz_166, ok_167, sz_167, ok_168, sz_168, ok_169, sz_169, ok_170, sz_170, ok_171, sz_171, ok_172, sz_172, ok_173, sz_173, tn_0, tn_1, tn_2, tn_3, tn_4, tn_5, tn_6, tn_7, tn_8, tn_9, tn_10, tn_11, tn_12, tn_13, tn_14, tn_15, tn_16, tn_17, tn_18, tn_19, tn_20, tn_21, tn_22, tn_23, tn_24, tn_25, tn_26, tn_27, in_0, in_1, in_2, in_3, in_4, in_5, in_6, in_7, in_8, in_9, in_10, in_11, in_12, in_13, in_14, in_15, in_16, in_17, in_18, in_19, in_20, in_21, in_22, in_23, in_24, in_25, in_26, in_27, e_rf_s]
    refine c_save8 h1 (fun m2 sv1 s1 => ?_)
    have v2 := s1.vw
    have w2 := s1.mw
    have v1 : vw 2 m1 = vw 2 m := vw_cong (fun c a b => ch c (by omega) (by omega))
    have w1 : mw 165 0 m1 = mw 165 0 m := mw_cong (ch 165 (by decide) (by decide))
    have g2 : m2 162 = g1 := by rw [s1.2.1 162 (by omega)]; exact hp.2.2.2.2.2.2.2
    have hc3 : ∀ c, c ≠ 3 → e_cpy m2 162 0 3 0 24 c = m2 c := fun c hc => by
      funext s
      unfold e_cpy
      exact if_neg (fun q => hc q.1)
    have ch2 : ∀ c, 36 ≤ c → c ≠ 68 → c ≠ 162 → (c < 70 ∨ 162 ≤ c) → e_cpy m2 162 0 3 0 24 c = m c := fun c a b d e => by rw [hc3 c (by omega), s1.2.1 c e, ch c b d]
    simp only [r_aload_n, r_bipush, r_copy, r_fmod, r_getf0, r_getf1, r_getf2, r_iconst, r_if_lt, r_iload_n, r_iret0, r_iret1, r_istore_n, r_isub, r_mabs, r_mmax, r_mmin, r_nop, kX8_parseProfile_0, lX8_parseProfile_0, lX8_parseProfile_51, vX3_save, vX6_readItems, sl_n, sl_i, sl_r, sl_l, e_wi_s, e_wr_s, e_wl_s, e_lk, e_sto, e_ok, e_no, e_isL, Option.toList_some, Option.toList_none, List.cons_append, List.nil_append, List.length_cons, List.length_nil, Bool.not_false, Bool.not_true, Bool.and_true, Bool.true_and, Bool.false_and, Bool.and_false, Bool.and_self, Nat.reduceBEq, Nat.reduceAdd, Nat.reduceEqDiff, Nat.reduceLeDiff, Nat.reduceLT, Nat.zero_le, Nat.le_refl, if_true, if_false, ite_true, ite_false, true_and, and_true, true_or, or_true, not_false_eq_true, not_true_eq_false, e_set_self, Nat.succ_ne_zero, eq_self, n24, c24, l24, e_set_slot, zero_01, one_01, e_b_0, e_b_01, or_self, or_false, false_or, R_1_0, R_1_1, R_1_2, R_1_3, R_1_4, R_1_5, R_1_6, R_32_0, R_32_1, R_32_2, R_36_0, R_36_1, R_36_2, R_36_3, R_37_0, R_37_1, R_37_2, R_68_0, R_70_0, R_164_0, R_164_1, R_164_3, R_164_5, R_164_6, R_164_7, R_164_8, R_164_10, R_164_11, R_2_4, R_2_5, ok_1, ok_32, ok_36, ok_37, ok_68, ok_70, ok_164, ok_2, ok_3, sz_3, ok_4, sz_4, ok_33, sz_33, ok_34, sz_34, ok_35, sz_35, ok_38, sz_38, ok_39, sz_39, ok_40, sz_40, ok_41, sz_41, ok_66, sz_66, ok_67, sz_67, ok_69, sz_69, ok_71, sz_71, ok_162, sz_162, ok_163, sz_163, ok_165, sz_165, ok_166, sz_166, ok_167, sz_167, ok_168, sz_168, ok_169, sz_169, ok_170, sz_170, ok_171, sz_171, ok_172, sz_172, ok_173, sz_173, tn_0, tn_1, tn_2, tn_3, tn_4, tn_5, tn_6, tn_7, tn_8, tn_9, tn_10, tn_11, tn_12, tn_13, tn_14, tn_15, tn_16, tn_17, tn_18, tn_19, tn_20, tn_21, tn_22, tn_23, tn_24, tn_25, tn_26, tn_27, in_0, in_1, in_2, in_3, in_4, in_5, in_6, in_7, in_8, in_9, in_10, in_11, in_12, in_13, in_14, in_15, in_16, in_17, in_18, in_19, in_20, in_21, in_22, in_23, in_24, in_25, in_26, in_27, e_rf_s]
    refine kk ?_
    have cg := its_cg (T := m 167) (l := l) l (skp (m 167) l 0) (e_cpy m 3 0 162 0 24 162) (rdF (e_cpy m2 162 0 3 0 24) 24) 0 (fun h hh => by
      rw [g8 h hh]
      unfold rdF
      rw [if_pos hh, ch2 165 (by decide) (by decide) (by decide) (by decide)])
    obtain ⟨g9, hk9, hgg⟩ := cg.2 c g1 hk
    refine c_parse9 (T := m 167) (l := l) (by rw [ch2 164 (by decide) (by decide) (by decide) (by decide)]; exact l3) l1 (fun i hi => ?_) (fun k2 m3 hk2 hp2 => ?_) (fun c2 g2' m3 a2 hk2 hp2 => ?_)
    · rw [ch2 167 (by decide) (by decide) (by decide) (by decide)]
      refine ⟨rfl, fun q => ?_⟩
      have b := (l4 i hi).2
      rw [Int32.lt_iff_toInt_lt, i0] at q
      unfold bt at b
      omega
    · exact absurd (hk9.symm.trans hk2) (fun q => by cases q)
    · have e := Prod.mk.inj (Except.ok.inj (hk9.symm.trans hk2))
      have ec := e.1
      have eg := e.2
      subst ec
      subst eg
      rw [kX9_parseProfile_63]
      simp only [r_aload_n, r_bipush, r_getf0, r_getf1, r_getf2, r_goto, r_iadd, r_iald, r_iast, r_ic_ge, r_iconst, r_if_lt, r_if_ne, r_iinc, r_iload_n, r_iret0, r_iret1, r_istore_n, r_isub, r_nop, r_putf0, r_putf1, kX9_parseProfile_0, kX9_parseProfile_28, kX9_parseProfile_57, kX9_parseProfile_63, kX9_parseProfile_95, lX9_parseProfile_0, lX9_parseProfile_2, lX9_parseProfile_28, lX9_parseProfile_35, lX9_parseProfile_57, lX9_parseProfile_63, lX9_parseProfile_69, lX9_parseProfile_95, vX9_next, vX9_readsItem, vX9_save, sl_n, sl_i, sl_r, sl_l, e_wi_s, e_wr_s, e_wl_s, e_lk, e_sto, e_ok, e_no, e_isL, Option.toList_some, Option.toList_none, List.cons_append, List.nil_append, List.length_cons, List.length_nil, Bool.not_false, Bool.not_true, Bool.and_true, Bool.true_and, Bool.false_and, Bool.and_false, Bool.and_self, Nat.reduceBEq, Nat.reduceAdd, Nat.reduceEqDiff, Nat.reduceLeDiff, Nat.reduceLT, Nat.zero_le, Nat.le_refl, if_true, if_false, ite_true, ite_false, true_and, and_true, true_or, or_true, not_false_eq_true, not_true_eq_false, e_set_self, Nat.succ_ne_zero, eq_self, e_set_slot, zero_01, one_01, e_b_0, e_b_01, or_self, or_false, false_or, R_1_0, R_1_1, R_1_2, R_1_3, R_1_4, R_1_5, R_1_6, R_32_0, R_32_1, R_32_2, R_36_0, R_36_1, R_36_2, R_36_3, R_37_0, R_37_1, R_37_2, R_68_0, R_70_0, R_164_0, R_164_1, R_164_3, R_164_5, R_164_6, R_164_7, R_164_8, R_164_10, R_164_11, R_2_4, R_2_5, ok_1, ok_32, ok_36, ok_37, ok_68, ok_70, ok_164, ok_2, ok_3, sz_3, ok_4, sz_4, ok_33, sz_33, ok_34, sz_34, ok_35, sz_35, ok_38, sz_38, ok_39, sz_39, ok_40, sz_40, ok_41, sz_41, ok_66, sz_66, ok_67, sz_67, ok_69, sz_69, ok_71, sz_71, ok_162, sz_162, ok_163, sz_163, ok_165, sz_165, ok_166, sz_166, ok_167, sz_167, ok_168, sz_168, ok_169, sz_169, ok_170, sz_170, ok_171, sz_171, ok_172, sz_172, ok_173, sz_173, tn_0, tn_1, tn_2, tn_3, tn_4, tn_5, tn_6, tn_7, tn_8, tn_9, tn_10, tn_11, tn_12, tn_13, tn_14, tn_15, tn_16, tn_17, tn_18, tn_19, tn_20, tn_21, tn_22, tn_23, tn_24, tn_25, tn_26, tn_27, in_0, in_1, in_2, in_3, in_4, in_5, in_6, in_7, in_8, in_9, in_10, in_11, in_12, in_13, in_14, in_15, in_16, in_17, in_18, in_19, in_20, in_21, in_22, in_23, in_24, in_25, in_26, in_27, e_rf_s]
      refine c_save9b h1 s1 (fun x a b d => by rw [hp2.1 x b d, hc3 x (by omega)]) (fun s hs => by rw [hp2.2.1 s hs, hc3 164 (by decide)]) (fun m4 s2 => ?_)
      have v4 := s2.vw
      have w4 := s2.mw
      have v3 : vw 2 m3 = vw 2 (e_cpy m2 162 0 3 0 24) := vw_cong (fun c a b => hp2.1 c (by omega) (by omega))
      have w3 : mw 165 0 m3 = mw 165 0 m := by
        rw [mw_cong (hp2.1 165 (by decide) (by decide)), mw_cong (hc3 165 (by decide)), w2, w1]
      have g4 : m4 172 = g9 := by rw [s2.1.1 172 (by decide) (by decide)]; exact hp2.2.2.2.2.2.2.2
      have key := lp_wr9 (xs := xs) (L := L) (sv := sv1) (Q := fun y => ∃ m', y = (some (.int (nI c)), (173, m', e_rs sv1)) ∧ Rl (j + 1) sv1 m') (m0 := m4) (c := c) 24 0 m4 (by decide) (fun _ _ => rfl) fcT_0.symm (fun m5 f5 w5 => by
        refine ⟨m5, rfl, s2.2 m5 (fun c a _ _ _ => f5 c a) ?_⟩
        have v5 : vw 2 m5 = vw 2 m4 := vw_cong (fun c a b => f5 c (by omega))
        rw [v5, v4, v3, vw_fac, v2, v1, g2, w5, w4, w3, g4]
        exact Tb.mono (j := j) (by omega) ⟨n, t, tb.fac8 hgg (its_bt _ _ _ _ _ _ (skp_le (Nat.zero_le _)).2 b8 hk)⟩)
      simp only [r_aload_n, r_bipush, r_getf0, r_getf1, r_getf2, r_goto, r_iadd, r_iald, r_iast, r_ic_ge, r_iconst, r_if_lt, r_if_ne, r_iinc, r_iload_n, r_iret0, r_iret1, r_istore_n, r_isub, r_nop, r_putf0, r_putf1, kX9_parseProfile_0, kX9_parseProfile_28, kX9_parseProfile_57, kX9_parseProfile_63, kX9_parseProfile_95, lX9_parseProfile_0, lX9_parseProfile_2, lX9_parseProfile_28, lX9_parseProfile_35, lX9_parseProfile_57, lX9_parseProfile_63, lX9_parseProfile_69, lX9_parseProfile_95, vX9_next, vX9_readsItem, vX9_save, sl_n, sl_i, sl_r, sl_l, e_wi_s, e_wr_s, e_wl_s, e_lk, e_sto, e_ok, e_no, e_isL, Option.toList_some, Option.toList_none, List.cons_append, List.nil_append, List.length_cons, List.length_nil, Bool.not_false, Bool.not_true, Bool.and_true, Bool.true_and, Bool.false_and, Bool.and_false, Bool.and_self, Nat.reduceBEq, Nat.reduceAdd, Nat.reduceEqDiff, Nat.reduceLeDiff, Nat.reduceLT, Nat.zero_le, Nat.le_refl, if_true, if_false, ite_true, ite_false, true_and, and_true, true_or, or_true, not_false_eq_true, not_true_eq_false, e_set_self, Nat.succ_ne_zero, eq_self, e_set_slot, zero_01, one_01, e_b_0, e_b_01, or_self, or_false, false_or, R_1_0, R_1_1, R_1_2, R_1_3, R_1_4, R_1_5, R_1_6, R_32_0, R_32_1, R_32_2, R_36_0, R_36_1, R_36_2, R_36_3, R_37_0, R_37_1, R_37_2, R_68_0, R_70_0, R_164_0, R_164_1, R_164_3, R_164_5, R_164_6, R_164_7, R_164_8, R_164_10, R_164_11, R_2_4, R_2_5, ok_1, ok_32, ok_36, ok_37, ok_68, ok_70, ok_164, ok_2, ok_3, sz_3, ok_4, sz_4, ok_33, sz_33, ok_34, sz_34, ok_35, sz_35, ok_38, sz_38, ok_39, sz_39, ok_40, sz_40, ok_41, sz_41, ok_66, sz_66, ok_67, sz_67, ok_69, sz_69, ok_71, sz_71, ok_162, sz_162, ok_163, sz_163, ok_165, sz_165, ok_166, sz_166, ok_167, sz_167, ok_168, sz_168, ok_169, sz_169, ok_170, sz_170, ok_171, sz_171, ok_172, sz_172, ok_173, sz_173, tn_0, tn_1, tn_2, tn_3, tn_4, tn_5, tn_6, tn_7, tn_8, tn_9, tn_10, tn_11, tn_12, tn_13, tn_14, tn_15, tn_16, tn_17, tn_18, tn_19, tn_20, tn_21, tn_22, tn_23, tn_24, tn_25, tn_26, tn_27, in_0, in_1, in_2, in_3, in_4, in_5, in_6, in_7, in_8, in_9, in_10, in_11, in_12, in_13, in_14, in_15, in_16, in_17, in_18, in_19, in_20, in_21, in_22, in_23, in_24, in_25, in_26, in_27, e_rf_s]
      exact key
end P45
