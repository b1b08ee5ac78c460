/-! the profile text: what reading it gives; that the class reads it so -/
abbrev dgt (x : Int32) : Prop := ¬ x < 48 ∧ ¬ 57 < x
def skF (T : Nat → Int32) : Nat → Nat → Nat
  | 0, a => a
  | d + 1, a => if T a = 32 then skF T d (a + 1) else a
def skp (T : Nat → Int32) (l a : Nat) : Nat := skF T (l - a) a
def nd3 (T : Nat → Int32) (l : Nat) : Nat → Nat → Int32 → Nat × Int32
  | 0, e, v => (e, v)
  | d + 1, e, v => if e < l ∧ dgt (T e) then nd3 T l d (e + 1) (10 * v + T e - 48) else (e, v)
def nu (T : Nat → Int32) (l : Nat) (lo hi : Int32) (a : Nat) : Except Nat (Nat × Int32) :=
  if (nd3 T l 3 (skp T l a) 0).1 = skp T l a + 3 ∧ (nd3 T l 3 (skp T l a) 0).1 < l ∧ dgt (T (nd3 T l 3 (skp T l a) 0).1) then .error (nd3 T l 3 (skp T l a) 0).1
  else if (nd3 T l 3 (skp T l a) 0).1 = skp T l a ∨ ¬ (¬ (nd3 T l 3 (skp T l a) 0).2 < lo ∧ ¬ hi < (nd3 T l 3 (skp T l a) 0).2) then .error (skp T l a)
  else .ok (nd3 T l 3 (skp T l a) 0)
def itm (T : Nat → Int32) (l a : Nat) : Except Nat (Nat × Int32 × Int32 × Int32) := match nu T l 0 23 a with
  | .error f => .error f
  | .ok (e1, v1) => match (if skp T l e1 < l ∧ T (skp T l e1) = 45 then nu T l v1 23 (skp T l e1 + 1) else .ok (skp T l e1, v1)) with
    | .error f => .error f
    | .ok (e2, v2) => if skp T l e2 < l ∧ T (skp T l e2) = 58 then
        match nu T l 0 200 (skp T l e2 + 1) with
        | .error f => .error f
        | .ok (e3, v3) => if skp T l e3 < l ∧ T (skp T l e3) = 59 then .ok (skp T l e3 + 1, v1, v2, v3) else .error (skp T l e3)
      else .error (skp T l e2)
def stF (g : Nat → Int32) (v1 v2 v3 : Int32) : Nat → Int32 := fun h => if v1.toNatClampNeg ≤ h ∧ h ≤ v2.toNatClampNeg then v3 else g h
def its (T : Nat → Int32) (l : Nat) : Nat → Nat → (Nat → Int32) → Nat → Except Nat (Nat × (Nat → Int32))
  | 0, _, g, c => .ok (c, g)
  | d + 1, a, g, c => if a < l then (match itm T l a with
      | .error f => .error f
      | .ok (e, v1, v2, v3) => its T l d (skp T l e) (stF g v1 v2 v3) (c + 1)) else .ok (c, g)
theorem skF_le {T : Nat → Int32} {l : Nat} : ∀ d a, a + d = l → a ≤ skF T d a ∧ skF T d a ≤ l ∧ (skF T d a = l ∨ ¬ T (skF T d a) = 32)
  | 0, a, h => by simp only [skF]; omega
  | d + 1, a, h => by
    rw [skF]
    by_cases p : T a = 32
    · rw [if_pos p]
      have := skF_le (T := T) (l := l) d (a + 1) (by omega)
      exact ⟨by omega, this.2.1, this.2.2⟩
    · rw [if_neg p]
      exact ⟨by omega, by omega, Or.inr p⟩
theorem skp_le {T : Nat → Int32} {l a : Nat} (h : a ≤ l) : a ≤ skp T l a ∧ skp T l a ≤ l := by
  have := skF_le (T := T) (l - a) a (show a + (l - a) = l by omega)
  exact ⟨this.1, this.2.1⟩
theorem skp_id {T : Nat → Int32} {l a : Nat} (h : a ≤ l) : skp T l (skp T l a) = skp T l a := by
  have q := skF_le (T := T) (l - a) a (show a + (l - a) = l by omega)
  have q : a ≤ skp T l a ∧ skp T l a ≤ l ∧ (skp T l a = l ∨ ¬ T (skp T l a) = 32) := q
  generalize skp T l a = s at q ⊢
  unfold skp
  rcases q.2.2 with e | e
  · rw [show l - s = 0 by omega]; rfl
  · cases hd : l - s with
    | zero => rfl
    | succ d => rw [skF, if_neg e]
theorem nd3_le {T : Nat → Int32} {l : Nat} : ∀ d e v, e ≤ l → e ≤ (nd3 T l d e v).1 ∧ (nd3 T l d e v).1 ≤ l ∧ (nd3 T l d e v).1 ≤ e + d
  | 0, e, v, h => by simp only [nd3]; omega
  | d + 1, e, v, h => by
    rw [nd3]
    by_cases p : e < l ∧ dgt (T e)
    · rw [if_pos p]
      have := nd3_le (T := T) d (e + 1) (10 * v + T e - 48) (show e + 1 ≤ l by omega)
      omega
    · rw [if_neg p]
      exact ⟨by omega, h, by omega⟩
theorem nu_ok {T : Nat → Int32} {l a e : Nat} {lo hi v : Int32} (h : nu T l lo hi a = .ok (e, v)) (ha : a ≤ l) : a < e ∧ e ≤ l ∧ ¬ v < lo ∧ ¬ hi < v := by
  have s := skp_le (T := T) ha
  have d := nd3_le (T := T) 3 (skp T l a) 0 s.2
  unfold nu at h
  split at h
  · cases h
  · split at h
    · cases h
    · rename_i p q
      have h := Except.ok.inj h
      rw [h] at d q
      have q1 : ¬ e = skp T l a := fun g => q (Or.inl g)
      have q2 : ¬ v < lo ∧ ¬ hi < v := Classical.byContradiction fun g => q (Or.inr g)
      have d1 : skp T l a ≤ e := d.1
      have d2 : e ≤ l := d.2.1
      exact ⟨by omega, d2, q2⟩
theorem nu_er {T : Nat → Int32} {l a f : Nat} {lo hi : Int32} (h : nu T l lo hi a = .error f) (ha : a ≤ l) : f ≤ l := by
  have s := skp_le (T := T) ha
  have d := nd3_le (T := T) 3 (skp T l a) 0 s.2
  unfold nu at h
  split at h
  · have h := Except.error.inj h
    omega
  · split at h
    · have h := Except.error.inj h
      omega
    · cases h
theorem itm_ok {T : Nat → Int32} {l a e : Nat} {v1 v2 v3 : Int32} (h : itm T l a = .ok (e, v1, v2, v3)) (ha : a ≤ l) : a < e ∧ e ≤ l ∧ (¬ v1 < 0 ∧ ¬ 23 < v1) ∧ (¬ v2 < v1 ∧ ¬ 23 < v2) ∧ (¬ v3 < 0 ∧ ¬ 200 < v3) := by
  unfold itm at h
  split at h
  · cases h
  · rename_i e1 w1 h1
    have n1 := nu_ok h1 ha
    have s1 := skp_le (T := T) n1.2.1
    split at h
    · cases h
    · rename_i e2 w2 h2
      have n2 : skp T l e1 ≤ e2 ∧ e2 ≤ l ∧ ¬ w2 < w1 ∧ ¬ 23 < w2 := by
        split at h2
        · have := nu_ok h2 (by omega)
          exact ⟨by omega, this.2.1, this.2.2⟩
        · have h2 := Except.ok.inj h2
          have h3 := Prod.mk.inj h2
          refine ⟨by omega, by omega, ?_, ?_⟩
          · rw [← h3.2]; exact Int32.lt_irrefl
          · rw [← h3.2]; exact n1.2.2.2
      have s2 := skp_le (T := T) n2.2.1
      split at h
      · split at h
        · cases h
        · rename_i e3 w3 h3
          have n3 := nu_ok h3 (by omega)
          have s3 := skp_le (T := T) n3.2.1
          split at h
          · have h := Except.ok.inj h
            have q := Prod.mk.inj h
            have q2 := Prod.mk.inj q.2
            have q3 := Prod.mk.inj q2.2
            rw [← q2.1, ← q3.1, ← q3.2]
            exact ⟨by omega, by omega, n1.2.2, n2.2.2, n3.2.2⟩
          · cases h
      · cases h
theorem itm_er {T : Nat → Int32} {l a f : Nat} (h : itm T l a = .error f) (ha : a ≤ l) : f ≤ l := by
  unfold itm at h
  split at h
  · rename_i f1 h1
    have := nu_er h1 ha
    have h := Except.error.inj h
    omega
  · rename_i e1 w1 h1
    have n1 := nu_ok h1 ha
    have s1 := skp_le (T := T) n1.2.1
    split at h
    · rename_i f1 h2
      have h := Except.error.inj h
      subst h
      split at h2
      · exact nu_er h2 (by omega)
      · cases h2
    · rename_i e2 w2 h2
      have n2 : e2 ≤ l := by
        split at h2
        · exact (nu_ok h2 (by omega)).2.1
        · have h2 := Except.ok.inj h2
          have h3 := Prod.mk.inj h2
          omega
      have s2 := skp_le (T := T) n2
      split at h
      · split at h
        · rename_i f1 h3
          have h := Except.error.inj h
          subst h
          exact nu_er h3 (by omega)
        · rename_i e3 w3 h3
          have n3 := nu_ok h3 (by omega)
          have s3 := skp_le (T := T) n3.2.1
          split at h
          · cases h
          · have h := Except.error.inj h
            omega
      · have h := Except.error.inj h
        omega
theorem its_er {T : Nat → Int32} {l : Nat} : ∀ d a g c f, a ≤ l → its T l d a g c = .error f → f ≤ l
  | 0, a, g, c, f, ha, h => by cases h
  | d + 1, a, g, c, f, ha, h => by
    rw [its] at h
    split at h
    · split at h
      · rename_i f1 h1
        have h := Except.error.inj h
        subst h
        exact itm_er h1 ha
      · rename_i e w1 w2 w3 h1
        have q := itm_ok h1 ha
        exact its_er d _ _ _ f (skp_le q.2.1).2 h
    · cases h
/-- what holds of the class's reader: at place a, with the fault f -/
def Ps (T : Nat → Int32) (l : Nat) (m0 m : e_Tb) (a : Nat) (f : Int32) (g : Nat → Int32) : Prop := (∀ c, c ≠ 68 → c ≠ 162 → m c = m0 c) ∧ m 68 1 = nI l ∧ m 68 2 = nI a ∧ m 68 3 = f ∧ a ≤ l ∧ l ≤ 120 ∧ (∀ i, i < l → m 69 i = T i) ∧ m 162 = g
section P42
variable {xs : Nat → Int32} {L : Nat} {Q : e_Rs → Prop} {sv : Nat → Nat} {m m0 : e_Tb} {T : Nat → Int32} {l a : Nat} {f : Int32} {g : Nat → Int32}
theorem Ps.at (h : Ps T l m0 m a f g) {a' : Nat} {v : Int32} (hv : v = nI a') (ha : a' ≤ l) : Ps T l m0 (e_set m 68 2 v) a' f g := by
  obtain ⟨h1, h2, h3, h4, h5, h6, h7, h8⟩ := h
  refine ⟨fun c hc hd => ?_, ?_, ?_, ?_, ha, h6, fun i hi => ?_, ?_⟩
  · rw [← h1 c hc hd]; funext s; exact e_set_cell hc
  · rw [e_set_slot (by decide)]; exact h2
  · rw [e_set_self]; exact hv
  · rw [e_set_slot (by decide)]; exact h4
  · rw [e_set_o (by decide)]; exact h7 i hi
  · rw [← h8]; funext s; exact e_set_cell (by decide)
theorem Ps.ft (h : Ps T l m0 m a f g) {v : Int32} : Ps T l m0 (e_set m 68 3 v) a v g := by
  obtain ⟨h1, h2, h3, h4, h5, h6, h7, h8⟩ := h
  refine ⟨fun c hc hd => ?_, ?_, ?_, ?_, h5, h6, fun i hi => ?_, ?_⟩
  · rw [← h1 c hc hd]; funext s; exact e_set_cell hc
  · rw [e_set_slot (by decide)]; exact h2
  · rw [e_set_slot (by decide)]; exact h3
  · rw [e_set_self]
  · rw [e_set_o (by decide)]; exact h7 i hi
  · rw [← h8]; funext s; exact e_set_cell (by decide)
theorem Ps.fc (h : Ps T l m0 m a f g) {k : Nat} {v : Int32} : Ps T l m0 (e_set m 162 k v) a f (up g k v) := by
  obtain ⟨h1, h2, h3, h4, h5, h6, h7, h8⟩ := h
  refine ⟨fun c hc hd => ?_, ?_, ?_, ?_, h5, h6, fun i hi => ?_, ?_⟩
  · rw [← h1 c hc hd]; funext s; exact e_set_cell hd
  · rw [e_set_o (by decide)]; exact h2
  · rw [e_set_o (by decide)]; exact h3
  · rw [e_set_o (by decide)]; exact h4
  · rw [e_set_o (by decide)]; exact h7 i hi
  · rw [e_set_row, h8]
theorem lp_skip8 : ∀ (d a : Nat) (m : e_Tb), a + d = l → Ps T l m0 m a f g → (∀ m', Ps T l m0 m' (skF T d a) f g → Q (none, (173, m', e_rs sv))) →
    Wp xs L kX6_skipSpaces_0 [(0, .ref (68 : Nat))] [] (173, m, e_rs sv) Q
  | 0, a, m, had, hp, hQ => by
    have p1 := hp.2.1
    have p2 := hp.2.2.1
    have e1 : (nI a < nI l) = False := eq_false (nI_nlt (by omega) (by have := hp.2.2.2.2.2.1; omega))
    have fin := hQ m hp
    rw [kX6_skipSpaces_0]
    simp only [r_aload_n, r_bald, r_bipush, r_dupa, r_dupi, r_getf0, r_getf1, r_getf2, r_goto, r_iadd, r_ic_ge, r_ic_ne, r_iconst, r_nop, r_putf0, r_putf1, r_ret, kX6_skipSpaces_38, lX6_skipSpaces_0, lX6_skipSpaces_38, sl_n, sl_i, sl_r, sl_l, e_wi_s, e_wr_s, e_wl_s, e_lk, e_sto, e_ok, e_no, e_isL, Option.toList_some, Option.toList_none, List.cons_append, List.nil_append, List.length_cons, List.length_nil, Bool.not_false, Bool.not_true, Bool.and_true, Bool.true_and, Bool.false_and, Bool.and_false, Bool.and_self, Nat.reduceBEq, Nat.reduceAdd, Nat.reduceEqDiff, Nat.reduceLeDiff, Nat.reduceLT, Nat.zero_le, Nat.le_refl, if_true, if_false, ite_true, ite_false, true_and, and_true, true_or, or_true, not_false_eq_true, not_true_eq_false, e_set_self, Nat.succ_ne_zero, eq_self, p1, p2, e1, e_set_slot, zero_01, one_01, e_b_0, e_b_01, or_self, or_false, false_or, R_1_0, R_1_1, R_1_2, R_1_3, R_1_4, R_1_5, R_1_6, R_32_0, R_32_1, R_32_2, R_36_0, R_36_1, R_36_2, R_36_3, R_37_0, R_37_1, R_37_2, R_68_0, R_70_0, R_164_0, R_164_1, R_164_3, R_164_5, R_164_6, R_164_7, R_164_8, R_164_10, R_164_11, R_2_4, R_2_5, ok_1, ok_32, ok_36, ok_37, ok_68, ok_70, ok_164, ok_2, ok_3, sz_3, ok_4, sz_4, ok_33, sz_33, ok_34, sz_34, ok_35, sz_35, ok_38, sz_38, ok_39, sz_39, ok_40, sz_40, ok_41, sz_41, ok_66, sz_66, ok_67, sz_67, ok_69, sz_69, ok_71, sz_71, ok_162, sz_162, ok_163, sz_163, ok_165, sz_165, ok_166, sz_166, ok_167, sz_167, ok_168, sz_168, ok_169, sz_169, ok_170, sz_170, ok_171, sz_171, ok_172, sz_172, ok_173, sz_173, tn_0, tn_1, tn_2, tn_3, tn_4, tn_5, tn_6, tn_7, tn_8, tn_9, tn_10, tn_11, tn_12, tn_13, tn_14, tn_15, tn_16, tn_17, tn_18, tn_19, tn_20, tn_21, tn_22, tn_23, tn_24, tn_25, tn_26, tn_27, in_0, in_1, in_2, in_3, in_4, in_5, in_6, in_7, in_8, in_9, in_10, in_11, in_12, in_13, in_14, in_15, in_16, in_17, in_18, in_19, in_20, in_21, in_22, in_23, in_24, in_25, in_26, in_27, e_rf_s]
    exact fin
  | d + 1, a, m, had, hp, hQ => by
    have l6 := hp.2.2.2.2.2.1
    have p1 := hp.2.1
    have p2 := hp.2.2.1
    have e1 : (nI a < nI l) = True := eq_true (nI_lt (by omega) (by omega))
    have i1 : e_in (nI a) 120 = true := e_in_nI (by omega) (by omega)
    have i2 : (nI a).toNatClampNeg = a := nI_nat (by omega)
    have i3 : nI a + 1 = nI (a + 1) := nI_1 a
    have t := hp.2.2.2.2.2.2.1 a (by omega)
    rw [skF] at hQ
    by_cases q : T a = 32
    · rw [if_pos q] at hQ
      have q' := eq_true q
      have key := lp_skip8 d (a + 1) _ (by omega) (hp.at (v := nI (a + 1)) rfl (by omega)) hQ
      rw [kX6_skipSpaces_0]
      simp only [r_aload_n, r_bald, r_bipush, r_dupa, r_dupi, r_getf0, r_getf1, r_getf2, r_goto, r_iadd, r_ic_ge, r_ic_ne, r_iconst, r_nop, r_putf0, r_putf1, r_ret, kX6_skipSpaces_38, lX6_skipSpaces_0, lX6_skipSpaces_38, sl_n, sl_i, sl_r, sl_l, e_wi_s, e_wr_s, e_wl_s, e_lk, e_sto, e_ok, e_no, e_isL, Option.toList_some, Option.toList_none, List.cons_append, List.nil_append, List.length_cons, List.length_nil, Bool.not_false, Bool.not_true, Bool.and_true, Bool.true_and, Bool.false_and, Bool.and_false, Bool.and_self, Nat.reduceBEq, Nat.reduceAdd, Nat.reduceEqDiff, Nat.reduceLeDiff, Nat.reduceLT, Nat.zero_le, Nat.le_refl, if_true, if_false, ite_true, ite_false, true_and, and_true, true_or, or_true, not_false_eq_true, not_true_eq_false, e_set_self, Nat.succ_ne_zero, eq_self, p1, p2, e1, i1, i2, i3, t, q', e_set_slot, zero_01, one_01, e_b_0, e_b_01, or_self, or_false, false_or, R_1_0, R_1_1, R_1_2, R_1_3, R_1_4, R_1_5, R_1_6, R_32_0, R_32_1, R_32_2, R_36_0, R_36_1, R_36_2, R_36_3, R_37_0, R_37_1, R_37_2, R_68_0, R_70_0, R_164_0, R_164_1, R_164_3, R_164_5, R_164_6, R_164_7, R_164_8, R_164_10, R_164_11, R_2_4, R_2_5, ok_1, ok_32, ok_36, ok_37, ok_68, ok_70, ok_164, ok_2, ok_3, sz_3, ok_4, sz_4, ok_33, sz_33, ok_34, sz_34, ok_35, sz_35, ok_38, sz_38, ok_39, sz_39, ok_40, sz_40, ok_41, sz_41, ok_66, sz_66, ok_67, sz_67, ok_69, sz_69, ok_71, sz_71, ok_162, sz_162, ok_163, sz_163, ok_165, sz_165, ok_166, sz_166, ok_167, sz_167, ok_168, sz_168, ok_169, sz_169, ok_170, sz_170, ok_171, sz_171, ok_172, sz_172, ok_173, sz_173, tn_0, tn_1, tn_2, tn_3, tn_4, tn_5, tn_6, tn_7, tn_8, tn_9, tn_10, tn_11, tn_12, tn_13, tn_14, tn_15, tn_16, tn_17, tn_18, tn_19, tn_20, tn_21, tn_22, tn_23, tn_24, tn_25, tn_26, tn_27, in_0, in_1, in_2, in_3, in_4, in_5, in_6, in_7, in_8, in_9, in_10, in_11, in_12, in_13, in_14, in_15, in_16, in_17, in_18, in_19, in_20, in_21, in_22, in_23, in_24, in_25, in_26, in_27, e_rf_s]
      exact key
    · rw [if_neg q] at hQ
      have q' := eq_false q
      have fin := hQ m hp
      rw [kX6_skipSpaces_0]
      simp only [r_aload_n, r_bald, r_bipush, r_dupa, r_dupi, r_getf0, r_getf1, r_getf2, r_goto, r_iadd, r_ic_ge, r_ic_ne, r_iconst, r_nop, r_putf0, r_putf1, r_ret, kX6_skipSpaces_38, lX6_skipSpaces_0, lX6_skipSpaces_38, sl_n, sl_i, sl_r, sl_l, e_wi_s, e_wr_s, e_wl_s, e_lk, e_sto, e_ok, e_no, e_isL, Option.toList_some, Option.toList_none, List.cons_append, List.nil_append, List.length_cons, List.length_nil, Bool.not_false, Bool.not_true, Bool.and_true, Bool.true_and, Bool.false_and, Bool.and_false, Bool.and_self, Nat.reduceBEq, Nat.reduceAdd, Nat.reduceEqDiff, Nat.reduceLeDiff, Nat.reduceLT, Nat.zero_le, Nat.le_refl, if_true, if_false, ite_true, ite_false, true_and, and_true, true_or, or_true, not_false_eq_true, not_true_eq_false, e_set_self, Nat.succ_ne_zero, eq_self, p1, p2, e1, i1, i2, i3, t, q', e_set_slot, zero_01, one_01, e_b_0, e_b_01, or_self, or_false, false_or, R_1_0, R_1_1, R_1_2, R_1_3, R_1_4, R_1_5, R_1_6, R_32_0, R_32_1, R_32_2, R_36_0, R_36_1, R_36_2, R_36_3, R_37_0, R_37_1, R_37_2, R_68_0, R_70_0, R_164_0, R_164_1, R_164_3, R_164_5, R_164_6, R_164_7, R_164_8, R_164_10, R_164_11, R_2_4, R_2_5, ok_1, ok_32, ok_36, ok_37, ok_68, ok_70, ok_164, ok_2, ok_3, sz_3, ok_4, sz_4, ok_33, sz_33, ok_34, sz_34, ok_35, sz_35, ok_38, sz_38, ok_39, sz_39, ok_40, sz_40, ok_41, sz_41, ok_66, sz_66, ok_67, sz_67, ok_69, sz_69, ok_71, sz_71, ok_162, sz_162, ok_163, sz_163, ok_165, sz_165, ok_166, sz_166, ok_167, sz_167, ok_168, sz_168, ok_169, sz_169, ok_170, sz_170, ok_171, sz_171, ok_172, sz_172, ok_173, sz_173, tn_0, tn_1, tn_2, tn_3, tn_4, tn_5, tn_6, tn_7, tn_8, tn_9, tn_10, tn_11, tn_12, tn_13, tn_14, tn_15, tn_16, tn_17, tn_18, tn_19, tn_20, tn_21, tn_22, tn_23, tn_24, tn_25, tn_26, tn_27, in_0, in_1, in_2, in_3, in_4, in_5, in_6, in_7, in_8, in_9, in_10, in_11, in_12, in_13, in_14, in_15, in_16, in_17, in_18, in_19, in_20, in_21, in_22, in_23, in_24, in_25, in_26, in_27, e_rf_s]
      exact fin
theorem c_skip8 (hp : Ps T l m0 m a f g) (hQ : ∀ m', Ps T l m0 m' (skp T l a) f g → Q (none, (173, m', e_rs sv))) : Wp xs L kX6_skipSpaces_0 [(0, .ref (68 : Nat))] [] (173, m, e_rs sv) Q :=
  lp_skip8 (l - a) a m (by have := hp.2.2.2.2.1; omega) hp hQ
theorem c_isNext8 {c : Int32} (hp : Ps T l m0 m a f g) (hQ : ∀ m', Ps T l m0 m' (skp T l a) f g → Q (some (.int (e_b (skp T l a < l ∧ T (skp T l a) = c))), (173, m', e_rs sv))) :
    Wp xs L kX6_isNext_0 [(0, .ref (68 : Nat)), (1, .int c)] [] (173, m, e_rs sv) Q := by
  simp only [r_aload_n, r_bald, r_getf0, r_getf1, r_getf2, r_goto, r_ic_ge, r_ic_ne, r_iconst, r_iload_n, r_iret0, r_iret1, r_nop, kX6_isNext_0, kX6_isNext_32, kX6_isNext_33, lX6_isNext_0, lX6_isNext_32, lX6_isNext_33, vX6_skipSpaces, sl_n, sl_i, sl_r, sl_l, e_wi_s, e_wr_s, e_wl_s, e_lk, e_sto, e_ok, e_no, e_isL, Option.toList_some, Option.toList_none, List.cons_append, List.nil_append, List.length_cons, List.length_nil, Bool.not_false, Bool.not_true, Bool.and_true, Bool.true_and, Bool.false_and, Bool.and_false, Bool.and_self, Nat.reduceBEq, Nat.reduceAdd, Nat.reduceEqDiff, Nat.reduceLeDiff, Nat.reduceLT, Nat.zero_le, Nat.le_refl, if_true, if_false, ite_true, ite_false, true_and, and_true, true_or, or_true, not_false_eq_true, not_true_eq_false, e_set_self, Nat.succ_ne_zero, eq_self, e_set_slot, zero_01, one_01, e_b_0, e_b_01, or_self, or_false, false_or, R_1_0, R_1_1, R_1_2, R_1_3, R_1_4, R_1_5, R_1_6, R_32_0, R_32_1, R_32_2, R_36_0, R_36_1, R_36_2, R_36_3, R_37_0, R_37_1, R_37_2, R_68_0, R_70_0, R_164_0, R_164_1, R_164_3, R_164_5, R_164_6, R_164_7, R_164_8, R_164_10, R_164_11, R_2_4, R_2_5, ok_1, ok_32, ok_36, ok_37, ok_68, ok_70, ok_164, ok_2, ok_3, sz_3, ok_4, sz_4, ok_33, sz_33, ok_34, sz_34, ok_35, sz_35, ok_38, sz_38, ok_39, sz_39, ok_40, sz_40, ok_41, sz_41, ok_66, sz_66, ok_67, sz_67, ok_69, sz_69, ok_71, sz_71, ok_162, sz_162, ok_163, sz_163, ok_165, sz_165, ok_166, sz_166, ok_167, sz_167, ok_168, sz_168, ok_169, sz_169, ok_170, sz_170, ok_171, sz_171, ok_172, sz_172, ok_173, sz_173, tn_0, tn_1, tn_2, tn_3, tn_4, tn_5, tn_6, tn_7, tn_8, tn_9, tn_10, tn_11, tn_12, tn_13, tn_14, tn_15, tn_16, tn_17, tn_18, tn_19, tn_20, tn_21, tn_22, tn_23, tn_24, tn_25, tn_26, tn_27, in_0, in_1, in_2, in_3, in_4, in_5, in_6, in_7, in_8, in_9, in_10, in_11, in_12, in_13, in_14, in_15, in_16, in_17, in_18, in_19, in_20, in_21, in_22, in_23, in_24, in_25, in_26, in_27, e_rf_s]
  refine c_skip8 hp (fun m' hp' => ?_)
  have fin := hQ m' hp'
  have l6 := hp'.2.2.2.2.2.1
  have p1 := hp'.2.1
  have p2 := hp'.2.2.1
  have sl := skp_le (T := T) hp.2.2.2.2.1
  generalize skp T l a = s at *
  by_cases p : s < l
  · have e1 : (nI s < nI l) = True := eq_true (nI_lt (by omega) (by omega))
    have i1 : e_in (nI s) 120 = true := e_in_nI (by omega) (by omega)
    have i2 : (nI s).toNatClampNeg = s := nI_nat (by omega)
    have t := hp'.2.2.2.2.2.2.1 s p
    by_cases q : T s = c
    · have q' := eq_true q
      rw [e_b_t ⟨p, q⟩] at fin
      simp only [r_aload_n, r_bald, r_getf0, r_getf1, r_getf2, r_goto, r_ic_ge, r_ic_ne, r_iconst, r_iload_n, r_iret0, r_iret1, r_nop, kX6_isNext_0, kX6_isNext_32, kX6_isNext_33, lX6_isNext_0, lX6_isNext_32, lX6_isNext_33, vX6_skipSpaces, sl_n, sl_i, sl_r, sl_l, e_wi_s, e_wr_s, e_wl_s, e_lk, e_sto, e_ok, e_no, e_isL, Option.toList_some, Option.toList_none, List.cons_append, List.nil_append, List.length_cons, List.length_nil, Bool.not_false, Bool.not_true, Bool.and_true, Bool.true_and, Bool.false_and, Bool.and_false, Bool.and_self, Nat.reduceBEq, Nat.reduceAdd, Nat.reduceEqDiff, Nat.reduceLeDiff, Nat.reduceLT, Nat.zero_le, Nat.le_refl, if_true, if_false, ite_true, ite_false, true_and, and_true, true_or, or_true, not_false_eq_true, not_true_eq_false, e_set_self, Nat.succ_ne_zero, eq_self, p1, p2, e1, i1, i2, t, q', e_set_slot, zero_01, one_01, e_b_0, e_b_01, or_self, or_false, false_or, R_1_0, R_1_1, R_1_2, R_1_3, R_1_4, R_1_5, R_1_6, R_32_0, R_32_1, R_32_2, R_36_0, R_36_1, R_36_2, R_36_3, R_37_0, R_37_1, R_37_2, R_68_0, R_70_0, R_164_0, R_164_1, R_164_3, R_164_5, R_164_6, R_164_7, R_164_8, R_164_10, R_164_11, R_2_4, R_2_5, ok_1, ok_32, ok_36, ok_37, ok_68, ok_70, ok_164, ok_2, ok_3, sz_3, ok_4, sz_4, ok_33, sz_33, ok_34, sz_34, ok_35, sz_35, ok_38, sz_38, ok_39, sz_39, ok_40, sz_40, ok_41, sz_41, ok_66, sz_66, ok_67, sz_67, ok_69, sz_69, ok_71, sz_71, ok_162, sz_162, ok_163, sz_163, ok_165, sz_165, ok_166, sz_166, ok_167, sz_167, ok_168, sz_168, ok_169, sz_169, ok_170, sz_170, ok_171, sz_171, ok_172, sz_172, ok_173, sz_173, tn_0, tn_1, tn_2, tn_3, tn_4, tn_5, tn_6, tn_7, tn_8, tn_9, tn_10, tn_11, tn_12, tn_13, tn_14, tn_15, tn_16, tn_17, tn_18, tn_19, tn_20, tn_21, tn_22, tn_23, tn_24, tn_25, tn_26, tn_27, in_0, in_1, in_2, in_3, in_4, in_5, in_6, in_7, in_8, in_9, in_10, in_11, in_12, in_13, in_14, in_15, in_16, in_17, in_18, in_19, in_20, in_21, in_22, in_23, in_24, in_25, in_26, in_27, e_rf_s]
      exact fin
    · have q' := eq_false q
      rw [e_b_f (fun z => q z.2)] at fin
      simp only [r_aload_n, r_bald, r_getf0, r_getf1, r_getf2, r_goto, r_ic_ge, r_ic_ne, r_iconst, r_iload_n, r_iret0, r_iret1, r_nop, kX6_isNext_0, kX6_isNext_32, kX6_isNext_33, lX6_isNext_0, lX6_isNext_32, lX6_isNext_33, vX6_skipSpaces, sl_n, sl_i, sl_r, sl_l, e_wi_s, e_wr_s, e_wl_s, e_lk, e_sto, e_ok, e_no, e_isL, Option.toList_some, Option.toList_none, List.cons_append, List.nil_append, List.length_cons, List.length_nil, Bool.not_false, Bool.not_true, Bool.and_true, Bool.true_and, Bool.false_and, Bool.and_false, Bool.and_self, Nat.reduceBEq, Nat.reduceAdd, Nat.reduceEqDiff, Nat.reduceLeDiff, Nat.reduceLT, Nat.zero_le, Nat.le_refl, if_true, if_false, ite_true, ite_false, true_and, and_true, true_or, or_true, not_false_eq_true, not_true_eq_false, e_set_self, Nat.succ_ne_zero, eq_self, p1, p2, e1, i1, i2, t, q', e_set_slot, zero_01, one_01, e_b_0, e_b_01, or_self, or_false, false_or, R_1_0, R_1_1, R_1_2, R_1_3, R_1_4, R_1_5, R_1_6, R_32_0, R_32_1, R_32_2, R_36_0, R_36_1, R_36_2, R_36_3, R_37_0, R_37_1, R_37_2, R_68_0, R_70_0, R_164_0, R_164_1, R_164_3, R_164_5, R_164_6, R_164_7, R_164_8, R_164_10, R_164_11, R_2_4, R_2_5, ok_1, ok_32, ok_36, ok_37, ok_68, ok_70, ok_164, ok_2, ok_3, sz_3, ok_4, sz_4, ok_33, sz_33, ok_34, sz_34, ok_35, sz_35, ok_38, sz_38, ok_39, sz_39, ok_40, sz_40, ok_41, sz_41, ok_66, sz_66, ok_67, sz_67, ok_69, sz_69, ok_71, sz_71, ok_162, sz_162, ok_163, sz_163, ok_165, sz_165, ok_166, sz_166, ok_167, sz_167, ok_168, sz_168, ok_169, sz_169, ok_170, sz_170, ok_171, sz_171, ok_172, sz_172, ok_173, sz_173, tn_0, tn_1, tn_2, tn_3, tn_4, tn_5, tn_6, tn_7, tn_8, tn_9, tn_10, tn_11, tn_12, tn_13, tn_14, tn_15, tn_16, tn_17, tn_18, tn_19, tn_20, tn_21, tn_22, tn_23, tn_24, tn_25, tn_26, tn_27, in_0, in_1, in_2, in_3, in_4, in_5, in_6, in_7, in_8, in_9, in_10, in_11, in_12, in_13, in_14, in_15, in_16, in_17, in_18, in_19, in_20, in_21, in_22, in_23, in_24, in_25, in_26, in_27, e_rf_s]
      exact fin
  · have e1 : (nI s < nI l) = False := eq_false (nI_nlt (by omega) (by omega))
    rw [e_b_f (fun z => p z.1)] at fin
    simp only [r_aload_n, r_bald, r_getf0, r_getf1, r_getf2, r_goto, r_ic_ge, r_ic_ne, r_iconst, r_iload_n, r_iret0, r_iret1, r_nop, kX6_isNext_0, kX6_isNext_32, kX6_isNext_33, lX6_isNext_0, lX6_isNext_32, lX6_isNext_33, vX6_skipSpaces, sl_n, sl_i, sl_r, sl_l, e_wi_s, e_wr_s, e_wl_s, e_lk, e_sto, e_ok, e_no, e_isL, Option.toList_some, Option.toList_none, List.cons_append, List.nil_append, List.length_cons, List.length_nil, Bool.not_false, Bool.not_true, Bool.and_true, Bool.true_and, Bool.false_and, Bool.and_false, Bool.and_self, Nat.reduceBEq, Nat.reduceAdd, Nat.reduceEqDiff, Nat.reduceLeDiff, Nat.reduceLT, Nat.zero_le, Nat.le_refl, if_true, if_false, ite_true, ite_false, true_and, and_true, true_or, or_true, not_false_eq_true, not_true_eq_false, e_set_self, Nat.succ_ne_zero, eq_self, p1, p2, e1, e_set_slot, zero_01, one_01, e_b_0, e_b_01, or_self, or_false, false_or, R_1_0, R_1_1, R_1_2, R_1_3, R_1_4, R_1_5, R_1_6, R_32_0, R_32_1, R_32_2, R_36_0, R_36_1, R_36_2, R_36_3, R_37_0, R_37_1, R_37_2, R_68_0, R_70_0, R_164_0, R_164_1, R_164_3, R_164_5, R_164_6, R_164_7, R_164_8, R_164_10, R_164_11, R_2_4, R_2_5, ok_1, ok_32, ok_36, ok_37, ok_68, ok_70, ok_164, ok_2, ok_3, sz_3, ok_4, sz_4, ok_33, sz_33, ok_34, sz_34, ok_35, sz_35, ok_38, sz_38, ok_39, sz_39, ok_40, sz_40, ok_41, sz_41, ok_66, sz_66, ok_67, sz_67, ok_69, sz_69, ok_71, sz_71, ok_162, sz_162, ok_163, sz_163, ok_165, sz_165, ok_166, sz_166, ok_167, sz_167, ok_168, sz_168, ok_169, sz_169, ok_170, sz_170, ok_171, sz_171, ok_172, sz_172, ok_173, sz_173, tn_0, tn_1, tn_2, tn_3, tn_4, tn_5, tn_6, tn_7, tn_8, tn_9, tn_10, tn_11, tn_12, tn_13, tn_14, tn_15, tn_16, tn_17, tn_18, tn_19, tn_20, tn_21, tn_22, tn_23, tn_24, tn_25, tn_26, tn_27, in_0, in_1, in_2, in_3, in_4, in_5, in_6, in_7, in_8, in_9, in_10, in_11, in_12, in_13, in_14, in_15, in_16, in_17, in_18, in_19, in_20, in_21, in_22, in_23, in_24, in_25, in_26, in_27, e_rf_s]
    exact fin
theorem c_expect8_f {c : Int32} {k : Nat} (hk : k ≤ 120) (hp : Ps T l m0 m a (nI k) g) : Wp xs L kX6_expect_0 [(0, .ref (68 : Nat)), (1, .int c)] [] (173, m, e_rs sv) Q = Q (none, (173, m, e_rs sv)) := by
  have p3 := hp.2.2.2.1
  have e1 : (nI k < 0) = False := eq_false (nI_pos (by omega))
  simp only [r_aload_n, r_dupa, r_dupi, r_getf0, r_getf1, r_getf2, r_goto, r_iadd, r_iconst, r_if_eq, r_if_lt, r_iload_n, r_nop, r_putf0, r_putf1, r_ret, kX6_expect_0, kX6_expect_29, kX6_expect_37, lX6_expect_0, lX6_expect_8, lX6_expect_29, lX6_expect_37, vX6_isNext, sl_n, sl_i, sl_r, sl_l, e_wi_s, e_wr_s, e_wl_s, e_lk, e_sto, e_ok, e_no, e_isL, Option.toList_some, Option.toList_none, List.cons_append, List.nil_append, List.length_cons, List.length_nil, Bool.not_false, Bool.not_true, Bool.and_true, Bool.true_and, Bool.false_and, Bool.and_false, Bool.and_self, Nat.reduceBEq, Nat.reduceAdd, Nat.reduceEqDiff, Nat.reduceLeDiff, Nat.reduceLT, Nat.zero_le, Nat.le_refl, if_true, if_false, ite_true, ite_false, true_and, and_true, true_or, or_true, not_false_eq_true, not_true_eq_false, e_set_self, Nat.succ_ne_zero, eq_self, p3, e1, e_set_slot, zero_01, one_01, e_b_0, e_b_01, or_self, or_false, false_or, R_1_0, R_1_1, R_1_2, R_1_3, R_1_4, R_1_5, R_1_6, R_32_0, R_32_1, R_32_2, R_36_0, R_36_1, R_36_2, R_36_3, R_37_0, R_37_1, R_37_2, R_68_0, R_70_0, R_164_0, R_164_1, R_164_3, R_164_5, R_164_6, R_164_7, R_164_8, R_164_10, R_164_11, R_2_4, R_2_5, ok_1, ok_32, ok_36, ok_37, ok_68, ok_70, ok_164, ok_2, ok_3, sz_3, ok_4, sz_4, ok_33, sz_33, ok_34, sz_34, ok_35, sz_35, ok_38, sz_38, ok_39, sz_39, ok_40, sz_40, ok_41, sz_41, ok_66, sz_66, ok_67, sz_67, ok_69, sz_69, ok_71, sz_71, ok_162, sz_162, ok_163, sz_163, ok_165, sz_165, ok_166, sz_166, ok_167, sz_167, ok_168, sz_168, ok_169, sz_169, ok_170, sz_170, ok_171, sz_171, ok_172, sz_172, ok_173, sz_173, tn_0, tn_1, tn_2, tn_3, tn_4, tn_5, tn_6, tn_7, tn_8, tn_9, tn_10, tn_11, tn_12, tn_13, tn_14, tn_15, tn_16, tn_17, tn_18, tn_19, tn_20, tn_21, tn_22, tn_23, tn_24, tn_25, tn_26, tn_27, in_0, in_1, in_2, in_3, in_4, in_5, in_6, in_7, in_8, in_9, in_10, in_11, in_12, in_13, in_14, in_15, in_16, in_17, in_18, in_19, in_20, in_21, in_22, in_23, in_24, in_25, in_26, in_27, e_rf_s]
theorem n_m1l : ((-1 : Int32) < 0) = True := by decide
theorem c_expect8 {c : Int32} (hp : Ps T l m0 m a (-1) g) (hY : skp T l a < l ∧ T (skp T l a) = c → ∀ m', Ps T l m0 m' (skp T l a + 1) (-1) g → Q (none, (173, m', e_rs sv)))
    (hN : ¬ (skp T l a < l ∧ T (skp T l a) = c) → ∀ m', Ps T l m0 m' (skp T l a) (nI (skp T l a)) g → Q (none, (173, m', e_rs sv))) :
    Wp xs L kX6_expect_0 [(0, .ref (68 : Nat)), (1, .int c)] [] (173, m, e_rs sv) Q := by
  have p3 := hp.2.2.2.1
  simp only [r_aload_n, r_dupa, r_dupi, r_getf0, r_getf1, r_getf2, r_goto, r_iadd, r_iconst, r_if_eq, r_if_lt, r_iload_n, r_nop, r_putf0, r_putf1, r_ret, kX6_expect_0, kX6_expect_8, kX6_expect_29, kX6_expect_37, lX6_expect_0, lX6_expect_8, lX6_expect_29, lX6_expect_37, vX6_isNext, sl_n, sl_i, sl_r, sl_l, e_wi_s, e_wr_s, e_wl_s, e_lk, e_sto, e_ok, e_no, e_isL, Option.toList_some, Option.toList_none, List.cons_append, List.nil_append, List.length_cons, List.length_nil, Bool.not_false, Bool.not_true, Bool.and_true, Bool.true_and, Bool.false_and, Bool.and_false, Bool.and_self, Nat.reduceBEq, Nat.reduceAdd, Nat.reduceEqDiff, Nat.reduceLeDiff, Nat.reduceLT, Nat.zero_le, Nat.le_refl, if_true, if_false, ite_true, ite_false, true_and, and_true, true_or, or_true, not_false_eq_true, not_true_eq_false, e_set_self, Nat.succ_ne_zero, eq_self, p3, n_m1l, e_set_slot, zero_01, one_01, e_b_0, e_b_01, or_self, or_false, false_or, R_1_0, R_1_1, R_1_2, R_1_3, R_1_4, R_1_5, R_1_6, R_32_0, R_32_1, R_32_2, R_36_0, R_36_1, R_36_2, R_36_3, R_37_0, R_37_1, R_37_2, R_68_0, R_70_0, R_164_0, R_164_1, R_164_3, R_164_5, R_164_6, R_164_7, R_164_8, R_164_10, R_164_11, R_2_4, R_2_5, ok_1, ok_32, ok_36, ok_37, ok_68, ok_70, ok_164, ok_2, ok_3, sz_3, ok_4, sz_4, ok_33, sz_33, ok_34, sz_34, ok_35, sz_35, ok_38, sz_38, ok_39, sz_39, ok_40, sz_40, ok_41, sz_41, ok_66, sz_66, ok_67, sz_67, ok_69, sz_69, ok_71, sz_71, ok_162, sz_162, ok_163, sz_163, ok_165, sz_165, ok_166, sz_166, ok_167, sz_167, ok_168, sz_168, ok_169, sz_169, ok_170, sz_170, ok_171, sz_171, ok_172, sz_172, ok_173, sz_173, tn_0, tn_1, tn_2, tn_3, tn_4, tn_5, tn_6, tn_7, tn_8, tn_9, tn_10, tn_11, tn_12, tn_13, tn_14, tn_15, tn_16, tn_17, tn_18, tn_19, tn_20, tn_21, tn_22, tn_23, tn_24, tn_25, tn_26, tn_27, in_0, in_1, in_2, in_3, in_4, in_5, in_6, in_7, in_8, in_9, in_10, in_11, in_12, in_13, in_14, in_15, in_16, in_17, in_18, in_19, in_20, in_21, in_22, in_23, in_24, in_25, in_26, in_27, e_rf_s]
  refine c_isNext8 hp (fun m' hp' => ?_)
  have p2 := hp'.2.2.1
  have i3 : nI (skp T l a) + 1 = nI (skp T l a + 1) := nI_1 _
  by_cases p : skp T l a < l ∧ T (skp T l a) = c
  · have fin := hY p _ (hp'.at (v := nI (skp T l a + 1)) rfl (by omega))
    have q := e_b_t p
    simp only [r_aload_n, r_dupa, r_dupi, r_getf0, r_getf1, r_getf2, r_goto, r_iadd, r_iconst, r_if_eq, r_if_lt, r_iload_n, r_nop, r_putf0, r_putf1, r_ret, kX6_expect_0, kX6_expect_8, kX6_expect_29, kX6_expect_37, lX6_expect_0, lX6_expect_8, lX6_expect_29, lX6_expect_37, vX6_isNext, sl_n, sl_i, sl_r, sl_l, e_wi_s, e_wr_s, e_wl_s, e_lk, e_sto, e_ok, e_no, e_isL, Option.toList_some, Option.toList_none, List.cons_append, List.nil_append, List.length_cons, List.length_nil, Bool.not_false, Bool.not_true, Bool.and_true, Bool.true_and, Bool.false_and, Bool.and_false, Bool.and_self, Nat.reduceBEq, Nat.reduceAdd, Nat.reduceEqDiff, Nat.reduceLeDiff, Nat.reduceLT, Nat.zero_le, Nat.le_refl, if_true, if_false, ite_true, ite_false, true_and, and_true, true_or, or_true, not_false_eq_true, not_true_eq_false, e_set_self, Nat.succ_ne_zero, eq_self, q, n_10, p2, i3, e_set_slot, zero_01, one_01, e_b_0, e_b_01, or_self, or_false, false_or, R_1_0, R_1_1, R_1_2, R_1_3, R_1_4, R_1_5, R_1_6, R_32_0, R_32_1, R_32_2, R_36_0, R_36_1, R_36_2, R_36_3, R_37_0, R_37_1, R_37_2, R_68_0, R_70_0, R_164_0, R_164_1, R_164_3, R_164_5, R_164_6, R_164_7, R_164_8, R_164_10, R_164_11, R_2_4, R_2_5, ok_1, ok_32, ok_36, ok_37, ok_68, ok_70, ok_164, ok_2, ok_3, sz_3, ok_4, sz_4, ok_33, sz_33, ok_34, sz_34, ok_35, sz_35, ok_38, sz_38, ok_39, sz_39, ok_40, sz_40, ok_41, sz_41, ok_66, sz_66, ok_67, sz_67, ok_69, sz_69, ok_71, sz_71, ok_162, sz_162, ok_163, sz_163, ok_165, sz_165, ok_166, sz_166, ok_167, sz_167, ok_168, sz_168, ok_169, sz_169, ok_170, sz_170, ok_171, sz_171, ok_172, sz_172, ok_173, sz_173, tn_0, tn_1, tn_2, tn_3, tn_4, tn_5, tn_6, tn_7, tn_8, tn_9, tn_10, tn_11, tn_12, tn_13, tn_14, tn_15, tn_16, tn_17, tn_18, tn_19, tn_20, tn_21, tn_22, tn_23, tn_24, tn_25, tn_26, tn_27, in_0, in_1, in_2, in_3, in_4, in_5, in_6, in_7, in_8, in_9, in_10, in_11, in_12, in_13, in_14, in_15, in_16, in_17, in_18, in_19, in_20, in_21, in_22, in_23, in_24, in_25, in_26, in_27, e_rf_s]
    exact fin
  · have fin := hN p _ (hp'.ft (v := nI (skp T l a)))
    have q := e_b_f p
    simp only [r_aload_n, r_dupa, r_dupi, r_getf0, r_getf1, r_getf2, r_goto, r_iadd, r_iconst, r_if_eq, r_if_lt, r_iload_n, r_nop, r_putf0, r_putf1, r_ret, kX6_expect_0, kX6_expect_8, kX6_expect_29, kX6_expect_37, lX6_expect_0, lX6_expect_8, lX6_expect_29, lX6_expect_37, vX6_isNext, sl_n, sl_i, sl_r, sl_l, e_wi_s, e_wr_s, e_wl_s, e_lk, e_sto, e_ok, e_no, e_isL, Option.toList_some, Option.toList_none, List.cons_append, List.nil_append, List.length_cons, List.length_nil, Bool.not_false, Bool.not_true, Bool.and_true, Bool.true_and, Bool.false_and, Bool.and_false, Bool.and_self, Nat.reduceBEq, Nat.reduceAdd, Nat.reduceEqDiff, Nat.reduceLeDiff, Nat.reduceLT, Nat.zero_le, Nat.le_refl, if_true, if_false, ite_true, ite_false, true_and, and_true, true_or, or_true, not_false_eq_true, not_true_eq_false, e_set_self, Nat.succ_ne_zero, eq_self, q, p2, e_set_slot, zero_01, one_01, e_b_0, e_b_01, or_self, or_false, false_or, R_1_0, R_1_1, R_1_2, R_1_3, R_1_4, R_1_5, R_1_6, R_32_0, R_32_1, R_32_2, R_36_0, R_36_1, R_36_2, R_36_3, R_37_0, R_37_1, R_37_2, R_68_0, R_70_0, R_164_0, R_164_1, R_164_3, R_164_5, R_164_6, R_164_7, R_164_8, R_164_10, R_164_11, R_2_4, R_2_5, ok_1, ok_32, ok_36, ok_37, ok_68, ok_70, ok_164, ok_2, ok_3, sz_3, ok_4, sz_4, ok_33, sz_33, ok_34, sz_34, ok_35, sz_35, ok_38, sz_38, ok_39, sz_39, ok_40, sz_40, ok_41, sz_41, ok_66, sz_66, ok_67, sz_67, ok_69, sz_69, ok_71, sz_71, ok_162, sz_162, ok_163, sz_163, ok_165, sz_165, ok_166, sz_166, ok_167, sz_167, ok_168, sz_168, ok_169, sz_169, ok_170, sz_170, ok_171, sz_171, ok_172, sz_172, ok_173, sz_173, tn_0, tn_1, tn_2, tn_3, tn_4, tn_5, tn_6, tn_7, tn_8, tn_9, tn_10, tn_11, tn_12, tn_13, tn_14, tn_15, tn_16, tn_17, tn_18, tn_19, tn_20, tn_21, tn_22, tn_23, tn_24, tn_25, tn_26, tn_27, in_0, in_1, in_2, in_3, in_4, in_5, in_6, in_7, in_8, in_9, in_10, in_11, in_12, in_13, in_14, in_15, in_16, in_17, in_18, in_19, in_20, in_21, in_22, in_23, in_24, in_25, in_26, in_27, e_rf_s]
    exact fin
theorem c_number8_f {lo hi : Int32} {k : Nat} (hk : k ≤ 120) (hp : Ps T l m0 m a (nI k) g) : Wp xs L kX6_readNumber_0 [(0, .ref (68 : Nat)), (1, .int lo), (2, .int hi)] [] (173, m, e_rs sv) Q = Q (some (.int lo), (173, m, e_rs sv)) := by
  have p3 := hp.2.2.2.1
  have e1 : (nI k < 0) = False := eq_false (nI_pos (by omega))
  simp only [r_aload_n, r_bald, r_bipush, r_copy, r_dupa, r_dupi, r_fmod, r_getf0, r_getf1, r_getf2, r_goto, r_iadd, r_ic_eq, r_ic_ge, r_ic_ne, r_iconst, r_if_eq, r_if_lt, r_if_ne, r_iload, r_iload_n, r_imul, r_iret0, r_iret1, r_istore, r_istore_n, r_isub, r_mabs, r_mmax, r_mmin, r_nop, r_putf0, r_putf1, kX6_readNumber_0, kX6_readNumber_21, kX6_readNumber_71, kX6_readNumber_104, kX6_readNumber_122, kX6_readNumber_129, lX6_readNumber_0, lX6_readNumber_9, lX6_readNumber_21, lX6_readNumber_71, lX6_readNumber_104, lX6_readNumber_122, lX6_readNumber_129, vX6_skipSpaces, vX8_isWithin, sl_n, sl_i, sl_r, sl_l, e_wi_s, e_wr_s, e_wl_s, e_lk, e_sto, e_ok, e_no, e_isL, Option.toList_some, Option.toList_none, List.cons_append, List.nil_append, List.length_cons, List.length_nil, Bool.not_false, Bool.not_true, Bool.and_true, Bool.true_and, Bool.false_and, Bool.and_false, Bool.and_self, Nat.reduceBEq, Nat.reduceAdd, Nat.reduceEqDiff, Nat.reduceLeDiff, Nat.reduceLT, Nat.zero_le, Nat.le_refl, if_true, if_false, ite_true, ite_false, true_and, and_true, true_or, or_true, not_false_eq_true, not_true_eq_false, e_set_self, Nat.succ_ne_zero, eq_self, p3, e1, e_set_slot, zero_01, one_01, e_b_0, e_b_01, or_self, or_false, false_or, R_1_0, R_1_1, R_1_2, R_1_3, R_1_4, R_1_5, R_1_6, R_32_0, R_32_1, R_32_2, R_36_0, R_36_1, R_36_2, R_36_3, R_37_0, R_37_1, R_37_2, R_68_0, R_70_0, R_164_0, R_164_1, R_164_3, R_164_5, R_164_6, R_164_7, R_164_8, R_164_10, R_164_11, R_2_4, R_2_5, ok_1, ok_32, ok_36, ok_37, ok_68, ok_70, ok_164, ok_2, ok_3, sz_3, ok_4, sz_4, ok_33, sz_33, ok_34, sz_34, ok_35, sz_35, ok_38, sz_38, ok_39, sz_39, ok_40, sz_40, ok_41, sz_41, ok_66, sz_66, ok_67, sz_67, ok_69, sz_69, ok_71, sz_71, ok_162, sz_162, ok_163, sz_163, ok_165, sz_165, ok_166, sz_166, ok_167, sz_167, ok_168, sz_168, ok_169, sz_169, ok_170, sz_170, ok_171, sz_171, ok_172, sz_172, ok_173, sz_173, tn_0, tn_1, tn_2, tn_3, tn_4, tn_5, tn_6, tn_7, tn_8, tn_9, tn_10, tn_11, tn_12, tn_13, tn_14, tn_15, tn_16, tn_17, tn_18, tn_19, tn_20, tn_21, tn_22, tn_23, tn_24, tn_25, tn_26, tn_27, in_0, in_1, in_2, in_3, in_4, in_5, in_6, in_7, in_8, in_9, in_10, in_11, in_12, in_13, in_14, in_15, in_16, in_17, in_18, in_19, in_20, in_21, in_22, in_23, in_24, in_25, in_26, in_27, e_rf_s]
theorem lp_num8 {lo hi : Int32} {s : Nat} (hs : s ≤ l) : ∀ (d e : Nat) (v : Int32) (m : e_Tb), e + d = s + 3 → Ps T l m0 m e (-1) g →
    ((nd3 T l d e v).1 = s + 3 ∧ (nd3 T l d e v).1 < l ∧ dgt (T (nd3 T l d e v).1) → ∀ m', Ps T l m0 m' (nd3 T l d e v).1 (nI (nd3 T l d e v).1) g → Q (some (.int lo), (173, m', e_rs sv))) →
    (¬ ((nd3 T l d e v).1 = s + 3 ∧ (nd3 T l d e v).1 < l ∧ dgt (T (nd3 T l d e v).1)) → ∀ m', Ps T l m0 m' (nd3 T l d e v).1 (-1) g → Wp xs L kX6_readNumber_104 [(0, .ref (68 : Nat)), (1, .int lo), (2, .int hi), (3, .int (nI s)), (4, .int (nd3 T l d e v).2)] [] (173, m', e_rs sv) Q) →
    Wp xs L kX6_readNumber_21 [(0, .ref (68 : Nat)), (1, .int lo), (2, .int hi), (3, .int (nI s)), (4, .int v)] [] (173, m, e_rs sv) Q := by
  intro d
  induction d with
  | zero =>
    intro e v m hd hp hF hG
    have hel := hp.2.2.2.2.1
    have l6 := hp.2.2.2.2.2.1
    have p1 := hp.2.1
    have p2 := hp.2.2.1
    simp only [nd3] at hF hG
    by_cases p : e < l
    · have e1 : (nI e < nI l) = True := eq_true (nI_lt (by omega) (by omega))
      have i1 : e_in (nI e) 120 = true := e_in_nI (by omega) (by omega)
      have i2 : (nI e).toNatClampNeg = e := nI_nat (by omega)
      have t := hp.2.2.2.2.2.2.1 e p
      by_cases q : dgt (T e)
      · have q' := eq_true q
        have i4 : nI e - nI s = 3 := by rw [pk_sub (by omega), show e - s = 3 by omega]; rfl
        have fin := hF ⟨by omega, p, q⟩ _ (hp.ft (v := nI e))
        rw [kX6_readNumber_21]
        simp only [r_aload_n, r_bald, r_bipush, r_copy, r_dupa, r_dupi, r_fmod, r_getf0, r_getf1, r_getf2, r_goto, r_iadd, r_ic_eq, r_ic_ge, r_ic_ne, r_iconst, r_if_eq, r_if_lt, r_if_ne, r_iload, r_iload_n, r_imul, r_iret0, r_iret1, r_istore, r_istore_n, r_isub, r_mabs, r_mmax, r_mmin, r_nop, r_putf0, r_putf1, kX6_readNumber_0, kX6_readNumber_9, kX6_readNumber_71, kX6_readNumber_122, kX6_readNumber_129, lX6_readNumber_0, lX6_readNumber_9, lX6_readNumber_21, lX6_readNumber_71, lX6_readNumber_104, lX6_readNumber_122, lX6_readNumber_129, vX6_skipSpaces, vX8_isWithin, sl_n, sl_i, sl_r, sl_l, e_wi_s, e_wr_s, e_wl_s, e_lk, e_sto, e_ok, e_no, e_isL, Option.toList_some, Option.toList_none, List.cons_append, List.nil_append, List.length_cons, List.length_nil, Bool.not_false, Bool.not_true, Bool.and_true, Bool.true_and, Bool.false_and, Bool.and_false, Bool.and_self, Nat.reduceBEq, Nat.reduceAdd, Nat.reduceEqDiff, Nat.reduceLeDiff, Nat.reduceLT, Nat.zero_le, Nat.le_refl, if_true, if_false, ite_true, ite_false, true_and, and_true, true_or, or_true, not_false_eq_true, not_true_eq_false, e_set_self, Nat.succ_ne_zero, eq_self, p1, p2, e1, i1, i2, t, c_X8_isWithin, q', i4, e_set_slot, zero_01, one_01, e_b_0, e_b_01, or_self, or_false, false_or, R_1_0, R_1_1, R_1_2, R_1_3, R_1_4, R_1_5, R_1_6, R_32_0, R_32_1, R_32_2, R_36_0, R_36_1, R_36_2, R_36_3, R_37_0, R_37_1, R_37_2, R_68_0, R_70_0, R_164_0, R_164_1, R_164_3, R_164_5, R_164_6, R_164_7, R_164_8, R_164_10, R_164_11, R_2_4, R_2_5, ok_1, ok_32, ok_36, ok_37, ok_68, ok_70, ok_164, ok_2, ok_3, sz_3, ok_4, sz_4, ok_33, sz_33, ok_34, sz_34, ok_35, sz_35, ok_38, sz_38, ok_39, sz_39, ok_40, sz_40, ok_41, sz_41, ok_66, sz_66, ok_67, sz_67, ok_69, sz_69, ok_71, sz_71, ok_162, sz_162, ok_163, sz_163, ok_165, sz_165, ok_166, sz_166, ok_167, sz_167, ok_168, sz_168, ok_169, sz_169, ok_170, sz_170, ok_171, sz_171, ok_172, sz_172, ok_173, sz_173, tn_0, tn_1, tn_2, tn_3, tn_4, tn_5, tn_6, tn_7, tn_8, tn_9, tn_10, tn_11, tn_12, tn_13, tn_14, tn_15, tn_16, tn_17, tn_18, tn_19, tn_20, tn_21, tn_22, tn_23, tn_24, tn_25, tn_26, tn_27, in_0, in_1, in_2, in_3, in_4, in_5, in_6, in_7, in_8, in_9, in_10, in_11, in_12, in_13, in_14, in_15, in_16, in_17, in_18, in_19, in_20, in_21, in_22, in_23, in_24, in_25, in_26, in_27, e_rf_s]
        exact fin
      · have q' := eq_false q
        have fin := hG (fun z => q z.2.2) m hp
        rw [kX6_readNumber_21]
        simp only [r_aload_n, r_bald, r_bipush, r_copy, r_dupa, r_dupi, r_fmod, r_getf0, r_getf1, r_getf2, r_goto, r_iadd, r_ic_eq, r_ic_ge, r_ic_ne, r_iconst, r_if_eq, r_if_lt, r_if_ne, r_iload, r_iload_n, r_imul, r_iret0, r_iret1, r_istore, r_istore_n, r_isub, r_mabs, r_mmax, r_mmin, r_nop, r_putf0, r_putf1, kX6_readNumber_0, kX6_readNumber_9, kX6_readNumber_71, kX6_readNumber_122, kX6_readNumber_129, lX6_readNumber_0, lX6_readNumber_9, lX6_readNumber_21, lX6_readNumber_71, lX6_readNumber_104, lX6_readNumber_122, lX6_readNumber_129, vX6_skipSpaces, vX8_isWithin, sl_n, sl_i, sl_r, sl_l, e_wi_s, e_wr_s, e_wl_s, e_lk, e_sto, e_ok, e_no, e_isL, Option.toList_some, Option.toList_none, List.cons_append, List.nil_append, List.length_cons, List.length_nil, Bool.not_false, Bool.not_true, Bool.and_true, Bool.true_and, Bool.false_and, Bool.and_false, Bool.and_self, Nat.reduceBEq, Nat.reduceAdd, Nat.reduceEqDiff, Nat.reduceLeDiff, Nat.reduceLT, Nat.zero_le, Nat.le_refl, if_true, if_false, ite_true, ite_false, true_and, and_true, true_or, or_true, not_false_eq_true, not_true_eq_false, e_set_self, Nat.succ_ne_zero, eq_self, p1, p2, e1, i1, i2, t, c_X8_isWithin, q', e_set_slot, zero_01, one_01, e_b_0, e_b_01, or_self, or_false, false_or, R_1_0, R_1_1, R_1_2, R_1_3, R_1_4, R_1_5, R_1_6, R_32_0, R_32_1, R_32_2, R_36_0, R_36_1, R_36_2, R_36_3, R_37_0, R_37_1, R_37_2, R_68_0, R_70_0, R_164_0, R_164_1, R_164_3, R_164_5, R_164_6, R_164_7, R_164_8, R_164_10, R_164_11, R_2_4, R_2_5, ok_1, ok_32, ok_36, ok_37, ok_68, ok_70, ok_164, ok_2, ok_3, sz_3, ok_4, sz_4, ok_33, sz_33, ok_34, sz_34, ok_35, sz_35, ok_38, sz_38, ok_39, sz_39, ok_40, sz_40, ok_41, sz_41, ok_66, sz_66, ok_67, sz_67, ok_69, sz_69, ok_71, sz_71, ok_162, sz_162, ok_163, sz_163, ok_165, sz_165, ok_166, sz_166, ok_167, sz_167, ok_168, sz_168, ok_169, sz_169, ok_170, sz_170, ok_171, sz_171, ok_172, sz_172, ok_173, sz_173, tn_0, tn_1, tn_2, tn_3, tn_4, tn_5, tn_6, tn_7, tn_8, tn_9, tn_10, tn_11, tn_12, tn_13, tn_14, tn_15, tn_16, tn_17, tn_18, tn_19, tn_20, tn_21, tn_22, tn_23, tn_24, tn_25, tn_26, tn_27, in_0, in_1, in_2, in_3, in_4, in_5, in_6, in_7, in_8, in_9, in_10, in_11, in_12, in_13, in_14, in_15, in_16, in_17, in_18, in_19, in_20, in_21, in_22, in_23, in_24, in_25, in_26, in_27, e_rf_s]
        exact fin
    · have e1 : (nI e < nI l) = False := eq_false (nI_nlt (by omega) (by omega))
      have fin := hG (fun z => p z.2.1) m hp
      rw [kX6_readNumber_21]
      simp only [r_aload_n, r_bald, r_bipush, r_copy, r_dupa, r_dupi, r_fmod, r_getf0, r_getf1, r_getf2, r_goto, r_iadd, r_ic_eq, r_ic_ge, r_ic_ne, r_iconst, r_if_eq, r_if_lt, r_if_ne, r_iload, r_iload_n, r_imul, r_iret0, r_iret1, r_istore, r_istore_n, r_isub, r_mabs, r_mmax, r_mmin, r_nop, r_putf0, r_putf1, kX6_readNumber_0, kX6_readNumber_9, kX6_readNumber_71, kX6_readNumber_122, kX6_readNumber_129, lX6_readNumber_0, lX6_readNumber_9, lX6_readNumber_21, lX6_readNumber_71, lX6_readNumber_104, lX6_readNumber_122, lX6_readNumber_129, vX6_skipSpaces, vX8_isWithin, sl_n, sl_i, sl_r, sl_l, e_wi_s, e_wr_s, e_wl_s, e_lk, e_sto, e_ok, e_no, e_isL, Option.toList_some, Option.toList_none, List.cons_append, List.nil_append, List.length_cons, List.length_nil, Bool.not_false, Bool.not_true, Bool.and_true, Bool.true_and, Bool.false_and, Bool.and_false, Bool.and_self, Nat.reduceBEq, Nat.reduceAdd, Nat.reduceEqDiff, Nat.reduceLeDiff, Nat.reduceLT, Nat.zero_le, Nat.le_refl, if_true, if_false, ite_true, ite_false, true_and, and_true, true_or, or_true, not_false_eq_true, not_true_eq_false, e_set_self, Nat.succ_ne_zero, eq_self, p1, p2, e1, e_set_slot, zero_01, one_01, e_b_0, e_b_01, or_self, or_false, false_or, R_1_0, R_1_1, R_1_2, R_1_3, R_1_4, R_1_5, R_1_6, R_32_0, R_32_1, R_32_2, R_36_0, R_36_1, R_36_2, R_36_3, R_37_0, R_37_1, R_37_2, R_68_0, R_70_0, R_164_0, R_164_1, R_164_3, R_164_5, R_164_6, R_164_7, R_164_8, R_164_10, R_164_11, R_2_4, R_2_5, ok_1, ok_32, ok_36, ok_37, ok_68, ok_70, ok_164, ok_2, ok_3, sz_3, ok_4, sz_4, ok_33, sz_33, ok_34, sz_34, ok_35, sz_35, ok_38, sz_38, ok_39, sz_39, ok_40, sz_40, ok_41, sz_41, ok_66, sz_66, ok_67, sz_67, ok_69, sz_69, ok_71, sz_71, ok_162, sz_162, ok_163, sz_163, ok_165, sz_165, ok_166, sz_166, ok_167, sz_167, ok_168, sz_168, ok_169, sz_169, ok_170, sz_170, ok_171, sz_171, ok_172, sz_172, ok_173, sz_173, tn_0, tn_1, tn_2, tn_3, tn_4, tn_5, tn_6, tn_7, tn_8, tn_9, tn_10, tn_11, tn_12, tn_13, tn_14, tn_15, tn_16, tn_17, tn_18, tn_19, tn_20, tn_21, tn_22, tn_23, tn_24, tn_25, tn_26, tn_27, in_0, in_1, in_2, in_3, in_4, in_5, in_6, in_7, in_8, in_9, in_10, in_11, in_12, in_13, in_14, in_15, in_16, in_17, in_18, in_19, in_20, in_21, in_22, in_23, in_24, in_25, in_26, in_27, e_rf_s]
      exact fin
  | succ d ih =>
    intro e v m hd hp hF hG
    have hel := hp.2.2.2.2.1
    have l6 := hp.2.2.2.2.2.1
    have p1 := hp.2.1
    have p2 := hp.2.2.1
    rw [nd3] at hF hG
    by_cases p : e < l
    · have e1 : (nI e < nI l) = True := eq_true (nI_lt (by omega) (by omega))
      have i1 : e_in (nI e) 120 = true := e_in_nI (by omega) (by omega)
      have i2 : (nI e).toNatClampNeg = e := nI_nat (by omega)
      have t := hp.2.2.2.2.2.2.1 e p
      by_cases q : dgt (T e)
      · have q' := eq_true q
        rw [if_pos ⟨p, q⟩] at hF hG
        have i3 : nI e + 1 = nI (e + 1) := nI_1 e
        have i4 : (nI e - nI s = 3) = False := by
          apply eq_false
          intro z
          by_cases w : s ≤ e
          · rw [pk_sub w, show (3 : Int32) = nI 3 from rfl, nI_eq (by omega) (by omega)] at z
            omega
          · have z2 := pk_sub_toInt (a := e) (b := s) (by omega) (by omega)
            rw [z, show (3 : Int32).toInt = 3 from rfl] at z2
            omega
        have key := ih (e + 1) _ _ (by omega) (hp.at (v := nI (e + 1)) rfl (by omega)) hF hG
        rw [kX6_readNumber_21]
        simp only [r_aload_n, r_bald, r_bipush, r_copy, r_dupa, r_dupi, r_fmod, r_getf0, r_getf1, r_getf2, r_goto, r_iadd, r_ic_eq, r_ic_ge, r_ic_ne, r_iconst, r_if_eq, r_if_lt, r_if_ne, r_iload, r_iload_n, r_imul, r_iret0, r_iret1, r_istore, r_istore_n, r_isub, r_mabs, r_mmax, r_mmin, r_nop, r_putf0, r_putf1, kX6_readNumber_0, kX6_readNumber_9, kX6_readNumber_71, kX6_readNumber_122, kX6_readNumber_129, lX6_readNumber_0, lX6_readNumber_9, lX6_readNumber_21, lX6_readNumber_71, lX6_readNumber_104, lX6_readNumber_122, lX6_readNumber_129, vX6_skipSpaces, vX8_isWithin, sl_n, sl_i, sl_r, sl_l, e_wi_s, e_wr_s, e_wl_s, e_lk, e_sto, e_ok, e_no, e_isL, Option.toList_some, Option.toList_none, List.cons_append, List.nil_append, List.length_cons, List.length_nil, Bool.not_false, Bool.not_true, Bool.and_true, Bool.true_and, Bool.false_and, Bool.and_false, Bool.and_self, Nat.reduceBEq, Nat.reduceAdd, Nat.reduceEqDiff, Nat.reduceLeDiff, Nat.reduceLT, Nat.zero_le, Nat.le_refl, if_true, if_false, ite_true, ite_false, true_and, and_true, true_or, or_true, not_false_eq_true, not_true_eq_false, e_set_self, Nat.succ_ne_zero, eq_self, p1, p2, e1, i1, i2, i3, t, c_X8_isWithin, q', i4, e_set_slot, zero_01, one_01, e_b_0, e_b_01, or_self, or_false, false_or, R_1_0, R_1_1, R_1_2, R_1_3, R_1_4, R_1_5, R_1_6, R_32_0, R_32_1, R_32_2, R_36_0, R_36_1, R_36_2, R_36_3, R_37_0, R_37_1, R_37_2, R_68_0, R_70_0, R_164_0, R_164_1, R_164_3, R_164_5, R_164_6, R_164_7, R_164_8, R_164_10, R_164_11, R_2_4, R_2_5, ok_1, ok_32, ok_36, ok_37, ok_68, ok_70, ok_164, ok_2, ok_3, sz_3, ok_4, sz_4, ok_33, sz_33, ok_34, sz_34, ok_35, sz_35, ok_38, sz_38, ok_39, sz_39, ok_40, sz_40, ok_41, sz_41, ok_66, sz_66, ok_67, sz_67, ok_69, sz_69, ok_71, sz_71, ok_162, sz_162, ok_163, sz_163, ok_165, sz_165, ok_166, sz_166, ok_167, sz_167, ok_168, sz_168, ok_169, sz_169, ok_170, sz_170, ok_171, sz_171, ok_172, sz_172, ok_173, sz_173, tn_0, tn_1, tn_2, tn_3, tn_4, tn_5, tn_6, tn_7, tn_8, tn_9, tn_10, tn_11, tn_12, tn_13, tn_14, tn_15, tn_16, tn_17, tn_18, tn_19, tn_20, tn_21, tn_22, tn_23, tn_24, tn_25, tn_26, tn_27, in_0, in_1, in_2, in_3, in_4, in_5, in_6, in_7, in_8, in_9, in_10, in_11, in_12, in_13, in_14, in_15, in_16, in_17, in_18, in_19, in_20, in_21, in_22, in_23, in_24, in_25, in_26, in_27, e_rf_s]
        exact key
      · have q' := eq_false q
        rw [if_neg (fun z => q z.2)] at hF hG
        have fin := hG (fun z => q z.2.2) m hp
        rw [kX6_readNumber_21]
        simp only [r_aload_n, r_bald, r_bipush, r_copy, r_dupa, r_dupi, r_fmod, r_getf0, r_getf1, r_getf2, r_goto, r_iadd, r_ic_eq, r_ic_ge, r_ic_ne, r_iconst, r_if_eq, r_if_lt, r_if_ne, r_iload, r_iload_n, r_imul, r_iret0, r_iret1, r_istore, r_istore_n, r_isub, r_mabs, r_mmax, r_mmin, r_nop, r_putf0, r_putf1, kX6_readNumber_0, kX6_readNumber_9, kX6_readNumber_71, kX6_readNumber_122, kX6_readNumber_129, lX6_readNumber_0, lX6_readNumber_9, lX6_readNumber_21, lX6_readNumber_71, lX6_readNumber_104, lX6_readNumber_122, lX6_readNumber_129, vX6_skipSpaces, vX8_isWithin, sl_n, sl_i, sl_r, sl_l, e_wi_s, e_wr_s, e_wl_s, e_lk, e_sto, e_ok, e_no, e_isL, Option.toList_some, Option.toList_none, List.cons_append, List.nil_append, List.length_cons, List.length_nil, Bool.not_false, Bool.not_true, Bool.and_true, Bool.true_and, Bool.false_and, Bool.and_false, Bool.and_self, Nat.reduceBEq, Nat.reduceAdd, Nat.reduceEqDiff, Nat.reduceLeDiff, Nat.reduceLT, Nat.zero_le, Nat.le_refl, if_true, if_false, ite_true, ite_false, true_and, and_true, true_or, or_true, not_false_eq_true, not_true_eq_false, e_set_self, Nat.succ_ne_zero, eq_self, p1, p2, e1, i1, i2, t, c_X8_isWithin, q', e_set_slot, zero_01, one_01, e_b_0, e_b_01, or_self, or_false, false_or, R_1_0, R_1_1, R_1_2, R_1_3, R_1_4, R_1_5, R_1_6, R_32_0, R_32_1, R_32_2, R_36_0, R_36_1, R_36_2, R_36_3, R_37_0, R_37_1, R_37_2, R_68_0, R_70_0, R_164_0, R_164_1, R_164_3, R_164_5, R_164_6, R_164_7, R_164_8, R_164_10, R_164_11, R_2_4, R_2_5, ok_1, ok_32, ok_36, ok_37, ok_68, ok_70, ok_164, ok_2, ok_3, sz_3, ok_4, sz_4, ok_33, sz_33, ok_34, sz_34, ok_35, sz_35, ok_38, sz_38, ok_39, sz_39, ok_40, sz_40, ok_41, sz_41, ok_66, sz_66, ok_67, sz_67, ok_69, sz_69, ok_71, sz_71, ok_162, sz_162, ok_163, sz_163, ok_165, sz_165, ok_166, sz_166, ok_167, sz_167, ok_168, sz_168, ok_169, sz_169, ok_170, sz_170, ok_171, sz_171, ok_172, sz_172, ok_173, sz_173, tn_0, tn_1, tn_2, tn_3, tn_4, tn_5, tn_6, tn_7, tn_8, tn_9, tn_10, tn_11, tn_12, tn_13, tn_14, tn_15, tn_16, tn_17, tn_18, tn_19, tn_20, tn_21, tn_22, tn_23, tn_24, tn_25, tn_26, tn_27, in_0, in_1, in_2, in_3, in_4, in_5, in_6, in_7, in_8, in_9, in_10, in_11, in_12, in_13, in_14, in_15, in_16, in_17, in_18, in_19, in_20, in_21, in_22, in_23, in_24, in_25, in_26, in_27, e_rf_s]
        exact fin
    · have e1 : (nI e < nI l) = False := eq_false (nI_nlt (by omega) (by omega))
      rw [if_neg (fun z => p z.1)] at hF hG
      have fin := hG (fun z => p z.2.1) m hp
      rw [kX6_readNumber_21]
      simp only [r_aload_n, r_bald, r_bipush, r_copy, r_dupa, r_dupi, r_fmod, r_getf0, r_getf1, r_getf2, r_goto, r_iadd, r_ic_eq, r_ic_ge, r_ic_ne, r_iconst, r_if_eq, r_if_lt, r_if_ne, r_iload, r_iload_n, r_imul, r_iret0, r_iret1, r_istore, r_istore_n, r_isub, r_mabs, r_mmax, r_mmin, r_nop, r_putf0, r_putf1, kX6_readNumber_0, kX6_readNumber_9, kX6_readNumber_71, kX6_readNumber_122, kX6_readNumber_129, lX6_readNumber_0, lX6_readNumber_9, lX6_readNumber_21, lX6_readNumber_71, lX6_readNumber_104, lX6_readNumber_122, lX6_readNumber_129, vX6_skipSpaces, vX8_isWithin, sl_n, sl_i, sl_r, sl_l, e_wi_s, e_wr_s, e_wl_s, e_lk, e_sto, e_ok, e_no, e_isL, Option.toList_some, Option.toList_none, List.cons_append, List.nil_append, List.length_cons, List.length_nil, Bool.not_false, Bool.not_true, Bool.and_true, Bool.true_and, Bool.false_and, Bool.and_false, Bool.and_self, Nat.reduceBEq, Nat.reduceAdd, Nat.reduceEqDiff, Nat.reduceLeDiff, Nat.reduceLT, Nat.zero_le, Nat.le_refl, if_true, if_false, ite_true, ite_false, true_and, and_true, true_or, or_true, not_false_eq_true, not_true_eq_false, e_set_self, Nat.succ_ne_zero, eq_self, p1, p2, e1, e_set_slot, zero_01, one_01, e_b_0, e_b_01, or_self, or_false, false_or, R_1_0, R_1_1, R_1_2, R_1_3, R_1_4, R_1_5, R_1_6, R_32_0, R_32_1, R_32_2, R_36_0, R_36_1, R_36_2, R_36_3, R_37_0, R_37_1, R_37_2, R_68_0, R_70_0, R_164_0, R_164_1, R_164_3, R_164_5, R_164_6, R_164_7, R_164_8, R_164_10, R_164_11, R_2_4, R_2_5, ok_1, ok_32, ok_36, ok_37, ok_68, ok_70, ok_164, ok_2, ok_3, sz_3, ok_4, sz_4, ok_33, sz_33, ok_34, sz_34, ok_35, sz_35, ok_38, sz_38, ok_39, sz_39, ok_40, sz_40, ok_41, sz_41, ok_66, sz_66, ok_67, sz_67, ok_69, sz_69, ok_71, sz_71, ok_162, sz_162, ok_163, sz_163, ok_165, sz_165, ok_166, sz_166, ok_167, sz_167, ok_168, sz_168, ok_169, sz_169, ok_170, sz_170, ok_171, sz_171, ok_172, sz_172, ok_173, sz_173, tn_0, tn_1, tn_2, tn_3, tn_4, tn_5, tn_6, tn_7, tn_8, tn_9, tn_10, tn_11, tn_12, tn_13, tn_14, tn_15, tn_16, tn_17, tn_18, tn_19, tn_20, tn_21, tn_22, tn_23, tn_24, tn_25, tn_26, tn_27, in_0, in_1, in_2, in_3, in_4, in_5, in_6, in_7, in_8, in_9, in_10, in_11, in_12, in_13, in_14, in_15, in_16, in_17, in_18, in_19, in_20, in_21, in_22, in_23, in_24, in_25, in_26, in_27, e_rf_s]
      exact fin
theorem c_number8 {lo hi : Int32} (hp : Ps T l m0 m a (-1) g) (hE : ∀ k, nu T l lo hi a = .error k → ∀ m' a', Ps T l m0 m' a' (nI k) g → Q (some (.int lo), (173, m', e_rs sv)))
    (hO : ∀ e v, nu T l lo hi a = .ok (e, v) → ∀ m', Ps T l m0 m' e (-1) g → Q (some (.int v), (173, m', e_rs sv))) :
    Wp xs L kX6_readNumber_0 [(0, .ref (68 : Nat)), (1, .int lo), (2, .int hi)] [] (173, m, e_rs sv) Q := by
  have p3 := hp.2.2.2.1
  have l6 := hp.2.2.2.2.2.1
  have sl := skp_le (T := T) hp.2.2.2.2.1
  simp only [r_aload_n, r_bald, r_bipush, r_copy, r_dupa, r_dupi, r_fmod, r_getf0, r_getf1, r_getf2, r_goto, r_iadd, r_ic_eq, r_ic_ge, r_ic_ne, r_iconst, r_if_eq, r_if_lt, r_if_ne, r_iload, r_iload_n, r_imul, r_iret0, r_iret1, r_istore, r_istore_n, r_isub, r_mabs, r_mmax, r_mmin, r_nop, r_putf0, r_putf1, kX6_readNumber_0, kX6_readNumber_9, kX6_readNumber_71, kX6_readNumber_122, kX6_readNumber_129, lX6_readNumber_0, lX6_readNumber_9, lX6_readNumber_21, lX6_readNumber_71, lX6_readNumber_104, lX6_readNumber_122, lX6_readNumber_129, vX6_skipSpaces, vX8_isWithin, sl_n, sl_i, sl_r, sl_l, e_wi_s, e_wr_s, e_wl_s, e_lk, e_sto, e_ok, e_no, e_isL, Option.toList_some, Option.toList_none, List.cons_append, List.nil_append, List.length_cons, List.length_nil, Bool.not_false, Bool.not_true, Bool.and_true, Bool.true_and, Bool.false_and, Bool.and_false, Bool.and_self, Nat.reduceBEq, Nat.reduceAdd, Nat.reduceEqDiff, Nat.reduceLeDiff, Nat.reduceLT, Nat.zero_le, Nat.le_refl, if_true, if_false, ite_true, ite_false, true_and, and_true, true_or, or_true, not_false_eq_true, not_true_eq_false, e_set_self, Nat.succ_ne_zero, eq_self, p3, n_m1l, e_set_slot, zero_01, one_01, e_b_0, e_b_01, or_self, or_false, false_or, R_1_0, R_1_1, R_1_2, R_1_3, R_1_4, R_1_5, R_1_6, R_32_0, R_32_1, R_32_2, R_36_0, R_36_1, R_36_2, R_36_3, R_37_0, R_37_1, R_37_2, R_68_0, R_70_0, R_164_0, R_164_1, R_164_3, R_164_5, R_164_6, R_164_7, R_164_8, R_164_10, R_164_11, R_2_4, R_2_5, ok_1, ok_32, ok_36, ok_37, ok_68, ok_70, ok_164, ok_2, ok_3, sz_3, ok_4, sz_4, ok_33, sz_33, ok_34, sz_34, ok_35, sz_35, ok_38, sz_38, ok_39, sz_39, ok_40, sz_40, ok_41, sz_41, ok_66, sz_66, ok_67, sz_67, ok_69, sz_69, ok_71, sz_71, ok_162, sz_162, ok_163, sz_163, ok_165, sz_165, ok_166, sz_166, ok_167, sz_167, ok_168, sz_168, ok_169, sz_169, ok_170, sz_170, ok_171, sz_171, ok_172, sz_172, ok_173, sz_173, tn_0, tn_1, tn_2, tn_3, tn_4, tn_5, tn_6, tn_7, tn_8, tn_9, tn_10, tn_11, tn_12, tn_13, tn_14, tn_15, tn_16, tn_17, tn_18, tn_19, tn_20, tn_21, tn_22, tn_23, tn_24, tn_25, tn_26, tn_27, in_0, in_1, in_2, in_3, in_4, in_5, in_6, in_7, in_8, in_9, in_10, in_11, in_12, in_13, in_14, in_15, in_16, in_17, in_18, in_19, in_20, in_21, in_22, in_23, in_24, in_25, in_26, in_27, e_rf_s]
  refine c_skip8 hp (fun m1 hp1 => ?_)
  have p2 := hp1.2.2.1
  simp only [r_aload_n, r_bald, r_bipush, r_copy, r_dupa, r_dupi, r_fmod, r_getf0, r_getf1, r_getf2, r_goto, r_iadd, r_ic_eq, r_ic_ge, r_ic_ne, r_iconst, r_if_eq, r_if_lt, r_if_ne, r_iload, r_iload_n, r_imul, r_iret0, r_iret1, r_istore, r_istore_n, r_isub, r_mabs, r_mmax, r_mmin, r_nop, r_putf0, r_putf1, kX6_readNumber_0, kX6_readNumber_9, kX6_readNumber_71, kX6_readNumber_122, kX6_readNumber_129, lX6_readNumber_0, lX6_readNumber_9, lX6_readNumber_21, lX6_readNumber_71, lX6_readNumber_104, lX6_readNumber_122, lX6_readNumber_129, vX6_skipSpaces, vX8_isWithin, sl_n, sl_i, sl_r, sl_l, e_wi_s, e_wr_s, e_wl_s, e_lk, e_sto, e_ok, e_no, e_isL, Option.toList_some, Option.toList_none, List.cons_append, List.nil_append, List.length_cons, List.length_nil, Bool.not_false, Bool.not_true, Bool.and_true, Bool.true_and, Bool.false_and, Bool.and_false, Bool.and_self, Nat.reduceBEq, Nat.reduceAdd, Nat.reduceEqDiff, Nat.reduceLeDiff, Nat.reduceLT, Nat.zero_le, Nat.le_refl, if_true, if_false, ite_true, ite_false, true_and, and_true, true_or, or_true, not_false_eq_true, not_true_eq_false, e_set_self, Nat.succ_ne_zero, eq_self, p2, e_set_slot, zero_01, one_01, e_b_0, e_b_01, or_self, or_false, false_or, R_1_0, R_1_1, R_1_2, R_1_3, R_1_4, R_1_5, R_1_6, R_32_0, R_32_1, R_32_2, R_36_0, R_36_1, R_36_2, R_36_3, R_37_0, R_37_1, R_37_2, R_68_0, R_70_0, R_164_0, R_164_1, R_164_3, R_164_5, R_164_6, R_164_7, R_164_8, R_164_10, R_164_11, R_2_4, R_2_5, ok_1, ok_32, ok_36, ok_37, ok_68, ok_70, ok_164, ok_2, ok_3, sz_3, ok_4, sz_4, ok_33, sz_33, ok_34, sz_34, ok_35, sz_35, ok_38, sz_38, ok_39, sz_39, ok_40, sz_40, ok_41, sz_41, ok_66, sz_66, ok_67, sz_67, ok_69, sz_69, ok_71, sz_71, ok_162, sz_162, ok_163, sz_163, ok_165, sz_165, ok_166, sz_166, ok_167, sz_167, ok_168, sz_168, ok_169, sz_169, ok_170, sz_170, ok_171, sz_171, ok_172, sz_172, ok_173, sz_173, tn_0, tn_1, tn_2, tn_3, tn_4, tn_5, tn_6, tn_7, tn_8, tn_9, tn_10, tn_11, tn_12, tn_13, tn_14, tn_15, tn_16, tn_17, tn_18, tn_19, tn_20, tn_21, tn_22, tn_23, tn_24, tn_25, tn_26, tn_27, in_0, in_1, in_2, in_3, in_4, in_5, in_6, in_7, in_8, in_9, in_10, in_11, in_12, in_13, in_14, in_15, in_16, in_17, in_18, in_19, in_20, in_21, in_22, in_23, in_24, in_25, in_26, in_27, e_rf_s]
  have dl := nd3_le (T := T) 3 (skp T l a) 0 sl.2
  refine lp_num8 (T := T) (l := l) (m0 := m0) (g := g) (s := skp T l a) sl.2 3 (skp T l a) 0 m1 rfl hp1 (fun p m' h => ?_) (fun p m' h => ?_)
  · exact hE _ (by unfold nu; rw [if_pos p]) m' _ h
  · have p2 := h.2.2.1
    have e1 : ∀ E, E ≤ l → (nI E = nI (skp T l a)) = (E = skp T l a) := fun E hE => propext (nI_eq (by omega) (by omega))
    have e1 := e1 _ dl.2.1
    by_cases q : (nd3 T l 3 (skp T l a) 0).1 = skp T l a
    · have q' := eq_true q
      rw [q'] at e1
      have fin := hE (skp T l a) (by unfold nu; rw [if_neg p, if_pos (Or.inl q)]) _ _ (h.ft (v := nI (skp T l a)))
      rw [kX6_readNumber_104]
      simp only [r_aload_n, r_bald, r_bipush, r_copy, r_dupa, r_dupi, r_fmod, r_getf0, r_getf1, r_getf2, r_goto, r_iadd, r_ic_eq, r_ic_ge, r_ic_ne, r_iconst, r_if_eq, r_if_lt, r_if_ne, r_iload, r_iload_n, r_imul, r_iret0, r_iret1, r_istore, r_istore_n, r_isub, r_mabs, r_mmax, r_mmin, r_nop, r_putf0, r_putf1, kX6_readNumber_0, kX6_readNumber_9, kX6_readNumber_71, kX6_readNumber_122, kX6_readNumber_129, lX6_readNumber_0, lX6_readNumber_9, lX6_readNumber_21, lX6_readNumber_71, lX6_readNumber_104, lX6_readNumber_122, lX6_readNumber_129, vX6_skipSpaces, vX8_isWithin, sl_n, sl_i, sl_r, sl_l, e_wi_s, e_wr_s, e_wl_s, e_lk, e_sto, e_ok, e_no, e_isL, Option.toList_some, Option.toList_none, List.cons_append, List.nil_append, List.length_cons, List.length_nil, Bool.not_false, Bool.not_true, Bool.and_true, Bool.true_and, Bool.false_and, Bool.and_false, Bool.and_self, Nat.reduceBEq, Nat.reduceAdd, Nat.reduceEqDiff, Nat.reduceLeDiff, Nat.reduceLT, Nat.zero_le, Nat.le_refl, if_true, if_false, ite_true, ite_false, true_and, and_true, true_or, or_true, not_false_eq_true, not_true_eq_false, e_set_self, Nat.succ_ne_zero, eq_self, p2, e1, e_set_slot, zero_01, one_01, e_b_0, e_b_01, or_self, or_false, false_or, R_1_0, R_1_1, R_1_2, R_1_3, R_1_4, R_1_5, R_1_6, R_32_0, R_32_1, R_32_2, R_36_0, R_36_1, R_36_2, R_36_3, R_37_0, R_37_1, R_37_2, R_68_0, R_70_0, R_164_0, R_164_1, R_164_3, R_164_5, R_164_6, R_164_7, R_164_8, R_164_10, R_164_11, R_2_4, R_2_5, ok_1, ok_32, ok_36, ok_37, ok_68, ok_70, ok_164, ok_2, ok_3, sz_3, ok_4, sz_4, ok_33, sz_33, ok_34, sz_34, ok_35, sz_35, ok_38, sz_38, ok_39, sz_39, ok_40, sz_40, ok_41, sz_41, ok_66, sz_66, ok_67, sz_67, ok_69, sz_69, ok_71, sz_71, ok_162, sz_162, ok_163, sz_163, ok_165, sz_165, ok_166, sz_166, ok_167, sz_167, ok_168, sz_168, ok_169, sz_169, ok_170, sz_170, ok_171, sz_171, ok_172, sz_172, ok_173, sz_173, tn_0, tn_1, tn_2, tn_3, tn_4, tn_5, tn_6, tn_7, tn_8, tn_9, tn_10, tn_11, tn_12, tn_13, tn_14, tn_15, tn_16, tn_17, tn_18, tn_19, tn_20, tn_21, tn_22, tn_23, tn_24, tn_25, tn_26, tn_27, in_0, in_1, in_2, in_3, in_4, in_5, in_6, in_7, in_8, in_9, in_10, in_11, in_12, in_13, in_14, in_15, in_16, in_17, in_18, in_19, in_20, in_21, in_22, in_23, in_24, in_25, in_26, in_27, e_rf_s]
      exact fin
    · have q' := eq_false q
      rw [q'] at e1
      by_cases r : ¬ (nd3 T l 3 (skp T l a) 0).2 < lo ∧ ¬ hi < (nd3 T l 3 (skp T l a) 0).2
      · have r' := eq_true r
        have fin := hO (nd3 T l 3 (skp T l a) 0).1 (nd3 T l 3 (skp T l a) 0).2 (by unfold nu; rw [if_neg p, if_neg (fun z => z.elim q (fun z => z r))]) _ h
        rw [kX6_readNumber_104]
        simp only [r_aload_n, r_bald, r_bipush, r_copy, r_dupa, r_dupi, r_fmod, r_getf0, r_getf1, r_getf2, r_goto, r_iadd, r_ic_eq, r_ic_ge, r_ic_ne, r_iconst, r_if_eq, r_if_lt, r_if_ne, r_iload, r_iload_n, r_imul, r_iret0, r_iret1, r_istore, r_istore_n, r_isub, r_mabs, r_mmax, r_mmin, r_nop, r_putf0, r_putf1, kX6_readNumber_0, kX6_readNumber_9, kX6_readNumber_71, kX6_readNumber_122, kX6_readNumber_129, lX6_readNumber_0, lX6_readNumber_9, lX6_readNumber_21, lX6_readNumber_71, lX6_readNumber_104, lX6_readNumber_122, lX6_readNumber_129, vX6_skipSpaces, vX8_isWithin, sl_n, sl_i, sl_r, sl_l, e_wi_s, e_wr_s, e_wl_s, e_lk, e_sto, e_ok, e_no, e_isL, Option.toList_some, Option.toList_none, List.cons_append, List.nil_append, List.length_cons, List.length_nil, Bool.not_false, Bool.not_true, Bool.and_true, Bool.true_and, Bool.false_and, Bool.and_false, Bool.and_self, Nat.reduceBEq, Nat.reduceAdd, Nat.reduceEqDiff, Nat.reduceLeDiff, Nat.reduceLT, Nat.zero_le, Nat.le_refl, if_true, if_false, ite_true, ite_false, true_and, and_true, true_or, or_true, not_false_eq_true, not_true_eq_false, e_set_self, Nat.succ_ne_zero, eq_self, p2, e1, c_X8_isWithin, r', n_10, e_set_slot, zero_01, one_01, e_b_0, e_b_01, or_self, or_false, false_or, R_1_0, R_1_1, R_1_2, R_1_3, R_1_4, R_1_5, R_1_6, R_32_0, R_32_1, R_32_2, R_36_0, R_36_1, R_36_2, R_36_3, R_37_0, R_37_1, R_37_2, R_68_0, R_70_0, R_164_0, R_164_1, R_164_3, R_164_5, R_164_6, R_164_7, R_164_8, R_164_10, R_164_11, R_2_4, R_2_5, ok_1, ok_32, ok_36, ok_37, ok_68, ok_70, ok_164, ok_2, ok_3, sz_3, ok_4, sz_4, ok_33, sz_33, ok_34, sz_34, ok_35, sz_35, ok_38, sz_38, ok_39, sz_39, ok_40, sz_40, ok_41, sz_41, ok_66, sz_66, ok_67, sz_67, ok_69, sz_69, ok_71, sz_71, ok_162, sz_162, ok_163, sz_163, ok_165, sz_165, ok_166, sz_166, ok_167, sz_167, ok_168, sz_168, ok_169, sz_169, ok_170, sz_170, ok_171, sz_171, ok_172, sz_172, ok_173, sz_173, tn_0, tn_1, tn_2, tn_3, tn_4, tn_5, tn_6, tn_7, tn_8, tn_9, tn_10, tn_11, tn_12, tn_13, tn_14, tn_15, tn_16, tn_17, tn_18, tn_19, tn_20, tn_21, tn_22, tn_23, tn_24, tn_25, tn_26, tn_27, in_0, in_1, in_2, in_3, in_4, in_5, in_6, in_7, in_8, in_9, in_10, in_11, in_12, in_13, in_14, in_15, in_16, in_17, in_18, in_19, in_20, in_21, in_22, in_23, in_24, in_25, in_26, in_27, e_rf_s]
        exact fin
      · have r' := eq_false r
        have fin := hE (skp T l a) (by unfold nu; rw [if_neg p, if_pos (Or.inr r)]) _ _ (h.ft (v := nI (skp T l a)))
        rw [kX6_readNumber_104]
        simp only [r_aload_n, r_bald, r_bipush, r_copy, r_dupa, r_dupi, r_fmod, r_getf0, r_getf1, r_getf2, r_goto, r_iadd, r_ic_eq, r_ic_ge, r_ic_ne, r_iconst, r_if_eq, r_if_lt, r_if_ne, r_iload, r_iload_n, r_imul, r_iret0, r_iret1, r_istore, r_istore_n, r_isub, r_mabs, r_mmax, r_mmin, r_nop, r_putf0, r_putf1, kX6_readNumber_0, kX6_readNumber_9, kX6_readNumber_71, kX6_readNumber_122, kX6_readNumber_129, lX6_readNumber_0, lX6_readNumber_9, lX6_readNumber_21, lX6_readNumber_71, lX6_readNumber_104, lX6_readNumber_122, lX6_readNumber_129, vX6_skipSpaces, vX8_isWithin, sl_n, sl_i, sl_r, sl_l, e_wi_s, e_wr_s, e_wl_s, e_lk, e_sto, e_ok, e_no, e_isL, Option.toList_some, Option.toList_none, List.cons_append, List.nil_append, List.length_cons, List.length_nil, Bool.not_false, Bool.not_true, Bool.and_true, Bool.true_and, Bool.false_and, Bool.and_false, Bool.and_self, Nat.reduceBEq, Nat.reduceAdd, Nat.reduceEqDiff, Nat.reduceLeDiff, Nat.reduceLT, Nat.zero_le, Nat.le_refl, if_true, if_false, ite_true, ite_false, true_and, and_true, true_or, or_true, not_false_eq_true, not_true_eq_false, e_set_self, Nat.succ_ne_zero, eq_self, p2, e1, c_X8_isWithin, r', e_set_slot, zero_01, one_01, e_b_0, e_b_01, or_self, or_false, false_or, R_1_0, R_1_1, R_1_2, R_1_3, R_1_4, R_1_5, R_1_6, R_32_0, R_32_1, R_32_2, R_36_0, R_36_1, R_36_2, R_36_3, R_37_0, R_37_1, R_37_2, R_68_0, R_70_0, R_164_0, R_164_1, R_164_3, R_164_5, R_164_6, R_164_7, R_164_8, R_164_10, R_164_11, R_2_4, R_2_5, ok_1, ok_32, ok_36, ok_37, ok_68, ok_70, ok_164, ok_2, ok_3, sz_3, ok_4, sz_4, ok_33, sz_33, ok_34, sz_34, ok_35, sz_35, ok_38, sz_38, ok_39, sz_39, ok_40, sz_40, ok_41, sz_41, ok_66, sz_66, ok_67, sz_67, ok_69, sz_69, ok_71, sz_71, ok_162, sz_162, ok_163, sz_163, ok_165, sz_165, ok_166, sz_166, ok_167, sz_167, ok_168, sz_168, ok_169, sz_169, ok_170, sz_170, ok_171, sz_171, ok_172, sz_172, ok_173, sz_173, tn_0, tn_1, tn_2, tn_3, tn_4, tn_5, tn_6, tn_7, tn_8, tn_9, tn_10, tn_11, tn_12, tn_13, tn_14, tn_15, tn_16, tn_17, tn_18, tn_19, tn_20, tn_21, tn_22, tn_23, tn_24, tn_25, tn_26, tn_27, in_0, in_1, in_2, in_3, in_4, in_5, in_6, in_7, in_8, in_9, in_10, in_11, in_12, in_13, in_14, in_15, in_16, in_17, in_18, in_19, in_20, in_21, in_22, in_23, in_24, in_25, in_26, in_27, e_rf_s]
        exact fin
end P42
