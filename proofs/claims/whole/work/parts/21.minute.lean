/-! a minute, of a table; what it hangs on -/
def Ag (n : Nat) (w w' : e_Tb) : Prop := ∀ k, k ≤ n → w k = w' k
theorem Ag.rf {n : Nat} {w : e_Tb} : Ag n w w := fun _ _ => rfl
theorem Ag.set {n : Nat} {w w' : e_Tb} (h : Ag n w w') {k i : Nat} {v : Int32} : Ag n (e_set w k i v) (e_set w' k i v) := fun k' hk => by
  funext s
  unfold e_set
  rw [h k' hk]
theorem uL_ag {n : Nat} {w w' : e_Tb} (h : Ag n w w') : ∀ i, Ag n (uL w i) (uL w' i)
  | 0 => h
  | i + 1 => (uL_ag h i).set.set
theorem tB1_ag {n k : Nat} {w w' : e_Tb} {f : Int32} (h : Ag n w w') (hk : k ≤ n) : Ag n (tB1 w f k) (tB1 w' f k) := by
  simp only [tB1, h k hk]
  split
  · exact h.set
  · exact h
theorem tB_ag {n : Nat} {w w' : e_Tb} {f : Int32} (h : Ag n w w') : ∀ i, i ≤ n → Ag n (tB w f i) (tB w' f i)
  | 0, _ => h
  | i + 1, hi => tB1_ag (tB_ag h i (by omega)) hi
theorem sS1_ag {n k : Nat} {w w' : e_Tb} {s f : Int32} (h : Ag n w w') (hk : k ≤ n) : Ag n (sS1 w s f k).1 (sS1 w' s f k).1 ∧ (sS1 w s f k).2 = (sS1 w' s f k).2 := by
  have e : tmB w f k = tmB w' f k := by simp only [tmB, h k hk]
  simp only [sS1, e, h k hk]
  split
  · split
    · exact ⟨h.set.set.set, rfl⟩
    · exact ⟨h.set, rfl⟩
  · exact ⟨h, rfl⟩
theorem sS_ag {n : Nat} {w w' : e_Tb} {R R' : Nat → Int32} (h : Ag n w w') (hR : ∀ k, 0 < k → k ≤ n → R k = R' k) : ∀ i, i ≤ n → Ag n (sS w R i).1 (sS w' R' i).1 ∧ (sS w R i).2 = (sS w' R' i).2
  | 0, _ => ⟨h, rfl⟩
  | i + 1, hi => by
    have ih := sS_ag h hR i (by omega)
    rw [sS, sS, ih.2, hR (i + 1) (by omega) hi]
    exact sS1_ag ih.1 hi
theorem mkS_ag {n k : Nat} {w w' : e_Tb} {d : Int32} (h : Ag n w w') (hk : k ≤ n) : Ag n (mkS w k d) (mkS w' k d) := by
  simp only [mkS, h k hk]
  split
  · exact h.set.set.set.set.set.set.set
  · exact h.set.set.set.set.set
theorem rS1_ag {n k : Nat} {w w' : e_Tb} {s may v f : Int32} (h : Ag n w w') (hk : k ≤ n) : Ag n (rS1 w s may v f k).1 (rS1 w' s may v f k).1 ∧ (rS1 w s may v f k).2 = (rS1 w' s may v f k).2 := by
  have e : wnt w k v f = wnt w' k v f := by simp only [wnt, h k hk]
  have e2 : tmR w k (wnt w' k v f) = tmR w' k (wnt w' k v f) := by simp only [tmR, h k hk]
  simp only [rS1, e, e2, h k hk]
  split
  · split
    · exact ⟨mkS_ag h.set.set hk, rfl⟩
    · exact ⟨h.set.set, rfl⟩
  · exact ⟨h, rfl⟩
theorem rS_ag {n : Nat} {w w' : e_Tb} {may : Int32} {V V' A A' : Nat → Int32} (h : Ag n w w') (hV : ∀ k, 0 < k → k ≤ n → V k = V' k ∧ A k = A' k) : ∀ i, i ≤ n → Ag n (rS w may V A i).1 (rS w' may V' A' i).1 ∧ (rS w may V A i).2 = (rS w' may V' A' i).2
  | 0, _ => ⟨h, rfl⟩
  | i + 1, hi => by
    have ih := rS_ag (may := may) h hV i (by omega)
    have hv := hV (i + 1) (by omega) hi
    rw [rS, rS, ih.2, hv.1, hv.2]
    exact rS1_ag ih.1 hi
theorem sS_R {w : e_Tb} {R R' : Nat → Int32} : ∀ i, (∀ k, 0 < k → k ≤ i → R k = R' k) → sS w R i = sS w R' i
  | 0, _ => rfl
  | i + 1, h => by rw [sS, sS, sS_R i (fun k a b => h k a (by omega)), h (i + 1) (by omega) (by omega)]
theorem rS_R {w : e_Tb} {may : Int32} {V V' A A' : Nat → Int32} : ∀ i, (∀ k, 0 < k → k ≤ i → V k = V' k ∧ A k = A' k) → rS w may V A i = rS w may V' A' i
  | 0, _ => rfl
  | i + 1, h => by
    have hv := h (i + 1) (by omega) (by omega)
    rw [rS, rS, rS_R i (fun k a b => h k a (by omega)), hv.1, hv.2]
theorem sB_R {V V' : Nat → Int32} : ∀ i, (∀ k, 0 < k → k ≤ i → V k = V' k) → sB V i = sB V' i
  | 0, _ => rfl
  | i + 1, h => by rw [sB, sB, sB_R i (fun k a b => h k a (by omega)), h (i + 1) (by omega) (by omega)]
/-- the same in all that flows hang on -/
def Gf (n : Nat) (w w' : e_Tb) : Prop := ∀ k, k ≤ n → ∀ i, (k ≠ 0 → i ≠ 9 ∧ i ≠ 11 ∧ i ≠ 22) → w k i = w' k i
theorem Ag.gf {n : Nat} {w w' : e_Tb} (h : Ag n w w') : Gf n w w' := fun k hk i _ => by rw [h k hk]
theorem Gf.tr {n : Nat} {a b c : e_Tb} (h1 : Gf n a b) (h2 : Gf n b c) : Gf n a c := fun k hk i hi => (h1 k hk i hi).trans (h2 k hk i hi)
theorem Gf.set {n : Nat} {w w' : e_Tb} (h : Gf n w w') {k i : Nat} {v : Int32} (hk : k ≠ 0) (hi : i = 9 ∨ i = 11 ∨ i = 22) : Gf n w (e_set w' k i v) := fun k' hk' i' hi' => by
  rw [h k' hk' i' hi']
  unfold e_set
  rw [if_neg]
  rintro ⟨rfl, rfl⟩
  have := hi' hk
  omega
theorem Gf.sy {n : Nat} {w w' : e_Tb} (h : Gf n w w') : Gf n w' w := fun k hk i hi => (h k hk i hi).symm
theorem sP_gf {n : Nat} {w w' : e_Tb} {f : Int32} (h : Gf n w w') : ∀ d k, k + d ≤ n + 1 → sP w f d k = sP w' f d k
  | 0, _, _ => rfl
  | d + 1, k, hd => by rw [sP, sP, sP_gf h d (k + 1) (by omega), h k (by omega) 2 (fun _ => by decide)]
theorem sSup_gf {n k : Nat} {w w' : e_Tb} {f pl : Int32} (h : Gf n w w') (hk : k ≤ n) : sSup w f pl k = sSup w' f pl k := by
  simp only [sSup, h k hk 16 (fun _ => by decide), h k hk 17 (fun _ => by decide), h k hk 18 (fun _ => by decide), h k hk 19 (fun _ => by decide), h k hk 20 (fun _ => by decide), h k hk 23 (fun _ => by decide)]
theorem sQ_gf {n : Nat} {w w' : e_Tb} {f t pl : Int32} (h : Gf n w w') : ∀ d k, k + d ≤ n + 1 → sQ w f t pl d k = sQ w' f t pl d k
  | 0, _, _ => rfl
  | d + 1, k, hd => by rw [sQ, sQ, sQ_gf h d (k + 1) (by omega), h k (by omega) 3 (fun _ => by decide), sSup_gf h (by omega)]
theorem fA_gf {n k t : Nat} {w w' : e_Tb} (h : Gf n w w') (hk : k ≤ n) : fA w t n k = fA w' t n k := by
  unfold fA
  rw [h 0 (by omega) (4 + t) (fun h => absurd rfl h), sP_gf h _ _ (by omega)]
theorem fR_gf {n k t : Nat} {pl : Int32} {w w' : e_Tb} (h : Gf n w w') (hk : k ≤ n) : fR w t pl n k = fR w' t pl n k := by
  unfold fR
  rw [h 0 (by omega) (4 + t) (fun h => absurd rfl h), sQ_gf h _ _ (by omega)]
theorem sV_gf {n : Nat} {seg tp : Int32} {A R : Nat → Int32} {w w' : e_Tb} (h : Gf n w w') : ∀ k, k ≤ n → sV w A R seg tp k = sV w' A R seg tp k
  | 0, _ => h 0 (by omega) 1 (fun _ => by decide)
  | k + 1, hk => by
    have h0 := h (k + 1) hk 0 (fun _ => by decide)
    have h1 := h (k + 1) hk 1 (fun _ => by decide)
    have h2 := h (k + 1) hk 10 (fun _ => by decide)
    simp only [sV, sV_gf h k (by omega), h0, h1, h2]
theorem fV_gf {n k t : Nat} {pl seg tp : Int32} {w w' : e_Tb} (h : Gf n w w') (hk : k ≤ n) : fV w t pl n seg tp k = fV w' t pl n seg tp k := by
  unfold fV
  rw [sV_gf h k hk]
  exact sV_cong k (fun j _ hj => ⟨fA_gf h (by omega), fR_gf h (by omega)⟩)
theorem sS_gf {n : Nat} {w : e_Tb} {R : Nat → Int32} : ∀ i, (sS w R i).2 = 0 → Gf n w (sS w R i).1
  | 0, _ => Ag.rf.gf
  | i + 1, h => by
    rw [sS] at h ⊢
    unfold sS1 at h ⊢
    split at h
    · rename_i q
      rw [if_pos q]
      split at h
      · exact absurd (show (1 : Int32) = 0 from h) (by decide)
      · rename_i q2
        rw [if_neg q2]
        exact (sS_gf i h).set (by omega) (by decide)
    · rename_i q
      rw [if_neg q]
      exact sS_gf i h
theorem rS_gf {n : Nat} {w : e_Tb} {may : Int32} {V A : Nat → Int32} : ∀ i, (rS w may V A i).2 = 0 → Gf n w (rS w may V A i).1
  | 0, _ => Ag.rf.gf
  | i + 1, h => by
    rw [rS] at h ⊢
    unfold rS1 at h ⊢
    split at h
    · rename_i q
      rw [if_pos q]
      split at h
      · exact absurd (show (1 : Int32) = 0 from h) (by decide)
      · rename_i q2
        rw [if_neg q2]
        exact ((rS_gf i h).set (by omega) (by decide)).set (by omega) (by decide)
    · rename_i q
      rw [if_neg q]
      exact rS_gf i h
def n0 (w : e_Tb) (n t : Nat) : e_Tb := tB (if (t + 1) % 60 = 0 then uL (e_set w 0 0 (nI (t + 1))) n else e_set w 0 0 (nI (t + 1))) (nI (hr (t + 1))) n
def n1 (w : e_Tb) (n t : Nat) : e_Tb × Int32 := sS (n0 w n t) (fR (n0 w n t) (hr (t + 1)) 0 n) n
def n2 (w : e_Tb) (n t : Nat) : e_Tb × Int32 := rS (n1 w n t).1 (e_b ((n1 w n t).2 = 0)) (fV (n0 w n t) (hr (t + 1)) 0 n 0 0) (fA (n0 w n t) (hr (t + 1)) n) n
def n3 (w : e_Tb) (n t : Nat) : e_Tb := e_set (n2 w n t).1 0 2 ((n2 w n t).1 0 2 + sB (fV (n2 w n t).1 (hr (t + 1)) 0 n 0 0) n)
def nb (w : e_Tb) (n t : Nat) : Int32 := e_b (¬ (n1 w n t).2 = 0 ∨ ¬ (n2 w n t).2 = 0)
theorem n2_gf {w : e_Tb} {n t : Nat} (h1 : (n1 w n t).2 = 0) (h2 : (n2 w n t).2 = 0) : Gf n (n0 w n t) (n2 w n t).1 := (sS_gf n h1).tr (rS_gf n h2)
theorem if_ag {c : Prop} [Decidable c] {n : Nat} {a b a' b' : e_Tb} (h1 : Ag n a a') (h2 : Ag n b b') : Ag n (if c then a else b) (if c then a' else b') := by
  split
  · exact h1
  · exact h2
theorem n0_ag {n t : Nat} {w w' : e_Tb} (h : Ag n w w') : Ag n (n0 w n t) (n0 w' n t) := tB_ag (if_ag (uL_ag h.set n) h.set) n (Nat.le_refl _)
theorem n1_ag {n t : Nat} {w w' : e_Tb} (h : Ag n w w') : Ag n (n1 w n t).1 (n1 w' n t).1 ∧ (n1 w n t).2 = (n1 w' n t).2 := sS_ag (n0_ag h) (fun _ _ hk => fR_gf (n0_ag h).gf hk) n (Nat.le_refl _)
theorem n2_ag {n t : Nat} {w w' : e_Tb} (h : Ag n w w') : Ag n (n2 w n t).1 (n2 w' n t).1 ∧ (n2 w n t).2 = (n2 w' n t).2 := by
  unfold n2
  rw [(n1_ag h).2]
  exact rS_ag (n1_ag h).1 (fun _ _ hk => ⟨fV_gf (n0_ag h).gf hk, fA_gf (n0_ag h).gf hk⟩) n (Nat.le_refl _)
theorem n3_ag {n t : Nat} {w w' : e_Tb} (h : Ag n w w') : Ag n (n3 w n t) (n3 w' n t) := by
  unfold n3
  rw [sB_R n (fun _ _ hk => fV_gf (n2_ag h).1.gf hk), (n2_ag h).1 0 (Nat.zero_le _)]
  exact (n2_ag h).1.set
theorem nb_ag {n t : Nat} {w w' : e_Tb} (h : Ag n w w') : nb w n t = nb w' n t := by
  unfold nb
  rw [(n1_ag h).2, (n2_ag h).2]
theorem n2_row0 {w : e_Tb} {n t : Nat} : (n2 w n t).1 0 = e_set w 0 0 (nI (t + 1)) 0 := by
  unfold n2 n1 n0
  rw [rS_row n (Or.inr rfl), sS_row n (Or.inr rfl), tB_row n (Or.inr rfl)]
  split
  · rw [uL_row n (Or.inr rfl)]
  · rfl
/-- all but the live feeder and the flows is as it was -/
def Fc (m m' : e_Tb) : Prop := ∀ c, (c ≤ 1 ∨ 36 ≤ c) → m' c = m c
theorem Fc.rf {m : e_Tb} : Fc m m := fun _ _ => rfl
theorem Fc.set {m m' : e_Tb} (h : Fc m m') {c s : Nat} {v : Int32} (h1 : 1 < c) (h2 : c < 36) : Fc m (e_set m' c s v) := fun x hx => by
  rw [← h x hx]
  funext k
  exact e_set_cell (by omega)
theorem Fc.tr {a b c : e_Tb} (h1 : Fc a b) (h2 : Fc b c) : Fc a c := fun x hx => (h2 x hx).trans (h1 x hx)
theorem Fr.fc {m m' : e_Tb} (h : Fr m m') : Fc m m' := fun c hc => h c (by omega)
theorem Sol.fc {n t : Nat} {m m' : e_Tb} (h : Sol n t m m') : Fc m m' := fun c hc => h.1 c (by omega) (by omega) (by omega)
theorem Sol.vw {n t : Nat} {m m' : e_Tb} (h : Sol n t m m') : vw 2 m' = vw 2 m := vw_cong (fun c h1 h2 => h.1 c (by omega) (by omega) (by omega))
section P21
variable {xs : Nat → Int32} {L : Nat} {Q : e_Rs → Prop} {sv : Nat → Nat}
theorem c_X8_passMinute {n t : Nat} (hn : n ≤ 8) {m : e_Tb} (hc : m 2 2 = nI n) (ht : m 2 0 = nI t) (ht2 : t + 1 < 1000000000)
    (hQ : ∀ m', Fc m m' → vw 2 m' = n3 (vw 2 m) n t → Q (some (.int (nb (vw 2 m) n t)), (173, m', e_rs sv))) :
    Wp xs L kX8_passMinute_0 [(0, .ref (1 : Nat))] [] (173, m, e_rs sv) Q := by
  have a1 : nI t + 1 = nI (t + 1) := nI_1 t
  have a2 : nI (t + 1) - nI (t + 1) / 60 * 60 = nI ((t + 1) % 60) := pk_rem (a := t + 1) (d := 60) (by omega) (by omega) (by omega)
  have n60 : ¬ (60 : Int32) = 0 := by decide
  obtain ⟨w, hw⟩ : ∃ w, vw 2 m = w := ⟨_, rfl⟩
  rw [hw] at hQ
  have fin : ∀ m5 m6 s z, Fc m m6 → vw 2 m6 = (n2 w n t).1 → m6 2 2 = nI n → (∀ k, 0 < k → k ≤ n → m6 35 k = fV (n2 w n t).1 (hr (t + 1)) 0 n 0 0 k) → s = (n1 w n t).2 → z = (n2 w n t).2 → e_01 s → e_01 z →
      Wp xs L kX8_passMinute_103 ([(0, .ref (1 : Nat)), (1, .int s), (2, .int z)] ++ m5) [] (173, m6, e_rs sv) Q := by
    intro m5 m6 s z h1 h2 h3 h4 h5 h6 h7 h8
    have e := hQ (e_set m6 2 3 (m6 2 3 + sB (m6 35) n)) (h1.set (by decide) (by decide)) (by
      rw [vu_g3, h2, sB_R n h4]
      unfold n3
      rw [← vr_g3 (B := 2) (m := m6), h2])
    unfold nb at e
    rw [← h5, ← h6] at e
    rw [kX8_passMinute_103]
    by_cases p : s = 0
    · have p' := eq_true p
      by_cases q : z = 0
      · have q' := eq_true q
        rw [e_b_f (by rintro (h | h); exact h p; exact h q)] at e
        simp only [r_aload_n, r_bipush, r_dupa, r_dupi, r_getf0, r_getf1, r_getf2, r_goto, r_iadd, r_iconst, r_if_eq, r_if_ne, r_iload_n, r_irem, r_iret0, r_iret1, r_istore_n, r_nop, r_putf0, r_putf1, kX8_passMinute_0, kX8_passMinute_79, kX8_passMinute_137, kX8_passMinute_141, kX8_passMinute_142, lX8_passMinute_0, lX8_passMinute_33, lX8_passMinute_79, lX8_passMinute_80, lX8_passMinute_92, lX8_passMinute_103, lX8_passMinute_137, lX8_passMinute_141, lX8_passMinute_142, vX1_moveRegulators, vX1_releaseLocks, vX1_switchBankByFlow, vX1_switchBanksByTime, vX2_countBadNodes, vX2_solve, sl_n, sl_i, sl_r, sl_l, e_wi_s, e_wr_s, e_wl_s, e_lk, e_sto, e_ok, e_no, e_isL, Option.toList_some, Option.toList_none, List.cons_append, List.nil_append, List.length_cons, List.length_nil, Bool.not_false, Bool.not_true, Bool.and_true, Bool.true_and, Bool.false_and, Bool.and_false, Bool.and_self, Nat.reduceBEq, Nat.reduceAdd, Nat.reduceEqDiff, Nat.reduceLeDiff, Nat.reduceLT, Nat.zero_le, Nat.le_refl, if_true, if_false, ite_true, ite_false, true_and, and_true, true_or, or_true, not_false_eq_true, not_true_eq_false, e_set_self, Nat.succ_ne_zero, eq_self, c_X2_countBadNodes (Or.inl rfl) hn, h3, p', q', e_set_slot, zero_01, one_01, e_b_0, e_b_01, or_self, or_false, false_or, R_1_0, R_1_1, R_1_2, R_1_3, R_1_4, R_1_5, R_1_6, R_32_0, R_32_1, R_32_2, R_36_0, R_36_1, R_36_2, R_36_3, R_37_0, R_37_1, R_37_2, R_68_0, R_70_0, R_164_0, R_164_1, R_164_3, R_164_5, R_164_6, R_164_7, R_164_8, R_164_10, R_164_11, R_2_4, R_2_5, ok_1, ok_32, ok_36, ok_37, ok_68, ok_70, ok_164, ok_2, ok_3, sz_3, ok_4, sz_4, ok_33, sz_33, ok_34, sz_34, ok_35, sz_35, ok_38, sz_38, ok_39, sz_39, ok_40, sz_40, ok_41, sz_41, ok_66, sz_66, ok_67, sz_67, ok_69, sz_69, ok_71, sz_71, ok_162, sz_162, ok_163, sz_163, ok_165, sz_165, ok_166, sz_166, ok_167, sz_167, ok_168, sz_168, ok_169, sz_169, ok_170, sz_170, ok_171, sz_171, ok_172, sz_172, ok_173, sz_173, tn_0, tn_1, tn_2, tn_3, tn_4, tn_5, tn_6, tn_7, tn_8, tn_9, tn_10, tn_11, tn_12, tn_13, tn_14, tn_15, tn_16, tn_17, tn_18, tn_19, tn_20, tn_21, tn_22, tn_23, tn_24, tn_25, tn_26, tn_27, in_0, in_1, in_2, in_3, in_4, in_5, in_6, in_7, in_8, in_9, in_10, in_11, in_12, in_13, in_14, in_15, in_16, in_17, in_18, in_19, in_20, in_21, in_22, in_23, in_24, in_25, in_26, in_27, e_rf_s]
        exact e
      · have q' := eq_false q
        rw [e_b_t (Or.inr q)] at e
        simp only [r_aload_n, r_bipush, r_dupa, r_dupi, r_getf0, r_getf1, r_getf2, r_goto, r_iadd, r_iconst, r_if_eq, r_if_ne, r_iload_n, r_irem, r_iret0, r_iret1, r_istore_n, r_nop, r_putf0, r_putf1, kX8_passMinute_0, kX8_passMinute_79, kX8_passMinute_137, kX8_passMinute_141, kX8_passMinute_142, lX8_passMinute_0, lX8_passMinute_33, lX8_passMinute_79, lX8_passMinute_80, lX8_passMinute_92, lX8_passMinute_103, lX8_passMinute_137, lX8_passMinute_141, lX8_passMinute_142, vX1_moveRegulators, vX1_releaseLocks, vX1_switchBankByFlow, vX1_switchBanksByTime, vX2_countBadNodes, vX2_solve, sl_n, sl_i, sl_r, sl_l, e_wi_s, e_wr_s, e_wl_s, e_lk, e_sto, e_ok, e_no, e_isL, Option.toList_some, Option.toList_none, List.cons_append, List.nil_append, List.length_cons, List.length_nil, Bool.not_false, Bool.not_true, Bool.and_true, Bool.true_and, Bool.false_and, Bool.and_false, Bool.and_self, Nat.reduceBEq, Nat.reduceAdd, Nat.reduceEqDiff, Nat.reduceLeDiff, Nat.reduceLT, Nat.zero_le, Nat.le_refl, if_true, if_false, ite_true, ite_false, true_and, and_true, true_or, or_true, not_false_eq_true, not_true_eq_false, e_set_self, Nat.succ_ne_zero, eq_self, c_X2_countBadNodes (Or.inl rfl) hn, h3, p', q', e_set_slot, zero_01, one_01, e_b_0, e_b_01, or_self, or_false, false_or, R_1_0, R_1_1, R_1_2, R_1_3, R_1_4, R_1_5, R_1_6, R_32_0, R_32_1, R_32_2, R_36_0, R_36_1, R_36_2, R_36_3, R_37_0, R_37_1, R_37_2, R_68_0, R_70_0, R_164_0, R_164_1, R_164_3, R_164_5, R_164_6, R_164_7, R_164_8, R_164_10, R_164_11, R_2_4, R_2_5, ok_1, ok_32, ok_36, ok_37, ok_68, ok_70, ok_164, ok_2, ok_3, sz_3, ok_4, sz_4, ok_33, sz_33, ok_34, sz_34, ok_35, sz_35, ok_38, sz_38, ok_39, sz_39, ok_40, sz_40, ok_41, sz_41, ok_66, sz_66, ok_67, sz_67, ok_69, sz_69, ok_71, sz_71, ok_162, sz_162, ok_163, sz_163, ok_165, sz_165, ok_166, sz_166, ok_167, sz_167, ok_168, sz_168, ok_169, sz_169, ok_170, sz_170, ok_171, sz_171, ok_172, sz_172, ok_173, sz_173, tn_0, tn_1, tn_2, tn_3, tn_4, tn_5, tn_6, tn_7, tn_8, tn_9, tn_10, tn_11, tn_12, tn_13, tn_14, tn_15, tn_16, tn_17, tn_18, tn_19, tn_20, tn_21, tn_22, tn_23, tn_24, tn_25, tn_26, tn_27, in_0, in_1, in_2, in_3, in_4, in_5, in_6, in_7, in_8, in_9, in_10, in_11, in_12, in_13, in_14, in_15, in_16, in_17, in_18, in_19, in_20, in_21, in_22, in_23, in_24, in_25, in_26, in_27, e_rf_s]
        exact e
    · have p' := eq_false p
      rw [e_b_t (Or.inl p)] at e
      simp only [r_aload_n, r_bipush, r_dupa, r_dupi, r_getf0, r_getf1, r_getf2, r_goto, r_iadd, r_iconst, r_if_eq, r_if_ne, r_iload_n, r_irem, r_iret0, r_iret1, r_istore_n, r_nop, r_putf0, r_putf1, kX8_passMinute_0, kX8_passMinute_79, kX8_passMinute_137, kX8_passMinute_141, kX8_passMinute_142, lX8_passMinute_0, lX8_passMinute_33, lX8_passMinute_79, lX8_passMinute_80, lX8_passMinute_92, lX8_passMinute_103, lX8_passMinute_137, lX8_passMinute_141, lX8_passMinute_142, vX1_moveRegulators, vX1_releaseLocks, vX1_switchBankByFlow, vX1_switchBanksByTime, vX2_countBadNodes, vX2_solve, sl_n, sl_i, sl_r, sl_l, e_wi_s, e_wr_s, e_wl_s, e_lk, e_sto, e_ok, e_no, e_isL, Option.toList_some, Option.toList_none, List.cons_append, List.nil_append, List.length_cons, List.length_nil, Bool.not_false, Bool.not_true, Bool.and_true, Bool.true_and, Bool.false_and, Bool.and_false, Bool.and_self, Nat.reduceBEq, Nat.reduceAdd, Nat.reduceEqDiff, Nat.reduceLeDiff, Nat.reduceLT, Nat.zero_le, Nat.le_refl, if_true, if_false, ite_true, ite_false, true_and, and_true, true_or, or_true, not_false_eq_true, not_true_eq_false, e_set_self, Nat.succ_ne_zero, eq_self, c_X2_countBadNodes (Or.inl rfl) hn, h3, p', e_set_slot, zero_01, one_01, e_b_0, e_b_01, or_self, or_false, false_or, R_1_0, R_1_1, R_1_2, R_1_3, R_1_4, R_1_5, R_1_6, R_32_0, R_32_1, R_32_2, R_36_0, R_36_1, R_36_2, R_36_3, R_37_0, R_37_1, R_37_2, R_68_0, R_70_0, R_164_0, R_164_1, R_164_3, R_164_5, R_164_6, R_164_7, R_164_8, R_164_10, R_164_11, R_2_4, R_2_5, ok_1, ok_32, ok_36, ok_37, ok_68, ok_70, ok_164, ok_2, ok_3, sz_3, ok_4, sz_4, ok_33, sz_33, ok_34, sz_34, ok_35, sz_35, ok_38, sz_38, ok_39, sz_39, ok_40, sz_40, ok_41, sz_41, ok_66, sz_66, ok_67, sz_67, ok_69, sz_69, ok_71, sz_71, ok_162, sz_162, ok_163, sz_163, ok_165, sz_165, ok_166, sz_166, ok_167, sz_167, ok_168, sz_168, ok_169, sz_169, ok_170, sz_170, ok_171, sz_171, ok_172, sz_172, ok_173, sz_173, tn_0, tn_1, tn_2, tn_3, tn_4, tn_5, tn_6, tn_7, tn_8, tn_9, tn_10, tn_11, tn_12, tn_13, tn_14, tn_15, tn_16, tn_17, tn_18, tn_19, tn_20, tn_21, tn_22, tn_23, tn_24, tn_25, tn_26, tn_27, in_0, in_1, in_2, in_3, in_4, in_5, in_6, in_7, in_8, in_9, in_10, in_11, in_12, in_13, in_14, in_15, in_16, in_17, in_18, in_19, in_20, in_21, in_22, in_23, in_24, in_25, in_26, in_27, e_rf_s]
      exact e
  have stA : ∀ m1, Fc m m1 → vw 2 m1 = (if (t + 1) % 60 = 0 then uL (e_set w 0 0 (nI (t + 1))) n else e_set w 0 0 (nI (t + 1))) → m1 2 2 = nI n → m1 2 0 = nI (t + 1) →
      Wp xs L kX8_passMinute_33 [(0, .ref (1 : Nat))] [] (173, m1, e_rs sv) Q := by
    intro m1 f1 v1 k1 t1
    rw [kX8_passMinute_33]
    simp only [r_aload_n, r_bipush, r_dupa, r_dupi, r_getf0, r_getf1, r_getf2, r_goto, r_iadd, r_iconst, r_if_eq, r_if_ne, r_iload_n, r_irem, r_iret0, r_iret1, r_istore_n, r_nop, r_putf0, r_putf1, kX8_passMinute_0, kX8_passMinute_79, kX8_passMinute_137, kX8_passMinute_141, kX8_passMinute_142, lX8_passMinute_0, lX8_passMinute_33, lX8_passMinute_79, lX8_passMinute_80, lX8_passMinute_92, lX8_passMinute_103, lX8_passMinute_137, lX8_passMinute_141, lX8_passMinute_142, vX1_moveRegulators, vX1_releaseLocks, vX1_switchBankByFlow, vX1_switchBanksByTime, vX2_countBadNodes, vX2_solve, sl_n, sl_i, sl_r, sl_l, e_wi_s, e_wr_s, e_wl_s, e_lk, e_sto, e_ok, e_no, e_isL, Option.toList_some, Option.toList_none, List.cons_append, List.nil_append, List.length_cons, List.length_nil, Bool.not_false, Bool.not_true, Bool.and_true, Bool.true_and, Bool.false_and, Bool.and_false, Bool.and_self, Nat.reduceBEq, Nat.reduceAdd, Nat.reduceEqDiff, Nat.reduceLeDiff, Nat.reduceLT, Nat.zero_le, Nat.le_refl, if_true, if_false, ite_true, ite_false, true_and, and_true, true_or, or_true, not_false_eq_true, not_true_eq_false, e_set_self, Nat.succ_ne_zero, eq_self, e_set_slot, zero_01, one_01, e_b_0, e_b_01, or_self, or_false, false_or, R_1_0, R_1_1, R_1_2, R_1_3, R_1_4, R_1_5, R_1_6, R_32_0, R_32_1, R_32_2, R_36_0, R_36_1, R_36_2, R_36_3, R_37_0, R_37_1, R_37_2, R_68_0, R_70_0, R_164_0, R_164_1, R_164_3, R_164_5, R_164_6, R_164_7, R_164_8, R_164_10, R_164_11, R_2_4, R_2_5, ok_1, ok_32, ok_36, ok_37, ok_68, ok_70, ok_164, ok_2, ok_3, sz_3, ok_4, sz_4, ok_33, sz_33, ok_34, sz_34, ok_35, sz_35, ok_38, sz_38, ok_39, sz_39, ok_40, sz_40, ok_41, sz_41, ok_66, sz_66, ok_67, sz_67, ok_69, sz_69, ok_71, sz_71, ok_162, sz_162, ok_163, sz_163, ok_165, sz_165, ok_166, sz_166, ok_167, sz_167, ok_168, sz_168, ok_169, sz_169, ok_170, sz_170, ok_171, sz_171, ok_172, sz_172, ok_173, sz_173, tn_0, tn_1, tn_2, tn_3, tn_4, tn_5, tn_6, tn_7, tn_8, tn_9, tn_10, tn_11, tn_12, tn_13, tn_14, tn_15, tn_16, tn_17, tn_18, tn_19, tn_20, tn_21, tn_22, tn_23, tn_24, tn_25, tn_26, tn_27, in_0, in_1, in_2, in_3, in_4, in_5, in_6, in_7, in_8, in_9, in_10, in_11, in_12, in_13, in_14, in_15, in_16, in_17, in_18, in_19, in_20, in_21, in_22, in_23, in_24, in_25, in_26, in_27, e_rf_s]
    refine c_X1_banksT hn k1 t1 ht2 (fun m2 f2 v2 => ?_)
    rw [v1] at v2
    have k2 : m2 2 2 = nI n := by rw [f2 2 (by omega)]; exact k1
    have t2 : m2 2 0 = nI (t + 1) := by rw [f2 2 (by omega)]; exact t1
    simp only [r_aload_n, r_bipush, r_dupa, r_dupi, r_getf0, r_getf1, r_getf2, r_goto, r_iadd, r_iconst, r_if_eq, r_if_ne, r_iload_n, r_irem, r_iret0, r_iret1, r_istore_n, r_nop, r_putf0, r_putf1, kX8_passMinute_0, kX8_passMinute_79, kX8_passMinute_137, kX8_passMinute_141, kX8_passMinute_142, lX8_passMinute_0, lX8_passMinute_33, lX8_passMinute_79, lX8_passMinute_80, lX8_passMinute_92, lX8_passMinute_103, lX8_passMinute_137, lX8_passMinute_141, lX8_passMinute_142, vX1_moveRegulators, vX1_releaseLocks, vX1_switchBankByFlow, vX1_switchBanksByTime, vX2_countBadNodes, vX2_solve, sl_n, sl_i, sl_r, sl_l, e_wi_s, e_wr_s, e_wl_s, e_lk, e_sto, e_ok, e_no, e_isL, Option.toList_some, Option.toList_none, List.cons_append, List.nil_append, List.length_cons, List.length_nil, Bool.not_false, Bool.not_true, Bool.and_true, Bool.true_and, Bool.false_and, Bool.and_false, Bool.and_self, Nat.reduceBEq, Nat.reduceAdd, Nat.reduceEqDiff, Nat.reduceLeDiff, Nat.reduceLT, Nat.zero_le, Nat.le_refl, if_true, if_false, ite_true, ite_false, true_and, and_true, true_or, or_true, not_false_eq_true, not_true_eq_false, e_set_self, Nat.succ_ne_zero, eq_self, e_set_slot, zero_01, one_01, e_b_0, e_b_01, or_self, or_false, false_or, R_1_0, R_1_1, R_1_2, R_1_3, R_1_4, R_1_5, R_1_6, R_32_0, R_32_1, R_32_2, R_36_0, R_36_1, R_36_2, R_36_3, R_37_0, R_37_1, R_37_2, R_68_0, R_70_0, R_164_0, R_164_1, R_164_3, R_164_5, R_164_6, R_164_7, R_164_8, R_164_10, R_164_11, R_2_4, R_2_5, ok_1, ok_32, ok_36, ok_37, ok_68, ok_70, ok_164, ok_2, ok_3, sz_3, ok_4, sz_4, ok_33, sz_33, ok_34, sz_34, ok_35, sz_35, ok_38, sz_38, ok_39, sz_39, ok_40, sz_40, ok_41, sz_41, ok_66, sz_66, ok_67, sz_67, ok_69, sz_69, ok_71, sz_71, ok_162, sz_162, ok_163, sz_163, ok_165, sz_165, ok_166, sz_166, ok_167, sz_167, ok_168, sz_168, ok_169, sz_169, ok_170, sz_170, ok_171, sz_171, ok_172, sz_172, ok_173, sz_173, tn_0, tn_1, tn_2, tn_3, tn_4, tn_5, tn_6, tn_7, tn_8, tn_9, tn_10, tn_11, tn_12, tn_13, tn_14, tn_15, tn_16, tn_17, tn_18, tn_19, tn_20, tn_21, tn_22, tn_23, tn_24, tn_25, tn_26, tn_27, in_0, in_1, in_2, in_3, in_4, in_5, in_6, in_7, in_8, in_9, in_10, in_11, in_12, in_13, in_14, in_15, in_16, in_17, in_18, in_19, in_20, in_21, in_22, in_23, in_24, in_25, in_26, in_27, e_rf_s]
    refine c_X2_solve hn k2 t2 ht2 (fun m3 s3 => ?_)
    have v3 : vw 2 m3 = n0 w n t := by rw [s3.vw, v2]; rfl
    have k3 : m3 2 2 = nI n := by rw [s3.1 2 (by omega) (by omega) (by omega)]; exact k2
    have t3 : m3 2 0 = nI (t + 1) := by rw [s3.1 2 (by omega) (by omega) (by omega)]; exact t2
    have v2' : vw 2 m2 = n0 w n t := v2
    have s3' := s3.2
    rw [v2'] at s3'
    simp only [r_aload_n, r_bipush, r_dupa, r_dupi, r_getf0, r_getf1, r_getf2, r_goto, r_iadd, r_iconst, r_if_eq, r_if_ne, r_iload_n, r_irem, r_iret0, r_iret1, r_istore_n, r_nop, r_putf0, r_putf1, kX8_passMinute_0, kX8_passMinute_79, kX8_passMinute_137, kX8_passMinute_141, kX8_passMinute_142, lX8_passMinute_0, lX8_passMinute_33, lX8_passMinute_79, lX8_passMinute_80, lX8_passMinute_92, lX8_passMinute_103, lX8_passMinute_137, lX8_passMinute_141, lX8_passMinute_142, vX1_moveRegulators, vX1_releaseLocks, vX1_switchBankByFlow, vX1_switchBanksByTime, vX2_countBadNodes, vX2_solve, sl_n, sl_i, sl_r, sl_l, e_wi_s, e_wr_s, e_wl_s, e_lk, e_sto, e_ok, e_no, e_isL, Option.toList_some, Option.toList_none, List.cons_append, List.nil_append, List.length_cons, List.length_nil, Bool.not_false, Bool.not_true, Bool.and_true, Bool.true_and, Bool.false_and, Bool.and_false, Bool.and_self, Nat.reduceBEq, Nat.reduceAdd, Nat.reduceEqDiff, Nat.reduceLeDiff, Nat.reduceLT, Nat.zero_le, Nat.le_refl, if_true, if_false, ite_true, ite_false, true_and, and_true, true_or, or_true, not_false_eq_true, not_true_eq_false, e_set_self, Nat.succ_ne_zero, eq_self, e_set_slot, zero_01, one_01, e_b_0, e_b_01, or_self, or_false, false_or, R_1_0, R_1_1, R_1_2, R_1_3, R_1_4, R_1_5, R_1_6, R_32_0, R_32_1, R_32_2, R_36_0, R_36_1, R_36_2, R_36_3, R_37_0, R_37_1, R_37_2, R_68_0, R_70_0, R_164_0, R_164_1, R_164_3, R_164_5, R_164_6, R_164_7, R_164_8, R_164_10, R_164_11, R_2_4, R_2_5, ok_1, ok_32, ok_36, ok_37, ok_68, ok_70, ok_164, ok_2, ok_3, sz_3, ok_4, sz_4, ok_33, sz_33, ok_34, sz_34, ok_35, sz_35, ok_38, sz_38, ok_39, sz_39, ok_40, sz_40, ok_41, sz_41, ok_66, sz_66, ok_67, sz_67, ok_69, sz_69, ok_71, sz_71, ok_162, sz_162, ok_163, sz_163, ok_165, sz_165, ok_166, sz_166, ok_167, sz_167, ok_168, sz_168, ok_169, sz_169, ok_170, sz_170, ok_171, sz_171, ok_172, sz_172, ok_173, sz_173, tn_0, tn_1, tn_2, tn_3, tn_4, tn_5, tn_6, tn_7, tn_8, tn_9, tn_10, tn_11, tn_12, tn_13, tn_14, tn_15, tn_16, tn_17, tn_18, tn_19, tn_20, tn_21, tn_22, tn_23, tn_24, tn_25, tn_26, tn_27, in_0, in_1, in_2, in_3, in_4, in_5, in_6, in_7, in_8, in_9, in_10, in_11, in_12, in_13, in_14, in_15, in_16, in_17, in_18, in_19, in_20, in_21, in_22, in_23, in_24, in_25, in_26, in_27, e_rf_s]
    refine c_X1_banksF hn k3 (fun m4 s f4 v4 b4 => ?_)
    rw [v3, sS_R n (fun k a b => (s3'.1 k a b).2)] at v4
    have v4 : (vw 2 m4, s) = n1 w n t := v4
    have v4a : vw 2 m4 = (n1 w n t).1 := by rw [← v4]
    have v4b : s = (n1 w n t).2 := by rw [← v4]
    have k4 : m4 2 2 = nI n := by rw [f4 2 (by omega)]; exact k3
    have stB : Wp xs L kX8_passMinute_80 [(0, .ref (1 : Nat)), (1, .int s)] [.int (e_b (s = 0)), .ref (32 : Nat), .ref (2 : Nat)] (173, m4, e_rs sv) Q := by
      rw [kX8_passMinute_80]
      simp only [r_aload_n, r_bipush, r_dupa, r_dupi, r_getf0, r_getf1, r_getf2, r_goto, r_iadd, r_iconst, r_if_eq, r_if_ne, r_iload_n, r_irem, r_iret0, r_iret1, r_istore_n, r_nop, r_putf0, r_putf1, kX8_passMinute_0, kX8_passMinute_79, kX8_passMinute_137, kX8_passMinute_141, kX8_passMinute_142, lX8_passMinute_0, lX8_passMinute_33, lX8_passMinute_79, lX8_passMinute_80, lX8_passMinute_92, lX8_passMinute_103, lX8_passMinute_137, lX8_passMinute_141, lX8_passMinute_142, vX1_moveRegulators, vX1_releaseLocks, vX1_switchBankByFlow, vX1_switchBanksByTime, vX2_countBadNodes, vX2_solve, sl_n, sl_i, sl_r, sl_l, e_wi_s, e_wr_s, e_wl_s, e_lk, e_sto, e_ok, e_no, e_isL, Option.toList_some, Option.toList_none, List.cons_append, List.nil_append, List.length_cons, List.length_nil, Bool.not_false, Bool.not_true, Bool.and_true, Bool.true_and, Bool.false_and, Bool.and_false, Bool.and_self, Nat.reduceBEq, Nat.reduceAdd, Nat.reduceEqDiff, Nat.reduceLeDiff, Nat.reduceLT, Nat.zero_le, Nat.le_refl, if_true, if_false, ite_true, ite_false, true_and, and_true, true_or, or_true, not_false_eq_true, not_true_eq_false, e_set_self, Nat.succ_ne_zero, eq_self, e_set_slot, zero_01, one_01, e_b_0, e_b_01, or_self, or_false, false_or, R_1_0, R_1_1, R_1_2, R_1_3, R_1_4, R_1_5, R_1_6, R_32_0, R_32_1, R_32_2, R_36_0, R_36_1, R_36_2, R_36_3, R_37_0, R_37_1, R_37_2, R_68_0, R_70_0, R_164_0, R_164_1, R_164_3, R_164_5, R_164_6, R_164_7, R_164_8, R_164_10, R_164_11, R_2_4, R_2_5, ok_1, ok_32, ok_36, ok_37, ok_68, ok_70, ok_164, ok_2, ok_3, sz_3, ok_4, sz_4, ok_33, sz_33, ok_34, sz_34, ok_35, sz_35, ok_38, sz_38, ok_39, sz_39, ok_40, sz_40, ok_41, sz_41, ok_66, sz_66, ok_67, sz_67, ok_69, sz_69, ok_71, sz_71, ok_162, sz_162, ok_163, sz_163, ok_165, sz_165, ok_166, sz_166, ok_167, sz_167, ok_168, sz_168, ok_169, sz_169, ok_170, sz_170, ok_171, sz_171, ok_172, sz_172, ok_173, sz_173, tn_0, tn_1, tn_2, tn_3, tn_4, tn_5, tn_6, tn_7, tn_8, tn_9, tn_10, tn_11, tn_12, tn_13, tn_14, tn_15, tn_16, tn_17, tn_18, tn_19, tn_20, tn_21, tn_22, tn_23, tn_24, tn_25, tn_26, tn_27, in_0, in_1, in_2, in_3, in_4, in_5, in_6, in_7, in_8, in_9, in_10, in_11, in_12, in_13, in_14, in_15, in_16, in_17, in_18, in_19, in_20, in_21, in_22, in_23, in_24, in_25, in_26, in_27, e_rf_s]
      refine c_X1_move hn k4 (fun m5 z f5 v5 b5 => ?_)
      rw [v4a, f4 35 (by omega), f4 33 (by omega), rS_R n (fun k a b => ⟨s3'.2 k b, (s3'.1 k a b).1⟩), v4b] at v5
      have v5 : (vw 2 m5, z) = n2 w n t := v5
      have v5a : vw 2 m5 = (n2 w n t).1 := by rw [← v5]
      have v5b : z = (n2 w n t).2 := by rw [← v5]
      have k5 : m5 2 2 = nI n := by rw [f5 2 (by omega)]; exact k4
      have t5 : m5 2 0 = nI (t + 1) := by rw [f5 2 (by omega), f4 2 (by omega)]; exact t3
      have f05 : Fc m m5 := (((f1.tr f2.fc).tr s3.fc).tr f4.fc).tr f5.fc
      have stC : Wp xs L kX8_passMinute_92 [(0, .ref (1 : Nat)), (1, .int s), (2, .int z)] [] (173, m5, e_rs sv) Q := by
        rw [kX8_passMinute_92]
        simp only [r_aload_n, r_bipush, r_dupa, r_dupi, r_getf0, r_getf1, r_getf2, r_goto, r_iadd, r_iconst, r_if_eq, r_if_ne, r_iload_n, r_irem, r_iret0, r_iret1, r_istore_n, r_nop, r_putf0, r_putf1, kX8_passMinute_0, kX8_passMinute_79, kX8_passMinute_137, kX8_passMinute_141, kX8_passMinute_142, lX8_passMinute_0, lX8_passMinute_33, lX8_passMinute_79, lX8_passMinute_80, lX8_passMinute_92, lX8_passMinute_103, lX8_passMinute_137, lX8_passMinute_141, lX8_passMinute_142, vX1_moveRegulators, vX1_releaseLocks, vX1_switchBankByFlow, vX1_switchBanksByTime, vX2_countBadNodes, vX2_solve, sl_n, sl_i, sl_r, sl_l, e_wi_s, e_wr_s, e_wl_s, e_lk, e_sto, e_ok, e_no, e_isL, Option.toList_some, Option.toList_none, List.cons_append, List.nil_append, List.length_cons, List.length_nil, Bool.not_false, Bool.not_true, Bool.and_true, Bool.true_and, Bool.false_and, Bool.and_false, Bool.and_self, Nat.reduceBEq, Nat.reduceAdd, Nat.reduceEqDiff, Nat.reduceLeDiff, Nat.reduceLT, Nat.zero_le, Nat.le_refl, if_true, if_false, ite_true, ite_false, true_and, and_true, true_or, or_true, not_false_eq_true, not_true_eq_false, e_set_self, Nat.succ_ne_zero, eq_self, e_set_slot, zero_01, one_01, e_b_0, e_b_01, or_self, or_false, false_or, R_1_0, R_1_1, R_1_2, R_1_3, R_1_4, R_1_5, R_1_6, R_32_0, R_32_1, R_32_2, R_36_0, R_36_1, R_36_2, R_36_3, R_37_0, R_37_1, R_37_2, R_68_0, R_70_0, R_164_0, R_164_1, R_164_3, R_164_5, R_164_6, R_164_7, R_164_8, R_164_10, R_164_11, R_2_4, R_2_5, ok_1, ok_32, ok_36, ok_37, ok_68, ok_70, ok_164, ok_2, ok_3, sz_3, ok_4, sz_4, ok_33, sz_33, ok_34, sz_34, ok_35, sz_35, ok_38, sz_38, ok_39, sz_39, ok_40, sz_40, ok_41, sz_41, ok_66, sz_66, ok_67, sz_67, ok_69, sz_69, ok_71, sz_71, ok_162, sz_162, ok_163, sz_163, ok_165, sz_165, ok_166, sz_166, ok_167, sz_167, ok_168, sz_168, ok_169, sz_169, ok_170, sz_170, ok_171, sz_171, ok_172, sz_172, ok_173, sz_173, tn_0, tn_1, tn_2, tn_3, tn_4, tn_5, tn_6, tn_7, tn_8, tn_9, tn_10, tn_11, tn_12, tn_13, tn_14, tn_15, tn_16, tn_17, tn_18, tn_19, tn_20, tn_21, tn_22, tn_23, tn_24, tn_25, tn_26, tn_27, in_0, in_1, in_2, in_3, in_4, in_5, in_6, in_7, in_8, in_9, in_10, in_11, in_12, in_13, in_14, in_15, in_16, in_17, in_18, in_19, in_20, in_21, in_22, in_23, in_24, in_25, in_26, in_27, e_rf_s]
        refine c_X2_solve hn k5 t5 ht2 (fun m6 s6 => ?_)
        simp only [r_aload_n, r_bipush, r_dupa, r_dupi, r_getf0, r_getf1, r_getf2, r_goto, r_iadd, r_iconst, r_if_eq, r_if_ne, r_iload_n, r_irem, r_iret0, r_iret1, r_istore_n, r_nop, r_putf0, r_putf1, kX8_passMinute_0, kX8_passMinute_79, kX8_passMinute_137, kX8_passMinute_141, kX8_passMinute_142, lX8_passMinute_0, lX8_passMinute_33, lX8_passMinute_79, lX8_passMinute_80, lX8_passMinute_92, lX8_passMinute_103, lX8_passMinute_137, lX8_passMinute_141, lX8_passMinute_142, vX1_moveRegulators, vX1_releaseLocks, vX1_switchBankByFlow, vX1_switchBanksByTime, vX2_countBadNodes, vX2_solve, sl_n, sl_i, sl_r, sl_l, e_wi_s, e_wr_s, e_wl_s, e_lk, e_sto, e_ok, e_no, e_isL, Option.toList_some, Option.toList_none, List.cons_append, List.nil_append, List.length_cons, List.length_nil, Bool.not_false, Bool.not_true, Bool.and_true, Bool.true_and, Bool.false_and, Bool.and_false, Bool.and_self, Nat.reduceBEq, Nat.reduceAdd, Nat.reduceEqDiff, Nat.reduceLeDiff, Nat.reduceLT, Nat.zero_le, Nat.le_refl, if_true, if_false, ite_true, ite_false, true_and, and_true, true_or, or_true, not_false_eq_true, not_true_eq_false, e_set_self, Nat.succ_ne_zero, eq_self, e_set_slot, zero_01, one_01, e_b_0, e_b_01, or_self, or_false, false_or, R_1_0, R_1_1, R_1_2, R_1_3, R_1_4, R_1_5, R_1_6, R_32_0, R_32_1, R_32_2, R_36_0, R_36_1, R_36_2, R_36_3, R_37_0, R_37_1, R_37_2, R_68_0, R_70_0, R_164_0, R_164_1, R_164_3, R_164_5, R_164_6, R_164_7, R_164_8, R_164_10, R_164_11, R_2_4, R_2_5, ok_1, ok_32, ok_36, ok_37, ok_68, ok_70, ok_164, ok_2, ok_3, sz_3, ok_4, sz_4, ok_33, sz_33, ok_34, sz_34, ok_35, sz_35, ok_38, sz_38, ok_39, sz_39, ok_40, sz_40, ok_41, sz_41, ok_66, sz_66, ok_67, sz_67, ok_69, sz_69, ok_71, sz_71, ok_162, sz_162, ok_163, sz_163, ok_165, sz_165, ok_166, sz_166, ok_167, sz_167, ok_168, sz_168, ok_169, sz_169, ok_170, sz_170, ok_171, sz_171, ok_172, sz_172, ok_173, sz_173, tn_0, tn_1, tn_2, tn_3, tn_4, tn_5, tn_6, tn_7, tn_8, tn_9, tn_10, tn_11, tn_12, tn_13, tn_14, tn_15, tn_16, tn_17, tn_18, tn_19, tn_20, tn_21, tn_22, tn_23, tn_24, tn_25, tn_26, tn_27, in_0, in_1, in_2, in_3, in_4, in_5, in_6, in_7, in_8, in_9, in_10, in_11, in_12, in_13, in_14, in_15, in_16, in_17, in_18, in_19, in_20, in_21, in_22, in_23, in_24, in_25, in_26, in_27, e_rf_s]
        refine fin [] m6 s z (f05.tr s6.fc) (by rw [s6.vw, v5a]) (by rw [s6.1 2 (by omega) (by omega) (by omega)]; exact k5) (fun k a b => ?_) v4b v5b b4 b5
        rw [s6.2.2 k b, v5a]
      by_cases p : s = 0
      · have p' := eq_true p
        by_cases q : z = 0
        · have q' := eq_true q
          have f := fin [] m5 s z f05 v5a k5 (fun k a b => by
            rw [f5 35 (by omega), f4 35 (by omega), s3'.2 k b]
            exact fV_gf (n2_gf (v4b.symm.trans p) (v5b.symm.trans q)) b) v4b v5b b4 b5
          simp only [r_aload_n, r_bipush, r_dupa, r_dupi, r_getf0, r_getf1, r_getf2, r_goto, r_iadd, r_iconst, r_if_eq, r_if_ne, r_iload_n, r_irem, r_iret0, r_iret1, r_istore_n, r_nop, r_putf0, r_putf1, kX8_passMinute_0, kX8_passMinute_79, kX8_passMinute_137, kX8_passMinute_141, kX8_passMinute_142, lX8_passMinute_0, lX8_passMinute_33, lX8_passMinute_79, lX8_passMinute_80, lX8_passMinute_92, lX8_passMinute_103, lX8_passMinute_137, lX8_passMinute_141, lX8_passMinute_142, vX1_moveRegulators, vX1_releaseLocks, vX1_switchBankByFlow, vX1_switchBanksByTime, vX2_countBadNodes, vX2_solve, sl_n, sl_i, sl_r, sl_l, e_wi_s, e_wr_s, e_wl_s, e_lk, e_sto, e_ok, e_no, e_isL, Option.toList_some, Option.toList_none, List.cons_append, List.nil_append, List.length_cons, List.length_nil, Bool.not_false, Bool.not_true, Bool.and_true, Bool.true_and, Bool.false_and, Bool.and_false, Bool.and_self, Nat.reduceBEq, Nat.reduceAdd, Nat.reduceEqDiff, Nat.reduceLeDiff, Nat.reduceLT, Nat.zero_le, Nat.le_refl, if_true, if_false, ite_true, ite_false, true_and, and_true, true_or, or_true, not_false_eq_true, not_true_eq_false, e_set_self, Nat.succ_ne_zero, eq_self, p', q', e_set_slot, zero_01, one_01, e_b_0, e_b_01, or_self, or_false, false_or, R_1_0, R_1_1, R_1_2, R_1_3, R_1_4, R_1_5, R_1_6, R_32_0, R_32_1, R_32_2, R_36_0, R_36_1, R_36_2, R_36_3, R_37_0, R_37_1, R_37_2, R_68_0, R_70_0, R_164_0, R_164_1, R_164_3, R_164_5, R_164_6, R_164_7, R_164_8, R_164_10, R_164_11, R_2_4, R_2_5, ok_1, ok_32, ok_36, ok_37, ok_68, ok_70, ok_164, ok_2, ok_3, sz_3, ok_4, sz_4, ok_33, sz_33, ok_34, sz_34, ok_35, sz_35, ok_38, sz_38, ok_39, sz_39, ok_40, sz_40, ok_41, sz_41, ok_66, sz_66, ok_67, sz_67, ok_69, sz_69, ok_71, sz_71, ok_162, sz_162, ok_163, sz_163, ok_165, sz_165, ok_166, sz_166, ok_167, sz_167, ok_168, sz_168, ok_169, sz_169, ok_170, sz_170, ok_171, sz_171, ok_172, sz_172, ok_173, sz_173, tn_0, tn_1, tn_2, tn_3, tn_4, tn_5, tn_6, tn_7, tn_8, tn_9, tn_10, tn_11, tn_12, tn_13, tn_14, tn_15, tn_16, tn_17, tn_18, tn_19, tn_20, tn_21, tn_22, tn_23, tn_24, tn_25, tn_26, tn_27, in_0, in_1, in_2, in_3, in_4, in_5, in_6, in_7, in_8, in_9, in_10, in_11, in_12, in_13, in_14, in_15, in_16, in_17, in_18, in_19, in_20, in_21, in_22, in_23, in_24, in_25, in_26, in_27, e_rf_s]
          exact f
        · have q' := eq_false q
          simp only [r_aload_n, r_bipush, r_dupa, r_dupi, r_getf0, r_getf1, r_getf2, r_goto, r_iadd, r_iconst, r_if_eq, r_if_ne, r_iload_n, r_irem, r_iret0, r_iret1, r_istore_n, r_nop, r_putf0, r_putf1, kX8_passMinute_0, kX8_passMinute_79, kX8_passMinute_137, kX8_passMinute_141, kX8_passMinute_142, lX8_passMinute_0, lX8_passMinute_33, lX8_passMinute_79, lX8_passMinute_80, lX8_passMinute_92, lX8_passMinute_103, lX8_passMinute_137, lX8_passMinute_141, lX8_passMinute_142, vX1_moveRegulators, vX1_releaseLocks, vX1_switchBankByFlow, vX1_switchBanksByTime, vX2_countBadNodes, vX2_solve, sl_n, sl_i, sl_r, sl_l, e_wi_s, e_wr_s, e_wl_s, e_lk, e_sto, e_ok, e_no, e_isL, Option.toList_some, Option.toList_none, List.cons_append, List.nil_append, List.length_cons, List.length_nil, Bool.not_false, Bool.not_true, Bool.and_true, Bool.true_and, Bool.false_and, Bool.and_false, Bool.and_self, Nat.reduceBEq, Nat.reduceAdd, Nat.reduceEqDiff, Nat.reduceLeDiff, Nat.reduceLT, Nat.zero_le, Nat.le_refl, if_true, if_false, ite_true, ite_false, true_and, and_true, true_or, or_true, not_false_eq_true, not_true_eq_false, e_set_self, Nat.succ_ne_zero, eq_self, p', q', e_set_slot, zero_01, one_01, e_b_0, e_b_01, or_self, or_false, false_or, R_1_0, R_1_1, R_1_2, R_1_3, R_1_4, R_1_5, R_1_6, R_32_0, R_32_1, R_32_2, R_36_0, R_36_1, R_36_2, R_36_3, R_37_0, R_37_1, R_37_2, R_68_0, R_70_0, R_164_0, R_164_1, R_164_3, R_164_5, R_164_6, R_164_7, R_164_8, R_164_10, R_164_11, R_2_4, R_2_5, ok_1, ok_32, ok_36, ok_37, ok_68, ok_70, ok_164, ok_2, ok_3, sz_3, ok_4, sz_4, ok_33, sz_33, ok_34, sz_34, ok_35, sz_35, ok_38, sz_38, ok_39, sz_39, ok_40, sz_40, ok_41, sz_41, ok_66, sz_66, ok_67, sz_67, ok_69, sz_69, ok_71, sz_71, ok_162, sz_162, ok_163, sz_163, ok_165, sz_165, ok_166, sz_166, ok_167, sz_167, ok_168, sz_168, ok_169, sz_169, ok_170, sz_170, ok_171, sz_171, ok_172, sz_172, ok_173, sz_173, tn_0, tn_1, tn_2, tn_3, tn_4, tn_5, tn_6, tn_7, tn_8, tn_9, tn_10, tn_11, tn_12, tn_13, tn_14, tn_15, tn_16, tn_17, tn_18, tn_19, tn_20, tn_21, tn_22, tn_23, tn_24, tn_25, tn_26, tn_27, in_0, in_1, in_2, in_3, in_4, in_5, in_6, in_7, in_8, in_9, in_10, in_11, in_12, in_13, in_14, in_15, in_16, in_17, in_18, in_19, in_20, in_21, in_22, in_23, in_24, in_25, in_26, in_27, e_rf_s]
          exact stC
      · have p' := eq_false p
        simp only [r_aload_n, r_bipush, r_dupa, r_dupi, r_getf0, r_getf1, r_getf2, r_goto, r_iadd, r_iconst, r_if_eq, r_if_ne, r_iload_n, r_irem, r_iret0, r_iret1, r_istore_n, r_nop, r_putf0, r_putf1, kX8_passMinute_0, kX8_passMinute_79, kX8_passMinute_137, kX8_passMinute_141, kX8_passMinute_142, lX8_passMinute_0, lX8_passMinute_33, lX8_passMinute_79, lX8_passMinute_80, lX8_passMinute_92, lX8_passMinute_103, lX8_passMinute_137, lX8_passMinute_141, lX8_passMinute_142, vX1_moveRegulators, vX1_releaseLocks, vX1_switchBankByFlow, vX1_switchBanksByTime, vX2_countBadNodes, vX2_solve, sl_n, sl_i, sl_r, sl_l, e_wi_s, e_wr_s, e_wl_s, e_lk, e_sto, e_ok, e_no, e_isL, Option.toList_some, Option.toList_none, List.cons_append, List.nil_append, List.length_cons, List.length_nil, Bool.not_false, Bool.not_true, Bool.and_true, Bool.true_and, Bool.false_and, Bool.and_false, Bool.and_self, Nat.reduceBEq, Nat.reduceAdd, Nat.reduceEqDiff, Nat.reduceLeDiff, Nat.reduceLT, Nat.zero_le, Nat.le_refl, if_true, if_false, ite_true, ite_false, true_and, and_true, true_or, or_true, not_false_eq_true, not_true_eq_false, e_set_self, Nat.succ_ne_zero, eq_self, p', e_set_slot, zero_01, one_01, e_b_0, e_b_01, or_self, or_false, false_or, R_1_0, R_1_1, R_1_2, R_1_3, R_1_4, R_1_5, R_1_6, R_32_0, R_32_1, R_32_2, R_36_0, R_36_1, R_36_2, R_36_3, R_37_0, R_37_1, R_37_2, R_68_0, R_70_0, R_164_0, R_164_1, R_164_3, R_164_5, R_164_6, R_164_7, R_164_8, R_164_10, R_164_11, R_2_4, R_2_5, ok_1, ok_32, ok_36, ok_37, ok_68, ok_70, ok_164, ok_2, ok_3, sz_3, ok_4, sz_4, ok_33, sz_33, ok_34, sz_34, ok_35, sz_35, ok_38, sz_38, ok_39, sz_39, ok_40, sz_40, ok_41, sz_41, ok_66, sz_66, ok_67, sz_67, ok_69, sz_69, ok_71, sz_71, ok_162, sz_162, ok_163, sz_163, ok_165, sz_165, ok_166, sz_166, ok_167, sz_167, ok_168, sz_168, ok_169, sz_169, ok_170, sz_170, ok_171, sz_171, ok_172, sz_172, ok_173, sz_173, tn_0, tn_1, tn_2, tn_3, tn_4, tn_5, tn_6, tn_7, tn_8, tn_9, tn_10, tn_11, tn_12, tn_13, tn_14, tn_15, tn_16, tn_17, tn_18, tn_19, tn_20, tn_21, tn_22, tn_23, tn_24, tn_25, tn_26, tn_27, in_0, in_1, in_2, in_3, in_4, in_5, in_6, in_7, in_8, in_9, in_10, in_11, in_12, in_13, in_14, in_15, in_16, in_17, in_18, in_19, in_20, in_21, in_22, in_23, in_24, in_25, in_26, in_27, e_rf_s]
        exact stC
    by_cases p : s = 0
    · have p' := eq_true p
      rw [e_b_t p] at stB
      simp only [r_aload_n, r_bipush, r_dupa, r_dupi, r_getf0, r_getf1, r_getf2, r_goto, r_iadd, r_iconst, r_if_eq, r_if_ne, r_iload_n, r_irem, r_iret0, r_iret1, r_istore_n, r_nop, r_putf0, r_putf1, kX8_passMinute_0, kX8_passMinute_79, kX8_passMinute_137, kX8_passMinute_141, kX8_passMinute_142, lX8_passMinute_0, lX8_passMinute_33, lX8_passMinute_79, lX8_passMinute_80, lX8_passMinute_92, lX8_passMinute_103, lX8_passMinute_137, lX8_passMinute_141, lX8_passMinute_142, vX1_moveRegulators, vX1_releaseLocks, vX1_switchBankByFlow, vX1_switchBanksByTime, vX2_countBadNodes, vX2_solve, sl_n, sl_i, sl_r, sl_l, e_wi_s, e_wr_s, e_wl_s, e_lk, e_sto, e_ok, e_no, e_isL, Option.toList_some, Option.toList_none, List.cons_append, List.nil_append, List.length_cons, List.length_nil, Bool.not_false, Bool.not_true, Bool.and_true, Bool.true_and, Bool.false_and, Bool.and_false, Bool.and_self, Nat.reduceBEq, Nat.reduceAdd, Nat.reduceEqDiff, Nat.reduceLeDiff, Nat.reduceLT, Nat.zero_le, Nat.le_refl, if_true, if_false, ite_true, ite_false, true_and, and_true, true_or, or_true, not_false_eq_true, not_true_eq_false, e_set_self, Nat.succ_ne_zero, eq_self, p', e_set_slot, zero_01, one_01, e_b_0, e_b_01, or_self, or_false, false_or, R_1_0, R_1_1, R_1_2, R_1_3, R_1_4, R_1_5, R_1_6, R_32_0, R_32_1, R_32_2, R_36_0, R_36_1, R_36_2, R_36_3, R_37_0, R_37_1, R_37_2, R_68_0, R_70_0, R_164_0, R_164_1, R_164_3, R_164_5, R_164_6, R_164_7, R_164_8, R_164_10, R_164_11, R_2_4, R_2_5, ok_1, ok_32, ok_36, ok_37, ok_68, ok_70, ok_164, ok_2, ok_3, sz_3, ok_4, sz_4, ok_33, sz_33, ok_34, sz_34, ok_35, sz_35, ok_38, sz_38, ok_39, sz_39, ok_40, sz_40, ok_41, sz_41, ok_66, sz_66, ok_67, sz_67, ok_69, sz_69, ok_71, sz_71, ok_162, sz_162, ok_163, sz_163, ok_165, sz_165, ok_166, sz_166, ok_167, sz_167, ok_168, sz_168, ok_169, sz_169, ok_170, sz_170, ok_171, sz_171, ok_172, sz_172, ok_173, sz_173, tn_0, tn_1, tn_2, tn_3, tn_4, tn_5, tn_6, tn_7, tn_8, tn_9, tn_10, tn_11, tn_12, tn_13, tn_14, tn_15, tn_16, tn_17, tn_18, tn_19, tn_20, tn_21, tn_22, tn_23, tn_24, tn_25, tn_26, tn_27, in_0, in_1, in_2, in_3, in_4, in_5, in_6, in_7, in_8, in_9, in_10, in_11, in_12, in_13, in_14, in_15, in_16, in_17, in_18, in_19, in_20, in_21, in_22, in_23, in_24, in_25, in_26, in_27, e_rf_s]
      exact stB
    · have p' := eq_false p
      rw [e_b_f p] at stB
      simp only [r_aload_n, r_bipush, r_dupa, r_dupi, r_getf0, r_getf1, r_getf2, r_goto, r_iadd, r_iconst, r_if_eq, r_if_ne, r_iload_n, r_irem, r_iret0, r_iret1, r_istore_n, r_nop, r_putf0, r_putf1, kX8_passMinute_0, kX8_passMinute_79, kX8_passMinute_137, kX8_passMinute_141, kX8_passMinute_142, lX8_passMinute_0, lX8_passMinute_33, lX8_passMinute_79, lX8_passMinute_80, lX8_passMinute_92, lX8_passMinute_103, lX8_passMinute_137, lX8_passMinute_141, lX8_passMinute_142, vX1_moveRegulators, vX1_releaseLocks, vX1_switchBankByFlow, vX1_switchBanksByTime, vX2_countBadNodes, vX2_solve, sl_n, sl_i, sl_r, sl_l, e_wi_s, e_wr_s, e_wl_s, e_lk, e_sto, e_ok, e_no, e_isL, Option.toList_some, Option.toList_none, List.cons_append, List.nil_append, List.length_cons, List.length_nil, Bool.not_false, Bool.not_true, Bool.and_true, Bool.true_and, Bool.false_and, Bool.and_false, Bool.and_self, Nat.reduceBEq, Nat.reduceAdd, Nat.reduceEqDiff, Nat.reduceLeDiff, Nat.reduceLT, Nat.zero_le, Nat.le_refl, if_true, if_false, ite_true, ite_false, true_and, and_true, true_or, or_true, not_false_eq_true, not_true_eq_false, e_set_self, Nat.succ_ne_zero, eq_self, p', e_set_slot, zero_01, one_01, e_b_0, e_b_01, or_self, or_false, false_or, R_1_0, R_1_1, R_1_2, R_1_3, R_1_4, R_1_5, R_1_6, R_32_0, R_32_1, R_32_2, R_36_0, R_36_1, R_36_2, R_36_3, R_37_0, R_37_1, R_37_2, R_68_0, R_70_0, R_164_0, R_164_1, R_164_3, R_164_5, R_164_6, R_164_7, R_164_8, R_164_10, R_164_11, R_2_4, R_2_5, ok_1, ok_32, ok_36, ok_37, ok_68, ok_70, ok_164, ok_2, ok_3, sz_3, ok_4, sz_4, ok_33, sz_33, ok_34, sz_34, ok_35, sz_35, ok_38, sz_38, ok_39, sz_39, ok_40, sz_40, ok_41, sz_41, ok_66, sz_66, ok_67, sz_67, ok_69, sz_69, ok_71, sz_71, ok_162, sz_162, ok_163, sz_163, ok_165, sz_165, ok_166, sz_166, ok_167, sz_167, ok_168, sz_168, ok_169, sz_169, ok_170, sz_170, ok_171, sz_171, ok_172, sz_172, ok_173, sz_173, tn_0, tn_1, tn_2, tn_3, tn_4, tn_5, tn_6, tn_7, tn_8, tn_9, tn_10, tn_11, tn_12, tn_13, tn_14, tn_15, tn_16, tn_17, tn_18, tn_19, tn_20, tn_21, tn_22, tn_23, tn_24, tn_25, tn_26, tn_27, in_0, in_1, in_2, in_3, in_4, in_5, in_6, in_7, in_8, in_9, in_10, in_11, in_12, in_13, in_14, in_15, in_16, in_17, in_18, in_19, in_20, in_21, in_22, in_23, in_24, in_25, in_26, in_27, e_rf_s]
      exact stB
  have f0 : Fc m (e_set m 2 0 (nI (t + 1))) := Fc.rf.set (by decide) (by decide)
  have k0 : e_set m 2 0 (nI (t + 1)) 2 2 = nI n := by rw [e_set_slot (by decide)]; exact hc
  have v0 : vw 2 (e_set m 2 0 (nI (t + 1))) = e_set w 0 0 (nI (t + 1)) := by rw [vu_g0, hw]
  by_cases p : (t + 1) % 60 = 0
  · rw [if_pos p] at stA
    rw [p] at a2
    have z0 : (nI 0 = 0) = True := by decide
    simp only [r_aload_n, r_bipush, r_dupa, r_dupi, r_getf0, r_getf1, r_getf2, r_goto, r_iadd, r_iconst, r_if_eq, r_if_ne, r_iload_n, r_irem, r_iret0, r_iret1, r_istore_n, r_nop, r_putf0, r_putf1, kX8_passMinute_0, kX8_passMinute_79, kX8_passMinute_137, kX8_passMinute_141, kX8_passMinute_142, lX8_passMinute_0, lX8_passMinute_33, lX8_passMinute_79, lX8_passMinute_80, lX8_passMinute_92, lX8_passMinute_103, lX8_passMinute_137, lX8_passMinute_141, lX8_passMinute_142, vX1_moveRegulators, vX1_releaseLocks, vX1_switchBankByFlow, vX1_switchBanksByTime, vX2_countBadNodes, vX2_solve, sl_n, sl_i, sl_r, sl_l, e_wi_s, e_wr_s, e_wl_s, e_lk, e_sto, e_ok, e_no, e_isL, Option.toList_some, Option.toList_none, List.cons_append, List.nil_append, List.length_cons, List.length_nil, Bool.not_false, Bool.not_true, Bool.and_true, Bool.true_and, Bool.false_and, Bool.and_false, Bool.and_self, Nat.reduceBEq, Nat.reduceAdd, Nat.reduceEqDiff, Nat.reduceLeDiff, Nat.reduceLT, Nat.zero_le, Nat.le_refl, if_true, if_false, ite_true, ite_false, true_and, and_true, true_or, or_true, not_false_eq_true, not_true_eq_false, e_set_self, Nat.succ_ne_zero, eq_self, ht, a1, n60, a2, e_set_self, z0, e_set_slot, zero_01, one_01, e_b_0, e_b_01, or_self, or_false, false_or, R_1_0, R_1_1, R_1_2, R_1_3, R_1_4, R_1_5, R_1_6, R_32_0, R_32_1, R_32_2, R_36_0, R_36_1, R_36_2, R_36_3, R_37_0, R_37_1, R_37_2, R_68_0, R_70_0, R_164_0, R_164_1, R_164_3, R_164_5, R_164_6, R_164_7, R_164_8, R_164_10, R_164_11, R_2_4, R_2_5, ok_1, ok_32, ok_36, ok_37, ok_68, ok_70, ok_164, ok_2, ok_3, sz_3, ok_4, sz_4, ok_33, sz_33, ok_34, sz_34, ok_35, sz_35, ok_38, sz_38, ok_39, sz_39, ok_40, sz_40, ok_41, sz_41, ok_66, sz_66, ok_67, sz_67, ok_69, sz_69, ok_71, sz_71, ok_162, sz_162, ok_163, sz_163, ok_165, sz_165, ok_166, sz_166, ok_167, sz_167, ok_168, sz_168, ok_169, sz_169, ok_170, sz_170, ok_171, sz_171, ok_172, sz_172, ok_173, sz_173, tn_0, tn_1, tn_2, tn_3, tn_4, tn_5, tn_6, tn_7, tn_8, tn_9, tn_10, tn_11, tn_12, tn_13, tn_14, tn_15, tn_16, tn_17, tn_18, tn_19, tn_20, tn_21, tn_22, tn_23, tn_24, tn_25, tn_26, tn_27, in_0, in_1, in_2, in_3, in_4, in_5, in_6, in_7, in_8, in_9, in_10, in_11, in_12, in_13, in_14, in_15, in_16, in_17, in_18, in_19, in_20, in_21, in_22, in_23, in_24, in_25, in_26, in_27, e_rf_s]
    refine c_X1_releaseLocks hn k0 (fun m1 f1 v1 => ?_)
    rw [v0] at v1
    simp only [r_aload_n, r_bipush, r_dupa, r_dupi, r_getf0, r_getf1, r_getf2, r_goto, r_iadd, r_iconst, r_if_eq, r_if_ne, r_iload_n, r_irem, r_iret0, r_iret1, r_istore_n, r_nop, r_putf0, r_putf1, kX8_passMinute_0, kX8_passMinute_79, kX8_passMinute_137, kX8_passMinute_141, kX8_passMinute_142, lX8_passMinute_0, lX8_passMinute_33, lX8_passMinute_79, lX8_passMinute_80, lX8_passMinute_92, lX8_passMinute_103, lX8_passMinute_137, lX8_passMinute_141, lX8_passMinute_142, vX1_moveRegulators, vX1_releaseLocks, vX1_switchBankByFlow, vX1_switchBanksByTime, vX2_countBadNodes, vX2_solve, sl_n, sl_i, sl_r, sl_l, e_wi_s, e_wr_s, e_wl_s, e_lk, e_sto, e_ok, e_no, e_isL, Option.toList_some, Option.toList_none, List.cons_append, List.nil_append, List.length_cons, List.length_nil, Bool.not_false, Bool.not_true, Bool.and_true, Bool.true_and, Bool.false_and, Bool.and_false, Bool.and_self, Nat.reduceBEq, Nat.reduceAdd, Nat.reduceEqDiff, Nat.reduceLeDiff, Nat.reduceLT, Nat.zero_le, Nat.le_refl, if_true, if_false, ite_true, ite_false, true_and, and_true, true_or, or_true, not_false_eq_true, not_true_eq_false, e_set_self, Nat.succ_ne_zero, eq_self, e_set_slot, zero_01, one_01, e_b_0, e_b_01, or_self, or_false, false_or, R_1_0, R_1_1, R_1_2, R_1_3, R_1_4, R_1_5, R_1_6, R_32_0, R_32_1, R_32_2, R_36_0, R_36_1, R_36_2, R_36_3, R_37_0, R_37_1, R_37_2, R_68_0, R_70_0, R_164_0, R_164_1, R_164_3, R_164_5, R_164_6, R_164_7, R_164_8, R_164_10, R_164_11, R_2_4, R_2_5, ok_1, ok_32, ok_36, ok_37, ok_68, ok_70, ok_164, ok_2, ok_3, sz_3, ok_4, sz_4, ok_33, sz_33, ok_34, sz_34, ok_35, sz_35, ok_38, sz_38, ok_39, sz_39, ok_40, sz_40, ok_41, sz_41, ok_66, sz_66, ok_67, sz_67, ok_69, sz_69, ok_71, sz_71, ok_162, sz_162, ok_163, sz_163, ok_165, sz_165, ok_166, sz_166, ok_167, sz_167, ok_168, sz_168, ok_169, sz_169, ok_170, sz_170, ok_171, sz_171, ok_172, sz_172, ok_173, sz_173, tn_0, tn_1, tn_2, tn_3, tn_4, tn_5, tn_6, tn_7, tn_8, tn_9, tn_10, tn_11, tn_12, tn_13, tn_14, tn_15, tn_16, tn_17, tn_18, tn_19, tn_20, tn_21, tn_22, tn_23, tn_24, tn_25, tn_26, tn_27, in_0, in_1, in_2, in_3, in_4, in_5, in_6, in_7, in_8, in_9, in_10, in_11, in_12, in_13, in_14, in_15, in_16, in_17, in_18, in_19, in_20, in_21, in_22, in_23, in_24, in_25, in_26, in_27, e_rf_s]
    exact stA m1 (f0.tr f1.fc) v1 (by rw [f1 2 (by omega)]; exact k0) (by rw [f1 2 (by omega), e_set_self])
  · rw [if_neg p] at stA
    have z0 : (nI ((t + 1) % 60) = 0) = False := eq_false (fun h => p (by
      have h2 : (nI ((t + 1) % 60)).toNatClampNeg = (t + 1) % 60 := nI_nat (by omega)
      rw [h] at h2
      exact h2.symm))
    simp only [r_aload_n, r_bipush, r_dupa, r_dupi, r_getf0, r_getf1, r_getf2, r_goto, r_iadd, r_iconst, r_if_eq, r_if_ne, r_iload_n, r_irem, r_iret0, r_iret1, r_istore_n, r_nop, r_putf0, r_putf1, kX8_passMinute_0, kX8_passMinute_79, kX8_passMinute_137, kX8_passMinute_141, kX8_passMinute_142, lX8_passMinute_0, lX8_passMinute_33, lX8_passMinute_79, lX8_passMinute_80, lX8_passMinute_92, lX8_passMinute_103, lX8_passMinute_137, lX8_passMinute_141, lX8_passMinute_142, vX1_moveRegulators, vX1_releaseLocks, vX1_switchBankByFlow, vX1_switchBanksByTime, vX2_countBadNodes, vX2_solve, sl_n, sl_i, sl_r, sl_l, e_wi_s, e_wr_s, e_wl_s, e_lk, e_sto, e_ok, e_no, e_isL, Option.toList_some, Option.toList_none, List.cons_append, List.nil_append, List.length_cons, List.length_nil, Bool.not_false, Bool.not_true, Bool.and_true, Bool.true_and, Bool.false_and, Bool.and_false, Bool.and_self, Nat.reduceBEq, Nat.reduceAdd, Nat.reduceEqDiff, Nat.reduceLeDiff, Nat.reduceLT, Nat.zero_le, Nat.le_refl, if_true, if_false, ite_true, ite_false, true_and, and_true, true_or, or_true, not_false_eq_true, not_true_eq_false, e_set_self, Nat.succ_ne_zero, eq_self, ht, a1, n60, a2, e_set_self, z0, e_set_slot, zero_01, one_01, e_b_0, e_b_01, or_self, or_false, false_or, R_1_0, R_1_1, R_1_2, R_1_3, R_1_4, R_1_5, R_1_6, R_32_0, R_32_1, R_32_2, R_36_0, R_36_1, R_36_2, R_36_3, R_37_0, R_37_1, R_37_2, R_68_0, R_70_0, R_164_0, R_164_1, R_164_3, R_164_5, R_164_6, R_164_7, R_164_8, R_164_10, R_164_11, R_2_4, R_2_5, ok_1, ok_32, ok_36, ok_37, ok_68, ok_70, ok_164, ok_2, ok_3, sz_3, ok_4, sz_4, ok_33, sz_33, ok_34, sz_34, ok_35, sz_35, ok_38, sz_38, ok_39, sz_39, ok_40, sz_40, ok_41, sz_41, ok_66, sz_66, ok_67, sz_67, ok_69, sz_69, ok_71, sz_71, ok_162, sz_162, ok_163, sz_163, ok_165, sz_165, ok_166, sz_166, ok_167, sz_167, ok_168, sz_168, ok_169, sz_169, ok_170, sz_170, ok_171, sz_171, ok_172, sz_172, ok_173, sz_173, tn_0, tn_1, tn_2, tn_3, tn_4, tn_5, tn_6, tn_7, tn_8, tn_9, tn_10, tn_11, tn_12, tn_13, tn_14, tn_15, tn_16, tn_17, tn_18, tn_19, tn_20, tn_21, tn_22, tn_23, tn_24, tn_25, tn_26, tn_27, in_0, in_1, in_2, in_3, in_4, in_5, in_6, in_7, in_8, in_9, in_10, in_11, in_12, in_13, in_14, in_15, in_16, in_17, in_18, in_19, in_20, in_21, in_22, in_23, in_24, in_25, in_26, in_27, e_rf_s]
    exact stA _ f0 v0 k0 (by rw [e_set_self])
end P21
