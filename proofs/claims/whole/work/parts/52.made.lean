/-! what the constructors make -/
def bD (x : Option e_Rd) : e_Dm := match x with
  | some (_, D) => D
  | none => (0, [], [])
def vD (x : Option e_Rd) : Bool := match x with
  | some (none, _) => true
  | _ => false
theorem vD_some {x : Option e_Rd} (h : vD x = true) : x = some (none, bD x) := by
  rcases x with _ | ⟨_ | v, D⟩
  · cases h
  · rfl
  · cases h
def c8D : Option e_Rd := e_evD 2000 kX8_init_0 [(0, .ref (1 : Nat))] [] (1, [], [])
def c9D : Option e_Rd := e_evD 2000 kX9_init_0 [(0, .ref (164 : Nat))] [] (164, (bD c8D).2.1, (bD c8D).2.2)
def i2L : List (Nat × Nat × Int32) := [(165, 27, 100), (165, 26, 100), (165, 25, 100), (165, 24, 100), (165, 23, 100), (165, 22, 100), (165, 21, 100), (165, 20, 100), (165, 19, 100), (165, 18, 100), (165, 17, 100), (165, 16, 100), (165, 15, 100), (165, 14, 100), (165, 13, 100), (165, 12, 100), (165, 11, 100), (165, 10, 100), (165, 9, 100), (165, 8, 100), (165, 7, 100), (165, 6, 100), (165, 5, 100), (165, 4, 100), (165, 1, 10000), (133, 23, 100), (133, 22, 100), (133, 21, 100), (133, 20, 100), (133, 19, 100), (133, 18, 100), (133, 17, 100), (133, 16, 100), (133, 15, 100), (133, 14, 100), (133, 13, 100), (133, 12, 100), (133, 11, 100), (133, 10, 100), (133, 9, 100), (133, 8, 100), (133, 7, 100), (133, 6, 100), (133, 5, 100), (133, 4, 100), (133, 3, 100), (133, 2, 100), (133, 1, 100), (133, 0, 100), (132, 1, 10000), (103, 23, 100), (103, 22, 100), (103, 21, 100), (103, 20, 100), (103, 19, 100), (103, 18, 100), (103, 17, 100), (103, 16, 100), (103, 15, 100), (103, 14, 100), (103, 13, 100), (103, 12, 100), (103, 11, 100), (103, 10, 100), (103, 9, 100), (103, 8, 100), (103, 7, 100), (103, 6, 100), (103, 5, 100), (103, 4, 100), (103, 3, 100), (103, 2, 100), (103, 1, 100), (103, 0, 100), (102, 1, 10000), (73, 23, 100), (73, 22, 100), (73, 21, 100), (73, 20, 100), (73, 19, 100), (73, 18, 100), (73, 17, 100), (73, 16, 100), (73, 15, 100), (73, 14, 100), (73, 13, 100), (73, 12, 100), (73, 11, 100), (73, 10, 100), (73, 9, 100), (73, 8, 100), (73, 7, 100), (73, 6, 100), (73, 5, 100), (73, 4, 100), (73, 3, 100), (73, 2, 100), (73, 1, 100), (73, 0, 100), (72, 1, 10000), (3, 23, 100), (3, 22, 100), (3, 21, 100), (3, 20, 100), (3, 19, 100), (3, 18, 100), (3, 17, 100), (3, 16, 100), (3, 15, 100), (3, 14, 100), (3, 13, 100), (3, 12, 100), (3, 11, 100), (3, 10, 100), (3, 9, 100), (3, 8, 100), (3, 7, 100), (3, 6, 100), (3, 5, 100), (3, 4, 100), (3, 3, 100), (3, 2, 100), (3, 1, 100), (3, 0, 100), (2, 1, 10000)]
def r2L : List (Nat × Nat × Nat) := [(164, 11, 173), (164, 10, 172), (164, 8, 171), (164, 7, 170), (164, 6, 169), (164, 5, 168), (164, 3, 167), (164, 1, 166), (164, 0, 165), (1, 6, 163), (1, 5, 162), (1, 4, 70), (71, 2, 132), (134, 8, 159), (159, 5, 161), (159, 4, 160), (134, 7, 156), (156, 5, 158), (156, 4, 157), (134, 6, 153), (153, 5, 155), (153, 4, 154), (134, 5, 150), (150, 5, 152), (150, 4, 151), (134, 4, 147), (147, 5, 149), (147, 4, 148), (134, 3, 144), (144, 5, 146), (144, 4, 145), (134, 2, 141), (141, 5, 143), (141, 4, 142), (134, 1, 138), (138, 5, 140), (138, 4, 139), (134, 0, 135), (135, 5, 137), (135, 4, 136), (132, 5, 134), (132, 4, 133), (71, 1, 102), (104, 8, 129), (129, 5, 131), (129, 4, 130), (104, 7, 126), (126, 5, 128), (126, 4, 127), (104, 6, 123), (123, 5, 125), (123, 4, 124), (104, 5, 120), (120, 5, 122), (120, 4, 121), (104, 4, 117), (117, 5, 119), (117, 4, 118), (104, 3, 114), (114, 5, 116), (114, 4, 115), (104, 2, 111), (111, 5, 113), (111, 4, 112), (104, 1, 108), (108, 5, 110), (108, 4, 109), (104, 0, 105), (105, 5, 107), (105, 4, 106), (102, 5, 104), (102, 4, 103), (71, 0, 72), (74, 8, 99), (99, 5, 101), (99, 4, 100), (74, 7, 96), (96, 5, 98), (96, 4, 97), (74, 6, 93), (93, 5, 95), (93, 4, 94), (74, 5, 90), (90, 5, 92), (90, 4, 91), (74, 4, 87), (87, 5, 89), (87, 4, 88), (74, 3, 84), (84, 5, 86), (84, 4, 85), (74, 2, 81), (81, 5, 83), (81, 4, 82), (74, 1, 78), (78, 5, 80), (78, 4, 79), (74, 0, 75), (75, 5, 77), (75, 4, 76), (72, 5, 74), (72, 4, 73), (70, 0, 71), (1, 3, 68), (68, 0, 69), (1, 2, 36), (36, 3, 67), (36, 2, 66), (36, 1, 41), (41, 23, 65), (41, 22, 64), (41, 21, 63), (41, 20, 62), (41, 19, 61), (41, 18, 60), (41, 17, 59), (41, 16, 58), (41, 15, 57), (41, 14, 56), (41, 13, 55), (41, 12, 54), (41, 11, 53), (41, 10, 52), (41, 9, 51), (41, 8, 50), (41, 7, 49), (41, 6, 48), (41, 5, 47), (41, 4, 46), (41, 3, 45), (41, 2, 44), (41, 1, 43), (41, 0, 42), (36, 0, 37), (37, 2, 40), (37, 1, 39), (37, 0, 38), (1, 1, 32), (32, 2, 35), (32, 1, 34), (32, 0, 33), (1, 0, 2), (4, 8, 29), (29, 5, 31), (29, 4, 30), (4, 7, 26), (26, 5, 28), (26, 4, 27), (4, 6, 23), (23, 5, 25), (23, 4, 24), (4, 5, 20), (20, 5, 22), (20, 4, 21), (4, 4, 17), (17, 5, 19), (17, 4, 18), (4, 3, 14), (14, 5, 16), (14, 4, 15), (4, 2, 11), (11, 5, 13), (11, 4, 12), (4, 1, 8), (8, 5, 10), (8, 4, 9), (4, 0, 5), (5, 5, 7), (5, 4, 6), (2, 5, 4), (2, 4, 3)]
def eqD (x : Option e_Rd) : Bool := match x with
  | some (none, (n, i, r)) => n == 173 && (i == i2L && r == r2L)
  | _ => false
theorem eqD_some {x : Option e_Rd} (h : eqD x = true) : x = some (none, (173, i2L, r2L)) := by
  rcases x with _ | ⟨_ | v, n, i, r⟩
  · cases h
  · have h := (Bool.and_eq_true _ _).mp (show (n == 173 && (i == i2L && r == r2L)) = true from h)
    have h2 := (Bool.and_eq_true _ _).mp h.2
    rw [eq_of_beq h.1, eq_of_beq h2.1, eq_of_beq h2.2]
  · cases h
theorem mk8 : (vD c8D && (bD c8D).1 == 163) = true := by decide +kernel
theorem mk9 : eqD c9D = true := by decide +kernel
def sv0 : Nat → Nat := fun i => 72 + 30 * i
theorem sv0_ok : Sv sv0 := by
  refine ⟨fun i hi => ?_, by decide, by decide, by decide⟩
  have : i = 0 ∨ i = 1 ∨ i = 2 := by omega
  rcases this with rfl | rfl | rfl
  · exact ⟨Or.inr (Or.inl rfl), by decide⟩
  · exact ⟨Or.inr (Or.inr (Or.inl rfl)), by decide⟩
  · exact ⟨Or.inr (Or.inr (Or.inr rfl)), by decide⟩
theorem mkB : (r2L.all fun e => decide (e.1 < 174) && (decide (e.2.1 < 33) && e_rs sv0 e.1 e.2.1 == e.2.2)) = true := by decide +kernel
theorem mkR : ((List.range 174).all fun c => (List.range 33).all fun k => e_rs sv0 c k == 0 || r2L.any fun e => c == e.1 && k == e.2.1) = true := by decide +kernel
theorem mkI1 : ((List.range 28).all fun i => decide (vw 2 (dI i2L) 0 i = mw 165 0 (dI i2L) 0 i)) = true := by decide +kernel
theorem mkI2 : ((List.range 24).all fun h => decide (dI i2L 3 h = 100)) = true := by decide +kernel
theorem mkI3 : ((List.range 9).all fun k => (List.range 24).all fun i => decide (k = 0) || decide (vw 2 (dI i2L) k i = 0)) = true := by decide +kernel
theorem mkI4 : (decide (dI i2L 2 1 = 10000) && decide (dI i2L 2 2 = 0) && decide (dI i2L 2 0 = 0) && decide (dI i2L 70 1 = 0) && decide (dI i2L 164 2 = 0) && decide (dI i2L 68 1 = 0) && decide (dI i2L 164 4 = 0)) = true := by decide +kernel
theorem mkI5 : ((List.range 5).all fun i => decide (dI i2L 163 i = dI i2L 168 (i + 2))) = true := by decide +kernel
theorem all_rg {n : Nat} {f : Nat → Bool} (h : (List.range n).all f = true) : ∀ i, i < n → f i = true := fun i hi => (List.all_eq_true.mp h) i (List.mem_range.mpr hi)
theorem dR_is {c k x : Nat} : ∀ t : List (Nat × Nat × Nat), (∀ e, e ∈ t → c = e.1 → k = e.2.1 → e.2.2 = x) → (∃ e, e ∈ t ∧ c = e.1 ∧ k = e.2.1) → dR t c k = x
  | [], _, h => by obtain ⟨e, he, _⟩ := h; cases he
  | (c', k', v) :: t, h1, h2 => by
    rw [dR]
    unfold e_set
    by_cases q : c = c' ∧ k = k'
    · rw [if_pos q]
      exact h1 (c', k', v) (List.mem_cons_self ..) q.1 q.2
    · rw [if_neg q]
      refine dR_is t (fun e he => h1 e (List.mem_cons_of_mem _ he)) ?_
      obtain ⟨e, he, a, b⟩ := h2
      rcases List.mem_cons.mp he with r | r
      · rw [r] at a b
        exact absurd ⟨a, b⟩ q
      · exact ⟨e, r, a, b⟩
theorem dR_no {c k : Nat} : ∀ t : List (Nat × Nat × Nat), (∀ e, e ∈ t → ¬ (c = e.1 ∧ k = e.2.1)) → dR t c k = 0
  | [], _ => rfl
  | (c', k', v) :: t, h => by
    rw [dR]
    unfold e_set
    rw [if_neg (h (c', k', v) (List.mem_cons_self ..))]
    exact dR_no t (fun e he => h e (List.mem_cons_of_mem _ he))
theorem rl_len {c : Nat} : (e_rl c).length ≤ 24 ∧ (174 ≤ c → e_rl c = []) := by
  unfold e_rl
  split <;> exact ⟨by decide, fun h => by first | rfl | omega⟩
theorem rs_hi {c k : Nat} (h : 174 ≤ c ∨ 33 ≤ k) : e_rs sv0 c k = 0 := by
  have hl := rl_len (c := c)
  have hg : (e_rl c).getD k 0 = 0 := by
    rcases h with h | h
    · rw [hl.2 h]; rfl
    · rw [List.getD_eq_getElem?_getD, List.getElem?_eq_none (by omega)]; rfl
  unfold e_rs
  by_cases q : c = 71
  · rw [if_pos q, if_neg (by omega)]
  · rw [if_neg q]
    unfold e_R0
    rw [hg]
    unfold e_blk
    rcases h with h | h
    · rw [if_neg (by omega), if_neg (by omega), if_neg (by omega), if_neg (by omega)]
    · have a1 : ¬ k = 4 := by omega
      have a2 : ¬ k = 5 := by omega
      have a3 : ¬ k < 9 := by omega
      simp only [a1, a2, a3, if_false, ite_self]
theorem mk_refs : dR r2L = e_rs sv0 := by
  have hB := mkB
  have hR := mkR
  generalize r2L = t at hB hR
  have hb : ∀ e, e ∈ t → e.1 < 174 ∧ e.2.1 < 33 ∧ e_rs sv0 e.1 e.2.1 = e.2.2 := fun e he => by
    have b := List.all_eq_true.mp hB e he
    have b := (Bool.and_eq_true _ _).mp b
    have b2 := (Bool.and_eq_true _ _).mp b.2
    exact ⟨of_decide_eq_true b.1, of_decide_eq_true b2.1, eq_of_beq b2.2⟩
  funext c k
  by_cases q : ∃ e, e ∈ t ∧ c = e.1 ∧ k = e.2.1
  · exact dR_is t (fun e he h1 h2 => by rw [h1, h2]; exact (hb e he).2.2.symm) q
  · rw [dR_no t (fun e he z => q ⟨e, he, z⟩)]
    by_cases w : c < 174 ∧ k < 33
    · have e := all_rg (all_rg hR c w.1) k w.2
      rcases (Bool.or_eq_true _ _).mp e with u | u
      · exact (eq_of_beq u).symm
      · obtain ⟨e, he, z⟩ := List.any_eq_true.mp u
        have z := (Bool.and_eq_true _ _).mp z
        exact absurd ⟨e, he, eq_of_beq z.1, eq_of_beq z.2⟩ q
    · exact (rs_hi (by omega)).symm
theorem mk_rel : Rl 0 sv0 (dI i2L) := by
  have h1 := mkI1
  have h2 := mkI2
  have h4 := mkI3
  have h := mkI4
  have h11 := mkI5
  generalize dI i2L = m at h h1 h2 h4 h11
  simp only [Bool.and_eq_true, decide_eq_true_eq] at h
  obtain ⟨⟨⟨⟨⟨⟨h3, h5⟩, h6⟩, h7⟩, h8⟩, h9⟩, h10⟩ := h
  have r0 : vw 2 m 0 = mw 165 0 m 0 := by
    funext i
    by_cases q : i < 28
    · exact of_decide_eq_true (all_rg h1 i q)
    · have e : ¬ e_valb 0 i = true := fun z => by
        rcases e_valb_iff.mp z with w | w <;> omega
      unfold vw mw
      rw [if_neg e, if_neg e]
  have rk : ∀ k, 0 < k → ∀ i, vw 2 m k i = 0 := fun k hk i => by
    by_cases q : k < 9 ∧ i < 24
    · have e := all_rg (all_rg h4 k q.1) i q.2
      rcases (Bool.or_eq_true _ _).mp e with w | w
      · have := of_decide_eq_true w; omega
      · exact of_decide_eq_true w
    · have e : ¬ e_valb k i = true := fun z => by
        rcases e_valb_iff.mp z with w | w <;> omega
      unfold vw
      rw [if_neg e]
  refine ⟨sv0_ok, ⟨0, 0, Nat.zero_le _, Nat.le_refl _, ?_, ?_, fun k hk => ?_, ⟨⟨?_, fun t ht => ?_⟩, fun k a b => by omega⟩, rk⟩, ⟨0, by decide, ?_, ?_, fun i hi => by omega⟩, ⟨0, by decide, ?_, ?_, fun i hi => by omega⟩, fun i hi => of_decide_eq_true (all_rg h11 i hi)⟩
  · rw [vr_g2, h5]; rfl
  · rw [vr_g0, h6]; rfl
  · have : k = 0 := by omega
    rw [this]; exact r0
  · rw [vr_g1, h3]; exact ⟨by decide, by decide⟩
  · rw [vr_f (B := 2) ht]
    have e : m (2 + 1) t = 100 := of_decide_eq_true (all_rg h2 t ht)
    rw [e]; exact ⟨by decide, by decide⟩
  · rw [h7]; rfl
  · rw [h8]; rfl
  · rw [h9]; rfl
  · rw [h10]; rfl
section P52
variable {xs : Nat → Int32} {L : Nat} {Q : e_Rs → Prop}
theorem wpD {f : Nat} {is : List e_Op} {lv : e_Lv} {st : List Value} {D D' : e_Dm} {r : Option Value} (h : e_evD f is lv st D = some (r, D')) (ok : okD D) (hq : okD D' → Q (r, den D')) : Wp xs L is lv st (den D) Q :=
  have q := evD (xs := xs) (L := L) f is lv st D r D' ok h
  ⟨f, _, q.1, hq q.2⟩
theorem ok_nil {n : Nat} : okD (n, [], []) := ⟨fun e he => (nomatch he), fun e he => (nomatch he)⟩
theorem law_start1 {D1 D2 : e_Dm} (h1 : e_evD 2000 kX8_init_0 [(0, .ref (1 : Nat))] [] (1, [], []) = some (none, D1)) (n1 : D1.1 = 163) (h2 : e_evD 2000 kX9_init_0 [(0, .ref (164 : Nat))] [] (164, D1.2.1, D1.2.2) = some (none, D2)) (n2 : D2.1 = 173)
    (hQ : Wp xs L kL_law_18 [(0, .ref (0 : Nat)), (1, .ref (1 : Nat)), (2, .ref (164 : Nat)), (3, .int 0)] [] (173, dI D2.2.1, dR D2.2.2) Q) : Wp xs L kL_law_0 [(0, .ref (0 : Nat))] [] e_M0 Q := by
  obtain ⟨a1, i1, r1⟩ := D1
  obtain ⟨a2, i2, r2⟩ := D2
  dsimp only at n1 n2 h2 hQ
  subst n1
  subst n2
  have s1 := oneD (xs := xs) (L := L) (op := (0, .new 7, 0, 8, 7, 0)) (lv := [(0, .ref (0 : Nat))]) (st := []) (D := (0, [], [])) (z := (none, [(0, .ref (0 : Nat))], [.ref (1 : Nat)], (1, [], []))) (by simp only [e_oneD]; exact if_pos (by decide)) ok_nil
  have z0 : e_M0 = den (0, [], []) := rfl
  rw [kL_law_0, z0, Wp_one rfl, s1.1]
  show Wp xs L _ [(0, .ref (0 : Nat))] [.ref (1 : Nat)] (den (1, [], [])) Q
  rw [r_dupa]
  refine Eq.mpr (Wp_call (As := [.ref (1 : Nat)]) (rest := [.ref (1 : Nat)]) (Nat.le_of_ble_eq_true rfl) rfl (Nat.le_of_ble_eq_true rfl) (fun _ => rfl) (Nat.le_of_ble_eq_true rfl)) ?_
  show Wp xs L (e_lbl 185) [(0, .ref (1 : Nat))] [] (den (1, [], [])) _
  rw [lX8_init_0]
  refine wpD h1 ok_nil (fun ok1 => ?_)
  show Wp xs L _ [(0, .ref (0 : Nat))] [.ref (1 : Nat)] (den (163, i1, r1)) Q
  rw [r_astore_n (by decide)]
  show Wp xs L _ [(0, .ref (0 : Nat)), (1, .ref (1 : Nat))] [] (den (163, i1, r1)) Q
  have s2 := oneD (xs := xs) (L := L) (op := (8, .new 10, 0, 9, 12, 0)) (lv := [(0, .ref (0 : Nat)), (1, .ref (1 : Nat))]) (st := []) (D := (163, i1, r1)) (z := (none, [(0, .ref (0 : Nat)), (1, .ref (1 : Nat))], [.ref (164 : Nat)], (164, i1, r1))) (by simp only [e_oneD]; exact if_pos (by decide)) ok1
  rw [Wp_one rfl, s2.1]
  show Wp xs L _ [(0, .ref (0 : Nat)), (1, .ref (1 : Nat))] [.ref (164 : Nat)] (den (164, i1, r1)) Q
  rw [r_dupa]
  refine Eq.mpr (Wp_call (As := [.ref (164 : Nat)]) (rest := [.ref (164 : Nat)]) (Nat.le_of_ble_eq_true rfl) rfl (Nat.le_of_ble_eq_true rfl) (fun _ => rfl) (Nat.le_of_ble_eq_true rfl)) ?_
  show Wp xs L (e_lbl 316) [(0, .ref (164 : Nat))] [] (den (164, i1, r1)) _
  rw [lX9_init_0]
  refine wpD h2 s2.2 (fun _ => ?_)
  show Wp xs L _ [(0, .ref (0 : Nat)), (1, .ref (1 : Nat))] [.ref (164 : Nat)] (den (173, i2, r2)) Q
  rw [r_astore_n (by decide)]
  show Wp xs L _ [(0, .ref (0 : Nat)), (1, .ref (1 : Nat)), (2, .ref (164 : Nat))] [] (den (173, i2, r2)) Q
  rw [r_iconst, r_istore_n (by decide), r_nop, lL_law_18]
  exact hQ
theorem law_start (hQ : ∀ m, Rl 0 sv0 m → Wp xs L kL_law_18 [(0, .ref (0 : Nat)), (1, .ref (1 : Nat)), (2, .ref (164 : Nat)), (3, .int 0)] [] (173, m, e_rs sv0) Q) : Wp xs L kL_law_0 [(0, .ref (0 : Nat))] [] e_M0 Q := by
  have h8 := (Bool.and_eq_true _ _).mp mk8
  have h9 := eqD_some mk9
  have fin := hQ _ mk_rel
  rw [← mk_refs] at fin
  have e8 := vD_some h8.1
  have n8 := eq_of_beq h8.2
  unfold c9D at h9
  generalize bD c8D = D1 at e8 n8 h9
  unfold c8D at e8
  exact law_start1 (D1 := D1) (D2 := (173, i2L, r2L)) e8 n8 h9 rfl fin
end P52
