/-! the plain machine as equations: Wp is lv st M Q: it comes to an end that Q holds of -/
def Wp (xs : Nat → Int32) (L : Nat) (is : List e_Op) (lv : e_Lv) (st : List Value) (M : e_Mem) (Q : e_Rs → Prop) : Prop := ∃ f res, e_ev xs L f is lv st M = some res ∧ Q res
theorem e_ev_more {xs : Nat → Int32} {L : Nat} : ∀ (f g : Nat) (is : List e_Op) (lv : e_Lv) (st : List Value) (M : e_Mem) (res : e_Rs), f ≤ g → e_ev xs L f is lv st M = some res → e_ev xs L g is lv st M = some res
  | 0, _, _, _, _, _, _, _, h => by simp [e_ev] at h
  | f + 1, 0, _, _, _, _, _, hg, _ => by omega
  | f + 1, g + 1, [], _, _, _, _, _, h => by simp [e_ev] at h
  | f + 1, g + 1, op :: is, lv, st, M, res, hg, h => by
    have hg : f ≤ g := by omega
    rcases hk : e_kind op with _ | _ | k
    · simp only [e_ev, hk] at h ⊢
      cases h1 : e_one xs L op lv st M with
      | none => rw [h1] at h; cases h
      | some z =>
        obtain ⟨j, lv', st', M'⟩ := z
        rw [h1] at h
        cases j with
        | none => exact e_ev_more f g _ _ _ _ _ hg h
        | some t => exact e_ev_more f g _ _ _ _ _ hg h
    · simp only [e_ev, hk] at h ⊢
      exact h
    · simp only [e_ev, hk] at h ⊢
      split at h
      · rename_i hc
        rw [if_pos hc]
        cases h1 : e_ev xs L f (e_lbl op.2.2.2.1) (lv_args 0 (st.take op.2.2.2.2.1).reverse) [] M with
        | none => rw [h1] at h; cases h
        | some z =>
          obtain ⟨r, M'⟩ := z
          rw [h1] at h
          rw [e_ev_more f g _ _ _ _ _ hg h1]
          exact e_ev_more f g _ _ _ _ _ hg h
      · cases h
theorem sl_n : e_slw ([] : List Value) = 0 := by simp only [e_slw]
theorem sl_i {x : Int32} {t : List Value} : e_slw (.int x :: t) = 1 + e_slw t := by simp [e_slw, e_isL]
theorem sl_r {x : Nat} {t : List Value} : e_slw (.ref x :: t) = 1 + e_slw t := by simp [e_slw, e_isL]
theorem sl_l {x : Int64} {t : List Value} : e_slw (.long x :: t) = 2 + e_slw t := by simp [e_slw, e_isL]
section WP
variable {xs : Nat → Int32} {L : Nat} {is : List e_Op} {lv : e_Lv} {st : List Value} {M : e_Mem} {Q : e_Rs → Prop}
def Wp1 (xs : Nat → Int32) (L : Nat) (is : List e_Op) (Q : e_Rs → Prop) : Option e_St → Prop
  | none => False
  | some (none, lv, st, M) => Wp xs L is lv st M Q
  | some (some t, lv, st, M) => Wp xs L (e_lbl t) lv st M Q
theorem Wp_one {op : e_Op} (hk : e_kind op = 0) : Wp xs L (op :: is) lv st M Q = Wp1 xs L is Q (e_one xs L op lv st M) := by
  apply propext
  constructor
  · rintro ⟨f, res, h, hq⟩
    cases f with
    | zero => simp [e_ev] at h
    | succ f =>
      simp only [e_ev, hk] at h
      cases h1 : e_one xs L op lv st M with
      | none => rw [h1] at h; cases h
      | some z =>
        obtain ⟨j, lv', st', M'⟩ := z
        rw [h1] at h
        cases j with
        | none => exact ⟨f, res, h, hq⟩
        | some t => exact ⟨f, res, h, hq⟩
  · intro h
    cases h1 : e_one xs L op lv st M with
    | none => rw [h1] at h; exact h.elim
    | some z =>
      obtain ⟨j, lv', st', M'⟩ := z
      rw [h1] at h
      cases j with
      | none =>
        obtain ⟨f, res, h2, hq⟩ := h
        exact ⟨f + 1, res, by simp only [e_ev, hk, h1]; exact h2, hq⟩
      | some t =>
        obtain ⟨f, res, h2, hq⟩ := h
        exact ⟨f + 1, res, by simp only [e_ev, hk, h1]; exact h2, hq⟩
theorem Wp_ret {op : e_Op} {r : Option Value} (hk : e_kind op = 1) (hr : e_ret op st = some r) : Wp xs L (op :: is) lv st M Q = Q (r, M) := by
  apply propext
  constructor
  · rintro ⟨f, res, h, hq⟩
    cases f with
    | zero => simp [e_ev] at h
    | succ f =>
      simp only [e_ev, hk, hr, Option.map_some, Option.some.injEq] at h
      rw [h]
      exact hq
  · intro h
    exact ⟨1, (r, M), by simp only [e_ev, hk, hr, Option.map_some], h⟩
theorem Wp_call {op : e_Op} {As rest : List Value} (hk : 2 ≤ e_kind op) (hn : As.length = op.2.2.2.2.1) (hr : e_slw rest ≤ 8) (hv : e_kind op = 3 → e_recv As.head? M.1 (e_mC op.2.2.2.2.2) = true) (hs : e_slw As ≤ e_mL op.2.2.2.2.2) : Wp xs L (op :: is) lv (As.reverse ++ rest) M Q = Wp xs L (e_lbl op.2.2.2.1) (lv_args 0 As) [] M (fun r => Wp xs L is lv (r.1.toList ++ rest) r.2 Q) := by
  have e1 : (As.reverse ++ rest).take op.2.2.2.2.1 = As.reverse := List.take_left' (by simp [hn])
  have e2 : (As.reverse ++ rest).drop op.2.2.2.2.1 = rest := List.drop_left' (by simp [hn])
  have hc : op.2.2.2.2.1 ≤ (As.reverse ++ rest).length ∧ e_slw ((As.reverse ++ rest).drop op.2.2.2.2.1) ≤ 8 ∧ (e_kind op = 3 → e_recv (((As.reverse ++ rest).take op.2.2.2.2.1).getLast?) M.1 (e_mC op.2.2.2.2.2) = true) ∧ e_slw ((As.reverse ++ rest).take op.2.2.2.2.1) ≤ e_mL op.2.2.2.2.2 := by
    refine ⟨by simp [hn], by rw [e2]; exact hr, fun h => ?_, by rw [e1, e_slw_rev]; exact hs⟩
    rw [e1, List.getLast?_reverse]
    exact hv h
  have hstep : ∀ f, e_ev xs L (f + 1) (op :: is) lv (As.reverse ++ rest) M = match e_ev xs L f (e_lbl op.2.2.2.1) (lv_args 0 As) [] M with
      | none => none
      | some (r, M') => e_ev xs L f is lv (r.toList ++ rest) M' := by
    intro f
    rcases hkk : e_kind op with _ | _ | k
    · omega
    · omega
    · rw [hkk] at hc
      simp only [e_ev, hkk]
      rw [if_pos hc, e1, e2, List.reverse_reverse]
      try rfl
  apply propext
  constructor
  · rintro ⟨f, res, h, hq⟩
    cases f with
    | zero => simp [e_ev] at h
    | succ f =>
      rw [hstep] at h
      split at h
      · cases h
      · rename_i r M' h1
        exact ⟨f, (r, M'), h1, f, res, h, hq⟩
  · rintro ⟨f, ⟨r, M'⟩, h1, g, res, h2, hq⟩
    refine ⟨max f g + 1, res, ?_, hq⟩
    rw [hstep, e_ev_more f (max f g) _ _ _ _ _ (Nat.le_max_left _ _) h1]
    exact e_ev_more g (max f g) _ _ _ _ _ (Nat.le_max_right _ _) h2
theorem Wp_mono {Q' : e_Rs → Prop} (h : Wp xs L is lv st M Q) (hq : ∀ r, Q r → Q' r) : Wp xs L is lv st M Q' := by
  obtain ⟨f, res, h1, h2⟩ := h
  exact ⟨f, res, h1, hq res h2⟩
/-- a local by its kind -/
def e_wi (v : Option Value) (F : Int32 → Prop) : Prop := match v with
  | some (.int x) => F x
  | _ => False
def e_wr (v : Option Value) (F : Nat → Prop) : Prop := match v with
  | some (.ref x) => F x
  | _ => False
def e_wl (v : Option Value) (F : Int64 → Prop) : Prop := match v with
  | some (.long x) => F x
  | _ => False
theorem e_wi_s {x : Int32} {F : Int32 → Prop} : e_wi (some (.int x)) F = F x := rfl
theorem e_wr_s {x : Nat} {F : Nat → Prop} : e_wr (some (.ref x)) F = F x := rfl
theorem e_wl_s {x : Int64} {F : Int64 → Prop} : e_wl (some (.long x)) F = F x := rfl
/-- cell q is there, an object or array of kind a -/
def e_01 (x : Int32) : Prop := x = 0 ∨ x = 1
def e_okc (q a : Nat) : Bool := decide (1 ≤ q ∧ q ≤ 173 ∧ (e_kd q).1 = a)
def e_sz (q : Nat) : Nat := (e_kd q).2
variable {pc a b c : Nat} {v : Int32} {m : Nat → Nat → Int32} {r : Nat → Nat → Nat}
theorem r_nop  : Wp xs L ((pc, .nop, v, a, b, c) :: is) lv (st) M Q = Wp xs L (e_lbl a) (lv) (st) M Q := Wp_one rfl
theorem r_iconst {n : Int} : Wp xs L ((pc, .iconst n, v, a, b, c) :: is) lv (st) M Q = Wp xs L is (lv) (.int v :: st) M Q := Wp_one rfl
theorem r_bipush {n : Int} : Wp xs L ((pc, .bipush n, v, a, b, c) :: is) lv (st) M Q = Wp xs L is (lv) (.int v :: st) M Q := Wp_one rfl
theorem r_sipush {n : Int} : Wp xs L ((pc, .sipush n, v, a, b, c) :: is) lv (st) M Q = Wp xs L is (lv) (.int v :: st) M Q := Wp_one rfl
theorem r_ldc {n : Nat} : Wp xs L ((pc, .ldc n, v, a, b, c) :: is) lv (st) M Q = Wp xs L is (lv) (.int v :: st) M Q := Wp_one rfl
theorem r_ldc2 {n : Nat} : Wp xs L ((pc, .ldc2_w n, v, a, b, c) :: is) lv (st) M Q = Wp xs L is (lv) (.long v.toInt64 :: st) M Q := Wp_one rfl
theorem r_iload {n : Nat} : Wp xs L ((pc, .iload n, v, a, b, c) :: is) lv (st) M Q = e_wi (e_lk a lv) (fun x => Wp xs L is (lv) (.int x :: st) M Q) := by
  rw [Wp_one rfl]
  simp only [e_one]
  rcases e_lk a lv with _ | w
  · rfl
  · cases w <;> rfl
theorem r_iload_n {n : Fin 4} : Wp xs L ((pc, .iload_n n, v, a, b, c) :: is) lv (st) M Q = e_wi (e_lk a lv) (fun x => Wp xs L is (lv) (.int x :: st) M Q) := by
  rw [Wp_one rfl]
  simp only [e_one]
  rcases e_lk a lv with _ | w
  · rfl
  · cases w <;> rfl
theorem r_aload {n : Nat} : Wp xs L ((pc, .aload n, v, a, b, c) :: is) lv (st) M Q = e_wr (e_lk a lv) (fun x => Wp xs L is (lv) (.ref x :: st) M Q) := by
  rw [Wp_one rfl]
  simp only [e_one]
  rcases e_lk a lv with _ | w
  · rfl
  · cases w <;> rfl
theorem r_aload_n {n : Fin 4} : Wp xs L ((pc, .aload_n n, v, a, b, c) :: is) lv (st) M Q = e_wr (e_lk a lv) (fun x => Wp xs L is (lv) (.ref x :: st) M Q) := by
  rw [Wp_one rfl]
  simp only [e_one]
  rcases e_lk a lv with _ | w
  · rfl
  · cases w <;> rfl
theorem r_lload_n {n : Fin 4} : Wp xs L ((pc, .lload_n n, v, a, b, c) :: is) lv (st) M Q = e_wl (e_lk a lv) (fun x => Wp xs L is (lv) (.long x :: st) M Q) := by
  rw [Wp_one rfl]
  simp only [e_one]
  rcases e_lk a lv with _ | w
  · rfl
  · cases w <;> rfl
theorem r_istore {n : Nat} {x : Int32} (h : e_ok a lv = true) : Wp xs L ((pc, .istore n, v, a, b, c) :: is) lv (.int x :: st) M Q = Wp xs L is (e_sto a (.int x) lv) (st) M Q := by
  rw [Wp_one rfl]
  simp only [e_one, h, if_true]
  rfl
theorem r_istore_n {n : Fin 4} {x : Int32} (h : e_ok a lv = true) : Wp xs L ((pc, .istore_n n, v, a, b, c) :: is) lv (.int x :: st) M Q = Wp xs L is (e_sto a (.int x) lv) (st) M Q := by
  rw [Wp_one rfl]
  simp only [e_one, h, if_true]
  rfl
theorem r_astore {n : Nat} {x : Nat} (h : e_ok a lv = true) : Wp xs L ((pc, .astore n, v, a, b, c) :: is) lv (.ref x :: st) M Q = Wp xs L is (e_sto a (.ref x) lv) (st) M Q := by
  rw [Wp_one rfl]
  simp only [e_one, h, if_true]
  rfl
theorem r_astore_n {n : Fin 4} {x : Nat} (h : e_ok a lv = true) : Wp xs L ((pc, .astore_n n, v, a, b, c) :: is) lv (.ref x :: st) M Q = Wp xs L is (e_sto a (.ref x) lv) (st) M Q := by
  rw [Wp_one rfl]
  simp only [e_one, h, if_true]
  rfl
theorem r_lstore_n {n : Fin 4} {x : Int64} (h : e_ok a lv = true) (h2 : e_no (a + 1) lv = true) : Wp xs L ((pc, .lstore_n n, v, a, b, c) :: is) lv (.long x :: st) M Q = Wp xs L is (e_sto a (.long x) lv) (st) M Q := by
  rw [Wp_one rfl]
  simp only [e_one, h, h2, Bool.and_self, if_true]
  rfl
theorem r_iinc {k : Nat} {n : Int} (h : e_ok a lv = true) : Wp xs L ((pc, .iinc k n, v, a, b, c) :: is) lv (st) M Q = e_wi (e_lk a lv) (fun x => Wp xs L is (e_sto a (.int (x + v)) lv) (st) M Q) := by
  rw [Wp_one rfl]
  simp only [e_one, h, if_true]
  rcases e_lk a lv with _ | w
  · rfl
  · cases w <;> rfl
theorem r_iadd {x z : Int32} : Wp xs L ((pc, .iadd, v, a, b, c) :: is) lv (.int z :: .int x :: st) M Q = Wp xs L is (lv) (.int (x + z) :: st) M Q := Wp_one rfl
theorem r_isub {x z : Int32} : Wp xs L ((pc, .isub, v, a, b, c) :: is) lv (.int z :: .int x :: st) M Q = Wp xs L is (lv) (.int (x - z) :: st) M Q := Wp_one rfl
theorem r_imul {x z : Int32} : Wp xs L ((pc, .imul, v, a, b, c) :: is) lv (.int z :: .int x :: st) M Q = Wp xs L is (lv) (.int (x * z) :: st) M Q := Wp_one rfl
theorem r_iand {x z : Int32} : Wp xs L ((pc, .iand, v, a, b, c) :: is) lv (.int z :: .int x :: st) M Q = Wp xs L is (lv) (.int (x &&& z) :: st) M Q := Wp_one rfl
theorem r_ixor {x z : Int32} : Wp xs L ((pc, .ixor, v, a, b, c) :: is) lv (.int z :: .int x :: st) M Q = Wp xs L is (lv) (.int (x ^^^ z) :: st) M Q := Wp_one rfl
theorem r_idiv {x z : Int32} (h : ¬ z = 0) : Wp xs L ((pc, .idiv, v, a, b, c) :: is) lv (.int z :: .int x :: st) M Q = Wp xs L is (lv) (.int (x / z) :: st) M Q := by
  rw [Wp_one rfl]
  simp only [e_one, h, if_false]
  rfl
theorem r_irem {x z : Int32} (h : ¬ z = 0) : Wp xs L ((pc, .irem, v, a, b, c) :: is) lv (.int z :: .int x :: st) M Q = Wp xs L is (lv) (.int (x - x / z * z) :: st) M Q := by
  rw [Wp_one rfl]
  simp only [e_one, h, if_false]
  rfl
theorem r_ineg {x : Int32} : Wp xs L ((pc, .ineg, v, a, b, c) :: is) lv (.int x :: st) M Q = Wp xs L is (lv) (.int (-x) :: st) M Q := Wp_one rfl
theorem r_i2l {x : Int32} : Wp xs L ((pc, .i2l, v, a, b, c) :: is) lv (.int x :: st) M Q = Wp xs L is (lv) (.long x.toInt64 :: st) M Q := Wp_one rfl
theorem r_i2b {x : Int32} : Wp xs L ((pc, .i2b, v, a, b, c) :: is) lv (.int x :: st) M Q = Wp xs L is (lv) (.int x.toInt8.toInt32 :: st) M Q := Wp_one rfl
theorem r_ladd {x z : Int64} : Wp xs L ((pc, .ladd, v, a, b, c) :: is) lv (.long z :: .long x :: st) M Q = Wp xs L is (lv) (.long (x + z) :: st) M Q := Wp_one rfl
theorem r_lmul {x z : Int64} : Wp xs L ((pc, .lmul, v, a, b, c) :: is) lv (.long z :: .long x :: st) M Q = Wp xs L is (lv) (.long (x * z) :: st) M Q := Wp_one rfl
theorem r_lcmp {x z : Int64} : Wp xs L ((pc, .lcmp, v, a, b, c) :: is) lv (.long z :: .long x :: st) M Q = Wp xs L is (lv) (.int (lg_cmp x z) :: st) M Q := Wp_one rfl
theorem r_dupi {x : Int32} : Wp xs L ((pc, .dup, v, a, b, c) :: is) lv (.int x :: st) M Q = Wp xs L is (lv) (.int x :: .int x :: st) M Q := Wp_one rfl
theorem r_dupa {x : Nat} : Wp xs L ((pc, .dup, v, a, b, c) :: is) lv (.ref x :: st) M Q = Wp xs L is (lv) (.ref x :: .ref x :: st) M Q := Wp_one rfl
theorem r_dup2 {x : Int32} {z : Nat} : Wp xs L ((pc, .dup2, v, a, b, c) :: is) lv (.int x :: .ref z :: st) M Q = Wp xs L is (lv) (.int x :: .ref z :: .int x :: .ref z :: st) M Q := Wp_one rfl
theorem r_pop {x : Int32} : Wp xs L ((pc, .pop, v, a, b, c) :: is) lv (.int x :: st) M Q = Wp xs L is (lv) (st) M Q := Wp_one rfl
theorem r_goto {off : Int} : Wp xs L ((pc, .goto off, v, a, b, c) :: is) lv (st) M Q = Wp xs L (e_lbl a) (lv) (st) M Q := Wp_one rfl
theorem r_if_eq {off : Int} {x : Int32} : Wp xs L ((pc, .ifCond .eq off, v, a, b, c) :: is) lv (.int x :: st) M Q = if x = 0 then Wp xs L (e_lbl a) (lv) (st) M Q else Wp xs L is (lv) (st) M Q := by
  rw [Wp_one rfl]
  by_cases h : x = 0
  · rw [if_pos h]
    simp only [e_one, e_c1, h, not_true, decide_true, decide_false, if_true]
    rfl
  · rw [if_neg h]
    simp only [e_one, e_c1, h, not_false_iff, decide_true, decide_false, if_false]
    rfl
theorem r_if_ne {off : Int} {x : Int32} : Wp xs L ((pc, .ifCond .ne off, v, a, b, c) :: is) lv (.int x :: st) M Q = if x = 0 then Wp xs L is (lv) (st) M Q else Wp xs L (e_lbl a) (lv) (st) M Q := by
  rw [Wp_one rfl]
  by_cases h : x = 0
  · rw [if_pos h]
    simp only [e_one, e_c1, h, not_true, decide_true, decide_false, if_true]
    rfl
  · rw [if_neg h]
    simp only [e_one, e_c1, h, not_false_iff, decide_true, decide_false, if_false]
    rfl
theorem r_if_lt {off : Int} {x : Int32} : Wp xs L ((pc, .ifCond .lt off, v, a, b, c) :: is) lv (.int x :: st) M Q = if x < 0 then Wp xs L (e_lbl a) (lv) (st) M Q else Wp xs L is (lv) (st) M Q := by
  rw [Wp_one rfl]
  by_cases h : x < 0
  · rw [if_pos h]
    simp only [e_one, e_c1, h, not_true, decide_true, decide_false, if_true]
    rfl
  · rw [if_neg h]
    simp only [e_one, e_c1, h, not_false_iff, decide_true, decide_false, if_false]
    rfl
theorem r_if_ge {off : Int} {x : Int32} : Wp xs L ((pc, .ifCond .ge off, v, a, b, c) :: is) lv (.int x :: st) M Q = if x < 0 then Wp xs L is (lv) (st) M Q else Wp xs L (e_lbl a) (lv) (st) M Q := by
  rw [Wp_one rfl]
  by_cases h : x < 0
  · rw [if_pos h]
    simp only [e_one, e_c1, h, Int32.not_le.mpr h, decide_false]
    rfl
  · rw [if_neg h]
    simp only [e_one, e_c1, h, Int32.not_lt.mp h, decide_true, if_true]
    rfl
theorem r_if_gt {off : Int} {x : Int32} : Wp xs L ((pc, .ifCond .gt off, v, a, b, c) :: is) lv (.int x :: st) M Q = if 0 < x then Wp xs L (e_lbl a) (lv) (st) M Q else Wp xs L is (lv) (st) M Q := by
  rw [Wp_one rfl]
  by_cases h : 0 < x
  · rw [if_pos h]
    simp only [e_one, e_c1, h, not_true, decide_true, decide_false, if_true]
    rfl
  · rw [if_neg h]
    simp only [e_one, e_c1, h, not_false_iff, decide_true, decide_false, if_false]
    rfl
theorem r_if_le {off : Int} {x : Int32} : Wp xs L ((pc, .ifCond .le off, v, a, b, c) :: is) lv (.int x :: st) M Q = if 0 < x then Wp xs L is (lv) (st) M Q else Wp xs L (e_lbl a) (lv) (st) M Q := by
  rw [Wp_one rfl]
  by_cases h : 0 < x
  · rw [if_pos h]
    simp only [e_one, e_c1, h, Int32.not_le.mpr h, decide_false]
    rfl
  · rw [if_neg h]
    simp only [e_one, e_c1, h, Int32.not_lt.mp h, decide_true, if_true]
    rfl
theorem r_ic_eq {off : Int} {x z : Int32} : Wp xs L ((pc, .if_icmp .eq off, v, a, b, c) :: is) lv (.int z :: .int x :: st) M Q = if x = z then Wp xs L (e_lbl a) (lv) (st) M Q else Wp xs L is (lv) (st) M Q := by
  rw [Wp_one rfl]
  by_cases h : x = z
  · rw [if_pos h]
    simp only [e_one, e_c2, h, not_true, decide_true, decide_false, if_true]
    rfl
  · rw [if_neg h]
    simp only [e_one, e_c2, h, not_false_iff, decide_true, decide_false, if_false]
    rfl
theorem r_ic_ne {off : Int} {x z : Int32} : Wp xs L ((pc, .if_icmp .ne off, v, a, b, c) :: is) lv (.int z :: .int x :: st) M Q = if x = z then Wp xs L is (lv) (st) M Q else Wp xs L (e_lbl a) (lv) (st) M Q := by
  rw [Wp_one rfl]
  by_cases h : x = z
  · rw [if_pos h]
    simp only [e_one, e_c2, h, not_true, decide_true, decide_false, if_true]
    rfl
  · rw [if_neg h]
    simp only [e_one, e_c2, h, not_false_iff, decide_true, decide_false, if_false]
    rfl
theorem r_ic_lt {off : Int} {x z : Int32} : Wp xs L ((pc, .if_icmp .lt off, v, a, b, c) :: is) lv (.int z :: .int x :: st) M Q = if x < z then Wp xs L (e_lbl a) (lv) (st) M Q else Wp xs L is (lv) (st) M Q := by
  rw [Wp_one rfl]
  by_cases h : x < z
  · rw [if_pos h]
    simp only [e_one, e_c2, h, not_true, decide_true, decide_false, if_true]
    rfl
  · rw [if_neg h]
    simp only [e_one, e_c2, h, not_false_iff, decide_true, decide_false, if_false]
    rfl
theorem r_ic_ge {off : Int} {x z : Int32} : Wp xs L ((pc, .if_icmp .ge off, v, a, b, c) :: is) lv (.int z :: .int x :: st) M Q = if x < z then Wp xs L is (lv) (st) M Q else Wp xs L (e_lbl a) (lv) (st) M Q := by
  rw [Wp_one rfl]
  by_cases h : x < z
  · rw [if_pos h]
    simp only [e_one, e_c2, h, Int32.not_le.mpr h, decide_false]
    rfl
  · rw [if_neg h]
    simp only [e_one, e_c2, h, Int32.not_lt.mp h, decide_true, if_true]
    rfl
theorem r_ic_gt {off : Int} {x z : Int32} : Wp xs L ((pc, .if_icmp .gt off, v, a, b, c) :: is) lv (.int z :: .int x :: st) M Q = if z < x then Wp xs L (e_lbl a) (lv) (st) M Q else Wp xs L is (lv) (st) M Q := by
  rw [Wp_one rfl]
  by_cases h : z < x
  · rw [if_pos h]
    simp only [e_one, e_c2, h, not_true, decide_true, decide_false, if_true]
    rfl
  · rw [if_neg h]
    simp only [e_one, e_c2, h, not_false_iff, decide_true, decide_false, if_false]
    rfl
theorem r_ic_le {off : Int} {x z : Int32} : Wp xs L ((pc, .if_icmp .le off, v, a, b, c) :: is) lv (.int z :: .int x :: st) M Q = if z < x then Wp xs L is (lv) (st) M Q else Wp xs L (e_lbl a) (lv) (st) M Q := by
  rw [Wp_one rfl]
  by_cases h : z < x
  · rw [if_pos h]
    simp only [e_one, e_c2, h, Int32.not_le.mpr h, decide_false]
    rfl
  · rw [if_neg h]
    simp only [e_one, e_c2, h, Int32.not_lt.mp h, decide_true, if_true]
    rfl
theorem r_getf0 {i q : Nat} (h : e_okc q a = true) : Wp xs L ((pc, .getfield i, v, a, b, 0) :: is) lv (.ref q :: st) (173, m, r) Q = Wp xs L is (lv) (.int (m q b) :: st) (173, m, r) Q := by
  rw [Wp_one rfl]
  have h := of_decide_eq_true h
  simp only [e_one]
  rw [if_pos (by exact h)]
  rfl
theorem r_getf1 {i q : Nat} (h : e_okc q a = true) : Wp xs L ((pc, .getfield i, v, a, b, 1) :: is) lv (.ref q :: st) (173, m, r) Q = Wp xs L is (lv) (.int (m q b) :: st) (173, m, r) Q := by
  rw [Wp_one rfl]
  have h := of_decide_eq_true h
  simp only [e_one]
  rw [if_pos (by exact h)]
  rfl
theorem r_getf2 {i q : Nat} (h : e_okc q a = true) : Wp xs L ((pc, .getfield i, v, a, b, 2) :: is) lv (.ref q :: st) (173, m, r) Q = Wp xs L is (lv) (e_rf (r q b) :: st) (173, m, r) Q := by
  rw [Wp_one rfl]
  have h := of_decide_eq_true h
  simp only [e_one]
  rw [if_pos (by exact h)]
  rfl
theorem r_putf0 {i q : Nat} {x : Int32} (h : e_okc q a = true) : Wp xs L ((pc, .putfield i, v, a, b, 0) :: is) lv (.int x :: .ref q :: st) (173, m, r) Q = Wp xs L is (lv) (st) (173, e_set m q b x, r) Q := by
  rw [Wp_one rfl]
  have h := of_decide_eq_true h
  simp only [e_one]
  rw [if_pos (by exact ⟨h, by decide, fun h => by cases h⟩)]
  rfl
theorem r_putf1 {i q : Nat} {x : Int32} (h : e_okc q a = true) (hx : e_01 x) : Wp xs L ((pc, .putfield i, v, a, b, 1) :: is) lv (.int x :: .ref q :: st) (173, m, r) Q = Wp xs L is (lv) (st) (173, e_set m q b x, r) Q := by
  rw [Wp_one rfl]
  have h := of_decide_eq_true h
  simp only [e_one]
  rw [if_pos (by exact ⟨h, by decide, fun _ => hx⟩)]
  rfl
theorem r_iald {i : Int32} {q : Nat} (h : e_okc q 10 = true) (hi : e_in i (e_sz q) = true) : Wp xs L ((pc, .iaload, v, a, b, c) :: is) lv (.int i :: .ref q :: st) (173, m, r) Q = Wp xs L is (lv) (.int (m q i.toNatClampNeg) :: st) (173, m, r) Q := by
  have h := of_decide_eq_true h
  rw [Wp_one rfl]
  simp only [e_one]
  rw [if_neg (Nat.ne_of_gt h.1), if_pos ⟨h.2.1, h.2.2, hi⟩]
  rfl
theorem r_bald {i : Int32} {q : Nat} (h : e_okc q 11 = true) (hi : e_in i (e_sz q) = true) : Wp xs L ((pc, .baload, v, a, b, c) :: is) lv (.int i :: .ref q :: st) (173, m, r) Q = Wp xs L is (lv) (.int (m q i.toNatClampNeg) :: st) (173, m, r) Q := by
  rw [Wp_one rfl]
  have h := of_decide_eq_true h
  simp only [e_one]
  rw [if_pos (by exact ⟨h.1, h.2.1, h.2.2, hi⟩)]
  rfl
theorem r_aald12 {i : Int32} {q : Nat} (h : e_okc q 12 = true) (hi : e_in i (e_sz q) = true) : Wp xs L ((pc, .aaload, v, a, b, c) :: is) lv (.int i :: .ref q :: st) (173, m, r) Q = Wp xs L is (lv) (e_rf (r q i.toNatClampNeg) :: st) (173, m, r) Q := by
  rw [Wp_one rfl]
  have h := of_decide_eq_true h
  simp only [e_one]
  rw [if_pos (by exact ⟨h.1, h.2.1, by rw [h.2.2]; exact ⟨Nat.le_of_ble_eq_true rfl, Nat.le_of_ble_eq_true rfl⟩, hi⟩)]
  rfl
theorem r_aald13 {i : Int32} {q : Nat} (h : e_okc q 13 = true) (hi : e_in i (e_sz q) = true) : Wp xs L ((pc, .aaload, v, a, b, c) :: is) lv (.int i :: .ref q :: st) (173, m, r) Q = Wp xs L is (lv) (e_rf (r q i.toNatClampNeg) :: st) (173, m, r) Q := by
  rw [Wp_one rfl]
  have h := of_decide_eq_true h
  simp only [e_one]
  rw [if_pos (by exact ⟨h.1, h.2.1, by rw [h.2.2]; exact ⟨Nat.le_of_ble_eq_true rfl, Nat.le_of_ble_eq_true rfl⟩, hi⟩)]
  rfl
theorem r_aald14 {i : Int32} {q : Nat} (h : e_okc q 14 = true) (hi : e_in i (e_sz q) = true) : Wp xs L ((pc, .aaload, v, a, b, c) :: is) lv (.int i :: .ref q :: st) (173, m, r) Q = Wp xs L is (lv) (e_rf (r q i.toNatClampNeg) :: st) (173, m, r) Q := by
  rw [Wp_one rfl]
  have h := of_decide_eq_true h
  simp only [e_one]
  rw [if_pos (by exact ⟨h.1, h.2.1, by rw [h.2.2]; exact ⟨Nat.le_of_ble_eq_true rfl, Nat.le_of_ble_eq_true rfl⟩, hi⟩)]
  rfl
theorem r_iast {x : Int32} {i : Int32} {q : Nat} (h : e_okc q 10 = true) (hi : e_in i (e_sz q) = true) : Wp xs L ((pc, .iastore, v, a, b, c) :: is) lv (.int x :: .int i :: .ref q :: st) (173, m, r) Q = Wp xs L is (lv) (st) (173, e_set m q i.toNatClampNeg x, r) Q := by
  rw [Wp_one rfl]
  have h := of_decide_eq_true h
  simp only [e_one]
  rw [if_pos (by exact ⟨h.1, h.2.1, h.2.2, hi⟩)]
  rfl
theorem r_bast {x : Int32} {i : Int32} {q : Nat} (h : e_okc q 11 = true) (hi : e_in i (e_sz q) = true) : Wp xs L ((pc, .bastore, v, a, b, c) :: is) lv (.int x :: .int i :: .ref q :: st) (173, m, r) Q = Wp xs L is (lv) (st) (173, e_set m q i.toNatClampNeg x.toInt8.toInt32, r) Q := by
  rw [Wp_one rfl]
  have h := of_decide_eq_true h
  simp only [e_one]
  rw [if_pos (by exact ⟨h.1, h.2.1, h.2.2, hi⟩)]
  rfl
theorem r_aast {z : Nat} (hz : e_okc z 1 = true) {i : Int32} {q : Nat} (h : e_okc q 12 = true) (hi : e_in i (e_sz q) = true) : Wp xs L ((pc, .aastore, v, a, b, c) :: is) lv (.ref z :: .int i :: .ref q :: st) (173, m, r) Q = Wp xs L is (lv) (st) (173, m, e_set r q i.toNatClampNeg z) Q := by
  rw [Wp_one rfl]
  have h := of_decide_eq_true h
  have hz := of_decide_eq_true hz
  simp only [e_one]
  rw [if_pos (by exact ⟨h.1, h.2.1, ⟨hz.1, hz.2.1⟩, Or.inl ⟨h.2.2, hz.2.2⟩, hi⟩)]
  rfl
theorem r_slen  : Wp xs L ((pc, .arraylength, v, a, b, c) :: is) lv (.ref 0 :: st) M Q = Wp xs L is (lv) (.int (Int32.ofNat L) :: st) M Q := Wp_one rfl
theorem r_sld {i : Int32} (hi : e_in i L = true) : Wp xs L ((pc, .iaload, v, a, b, c) :: is) lv (.int i :: .ref 0 :: st) M Q = Wp xs L is (lv) (.int (xs i.toNatClampNeg) :: st) M Q := by
  rw [Wp_one rfl]
  simp only [e_one]
  rw [if_pos trivial, if_pos hi]
  rfl
theorem r_mmax {i : Nat} {x z : Int32} (h : st.length ≤ 4) : Wp xs L ((pc, .invokestatic i, v, a, b, 991) :: is) lv (.int z :: .int x :: st) M Q = Wp xs L is (lv) (.int (if x < z then z else x) :: st) M Q := by
  rw [Wp_one rfl]
  simp only [e_one]
  rw [if_neg (by decide)]
  rw [if_pos trivial, if_pos h]
  rfl
theorem r_mmin {i : Nat} {x z : Int32} (h : st.length ≤ 4) : Wp xs L ((pc, .invokestatic i, v, a, b, 992) :: is) lv (.int z :: .int x :: st) M Q = Wp xs L is (lv) (.int (if z < x then z else x) :: st) M Q := by
  rw [Wp_one rfl]
  simp only [e_one]
  rw [if_neg (by decide)]
  rw [if_neg (by decide)]
  rw [if_pos trivial, if_pos h]
  rfl
theorem r_mabs {i : Nat} {x : Int32} (h : st.length ≤ 4) : Wp xs L ((pc, .invokestatic i, v, a, b, 993) :: is) lv (.int x :: st) M Q = Wp xs L is (lv) (.int (if 0 ≤ x then x else 0 - x) :: st) M Q := by
  rw [Wp_one rfl]
  simp only [e_one]
  rw [if_neg (by decide)]
  rw [if_neg (by decide)]
  rw [if_neg (by decide)]
  rw [if_pos trivial, if_pos h]
  rfl
theorem r_fmod {i : Nat} {x z : Int32} (h : st.length ≤ 4) (hz : ¬ z = 0) : Wp xs L ((pc, .invokestatic i, v, a, b, 994) :: is) lv (.int z :: .int x :: st) M Q = Wp xs L is (lv) (.int (Jvm.Free.MCB.fmod x z) :: st) M Q := by
  rw [Wp_one rfl]
  simp only [e_one]
  rw [if_neg (by decide)]
  rw [if_neg (by decide)]
  rw [if_neg (by decide)]
  rw [if_neg (by decide)]
  rw [if_pos trivial, if_pos ⟨h, hz⟩]
  rfl
theorem r_copy {i q d : Nat} {n : Int32} (h : e_okc q 10 = true) (h2 : e_okc d 10 = true) (hn : ¬ n < 0) (hl : n.toNatClampNeg ≤ e_sz q) (hl2 : n.toNatClampNeg ≤ e_sz d) : Wp xs L ((pc, .invokestatic i, v, a, b, 998) :: is) lv ([.int n, .int 0, .ref d, .int 0, .ref q]) (173, m, r) Q = Wp xs L is (lv) ([]) (173, e_cpy m q 0 d 0 n.toNatClampNeg, r) Q := by
  have h := of_decide_eq_true h
  have h2 := of_decide_eq_true h2
  rw [Wp_one rfl]
  simp only [e_one]
  rw [if_pos trivial, if_pos ⟨h, h2, ⟨by decide, by decide, hn⟩, by show 0 + _ ≤ (e_kd q).2; have := hl; unfold e_sz at this; omega, by show 0 + _ ≤ (e_kd d).2; have := hl2; unfold e_sz at this; omega⟩]
  rfl
theorem r_ret  : Wp xs L ((pc, .return_, v, a, b, c) :: is) lv ([]) M Q = Q (none, M) := Wp_ret rfl rfl
theorem r_lret {x : Int64} : Wp xs L ((pc, .lreturn, v, a, b, c) :: is) lv ([.long x]) M Q = Q (some (.long x), M) := Wp_ret rfl rfl
theorem r_iret0 {x : Int32} : Wp xs L ((pc, .ireturn, v, 0, b, c) :: is) lv ([.int x]) M Q = Q (some (.int x), M) := Wp_ret rfl rfl
theorem r_iret1 {x : Int32} (h : e_01 x) : Wp xs L ((pc, .ireturn, v, 1, b, c) :: is) lv ([.int x]) M Q = Q (some (.int x), M) := Wp_ret rfl (by simp only [e_ret]; exact if_pos (Or.inr h))
end WP
