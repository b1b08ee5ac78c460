/-! the constructors: the plain machine over a memory of writes, each a row of a list -/
abbrev e_Dm : Type := Nat × List (Nat × Nat × Int32) × List (Nat × Nat × Nat)
def dI : List (Nat × Nat × Int32) → e_Tb
  | [] => fun _ _ => 0
  | (c, k, v) :: t => e_set (dI t) c k v
def dR : List (Nat × Nat × Nat) → Nat → Nat → Nat
  | [] => fun _ _ => 0
  | (c, k, v) :: t => e_set (dR t) c k v
def den (D : e_Dm) : e_Mem := (D.1, dI D.2.1, dR D.2.2)
def okD (D : e_Dm) : Prop := (∀ e, e ∈ D.2.1 → e.1 ≤ D.1) ∧ ∀ e, e ∈ D.2.2 → e.1 ≤ D.1
def mul (n : Nat) (t : List (Nat × Nat × Nat)) : Nat → List (Nat × Nat × Nat)
  | 0 => t
  | i + 1 => (n + 1, i, n + 2 + i) :: mul n t i
abbrev e_Sd : Type := Option Nat × e_Lv × List Value × e_Dm
def e_oneD (op : e_Op) (lv : e_Lv) (st : List Value) (D : e_Dm) : Option e_Sd := match op with
  | (_, ins, v, a, b, c) => match ins with
    | .nop => some (some a, lv, st, D)
    | .iconst _ => some (none, lv, .int v :: st, D)
    | .bipush _ => some (none, lv, .int v :: st, D)
    | .sipush _ => some (none, lv, .int v :: st, D)
    | .iload_n _ => match e_lk a lv with
      | some (.int x) => some (none, lv, .int x :: st, D)
      | _ => none
    | .aload_n _ => match e_lk a lv with
      | some (.ref x) => some (none, lv, .ref x :: st, D)
      | _ => none
    | .istore_n _ => match st with
      | .int x :: r => if e_ok a lv = true then some (none, e_sto a (.int x) lv, r, D) else none
      | _ => none
    | .iinc _ _ => match e_lk a lv with
      | some (.int x) => if e_ok a lv = true then some (none, e_sto a (.int (x + v)) lv, st, D) else none
      | _ => none
    | .iadd => match st with
      | .int y :: .int x :: r => some (none, lv, .int (x + y) :: r, D)
      | _ => none
    | .dup => match st with
      | .ref x :: r => some (none, lv, .ref x :: .ref x :: r, D)
      | _ => none
    | .goto _ => some (some a, lv, st, D)
    | .if_icmp cd _ => match st with
      | .int y :: .int x :: r => some (if e_c2 cd x y = true then some a else none, lv, r, D)
      | _ => none
    | .getfield _ => match st with
      | .ref q :: r => if (1 ≤ q ∧ q ≤ D.1 ∧ (e_kd q).1 = a) ∧ c = 2 then some (none, lv, e_rf (dR D.2.2 q b) :: r, D) else none
      | _ => none
    | .putfield _ => match st with
      | .int x :: .ref q :: r => if (1 ≤ q ∧ q ≤ D.1 ∧ (e_kd q).1 = a) ∧ c = 0 then some (none, lv, r, (D.1, (q, b, x) :: D.2.1, D.2.2)) else none
      | .ref z :: .ref q :: r => if (1 ≤ q ∧ q ≤ D.1 ∧ (e_kd q).1 = a) ∧ c = 2 ∧ 1 ≤ z then some (none, lv, r, (D.1, D.2.1, (q, b, z) :: D.2.2)) else none
      | _ => none
    | .iastore => match st with
      | .int x :: .int i :: .ref q :: r => if 1 ≤ q ∧ q ≤ D.1 ∧ (e_kd q).1 = 10 ∧ e_in i (e_kd q).2 = true then some (none, lv, r, (D.1, (q, i.toNatClampNeg, x) :: D.2.1, D.2.2)) else none
      | _ => none
    | .aastore => match st with
      | .ref z :: .int i :: .ref q :: r => if 1 ≤ q ∧ q ≤ D.1 ∧ (1 ≤ z ∧ z ≤ D.1) ∧ ((e_kd q).1 = 12 ∧ (e_kd z).1 = 1 ∨ (e_kd q).1 = 13 ∧ (e_kd z).1 = 4) ∧ e_in i (e_kd q).2 = true then some (none, lv, r, (D.1, D.2.1, (q, i.toNatClampNeg, z) :: D.2.2)) else none
      | _ => none
    | .new _ => if D.1 + 1 ≤ 173 ∧ e_kd (D.1 + 1) = (a, b) then some (none, lv, .ref (D.1 + 1) :: st, (D.1 + 1, D.2.1, D.2.2)) else none
    | .newarray _ => match st with
      | .int n :: r => if D.1 + 1 ≤ 173 ∧ e_kd (D.1 + 1) = (a, n.toNatClampNeg) ∧ ¬ n < 0 ∧ n.toNatClampNeg ≤ 1000 then some (none, lv, .ref (D.1 + 1) :: r, (D.1 + 1, D.2.1, D.2.2)) else none
      | _ => none
    | .anewarray _ => match st with
      | .int n :: r => if D.1 + 1 ≤ 173 ∧ e_kd (D.1 + 1) = (a, n.toNatClampNeg) ∧ ¬ n < 0 ∧ n.toNatClampNeg ≤ 1000 then some (none, lv, .ref (D.1 + 1) :: r, (D.1 + 1, D.2.1, D.2.2)) else none
      | _ => none
    | .multianewarray _ _ => match st with
      | .int k :: .int n :: r => if D.1 + 25 ≤ 173 ∧ e_kd (D.1 + 1) = (14, 24) ∧ n = 24 ∧ k = 33 ∧ ((List.range 24).all fun i => e_kd (D.1 + 2 + i) == (10, 33)) = true then
          some (none, lv, .ref (D.1 + 1) :: r, (D.1 + 25, D.2.1, mul D.1 D.2.2 24)) else none
      | _ => none
    | .invokespecial _ => match st with
      | [.ref _] => if c = 999 then some (none, lv, [], D) else none
      | _ => none
    | _ => none
theorem dI_hi {n : Nat} : ∀ (t : List (Nat × Nat × Int32)), (∀ e, e ∈ t → e.1 ≤ n) → ∀ c k, n < c → dI t c k = 0
  | [], _, _, _, _ => rfl
  | (c', k', v) :: t, h, c, k, hc => by
    have h1 := h (c', k', v) (List.mem_cons_self ..)
    rw [dI, e_set_cell (by simp only at h1; omega)]
    exact dI_hi t (fun e he => h e (List.mem_cons_of_mem _ he)) c k hc
theorem dR_hi {n : Nat} : ∀ (t : List (Nat × Nat × Nat)), (∀ e, e ∈ t → e.1 ≤ n) → ∀ c k, n < c → dR t c k = 0
  | [], _, _, _, _ => rfl
  | (c', k', v) :: t, h, c, k, hc => by
    have h1 := h (c', k', v) (List.mem_cons_self ..)
    rw [dR, e_set_cell (by simp only at h1; omega)]
    exact dR_hi t (fun e he => h e (List.mem_cons_of_mem _ he)) c k hc
theorem clr_dI {n i : Nat} {t : List (Nat × Nat × Int32)} (h : ∀ e, e ∈ t → e.1 ≤ n) : e_clr 0 (dI t) (n + 1) i = dI t := by
  funext c k
  unfold e_clr
  by_cases q : n + 1 ≤ c ∧ c < n + 1 + i
  · rw [if_pos q]; exact (dI_hi t h c k (by omega)).symm
  · rw [if_neg q]
theorem clr_dR {n i : Nat} {t : List (Nat × Nat × Nat)} (h : ∀ e, e ∈ t → e.1 ≤ n) : e_clr 0 (dR t) (n + 1) i = dR t := by
  funext c k
  unfold e_clr
  by_cases q : n + 1 ≤ c ∧ c < n + 1 + i
  · rw [if_pos q]; exact (dR_hi t h c k (by omega)).symm
  · rw [if_neg q]
theorem mul_dR {n : Nat} {t : List (Nat × Nat × Nat)} : ∀ i, dR (mul n t i) = fun c k => if c = n + 1 ∧ k < i then n + 2 + k else dR t c k
  | 0 => by
    funext c k
    rw [if_neg (by omega)]
    rfl
  | i + 1 => by
    funext c k
    rw [mul, dR, mul_dR i]
    unfold e_set
    by_cases q : c = n + 1 ∧ k = i
    · rw [if_pos q, if_pos ⟨q.1, by omega⟩, q.2]
    · rw [if_neg q]
      dsimp only
      by_cases r : c = n + 1 ∧ k < i
      · rw [if_pos r, if_pos ⟨r.1, by omega⟩]
      · rw [if_neg r, if_neg (by omega)]
theorem mul_le {n : Nat} {t : List (Nat × Nat × Nat)} (h : ∀ e, e ∈ t → e.1 ≤ n) : ∀ i, ∀ e, e ∈ mul n t i → e.1 ≤ n + 25
  | 0, e, he => by have := h e he; omega
  | i + 1, e, he => by
    rw [mul] at he
    rcases List.mem_cons.mp he with q | q
    · rw [q]; simp only; omega
    · exact mul_le h i e q
theorem okD.up {D : e_Dm} (h : okD D) {i : Nat} : okD (D.1 + i, D.2.1, D.2.2) := ⟨fun e he => Nat.le_trans (h.1 e he) (Nat.le_add_right _ _), fun e he => Nat.le_trans (h.2 e he) (Nat.le_add_right _ _)⟩
theorem okD.i {D : e_Dm} (h : okD D) {q k : Nat} {v : Int32} (hq : q ≤ D.1) : okD (D.1, (q, k, v) :: D.2.1, D.2.2) := ⟨fun e he => by
  rcases List.mem_cons.mp he with r | r
  · rw [r]; exact hq
  · exact h.1 e r, h.2⟩
theorem okD.r {D : e_Dm} (h : okD D) {q k v : Nat} (hq : q ≤ D.1) : okD (D.1, D.2.1, (q, k, v) :: D.2.2) := ⟨h.1, fun e he => by
  rcases List.mem_cons.mp he with r | r
  · rw [r]; exact hq
  · exact h.2 e r⟩
section P51
variable {xs : Nat → Int32} {L : Nat}
set_option maxHeartbeats 2000000 in
theorem oneD {op : e_Op} {lv : e_Lv} {st : List Value} {D : e_Dm} {z : e_Sd} (h : e_oneD op lv st D = some z) (ok : okD D) : e_one xs L op lv st (den D) = some (z.1, z.2.1, z.2.2.1, den z.2.2.2) ∧ okD z.2.2.2 := by
  obtain ⟨pc, ins, v, a, b, c⟩ := op
  cases ins
  case nop => cases h; exact ⟨rfl, ok⟩
  case iconst => cases h; exact ⟨rfl, ok⟩
  case bipush => cases h; exact ⟨rfl, ok⟩
  case sipush => cases h; exact ⟨rfl, ok⟩
  case goto => cases h; exact ⟨rfl, ok⟩
  case iload_n =>
    simp only [e_oneD] at h
    split at h
    · rename_i x hx
      cases h
      exact ⟨by simp only [e_one, hx], ok⟩
    · cases h
  case aload_n =>
    simp only [e_oneD] at h
    split at h
    · rename_i x hx
      cases h
      exact ⟨by simp only [e_one, hx], ok⟩
    · cases h
  case istore_n =>
    simp only [e_oneD] at h
    split at h
    · split at h
      · rename_i hx
        cases h
        exact ⟨by simp only [e_one, hx, if_true], ok⟩
      · cases h
    · cases h
  case iinc =>
    simp only [e_oneD] at h
    split at h
    · rename_i x hx
      split at h
      · rename_i hy
        cases h
        exact ⟨by simp only [e_one, hx, hy, if_true], ok⟩
      · cases h
    · cases h
  case iadd =>
    simp only [e_oneD] at h
    split at h
    · cases h
      exact ⟨rfl, ok⟩
    · cases h
  case dup =>
    simp only [e_oneD] at h
    split at h
    · cases h
      exact ⟨rfl, ok⟩
    · cases h
  case if_icmp =>
    simp only [e_oneD] at h
    split at h
    · cases h
      exact ⟨rfl, ok⟩
    · cases h
  case getfield =>
    simp only [e_oneD] at h
    split at h
    · split at h
      · rename_i hx
        cases h
        refine ⟨?_, ok⟩
        simp only [e_one]
        rw [if_pos (by exact hx.1), if_pos hx.2]
        rfl
      · cases h
    · cases h
  case putfield =>
    simp only [e_oneD] at h
    split at h
    · split at h
      · rename_i hx
        cases h
        refine ⟨?_, ok.i hx.1.2.1⟩
        simp only [e_one]
        rw [if_pos ⟨by exact hx.1, by rw [hx.2]; decide, by rw [hx.2]; intro q; cases q⟩]
        rfl
      · cases h
    · split at h
      · rename_i hx
        cases h
        refine ⟨?_, ok.r hx.1.2.1⟩
        simp only [e_one]
        rw [if_pos (by exact hx)]
        rfl
      · cases h
    · cases h
  case iastore =>
    simp only [e_oneD] at h
    split at h
    · split at h
      · rename_i hx
        cases h
        refine ⟨?_, ok.i hx.2.1⟩
        simp only [e_one]
        rw [if_pos (by exact hx)]
        rfl
      · cases h
    · cases h
  case aastore =>
    simp only [e_oneD] at h
    split at h
    · split at h
      · rename_i hx
        cases h
        refine ⟨?_, ok.r hx.2.1⟩
        simp only [e_one]
        rw [if_pos (by exact hx)]
        rfl
      · cases h
    · cases h
  case new =>
    simp only [e_oneD] at h
    split at h
    · rename_i hx
      cases h
      refine ⟨?_, ok.up⟩
      simp only [e_one]
      rw [if_pos (by exact hx)]
      show some (none, lv, Value.ref (D.1 + 1) :: st, (D.1 + 1, e_clr 0 (dI D.2.1) (D.1 + 1) 1, e_clr 0 (dR D.2.2) (D.1 + 1) 1)) = _
      rw [clr_dI ok.1, clr_dR ok.2]
      rfl
    · cases h
  case newarray =>
    simp only [e_oneD] at h
    split at h
    · split at h
      · rename_i hx
        cases h
        refine ⟨?_, ok.up⟩
        simp only [e_one]
        rw [if_pos (by exact hx)]
        show some (none, lv, Value.ref (D.1 + 1) :: _, (D.1 + 1, e_clr 0 (dI D.2.1) (D.1 + 1) 1, e_clr 0 (dR D.2.2) (D.1 + 1) 1)) = _
        rw [clr_dI ok.1, clr_dR ok.2]
        rfl
      · cases h
    · cases h
  case anewarray =>
    simp only [e_oneD] at h
    split at h
    · split at h
      · rename_i hx
        cases h
        refine ⟨?_, ok.up⟩
        simp only [e_one]
        rw [if_pos (by exact hx)]
        show some (none, lv, Value.ref (D.1 + 1) :: _, (D.1 + 1, e_clr 0 (dI D.2.1) (D.1 + 1) 1, e_clr 0 (dR D.2.2) (D.1 + 1) 1)) = _
        rw [clr_dI ok.1, clr_dR ok.2]
        rfl
      · cases h
    · cases h
  case multianewarray =>
    simp only [e_oneD] at h
    split at h
    · split at h
      · rename_i hx
        cases h
        refine ⟨?_, ⟨fun e he => Nat.le_trans (ok.1 e he) (Nat.le_add_right _ _), mul_le ok.2 24⟩⟩
        simp only [e_one]
        rw [if_pos (by exact hx)]
        show some (none, lv, Value.ref (D.1 + 1) :: _, (D.1 + 25, e_clr 0 (dI D.2.1) (D.1 + 1) 25, fun c' k' => if c' = D.1 + 1 ∧ k' < 24 then D.1 + 2 + k' else e_clr 0 (dR D.2.2) (D.1 + 1) 25 c' k')) = some (none, lv, _, (D.1 + 25, dI D.2.1, dR (mul D.1 D.2.2 24)))
        rw [clr_dI ok.1, clr_dR ok.2, mul_dR]
      · cases h
    · cases h
  case invokespecial =>
    simp only [e_oneD] at h
    split at h
    · split at h
      · rename_i hx
        cases h
        refine ⟨?_, ok⟩
        simp only [e_one]
        rw [if_pos hx]
      · cases h
    · cases h
  all_goals exact nomatch (show (none : Option e_Sd) = some z from h)
abbrev e_Rd : Type := Option Value × e_Dm
def e_evD : Nat → List e_Op → e_Lv → List Value → e_Dm → Option e_Rd
  | 0, _, _, _, _ => none
  | _ + 1, [], _, _, _ => none
  | f + 1, op :: is, lv, st, D => match e_kind op with
    | 0 => match e_oneD op lv st D with
      | none => none
      | some (none, lv', st', D') => e_evD f is lv' st' D'
      | some (some t, lv', st', D') => e_evD f (e_lbl t) lv' st' D'
    | 1 => (e_ret op st).map fun r => (r, D)
    | k => if op.2.2.2.2.1 ≤ st.length ∧ e_slw (st.drop op.2.2.2.2.1) ≤ 8 ∧ (k = 3 → e_recv ((st.take op.2.2.2.2.1).getLast?) D.1 (e_mC op.2.2.2.2.2) = true) ∧ e_slw (st.take op.2.2.2.2.1) ≤ e_mL op.2.2.2.2.2 then
        match e_evD f (e_lbl op.2.2.2.1) (lv_args 0 (st.take op.2.2.2.2.1).reverse) [] D with
        | none => none
        | some (r, D') => e_evD f is lv (r.toList ++ st.drop op.2.2.2.2.1) D'
      else none
theorem evD : ∀ (f : Nat) (is : List e_Op) (lv : e_Lv) (st : List Value) (D : e_Dm) (r : Option Value) (D' : e_Dm), okD D → e_evD f is lv st D = some (r, D') → e_ev xs L f is lv st (den D) = some (r, den D') ∧ okD D'
  | 0, _, _, _, _, _, _, _, h => by simp [e_evD] at h
  | f + 1, [], _, _, _, _, _, _, h => by simp [e_evD] at h
  | f + 1, op :: is, lv, st, D, r, D', ok, h => by
    rcases hk : e_kind op with _ | _ | k
    · simp only [e_evD, hk] at h
      simp only [e_ev, hk]
      cases h1 : e_oneD op lv st D with
      | none => rw [h1] at h; cases h
      | some z =>
        have q := oneD (xs := xs) (L := L) h1 ok
        obtain ⟨j, lv', st', M'⟩ := z
        rw [h1] at h
        rw [q.1]
        cases j with
        | none => exact evD f _ _ _ _ _ _ q.2 h
        | some t => exact evD f _ _ _ _ _ _ q.2 h
    · simp only [e_evD, hk] at h
      simp only [e_ev, hk]
      cases h1 : e_ret op st with
      | none => rw [h1] at h; cases h
      | some z =>
        rw [h1] at h
        cases h
        exact ⟨rfl, ok⟩
    · simp only [e_evD, hk] at h
      simp only [e_ev, hk]
      split at h
      · rename_i hc
        rw [if_pos (by exact hc)]
        cases h1 : e_evD f (e_lbl op.2.2.2.1) (lv_args 0 (st.take op.2.2.2.2.1).reverse) [] D with
        | none => rw [h1] at h; cases h
        | some z =>
          obtain ⟨r1, D1⟩ := z
          rw [h1] at h
          have q := evD f _ _ _ _ _ _ ok h1
          rw [q.1]
          exact evD f _ _ _ _ _ _ q.2 h
      · cases h
end P51
