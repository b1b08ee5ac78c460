/-! the feeder as a table: row 0 what is of the whole, row k what is of node k, in the order of the reference -/
def e_val (k i : Nat) : Prop := (k = 0 ∧ i < 28) ∨ (1 ≤ k ∧ k ≤ 8 ∧ i < 24)
def e_valb (k i : Nat) : Bool := decide ((k = 0 ∧ i < 28) ∨ (1 ≤ k ∧ k ≤ 8 ∧ i < 24))
theorem e_valb_iff {k i : Nat} : e_valb k i = true ↔ e_val k i := by unfold e_valb e_val; exact decide_eq_true_iff
def vl (B k i : Nat) : Nat := if k = 0 then (if i < 4 then B else B + 1) else if i < 4 then nd B k else if i < 16 then rg B k else bk B k
def vs (k i : Nat) : Nat := if k = 0 then (if i = 2 then 3 else if i = 3 then 2 else if i < 4 then i else i - 4) else match i with
  | 0 => 0
  | 1 => 1
  | 2 => 2
  | 3 => 3
  | 4 => 0
  | 5 => 1
  | 6 => 2
  | 7 => 3
  | 8 => 4
  | 9 => 6
  | 10 => 5
  | 11 => 9
  | 12 => 10
  | 13 => 11
  | 14 => 8
  | 15 => 7
  | 16 => 0
  | 17 => 1
  | 18 => 2
  | 19 => 3
  | 20 => 4
  | 21 => 5
  | 22 => 7
  | 23 => 6
  | _ => 0
def vw (B : Nat) (m : Nat → Nat → Int32) (k i : Nat) : Int32 := if e_valb k i = true then m (vl B k i) (vs k i) else 0
def vi (B c s : Nat) : Nat × Nat := if c = B then (0, if s = 2 then 3 else if s = 3 then 2 else s) else if c = B + 1 then (0, s + 4) else if (c - B) % 3 = 0 then ((c - B - 3) / 3, s) else if (c - B) % 3 = 1 then ((c - B - 4) / 3, match s with
    | 0 => 4
    | 1 => 5
    | 2 => 6
    | 3 => 7
    | 4 => 8
    | 6 => 9
    | 5 => 10
    | 9 => 11
    | 10 => 12
    | 11 => 13
    | 8 => 14
    | 7 => 15
    | _ => 0)
  else ((c - B - 5) / 3, match s with
    | 0 => 16
    | 1 => 17
    | 2 => 18
    | 3 => 19
    | 4 => 20
    | 5 => 21
    | 7 => 22
    | 6 => 23
    | _ => 0)
theorem vi_vl (B : Nat) {k i : Nat} (h : e_val k i) : vi B (vl B k i) (vs k i) = (k, i) := by
  rcases h with ⟨rfl, h⟩ | ⟨h1, h2, h⟩
  · unfold vi vl vs
    simp only [if_true]
    by_cases h4 : i < 4
    · simp only [h4, if_true]
      have : i = 0 ∨ i = 1 ∨ i = 2 ∨ i = 3 := by omega
      rcases this with rfl | rfl | rfl | rfl <;> rfl
    · simp only [h4, if_false]
      rw [if_neg (show ¬ B + 1 = B by omega), if_pos trivial, if_neg (show ¬ i = 2 by omega), if_neg (show ¬ i = 3 by omega)]
      congr 1
      omega
  · have e0 : (nd B k - B) % 3 = 0 ∧ (nd B k - B - 3) / 3 = k ∧ nd B k ≠ B ∧ nd B k ≠ B + 1 := by unfold nd; omega
    have e1 : (rg B k - B) % 3 = 1 ∧ (rg B k - B - 4) / 3 = k ∧ rg B k ≠ B ∧ rg B k ≠ B + 1 := by unfold rg; omega
    have e2 : (bk B k - B) % 3 = 2 ∧ (bk B k - B - 5) / 3 = k ∧ bk B k ≠ B ∧ bk B k ≠ B + 1 := by unfold bk; omega
    have hk : ¬ k = 0 := by omega
    unfold vl vs vi
    simp only [hk, if_false]
    match i, h with
    | 0, _ => simp [e0, e1, e2]
    | 1, _ => simp [e0, e1, e2]
    | 2, _ => simp [e0, e1, e2]
    | 3, _ => simp [e0, e1, e2]
    | 4, _ => simp [e0, e1, e2]
    | 5, _ => simp [e0, e1, e2]
    | 6, _ => simp [e0, e1, e2]
    | 7, _ => simp [e0, e1, e2]
    | 8, _ => simp [e0, e1, e2]
    | 9, _ => simp [e0, e1, e2]
    | 10, _ => simp [e0, e1, e2]
    | 11, _ => simp [e0, e1, e2]
    | 12, _ => simp [e0, e1, e2]
    | 13, _ => simp [e0, e1, e2]
    | 14, _ => simp [e0, e1, e2]
    | 15, _ => simp [e0, e1, e2]
    | 16, _ => simp [e0, e1, e2]
    | 17, _ => simp [e0, e1, e2]
    | 18, _ => simp [e0, e1, e2]
    | 19, _ => simp [e0, e1, e2]
    | 20, _ => simp [e0, e1, e2]
    | 21, _ => simp [e0, e1, e2]
    | 22, _ => simp [e0, e1, e2]
    | 23, _ => simp [e0, e1, e2]
    | i + 24, h => omega
theorem vw_set {B k i : Nat} {m : Nat → Nat → Int32} {v : Int32} (h : e_val k i) : vw B (e_set m (vl B k i) (vs k i) v) = e_set (vw B m) k i v := by
  funext k' i'
  unfold vw
  by_cases hv : e_valb k' i' = true
  · rw [if_pos hv]
    unfold e_set
    by_cases he : k' = k ∧ i' = i
    · rw [he.1, he.2, if_pos ⟨rfl, rfl⟩, if_pos ⟨rfl, rfl⟩]
    · rw [if_neg he, if_neg (fun q => he ?_)]
      · exact (if_pos hv).symm
      · have e1 := vi_vl B h
        rw [← q.1, ← q.2, vi_vl B (e_valb_iff.mp hv)] at e1
        exact Prod.mk.inj e1
  · rw [if_neg hv]
    unfold e_set
    rw [if_neg (fun q => hv (by rw [q.1, q.2]; exact e_valb_iff.mpr h))]
    exact (if_neg hv).symm
theorem vl_in (B : Nat) {k i : Nat} (h : e_val k i) : B ≤ vl B k i ∧ vl B k i < B + 30 := by
  unfold vl nd rg bk
  rcases h with ⟨rfl, h⟩ | ⟨h1, h2, h⟩
  · simp only [if_true]
    split <;> omega
  · rw [if_neg (by omega)]
    split
    · omega
    · split <;> omega
theorem vw_cong {B : Nat} {m m' : Nat → Nat → Int32} (h : ∀ c, B ≤ c → c < B + 30 → m' c = m c) : vw B m' = vw B m := by
  funext k i
  unfold vw
  by_cases hv : e_valb k i = true
  · rw [if_pos hv, if_pos hv]
    have := vl_in B (e_valb_iff.mp hv)
    rw [h _ this.1 this.2]
  · rw [if_neg hv, if_neg hv]
theorem vw_out {B c s : Nat} {m : Nat → Nat → Int32} {v : Int32} (h : c < B ∨ B + 30 ≤ c) : vw B (e_set m c s v) = vw B m := vw_cong (fun c' h1 h2 => by funext s'; exact e_set_cell (by omega))
theorem vr_nd0 {B k : Nat} {m : Nat → Nat → Int32} (h1 : 1 ≤ k) (h2 : k ≤ 8) : vw B m k 0 = m (nd B k) 0 := by
  have hk : ¬ k = 0 := by omega
  unfold vw
  rw [if_pos (e_valb_iff.mpr (Or.inr ⟨h1, h2, by decide⟩))]
  unfold vl vs
  simp only [hk, if_false]
  rfl
theorem vu_nd0 {B k : Nat} {m : Nat → Nat → Int32} {v : Int32} (h1 : 1 ≤ k) (h2 : k ≤ 8) : vw B (e_set m (nd B k) 0 v) = e_set (vw B m) k 0 v := by
  have hk : ¬ k = 0 := by omega
  have h := vw_set (B := B) (m := m) (v := v) (k := k) (i := 0) (Or.inr ⟨h1, h2, by decide⟩)
  rw [← h]
  unfold vl vs
  simp only [hk, if_false]
  rfl
theorem vr_nd1 {B k : Nat} {m : Nat → Nat → Int32} (h1 : 1 ≤ k) (h2 : k ≤ 8) : vw B m k 1 = m (nd B k) 1 := by
  have hk : ¬ k = 0 := by omega
  unfold vw
  rw [if_pos (e_valb_iff.mpr (Or.inr ⟨h1, h2, by decide⟩))]
  unfold vl vs
  simp only [hk, if_false]
  rfl
theorem vu_nd1 {B k : Nat} {m : Nat → Nat → Int32} {v : Int32} (h1 : 1 ≤ k) (h2 : k ≤ 8) : vw B (e_set m (nd B k) 1 v) = e_set (vw B m) k 1 v := by
  have hk : ¬ k = 0 := by omega
  have h := vw_set (B := B) (m := m) (v := v) (k := k) (i := 1) (Or.inr ⟨h1, h2, by decide⟩)
  rw [← h]
  unfold vl vs
  simp only [hk, if_false]
  rfl
theorem vr_nd2 {B k : Nat} {m : Nat → Nat → Int32} (h1 : 1 ≤ k) (h2 : k ≤ 8) : vw B m k 2 = m (nd B k) 2 := by
  have hk : ¬ k = 0 := by omega
  unfold vw
  rw [if_pos (e_valb_iff.mpr (Or.inr ⟨h1, h2, by decide⟩))]
  unfold vl vs
  simp only [hk, if_false]
  rfl
theorem vu_nd2 {B k : Nat} {m : Nat → Nat → Int32} {v : Int32} (h1 : 1 ≤ k) (h2 : k ≤ 8) : vw B (e_set m (nd B k) 2 v) = e_set (vw B m) k 2 v := by
  have hk : ¬ k = 0 := by omega
  have h := vw_set (B := B) (m := m) (v := v) (k := k) (i := 2) (Or.inr ⟨h1, h2, by decide⟩)
  rw [← h]
  unfold vl vs
  simp only [hk, if_false]
  rfl
theorem vr_nd3 {B k : Nat} {m : Nat → Nat → Int32} (h1 : 1 ≤ k) (h2 : k ≤ 8) : vw B m k 3 = m (nd B k) 3 := by
  have hk : ¬ k = 0 := by omega
  unfold vw
  rw [if_pos (e_valb_iff.mpr (Or.inr ⟨h1, h2, by decide⟩))]
  unfold vl vs
  simp only [hk, if_false]
  rfl
theorem vu_nd3 {B k : Nat} {m : Nat → Nat → Int32} {v : Int32} (h1 : 1 ≤ k) (h2 : k ≤ 8) : vw B (e_set m (nd B k) 3 v) = e_set (vw B m) k 3 v := by
  have hk : ¬ k = 0 := by omega
  have h := vw_set (B := B) (m := m) (v := v) (k := k) (i := 3) (Or.inr ⟨h1, h2, by decide⟩)
  rw [← h]
  unfold vl vs
  simp only [hk, if_false]
  rfl
theorem vr_rg0 {B k : Nat} {m : Nat → Nat → Int32} (h1 : 1 ≤ k) (h2 : k ≤ 8) : vw B m k 4 = m (rg B k) 0 := by
  have hk : ¬ k = 0 := by omega
  unfold vw
  rw [if_pos (e_valb_iff.mpr (Or.inr ⟨h1, h2, by decide⟩))]
  unfold vl vs
  simp only [hk, if_false]
  rfl
theorem vu_rg0 {B k : Nat} {m : Nat → Nat → Int32} {v : Int32} (h1 : 1 ≤ k) (h2 : k ≤ 8) : vw B (e_set m (rg B k) 0 v) = e_set (vw B m) k 4 v := by
  have hk : ¬ k = 0 := by omega
  have h := vw_set (B := B) (m := m) (v := v) (k := k) (i := 4) (Or.inr ⟨h1, h2, by decide⟩)
  rw [← h]
  unfold vl vs
  simp only [hk, if_false]
  rfl
theorem vr_rg1 {B k : Nat} {m : Nat → Nat → Int32} (h1 : 1 ≤ k) (h2 : k ≤ 8) : vw B m k 5 = m (rg B k) 1 := by
  have hk : ¬ k = 0 := by omega
  unfold vw
  rw [if_pos (e_valb_iff.mpr (Or.inr ⟨h1, h2, by decide⟩))]
  unfold vl vs
  simp only [hk, if_false]
  rfl
theorem vu_rg1 {B k : Nat} {m : Nat → Nat → Int32} {v : Int32} (h1 : 1 ≤ k) (h2 : k ≤ 8) : vw B (e_set m (rg B k) 1 v) = e_set (vw B m) k 5 v := by
  have hk : ¬ k = 0 := by omega
  have h := vw_set (B := B) (m := m) (v := v) (k := k) (i := 5) (Or.inr ⟨h1, h2, by decide⟩)
  rw [← h]
  unfold vl vs
  simp only [hk, if_false]
  rfl
theorem vr_rg2 {B k : Nat} {m : Nat → Nat → Int32} (h1 : 1 ≤ k) (h2 : k ≤ 8) : vw B m k 6 = m (rg B k) 2 := by
  have hk : ¬ k = 0 := by omega
  unfold vw
  rw [if_pos (e_valb_iff.mpr (Or.inr ⟨h1, h2, by decide⟩))]
  unfold vl vs
  simp only [hk, if_false]
  rfl
theorem vu_rg2 {B k : Nat} {m : Nat → Nat → Int32} {v : Int32} (h1 : 1 ≤ k) (h2 : k ≤ 8) : vw B (e_set m (rg B k) 2 v) = e_set (vw B m) k 6 v := by
  have hk : ¬ k = 0 := by omega
  have h := vw_set (B := B) (m := m) (v := v) (k := k) (i := 6) (Or.inr ⟨h1, h2, by decide⟩)
  rw [← h]
  unfold vl vs
  simp only [hk, if_false]
  rfl
theorem vr_rg3 {B k : Nat} {m : Nat → Nat → Int32} (h1 : 1 ≤ k) (h2 : k ≤ 8) : vw B m k 7 = m (rg B k) 3 := by
  have hk : ¬ k = 0 := by omega
  unfold vw
  rw [if_pos (e_valb_iff.mpr (Or.inr ⟨h1, h2, by decide⟩))]
  unfold vl vs
  simp only [hk, if_false]
  rfl
theorem vu_rg3 {B k : Nat} {m : Nat → Nat → Int32} {v : Int32} (h1 : 1 ≤ k) (h2 : k ≤ 8) : vw B (e_set m (rg B k) 3 v) = e_set (vw B m) k 7 v := by
  have hk : ¬ k = 0 := by omega
  have h := vw_set (B := B) (m := m) (v := v) (k := k) (i := 7) (Or.inr ⟨h1, h2, by decide⟩)
  rw [← h]
  unfold vl vs
  simp only [hk, if_false]
  rfl
theorem vr_rg4 {B k : Nat} {m : Nat → Nat → Int32} (h1 : 1 ≤ k) (h2 : k ≤ 8) : vw B m k 8 = m (rg B k) 4 := by
  have hk : ¬ k = 0 := by omega
  unfold vw
  rw [if_pos (e_valb_iff.mpr (Or.inr ⟨h1, h2, by decide⟩))]
  unfold vl vs
  simp only [hk, if_false]
  rfl
theorem vu_rg4 {B k : Nat} {m : Nat → Nat → Int32} {v : Int32} (h1 : 1 ≤ k) (h2 : k ≤ 8) : vw B (e_set m (rg B k) 4 v) = e_set (vw B m) k 8 v := by
  have hk : ¬ k = 0 := by omega
  have h := vw_set (B := B) (m := m) (v := v) (k := k) (i := 8) (Or.inr ⟨h1, h2, by decide⟩)
  rw [← h]
  unfold vl vs
  simp only [hk, if_false]
  rfl
theorem vr_rg6 {B k : Nat} {m : Nat → Nat → Int32} (h1 : 1 ≤ k) (h2 : k ≤ 8) : vw B m k 9 = m (rg B k) 6 := by
  have hk : ¬ k = 0 := by omega
  unfold vw
  rw [if_pos (e_valb_iff.mpr (Or.inr ⟨h1, h2, by decide⟩))]
  unfold vl vs
  simp only [hk, if_false]
  rfl
theorem vu_rg6 {B k : Nat} {m : Nat → Nat → Int32} {v : Int32} (h1 : 1 ≤ k) (h2 : k ≤ 8) : vw B (e_set m (rg B k) 6 v) = e_set (vw B m) k 9 v := by
  have hk : ¬ k = 0 := by omega
  have h := vw_set (B := B) (m := m) (v := v) (k := k) (i := 9) (Or.inr ⟨h1, h2, by decide⟩)
  rw [← h]
  unfold vl vs
  simp only [hk, if_false]
  rfl
theorem vr_rg5 {B k : Nat} {m : Nat → Nat → Int32} (h1 : 1 ≤ k) (h2 : k ≤ 8) : vw B m k 10 = m (rg B k) 5 := by
  have hk : ¬ k = 0 := by omega
  unfold vw
  rw [if_pos (e_valb_iff.mpr (Or.inr ⟨h1, h2, by decide⟩))]
  unfold vl vs
  simp only [hk, if_false]
  rfl
theorem vu_rg5 {B k : Nat} {m : Nat → Nat → Int32} {v : Int32} (h1 : 1 ≤ k) (h2 : k ≤ 8) : vw B (e_set m (rg B k) 5 v) = e_set (vw B m) k 10 v := by
  have hk : ¬ k = 0 := by omega
  have h := vw_set (B := B) (m := m) (v := v) (k := k) (i := 10) (Or.inr ⟨h1, h2, by decide⟩)
  rw [← h]
  unfold vl vs
  simp only [hk, if_false]
  rfl
theorem vr_rg9 {B k : Nat} {m : Nat → Nat → Int32} (h1 : 1 ≤ k) (h2 : k ≤ 8) : vw B m k 11 = m (rg B k) 9 := by
  have hk : ¬ k = 0 := by omega
  unfold vw
  rw [if_pos (e_valb_iff.mpr (Or.inr ⟨h1, h2, by decide⟩))]
  unfold vl vs
  simp only [hk, if_false]
  rfl
theorem vu_rg9 {B k : Nat} {m : Nat → Nat → Int32} {v : Int32} (h1 : 1 ≤ k) (h2 : k ≤ 8) : vw B (e_set m (rg B k) 9 v) = e_set (vw B m) k 11 v := by
  have hk : ¬ k = 0 := by omega
  have h := vw_set (B := B) (m := m) (v := v) (k := k) (i := 11) (Or.inr ⟨h1, h2, by decide⟩)
  rw [← h]
  unfold vl vs
  simp only [hk, if_false]
  rfl
theorem vr_rg10 {B k : Nat} {m : Nat → Nat → Int32} (h1 : 1 ≤ k) (h2 : k ≤ 8) : vw B m k 12 = m (rg B k) 10 := by
  have hk : ¬ k = 0 := by omega
  unfold vw
  rw [if_pos (e_valb_iff.mpr (Or.inr ⟨h1, h2, by decide⟩))]
  unfold vl vs
  simp only [hk, if_false]
  rfl
theorem vu_rg10 {B k : Nat} {m : Nat → Nat → Int32} {v : Int32} (h1 : 1 ≤ k) (h2 : k ≤ 8) : vw B (e_set m (rg B k) 10 v) = e_set (vw B m) k 12 v := by
  have hk : ¬ k = 0 := by omega
  have h := vw_set (B := B) (m := m) (v := v) (k := k) (i := 12) (Or.inr ⟨h1, h2, by decide⟩)
  rw [← h]
  unfold vl vs
  simp only [hk, if_false]
  rfl
theorem vr_rg11 {B k : Nat} {m : Nat → Nat → Int32} (h1 : 1 ≤ k) (h2 : k ≤ 8) : vw B m k 13 = m (rg B k) 11 := by
  have hk : ¬ k = 0 := by omega
  unfold vw
  rw [if_pos (e_valb_iff.mpr (Or.inr ⟨h1, h2, by decide⟩))]
  unfold vl vs
  simp only [hk, if_false]
  rfl
theorem vu_rg11 {B k : Nat} {m : Nat → Nat → Int32} {v : Int32} (h1 : 1 ≤ k) (h2 : k ≤ 8) : vw B (e_set m (rg B k) 11 v) = e_set (vw B m) k 13 v := by
  have hk : ¬ k = 0 := by omega
  have h := vw_set (B := B) (m := m) (v := v) (k := k) (i := 13) (Or.inr ⟨h1, h2, by decide⟩)
  rw [← h]
  unfold vl vs
  simp only [hk, if_false]
  rfl
theorem vr_rg8 {B k : Nat} {m : Nat → Nat → Int32} (h1 : 1 ≤ k) (h2 : k ≤ 8) : vw B m k 14 = m (rg B k) 8 := by
  have hk : ¬ k = 0 := by omega
  unfold vw
  rw [if_pos (e_valb_iff.mpr (Or.inr ⟨h1, h2, by decide⟩))]
  unfold vl vs
  simp only [hk, if_false]
  rfl
theorem vu_rg8 {B k : Nat} {m : Nat → Nat → Int32} {v : Int32} (h1 : 1 ≤ k) (h2 : k ≤ 8) : vw B (e_set m (rg B k) 8 v) = e_set (vw B m) k 14 v := by
  have hk : ¬ k = 0 := by omega
  have h := vw_set (B := B) (m := m) (v := v) (k := k) (i := 14) (Or.inr ⟨h1, h2, by decide⟩)
  rw [← h]
  unfold vl vs
  simp only [hk, if_false]
  rfl
theorem vr_rg7 {B k : Nat} {m : Nat → Nat → Int32} (h1 : 1 ≤ k) (h2 : k ≤ 8) : vw B m k 15 = m (rg B k) 7 := by
  have hk : ¬ k = 0 := by omega
  unfold vw
  rw [if_pos (e_valb_iff.mpr (Or.inr ⟨h1, h2, by decide⟩))]
  unfold vl vs
  simp only [hk, if_false]
  rfl
theorem vu_rg7 {B k : Nat} {m : Nat → Nat → Int32} {v : Int32} (h1 : 1 ≤ k) (h2 : k ≤ 8) : vw B (e_set m (rg B k) 7 v) = e_set (vw B m) k 15 v := by
  have hk : ¬ k = 0 := by omega
  have h := vw_set (B := B) (m := m) (v := v) (k := k) (i := 15) (Or.inr ⟨h1, h2, by decide⟩)
  rw [← h]
  unfold vl vs
  simp only [hk, if_false]
  rfl
theorem vr_bk0 {B k : Nat} {m : Nat → Nat → Int32} (h1 : 1 ≤ k) (h2 : k ≤ 8) : vw B m k 16 = m (bk B k) 0 := by
  have hk : ¬ k = 0 := by omega
  unfold vw
  rw [if_pos (e_valb_iff.mpr (Or.inr ⟨h1, h2, by decide⟩))]
  unfold vl vs
  simp only [hk, if_false]
  rfl
theorem vu_bk0 {B k : Nat} {m : Nat → Nat → Int32} {v : Int32} (h1 : 1 ≤ k) (h2 : k ≤ 8) : vw B (e_set m (bk B k) 0 v) = e_set (vw B m) k 16 v := by
  have hk : ¬ k = 0 := by omega
  have h := vw_set (B := B) (m := m) (v := v) (k := k) (i := 16) (Or.inr ⟨h1, h2, by decide⟩)
  rw [← h]
  unfold vl vs
  simp only [hk, if_false]
  rfl
theorem vr_bk1 {B k : Nat} {m : Nat → Nat → Int32} (h1 : 1 ≤ k) (h2 : k ≤ 8) : vw B m k 17 = m (bk B k) 1 := by
  have hk : ¬ k = 0 := by omega
  unfold vw
  rw [if_pos (e_valb_iff.mpr (Or.inr ⟨h1, h2, by decide⟩))]
  unfold vl vs
  simp only [hk, if_false]
  rfl
theorem vu_bk1 {B k : Nat} {m : Nat → Nat → Int32} {v : Int32} (h1 : 1 ≤ k) (h2 : k ≤ 8) : vw B (e_set m (bk B k) 1 v) = e_set (vw B m) k 17 v := by
  have hk : ¬ k = 0 := by omega
  have h := vw_set (B := B) (m := m) (v := v) (k := k) (i := 17) (Or.inr ⟨h1, h2, by decide⟩)
  rw [← h]
  unfold vl vs
  simp only [hk, if_false]
  rfl
theorem vr_bk2 {B k : Nat} {m : Nat → Nat → Int32} (h1 : 1 ≤ k) (h2 : k ≤ 8) : vw B m k 18 = m (bk B k) 2 := by
  have hk : ¬ k = 0 := by omega
  unfold vw
  rw [if_pos (e_valb_iff.mpr (Or.inr ⟨h1, h2, by decide⟩))]
  unfold vl vs
  simp only [hk, if_false]
  rfl
theorem vu_bk2 {B k : Nat} {m : Nat → Nat → Int32} {v : Int32} (h1 : 1 ≤ k) (h2 : k ≤ 8) : vw B (e_set m (bk B k) 2 v) = e_set (vw B m) k 18 v := by
  have hk : ¬ k = 0 := by omega
  have h := vw_set (B := B) (m := m) (v := v) (k := k) (i := 18) (Or.inr ⟨h1, h2, by decide⟩)
  rw [← h]
  unfold vl vs
  simp only [hk, if_false]
  rfl
theorem vr_bk3 {B k : Nat} {m : Nat → Nat → Int32} (h1 : 1 ≤ k) (h2 : k ≤ 8) : vw B m k 19 = m (bk B k) 3 := by
  have hk : ¬ k = 0 := by omega
  unfold vw
  rw [if_pos (e_valb_iff.mpr (Or.inr ⟨h1, h2, by decide⟩))]
  unfold vl vs
  simp only [hk, if_false]
  rfl
theorem vu_bk3 {B k : Nat} {m : Nat → Nat → Int32} {v : Int32} (h1 : 1 ≤ k) (h2 : k ≤ 8) : vw B (e_set m (bk B k) 3 v) = e_set (vw B m) k 19 v := by
  have hk : ¬ k = 0 := by omega
  have h := vw_set (B := B) (m := m) (v := v) (k := k) (i := 19) (Or.inr ⟨h1, h2, by decide⟩)
  rw [← h]
  unfold vl vs
  simp only [hk, if_false]
  rfl
theorem vr_bk4 {B k : Nat} {m : Nat → Nat → Int32} (h1 : 1 ≤ k) (h2 : k ≤ 8) : vw B m k 20 = m (bk B k) 4 := by
  have hk : ¬ k = 0 := by omega
  unfold vw
  rw [if_pos (e_valb_iff.mpr (Or.inr ⟨h1, h2, by decide⟩))]
  unfold vl vs
  simp only [hk, if_false]
  rfl
theorem vu_bk4 {B k : Nat} {m : Nat → Nat → Int32} {v : Int32} (h1 : 1 ≤ k) (h2 : k ≤ 8) : vw B (e_set m (bk B k) 4 v) = e_set (vw B m) k 20 v := by
  have hk : ¬ k = 0 := by omega
  have h := vw_set (B := B) (m := m) (v := v) (k := k) (i := 20) (Or.inr ⟨h1, h2, by decide⟩)
  rw [← h]
  unfold vl vs
  simp only [hk, if_false]
  rfl
theorem vr_bk5 {B k : Nat} {m : Nat → Nat → Int32} (h1 : 1 ≤ k) (h2 : k ≤ 8) : vw B m k 21 = m (bk B k) 5 := by
  have hk : ¬ k = 0 := by omega
  unfold vw
  rw [if_pos (e_valb_iff.mpr (Or.inr ⟨h1, h2, by decide⟩))]
  unfold vl vs
  simp only [hk, if_false]
  rfl
theorem vu_bk5 {B k : Nat} {m : Nat → Nat → Int32} {v : Int32} (h1 : 1 ≤ k) (h2 : k ≤ 8) : vw B (e_set m (bk B k) 5 v) = e_set (vw B m) k 21 v := by
  have hk : ¬ k = 0 := by omega
  have h := vw_set (B := B) (m := m) (v := v) (k := k) (i := 21) (Or.inr ⟨h1, h2, by decide⟩)
  rw [← h]
  unfold vl vs
  simp only [hk, if_false]
  rfl
theorem vr_bk7 {B k : Nat} {m : Nat → Nat → Int32} (h1 : 1 ≤ k) (h2 : k ≤ 8) : vw B m k 22 = m (bk B k) 7 := by
  have hk : ¬ k = 0 := by omega
  unfold vw
  rw [if_pos (e_valb_iff.mpr (Or.inr ⟨h1, h2, by decide⟩))]
  unfold vl vs
  simp only [hk, if_false]
  rfl
theorem vu_bk7 {B k : Nat} {m : Nat → Nat → Int32} {v : Int32} (h1 : 1 ≤ k) (h2 : k ≤ 8) : vw B (e_set m (bk B k) 7 v) = e_set (vw B m) k 22 v := by
  have hk : ¬ k = 0 := by omega
  have h := vw_set (B := B) (m := m) (v := v) (k := k) (i := 22) (Or.inr ⟨h1, h2, by decide⟩)
  rw [← h]
  unfold vl vs
  simp only [hk, if_false]
  rfl
theorem vr_bk6 {B k : Nat} {m : Nat → Nat → Int32} (h1 : 1 ≤ k) (h2 : k ≤ 8) : vw B m k 23 = m (bk B k) 6 := by
  have hk : ¬ k = 0 := by omega
  unfold vw
  rw [if_pos (e_valb_iff.mpr (Or.inr ⟨h1, h2, by decide⟩))]
  unfold vl vs
  simp only [hk, if_false]
  rfl
theorem vu_bk6 {B k : Nat} {m : Nat → Nat → Int32} {v : Int32} (h1 : 1 ≤ k) (h2 : k ≤ 8) : vw B (e_set m (bk B k) 6 v) = e_set (vw B m) k 23 v := by
  have hk : ¬ k = 0 := by omega
  have h := vw_set (B := B) (m := m) (v := v) (k := k) (i := 23) (Or.inr ⟨h1, h2, by decide⟩)
  rw [← h]
  unfold vl vs
  simp only [hk, if_false]
  rfl
theorem vr_g0 {B : Nat} {m : Nat → Nat → Int32} : vw B m 0 0 = m B 0 := rfl
theorem vu_g0 {B : Nat} {m : Nat → Nat → Int32} {v : Int32} : vw B (e_set m B 0 v) = e_set (vw B m) 0 0 v := vw_set (k := 0) (i := 0) (Or.inl ⟨rfl, by decide⟩)
theorem vr_g1 {B : Nat} {m : Nat → Nat → Int32} : vw B m 0 1 = m B 1 := rfl
theorem vu_g1 {B : Nat} {m : Nat → Nat → Int32} {v : Int32} : vw B (e_set m B 1 v) = e_set (vw B m) 0 1 v := vw_set (k := 0) (i := 1) (Or.inl ⟨rfl, by decide⟩)
theorem vr_g3 {B : Nat} {m : Nat → Nat → Int32} : vw B m 0 2 = m B 3 := rfl
theorem vu_g3 {B : Nat} {m : Nat → Nat → Int32} {v : Int32} : vw B (e_set m B 3 v) = e_set (vw B m) 0 2 v := vw_set (k := 0) (i := 2) (Or.inl ⟨rfl, by decide⟩)
theorem vr_g2 {B : Nat} {m : Nat → Nat → Int32} : vw B m 0 3 = m B 2 := rfl
theorem vu_g2 {B : Nat} {m : Nat → Nat → Int32} {v : Int32} : vw B (e_set m B 2 v) = e_set (vw B m) 0 3 v := vw_set (k := 0) (i := 3) (Or.inl ⟨rfl, by decide⟩)
theorem vr_f {B h : Nat} {m : Nat → Nat → Int32} (hh : h < 24) : vw B m 0 (4 + h) = m (B + 1) h := by
  unfold vw
  rw [if_pos (e_valb_iff.mpr (Or.inl ⟨rfl, by omega⟩))]
  unfold vl vs
  simp only [if_true]
  rw [if_neg (by omega), if_neg (by omega), if_neg (by omega), if_neg (by omega)]
  congr 1
  omega
theorem vu_f {B h : Nat} {m : Nat → Nat → Int32} {v : Int32} (hh : h < 24) : vw B (e_set m (B + 1) h v) = e_set (vw B m) 0 (4 + h) v := by
  rw [← vw_set (k := 0) (i := 4 + h) (Or.inl ⟨rfl, by omega⟩)]
  unfold vl vs
  simp only [if_true]
  rw [if_neg (by omega), if_neg (by omega), if_neg (by omega), if_neg (by omega)]
  congr 2
  omega
/-! the reference's table: one row of numbers -/
def ix (k i : Nat) : Nat := 4 + 24 * k + i
def mp (k i : Nat) : Nat := if k = 0 then i else ix k i
def mw (c o : Nat) (m : Nat → Nat → Int32) (k i : Nat) : Int32 := if e_valb k i = true then m c (o + mp k i) else 0
theorem mp_inj {k i k' i' : Nat} (h : e_val k i) (h' : e_val k' i') (e : mp k i = mp k' i') : k = k' ∧ i = i' := by
  unfold mp ix at e
  rcases h with ⟨rfl, h⟩ | ⟨h1, h2, h⟩ <;> rcases h' with ⟨rfl, h'⟩ | ⟨h1', h2', h'⟩
  · simp at e; exact ⟨rfl, e⟩
  · rw [if_pos rfl, if_neg (by omega)] at e; omega
  · rw [if_neg (by omega), if_pos rfl] at e; omega
  · rw [if_neg (by omega), if_neg (by omega)] at e; omega
theorem mp_lt {k i : Nat} (h : e_val k i) : mp k i < 220 := by
  unfold mp ix
  rcases h with ⟨rfl, h⟩ | ⟨h1, h2, h⟩
  · simp; omega
  · rw [if_neg (by omega)]; omega
theorem mw_set {c o k i : Nat} {m : Nat → Nat → Int32} {v : Int32} (h : e_val k i) : mw c o (e_set m c (o + mp k i) v) = e_set (mw c o m) k i v := by
  funext k' i'
  unfold mw
  by_cases hv : e_valb k' i' = true
  · rw [if_pos hv]
    unfold e_set
    by_cases he : k' = k ∧ i' = i
    · rw [he.1, he.2, if_pos ⟨rfl, rfl⟩, if_pos ⟨rfl, rfl⟩]
    · rw [if_neg he, if_neg (fun q => he (mp_inj (e_valb_iff.mp hv) h (by omega)))]
      exact (if_pos hv).symm
  · rw [if_neg hv]
    unfold e_set
    rw [if_neg (fun q => hv (by rw [q.1, q.2]; exact e_valb_iff.mpr h))]
    exact (if_neg hv).symm
theorem mw_cell {c o c' s : Nat} {m : Nat → Nat → Int32} {v : Int32} (h : ¬ c' = c) : mw c o (e_set m c' s v) = mw c o m := by
  funext k i
  unfold mw
  rw [e_set_cell (fun q => h q.symm)]
theorem mw_cong {c o : Nat} {m m' : Nat → Nat → Int32} (h : m' c = m c) : mw c o m' = mw c o m := by
  funext k i
  unfold mw
  rw [h]
theorem mr_k {k i : Nat} {m : Nat → Nat → Int32} (h1 : 1 ≤ k) (h2 : k ≤ 8) (h3 : i < 24) : mw 165 0 m k i = m 165 (ix k i) := by
  unfold mw mp
  rw [if_pos (e_valb_iff.mpr (Or.inr ⟨h1, h2, h3⟩)), if_neg (by omega), Nat.zero_add]
theorem mu_k {k i : Nat} {m : Nat → Nat → Int32} {v : Int32} (h1 : 1 ≤ k) (h2 : k ≤ 8) (h3 : i < 24) : mw 165 0 (e_set m 165 (ix k i) v) = e_set (mw 165 0 m) k i v := by
  rw [← mw_set (Or.inr ⟨h1, h2, h3⟩)]
  unfold mp
  rw [if_neg (by omega), Nat.zero_add]
theorem mr_0 {i : Nat} {m : Nat → Nat → Int32} (h3 : i < 28) : mw 165 0 m 0 i = m 165 i := by
  unfold mw mp
  rw [if_pos (e_valb_iff.mpr (Or.inl ⟨rfl, h3⟩)), if_pos rfl, Nat.zero_add]
theorem mu_0 {i : Nat} {m : Nat → Nat → Int32} {v : Int32} (h3 : i < 28) : mw 165 0 (e_set m 165 i v) = e_set (mw 165 0 m) 0 i v := by
  rw [← mw_set (Or.inl ⟨rfl, h3⟩)]
  unfold mp
  rw [if_pos rfl, Nat.zero_add]
