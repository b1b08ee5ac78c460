/-! the cells as the constructors leave them -/
def nd (B k : Nat) : Nat := B + 3 + 3 * k
def rg (B k : Nat) : Nat := B + 4 + 3 * k
def bk (B k : Nat) : Nat := B + 5 + 3 * k
def e_fb (B : Nat) : Prop := B = 2 ∨ B = 72 ∨ B = 102 ∨ B = 132
def e_blk (B c k : Nat) : Nat := if c = B then (if k = 4 then B + 1 else if k = 5 then B + 2 else 0) else if c = B + 1 then 0 else if c = B + 2 then (if k < 9 then B + 3 + 3 * k else 0) else if (c - B) % 3 = 0 then (if k = 4 then c + 1 else if k = 5 then c + 2 else 0) else 0
def e_rl (c : Nat) : List Nat := match c with
  | 1 => [2, 32, 36, 68, 70, 162, 163]
  | 32 => [33, 34, 35]
  | 36 => [37, 41, 66, 67, 0]
  | 37 => [38, 39, 40]
  | 41 => [42, 43, 44, 45, 46, 47, 48, 49, 50, 51, 52, 53, 54, 55, 56, 57, 58, 59, 60, 61, 62, 63, 64, 65]
  | 68 => [69]
  | 70 => [71]
  | 164 => [165, 166, 0, 167, 0, 168, 169, 170, 171, 0, 172, 173]
  | _ => []
def e_R0 (c k : Nat) : Nat := if 2 ≤ c ∧ c < 32 then e_blk 2 c k else if 72 ≤ c ∧ c < 102 then e_blk 72 c k else if 102 ≤ c ∧ c < 132 then e_blk 102 c k else if 132 ≤ c ∧ c < 162 then e_blk 132 c k else (e_rl c).getD k 0
/-- the references: all stay as they were made, but the three saved states' places -/
def e_rs (sv : Nat → Nat) (c k : Nat) : Nat := if c = 71 then (if k < 3 then sv k else 0) else e_R0 c k
theorem R_1_0 (sv : Nat → Nat) : e_rs sv 1 0 = 2 := rfl
theorem R_1_1 (sv : Nat → Nat) : e_rs sv 1 1 = 32 := rfl
theorem R_1_2 (sv : Nat → Nat) : e_rs sv 1 2 = 36 := rfl
theorem R_1_3 (sv : Nat → Nat) : e_rs sv 1 3 = 68 := rfl
theorem R_1_4 (sv : Nat → Nat) : e_rs sv 1 4 = 70 := rfl
theorem R_1_5 (sv : Nat → Nat) : e_rs sv 1 5 = 162 := rfl
theorem R_1_6 (sv : Nat → Nat) : e_rs sv 1 6 = 163 := rfl
theorem R_32_0 (sv : Nat → Nat) : e_rs sv 32 0 = 33 := rfl
theorem R_32_1 (sv : Nat → Nat) : e_rs sv 32 1 = 34 := rfl
theorem R_32_2 (sv : Nat → Nat) : e_rs sv 32 2 = 35 := rfl
theorem R_36_0 (sv : Nat → Nat) : e_rs sv 36 0 = 37 := rfl
theorem R_36_1 (sv : Nat → Nat) : e_rs sv 36 1 = 41 := rfl
theorem R_36_2 (sv : Nat → Nat) : e_rs sv 36 2 = 66 := rfl
theorem R_36_3 (sv : Nat → Nat) : e_rs sv 36 3 = 67 := rfl
theorem R_37_0 (sv : Nat → Nat) : e_rs sv 37 0 = 38 := rfl
theorem R_37_1 (sv : Nat → Nat) : e_rs sv 37 1 = 39 := rfl
theorem R_37_2 (sv : Nat → Nat) : e_rs sv 37 2 = 40 := rfl
theorem R_68_0 (sv : Nat → Nat) : e_rs sv 68 0 = 69 := rfl
theorem R_70_0 (sv : Nat → Nat) : e_rs sv 70 0 = 71 := rfl
theorem R_164_0 (sv : Nat → Nat) : e_rs sv 164 0 = 165 := rfl
theorem R_164_1 (sv : Nat → Nat) : e_rs sv 164 1 = 166 := rfl
theorem R_164_3 (sv : Nat → Nat) : e_rs sv 164 3 = 167 := rfl
theorem R_164_5 (sv : Nat → Nat) : e_rs sv 164 5 = 168 := rfl
theorem R_164_6 (sv : Nat → Nat) : e_rs sv 164 6 = 169 := rfl
theorem R_164_7 (sv : Nat → Nat) : e_rs sv 164 7 = 170 := rfl
theorem R_164_8 (sv : Nat → Nat) : e_rs sv 164 8 = 171 := rfl
theorem R_164_10 (sv : Nat → Nat) : e_rs sv 164 10 = 172 := rfl
theorem R_164_11 (sv : Nat → Nat) : e_rs sv 164 11 = 173 := rfl
theorem R_2_4 (sv : Nat → Nat) : e_rs sv 2 4 = 3 := rfl
theorem R_2_5 (sv : Nat → Nat) : e_rs sv 2 5 = 4 := rfl
theorem R_41 (sv : Nat → Nat) : ∀ k, k < 24 → e_rs sv 41 k = 42 + k := by
  intro k hk
  unfold e_rs
  rw [if_neg (by decide)]
  revert k
  decide
theorem R_4 (sv : Nat → Nat) {k : Nat} (hk : k < 9) : e_rs sv 4 k = nd 2 k := by
  unfold e_rs
  rw [if_neg (by decide)]
  revert k
  decide
theorem R_71 (sv : Nat → Nat) {k : Nat} (hk : k < 3) : e_rs sv 71 k = sv k := by
  unfold e_rs
  rw [if_pos rfl, if_pos hk]
theorem R_fb4 (sv : Nat → Nat) {B : Nat} (h : e_fb B) : e_rs sv B 4 = B + 1 := by rcases h with h | h | h | h <;> (subst h; rfl)
theorem R_fb5 (sv : Nat → Nat) {B : Nat} (h : e_fb B) : e_rs sv B 5 = B + 2 := by rcases h with h | h | h | h <;> (subst h; rfl)
theorem R_fbn (sv : Nat → Nat) {B k : Nat} (h : e_fb B) (hk : k < 9) : e_rs sv (B + 2) k = nd B k := by
  rcases h with h | h | h | h <;> (subst h; unfold e_rs; rw [if_neg (by decide)]; revert k; decide)
theorem R_nd4 (sv : Nat → Nat) {B k : Nat} (h : e_fb B) (hk : k < 9) : e_rs sv (nd B k) 4 = rg B k := by
  have e : ∀ k, k < 9 → nd B k ≠ 71 ∧ e_R0 (nd B k) 4 = rg B k := by rcases h with h | h | h | h <;> (subst h; decide)
  unfold e_rs
  rw [if_neg (e k hk).1, (e k hk).2]
theorem R_nd5 (sv : Nat → Nat) {B k : Nat} (h : e_fb B) (hk : k < 9) : e_rs sv (nd B k) 5 = bk B k := by
  have e : ∀ k, k < 9 → nd B k ≠ 71 ∧ e_R0 (nd B k) 5 = bk B k := by rcases h with h | h | h | h <;> (subst h; decide)
  unfold e_rs
  rw [if_neg (e k hk).1, (e k hk).2]
theorem e_rf_nd {B k : Nat} : e_rf (nd B k) = .ref (nd B k) := if_neg (by unfold nd; omega)
theorem e_rf_rg {B k : Nat} : e_rf (rg B k) = .ref (rg B k) := if_neg (by unfold rg; omega)
theorem e_rf_bk {B k : Nat} : e_rf (bk B k) = .ref (bk B k) := if_neg (by unfold bk; omega)
theorem e_rf_s {n : Nat} : e_rf (n + 1) = .ref (n + 1) := rfl
theorem e_rf_fb {B : Nat} (h : e_fb B) : e_rf B = .ref B := by rcases h with h | h | h | h <;> (subst h; rfl)
theorem e_rf_fb1 {B : Nat} : e_rf (B + 1) = .ref (B + 1) := rfl
theorem e_rf_fb2 {B : Nat} : e_rf (B + 2) = .ref (B + 2) := rfl
theorem ok_nd {B k : Nat} (h : e_fb B) (hk : k < 9) : e_okc (nd B k) 4 = true := by rcases h with h | h | h | h <;> (subst h; revert k; decide)
theorem ok_rg {B k : Nat} (h : e_fb B) (hk : k < 9) : e_okc (rg B k) 7 = true := by rcases h with h | h | h | h <;> (subst h; revert k; decide)
theorem ok_bk {B k : Nat} (h : e_fb B) (hk : k < 9) : e_okc (bk B k) 0 = true := by rcases h with h | h | h | h <;> (subst h; revert k; decide)
theorem ok_fb {B : Nat} (h : e_fb B) : e_okc B 1 = true := by rcases h with h | h | h | h <;> (subst h; rfl)
theorem ok_fb1 {B : Nat} (h : e_fb B) : e_okc (B + 1) 10 = true := by rcases h with h | h | h | h <;> (subst h; decide)
theorem sz_fb1 {B : Nat} (h : e_fb B) : e_sz (B + 1) = 24 := by rcases h with h | h | h | h <;> (subst h; decide)
theorem ok_fb2 {B : Nat} (h : e_fb B) : e_okc (B + 2) 13 = true := by rcases h with h | h | h | h <;> (subst h; decide)
theorem sz_fb2 {B : Nat} (h : e_fb B) : e_sz (B + 2) = 9 := by rcases h with h | h | h | h <;> (subst h; decide)
theorem e_fb2 : e_fb 2 := Or.inl rfl
theorem ok_row {k : Nat} (hk : k < 24) : e_okc (42 + k) 10 = true := by revert k; decide
theorem sz_row {k : Nat} (hk : k < 24) : e_sz (42 + k) = 33 := by revert k; decide
theorem ok_1 : e_okc 1 8 = true := by decide
theorem ok_32 : e_okc 32 2 = true := by decide
theorem ok_36 : e_okc 36 5 = true := by decide
theorem ok_37 : e_okc 37 2 = true := by decide
theorem ok_68 : e_okc 68 6 = true := by decide
theorem ok_70 : e_okc 70 3 = true := by decide
theorem ok_164 : e_okc 164 9 = true := by decide
theorem ok_2 : e_okc 2 1 = true := by decide
theorem ok_3 : e_okc 3 10 = true := by decide
theorem sz_3 : e_sz 3 = 24 := by decide
theorem ok_4 : e_okc 4 13 = true := by decide
theorem sz_4 : e_sz 4 = 9 := by decide
theorem ok_33 : e_okc 33 10 = true := by decide
theorem sz_33 : e_sz 33 = 9 := by decide
theorem ok_34 : e_okc 34 10 = true := by decide
theorem sz_34 : e_sz 34 = 9 := by decide
theorem ok_35 : e_okc 35 10 = true := by decide
theorem sz_35 : e_sz 35 = 9 := by decide
theorem ok_38 : e_okc 38 10 = true := by decide
theorem sz_38 : e_sz 38 = 9 := by decide
theorem ok_39 : e_okc 39 10 = true := by decide
theorem sz_39 : e_sz 39 = 9 := by decide
theorem ok_40 : e_okc 40 10 = true := by decide
theorem sz_40 : e_sz 40 = 9 := by decide
theorem ok_41 : e_okc 41 14 = true := by decide
theorem sz_41 : e_sz 41 = 24 := by decide
theorem ok_66 : e_okc 66 10 = true := by decide
theorem sz_66 : e_sz 66 = 33 := by decide
theorem ok_67 : e_okc 67 10 = true := by decide
theorem sz_67 : e_sz 67 = 24 := by decide
theorem ok_69 : e_okc 69 11 = true := by decide
theorem sz_69 : e_sz 69 = 120 := by decide
theorem ok_71 : e_okc 71 12 = true := by decide
theorem sz_71 : e_sz 71 = 3 := by decide
theorem ok_162 : e_okc 162 10 = true := by decide
theorem sz_162 : e_sz 162 = 24 := by decide
theorem ok_163 : e_okc 163 10 = true := by decide
theorem sz_163 : e_sz 163 = 5 := by decide
theorem ok_165 : e_okc 165 10 = true := by decide
theorem sz_165 : e_sz 165 = 220 := by decide
theorem ok_166 : e_okc 166 10 = true := by decide
theorem sz_166 : e_sz 166 = 660 := by decide
theorem ok_167 : e_okc 167 10 = true := by decide
theorem sz_167 : e_sz 167 = 120 := by decide
theorem ok_168 : e_okc 168 10 = true := by decide
theorem sz_168 : e_sz 168 = 7 := by decide
theorem ok_169 : e_okc 169 10 = true := by decide
theorem sz_169 : e_sz 169 = 9 := by decide
theorem ok_170 : e_okc 170 10 = true := by decide
theorem sz_170 : e_sz 170 = 9 := by decide
theorem ok_171 : e_okc 171 10 = true := by decide
theorem sz_171 : e_sz 171 = 9 := by decide
theorem ok_172 : e_okc 172 10 = true := by decide
theorem sz_172 : e_sz 172 = 24 := by decide
theorem ok_173 : e_okc 173 10 = true := by decide
theorem sz_173 : e_sz 173 = 792 := by decide
theorem e_in_nI {k n : Nat} (hk : k < n) (hn : n ≤ 1000) : e_in (nI k) n = true := by
  refine decide_eq_true ?_
  rw [nI_toInt (by omega)]
  omega
theorem tn_0 : (0 : Int32).toNatClampNeg = 0 := by decide
theorem tn_1 : (1 : Int32).toNatClampNeg = 1 := by decide
theorem tn_2 : (2 : Int32).toNatClampNeg = 2 := by decide
theorem tn_3 : (3 : Int32).toNatClampNeg = 3 := by decide
theorem tn_4 : (4 : Int32).toNatClampNeg = 4 := by decide
theorem tn_5 : (5 : Int32).toNatClampNeg = 5 := by decide
theorem tn_6 : (6 : Int32).toNatClampNeg = 6 := by decide
theorem tn_7 : (7 : Int32).toNatClampNeg = 7 := by decide
theorem tn_8 : (8 : Int32).toNatClampNeg = 8 := by decide
theorem tn_9 : (9 : Int32).toNatClampNeg = 9 := by decide
theorem tn_10 : (10 : Int32).toNatClampNeg = 10 := by decide
theorem tn_11 : (11 : Int32).toNatClampNeg = 11 := by decide
theorem tn_12 : (12 : Int32).toNatClampNeg = 12 := by decide
theorem tn_13 : (13 : Int32).toNatClampNeg = 13 := by decide
theorem tn_14 : (14 : Int32).toNatClampNeg = 14 := by decide
theorem tn_15 : (15 : Int32).toNatClampNeg = 15 := by decide
theorem tn_16 : (16 : Int32).toNatClampNeg = 16 := by decide
theorem tn_17 : (17 : Int32).toNatClampNeg = 17 := by decide
theorem tn_18 : (18 : Int32).toNatClampNeg = 18 := by decide
theorem tn_19 : (19 : Int32).toNatClampNeg = 19 := by decide
theorem tn_20 : (20 : Int32).toNatClampNeg = 20 := by decide
theorem tn_21 : (21 : Int32).toNatClampNeg = 21 := by decide
theorem tn_22 : (22 : Int32).toNatClampNeg = 22 := by decide
theorem tn_23 : (23 : Int32).toNatClampNeg = 23 := by decide
theorem tn_24 : (24 : Int32).toNatClampNeg = 24 := by decide
theorem tn_25 : (25 : Int32).toNatClampNeg = 25 := by decide
theorem tn_26 : (26 : Int32).toNatClampNeg = 26 := by decide
theorem tn_27 : (27 : Int32).toNatClampNeg = 27 := by decide
theorem in_0 {n : Nat} (h : 0 < n) : e_in 0 n = true := decide_eq_true ⟨by decide, by show (0 : Int) < n; omega⟩
theorem in_1 {n : Nat} (h : 1 < n) : e_in 1 n = true := decide_eq_true ⟨by decide, by show (1 : Int) < n; omega⟩
theorem in_2 {n : Nat} (h : 2 < n) : e_in 2 n = true := decide_eq_true ⟨by decide, by show (2 : Int) < n; omega⟩
theorem in_3 {n : Nat} (h : 3 < n) : e_in 3 n = true := decide_eq_true ⟨by decide, by show (3 : Int) < n; omega⟩
theorem in_4 {n : Nat} (h : 4 < n) : e_in 4 n = true := decide_eq_true ⟨by decide, by show (4 : Int) < n; omega⟩
theorem in_5 {n : Nat} (h : 5 < n) : e_in 5 n = true := decide_eq_true ⟨by decide, by show (5 : Int) < n; omega⟩
theorem in_6 {n : Nat} (h : 6 < n) : e_in 6 n = true := decide_eq_true ⟨by decide, by show (6 : Int) < n; omega⟩
theorem in_7 {n : Nat} (h : 7 < n) : e_in 7 n = true := decide_eq_true ⟨by decide, by show (7 : Int) < n; omega⟩
theorem in_8 {n : Nat} (h : 8 < n) : e_in 8 n = true := decide_eq_true ⟨by decide, by show (8 : Int) < n; omega⟩
theorem in_9 {n : Nat} (h : 9 < n) : e_in 9 n = true := decide_eq_true ⟨by decide, by show (9 : Int) < n; omega⟩
theorem in_10 {n : Nat} (h : 10 < n) : e_in 10 n = true := decide_eq_true ⟨by decide, by show (10 : Int) < n; omega⟩
theorem in_11 {n : Nat} (h : 11 < n) : e_in 11 n = true := decide_eq_true ⟨by decide, by show (11 : Int) < n; omega⟩
theorem in_12 {n : Nat} (h : 12 < n) : e_in 12 n = true := decide_eq_true ⟨by decide, by show (12 : Int) < n; omega⟩
theorem in_13 {n : Nat} (h : 13 < n) : e_in 13 n = true := decide_eq_true ⟨by decide, by show (13 : Int) < n; omega⟩
theorem in_14 {n : Nat} (h : 14 < n) : e_in 14 n = true := decide_eq_true ⟨by decide, by show (14 : Int) < n; omega⟩
theorem in_15 {n : Nat} (h : 15 < n) : e_in 15 n = true := decide_eq_true ⟨by decide, by show (15 : Int) < n; omega⟩
theorem in_16 {n : Nat} (h : 16 < n) : e_in 16 n = true := decide_eq_true ⟨by decide, by show (16 : Int) < n; omega⟩
theorem in_17 {n : Nat} (h : 17 < n) : e_in 17 n = true := decide_eq_true ⟨by decide, by show (17 : Int) < n; omega⟩
theorem in_18 {n : Nat} (h : 18 < n) : e_in 18 n = true := decide_eq_true ⟨by decide, by show (18 : Int) < n; omega⟩
theorem in_19 {n : Nat} (h : 19 < n) : e_in 19 n = true := decide_eq_true ⟨by decide, by show (19 : Int) < n; omega⟩
theorem in_20 {n : Nat} (h : 20 < n) : e_in 20 n = true := decide_eq_true ⟨by decide, by show (20 : Int) < n; omega⟩
theorem in_21 {n : Nat} (h : 21 < n) : e_in 21 n = true := decide_eq_true ⟨by decide, by show (21 : Int) < n; omega⟩
theorem in_22 {n : Nat} (h : 22 < n) : e_in 22 n = true := decide_eq_true ⟨by decide, by show (22 : Int) < n; omega⟩
theorem in_23 {n : Nat} (h : 23 < n) : e_in 23 n = true := decide_eq_true ⟨by decide, by show (23 : Int) < n; omega⟩
theorem in_24 {n : Nat} (h : 24 < n) : e_in 24 n = true := decide_eq_true ⟨by decide, by show (24 : Int) < n; omega⟩
theorem in_25 {n : Nat} (h : 25 < n) : e_in 25 n = true := decide_eq_true ⟨by decide, by show (25 : Int) < n; omega⟩
theorem in_26 {n : Nat} (h : 26 < n) : e_in 26 n = true := decide_eq_true ⟨by decide, by show (26 : Int) < n; omega⟩
theorem in_27 {n : Nat} (h : 27 < n) : e_in 27 n = true := decide_eq_true ⟨by decide, by show (27 : Int) < n; omega⟩
theorem nI_nat {k : Nat} (hk : k < 1000000000) : (nI k).toNatClampNeg = k := nI_clamp (by omega)
