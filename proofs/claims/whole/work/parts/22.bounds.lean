/-! bounds: the reference's voltages are the class's -/
def bt (a b : Int) (x : Int32) : Prop := a ≤ x.toInt ∧ x.toInt ≤ b
theorem bm_id {z : Int} (h1 : -2147483648 ≤ z) (h2 : z < 2147483648) : z.bmod (2 ^ 32) = z := Int.bmod_eq_of_le (by omega) (by omega)
theorem bt_mul {a b : Int32} {p q : Int} (hp : -2147483648 ≤ p) (hq : q < 2147483648) (h1 : p ≤ a.toInt * b.toInt) (h2 : a.toInt * b.toInt ≤ q) : (a * b).toInt = a.toInt * b.toInt := by
  rw [Int32.toInt_mul]
  exact bm_id (by omega) (by omega)
theorem bt_add {a b : Int32} (h1 : -2147483648 ≤ a.toInt + b.toInt) (h2 : a.toInt + b.toInt < 2147483648) : (a + b).toInt = a.toInt + b.toInt := by
  rw [Int32.toInt_add]
  exact bm_id h1 h2
theorem bt_sub {a b : Int32} (h1 : -2147483648 ≤ a.toInt - b.toInt) (h2 : a.toInt - b.toInt < 2147483648) : (a - b).toInt = a.toInt - b.toInt := by
  rw [Int32.toInt_sub]
  exact bm_id h1 h2
theorem i100 : (100 : Int32).toInt = 100 := by decide
theorem i160 : (160 : Int32).toInt = 160 := by decide
theorem i0 : (0 : Int32).toInt = 0 := by decide
theorem td_abs {z : Int} {d q : Int} (hd : 0 < d) (h1 : -(q * d) ≤ z) (h2 : z ≤ q * d) : -q ≤ z.tdiv d ∧ z.tdiv d ≤ q := by
  rcases Int.le_total 0 z with h | h
  · rw [Int.tdiv_eq_ediv_of_nonneg h]
    have a := Int.ediv_nonneg h (Int.le_of_lt hd)
    have b : z / d ≤ q := Int.ediv_le_of_le_mul hd h2
    omega
  · have e : z.tdiv d = -((-z).tdiv d) := by rw [Int.neg_tdiv]; omega
    rw [e, Int.tdiv_eq_ediv_of_nonneg (by omega)]
    have a := Int.ediv_nonneg (show 0 ≤ -z by omega) (Int.le_of_lt hd)
    have b : (-z) / d ≤ q := Int.ediv_le_of_le_mul hd (by omega)
    omega
theorem i_rng (a : Int32) : -2147483648 ≤ a.toInt ∧ a.toInt ≤ 2147483647 := by
  have h1 := Int32.minValue_le_toInt a
  have h2 := Int32.toInt_le a
  have e1 : Int32.minValue.toInt = -2147483648 := by decide
  have e2 : Int32.maxValue.toInt = 2147483647 := by decide
  omega
theorem bt_d100 {a : Int32} : (a / 100).toInt = a.toInt.tdiv 100 := by
  have r := i_rng a
  rw [Int32.toInt_div, i100]
  have h := td_abs (z := a.toInt) (d := 100) (q := 40000000) (by decide) (by omega) (by omega)
  exact bm_id (by omega) (by omega)
theorem bt_d160 {a : Int32} : (a / 160).toInt = a.toInt.tdiv 160 := by
  have r := i_rng a
  rw [Int32.toInt_div, i160]
  have h := td_abs (z := a.toInt) (d := 160) (q := 40000000) (by decide) (by omega) (by omega)
  exact bm_id (by omega) (by omega)
theorem mul_abs {a b p q : Int} (ha : -p ≤ a ∧ a ≤ p) (hb : 0 ≤ b ∧ b ≤ q) (hp : 0 ≤ p) : -(p * q) ≤ a * b ∧ a * b ≤ p * q := by
  have h1 : a * b ≤ p * b := Int.mul_le_mul_of_nonneg_right ha.2 hb.1
  have h2 : p * b ≤ p * q := Int.mul_le_mul_of_nonneg_left hb.2 hp
  have h3 : (-p) * b ≤ a * b := Int.mul_le_mul_of_nonneg_right ha.1 hb.1
  have h4 : (-p) * b = -(p * b) := Int.neg_mul p b
  omega
/-- what a row keeps to -/
def Ri (r : Nat → Int32) : Prop := (e_01 (r 4) ∧ e_01 (r 8) ∧ e_01 (r 14) ∧ e_01 (r 16) ∧ e_01 (r 23)) ∧ (r 16 = 0 → r 23 = 0 ∧ r 18 = 0) ∧ (r 4 = 0 → r 10 = 0) ∧ ¬ r 21 < 0 ∧ (bt 0 50 (r 0) ∧ bt 0 50 (r 1) ∧ bt (-500) 500 (r 2) ∧ bt (-300) 300 (r 3)) ∧ bt (-16) 16 (r 10) ∧ bt 0 300 (r 17)
def R0 (r : Nat → Int32) : Prop := bt 9000 11000 (r 1) ∧ ∀ h, h < 24 → bt 0 200 (r (4 + h))
def Iv (n : Nat) (w : e_Tb) : Prop := R0 (w 0) ∧ ∀ k, 1 ≤ k → k ≤ n → Ri (w k)
theorem ld_b {a f : Int32} {p : Int} (hp : 0 ≤ p) (hp2 : p ≤ 500) (ha : bt (-p) p a) (hf : bt 0 200 f) : bt (-(2 * p)) (2 * p) (a * f / 100) := by
  have h := mul_abs ha hf hp
  have e := bt_mul (a := a) (b := f) (p := -(p * 200)) (q := p * 200) (by omega) (by omega) h.1 h.2
  have t := td_abs (z := a.toInt * f.toInt) (d := 100) (q := 2 * p) (by decide) (by omega) (by omega)
  unfold bt
  rw [bt_d100, e]
  exact t
theorem sP_b {n : Nat} (hn : n ≤ 8) {w : e_Tb} (hI : Iv n w) {f : Int32} (hf : bt 0 200 f) : ∀ d k, 1 ≤ k → k + d ≤ n + 1 → bt (-(1000 * d)) (1000 * d) (sP w f d k)
  | 0, _, _, _ => by unfold sP bt; rw [i0]; omega
  | d + 1, k, h1, hd => by
    have ih := sP_b hn hI hf d (k + 1) (by omega) (by omega)
    have b := ld_b (p := 500) (by decide) (by decide) (hI.2 k h1 (by omega)).2.2.2.2.1.2.2.1 hf
    unfold bt at ih b ⊢
    rw [sP, bt_add (by omega) (by omega)]
    omega
theorem sSup_b {r : e_Tb} {k : Nat} {h pl : Int32} (hs : bt 0 300 (r k 17)) : bt 0 300 (sSup r h pl k) := by
  have g : ∀ (c : Prop) [Decidable c], bt 0 300 (if c then r k 17 else 0) := fun c _ => by
    split
    · exact hs
    · unfold bt; rw [i0]; omega
  unfold sSup
  exact g _
theorem sQ_b {n : Nat} (hn : n ≤ 8) {w : e_Tb} (hI : Iv n w) {f h pl : Int32} (hf : bt 0 200 f) : ∀ d k, 1 ≤ k → k + d ≤ n + 1 → bt (-(900 * d)) (900 * d) (sQ w f h pl d k)
  | 0, _, _, _ => by unfold sQ bt; rw [i0]; omega
  | d + 1, k, h1, hd => by
    have ih := sQ_b (h := h) (pl := pl) hn hI hf d (k + 1) (by omega) (by omega)
    have r := hI.2 k h1 (by omega)
    have b := ld_b (p := 300) (by decide) (by decide) r.2.2.2.2.1.2.2.2 hf
    have c := sSup_b (h := h) (pl := pl) r.2.2.2.2.2.2
    unfold bt at ih b c ⊢
    have e : (w k 3 * f / 100 - sSup w h pl k).toInt = (w k 3 * f / 100).toInt - (sSup w h pl k).toInt := bt_sub (by omega) (by omega)
    rw [sQ, bt_add (by rw [e]; omega) (by rw [e]; omega), e]
    omega
theorem fA_b {n h k : Nat} (hn : n ≤ 8) {w : e_Tb} (hI : Iv n w) (hh : h < 24) (h1 : 1 ≤ k) (h2 : k ≤ n) : bt (-8000) 8000 (fA w h n k) := by
  have b := sP_b hn hI (hI.1.2 h hh) (n + 1 - k) k h1 (by omega)
  unfold fA
  unfold bt at b ⊢
  omega
theorem fR_b {n h k : Nat} {pl : Int32} (hn : n ≤ 8) {w : e_Tb} (hI : Iv n w) (hh : h < 24) (h1 : 1 ≤ k) (h2 : k ≤ n) : bt (-7200) 7200 (fR w h pl n k) := by
  have b := sQ_b (h := nI h) (pl := pl) hn hI (hI.1.2 h hh) (n + 1 - k) k h1 (by omega)
  unfold fR
  unfold bt at b ⊢
  omega
theorem dr_b {r x A R : Int32} (hr : bt 0 50 r) (hx : bt 0 50 x) (hA : bt (-8000) 8000 A) (hR : bt (-7200) 7200 R) : bt (-7600) 7600 ((r * A + x * R) / 100) := by
  have h1 := mul_abs hA hr (by decide)
  have h2 := mul_abs hR hx (by decide)
  rw [Int.mul_comm A.toInt] at h1
  rw [Int.mul_comm R.toInt] at h2
  have e1 := bt_mul (a := r) (b := A) (p := -400000) (q := 400000) (by decide) (by decide) (by omega) (by omega)
  have e2 := bt_mul (a := x) (b := R) (p := -360000) (q := 360000) (by decide) (by decide) (by omega) (by omega)
  have e3 : (r * A + x * R).toInt = r.toInt * A.toInt + x.toInt * R.toInt := by rw [bt_add (by rw [e1, e2]; omega) (by rw [e1, e2]; omega), e1, e2]
  unfold bt
  rw [bt_d100, e3]
  exact td_abs (by decide) (by omega) (by omega)
theorem tr_b {u tp : Int32} {B : Int} (hB : B ≤ 10000000) (hu : bt 0 B u) (ht : bt (-16) 16 tp) : bt 0 (2 * B) (u * (160 + tp) / 160) := by
  unfold bt at hu ht
  have e0 : (160 + tp).toInt = 160 + tp.toInt := by rw [bt_add (by rw [i160]; omega) (by rw [i160]; omega), i160]
  have h1 : 0 ≤ u.toInt * (160 + tp.toInt) := Int.mul_nonneg hu.1 (by omega)
  have h2 : u.toInt * (160 + tp.toInt) ≤ u.toInt * 176 := Int.mul_le_mul_of_nonneg_left (by omega) hu.1
  have e1 := bt_mul (a := u) (b := 160 + tp) (p := 0) (q := 1760000000) (by decide) (by decide) (by rw [e0]; exact h1) (by rw [e0]; omega)
  unfold bt
  rw [bt_d160, e1, e0, Int.tdiv_eq_ediv_of_nonneg h1]
  omega
theorem tr_0 {u : Int32} {B : Int} (hB : B ≤ 10000000) (hu : bt 0 B u) : u * (160 + 0) / 160 = u := by
  unfold bt at hu
  rw [Int32.add_zero]
  have e1 := bt_mul (a := u) (b := 160) (p := 0) (q := 1600000000) (by decide) (by decide) (by rw [i160]; omega) (by rw [i160]; omega)
  apply Int32.toInt_inj.mp
  rw [bt_d160, e1, i160]
  exact Int.mul_tdiv_cancel _ (by decide)
def Bd : Nat → Int
  | 0 => 11000
  | k + 1 => 2 * Bd k + 7600
theorem Bd_le {k : Nat} (h : k ≤ 8) : Bd k ≤ 5000000 := by
  have : k = 0 ∨ k = 1 ∨ k = 2 ∨ k = 3 ∨ k = 4 ∨ k = 5 ∨ k = 6 ∨ k = 7 ∨ k = 8 := by omega
  rcases this with rfl | rfl | rfl | rfl | rfl | rfl | rfl | rfl | rfl <;> decide
theorem sW_sV {n : Nat} (hn : n ≤ 8) {w : e_Tb} (hI : Iv n w) {A R : Nat → Int32} {seg tp : Int32} (hA : ∀ k, 1 ≤ k → k ≤ n → bt (-8000) 8000 (A k) ∧ bt (-7200) 7200 (R k)) (hs : ∀ k, 1 ≤ k → k ≤ n → nI k = seg → ¬ w k 4 = 0) (ht : bt (-16) 16 tp) :
    ∀ k, k ≤ n → bt 0 (Bd k) (sV w A R seg tp k) ∧ sW w A R seg tp k = sV w A R seg tp k
  | 0, _ => ⟨⟨by have := hI.1.1.1; rw [sV]; omega, hI.1.1.2⟩, rfl⟩
  | k + 1, hk => by
    have ih := sW_sV hn hI hA hs ht k (by omega)
    have r := hI.2 (k + 1) (by omega) hk
    have hB := Bd_le (k := k) (by omega)
    have a := hA (k + 1) (by omega) hk
    have d := dr_b r.2.2.2.2.1.1 r.2.2.2.2.1.2.1 a.1 a.2
    have ht' : bt (-16) 16 (if nI (k + 1) = seg then tp else w (k + 1) 10) := by
      split
      · exact ht
      · exact r.2.2.2.2.2.1
    have t := tr_b (by omega) ih.1 ht'
    constructor
    · rw [sV]
      have e := bt_sub (a := sV w A R seg tp k * (160 + (if nI (k + 1) = seg then tp else w (k + 1) 10)) / 160) (b := (w (k + 1) 0 * A (k + 1) + w (k + 1) 1 * R (k + 1)) / 100) (by unfold bt at t d; omega) (by unfold bt at t d; omega)
      have h0 := ih.1
      have cl : ∀ X : Int32, X.toInt ≤ Bd (k + 1) → bt 0 (Bd (k + 1)) (if X < 0 then 0 else X) := fun X hX => by
        split
        · unfold bt at h0 ⊢; rw [i0, Bd]; omega
        · rename_i hx
          rw [Int32.lt_iff_toInt_lt, i0] at hx
          exact ⟨by omega, hX⟩
      refine cl _ ?_
      rw [e, Bd]
      unfold bt at t d
      omega
    · rw [sW, sV, ih.2]
      rcases r.1.1 with h4 | h4
      · have n1 : ¬ w (k + 1) 4 = 1 := by rw [h4]; decide
        simp only [n1, if_false]
        rw [if_neg (fun h => hs (k + 1) (by omega) hk h h4), r.2.2.1 h4, tr_0 (by omega) ih.1]
      · simp only [h4, if_true]
theorem fW_fV {n h : Nat} (hn : n ≤ 8) {w : e_Tb} (hI : Iv n w) (hh : h < 24) {pl seg tp : Int32} (hs : ∀ k, 1 ≤ k → k ≤ n → nI k = seg → ¬ w k 4 = 0) (ht : bt (-16) 16 tp) {k : Nat} (hk : k ≤ n) : fW w h pl n seg tp k = fV w h pl n seg tp k :=
  (sW_sV hn hI (fun _ a b => ⟨fA_b hn hI hh a b, fR_b hn hI hh a b⟩) hs ht k hk).2
theorem nI_n0 {k : Nat} (h1 : 1 ≤ k) (h2 : k ≤ 8) : ¬ nI k = 0 := fun h => by
  have e : (nI k).toNatClampNeg = k := nI_nat (by omega)
  rw [h] at e
  have : (0 : Int32).toNatClampNeg = 0 := by decide
  omega
theorem fW_fV0 {n h : Nat} (hn : n ≤ 8) {w : e_Tb} (hI : Iv n w) (hh : h < 24) {pl : Int32} {k : Nat} (hk : k ≤ n) : fW w h pl n 0 0 k = fV w h pl n 0 0 k :=
  fW_fV hn hI hh (fun _ a b e => absurd e (nI_n0 a (by omega))) (by unfold bt; rw [i0]; omega) hk
