/-! the plan, in plain numbers -/
def dst (a b : Nat) : Nat := if a < b then b - a else a - b
def mi (x z : Nat) : Nat := if z < x then z else x
def upA (a : Nat → Nat) : Nat → Nat
  | 0 => a 0
  | i + 1 => mi (a (i + 1)) (upA a i + 1)
def dnA (u : Nat → Nat) : Nat → Nat
  | 0 => u 32
  | k + 1 => mi (u (31 - k)) (dnA u k + 1)
def mn (a : Nat → Nat) (t : Nat) : Nat := dnA (upA a) (32 - t)
theorem dst_c {a b : Nat} : dst a b = dst b a := by unfold dst; split <;> split <;> omega
theorem dst_t {a b : Nat} : dst a a = 0 := by unfold dst; split <;> omega
theorem dst_le {a b : Nat} (ha : a < 33) (hb : b < 33) : dst a b ≤ 32 := by unfold dst; split <;> omega
theorem mi_l {x z : Nat} : mi x z ≤ x ∧ mi x z ≤ z ∧ (mi x z = x ∨ mi x z = z) := by unfold mi; split <;> omega
theorem upA_le {a : Nat → Nat} : ∀ i j, j ≤ i → upA a i ≤ a j + (i - j)
  | 0, j, h => by
    have : j = 0 := by omega
    subst this
    rw [upA]
    omega
  | i + 1, j, h => by
    rw [upA]
    have m := mi_l (x := a (i + 1)) (z := upA a i + 1)
    by_cases q : j = i + 1
    · subst q; omega
    · have := upA_le (a := a) i j (by omega)
      omega
theorem upA_at {a : Nat → Nat} : ∀ i, ∃ j, j ≤ i ∧ upA a i = a j + (i - j)
  | 0 => ⟨0, Nat.le_refl _, by rw [upA]; omega⟩
  | i + 1 => by
    rw [upA]
    have m := mi_l (x := a (i + 1)) (z := upA a i + 1)
    rcases m.2.2 with q | q
    · exact ⟨i + 1, Nat.le_refl _, by omega⟩
    · obtain ⟨j, h1, h2⟩ := upA_at (a := a) i
      exact ⟨j, by omega, by omega⟩
theorem dnA_le {u : Nat → Nat} : ∀ k j, k ≤ 32 → j ≤ 32 → 32 - k ≤ j → dnA u k ≤ u j + (j - (32 - k))
  | 0, j, hk, hj, h => by
    have : j = 32 := by omega
    subst this
    rw [dnA]
    omega
  | k + 1, j, hk, hj, h => by
    rw [dnA]
    have m := mi_l (x := u (31 - k)) (z := dnA u k + 1)
    by_cases q : j = 31 - k
    · subst q; omega
    · have := dnA_le (u := u) k j (by omega) hj (by omega)
      omega
theorem dnA_at {u : Nat → Nat} : ∀ k, k ≤ 32 → ∃ j, j ≤ 32 ∧ 32 - k ≤ j ∧ dnA u k = u j + (j - (32 - k))
  | 0, _ => ⟨32, Nat.le_refl _, by omega, by rw [dnA]; omega⟩
  | k + 1, hk => by
    rw [dnA]
    have m := mi_l (x := u (31 - k)) (z := dnA u k + 1)
    rcases m.2.2 with q | q
    · exact ⟨31 - k, by omega, by omega, by omega⟩
    · obtain ⟨j, h1, h2, h3⟩ := dnA_at (u := u) k (by omega)
      exact ⟨j, h1, by omega, by omega⟩
theorem mn_le {a : Nat → Nat} {t t' : Nat} (ht : t < 33) (ht' : t' < 33) : mn a t ≤ a t' + dst t t' := by
  unfold mn dst
  by_cases q : t < t'
  · rw [if_pos q]
    have h1 := dnA_le (u := upA a) (32 - t) t' (by omega) (by omega) (by omega)
    have h2 := upA_le (a := a) t' t' (Nat.le_refl _)
    omega
  · rw [if_neg q]
    have h1 := dnA_le (u := upA a) (32 - t) t (by omega) (by omega) (by omega)
    have h2 := upA_le (a := a) t t' (by omega)
    omega
theorem mn_at {a : Nat → Nat} {t : Nat} (ht : t < 33) : ∃ t', t' < 33 ∧ mn a t = a t' + dst t t' := by
  obtain ⟨j, j1, j2, j3⟩ := dnA_at (u := upA a) (32 - t) (by omega)
  obtain ⟨i, i1, i2⟩ := upA_at (a := a) j
  refine ⟨i, by omega, ?_⟩
  have h := mn_le (a := a) (t := t) (t' := i) ht (by omega)
  have e : mn a t = a i + (j - i) + (j - (32 - (32 - t))) := by
    unfold mn
    rw [j3, i2]
  have d : dst t i ≤ (j - i) + (j - (32 - (32 - t))) := by unfold dst; split <;> omega
  omega
theorem mn_cong {a b : Nat → Nat} {t : Nat} (ht : t < 33) (h : ∀ t, t < 33 → a t = b t) : mn a t = mn b t := by
  obtain ⟨x, x1, x2⟩ := mn_at (a := a) ht
  obtain ⟨y, y1, y2⟩ := mn_at (a := b) ht
  have p := mn_le (a := a) ht y1
  have q := mn_le (a := b) ht x1
  rw [h y y1] at p
  rw [h x x1] at x2
  omega
/-- the fewest steps that still come, before the last i hours, from tap t -/
def sF (al : Nat → Nat → Bool) : Nat → Nat → Nat
  | 0, _ => 0
  | i + 1, t => mn (fun t => if al (23 - i) t = true then sF al i t else 1000000) t
def sA (al : Nat → Nat → Bool) (i t : Nat) : Nat := if al (23 - i) t = true then sF al i t else 1000000
theorem sF_s {al : Nat → Nat → Bool} {i t : Nat} : sF al (i + 1) t = mn (sA al i) t := rfl
def anN (f : Nat → Bool) : Nat → Bool
  | 0 => false
  | t + 1 => anN f t || f t
def isN (al : Nat → Nat → Bool) : Nat → Bool
  | 0 => true
  | i + 1 => isN al i && anN (al (23 - i)) 33
theorem anN_t {f : Nat → Bool} : ∀ k, anN f k = true → ∃ t, t < k ∧ f t = true
  | 0, h => by simp [anN] at h
  | k + 1, h => by
    rw [anN] at h
    rcases (Bool.or_eq_true _ _).mp h with q | q
    · obtain ⟨t, h1, h2⟩ := anN_t k q
      exact ⟨t, by omega, h2⟩
    · exact ⟨k, by omega, q⟩
theorem anN_f {f : Nat → Bool} : ∀ k, anN f k = false → ∀ t, t < k → f t = false
  | 0, h, t, ht => by omega
  | k + 1, h, t, ht => by
    rw [anN] at h
    have h := (Bool.or_eq_false_iff).mp h
    by_cases q : t = k
    · rw [q]; exact h.2
    · exact anN_f k h.1 t (by omega)
theorem sF_fin {al : Nat → Nat → Bool} : ∀ i, isN al i = true → ∀ t, t < 33 → sF al i t ≤ 32 * i
  | 0, _, t, _ => by simp only [sF]; omega
  | i + 1, h, t, ht => by
    rw [isN] at h
    have h := (Bool.and_eq_true _ _).mp h
    obtain ⟨t0, a, b⟩ := anN_t 33 h.2
    have e := sF_fin i h.1 t0 a
    have l := mn_le (a := sA al i) ht a
    have s : sA al i t0 = sF al i t0 := if_pos b
    have d := dst_le ht a
    rw [sF_s]
    omega
theorem sF_le {al : Nat → Nat → Bool} : ∀ i t, t < 33 → sF al i t ≤ 1000000
  | 0, t, _ => by simp only [sF]; omega
  | i + 1, t, ht => by
    have l := mn_le (a := sA al i) ht ht
    rw [dst_t (b := 0)] at l
    have s : sA al i t ≤ 1000000 := by
      unfold sA
      split
      · exact sF_le i t ht
      · omega
    rw [sF_s]
    omega
theorem sA_le {al : Nat → Nat → Bool} {i t : Nat} (ht : t < 33) : sA al i t ≤ 1000000 := by
  unfold sA
  split
  · exact sF_le i t ht
  · omega
theorem sF_inf {al : Nat → Nat → Bool} : ∀ i, isN al i = false → ∀ t, t < 33 → 1000000 ≤ sF al i t
  | 0, h, t, _ => by simp [isN] at h
  | i + 1, h, t, ht => by
    rw [isN] at h
    have s : ∀ t', t' < 33 → 1000000 ≤ sA al i t' := fun t' h' => by
      unfold sA
      split
      · rename_i q
        cases hi : isN al i with
        | false => exact sF_inf i hi t' h'
        | true =>
          rw [hi, Bool.true_and] at h
          have := anN_f 33 h t' h'
          rw [this] at q
          cases q
      · omega
    obtain ⟨x, x1, x2⟩ := mn_at (a := sA al i) ht
    have := s x x1
    rw [sF_s]
    omega
/-- the class's choice: the first number is one more than the lowest tap with the fewest, 0 for none -/
def am (f : Nat → Nat) (b : Nat) : Nat → Nat × Nat
  | 0 => (0, 1000000)
  | k + 1 => if dst k b + f k < (am f b k).2 then (k + 1, dst k b + f k) else am f b k
/-- the reference's choice: the first number is one more than the tap, 0 for none -/
def bm (w : Nat → Nat) (b : Nat) : Nat → Nat × Nat
  | 0 => (0, 99999)
  | k + 1 => if w k < 99999 ∧ w k + dst k b < (bm w b k).2 then (k + 1, w k + dst k b) else bm w b k
theorem am_le {f : Nat → Nat} {b : Nat} : ∀ k, (am f b k).2 ≤ 1000000 ∧ (am f b k).1 ≤ k
  | 0 => ⟨Nat.le_refl _, Nat.le_refl _⟩
  | k + 1 => by
    have ih := am_le (f := f) (b := b) k
    rw [am]
    split
    · exact ⟨by simp only; omega, by simp only; omega⟩
    · omega
theorem bm_le {w : Nat → Nat} {b : Nat} : ∀ k, (bm w b k).2 ≤ 99999 ∧ (bm w b k).1 ≤ k
  | 0 => ⟨Nat.le_refl _, Nat.le_refl _⟩
  | k + 1 => by
    have ih := bm_le (w := w) (b := b) k
    rw [bm]
    split
    · exact ⟨by simp only; omega, by simp only; omega⟩
    · omega
def wA (f : Nat → Nat) (t : Nat) : Nat := if f t < 1000000 then f t else 99999
theorem am_bm {f : Nat → Nat} {b : Nat} (hb : b < 33) (hf : ∀ t, t < 33 → f t < 1000000 → f t ≤ 800) : ∀ k, k ≤ 33 →
    ((∀ t, t < k → 1000000 ≤ f t) ∧ bm (wA f) b k = (0, 99999) ∧ am f b k = (0, 1000000)) ∨
    (∃ x, x < k ∧ f x < 1000000 ∧ am f b k = (x + 1, dst x b + f x) ∧ bm (wA f) b k = (x + 1, dst x b + f x) ∧ ∀ t, t < k → dst x b + f x ≤ dst t b + f t)
  | 0, _ => Or.inl ⟨fun t ht => by omega, rfl, rfl⟩
  | k + 1, hk => by
    have d := dst_le (a := k) (b := b) (by omega) hb
    rcases am_bm hb hf k (by omega) with ⟨h1, h2, h3⟩ | ⟨x, x1, x2, x3, x4, x5⟩
    · by_cases q : f k < 1000000
      · have q8 := hf k (by omega) q
        refine Or.inr ⟨k, by omega, q, ?_, ?_, fun t ht => ?_⟩
        · rw [am, h3, if_pos (by simp only; omega)]
        · rw [bm, h2]
          unfold wA
          rw [if_pos q, if_pos ⟨by omega, by simp only; omega⟩]
          rw [Nat.add_comm (f k)]
        · by_cases e : t = k
          · subst e; omega
          · have := h1 t (by omega); omega
      · refine Or.inl ⟨fun t ht => ?_, ?_, ?_⟩
        · by_cases e : t = k
          · subst e; omega
          · exact h1 t (by omega)
        · rw [bm, h2]
          unfold wA
          rw [if_neg q, if_neg (fun z => by omega)]
        · rw [am, h3, if_neg (by simp only; omega)]
    · have dx := dst_le (a := x) (b := b) (by omega) hb
      have fx := hf x (by omega) x2
      by_cases q : f k < 1000000
      · have q8 := hf k (by omega) q
        by_cases c : dst k b + f k < dst x b + f x
        · refine Or.inr ⟨k, by omega, q, ?_, ?_, fun t ht => ?_⟩
          · rw [am, x3, if_pos c]
          · rw [bm, x4]
            unfold wA
            rw [if_pos q, if_pos ⟨by omega, by simp only; omega⟩, Nat.add_comm (f k)]
          · by_cases e : t = k
            · subst e; omega
            · have := x5 t (by omega); omega
        · refine Or.inr ⟨x, by omega, x2, ?_, ?_, fun t ht => ?_⟩
          · rw [am, x3, if_neg c]
          · rw [bm, x4]
            unfold wA
            rw [if_pos q, if_neg (fun z => c (by have := z.2; simp only at this; omega))]
          · by_cases e : t = k
            · subst e; omega
            · have := x5 t (by omega); omega
      · refine Or.inr ⟨x, by omega, x2, ?_, ?_, fun t ht => ?_⟩
        · rw [am, x3, if_neg (by simp only; omega)]
        · rw [bm, x4]
          unfold wA
          rw [if_neg q, if_neg (fun z => by omega)]
        · by_cases e : t = k
          · subst e; omega
          · have := x5 t (by omega); omega
theorem sA_fin {al : Nat → Nat → Bool} {i : Nat} (hi : i < 24) (h : isN al i = true) : ∀ t, t < 33 → sA al i t < 1000000 → sA al i t ≤ 800 := fun t ht q => by
  unfold sA at q ⊢
  split at q
  · rename_i c
    rw [if_pos c]
    have := sF_fin i h t ht
    omega
  · omega
/-- where the hour has an allowed tap, both choose the same, and its number is the fewest -/
theorem am_al2 {al : Nat → Nat → Bool} {i b : Nat} (hi : i < 24) (hb : b < 33) (h : isN al (i + 1) = true) : ∃ x, x < 33 ∧ am (sA al i) b 33 = (x + 1, dst x b + sA al i x) ∧ bm (wA (sA al i)) b 33 = (x + 1, dst x b + sA al i x) ∧ sA al i x < 1000000 ∧ dst x b + sA al i x = sF al (i + 1) b := by
  have h2 := h
  rw [isN] at h2
  have h2 := (Bool.and_eq_true _ _).mp h2
  obtain ⟨t0, a0, b0⟩ := anN_t 33 h2.2
  have s0 : sA al i t0 = sF al i t0 := if_pos b0
  have f0 := sF_fin i h2.1 t0 a0
  rcases am_bm (f := sA al i) hb (sA_fin hi h2.1) 33 (Nat.le_refl _) with ⟨h1, _⟩ | ⟨x, x1, x2, x3, x4, x5⟩
  · have := h1 t0 a0
    omega
  · refine ⟨x, x1, x3, x4, x2, ?_⟩
    rw [sF_s]
    obtain ⟨y, y1, y2⟩ := mn_at (a := sA al i) hb
    have p := mn_le (a := sA al i) hb x1
    have q := x5 y y1
    rw [dst_c (a := b)] at p y2
    omega
theorem am_all {al : Nat → Nat → Bool} {i b : Nat} (hi : i < 24) (hb : b < 33) (h : isN al (i + 1) = true) : ∃ x, x < 33 ∧ (am (sA al i) b 33).1 - 1 = x ∧ bm (wA (sA al i)) b 33 = (x + 1, dst x b + sA al i x) ∧ sA al i x < 1000000 ∧ dst x b + sA al i x = sF al (i + 1) b := by
  obtain ⟨x, x1, x2, x3, x4, x5⟩ := am_al2 hi hb h
  exact ⟨x, x1, by rw [x2]; simp only; omega, x3, x4, x5⟩
/-- where no tap leads on, the class chooses none -/
theorem am_no {f : Nat → Nat} {b : Nat} (h : ∀ t, t < 33 → 1000000 ≤ f t) : ∀ k, k ≤ 33 → am f b k = (0, 1000000)
  | 0, _ => rfl
  | k + 1, hk => by
    have := h k (by omega)
    rw [am, am_no h k (by omega), if_neg (by simp only; omega)]
theorem sA_inf {al : Nat → Nat → Bool} {i t : Nat} (h : isN al (i + 1) = false) (ht : t < 33) : 1000000 ≤ sA al i t := by
  have a := sF_inf (i + 1) h t ht
  have b := mn_le (a := sA al i) ht ht
  rw [dst_t (b := 0)] at b
  rw [sF_s] at a
  omega
theorem sA_sF {al : Nat → Nat → Bool} {i t : Nat} (h : sA al i t < 1000000) : sA al i t = sF al i t := by
  unfold sA at h ⊢
  split at h
  · rename_i q; rw [if_pos q]
  · omega
/-- the taps of the plan from tap p on -/
def ch (al : Nat → Nat → Bool) (p : Nat) : Nat → Nat
  | 0 => p
  | h + 1 => (am (sA al (23 - h)) (ch al p h) 33).1 - 1
theorem ch_lt {al : Nat → Nat → Bool} {p : Nat} (hp : p < 33) : ∀ h, ch al p h < 33
  | 0 => hp
  | h + 1 => by
    rw [ch]
    have := (am_le (f := sA al (23 - h)) (b := ch al p h) 33).2
    omega
theorem isN_le {al : Nat → Nat → Bool} : ∀ i j, j ≤ i → isN al i = true → isN al j = true
  | 0, j, h, e => by
    have : j = 0 := by omega
    rw [this]; exact e
  | i + 1, j, h, e => by
    by_cases q : j = i + 1
    · rw [q]; exact e
    · rw [isN] at e
      exact isN_le i j (by omega) ((Bool.and_eq_true _ _).mp e).1
theorem nI_mi {x z : Nat} (hx : x < 2 ^ 31) (hz : z < 2 ^ 31) : (if nI z < nI x then nI z else nI x) = nI (mi x z) := by
  unfold mi
  by_cases q : z < x
  · rw [if_pos q, if_pos ((nI_ltI hz hx).mpr q)]
  · rw [if_neg q, if_neg (fun w => q ((nI_ltI hz hx).mp w))]
theorem nI_abs {i b : Nat} (hi : i < 1000) (hb : b < 1000) : (if 0 ≤ nI i - nI b then nI i - nI b else 0 - (nI i - nI b)) = nI (dst i b) := by
  unfold dst
  by_cases q : i < b
  · have h := pk_sneg (a := i) (b := b) (by omega) q
    rw [if_pos q, if_neg (Int32.not_le.mpr h), ← pk_sub (by omega), Int32.zero_sub, Int32.neg_sub]
  · rw [if_neg q, pk_sub (by omega), if_pos (nI_pos' (by omega))]
