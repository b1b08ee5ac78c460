/-! a saving call of both -/
def S1 (j : Nat) (sv : Nat → Nat) (m m1 : e_Tb) (sv1 : Nat → Nat) : Prop := Sv sv1 ∧ Fh m m1 ∧ ∃ c, c ≤ 3 ∧ m 164 2 = nI c ∧ m1 70 1 = nI (if c = 3 then 3 else c + 1) ∧
  (∀ i, i < (if c = 3 then 2 else c) → Tb j (vw (sv1 i) m1) (mw 166 (220 * (if c = 3 then i + 1 else i)) m)) ∧ Tb j (vw (sv1 (if c = 3 then 2 else c)) m1) (mw 165 0 m)
def S2 (j : Nat) (sv1 : Nat → Nat) (m2 m3 : e_Tb) : Prop := Fq m2 m3 ∧ ∀ m4, Fp m3 m4 → Tb (j + 1) (vw 2 m4) (mw 165 0 m4) → Rl (j + 1) sv1 m4
theorem S1.vw {j : Nat} {sv sv1 : Nat → Nat} {m m1 : e_Tb} (h : S1 j sv m m1 sv1) : vw 2 m1 = vw 2 m := vw_cong (fun c _ h2 => h.2.1 c (by omega))
theorem S1.mw {j : Nat} {sv sv1 : Nat → Nat} {m m1 : e_Tb} (h : S1 j sv m m1 sv1) : mw 165 0 m1 = mw 165 0 m := mw_cong (h.2.1 165 (by omega))
theorem S2.vw {j : Nat} {sv1 : Nat → Nat} {m2 m3 : e_Tb} (h : S2 j sv1 m2 m3) : vw 2 m3 = vw 2 m2 := vw_cong (fun c _ h2 => h.1.1 c (by omega) (by omega))
theorem S2.mw {j : Nat} {sv1 : Nat → Nat} {m2 m3 : e_Tb} (h : S2 j sv1 m2 m3) : mw 165 0 m3 = mw 165 0 m2 := mw_cong (h.1.1 165 (by omega) (by omega))
section P28
variable {xs : Nat → Int32} {L : Nat} {Q : e_Rs → Prop}
theorem c_save8 {j : Nat} {sv : Nat → Nat} {m : e_Tb} (h : Rl j sv m) (hQ : ∀ m1 sv1, S1 j sv m m1 sv1 → Q (none, (173, m1, e_rs sv1))) :
    Wp xs L kX3_save_0 [(0, .ref (70 : Nat)), (1, .ref (2 : Nat))] [] (173, m, e_rs sv) Q := by
  obtain ⟨c, c1, c2, c3, c4⟩ := h.hs
  obtain ⟨n, t, tb⟩ := h.tb
  refine c_X3_save c1 h.sv c2 tb.rb (fun m1 sv1 s f e v w => hQ m1 sv1 ⟨s, f, c, c1, c3, e, fun i hi => ?_, ?_⟩)
  · rw [v i hi]
    by_cases h3 : c = 3
    · simp only [h3, if_true] at hi ⊢
      exact c4 (i + 1) (by omega)
    · simp only [h3, if_false] at hi ⊢
      exact c4 i (by omega)
  · rw [w]
    exact ⟨n, t, tb⟩
theorem c_save9 {j : Nat} {sv sv1 : Nat → Nat} {m m1 m2 : e_Tb} (h : Rl j sv m) (s1 : S1 j sv m m1 sv1) (f : Fc m1 m2) (hQ : ∀ m3, S2 j sv1 m2 m3 → Q (none, (173, m3, e_rs sv1))) :
    Wp xs L kX9_save_0 [(0, .ref (164 : Nat))] [] (173, m2, e_rs sv1) Q := by
  obtain ⟨sS, fh, c, c1, c3, e1, v1, w1⟩ := s1
  have hh : ∀ x, 162 ≤ x → m2 x = m x := fun x hx => by rw [f x (by omega), fh x (by omega)]
  have hl : ∀ x, 36 ≤ x → x < 70 → m2 x = m x := fun x hx h2 => by rw [f x (by omega), fh x (by omega)]
  refine c_X9_save c1 (by rw [hh 164 (by decide)]; exact c3) (fun m3 q e v w => hQ m3 ⟨q, fun m4 fp tb => ?_⟩)
  have h4 : ∀ x, x ≠ 164 → x ≠ 165 → x ≠ 166 → x ≠ 169 → x ≠ 170 → x ≠ 171 → m4 x = m2 x := fun x a b c d e g => by rw [fp x b d e g, q.1 x c a]
  have w4 : ∀ o, mw 166 o m4 = mw 166 o m3 := fun o => mw_cong (fp 166 (by decide) (by decide) (by decide) (by decide))
  have v4 : ∀ i, i < 3 → vw (sv1 i) m4 = vw (sv1 i) m1 := fun i hi => vw_cong (fun x a b => by
    have fx := sS.1 i hi
    have : 36 ≤ x ∧ x < 162 := by rcases fx.1 with h | h | h | h <;> omega
    rw [h4 x (by omega) (by omega) (by omega) (by omega) (by omega) (by omega), f x (by omega)])
  obtain ⟨l, l1, l2, l3, l4⟩ := h.tx
  refine ⟨sS, tb, ⟨if c = 3 then 3 else c + 1, by split <;> omega, ?_, ?_, fun i hi => ?_⟩, ⟨l, l1, ?_, ?_, fun i hi => ?_⟩, fun i hi => ?_⟩
  · rw [h4 70 (by decide) (by decide) (by decide) (by decide) (by decide) (by decide), f 70 (by omega)]; exact e1
  · rw [fp 164 (by decide) (by decide) (by decide) (by decide)]; exact e
  · have hi3 : i < 3 := by
      split at hi <;> omega
    rw [v4 i hi3, w4]
    have a166 : ∀ o, mw 166 o m2 = mw 166 o m := fun o => mw_cong (hh 166 (by decide))
    have a165 : mw 165 0 m2 = mw 165 0 m := mw_cong (hh 165 (by decide))
    by_cases hl : i < (if c = 3 then 2 else c)
    · rw [v i hl, a166]
      exact (v1 i hl).mono (by omega)
    · have hie : i = (if c = 3 then 2 else c) := by
        by_cases h3 : c = 3
        · simp only [h3, if_true] at hi hl ⊢; omega
        · simp only [h3, if_false] at hi hl ⊢; omega
      rw [hie, w, a165]
      exact w1.mono (by omega)
  · rw [h4 68 (by decide) (by decide) (by decide) (by decide) (by decide) (by decide), hl 68 (by decide) (by decide)]; exact l2
  · rw [fp 164 (by decide) (by decide) (by decide) (by decide), q.2 4 (by decide), hh 164 (by decide)]; exact l3
  · rw [h4 69 (by decide) (by decide) (by decide) (by decide) (by decide) (by decide), hl 69 (by decide) (by decide), h4 167 (by decide) (by decide) (by decide) (by decide) (by decide) (by decide), hh 167 (by decide)]; exact l4 i hi
  · rw [h4 163 (by decide) (by decide) (by decide) (by decide) (by decide) (by decide), hh 163 (by decide), h4 168 (by decide) (by decide) (by decide) (by decide) (by decide) (by decide), hh 168 (by decide)]; exact h.er i hi
end P28
