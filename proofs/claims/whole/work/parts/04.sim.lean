/-! the plain machine lies over the real one: what the cells are, and a row for each op -/
def e_ro (bs x : Nat) : Option Nat := if x = 0 then none else some (bs + x)
def e_mv (b bs : Nat) (v : Value) : Value := match v with
  | .ref x => .ref (if x = 0 then b else bs + x)
  | v => v
def e_ent (bs : Nat) (CA : Nat → ClassId) (M : e_Mem) (c : Nat) : va_E :=
  if (e_kd c).1 < 10 then .inr ((e_kd c).1, (List.range (e_kd c).2).map (fun k => if e_isR (e_kd c).1 k = true then va_rf (e_ro bs (M.2.2 c k)) else .int (M.2.1 c k)))
  else if (e_kd c).1 < 12 then .inl (CA (e_kd c).1, (e_kd c).2, .inl (M.2.1 c))
  else .inl (CA (e_kd c).1, (e_kd c).2, .inr (.inr (.inr (.inr (fun j => e_ro bs (M.2.2 c j))))))
def e_tys (CA : Nat → ClassId) : List (ClassId × FieldType) := [(CA 10, .int), (CA 11, .byte), (CA 12, .object "FeederControl$Feeder"), (CA 13, .object "FeederControl$Node"), (CA 14, .array .int)]
def e_Rel (D : va_G) (CA : Nat → ClassId) (bs : Nat) (M : e_Mem) (H : Heap) : Prop := H.size = bs + 1 + M.1 ∧ M.1 ≤ 173 ∧ ∀ c, 1 ≤ c → c ≤ M.1 → va_at D vwCl (bs + c, e_ent bs CA M c) H
def e_Wd (U : State) : Prop := ∀ w ∈ lw_tbl, (goodWord w || e_isN w || e_isO w) = true → va_Nw w U
def e_T : List Jvm.Cond := lw_tbl.filter goodWord
/-- the listed locals, as the kit's rows want them -/
def e_lvl (b bs nL : Nat) (lv : e_Lv) : List (Nat × Value) := (List.range nL).filterMap fun i => (e_lk i lv).map fun v => (i, e_mv b bs v)
def e_LR (b bs : Nat) (ls : Array Slot) (nL : Nat) (lv : e_Lv) : Prop := lv_has ls nL (e_lvl b bs nL lv)
def e_Cx (p : Program) (s : State) (m : MethodId) (args : Array Value) (meth : Method) (c : Code) (D : va_G) (CA : Nat → ClassId) (bs b L : Nat) (xs : Nat → Int32) (y : Nat) : Prop :=
  p.tables.exec = Jvm.exec ∧ c.code = e_mB y ∧ c.maxLocals = e_mL y ∧ meth.sig.returnType = e_mR y ∧ meth.locks = false ∧ s.vm.findClass (e_mO y) = some m.cls ∧ ((e_mN y).name = "<init>" → meth.name = "<init>") ∧ e_Wd s ∧ va_K D vwCl (e_tys CA) s ∧ va_X b L xs s s.heap ∧ b < s.heap.size ∧ b ≤ bs ∧ bs + 1 ≤ s.heap.size ∧ ∀ w ∈ e_T, w.before args s = true
def e_G (p : Program) (l : Launch) (e : Env) (R : Room) (s : State) (m : MethodId) (args : Array Value) (below : List Frame) (meth : Method) (c : Code) (Q : State → Prop) (D : va_G) (CA : Nat → ClassId) (bs b y : Nat) (pc : Nat) (lv : e_Lv) (st : List Value) (M : e_Mem) (cells slots : Nat) : Prop :=
  ∀ (H : Heap) (locs : List Loc) (ls : Array Slot), e_Rel D CA bs M H → va_S (fun q => bs + 1 ≤ q) s.heap H locs → e_LR b bs ls (e_mL y) lv →
    W p l e R s m args below meth c H locs cells slots Q (F0 m pc ls (st.map (e_mv b bs)))
theorem e_w_any {w : Jvm.Cond} (hg : goodWord w = true) {s : State} (h : va_Nw w s) (args : Array Value) : w.before args s = true := by
  rcases good_of_word hg with h1 | ⟨ty, rfl⟩
  · simp only [Bool.and_eq_true] at h1
    exact va_Nw.use h1.1 h
  · exact h
theorem e_T_of {s : State} (h : e_Wd s) (args : Array Value) : ∀ w ∈ e_T, w.before args s = true := by
  intro w hw
  obtain ⟨h1, h2⟩ := List.mem_filter.mp hw
  exact e_w_any h2 (h w h1 (by simp [h2])) args
theorem e_wk_nw {w : Jvm.Cond} {s : State} (h : e_wk w) (hW : e_Wd s) : va_Nw w s := by
  obtain ⟨⟨i, hi⟩, hg⟩ := h
  exact hW w (List.mem_of_getElem? hi) hg
theorem e_wk_b {w : Jvm.Cond} {s : State} (h : e_wk w) (hg : goodWord w = true) (hW : e_Wd s) (args : Array Value) : w.before args s = true := e_w_any hg (e_wk_nw h hW) args
theorem e_lk_at {b bs nL : Nat} {ls : Array Slot} {lv : e_Lv} (h : e_LR b bs ls nL lv) {i : Nat} {v : Value} (hi : i < nL) (hv : e_lk i lv = some v) : ls[i]? = some (.val (e_mv b bs v)) := by
  refine h.2.2 (i, e_mv b bs v) ?_
  exact List.mem_filterMap.mpr ⟨i, List.mem_range.mpr hi, by simp [hv]⟩
theorem e_lk_sto (a i : Nat) (v : Value) : ∀ lv : e_Lv, e_lk i (e_sto a v lv) = if i = a then some v else e_lk i lv
  | [] => by
    by_cases h : a = i
    · simp [e_sto, e_lk, h]
    · simp [e_sto, e_lk, h, Ne.symm h]
  | (j, w) :: t => by
    have ih := e_lk_sto a i v t
    by_cases h : j = a
    · subst h
      by_cases h2 : j = i
      · simp [e_sto, e_lk, h2]
      · simp [e_sto, e_lk, h2, Ne.symm h2]
    · by_cases h2 : j = i
      · subst h2
        simp [e_sto, e_lk, h]
      · simp [e_sto, e_lk, h, h2, ih]
theorem e_ok_lk {a i : Nat} {v : Value} : ∀ {lv : e_Lv}, e_ok a lv = true → e_lk i lv = some v → i + 1 = a → e_isL v = false
  | [], _, h, _ => by simp [e_lk] at h
  | (j, w) :: t, hk, h, hi => by
    simp only [e_ok, Bool.and_eq_true, Bool.not_eq_true', Bool.and_eq_false_iff] at hk
    by_cases hj : j = i
    · subst hj
      simp [e_lk] at h
      subst h
      rcases hk.1 with q | q
      · simp [hi] at q
      · exact q
    · simp [e_lk, hj] at h
      exact e_ok_lk hk.2 h hi
theorem e_no_lk {a : Nat} : ∀ {lv : e_Lv}, e_no a lv = true → e_lk a lv = none
  | [], _ => rfl
  | (j, w) :: t, hk => by
    simp only [e_no, Bool.and_eq_true, Bool.not_eq_true'] at hk
    have h1 : ¬ j = a := by simpa using hk.1
    simp [e_lk, h1]
    exact e_no_lk hk.2
theorem e_cat {b bs : Nat} {v : Value} (h : e_isL v = false) : (e_mv b bs v).category = 1 := by
  cases v <;> simp_all [e_isL, e_mv, Value.category]
theorem e_LR.sto {b bs nL a : Nat} {ls' : Array Slot} {lv : e_Lv} {v : Value} (hk : e_ok a lv = true) (h : lv_has ls' nL ((a, e_mv b bs v) :: (e_lvl b bs nL lv).filter (fun q => !(q.1 == a) && !(q.1 + 1 == a && q.2.category == 2)))) : e_LR b bs ls' nL (e_sto a v lv) := by
  refine ⟨h.1, h.2.1, fun q hq => h.2.2 q ?_⟩
  obtain ⟨i, hi, hv⟩ := List.mem_filterMap.mp hq
  rw [e_lk_sto] at hv
  by_cases ha : i = a
  · subst ha
    simp at hv
    subst hv
    exact List.mem_cons_self
  · rw [if_neg ha] at hv
    obtain ⟨w, hw, rfl⟩ := Option.map_eq_some_iff.mp hv
    refine List.mem_cons_of_mem _ (List.mem_filter.mpr ⟨List.mem_filterMap.mpr ⟨i, hi, by simp [hw]⟩, ?_⟩)
    by_cases hi1 : i + 1 = a
    · simp [ha, e_cat (e_ok_lk hk hw hi1)]
    · simp [ha, hi1]
theorem e_LR.stoL {b bs nL a : Nat} {ls' : Array Slot} {lv : e_Lv} {v : Value} (hk : e_ok a lv = true) (hn : e_no (a + 1) lv = true) (h : lv_has ls' nL ((a, e_mv b bs v) :: (e_lvl b bs nL lv).filter (fun q => !(q.1 == a) && (!(q.1 == a + 1) && !(q.1 + 1 == a && q.2.category == 2))))) : e_LR b bs ls' nL (e_sto a v lv) := by
  refine ⟨h.1, h.2.1, fun q hq => h.2.2 q ?_⟩
  obtain ⟨i, hi, hv⟩ := List.mem_filterMap.mp hq
  rw [e_lk_sto] at hv
  by_cases ha : i = a
  · subst ha
    simp at hv
    subst hv
    exact List.mem_cons_self
  · rw [if_neg ha] at hv
    obtain ⟨w, hw, rfl⟩ := Option.map_eq_some_iff.mp hv
    have h2 : ¬ i = a + 1 := fun q => by rw [q, e_no_lk hn] at hw; cases hw
    refine List.mem_cons_of_mem _ (List.mem_filter.mpr ⟨List.mem_filterMap.mpr ⟨i, hi, by simp [hw]⟩, ?_⟩)
    by_cases hi1 : i + 1 = a
    · simp [ha, h2, e_cat (e_ok_lk hk hw hi1)]
    · simp [ha, h2, hi1]
theorem e_in_iff {i : Int32} {n : Nat} (h : e_in i n = true) : vp_in i n := vp_in_iff.mpr (of_decide_eq_true h)
theorem e_Rel.at {D : va_G} {CA : Nat → ClassId} {bs : Nat} {M : e_Mem} {H : Heap} (h : e_Rel D CA bs M H) {q : Nat} (h1 : 1 ≤ q) (h2 : q ≤ M.1) : va_P D vwCl [(bs + q, e_ent bs CA M q)] H := by
  intro k x hx
  have h0 : k < 1 := (List.getElem?_eq_some_iff.mp hx).1
  rw [show k = 0 by omega] at hx
  cases hx
  exact h.2.2 q h1 h2
/-- a cell anew -/
theorem e_Rel.put {D : va_G} {CA : Nat → ClassId} {bs : Nat} {M M' : e_Mem} {H H1 : Heap} (h : e_Rel D CA bs M H) {q : Nat} (hn : M'.1 = M.1) (hz : H1.size = H.size) (ho : ∀ x : Nat, x ≠ bs + q → H1[x]? = H[x]?) (hat : va_at D vwCl (bs + q, e_ent bs CA M' q) H1) (he : ∀ c, c ≠ q → e_ent bs CA M' c = e_ent bs CA M c) : e_Rel D CA bs M' H1 := by
  refine ⟨by rw [hz, hn]; exact h.1, by rw [hn]; exact h.2.1, fun c h1 h2 => ?_⟩
  by_cases hc : c = q
  · subst hc
    exact hat
  · rw [he c hc]
    exact (h.2.2 c h1 (by rw [← hn]; exact h2)).kept (ho _ (by show bs + c ≠ bs + q; omega))
theorem e_ent_set {bs : Nat} {CA : Nat → ClassId} {M : e_Mem} {q k : Nat} {v : Int32} {c : Nat} (h : c ≠ q) : e_ent bs CA (M.1, e_set M.2.1 q k v, M.2.2) c = e_ent bs CA M c := by
  have h1 : ∀ k', e_set M.2.1 q k v c k' = M.2.1 c k' := fun k' => by simp [e_set, h]
  have h2 : e_set M.2.1 q k v c = M.2.1 c := funext h1
  simp only [e_ent, h1, h2]
theorem e_ent_setR {bs : Nat} {CA : Nat → ClassId} {M : e_Mem} {q k : Nat} {v : Nat} {c : Nat} (h : c ≠ q) : e_ent bs CA (M.1, M.2.1, e_set M.2.2 q k v) c = e_ent bs CA M c := by
  have h1 : ∀ k', e_set M.2.2 q k v c k' = M.2.2 c k' := fun k' => by simp [e_set, h]
  simp only [e_ent, h1]
theorem e_ent_o {bs : Nat} {CA : Nat → ClassId} {M : e_Mem} {q a : Nat} (h : (e_kd q).1 = a) (ha : a < 10) : e_ent bs CA M q = .inr (a, (List.range (e_kd q).2).map (fun k => if e_isR a k = true then va_rf (e_ro bs (M.2.2 q k)) else .int (M.2.1 q k))) := by
  simp only [e_ent, h, ha, if_true]
theorem e_ent_i {bs : Nat} {CA : Nat → ClassId} {M : e_Mem} {q a : Nat} (h : (e_kd q).1 = a) (ha : ¬ a < 10) (hb : a < 12) : e_ent bs CA M q = .inl (CA a, (e_kd q).2, .inl (M.2.1 q)) := by
  simp only [e_ent, h, ha, hb, if_true, if_false]
theorem e_ent_q {bs : Nat} {CA : Nat → ClassId} {M : e_Mem} {q a : Nat} (h : (e_kd q).1 = a) (ha : ¬ a < 12) : e_ent bs CA M q = .inl (CA a, (e_kd q).2, .inr (.inr (.inr (.inr (fun j => e_ro bs (M.2.2 q j)))))) := by
  simp only [e_ent, h, ha, if_false, show ¬ a < 10 by omega]
theorem e_mv_rf (b bs x : Nat) : e_mv b bs (e_rf x) = va_rf (e_ro bs x) := by
  by_cases h : x = 0
  · simp [e_rf, e_ro, h, e_mv, va_rf]
  · simp [e_rf, e_ro, h, e_mv, va_rf]
/-- what the tables of a class say -/
def e_tyL : List (Nat → FieldType) := [tyX0, tyX1, tyX2, tyX3, tyX4, tyX5, tyX6, tyX7, tyX8, tyX9]
def e_ty (a k : Nat) : FieldType := (e_tyL.getD a (fun _ => .int)) k
theorem e_goodlays {C : String} {T : u_T} {N : Nat} : ∀ w ∈ u_ws C T N, goodWord w = true := by
  intro w hw
  obtain ⟨k, -, rfl⟩ := List.mem_map.mp hw
  unfold u_lay
  split <;> rfl
set_option maxRecDepth 20000 in
theorem e_cls {a : Nat} {C : String} {T : u_T} {N : Nat} (h : vwCl[a]? = some (C, T, N)) : (∀ w ∈ u_ws C T N, w ∈ e_T) ∧ (∀ k, k < N → parseFieldDescriptor (T k).2.2.1 = some (e_ty a k)) ∧ (∀ x, x < N → ∀ z, z < N → x ≠ z → (T x).2.1 ≠ (T z).2.1) ∧ (∀ k, k < N → (T k).1 = C) ∧ (∀ k, k < N → defaultValue (e_ty a k) = if e_isR a k = true then .null else .int 0) ∧ a < 10 := by
  match a, h with
  | 0, h =>
    cases h
    exact ⟨fun w hw => List.mem_filter.mpr ⟨inX0 w hw, e_goodlays w hw⟩, tyX0_ok, nmX0, by decide +kernel, by decide +kernel, by omega⟩
  | 1, h =>
    cases h
    exact ⟨fun w hw => List.mem_filter.mpr ⟨inX1 w hw, e_goodlays w hw⟩, tyX1_ok, nmX1, by decide +kernel, by decide +kernel, by omega⟩
  | 2, h =>
    cases h
    exact ⟨fun w hw => List.mem_filter.mpr ⟨inX2 w hw, e_goodlays w hw⟩, tyX2_ok, nmX2, by decide +kernel, by decide +kernel, by omega⟩
  | 3, h =>
    cases h
    exact ⟨fun w hw => List.mem_filter.mpr ⟨inX3 w hw, e_goodlays w hw⟩, tyX3_ok, nmX3, by decide +kernel, by decide +kernel, by omega⟩
  | 4, h =>
    cases h
    exact ⟨fun w hw => List.mem_filter.mpr ⟨inX4 w hw, e_goodlays w hw⟩, tyX4_ok, nmX4, by decide +kernel, by decide +kernel, by omega⟩
  | 5, h =>
    cases h
    exact ⟨fun w hw => List.mem_filter.mpr ⟨inX5 w hw, e_goodlays w hw⟩, tyX5_ok, nmX5, by decide +kernel, by decide +kernel, by omega⟩
  | 6, h =>
    cases h
    exact ⟨fun w hw => List.mem_filter.mpr ⟨inX6 w hw, e_goodlays w hw⟩, tyX6_ok, nmX6, by decide +kernel, by decide +kernel, by omega⟩
  | 7, h =>
    cases h
    exact ⟨fun w hw => List.mem_filter.mpr ⟨inX7 w hw, e_goodlays w hw⟩, tyX7_ok, nmX7, by decide +kernel, by decide +kernel, by omega⟩
  | 8, h =>
    cases h
    exact ⟨fun w hw => List.mem_filter.mpr ⟨inX8 w hw, e_goodlays w hw⟩, tyX8_ok, nmX8, by decide +kernel, by decide +kernel, by omega⟩
  | 9, h =>
    cases h
    exact ⟨fun w hw => List.mem_filter.mpr ⟨inX9 w hw, e_goodlays w hw⟩, tyX9_ok, nmX9, by decide +kernel, by decide +kernel, by omega⟩
  | a + 10, h => simp [vwCl] at h
def e_kdN : Bool := e_kds.all fun q => !(decide (q.1 < 10)) || ((vwCl[q.1]?.map (·.2.2)) == some q.2)
theorem e_kdN_ok : e_kdN = true := by decide +kernel
theorem e_kd_n {q a : Nat} (h : (e_kd q).1 = a) (ha : a < 10) : vwCl[a]?.map (·.2.2) = some (e_kd q).2 := by
  have h1 := List.all_eq_true.mp e_kdN_ok
  unfold e_kd at h ⊢
  rw [List.getD_eq_getElem?_getD] at h ⊢
  cases hq : e_kds[q]? with
  | none =>
    rw [hq] at h
    simp at h
    omega
  | some z =>
    rw [hq] at h
    simp only [Option.getD_some] at h ⊢
    have h2 := h1 z (List.mem_of_getElem? hq)
    rw [h] at h2
    simpa [ha] using h2
section E_ROWS
variable {p : Program} {l : Launch} {e : Env} {R : Room} {s : State} {m : MethodId} {args : Array Value} {below : List Frame} {meth : Method} {c : Code} {Q : State → Prop} {D : va_G} {CA : Nat → ClassId} {bs b L y pc : Nat} {xs : Nat → Int32} {lv : e_Lv} {st : List Value} {M : e_Mem} {cells slots : Nat}
theorem g_iconst (C0 : e_Cx p s m args meth c D CA bs b L xs y) {n : Int} {v : Int32} (hv : Int32.ofInt n = v) (hd : decode (e_mB y) pc = .ok (.iconst n, 1)) (k : e_G p l e R s m args below meth c Q D CA bs b y (pc + 1) lv (.int v :: st) M cells slots) : e_G p l e R s m args below meth c Q D CA bs b y pc lv st M cells slots := fun H locs ls hR hS hL => lv_iconst C0.1 C0.2.1 hd hv (k H locs ls hR hS hL)
theorem g_bipush (C0 : e_Cx p s m args meth c D CA bs b L xs y) {n : Int} {v : Int32} (hv : (Int8.ofInt n).toInt32 = v) (hd : decode (e_mB y) pc = .ok (.bipush n, 2)) (k : e_G p l e R s m args below meth c Q D CA bs b y (pc + 2) lv (.int v :: st) M cells slots) : e_G p l e R s m args below meth c Q D CA bs b y pc lv st M cells slots := fun H locs ls hR hS hL => lv_bipush C0.1 C0.2.1 hd hv (k H locs ls hR hS hL)
theorem g_sipush (C0 : e_Cx p s m args meth c D CA bs b L xs y) {n : Int} {v : Int32} (hv : (Int16.ofInt n).toInt32 = v) (hd : decode (e_mB y) pc = .ok (.sipush n, 3)) (k : e_G p l e R s m args below meth c Q D CA bs b y (pc + 3) lv (.int v :: st) M cells slots) : e_G p l e R s m args below meth c Q D CA bs b y pc lv st M cells slots := fun H locs ls hR hS hL => lv_sipush C0.1 C0.2.1 hd hv (k H locs ls hR hS hL)
theorem g_ldc (C0 : e_Cx p s m args meth c D CA bs b L xs y) {i : Nat} {v : Int32} (hv : (Jvm.Cond.constant (e_mO y) i v).before args s = true) (hd : decode (e_mB y) pc = .ok (.ldc i, 2)) (k : e_G p l e R s m args below meth c Q D CA bs b y (pc + 2) lv (.int v :: st) M cells slots) : e_G p l e R s m args below meth c Q D CA bs b y pc lv st M cells slots := fun H locs ls hR hS hL => lv_ldc C0.1 C0.2.1 C0.2.2.2.2.2.1 hv hd (k H locs ls hR hS hL)
theorem g_ldc2 (C0 : e_Cx p s m args meth c D CA bs b L xs y) {i : Nat} {v : Int64} (hv : (Jvm.Cond.constantLong (e_mO y) i v).before args s = true) (hd : decode (e_mB y) pc = .ok (.ldc2_w i, 3)) (k : e_G p l e R s m args below meth c Q D CA bs b y (pc + 3) lv (.long v :: st) M cells slots) : e_G p l e R s m args below meth c Q D CA bs b y pc lv st M cells slots := fun H locs ls hR hS hL => lv_ldc2 C0.1 C0.2.1 C0.2.2.2.2.2.1 hv hd (k H locs ls hR hS hL)
theorem g_iload_n (C0 : e_Cx p s m args meth c D CA bs b L xs y) {n : Fin 4} {a : Nat} {x : Int32} (hi : (n : Nat) = a) (ha : a < e_mL y) (hv : e_lk a lv = some (.int x)) (hd : decode (e_mB y) pc = .ok (.iload_n n, 1)) (k : e_G p l e R s m args below meth c Q D CA bs b y (pc + 1) lv (.int x :: st) M cells slots) : e_G p l e R s m args below meth c Q D CA bs b y pc lv st M cells slots := fun H locs ls hR hS hL => lv_iload_n C0.1 C0.2.1 hd hi (e_lk_at hL ha hv) (k H locs ls hR hS hL)
theorem g_iload (C0 : e_Cx p s m args meth c D CA bs b L xs y) {a : Nat} {x : Int32} (ha : a < e_mL y) (hv : e_lk a lv = some (.int x)) (hd : decode (e_mB y) pc = .ok (.iload a, 2)) (k : e_G p l e R s m args below meth c Q D CA bs b y (pc + 2) lv (.int x :: st) M cells slots) : e_G p l e R s m args below meth c Q D CA bs b y pc lv st M cells slots := fun H locs ls hR hS hL => lv_iload C0.1 C0.2.1 hd (e_lk_at hL ha hv) (k H locs ls hR hS hL)
theorem g_istore_n (C0 : e_Cx p s m args meth c D CA bs b L xs y) {n : Fin 4} {a : Nat} {x : Int32} (hi : (n : Nat) = a) (ha : a < e_mL y) (hk : e_ok a lv = true) (hd : decode (e_mB y) pc = .ok (.istore_n n, 1)) (k : e_G p l e R s m args below meth c Q D CA bs b y (pc + 1) (e_sto a (.int x) lv) st M cells slots) : e_G p l e R s m args below meth c Q D CA bs b y pc lv (.int x :: st) M cells slots := fun H locs ls hR hS hL => lv_istore_n C0.1 C0.2.1 hd hi hL ha rfl (fun ls' hl' => k H locs ls' hR hS (e_LR.sto (v := .int x) hk hl'))
theorem g_istore (C0 : e_Cx p s m args meth c D CA bs b L xs y) {a : Nat} {x : Int32} (ha : a < e_mL y) (hk : e_ok a lv = true) (hd : decode (e_mB y) pc = .ok (.istore a, 2)) (k : e_G p l e R s m args below meth c Q D CA bs b y (pc + 2) (e_sto a (.int x) lv) st M cells slots) : e_G p l e R s m args below meth c Q D CA bs b y pc lv (.int x :: st) M cells slots := fun H locs ls hR hS hL => lv_istore C0.1 C0.2.1 hd hL ha rfl (fun ls' hl' => k H locs ls' hR hS (e_LR.sto (v := .int x) hk hl'))
theorem g_aload_n (C0 : e_Cx p s m args meth c D CA bs b L xs y) {n : Fin 4} {a : Nat} {x : Nat} (hi : (n : Nat) = a) (ha : a < e_mL y) (hv : e_lk a lv = some (.ref x)) (hd : decode (e_mB y) pc = .ok (.aload_n n, 1)) (k : e_G p l e R s m args below meth c Q D CA bs b y (pc + 1) lv (.ref x :: st) M cells slots) : e_G p l e R s m args below meth c Q D CA bs b y pc lv st M cells slots := fun H locs ls hR hS hL => lv_aload_n C0.1 C0.2.1 hd hi (e_lk_at hL ha hv) (k H locs ls hR hS hL)
theorem g_aload (C0 : e_Cx p s m args meth c D CA bs b L xs y) {a : Nat} {x : Nat} (ha : a < e_mL y) (hv : e_lk a lv = some (.ref x)) (hd : decode (e_mB y) pc = .ok (.aload a, 2)) (k : e_G p l e R s m args below meth c Q D CA bs b y (pc + 2) lv (.ref x :: st) M cells slots) : e_G p l e R s m args below meth c Q D CA bs b y pc lv st M cells slots := fun H locs ls hR hS hL => lv_aload C0.1 C0.2.1 hd (e_lk_at hL ha hv) (k H locs ls hR hS hL)
theorem g_astore_n (C0 : e_Cx p s m args meth c D CA bs b L xs y) {n : Fin 4} {a : Nat} {x : Nat} (hi : (n : Nat) = a) (ha : a < e_mL y) (hk : e_ok a lv = true) (hd : decode (e_mB y) pc = .ok (.astore_n n, 1)) (k : e_G p l e R s m args below meth c Q D CA bs b y (pc + 1) (e_sto a (.ref x) lv) st M cells slots) : e_G p l e R s m args below meth c Q D CA bs b y pc lv (.ref x :: st) M cells slots := fun H locs ls hR hS hL => lv_astore_n C0.1 C0.2.1 hd hi hL ha rfl (fun ls' hl' => k H locs ls' hR hS (e_LR.sto (v := .ref x) hk hl'))
theorem g_astore (C0 : e_Cx p s m args meth c D CA bs b L xs y) {a : Nat} {x : Nat} (ha : a < e_mL y) (hk : e_ok a lv = true) (hd : decode (e_mB y) pc = .ok (.astore a, 2)) (k : e_G p l e R s m args below meth c Q D CA bs b y (pc + 2) (e_sto a (.ref x) lv) st M cells slots) : e_G p l e R s m args below meth c Q D CA bs b y pc lv (.ref x :: st) M cells slots := fun H locs ls hR hS hL => lv_astore C0.1 C0.2.1 hd hL ha rfl (fun ls' hl' => k H locs ls' hR hS (e_LR.sto (v := .ref x) hk hl'))
theorem g_lload_n (C0 : e_Cx p s m args meth c D CA bs b L xs y) {n : Fin 4} {a : Nat} {x : Int64} (hi : (n : Nat) = a) (ha : a < e_mL y) (hv : e_lk a lv = some (.long x)) (hd : decode (e_mB y) pc = .ok (.lload_n n, 1)) (k : e_G p l e R s m args below meth c Q D CA bs b y (pc + 1) lv (.long x :: st) M cells slots) : e_G p l e R s m args below meth c Q D CA bs b y pc lv st M cells slots := fun H locs ls hR hS hL => lv_lload_n C0.1 C0.2.1 hd hi (e_lk_at hL ha hv) (k H locs ls hR hS hL)
theorem g_lstore_n (C0 : e_Cx p s m args meth c D CA bs b L xs y) {n : Fin 4} {a : Nat} {x : Int64} (hi : (n : Nat) = a) (ha : a + 1 < e_mL y) (hk : e_ok a lv = true) (hn : e_no (a + 1) lv = true) (hd : decode (e_mB y) pc = .ok (.lstore_n n, 1)) (k : e_G p l e R s m args below meth c Q D CA bs b y (pc + 1) (e_sto a (.long x) lv) st M cells slots) : e_G p l e R s m args below meth c Q D CA bs b y pc lv (.long x :: st) M cells slots := fun H locs ls hR hS hL => lv_lstore_n C0.1 C0.2.1 hd hi hL ha rfl (fun ls' hl' => k H locs ls' hR hS (e_LR.stoL (v := .long x) hk hn hl'))
theorem g_iinc (C0 : e_Cx p s m args meth c D CA bs b L xs y) {a : Nat} {n : Int} {x v : Int32} (ha : a < e_mL y) (hx : e_lk a lv = some (.int x)) (hv : Int32.ofInt n = v) (hk : e_ok a lv = true) (hd : decode (e_mB y) pc = .ok (.iinc a n, 3)) (k : e_G p l e R s m args below meth c Q D CA bs b y (pc + 3) (e_sto a (.int (x + v)) lv) st M cells slots) : e_G p l e R s m args below meth c Q D CA bs b y pc lv st M cells slots := by
  intro H locs ls hR hS hL
  obtain ⟨j, hj⟩ := List.getElem?_of_mem (show (a, Value.int x) ∈ e_lvl b bs (e_mL y) lv from List.mem_filterMap.mpr ⟨a, List.mem_range.mpr ha, by rw [hx]; rfl⟩)
  exact lv_iinc C0.1 C0.2.1 hd hL hj (by rw [hv]) ha rfl (fun ls' hl' => k H locs ls' hR hS (e_LR.sto (v := .int (x + v)) hk hl'))
theorem g_iadd (C0 : e_Cx p s m args meth c D CA bs b L xs y) {x z : Int32} (hd : decode (e_mB y) pc = .ok (.iadd, 1)) (k : e_G p l e R s m args below meth c Q D CA bs b y (pc + 1) lv (.int (x + z) :: st) M cells slots) : e_G p l e R s m args below meth c Q D CA bs b y pc lv (.int z :: .int x :: st) M cells slots := fun H locs ls hR hS hL => lv_iadd C0.1 C0.2.1 hd (k H locs ls hR hS hL)
theorem g_isub (C0 : e_Cx p s m args meth c D CA bs b L xs y) {x z : Int32} (hd : decode (e_mB y) pc = .ok (.isub, 1)) (k : e_G p l e R s m args below meth c Q D CA bs b y (pc + 1) lv (.int (x - z) :: st) M cells slots) : e_G p l e R s m args below meth c Q D CA bs b y pc lv (.int z :: .int x :: st) M cells slots := fun H locs ls hR hS hL => lv_isub C0.1 C0.2.1 hd (k H locs ls hR hS hL)
theorem g_imul (C0 : e_Cx p s m args meth c D CA bs b L xs y) {x z : Int32} (hd : decode (e_mB y) pc = .ok (.imul, 1)) (k : e_G p l e R s m args below meth c Q D CA bs b y (pc + 1) lv (.int (x * z) :: st) M cells slots) : e_G p l e R s m args below meth c Q D CA bs b y pc lv (.int z :: .int x :: st) M cells slots := fun H locs ls hR hS hL => lv_imul C0.1 C0.2.1 hd (k H locs ls hR hS hL)
theorem g_iand (C0 : e_Cx p s m args meth c D CA bs b L xs y) {x z : Int32} (hd : decode (e_mB y) pc = .ok (.iand, 1)) (k : e_G p l e R s m args below meth c Q D CA bs b y (pc + 1) lv (.int (x &&& z) :: st) M cells slots) : e_G p l e R s m args below meth c Q D CA bs b y pc lv (.int z :: .int x :: st) M cells slots := fun H locs ls hR hS hL => lv_iand C0.1 C0.2.1 hd (k H locs ls hR hS hL)
theorem g_ixor (C0 : e_Cx p s m args meth c D CA bs b L xs y) {x z : Int32} (hd : decode (e_mB y) pc = .ok (.ixor, 1)) (k : e_G p l e R s m args below meth c Q D CA bs b y (pc + 1) lv (.int (x ^^^ z) :: st) M cells slots) : e_G p l e R s m args below meth c Q D CA bs b y pc lv (.int z :: .int x :: st) M cells slots := fun H locs ls hR hS hL => lv_ixor C0.1 C0.2.1 hd (k H locs ls hR hS hL)
theorem g_idiv (C0 : e_Cx p s m args meth c D CA bs b L xs y) {x z : Int32} (hz : ¬ z = 0) (hd : decode (e_mB y) pc = .ok (.idiv, 1)) (k : e_G p l e R s m args below meth c Q D CA bs b y (pc + 1) lv (.int (x / z) :: st) M cells slots) : e_G p l e R s m args below meth c Q D CA bs b y pc lv (.int z :: .int x :: st) M cells slots := fun H locs ls hR hS hL => lv_idiv C0.1 C0.2.1 hd hz (k H locs ls hR hS hL)
theorem g_irem (C0 : e_Cx p s m args meth c D CA bs b L xs y) {x z : Int32} (hz : ¬ z = 0) (hd : decode (e_mB y) pc = .ok (.irem, 1)) (k : e_G p l e R s m args below meth c Q D CA bs b y (pc + 1) lv (.int (x - x / z * z) :: st) M cells slots) : e_G p l e R s m args below meth c Q D CA bs b y pc lv (.int z :: .int x :: st) M cells slots := fun H locs ls hR hS hL => lv_irem C0.1 C0.2.1 hd hz (k H locs ls hR hS hL)
theorem g_ineg (C0 : e_Cx p s m args meth c D CA bs b L xs y) {x : Int32} (hd : decode (e_mB y) pc = .ok (.ineg, 1)) (k : e_G p l e R s m args below meth c Q D CA bs b y (pc + 1) lv (.int (-x) :: st) M cells slots) : e_G p l e R s m args below meth c Q D CA bs b y pc lv (.int x :: st) M cells slots := fun H locs ls hR hS hL => lv_ineg C0.1 C0.2.1 hd (k H locs ls hR hS hL)
theorem g_i2l (C0 : e_Cx p s m args meth c D CA bs b L xs y) {x : Int32} (hd : decode (e_mB y) pc = .ok (.i2l, 1)) (k : e_G p l e R s m args below meth c Q D CA bs b y (pc + 1) lv (.long x.toInt64 :: st) M cells slots) : e_G p l e R s m args below meth c Q D CA bs b y pc lv (.int x :: st) M cells slots := fun H locs ls hR hS hL => lv_i2l C0.1 C0.2.1 hd rfl (k H locs ls hR hS hL)
theorem g_i2b (C0 : e_Cx p s m args meth c D CA bs b L xs y) {x : Int32} (hd : decode (e_mB y) pc = .ok (.i2b, 1)) (k : e_G p l e R s m args below meth c Q D CA bs b y (pc + 1) lv (.int x.toInt8.toInt32 :: st) M cells slots) : e_G p l e R s m args below meth c Q D CA bs b y pc lv (.int x :: st) M cells slots := fun H locs ls hR hS hL => lv_i2b C0.1 C0.2.1 hd rfl (k H locs ls hR hS hL)
theorem g_ladd (C0 : e_Cx p s m args meth c D CA bs b L xs y) {x z : Int64} (hd : decode (e_mB y) pc = .ok (.ladd, 1)) (k : e_G p l e R s m args below meth c Q D CA bs b y (pc + 1) lv (.long (x + z) :: st) M cells slots) : e_G p l e R s m args below meth c Q D CA bs b y pc lv (.long z :: .long x :: st) M cells slots := fun H locs ls hR hS hL => lv_ladd C0.1 C0.2.1 hd (k H locs ls hR hS hL)
theorem g_lmul (C0 : e_Cx p s m args meth c D CA bs b L xs y) {x z : Int64} (hd : decode (e_mB y) pc = .ok (.lmul, 1)) (k : e_G p l e R s m args below meth c Q D CA bs b y (pc + 1) lv (.long (x * z) :: st) M cells slots) : e_G p l e R s m args below meth c Q D CA bs b y pc lv (.long z :: .long x :: st) M cells slots := fun H locs ls hR hS hL => lv_lmul C0.1 C0.2.1 hd (k H locs ls hR hS hL)
theorem g_lcmp (C0 : e_Cx p s m args meth c D CA bs b L xs y) {x z : Int64} (hd : decode (e_mB y) pc = .ok (.lcmp, 1)) (k : e_G p l e R s m args below meth c Q D CA bs b y (pc + 1) lv (.int (lg_cmp x z) :: st) M cells slots) : e_G p l e R s m args below meth c Q D CA bs b y pc lv (.long z :: .long x :: st) M cells slots := fun H locs ls hR hS hL => W.lcmp C0.1 C0.2.1 hd (k H locs ls hR hS hL)
theorem g_dupi (C0 : e_Cx p s m args meth c D CA bs b L xs y) {x : Int32} (hd : decode (e_mB y) pc = .ok (.dup, 1)) (k : e_G p l e R s m args below meth c Q D CA bs b y (pc + 1) lv (.int x :: .int x :: st) M cells slots) : e_G p l e R s m args below meth c Q D CA bs b y pc lv (.int x :: st) M cells slots := fun H locs ls hR hS hL => lv_dup C0.1 C0.2.1 hd rfl (k H locs ls hR hS hL)
theorem g_dupa (C0 : e_Cx p s m args meth c D CA bs b L xs y) {x : Nat} (hd : decode (e_mB y) pc = .ok (.dup, 1)) (k : e_G p l e R s m args below meth c Q D CA bs b y (pc + 1) lv (.ref x :: .ref x :: st) M cells slots) : e_G p l e R s m args below meth c Q D CA bs b y pc lv (.ref x :: st) M cells slots := fun H locs ls hR hS hL => lv_dup C0.1 C0.2.1 hd rfl (k H locs ls hR hS hL)
theorem g_dup2 (C0 : e_Cx p s m args meth c D CA bs b L xs y) {x : Int32} {z : Nat} (hd : decode (e_mB y) pc = .ok (.dup2, 1)) (k : e_G p l e R s m args below meth c Q D CA bs b y (pc + 1) lv (.int x :: .ref z :: .int x :: .ref z :: st) M cells slots) : e_G p l e R s m args below meth c Q D CA bs b y pc lv (.int x :: .ref z :: st) M cells slots := fun H locs ls hR hS hL => lv_dup2_11 C0.1 C0.2.1 hd rfl rfl (k H locs ls hR hS hL)
theorem g_pop (C0 : e_Cx p s m args meth c D CA bs b L xs y) {x : Int32} (hd : decode (e_mB y) pc = .ok (.pop, 1)) (k : e_G p l e R s m args below meth c Q D CA bs b y (pc + 1) lv st M cells slots) : e_G p l e R s m args below meth c Q D CA bs b y pc lv (.int x :: st) M cells slots := fun H locs ls hR hS hL => lv_pop C0.1 C0.2.1 hd rfl (k H locs ls hR hS hL)
theorem g_goto (C0 : e_Cx p s m args meth c D CA bs b L xs y) {off : Int} {t : Nat} (ht : (pc : Int) + off = (t : Int)) (hd : decode (e_mB y) pc = .ok (.goto off, 3)) (k : e_G p l e R s m args below meth c Q D CA bs b y t lv st M cells slots) : e_G p l e R s m args below meth c Q D CA bs b y pc lv st M cells slots := fun H locs ls hR hS hL => lv_goto C0.1 C0.2.1 hd ht (k H locs ls hR hS hL)
theorem g_if (C0 : e_Cx p s m args meth c D CA bs b L xs y) {cd : ClassFile.Cond} {x : Int32} {off : Int} {t : Nat} (ht : (pc : Int) + off = (t : Int)) (hd : decode (e_mB y) pc = .ok (.ifCond cd off, 3)) (k1 : e_c1 cd x = true → e_G p l e R s m args below meth c Q D CA bs b y t lv st M cells slots) (k2 : ¬ e_c1 cd x = true → e_G p l e R s m args below meth c Q D CA bs b y (pc + 3) lv st M cells slots) : e_G p l e R s m args below meth c Q D CA bs b y pc lv (.int x :: st) M cells slots := by
  intro H locs ls hR hS hL
  cases cd
  · exact lv_if_eq C0.1 C0.2.1 hd ht (fun q => k1 (by simp [e_c1, q]) H locs ls hR hS hL) (fun q => k2 (by simp [e_c1, q]) H locs ls hR hS hL)
  · exact lv_if_ne C0.1 C0.2.1 hd ht (fun q => k1 (by simp [e_c1, q]) H locs ls hR hS hL) (fun q => k2 (by simp [e_c1, q]) H locs ls hR hS hL)
  · exact lv_if_lt C0.1 C0.2.1 hd ht (fun q => k1 (by simp only [e_c1, q, decide_true]) H locs ls hR hS hL) (fun q => k2 (by simp only [e_c1, q, decide_false]; decide) H locs ls hR hS hL)
  · exact lv_if_ge C0.1 C0.2.1 hd ht (fun q => k1 (by simp only [e_c1, q, decide_true]) H locs ls hR hS hL) (fun q => k2 (by simp only [e_c1, q, decide_false]; decide) H locs ls hR hS hL)
  · exact lv_if_gt C0.1 C0.2.1 hd ht (fun q => k1 (by simp only [e_c1, q, decide_true]) H locs ls hR hS hL) (fun q => k2 (by simp only [e_c1, q, decide_false]; decide) H locs ls hR hS hL)
  · exact lv_if_le C0.1 C0.2.1 hd ht (fun q => k1 (by simp only [e_c1, q, decide_true]) H locs ls hR hS hL) (fun q => k2 (by simp only [e_c1, q, decide_false]; decide) H locs ls hR hS hL)
theorem g_icmp (C0 : e_Cx p s m args meth c D CA bs b L xs y) {cd : ClassFile.Cond} {x z : Int32} {off : Int} {t : Nat} (ht : (pc : Int) + off = (t : Int)) (hd : decode (e_mB y) pc = .ok (.if_icmp cd off, 3)) (k1 : e_c2 cd x z = true → e_G p l e R s m args below meth c Q D CA bs b y t lv st M cells slots) (k2 : ¬ e_c2 cd x z = true → e_G p l e R s m args below meth c Q D CA bs b y (pc + 3) lv st M cells slots) : e_G p l e R s m args below meth c Q D CA bs b y pc lv (.int z :: .int x :: st) M cells slots := by
  intro H locs ls hR hS hL
  cases cd
  · exact lv_icmp_eq C0.1 C0.2.1 hd ht (fun q => k1 (by simp [e_c2, q]) H locs ls hR hS hL) (fun q => k2 (by simp [e_c2, q]) H locs ls hR hS hL)
  · exact lv_icmp_ne C0.1 C0.2.1 hd ht (fun q => k1 (by simp [e_c2, q]) H locs ls hR hS hL) (fun q => k2 (by simp [e_c2, q]) H locs ls hR hS hL)
  · exact lv_icmp_lt C0.1 C0.2.1 hd ht (fun q => k1 (by simp only [e_c2, q, decide_true]) H locs ls hR hS hL) (fun q => k2 (by simp only [e_c2, q, decide_false]; decide) H locs ls hR hS hL)
  · exact lv_icmp_ge C0.1 C0.2.1 hd ht (fun q => k1 (by simp only [e_c2, q, decide_true]) H locs ls hR hS hL) (fun q => k2 (by simp only [e_c2, q, decide_false]; decide) H locs ls hR hS hL)
  · exact lv_icmp_gt C0.1 C0.2.1 hd ht (fun q => k1 (by simp only [e_c2, q, decide_true]) H locs ls hR hS hL) (fun q => k2 (by simp only [e_c2, q, decide_false]; decide) H locs ls hR hS hL)
  · exact lv_icmp_le C0.1 C0.2.1 hd ht (fun q => k1 (by simp only [e_c2, q, decide_true]) H locs ls hR hS hL) (fun q => k2 (by simp only [e_c2, q, decide_false]; decide) H locs ls hR hS hL)
theorem g_switch (C0 : e_Cx p s m args meth c D CA bs b L xs y) {d lo hi : Int} {offs : Array Int} {len : Nat} {x : Int32} {t : Nat} (hd : decode (e_mB y) pc = .ok (.tableswitch d lo hi offs, len)) (ht : (x.toInt < lo ∨ hi < x.toInt) ∧ (pc : Int) + d = (t : Int) ∨ (¬ (x.toInt < lo ∨ hi < x.toInt)) ∧ ∃ off, offs[(x.toInt - lo).toNat]? = some off ∧ (pc : Int) + off = (t : Int)) (k : e_G p l e R s m args below meth c Q D CA bs b y t lv st M cells slots) : e_G p l e R s m args below meth c Q D CA bs b y pc lv (.int x :: st) M cells slots := by
  intro H locs ls hR hS hL
  rcases ht with ⟨h1, h2⟩ | ⟨h1, off, h2, h3⟩
  · exact lv_tableOut C0.1 C0.2.1 hd h1 h2 (k H locs ls hR hS hL)
  · exact lv_tableIn C0.1 C0.2.1 hd (fun q => h1 (Or.inl q)) (fun q => h1 (Or.inr q)) h2 h3 (k H locs ls hR hS hL)
theorem g_getf (C0 : e_Cx p s m args meth c D CA bs b L xs y) {q a bb i : Nat} {C : String} {T : u_T} {N : Nat} (h1 : 1 ≤ q) (h2 : q ≤ M.1) (h3 : (e_kd q).1 = a) (hv : vwCl[a]? = some (C, T, N)) (hb : bb < N) (hl : (Jvm.Cond.fieldLink (e_mO y) i C (T bb).2.1 (T bb).2.2.1).before args s = true) (hd : decode (e_mB y) pc = .ok (.getfield i, 3)) (k : e_G p l e R s m args below meth c Q D CA bs b y (pc + 3) lv ((if e_isR a bb = true then e_rf (M.2.2 q bb) else .int (M.2.1 q bb)) :: st) M cells slots) : e_G p l e R s m args below meth c Q D CA bs b y pc lv (.ref q :: st) M cells slots := by
  intro H locs ls hR hS hL
  obtain ⟨e1, e2, e3, e4, e5, e6⟩ := e_cls hv
  have hP := hR.at h1 h2
  have hn := e_kd_n h3 e6
  rw [hv] at hn
  have hn : N = (e_kd q).2 := by simpa using hn
  have h0 : ¬ q = 0 := by omega
  have kk := k H locs ls hR hS hL
  have ev : e_mv b bs (if e_isR a bb = true then e_rf (M.2.2 q bb) else .int (M.2.1 q bb)) = if e_isR a bb = true then va_rf (e_ro bs (M.2.2 q bb)) else .int (M.2.1 q bb) := by
    split
    · exact e_mv_rf b bs _
    · rfl
  rw [List.map_cons, ev] at kk
  have key := va_get (pc := pc) (ls := ls) (rest := st.map (e_mv b bs)) C0.1 C0.2.1 C0.2.2.2.2.2.2.2.2.2.2.2.2.2 e1 C0.2.2.2.2.2.1 C0.2.2.2.2.2.2.2.2.1 hP 0 (by rw [e_ent_o h3 e6]; rfl) hv bb hb hl (fun x hx => by rw [e4 bb hb] at hx; exact hx) (by rw [List.getElem?_map, List.getElem?_range (by omega)]; rfl) hd kk
  simpa [e_mv, h0] using key
theorem g_iald (C0 : e_Cx p s m args meth c D CA bs b L xs y) {q : Nat} {i : Int32} (h1 : 1 ≤ q) (h2 : q ≤ M.1) (h3 : (e_kd q).1 = 10) (h4 : e_in i (e_kd q).2 = true) (hd : decode (e_mB y) pc = .ok (.iaload, 1)) (k : e_G p l e R s m args below meth c Q D CA bs b y (pc + 1) lv (.int (M.2.1 q i.toNatClampNeg) :: st) M cells slots) : e_G p l e R s m args below meth c Q D CA bs b y pc lv (.int i :: .ref q :: st) M cells slots := by
  intro H locs ls hR hS hL
  have h0 : ¬ q = 0 := by omega
  have key := va_iald (pc := pc) (ls := ls) (rest := st.map (e_mv b bs)) C0.1 C0.2.1 C0.2.2.2.2.2.2.2.2.1 (hR.at h1 h2) 0 0 (by rw [e_ent_i h3 (by omega) (by omega)]; rfl) rfl (e_in_iff h4) hd (k H locs ls hR hS hL)
  simpa [e_mv, h0] using key
theorem g_bald (C0 : e_Cx p s m args meth c D CA bs b L xs y) {q : Nat} {i : Int32} (h1 : 1 ≤ q) (h2 : q ≤ M.1) (h3 : (e_kd q).1 = 11) (h4 : e_in i (e_kd q).2 = true) (hd : decode (e_mB y) pc = .ok (.baload, 1)) (k : e_G p l e R s m args below meth c Q D CA bs b y (pc + 1) lv (.int (M.2.1 q i.toNatClampNeg) :: st) M cells slots) : e_G p l e R s m args below meth c Q D CA bs b y pc lv (.int i :: .ref q :: st) M cells slots := by
  intro H locs ls hR hS hL
  have h0 : ¬ q = 0 := by omega
  have key := va_bald (pc := pc) (ls := ls) (rest := st.map (e_mv b bs)) C0.1 C0.2.1 C0.2.2.2.2.2.2.2.2.1 (hR.at h1 h2) 0 1 (by rw [e_ent_i h3 (by omega) (by omega)]; rfl) rfl (e_in_iff h4) hd (k H locs ls hR hS hL)
  simpa [e_mv, h0] using key
theorem g_sld (C0 : e_Cx p s m args meth c D CA bs b L xs y) {i : Int32} (h4 : e_in i L = true) (hd : decode (e_mB y) pc = .ok (.iaload, 1)) (k : e_G p l e R s m args below meth c Q D CA bs b y (pc + 1) lv (.int (xs i.toNatClampNeg) :: st) M cells slots) : e_G p l e R s m args below meth c Q D CA bs b y pc lv (.int i :: .ref 0 :: st) M cells slots := by
  intro H locs ls hR hS hL
  exact va_sld (b := b) (A := fun q => bs + 1 ≤ q) C0.1 C0.2.1 C0.2.2.2.2.2.2.2.2.2.1 C0.2.2.2.2.2.2.2.2.2.2.1 (by have := C0.2.2.2.2.2.2.2.2.2.2.2.1; omega) hS (e_in_iff h4) hd (k H locs ls hR hS hL)
theorem g_slen (C0 : e_Cx p s m args meth c D CA bs b L xs y) (hd : decode (e_mB y) pc = .ok (.arraylength, 1)) (k : e_G p l e R s m args below meth c Q D CA bs b y (pc + 1) lv (.int (Int32.ofNat L) :: st) M cells slots) : e_G p l e R s m args below meth c Q D CA bs b y pc lv (.ref 0 :: st) M cells slots := by
  intro H locs ls hR hS hL
  exact va_slen (b := b) (A := fun q => bs + 1 ≤ q) C0.1 C0.2.1 C0.2.2.2.2.2.2.2.2.2.1 C0.2.2.2.2.2.2.2.2.2.2.1 (by have := C0.2.2.2.2.2.2.2.2.2.2.2.1; omega) hS hd (k H locs ls hR hS hL)
theorem g_aald (C0 : e_Cx p s m args meth c D CA bs b L xs y) {q : Nat} {i : Int32} (h1 : 1 ≤ q) (h2 : q ≤ M.1) (h3 : 12 ≤ (e_kd q).1 ∧ (e_kd q).1 ≤ 14) (h4 : e_in i (e_kd q).2 = true) (hd : decode (e_mB y) pc = .ok (.aaload, 1)) (k : e_G p l e R s m args below meth c Q D CA bs b y (pc + 1) lv (e_rf (M.2.2 q i.toNatClampNeg) :: st) M cells slots) : e_G p l e R s m args below meth c Q D CA bs b y pc lv (.int i :: .ref q :: st) M cells slots := by
  intro H locs ls hR hS hL
  have h0 : ¬ q = 0 := by omega
  have hin := e_in_iff h4
  have hlt : i.toNatClampNeg < (e_kd q).2 := Nat.not_le.mp fun q => hin (Or.inr q)
  have kk := k H locs ls hR hS hL
  rw [List.map_cons, e_mv_rf] at kk
  have hP := hR.2.2 q h1 h2
  rw [e_ent_q rfl (by omega)] at hP
  have hcell : H[bs + q]? = some (vp_cell (CA (e_kd q).1) ((e_kd q).2, .inr (.inr (.inr (.inr (fun j => e_ro bs (M.2.2 q j))))))) := hP
  obtain ⟨ty, hty, hr⟩ : ∃ ty : FieldType, ArrOfT s (CA (e_kd q).1) ty ∧ ty.isReference = true := by
    have hk := C0.2.2.2.2.2.2.2.2.1.2
    obtain h | h | h : (e_kd q).1 = 12 ∨ (e_kd q).1 = 13 ∨ (e_kd q).1 = 14 := by omega
    · exact ⟨_, by rw [h]; exact (hk 2 _ rfl).1, rfl⟩
    · exact ⟨_, by rw [h]; exact (hk 3 _ rfl).1, rfl⟩
    · exact ⟨_, by rw [h]; exact (hk 4 _ rfl).1, rfl⟩
  have key := W.aald (v := va_rf (e_ro bs (M.2.2 q i.toNatClampNeg))) (ty := ty) (g := F0 m pc ls (.int i :: .ref (bs + q) :: st.map (e_mv b bs))) C0.1 C0.2.1 hcell (hty _ (fun j => va_rf (e_ro bs (M.2.2 q j)))) hr (fun q => by cases q) (by show ¬ (i < 0 ∨ (arrV _ _ _).slots.size ≤ _); rw [arrV_size]; exact hin) (by show (arrV _ _ _).slots[_]? = _; rw [arrV_read _ _ hlt]) rfl rfl hd kk
  simpa [e_mv, h0] using key
end E_ROWS
