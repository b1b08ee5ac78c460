/-! new int[24][33], Object.<init>, calls, returns -/
theorem e_outer (c : ClassId) (N h0 : Nat) : ∀ i : Nat, Jvm.Free.Multi.outerC c N h0 i = arrV c N (fun j => va_rf (if j < i then some (h0 + 1 + j) else none))
  | 0 => by
    show ({ cls := c, slots := Array.replicate N .null, vm := .none } : Cell) = _
    rw [arrV_new]
    refine congrArg (arrV c N) (funext fun j => ?_)
    simp [va_rf]
  | i + 1 => by
    show (Jvm.Free.Multi.outerC c N h0 i).setSlot i (.ref (h0 + 1 + i)) = _
    rw [e_outer c N h0 i, arrV_store]
    refine congrArg (arrV c N) (funext fun j => ?_)
    by_cases e : j = i
    · subst e
      simp [updV, va_rf]
    · by_cases h : j < i
      · simp [updV, e, h, Nat.lt_succ_of_lt h]
      · simp [updV, e, h, show ¬ j < i + 1 by omega]
section E_ROWS
variable {p : Program} {l : Launch} {e : Env} {R : Room} {s : State} {m : MethodId} {args : Array Value} {below : List Frame} {meth : Method} {c : Code} {Q : State → Prop} {D : va_G} {CA : Nat → ClassId} {bs b L y pc : Nat} {xs : Nat → Int32} {lv : e_Lv} {st : List Value} {M : e_Mem} {cells slots : Nat}
theorem g_multi (C0 : e_Cx p s m args meth c D CA bs b L xs y) {i : Nat} (hn : M.1 + 25 ≤ 173) (hk : e_kd (M.1 + 1) = (14, 24)) (hk2 : ∀ j, j < 24 → e_kd (M.1 + 2 + j) = (10, 33)) (hcl : (Jvm.Cond.classLink (e_mO y) i ("[" ++ (FieldType.array .int).toString)).before args s = true) (hov : (Jvm.Cond.arrayOver (.array .int)).before args s = true) (harr : (Jvm.Cond.arrayClass .int).before args s = true) (hcells : cells + 25 ≤ R.cells) (hslots : slots + (24 + 24 * 33) ≤ R.slots) (hd : decode (e_mB y) pc = .ok (.multianewarray i 2, 4)) (k : e_G p l e R s m args below meth c Q D CA bs b y (pc + 4) lv (.ref (M.1 + 1) :: st) ((M.1 + 25, e_clr 0 M.2.1 (M.1 + 1) 25, fun c' k' => if c' = M.1 + 1 ∧ k' < 24 then M.1 + 2 + k' else e_clr 0 M.2.2 (M.1 + 1) 25 c' k')) (cells + 25) (slots + (24 + 24 * 33))) : e_G p l e R s m args below meth c Q D CA bs b y pc lv (.int 33 :: .int 24 :: st) M cells slots := by
  intro H locs ls hR hS hL T hT Xs
  have hN : (24 : Int32).toNatClampNeg = 24 := by decide +kernel
  have hK' : (33 : Int32).toNatClampNeg = 33 := by decide +kernel
  obtain ⟨vm₁, cA, comp, -, fA, fC, hO, -, X', step⟩ := Xs.multianewarray2F (ty := .int) C0.1 C0.2.2.2.2.2.1 hcl hov harr (g := F0 m pc ls (.int 33 :: .int 24 :: st.map (e_mv b bs))) rfl (by rw [C0.2.1]; exact hd) rfl (by decide +kernel) (by decide +kernel) (by rw [hN]; exact Nat.le_of_ble_eq_true rfl) (by rw [hK']; exact Nat.le_of_ble_eq_true rfl) (by rw [hK']; exact Nat.le_of_ble_eq_true rfl) rfl rfl (by rw [hN]; omega) (by rw [hN, hK']; omega)
  rw [hN, hK'] at X' step
  have hTys := C0.2.2.2.2.2.2.2.2.1.2
  have hcA : cA = CA 14 := Option.some.inj (fA.symm.trans (hTys 4 _ rfl).2)
  have hcI : comp = CA 10 := Option.some.inj (fC.symm.trans (hTys 0 _ rfl).2)
  subst hcA
  subst hcI
  generalize hF : Jvm.Free.Multi.fill (T.setVm vm₁) (CA 14) (CA 10) 24 33 (defaultValue .int) 24 = F at X' step
  have hTh : (T.setVm vm₁).heap = H := hT
  obtain ⟨f1, f2, -, -⟩ := Jvm.Free.Multi.fill_facts (T.setVm vm₁) (CA 14) (CA 10) 24 33 (defaultValue .int) 24
  rw [hF, hTh] at f1 f2
  have hsz := hR.1
  have hold : ∀ x : Nat, x < H.size → F.heap[x]? = H[x]? := fun x hx => by
    have := Jvm.Free.Multi.fill_old (T.setVm vm₁) (CA 14) (CA 10) 24 33 (defaultValue .int) (a := x) (by rw [hTh]; exact hx) 24
    rw [hF, hTh] at this
    exact this
  have hrow : ∀ j : Nat, j < 24 → F.heap[H.size + 1 + j]? = some (arrV (CA 10) 33 (fun _ => .int 0)) := fun j hj => by
    have := Jvm.Free.Multi.fill_inner (T.setVm vm₁) (CA 14) (CA 10) 24 33 (defaultValue .int) 24 j hj
    rw [hF, hTh] at this
    rw [this]
    exact congrArg some (arrV_new (CA 10) 33 (.int 0))
  rw [e_outer] at f2
  have key := k F.heap locs ls ⟨by show F.heap.size = bs + 1 + (M.1 + 25); rw [f1]; omega, hn, fun c h1 h2 => ?_⟩ ⟨by rw [f1]; have := hS.1; omega, fun x h1 h2 => (hold x (Nat.lt_of_lt_of_le h1 hS.1)).trans (hS.2.1 x h1 h2), hS.2.2⟩ hL F rfl X'
  · obtain ⟨t, a1, b1⟩ := key
    refine ⟨t, step t ?_, b1⟩
    have e : T.heap.size = bs + (M.1 + 1) := by rw [hT]; omega
    rw [e]
    simpa [e_mv] using a1
  · have h2 : c ≤ M.1 + 25 := h2
    by_cases hc : c ≤ M.1
    · rw [e_ent_clr (M := M) hc (fun j => by
        show (if c = M.1 + 1 ∧ j < 24 then M.1 + 2 + j else e_clr 0 M.2.2 (M.1 + 1) 25 c j) = _
        rw [if_neg (by omega), e_clr_out (by omega)])]
      exact (hR.2.2 c h1 hc).kept (hold _ (by show bs + c < _; omega))
    · by_cases hc1 : c = M.1 + 1
      · subst hc1
        have hk1 : (e_kd (M.1 + 1)).1 = 14 := by rw [hk]
        rw [e_ent_q hk1 (by omega)]
        show F.heap[bs + (M.1 + 1)]? = some (vp_cell _ _)
        rw [show bs + (M.1 + 1) = H.size by omega, f2, vp_cell_q, hk]
        show some (arrV (CA 14) 24 _) = some (arrV (CA 14) 24 _)
        congr 2
        funext j
        show va_rf (if j < 24 then some (H.size + 1 + j) else none) = va_rf (e_ro bs (if M.1 + 1 = M.1 + 1 ∧ j < 24 then M.1 + 2 + j else e_clr 0 M.2.2 (M.1 + 1) 25 (M.1 + 1) j))
        by_cases hj : j < 24
        · rw [if_pos hj, if_pos ⟨rfl, hj⟩]
          unfold e_ro
          rw [if_neg (by omega)]
          congr 2
          omega
        · rw [if_neg hj, if_neg (by omega), e_clr_in ⟨Nat.le_refl _, by omega⟩]
          rfl
      · have hk1 : e_kd c = (10, 33) := by
          have := hk2 (c - (M.1 + 2)) (by omega)
          rw [show M.1 + 2 + (c - (M.1 + 2)) = c by omega] at this
          exact this
        rw [e_ent_i (a := 10) (by rw [hk1]) (by omega) (by omega)]
        show F.heap[bs + c]? = some (vp_cell _ _)
        have := hrow (c - (M.1 + 2)) (by omega)
        rw [show bs + c = H.size + 1 + (c - (M.1 + 2)) by omega, this, vp_cell_i, hk1]
        show some (arrV (CA 10) 33 _) = some (arrV (CA 10) 33 _)
        congr 2
        funext j
        show Value.int 0 = Value.int (e_clr 0 M.2.1 (M.1 + 1) 25 c j)
        rw [e_clr_in ⟨by omega, by omega⟩]
theorem g_oinit (C0 : e_Cx p s m args meth c D CA bs b L xs y) {q i : Nat} (hl : (Jvm.Cond.methodLink (e_mO y) i Lib.objectInit).before args s = true) (hin : (Jvm.Cond.instanceMethod Lib.objectInit).before args s = true) (hc : (Jvm.Cond.code Lib.objectInit ⟨#[0xb1]⟩ 1 none).before args s = true) (hfr : 1 ≤ R.frames) (hlo : 12 ≤ R.locals) (hd : decode (e_mB y) pc = .ok (.invokespecial i, 3)) (k : e_G p l e R s m args below meth c Q D CA bs b y (pc + 3) lv [] M cells slots) : e_G p l e R s m args below meth c Q D CA bs b y pc lv ([.ref q]) M cells slots := by
  intro H locs ls hR hS hL
  exact W.objInit C0.1 C0.2.1 C0.2.2.2.2.2.1 hl hin hc (g := F0 m pc ls [.ref (if q = 0 then b else bs + q)]) rfl (by rw [C0.2.2.1]; exact hL.1) rfl hd hfr (by show 2 * 0 + 0 + 12 ≤ _; omega) (k H locs ls hR hS hL)
theorem g_ret0 (C0 : e_Cx p s m args meth c D CA bs b L xs y) (hr : e_mR y = none) (hd : decode (e_mB y) pc = .ok (.return_, 1)) {H : Heap} {locs : List Loc} {ls : Array Slot} (hR : e_Rel D CA bs M H) (hS : va_S (fun q => bs + 1 ≤ q) s.heap H locs) : W p l e R s m args below meth c H locs cells slots (MQ below (e_Qc D CA bs b (none, M)) args s cells slots (fun q => bs + 1 ≤ q)) (F0 m pc ls []) :=
  W.vret (hlocks := C0.2.2.2.2.1) C0.1 C0.2.1 (C0.2.2.2.1.trans hr) (fun t ht _ => ⟨rfl, by rw [ht]; exact hR, hS.F ht⟩) hS.2.2 hd
theorem g_iret (C0 : e_Cx p s m args meth c D CA bs b L xs y) {x : Int32} (hr : e_mR y = some .int ∨ e_mR y = some .boolean ∧ (x = 0 ∨ x = 1)) (hd : decode (e_mB y) pc = .ok (.ireturn, 1)) {H : Heap} {locs : List Loc} {ls : Array Slot} (hR : e_Rel D CA bs M H) (hS : va_S (fun q => bs + 1 ≤ q) s.heap H locs) : W p l e R s m args below meth c H locs cells slots (MQ below (e_Qc D CA bs b (some (.int x), M)) args s cells slots (fun q => bs + 1 ≤ q)) (F0 m pc ls [.int x]) := by
  rcases hr with hr | ⟨hr, hx⟩
  · exact W.iret (hlocks := C0.2.2.2.2.1) C0.1 C0.2.1 (C0.2.2.2.1.trans hr) (fun t ht _ => ⟨rfl, by rw [ht]; exact hR, hS.F ht⟩) hS.2.2 hd
  · exact W.zret (hlocks := C0.2.2.2.2.1) C0.1 C0.2.1 (C0.2.2.2.1.trans hr) (by rcases hx with h | h <;> (subst h; decide +kernel)) (fun t ht _ => ⟨rfl, by rw [ht]; exact hR, hS.F ht⟩) hS.2.2 hd
theorem g_lret (C0 : e_Cx p s m args meth c D CA bs b L xs y) {x : Int64} (hr : e_mR y = some .long) (hd : decode (e_mB y) pc = .ok (.lreturn, 1)) {H : Heap} {locs : List Loc} {ls : Array Slot} (hR : e_Rel D CA bs M H) (hS : va_S (fun q => bs + 1 ≤ q) s.heap H locs) : W p l e R s m args below meth c H locs cells slots (MQ below (e_Qc D CA bs b (some (.long x), M)) args s cells slots (fun q => bs + 1 ≤ q)) (F0 m pc ls [.long x]) :=
  W.lret (hlocks := C0.2.2.2.2.1) C0.1 C0.2.1 (C0.2.2.2.1.trans hr) (fun t ht _ => ⟨rfl, by rw [ht]; exact hR, hS.F ht⟩) hS.2.2 hd
theorem e_cat_eq (b bs : Nat) : ∀ r : List Value, ((r.map (e_mv b bs)).map fun v => v.category).sum = e_slw r
  | [] => by simp [e_slw]
  | v :: r => by
    have ih := e_cat_eq b bs r
    have h1 : (e_mv b bs v).category = if e_isL v = true then 2 else 1 := by cases v <;> rfl
    simp only [List.map_cons, List.sum_cons, e_slw, ih, h1]
theorem e_cat_le (b bs : Nat) : ∀ r : List Value, ((r.map (e_mv b bs)).map fun v => v.category).sum ≤ 2 * r.length
  | [] => by simp
  | v :: r => by
    have ih := e_cat_le b bs r
    have h1 : (e_mv b bs v).category ≤ 2 := by rcases lv_cat (e_mv b bs v) with h | h <;> omega
    simp only [List.map_cons, List.sum_cons, List.length_cons]
    omega
theorem g_mmax (C0 : e_Cx p s m args meth c D CA bs b L xs y) {x z : Int32} {i : Nat} (hl : (Jvm.Cond.methodLink (e_mO y) i Lib.Math.max.name).before args s = true) (hcode : (Jvm.Cond.code Lib.Math.max.name Lib.Math.max.code 2 (some .int)).before args s = true) (hstat : (Jvm.Cond.static Lib.Math.max.name).before args s = true) (hini : (Jvm.Cond.initialized "java/lang/Math").before args s = true) (hfr : 1 ≤ R.frames) (hlo : 40 ≤ R.locals) (hc : cells ≤ R.cells) (hs : slots ≤ R.slots) (hr : st.length ≤ 4) (hd : decode (e_mB y) pc = .ok (.invokestatic i, 3)) (k : e_G p l e R s m args below meth c Q D CA bs b y (pc + 3) lv (.int (if x < z then z else x) :: st) M cells slots) : e_G p l e R s m args below meth c Q D CA bs b y pc lv (.int z :: .int x :: st) M cells slots := by
  intro H locs ls hR hS hL
  have hcat := e_cat_le b bs st
  exact va_mmax C0.1 C0.2.1 (by rw [C0.2.2.1]; exact hL.1.symm) C0.2.2.2.2.2.1 hl hstat hini hcode hfr (by omega) hc hs hd (k H locs ls hR hS hL)
theorem g_mmin (C0 : e_Cx p s m args meth c D CA bs b L xs y) {x z : Int32} {i : Nat} (hl : (Jvm.Cond.methodLink (e_mO y) i Lib.Math.min.name).before args s = true) (hcode : (Jvm.Cond.code Lib.Math.min.name Lib.Math.min.code 2 (some .int)).before args s = true) (hstat : (Jvm.Cond.static Lib.Math.min.name).before args s = true) (hini : (Jvm.Cond.initialized "java/lang/Math").before args s = true) (hfr : 1 ≤ R.frames) (hlo : 40 ≤ R.locals) (hc : cells ≤ R.cells) (hs : slots ≤ R.slots) (hr : st.length ≤ 4) (hd : decode (e_mB y) pc = .ok (.invokestatic i, 3)) (k : e_G p l e R s m args below meth c Q D CA bs b y (pc + 3) lv (.int (if z < x then z else x) :: st) M cells slots) : e_G p l e R s m args below meth c Q D CA bs b y pc lv (.int z :: .int x :: st) M cells slots := by
  intro H locs ls hR hS hL
  have hcat := e_cat_le b bs st
  exact va_mmin C0.1 C0.2.1 (by rw [C0.2.2.1]; exact hL.1.symm) C0.2.2.2.2.2.1 hl hstat hini hcode hfr (by omega) hc hs hd (k H locs ls hR hS hL)
theorem g_mabs (C0 : e_Cx p s m args meth c D CA bs b L xs y) {x : Int32} {i : Nat} (hl : (Jvm.Cond.methodLink (e_mO y) i Lib.Math.abs.name).before args s = true) (hcode : (Jvm.Cond.code Lib.Math.abs.name Lib.Math.abs.code 1 (some .int)).before args s = true) (hstat : (Jvm.Cond.static Lib.Math.abs.name).before args s = true) (hini : (Jvm.Cond.initialized "java/lang/Math").before args s = true) (hfr : 1 ≤ R.frames) (hlo : 40 ≤ R.locals) (hc : cells ≤ R.cells) (hs : slots ≤ R.slots) (hr : st.length ≤ 4) (hd : decode (e_mB y) pc = .ok (.invokestatic i, 3)) (k : e_G p l e R s m args below meth c Q D CA bs b y (pc + 3) lv (.int (if 0 ≤ x then x else 0 - x) :: st) M cells slots) : e_G p l e R s m args below meth c Q D CA bs b y pc lv (.int x :: st) M cells slots := by
  intro H locs ls hR hS hL
  have hcat := e_cat_le b bs st
  exact va_mabs C0.1 C0.2.1 (by rw [C0.2.2.1]; exact hL.1.symm) C0.2.2.2.2.2.1 hl hstat hini hcode hfr (by omega) hc hs hd (k H locs ls hR hS hL)
theorem g_fmod (C0 : e_Cx p s m args meth c D CA bs b L xs y) {x z : Int32} {i : Nat} (hz : ¬ z = 0) (hl : (Jvm.Cond.methodLink (e_mO y) i Jvm.Free.MCB.FloorMod.yN).before args s = true) (hcode : (Jvm.Cond.code Jvm.Free.MCB.FloorMod.yN Jvm.Free.MCB.FloorMod.yB 3 (some .int)).before args s = true) (hstat : (Jvm.Cond.static Jvm.Free.MCB.FloorMod.yN).before args s = true) (hini : (Jvm.Cond.initialized "java/lang/Math").before args s = true) (hfr : 1 ≤ R.frames) (hlo : 40 ≤ R.locals) (hc : cells ≤ R.cells) (hs : slots ≤ R.slots) (hr : st.length ≤ 4) (hd : decode (e_mB y) pc = .ok (.invokestatic i, 3)) (k : e_G p l e R s m args below meth c Q D CA bs b y (pc + 3) lv (.int (Jvm.Free.MCB.fmod x z) :: st) M cells slots) : e_G p l e R s m args below meth c Q D CA bs b y pc lv (.int z :: .int x :: st) M cells slots := by
  intro H locs ls hR hS hL T hT X
  have hcat := e_cat_le b bs st
  obtain ⟨v, vm₁, ⟨U', l2, c2, s2⟩, hW₁, X', ⟨hpure, hval⟩, hstep⟩ := callS X C0.1 (own := e_mO y) (bytes := Jvm.Free.MCB.FloorMod.yB) (maxL := 3) (ret := some .int) C0.2.2.2.2.2.1 hl hstat hini hcode ⟨by decide, by decide⟩ (Jvm.Free.MCB.FloorMod.pays (W := 8) hfr (by omega) hcode hini) (g := F0 m pc ls (.int z :: .int x :: st.map (e_mv b bs))) rfl (by rw [C0.2.2.1]; exact hL.1) (argsL := [.int x, .int z]) (rest := st.map (e_mv b bs)) (fun sig h => by
      have e : parseMethodDescriptor Jvm.Free.MCB.FloorMod.yN.desc = some { parameters := [.int, .int], returnType := some .int } := by decide +kernel
      rw [e] at h
      cases h
      rfl) rfl (by show 2 * 0 + _ ≤ 8; omega) (by rw [C0.2.1]; exact hd) (fun vm₁ _ => ⟨hc, hs, ⟨(x, z), rfl, hz⟩⟩)
  have hv := hval (x, z) ⟨rfl, hz⟩
  subst hv
  obtain ⟨p1, p2, p3, p4⟩ := hpure
  dsimp only at p1 p2 p3 p4 X' hstep
  subst p2
  subst p3
  subst p4
  obtain ⟨t, a1, b1⟩ := k H _ ls hR hS hL U' (p1.trans hT) X'
  exact ⟨t, hstep t a1, b1⟩
theorem e_after {a : Array Value} {res : e_Rs} {mc ms : Nat} {restM : List Value} {ls : Array Slot} {st0 : List Value} {H : Heap} {locs : List Loc} (hr : va_Run p l e R s m args below meth c H locs cells slots mc ms (F0 m pc ls st0) restM (e_Qc D CA bs b res a) (fun q => bs + 1 ≤ q)) (hS : va_S (fun q => bs + 1 ≤ q) s.heap H locs)
    (kk : ∀ (H1 : Heap) (locs1 : List Loc), e_Rel D CA bs res.2 H1 → va_S (fun q => bs + 1 ≤ q) s.heap H1 locs1 → W p l e R s m args below meth c H1 locs1 (cells + mc) (slots + ms) Q (F0 m (pc + 3) ls ((res.1.map (e_mv b bs)).toList ++ restM))) : W p l e R s m args below meth c H locs cells slots Q (F0 m pc ls st0) := by
  intro T hT X
  obtain ⟨v, st₀, t, T', L', h0, X', hL, e1, e2, ⟨hv, hrel, hz, hk⟩, st⟩ := hr T hT X
  cases hv
  rw [h0] at hz hk
  obtain ⟨t2, a1, b1⟩ := kk T'.heap (locs ++ L') (by rw [e1]; exact hrel)
    ⟨Nat.le_trans hS.1 (by rw [e1]; exact hz), fun q h1 h2 => by rw [e1, hk q (Nat.lt_of_lt_of_le h1 hS.1) h2]; exact hS.2.1 q h1 h2, fun q hq => by
      rcases List.mem_append.mp hq with h | h
      · exact hS.2.2 q h
      · exact hL q h⟩ T' rfl X'
  exact ⟨t2, st t2 a1, b1⟩
theorem e_pre (C0 : e_Cx p s m args meth c D CA bs b L xs y) {As : List Value} {H : Heap} {locs : List Loc} (hR : e_Rel D CA bs M H) (hS : va_S (fun q => bs + 1 ≤ q) s.heap H locs) {U : State} (hU : U.heap = H) (hW : s.WarmedH U.vm) : e_Pc D CA bs b L xs As M (As.map (e_mv b bs)).toArray U := by
  have hbs := C0.2.2.2.2.2.2.2.2.2.2.2.1
  have hbl := C0.2.2.2.2.2.2.2.2.2.2.1
  refine ⟨rfl, by rw [hU]; exact hR, e_Wd.warm hW C0.2.2.2.2.2.2.2.1, va_K.moved hW.alike C0.2.2.2.2.2.2.2.2.1, ?_, by rw [hU]; exact Nat.lt_of_lt_of_le hbl hS.1, hbs⟩
  rw [hU]
  exact va_X.moved hW.alike (va_X.kept C0.2.2.2.2.2.2.2.2.2.1 (hS.2.1 b hbl (by omega)))
theorem e_callB {z i n mc ms : Nat} (hst : e_Cs y z) (hcode : (Jvm.Cond.code (e_mN z) (e_mB z) (e_mL z) (e_mR z)).before args s = true) (hini : (Jvm.Cond.initialized (e_mN z).cls).before args s = true) (hl : (Jvm.Cond.methodLink (e_mO y) i (e_mN z)).before args s = true) (hp : (parseMethodDescriptor (e_mN z).desc).map (fun d => d.parameters.length) = some n) (hf : e_mF y ≤ R.frames) (hlo : e_mQ y ≤ R.locals) : CallB R s args (e_mO y) i (e_mN z) (e_mB z) (e_mL z) (e_mR z) (e_ws z) (e_rm z mc ms) mc ms n :=
  callB_of (Ts := e_ws z) n (fun w hw => by rw [List.mem_singleton.mp hw]; exact hcode) e_go rfl rfl rfl hini hl ⟨hst.2.2.1, hst.2.2.2, hp⟩ ⟨Nat.le_trans hst.1 hf, Nat.le_trans hst.2.1 hlo⟩
theorem e_callN {z i n mc ms : Nat} {host : String} (hst : e_Cs y z) (hcode : (Jvm.Cond.code (e_mN z) (e_mB z) (e_mL z) (e_mR z)).before args s = true) (hini : (Jvm.Cond.initialized (e_mN z).cls).before args s = true) (hl : va_Nw (.methodLinkNest (e_mO y) i (e_mN z) host) s) (hp : (parseMethodDescriptor (e_mN z).desc).map (fun d => d.parameters.length) = some n) (hf : e_mF y ≤ R.frames) (hlo : e_mQ y ≤ R.locals) : va_CN R s args (e_mO y) i (e_mN z) host (e_mB z) (e_mL z) (e_mR z) (e_ws z) (e_rm z mc ms) mc ms n :=
  va_cnB (Ts := e_ws z) n (fun w hw => by rw [List.mem_singleton.mp hw]; exact hcode) e_go rfl rfl rfl hl hini ⟨hst.2.2.1, hst.2.2.2, hp⟩ ⟨Nat.le_trans hst.1 hf, Nat.le_trans hst.2.1 hlo⟩
theorem g_callV (C0 : e_Cx p s m args meth c D CA bs b L xs y) {z i q : Nat} {As rest : List Value} {res : e_Rs} (hM : e_Met l D CA bs b L xs z (.ref q :: As) M res) (hst : e_Cs y z) (hcode : (Jvm.Cond.code (e_mN z) (e_mB z) (e_mL z) (e_mR z)).before args s = true) (hini : (Jvm.Cond.initialized (e_mN z).cls).before args s = true) (hp : (parseMethodDescriptor (e_mN z).desc).map (fun d => d.parameters.length) = some As.length) {rw : vw_C} (hq1 : 1 ≤ q) (hq2 : q ≤ M.1) (hq3 : (e_kd q).1 = e_mC z) (hcz : e_mC z < 10) (hcv : vwCl[e_mC z]? = some rw) (hcn : rw.1 = (e_mN z).cls) (hl : (Jvm.Cond.methodLink (e_mO y) i (e_mN z)).before args s = true) (hx : (Jvm.Cond.instanceMethod (e_mN z)).before args s = true) (hse : (Jvm.Cond.selects (e_mN z).cls (e_mN z) (e_mN z)).before args s = true) (hf : e_mF y ≤ R.frames) (hlo : e_mQ y ≤ R.locals) (hmc : cells + (res.2.1 - M.1) ≤ R.cells) (hms : slots + (e_SZ res.2.1 - e_SZ M.1) ≤ R.slots) (hrest : e_slw rest ≤ 8) (hd : decode (e_mB y) pc = .ok (.invokevirtual i, 3)) (k : e_G p l e R s m args below meth c Q D CA bs b y (pc + 3) lv (res.1.toList ++ rest) res.2 (cells + (res.2.1 - M.1)) (slots + (e_SZ res.2.1 - e_SZ M.1))) : e_G p l e R s m args below meth c Q D CA bs b y pc lv (As.reverse ++ .ref q :: rest) M cells slots := by
  intro H locs ls hR hS hL
  have hcat := e_cat_eq b bs rest
  have hW : 2 * (F0 m pc ls ((As.reverse ++ .ref q :: rest).map (e_mv b bs))).monitorRoom + ((rest.map (e_mv b bs)).map fun v => v.category).sum ≤ 8 := by show 2 * 0 + _ ≤ 8; omega
  have hrec := va_recv C0.2.2.2.2.2.2.2.2.1 (hR.at hq1 hq2) (ci := e_mC z) (q0 := 0) hcv (by rw [e_ent_o hq3 hcz]; rfl)
  rw [hcn] at hrec
  refine e_after (va_runV (C := (e_mN z).cls) (b := bs + q) (R := R) (n := As.length) (locs := locs) (cells := cells) (slots := slots) (l := l) (e := e) (below := below) (meth := meth) (As := As.map (e_mv b bs)) (rest := rest.map (e_mv b bs)) (g := F0 m pc ls _) ⟨C0.1, C0.2.1, C0.2.2.1, C0.2.2.2.2.2.1, C0.2.2.2.2.2.2.2.2.2.2.2.2.2⟩ hM ⟨e_callB hst hcode hini hl hp hf hlo, hx, hse⟩ ⟨e_blind, hrec, fun U hU hW => by have := e_pre C0 (As := .ref q :: As) hR hS hU hW; simpa [e_mv, show ¬ q = 0 by omega] using this⟩ rfl (by simp) (hL.1) (by simp [e_mv, show ¬ q = 0 by omega]) hW hd ⟨hmc, hms⟩) hS fun H1 locs1 hR1 hS1 => ?_
  have key := k H1 locs1 ls hR1 hS1 hL
  rw [List.map_append] at key
  have e1 : (res.1.toList).map (e_mv b bs) = (res.1.map (e_mv b bs)).toList := by cases res.1 <;> rfl
  rw [e1] at key
  exact key
theorem g_callS (C0 : e_Cx p s m args meth c D CA bs b L xs y) {z i : Nat} {As rest : List Value} {res : e_Rs} (hM : e_Met l D CA bs b L xs z As M res) (hst : e_Cs y z) (hcode : (Jvm.Cond.code (e_mN z) (e_mB z) (e_mL z) (e_mR z)).before args s = true) (hini : (Jvm.Cond.initialized (e_mN z).cls).before args s = true) (hp : (parseMethodDescriptor (e_mN z).desc).map (fun d => d.parameters.length) = some As.length) (hl : (Jvm.Cond.methodLink (e_mO y) i (e_mN z)).before args s = true) (hx : (Jvm.Cond.static (e_mN z)).before args s = true) (hf : e_mF y ≤ R.frames) (hlo : e_mQ y ≤ R.locals) (hmc : cells + (res.2.1 - M.1) ≤ R.cells) (hms : slots + (e_SZ res.2.1 - e_SZ M.1) ≤ R.slots) (hrest : e_slw rest ≤ 8) (hd : decode (e_mB y) pc = .ok (.invokestatic i, 3)) (k : e_G p l e R s m args below meth c Q D CA bs b y (pc + 3) lv (res.1.toList ++ rest) res.2 (cells + (res.2.1 - M.1)) (slots + (e_SZ res.2.1 - e_SZ M.1))) : e_G p l e R s m args below meth c Q D CA bs b y pc lv (As.reverse ++ rest) M cells slots := by
  intro H locs ls hR hS hL
  have hcat := e_cat_eq b bs rest
  have hW : 2 * (F0 m pc ls ((As.reverse ++ rest).map (e_mv b bs))).monitorRoom + ((rest.map (e_mv b bs)).map fun v => v.category).sum ≤ 8 := by show 2 * 0 + _ ≤ 8; omega
  refine e_after (va_runS (R := R) (n := As.length) (locs := locs) (cells := cells) (slots := slots) (l := l) (e := e) (below := below) (meth := meth) (As := As.map (e_mv b bs)) (rest := rest.map (e_mv b bs)) (g := F0 m pc ls _) ⟨C0.1, C0.2.1, C0.2.2.1, C0.2.2.2.2.2.1, C0.2.2.2.2.2.2.2.2.2.2.2.2.2⟩ hM ⟨e_callB hst hcode hini hl hp hf hlo, hx⟩ ⟨e_blind, fun U hU hW => e_pre C0 hR hS hU hW⟩ rfl (by simp) (hL.1) (by simp) hW hd ⟨hmc, hms⟩) hS fun H1 locs1 hR1 hS1 => ?_
  have key := k H1 locs1 ls hR1 hS1 hL
  rw [List.map_append] at key
  have e1 : (res.1.toList).map (e_mv b bs) = (res.1.map (e_mv b bs)).toList := by cases res.1 <;> rfl
  rw [e1] at key
  exact key
theorem g_callSN (C0 : e_Cx p s m args meth c D CA bs b L xs y) {z i : Nat} {As rest : List Value} {res : e_Rs} (hM : e_Met l D CA bs b L xs z As M res) (hst : e_Cs y z) (hcode : (Jvm.Cond.code (e_mN z) (e_mB z) (e_mL z) (e_mR z)).before args s = true) (hini : (Jvm.Cond.initialized (e_mN z).cls).before args s = true) (hp : (parseMethodDescriptor (e_mN z).desc).map (fun d => d.parameters.length) = some As.length) {host : String} (hl : va_Nw (.methodLinkNest (e_mO y) i (e_mN z) host) s) (hx : (Jvm.Cond.static (e_mN z)).before args s = true) (hf : e_mF y ≤ R.frames) (hlo : e_mQ y ≤ R.locals) (hmc : cells + (res.2.1 - M.1) ≤ R.cells) (hms : slots + (e_SZ res.2.1 - e_SZ M.1) ≤ R.slots) (hrest : e_slw rest ≤ 8) (hd : decode (e_mB y) pc = .ok (.invokestatic i, 3)) (k : e_G p l e R s m args below meth c Q D CA bs b y (pc + 3) lv (res.1.toList ++ rest) res.2 (cells + (res.2.1 - M.1)) (slots + (e_SZ res.2.1 - e_SZ M.1))) : e_G p l e R s m args below meth c Q D CA bs b y pc lv (As.reverse ++ rest) M cells slots := by
  intro H locs ls hR hS hL
  have hcat := e_cat_eq b bs rest
  have hW : 2 * (F0 m pc ls ((As.reverse ++ rest).map (e_mv b bs))).monitorRoom + ((rest.map (e_mv b bs)).map fun v => v.category).sum ≤ 8 := by show 2 * 0 + _ ≤ 8; omega
  refine e_after (va_runSN (R := R) (n := As.length) (locs := locs) (cells := cells) (slots := slots) (l := l) (e := e) (below := below) (meth := meth) (As := As.map (e_mv b bs)) (rest := rest.map (e_mv b bs)) (g := F0 m pc ls _) ⟨C0.1, C0.2.1, C0.2.2.1, C0.2.2.2.2.2.1, C0.2.2.2.2.2.2.2.2.2.2.2.2.2⟩ hM ⟨e_callN hst hcode hini hl hp hf hlo, hx, trivial⟩ ⟨e_blind, fun U hU hW => e_pre C0 hR hS hU hW⟩ rfl (by simp) (hL.1) (by simp) hW hd ⟨hmc, hms⟩) hS fun H1 locs1 hR1 hS1 => ?_
  have key := k H1 locs1 ls hR1 hS1 hL
  rw [List.map_append] at key
  have e1 : (res.1.toList).map (e_mv b bs) = (res.1.map (e_mv b bs)).toList := by cases res.1 <;> rfl
  rw [e1] at key
  exact key
theorem g_callI (C0 : e_Cx p s m args meth c D CA bs b L xs y) {z i q : Nat} {As rest : List Value} {res : e_Rs} (hM : e_Met l D CA bs b L xs z (.ref q :: As) M res) (hst : e_Cs y z) (hcode : (Jvm.Cond.code (e_mN z) (e_mB z) (e_mL z) (e_mR z)).before args s = true) (hini : (Jvm.Cond.initialized (e_mN z).cls).before args s = true) (hp : (parseMethodDescriptor (e_mN z).desc).map (fun d => d.parameters.length) = some As.length) (hq1 : 1 ≤ q) (hrn : e_mR z = none) (hnm : (e_mN z).name = "<init>") (hl : (Jvm.Cond.methodLink (e_mO y) i (e_mN z)).before args s = true) (hx : (Jvm.Cond.instanceMethod (e_mN z)).before args s = true) (hf : e_mF y ≤ R.frames) (hlo : e_mQ y ≤ R.locals) (hmc : cells + (res.2.1 - M.1) ≤ R.cells) (hms : slots + (e_SZ res.2.1 - e_SZ M.1) ≤ R.slots) (hrest : e_slw rest ≤ 8) (hd : decode (e_mB y) pc = .ok (.invokespecial i, 3)) (k : e_G p l e R s m args below meth c Q D CA bs b y (pc + 3) lv (res.1.toList ++ rest) res.2 (cells + (res.2.1 - M.1)) (slots + (e_SZ res.2.1 - e_SZ M.1))) : e_G p l e R s m args below meth c Q D CA bs b y pc lv (As.reverse ++ .ref q :: rest) M cells slots := by
  intro H locs ls hR hS hL
  have hcat := e_cat_eq b bs rest
  have hW : 2 * (F0 m pc ls ((As.reverse ++ .ref q :: rest).map (e_mv b bs))).monitorRoom + ((rest.map (e_mv b bs)).map fun v => v.category).sum ≤ 8 := by show 2 * 0 + _ ≤ 8; omega
  rw [hrn] at hcode
  refine e_after (va_runI (b := bs + q) (R := R) (n := As.length) (locs := locs) (cells := cells) (slots := slots) (l := l) (e := e) (below := below) (meth := meth) (As := As.map (e_mv b bs)) (rest := rest.map (e_mv b bs)) (g := F0 m pc ls _) ⟨C0.1, C0.2.1, C0.2.2.1, C0.2.2.2.2.2.1, C0.2.2.2.2.2.2.2.2.2.2.2.2.2⟩ hM ⟨hrn ▸ e_callB hst (hrn.symm ▸ hcode) hini hl hp hf hlo, hnm, hx⟩ ⟨e_blind, fun U hU hW => by have := e_pre C0 (As := .ref q :: As) hR hS hU hW; simpa [e_mv, show ¬ q = 0 by omega] using this⟩ rfl (by simp) (hL.1) (by simp [e_mv, show ¬ q = 0 by omega]) hW hd ⟨hmc, hms⟩) hS fun H1 locs1 hR1 hS1 => ?_
  have key := k H1 locs1 ls hR1 hS1 hL
  rw [List.map_append] at key
  have e1 : (res.1.toList).map (e_mv b bs) = (res.1.map (e_mv b bs)).toList := by cases res.1 <;> rfl
  rw [e1] at key
  exact key
theorem g_callIN (C0 : e_Cx p s m args meth c D CA bs b L xs y) {z i q : Nat} {As rest : List Value} {res : e_Rs} (hM : e_Met l D CA bs b L xs z (.ref q :: As) M res) (hst : e_Cs y z) (hcode : (Jvm.Cond.code (e_mN z) (e_mB z) (e_mL z) (e_mR z)).before args s = true) (hini : (Jvm.Cond.initialized (e_mN z).cls).before args s = true) (hp : (parseMethodDescriptor (e_mN z).desc).map (fun d => d.parameters.length) = some As.length) {host : String} (hq1 : 1 ≤ q) (hrn : e_mR z = none) (hnm : (e_mN z).name = "<init>") (hl : va_Nw (.methodLinkNest (e_mO y) i (e_mN z) host) s) (hx : (Jvm.Cond.instanceMethod (e_mN z)).before args s = true) (hf : e_mF y ≤ R.frames) (hlo : e_mQ y ≤ R.locals) (hmc : cells + (res.2.1 - M.1) ≤ R.cells) (hms : slots + (e_SZ res.2.1 - e_SZ M.1) ≤ R.slots) (hrest : e_slw rest ≤ 8) (hd : decode (e_mB y) pc = .ok (.invokespecial i, 3)) (k : e_G p l e R s m args below meth c Q D CA bs b y (pc + 3) lv (res.1.toList ++ rest) res.2 (cells + (res.2.1 - M.1)) (slots + (e_SZ res.2.1 - e_SZ M.1))) : e_G p l e R s m args below meth c Q D CA bs b y pc lv (As.reverse ++ .ref q :: rest) M cells slots := by
  intro H locs ls hR hS hL
  have hcat := e_cat_eq b bs rest
  have hW : 2 * (F0 m pc ls ((As.reverse ++ .ref q :: rest).map (e_mv b bs))).monitorRoom + ((rest.map (e_mv b bs)).map fun v => v.category).sum ≤ 8 := by show 2 * 0 + _ ≤ 8; omega
  rw [hrn] at hcode
  refine e_after (va_runIN (b := bs + q) (R := R) (n := As.length) (locs := locs) (cells := cells) (slots := slots) (l := l) (e := e) (below := below) (meth := meth) (As := As.map (e_mv b bs)) (rest := rest.map (e_mv b bs)) (g := F0 m pc ls _) ⟨C0.1, C0.2.1, C0.2.2.1, C0.2.2.2.2.2.1, C0.2.2.2.2.2.2.2.2.2.2.2.2.2⟩ hM ⟨hrn ▸ e_callN hst (hrn.symm ▸ hcode) hini hl hp hf hlo, hnm, hx⟩ ⟨e_blind, fun U hU hW => by have := e_pre C0 (As := .ref q :: As) hR hS hU hW; simpa [e_mv, show ¬ q = 0 by omega] using this⟩ rfl (by simp) (hL.1) (by simp [e_mv, show ¬ q = 0 by omega]) hW hd ⟨hmc, hms⟩) hS fun H1 locs1 hR1 hS1 => ?_
  have key := k H1 locs1 ls hR1 hS1 hL
  rw [List.map_append] at key
  have e1 : (res.1.toList).map (e_mv b bs) = (res.1.map (e_mv b bs)).toList := by cases res.1 <;> rfl
  rw [e1] at key
  exact key
end E_ROWS
