/-! THE CLAIM OUT OF ONE WALK OF THE LAW'S BODY. Your part is whole_start (and what it stands on); all else here is the same for every law, but numbers. -/
def R_law : String := "FeederControlLaw"
def lw_P (b : Addr) (xs : List Int32) (args : Array Value) (s : State) : Prop := args = #[.ref b] ∧ s.IntsAt b xs ∧ xs.length ≤ 3584 ∧ (Jvm.Cond.and given_1 narrow_1).before args s = true
def lw_Q (_ : Array Value) (s : State) (o : Outcome) (t : State) : Prop := o = .returned (some (.int 1)) ∧ Framed s o t [] 600000 7302250
def lw_Z (below : List Frame) (a : Array Value) (s : State) : State → Prop := fun t => ∃ o, t.status = .running ∧ Ended t below o ∧ lw_Q a s o t
/-- the law's own end, with 1 on the stack, nothing written that was there before, its room as the claim has it -/
theorem lw_ret {p : Program} {l : Launch} {e : Env} {s : State} {m : MethodId} {below : List Frame} {meth : Method} {c : Code} {b : Nat} (hx : p.tables.exec = Jvm.exec) (hb : c.code = code) (hr : meth.sig.returnType = ret) (hlocks : meth.locks = false) {pc : Nat} {H : Heap} {ls : Array Slot} (hdg : decode code pc = .ok (.ireturn, 1)) : W p l e room_1 s m #[Value.ref b] below meth c H [] 600000 7302250 (lw_Z below #[Value.ref b] s) (F0 m pc ls [.int 1]) := by
  intro T hT X
  obtain ⟨fs, hret, hrun, hended, hW, hframe⟩ := X.leave (v := some (.int 1)) (hlocks := hlocks) (fun h => by rw [hr] at h; cases h)
  have hmeth' : T.vm.method? m = some meth := X.method'
  refine ⟨T.setFrames fs, ?_, .returned (some (.int 1)), hrun, hended, rfl, ⟨_, rfl⟩, hW, hframe⟩
  jvm_step X.here [X.here.top, hx, hb, hdg, hmeth', hr, ret, narrow_b1]
  (try refine ⟨rfl, ?_⟩); (try refine ⟨rfl, ?_⟩)
  first | (intro acts; rw [hret _ acts rfl rfl rfl]) | rw [hret _ _ rfl rfl rfl]
  exact Steps.refl _
/-- what holds at the law's entry: the machine, the code, the tables' words (any of lw_tbl by 'hts w (by decide +kernel)'), the script of L ints xs at the cell b, what the Statement gives of the start (any of its parts by flat_of_before) -/
def lw_At (p : Program) (s : State) (m : MethodId) (meth : Method) (c : Code) (b L : Nat) (xs : Nat → Int32) : Prop :=
  p.tables.exec = Jvm.exec ∧ c.code = code ∧ meth.sig.returnType = ret ∧ c.maxLocals = 4 ∧ s.vm.findClass R_law = some m.cls ∧ (∀ w ∈ lw_tbl, w.before #[Value.ref b] s = true) ∧ va_X b L xs s s.heap ∧ b < s.heap.size ∧ meth.locks = false ∧ (Jvm.Cond.and given_1 narrow_1).before #[Value.ref b] s = true
/-! the law's run on the real machine, out of its run on the plain one -/
def e_M0 : e_Mem := (0, fun _ _ => 0, fun _ _ => 0)
def e_kcl : List Nat := [131, 62, 236, 309, 69, 258, 286, 75, 54, 686]
set_option maxRecDepth 20000 in
theorem e_kcl_ok {k i : Nat} {C : String} {T : u_T} {N : Nat} (h : vwCl[k]? = some (C, T, N)) (hi : e_kcl[k]? = some i) : lw_tbl[i]? = some (.instantiable C N) := by
  match k, h, hi with
  | 0, h, hi => cases h; cases hi; rfl
  | 1, h, hi => cases h; cases hi; rfl
  | 2, h, hi => cases h; cases hi; rfl
  | 3, h, hi => cases h; cases hi; rfl
  | 4, h, hi => cases h; cases hi; rfl
  | 5, h, hi => cases h; cases hi; rfl
  | 6, h, hi => cases h; cases hi; rfl
  | 7, h, hi => cases h; cases hi; rfl
  | 8, h, hi => cases h; cases hi; rfl
  | 9, h, hi => cases h; cases hi; rfl
  | k + 10, h, hi => simp [vwCl] at h
theorem e_arr_of {s : State} {t : FieldType} {cA : ClassId} {k : Class} {comp : ClassId} (hk : s.vm.classes[cA]? = some k) (hkind : k.kind = .array comp t) : ArrOfT s cA t := fun n z => ⟨(fun q hq => by cases hq), k, hk, comp, hkind⟩
set_option maxRecDepth 20000 in
theorem e_start {p : Program} {e : Env} {s : State} {m : MethodId} {below : List Frame} {meth : Method} {c : Code} (l : Launch) {b L : Nat} {xs : Nat → Int32} (C0 : lw_At p s m meth c b L xs) {f : Nat} {M' : e_Mem} (hrun : e_ev xs L f kL_law_0 (lv_args 0 [.ref 0]) [] e_M0 = some (some (.int 1), M')) (hM : M'.1 = 173) : W p l e room_1 s m #[Value.ref b] below meth c s.heap [] 0 0 (lw_Z below #[Value.ref b] s) (entryFrame m ([Value.ref b] : List Value).toArray 4) := by
  obtain ⟨hx, hb, hr, hml, hown, hts, hX, hbl, hlocks, hgv⟩ := id C0
  obtain ⟨bs, hbs⟩ : ∃ bs, s.heap.size = bs + 1 := ⟨s.heap.size - 1, by omega⟩
  have hW : e_Wd s := by
    intro w hw hg
    have h0 := hts w hw
    by_cases hgw : goodWord w = true
    · exact word_at (State.WarmedH.refl s) (good_of_word hgw) h0
    · cases w with
      | methodLinkNest a i x hh => exact va_Nw.of rfl h0
      | arrayOver t => exact h0
      | _ => simp [hgw, e_isN, e_isO] at hg
  have hTs := e_T_of hW (#[Value.ref b])
  have hex : ∀ k : Nat, ∃ z : ClassId × (Nat → Nat), ∀ q : vw_C, vwCl[k]? = some q → u_Kn s q.1 q.2.1 q.2.2 z.1 z.2 := by
    intro k
    cases hq : vwCl[k]? with
    | none => exact ⟨(0, fun _ => 0), fun q h => by cases h⟩
    | some q =>
      obtain ⟨C, T, N⟩ := q
      have hin := (e_cls hq).1
      have hlen : k < 10 := (e_cls hq).2.2.2.2.2
      obtain ⟨i, hi⟩ : ∃ i, e_kcl[k]? = some i := ⟨_, List.getElem?_eq_getElem (show k < e_kcl.length from hlen)⟩
      obtain ⟨cC, iS, h⟩ := u_known hTs hin (hts _ (List.mem_of_getElem? (e_kcl_ok hq hi)))
      refine ⟨(cC, iS), fun q h' => ?_⟩
      cases h'
      exact h
  obtain ⟨d, hd⟩ := Classical.axiomOfChoice hex
  obtain ⟨c10, k10, m10, n10, g10, i10⟩ := Cond.arrayClass_spec (hts (.arrayClass .int) (List.mem_of_getElem? (i := 129) rfl))
  obtain ⟨c11, k11, m11, n11, g11, i11⟩ := Cond.arrayClass_spec (hts (.arrayClass .byte) (List.mem_of_getElem? (i := 307) rfl))
  obtain ⟨m12, c12, k12, f12, -, g12, i12, n12⟩ := Cond.arrayOver_spec (hts (.arrayOver (.object "FeederControl$Feeder")) (List.mem_of_getElem? (i := 315) rfl))
  obtain ⟨m13, c13, k13, f13, -, g13, i13, n13⟩ := Cond.arrayOver_spec (hts (.arrayOver (.object "FeederControl$Node")) (List.mem_of_getElem? (i := 68) rfl))
  obtain ⟨m14, c14, k14, f14, -, g14, i14, n14⟩ := arrayOver_specB (hts (.arrayOver (.array .int)) (List.mem_of_getElem? (i := 266) rfl))
  have hK : va_K (fun k => (d k).1, fun k => (d k).2) vwCl (e_tys (fun k => if k = 10 then c10 else if k = 11 then c11 else if k = 12 then c12 else if k = 13 then c13 else c14)) s := by
    refine ⟨fun k q hq => hd k q hq, fun k q hq => ?_⟩
    match k, hq with
    | 0, hq => cases hq; exact ⟨e_arr_of g10 i10, n10⟩
    | 1, hq => cases hq; exact ⟨e_arr_of g11 i11, n11⟩
    | 2, hq => cases hq; exact ⟨e_arr_of g12 i12, k12, m12, g12, i12, f12, n12⟩
    | 3, hq => cases hq; exact ⟨e_arr_of g13 i13, k13, m13, g13, i13, f13, n13⟩
    | 4, hq => cases hq; exact ⟨e_arr_of g14 i14, n14⟩
    | k + 5, hq => simp [e_tys] at hq
  obtain ⟨w0, hw0⟩ := e_chk 27 (by rw [e_labs_len]; decide)
  have sim := e_sim l (fun k => (d k).1, fun k => (d k).2) (fun k => if k = 10 then c10 else if k = 11 then c11 else if k = 12 then c12 else if k = 13 then c13 else c14) bs b L xs e_chk f 0 kL_law_0 (lv_args 0 [.ref 0]) [] e_M0 _ w0 hw0 hrun p e room_1 s m #[Value.ref b] below meth c 0 (Nat.le_refl _) (by decide) (by decide) (by show M'.1 - 0 ≤ 600000; omega) (by show e_SZ M'.1 - e_SZ 0 ≤ 7302250; rw [hM]; exact Nat.le_of_ble_eq_true rfl) ⟨hx, hb, hml, hr, hlocks, hown, fun h => absurd h (by decide), hW, hK, hX, hbl, by omega, by omega, hTs⟩
  have hent := e_LR.entry (b := b) (bs := bs) (nL := 4) (As := [.ref 0]) (Nat.le_of_ble_eq_true rfl)
  have k2 := sim s.heap [] _ ⟨by rw [hbs]; rfl, Nat.zero_le _, fun c h1 h2 => absurd h2 (Nat.not_le.mpr h1)⟩ va_S.rf hent
  rw [lg_entry_eq]
  intro T hT X
  obtain ⟨t, a1, o, b1, b2, ⟨hq1, -, -⟩, Lx, hF, hfree⟩ := k2 T hT X
  refine ⟨t, a1, o, b1, b2, hq1, hF.1, hF.2.1, hF.2.2.weaken (fun z hz hlt => absurd hlt (Nat.not_lt.mpr (by rw [hbs]; exact hfree z hz))) ?_ ?_⟩
  · show M'.1 - 0 ≤ 600000
    omega
  · show e_SZ M'.1 - e_SZ 0 ≤ 7302250
    rw [hM]
    exact Nat.le_of_ble_eq_true rfl
