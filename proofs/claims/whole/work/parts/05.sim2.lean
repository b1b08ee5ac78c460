/-! stores, new cells, calls and returns of the plain machine -/
theorem e_vpV {g : Nat → Value} {n j : Nat} (hj : j < n) : vp_V ((List.range n).map g) j = g j := by
  simp [vp_V, List.getD_eq_getElem?_getD, List.getElem?_map, List.getElem?_range hj]
theorem e_AOA_moved {t : FieldType} {u U : State} (hvm : u.vm.Alike U.vm) (h : va_Nw (.arrayOver (.array t)) u) : va_Nw (.arrayOver (.array t)) U := arrayOver_alikeB hvm h
theorem e_Wd.warm {s U : State} (hW : s.WarmedH U.vm) (h : e_Wd s) : e_Wd U := by
  intro w hw hg
  have h0 := h w hw hg
  by_cases hgw : goodWord w = true
  · exact word_at hW (good_of_word hgw) h0
  · cases w with
    | methodLinkNest a i x hh => exact va_Nw.warmM hW h0
    | arrayOver t =>
      cases t with
      | object C => exact va_AO.moved hW.alike h0
      | array t => exact e_AOA_moved hW.alike h0
      | _ => simp [hgw, e_isN, e_isO] at hg
    | _ => simp [hgw, e_isN, e_isO] at hg
def e_SZ : Nat → Nat
  | 0 => 0
  | n + 1 => e_SZ n + (e_kd (n + 1)).2
theorem e_SZ_le {a b : Nat} (h : a ≤ b) : e_SZ a ≤ e_SZ b := by
  induction b with
  | zero => rw [Nat.le_zero.mp h]; exact Nat.le_refl _
  | succ n ih =>
    rcases Nat.lt_or_ge a (n + 1) with q | q
    · exact Nat.le_trans (ih (by omega)) (Nat.le_add_right _ _)
    · rw [Nat.le_antisymm h q]; exact Nat.le_refl _
theorem e_ent_clr {bs : Nat} {CA : Nat → ClassId} {M : e_Mem} {k n : Nat} {r' : Nat → Nat → Nat} {c : Nat} (h : c ≤ M.1) (hr : ∀ j, r' c j = M.2.2 c j) : e_ent bs CA (k, e_clr 0 M.2.1 (M.1 + 1) n, r') c = e_ent bs CA M c := by
  have h1 : ∀ j, e_clr 0 M.2.1 (M.1 + 1) n c j = M.2.1 c j := fun j => by simp only [e_clr]; rw [if_neg (by omega)]
  have h2 : e_clr 0 M.2.1 (M.1 + 1) n c = M.2.1 c := funext h1
  simp only [e_ent, h2, h1, hr]
theorem e_clr_in {α : Type} {z : α} {m : Nat → Nat → α} {lo n c j : Nat} (h : lo ≤ c ∧ c < lo + n) : e_clr z m lo n c j = z := by simp only [e_clr]; rw [if_pos h]
theorem e_clr_out {α : Type} {z : α} {m : Nat → Nat → α} {lo n c j : Nat} (h : ¬ (lo ≤ c ∧ c < lo + n)) : e_clr z m lo n c j = m c j := by simp only [e_clr]; rw [if_neg h]
def e_Qc (D : va_G) (CA : Nat → ClassId) (bs b : Nat) (res : e_Rs) : Array Value → State → Outcome → State → Prop := fun _ st o t => o = .returned (res.1.map (e_mv b bs)) ∧ e_Rel D CA bs res.2 t.heap ∧ va_F (fun q => bs + 1 ≤ q) st t
def e_Pc (D : va_G) (CA : Nat → ClassId) (bs b L : Nat) (xs : Nat → Int32) (As : List Value) (M : e_Mem) : Array Value → State → Prop :=
  va_Pc (As.map (e_mv b bs)) (fun U => e_Rel D CA bs M U.heap ∧ e_Wd U ∧ va_K D vwCl (e_tys CA) U ∧ va_X b L xs U U.heap ∧ b < U.heap.size ∧ b ≤ bs)
def e_rm (y mc ms : Nat) : Room := { frames := e_mF y, cells := mc, slots := ms, locals := e_mQ y }
def e_ws (y : Nat) : List Jvm.Cond := [Jvm.Cond.code (e_mN y) (e_mB y) (e_mL y) (e_mR y)]
def e_Met (l : Launch) (D : va_G) (CA : Nat → ClassId) (bs b L : Nat) (xs : Nat → Int32) (y : Nat) (As : List Value) (M : e_Mem) (res : e_Rs) : Prop :=
  Met l (e_mN y) (e_ws y) (e_rm y (res.2.1 - M.1) (e_SZ res.2.1 - e_SZ M.1)) (e_Pc D CA bs b L xs As M) (e_Qc D CA bs b res) (res.2.1 - M.1) (e_SZ res.2.1 - e_SZ M.1) (fun q => bs + 1 ≤ q)
theorem e_blind {D : va_G} {CA : Nat → ClassId} {bs b L : Nat} {xs : Nat → Int32} {As : List Value} {M : e_Mem} : FrameBlind (e_Pc D CA bs b L xs As M) := by
  intro a U g mk ⟨h1, h2, h3, h4, h5, h6, h7⟩
  exact ⟨h1, h2, e_Wd.warm (s := U) (U := U.calling g mk a) (State.WarmedH.refl U) h3, va_K.moved (u := U) (U := U.calling g mk a) (Vm.Alike.refl U.vm) h4, va_X.moved (u := U) (U := U.calling g mk a) (Vm.Alike.refl U.vm) h5, h6, h7⟩
theorem e_go {w : Nat} : GoodIn (e_ws w) (e_ws w) := fun w hw => ⟨hw, by rw [List.mem_singleton.mp hw]; exact Or.inl rfl⟩
/-- what is static of a call to method z -/
def e_Cs (y z : Nat) : Prop := e_mF z + 1 ≤ e_mF y ∧ 8 + (e_mL z + 11) + e_mQ z ≤ e_mQ y ∧ ((e_mN z).cls ≠ "java/lang/invoke/MethodHandle" ∧ (e_mN z).cls ≠ "java/lang/invoke/VarHandle")
section E_ROWS
variable {p : Program} {l : Launch} {e : Env} {R : Room} {s : State} {m : MethodId} {args : Array Value} {below : List Frame} {meth : Method} {c : Code} {Q : State → Prop} {D : va_G} {CA : Nat → ClassId} {bs b L y pc : Nat} {xs : Nat → Int32} {lv : e_Lv} {st : List Value} {M : e_Mem} {cells slots : Nat}
theorem g_puti (C0 : e_Cx p s m args meth c D CA bs b L xs y) {q a bb i : Nat} {C : String} {T : u_T} {N : Nat} {x : Int32} (h1 : 1 ≤ q) (h2 : q ≤ M.1) (h3 : (e_kd q).1 = a) (hv : vwCl[a]? = some (C, T, N)) (hb : bb < N) (hr : e_isR a bb = false) (hfin : (T bb).2.2.2 = false) (hn : narrow (e_ty a bb) (.int x) = .int x) (hf : fits (e_ty a bb) (.int x) = true) (hl : (Jvm.Cond.fieldLink (e_mO y) i C (T bb).2.1 (T bb).2.2.1).before args s = true) (hd : decode (e_mB y) pc = .ok (.putfield i, 3)) (k : e_G p l e R s m args below meth c Q D CA bs b y (pc + 3) lv st ((M.1, e_set M.2.1 q bb x, M.2.2)) cells slots) : e_G p l e R s m args below meth c Q D CA bs b y pc lv (.int x :: .ref q :: st) M cells slots := by
  intro H locs ls hR hS hL
  obtain ⟨e1, e2, e3, e4, e5, e6⟩ := e_cls hv
  have hn' := e_kd_n h3 e6
  rw [hv] at hn'
  have hN : N = (e_kd q).2 := by simpa using hn'
  have h0 : ¬ q = 0 := by omega
  have hts := C0.2.2.2.2.2.2.2.2.2.2.2.2.2
  have hK := C0.2.2.2.2.2.2.2.2.1
  have hat := hR.2.2 q h1 h2
  rw [e_ent_o h3 e6] at hat
  obtain ⟨r, g1, cell, q1, q2, q3, q4⟩ := hat
  have hr' : r = (C, T, N) := Option.some.inj (g1.symm.trans hv)
  subst hr'
  obtain ⟨hS', hfc, kC, hkC, hkind⟩ := hK.1 a _ hv
  obtain ⟨cf, kf, fi, f, hi, hsl⟩ := hS' bb hb
  have hap := va_apart (own := e_mO y) hts e1 (e_ty a) e2 e3 hK hv
  have hlay := hts _ (e1 _ (u_in_lay hb))
  unfold u_lay at hlay
  rw [if_neg (by rw [hfin]; decide)] at hlay
  have hst := (u_facts hfc hkC (u_lays hts e1 hb) hi).1
  have h6 := u_store hfc hkC hkind hlay hi (e2 bb hb) hn hf
  have hi' : s.fieldFound? C (T bb).2.1 (T bb).2.2.1 = some (cf, kf, fi, f) := by rw [← e4 bb hb]; exact hi
  have key := W.putK (rest := st.map (e_mv b bs)) (g := F0 m pc ls (.int x :: .ref (bs + q) :: st.map (e_mv b bs))) C0.1 C0.2.1 (f := f) ⟨C0.2.2.2.2.2.1, hl, ⟨_, _, _, hi'⟩, hst⟩ (by rw [q2]; exact h6) q1 q3 (by rw [hsl]; exact k2_hasslot (q4 bb hb)) rfl rfl hd (fun H' a1 a2 a3 => by
    rw [hsl] at a1
    refine k H' _ ls (hR.put (M' := (M.1, e_set M.2.1 q bb x, M.2.2)) rfl a2 a3 ?_ (fun c hc => e_ent_set hc)) (hS.put a2 a3 (by show bs + 1 ≤ bs + q; omega)) hL
    rw [e_ent_o h3 e6]
    refine ⟨_, hv, t_OB.to (V := updV (vp_V _) bb (.int x)) ⟨_, a1, q2, q3, t_set q4 hap hb (.int x)⟩ (fun j hj => ?_)⟩
    have hj : j < N := hj
    rw [e_vpV (by omega)]
    by_cases hjb : j = bb
    · subst hjb
      simp [updV, hr, e_set]
    · simp [updV, hjb, e_set]
      rw [e_vpV (by omega)])
  simpa [e_mv, h0] using key
theorem g_putr (C0 : e_Cx p s m args meth c D CA bs b L xs y) {q z a bb i : Nat} {C : String} {T : u_T} {N : Nat} (h1 : 1 ≤ q) (h2 : q ≤ M.1) (h3 : (e_kd q).1 = a) (hz : 1 ≤ z) (hv : vwCl[a]? = some (C, T, N)) (hb : bb < N) (hr : e_isR a bb = true) (hfin : (T bb).2.2.2 = true) (hin : (e_mN y).name = "<init>") (hdecl : C = e_mO y) (hn : ∀ x : Nat, narrow (e_ty a bb) (.ref x) = .ref x) (hf : ∀ x : Nat, fits (e_ty a bb) (.ref x) = true) (hl : (Jvm.Cond.fieldLink (e_mO y) i C (T bb).2.1 (T bb).2.2.1).before args s = true) (hd : decode (e_mB y) pc = .ok (.putfield i, 3)) (k : e_G p l e R s m args below meth c Q D CA bs b y (pc + 3) lv st ((M.1, M.2.1, e_set M.2.2 q bb z)) cells slots) : e_G p l e R s m args below meth c Q D CA bs b y pc lv (.ref z :: .ref q :: st) M cells slots := by
  intro H locs ls hR hS hL
  obtain ⟨e1, e2, e3, e4, e5, e6⟩ := e_cls hv
  have hn' := e_kd_n h3 e6
  rw [hv] at hn'
  have hN : N = (e_kd q).2 := by simpa using hn'
  have h0 : ¬ q = 0 := by omega
  have hz0 : ¬ z = 0 := by omega
  have hts := C0.2.2.2.2.2.2.2.2.2.2.2.2.2
  have hK := C0.2.2.2.2.2.2.2.2.1
  have hat := hR.2.2 q h1 h2
  rw [e_ent_o h3 e6] at hat
  obtain ⟨r, g1, cell, q1, q2, q3, q4⟩ := hat
  have hr' : r = (C, T, N) := Option.some.inj (g1.symm.trans hv)
  subst hr'
  obtain ⟨hS', hfc, kC, hkC, hkind⟩ := hK.1 a _ hv
  obtain ⟨cf, kf, fi, f, hi, hsl⟩ := hS' bb hb
  have hap := va_apart (own := e_mO y) hts e1 (e_ty a) e2 e3 hK hv
  have hlay := hts _ (e1 _ (u_in_lay hb))
  unfold u_lay at hlay
  rw [if_pos hfin] at hlay
  have hst := (u_facts hfc hkC (u_lays hts e1 hb) hi).1
  have hcf : m.cls = cf := by
    obtain ⟨_, _, c', _, _, _, -, -, hf', -, -, -, hown2, -⟩ := Cond.laysFinal_spec hlay
    have e1 : c' = cf := by have := hi.symm.trans hf'; simp at this; exact this.1.symm
    rw [e4 bb hb, hdecl] at hown2
    rw [← e1]; exact Option.some.inj (C0.2.2.2.2.2.1.symm.trans hown2)
  have h6 := u_fits hfc hkC hkind (Or.inr hlay) hi (e2 bb hb) (hn (bs + z)) (hf (bs + z))
  have hi' : s.fieldFound? C (T bb).2.1 (T bb).2.2.1 = some (cf, kf, fi, f) := by rw [← e4 bb hb]; exact hi
  have key := W.putFinK (rest := st.map (e_mv b bs)) (g := F0 m pc ls (.ref (bs + z) :: .ref (bs + q) :: st.map (e_mv b bs))) C0.1 C0.2.1 C0.2.2.2.2.2.1 hl hi' hst hcf (C0.2.2.2.2.2.2.1 hin) (by rw [q2]; exact h6) q1 q3 (by rw [hsl]; exact k2_hasslot (q4 bb hb)) rfl rfl hd (fun H' a1 a2 a3 => by
    rw [hsl] at a1
    refine k H' _ ls (hR.put (M' := (M.1, M.2.1, e_set M.2.2 q bb z)) rfl a2 a3 ?_ (fun c hc => e_ent_setR hc)) (hS.put a2 a3 (by show bs + 1 ≤ bs + q; omega)) hL
    rw [e_ent_o h3 e6]
    refine ⟨_, hv, t_OB.to (V := updV (vp_V _) bb (.ref (bs + z))) ⟨_, a1, q2, q3, t_set q4 hap hb (.ref (bs + z))⟩ (fun j hj => ?_)⟩
    have hj : j < N := hj
    rw [e_vpV (by omega)]
    by_cases hjb : j = bb
    · subst hjb
      simp [updV, hr, e_set, e_ro, hz0, va_rf]
    · simp [updV, hjb, e_set]
      rw [e_vpV (by omega)])
  simpa [e_mv, h0, hz0] using key
theorem g_iast (C0 : e_Cx p s m args meth c D CA bs b L xs y) {q : Nat} {i x : Int32} (h1 : 1 ≤ q) (h2 : q ≤ M.1) (h3 : (e_kd q).1 = 10) (h4 : e_in i (e_kd q).2 = true) (hd : decode (e_mB y) pc = .ok (.iastore, 1)) (k : e_G p l e R s m args below meth c Q D CA bs b y (pc + 1) lv st ((M.1, e_set M.2.1 q i.toNatClampNeg x, M.2.2)) cells slots) : e_G p l e R s m args below meth c Q D CA bs b y pc lv (.int x :: .int i :: .ref q :: st) M cells slots := by
  intro H locs ls hR hS hL
  have h0 : ¬ q = 0 := by omega
  have hin := e_in_iff h4
  have hat := hR.2.2 q h1 h2
  rw [e_ent_i h3 (by omega) (by omega)] at hat
  have hcell : H[bs + q]? = some (vp_cell (CA 10) ((e_kd q).2, .inl (M.2.1 q))) := hat
  have key := W.iast (g := F0 m pc ls (.int x :: .int i :: .ref (bs + q) :: st.map (e_mv b bs))) (rest := st.map (e_mv b bs)) C0.1 C0.2.1 hcell ((C0.2.2.2.2.2.2.2.2.1.2 0 _ rfl).1 _ (fun j => .int (M.2.1 q j))) (fun q => by cases q) (by show ¬ (i < 0 ∨ (arrV _ _ _).slots.size ≤ _); rw [arrV_size]; exact hin) rfl rfl hd (fun H1 a1 a2 a3 => by
    refine k H1 _ ls (hR.put (M' := (M.1, e_set M.2.1 q i.toNatClampNeg x, M.2.2)) rfl a2 a3 ?_ (fun c hc => e_ent_set hc)) (hS.put a2 a3 (by show bs + 1 ≤ bs + q; omega)) hL
    rw [e_ent_i h3 (by omega) (by omega)]
    show H1[bs + q]? = some (vp_cell _ _)
    rw [a1, vp_cell_i, vp_cell_i, arrV_store]
    congr 2
    funext j
    by_cases hj : j = i.toNatClampNeg
    · subst hj
      simp [updV, e_set]
      try rfl
    · simp [updV, e_set, hj])
  simpa [e_mv, h0] using key
theorem g_bast (C0 : e_Cx p s m args meth c D CA bs b L xs y) {q : Nat} {i x : Int32} (h1 : 1 ≤ q) (h2 : q ≤ M.1) (h3 : (e_kd q).1 = 11) (h4 : e_in i (e_kd q).2 = true) (hd : decode (e_mB y) pc = .ok (.bastore, 1)) (k : e_G p l e R s m args below meth c Q D CA bs b y (pc + 1) lv st ((M.1, e_set M.2.1 q i.toNatClampNeg x.toInt8.toInt32, M.2.2)) cells slots) : e_G p l e R s m args below meth c Q D CA bs b y pc lv (.int x :: .int i :: .ref q :: st) M cells slots := by
  intro H locs ls hR hS hL
  have h0 : ¬ q = 0 := by omega
  have hin := e_in_iff h4
  have hat := hR.2.2 q h1 h2
  rw [e_ent_i h3 (by omega) (by omega)] at hat
  have hcell : H[bs + q]? = some (vp_cell (CA 11) ((e_kd q).2, .inl (M.2.1 q))) := hat
  have key := W.bast (g := F0 m pc ls (.int x :: .int i :: .ref (bs + q) :: st.map (e_mv b bs))) (rest := st.map (e_mv b bs)) C0.1 C0.2.1 hcell ((C0.2.2.2.2.2.2.2.2.1.2 1 _ rfl).1 _ (fun j => .int (M.2.1 q j))) (fun q => by cases q) (by show ¬ (i < 0 ∨ (arrV _ _ _).slots.size ≤ _); rw [arrV_size]; exact hin) rfl rfl hd (fun H1 a1 a2 a3 => by
    refine k H1 _ ls (hR.put (M' := (M.1, e_set M.2.1 q i.toNatClampNeg x.toInt8.toInt32, M.2.2)) rfl a2 a3 ?_ (fun c hc => e_ent_set hc)) (hS.put a2 a3 (by show bs + 1 ≤ bs + q; omega)) hL
    rw [e_ent_i h3 (by omega) (by omega)]
    show H1[bs + q]? = some (vp_cell _ _)
    rw [a1, vp_cell_i, vp_cell_i, arrV_store]
    congr 2
    funext j
    by_cases hj : j = i.toNatClampNeg
    · subst hj
      simp [updV, e_set]
      try rfl
    · simp [updV, e_set, hj])
  simpa [e_mv, h0] using key
theorem g_aast (C0 : e_Cx p s m args meth c D CA bs b L xs y) {q z : Nat} {i : Int32} (h1 : 1 ≤ q) (h2 : q ≤ M.1) (hz1 : 1 ≤ z) (hz2 : z ≤ M.1) (h3 : (e_kd q).1 = 12 ∧ (e_kd z).1 = 1 ∨ (e_kd q).1 = 13 ∧ (e_kd z).1 = 4) (h4 : e_in i (e_kd q).2 = true) (hd : decode (e_mB y) pc = .ok (.aastore, 1)) (k : e_G p l e R s m args below meth c Q D CA bs b y (pc + 1) lv st ((M.1, M.2.1, e_set M.2.2 q i.toNatClampNeg z)) cells slots) : e_G p l e R s m args below meth c Q D CA bs b y pc lv (.ref z :: .int i :: .ref q :: st) M cells slots := by
  intro H locs ls hR hS hL
  have h0 : ¬ q = 0 := by omega
  have hz0 : ¬ z = 0 := by omega
  have hin := e_in_iff h4
  have hlt : i.toNatClampNeg < (e_kd q).2 := Nat.not_le.mp fun q => hin (Or.inr q)
  have hi0 : ¬ i < 0 := fun q => hin (Or.inl q)
  have hK := C0.2.2.2.2.2.2.2.2.1
  have hat := hR.2.2 q h1 h2
  rw [e_ent_q rfl (by omega)] at hat
  have hcell : H[bs + q]? = some (vp_cell (CA (e_kd q).1) ((e_kd q).2, .inr (.inr (.inr (.inr (fun j => e_ro bs (M.2.2 q j))))))) := hat
  obtain ⟨ci, r, t0, hz3, hc, hty⟩ : ∃ (ci : Nat) (r : vw_C) (t0 : Nat), (e_kd z).1 = ci ∧ (vwCl[ci]? = some r ∧ ci < 10) ∧ (e_tys CA)[t0]? = some (CA (e_kd q).1, .object r.1) := by
    rcases h3 with ⟨ha, hb⟩ | ⟨ha, hb⟩
    · exact ⟨1, _, 2, hb, ⟨rfl, by omega⟩, by rw [ha]; rfl⟩
    · exact ⟨4, _, 3, hb, ⟨rfl, by omega⟩, by rw [ha]; rfl⟩
  have hatz := hR.2.2 z hz1 hz2
  rw [e_ent_o hz3 hc.2] at hatz
  obtain ⟨r', hr', cellV, g1, g2, g3, -⟩ := hatz
  have hcls := (hK.1 ci r hc.1).2
  obtain ⟨kA, comp, k1, k2, k3, -⟩ := (hK.2 t0 _ hty).2
  have hcomp : comp = D.1 ci := Option.some.inj (k3.symm.trans hcls.1)
  subst hcomp
  obtain ⟨kC, hkC, -⟩ := hcls.2
  have key := W.aast (g := F0 m pc ls (.ref (bs + z) :: .int i :: .ref (bs + q) :: st.map (e_mv b bs))) (rest := st.map (e_mv b bs)) C0.1 C0.2.1 hcell (fun q h => by cases h) (fun h => by cases h) k1 k2 rfl hkC ⟨hi0, by show _ < (arrV _ _ _).slots.size; rw [arrV_size]; exact hlt⟩ g1 (fun q h => by rw [g3] at h; cases h) (by rw [g2]; exact hkC) (by rw [g2]; exact va_assign hcls) rfl rfl hd (fun H1 a1 a2 a3 => by
    refine k H1 _ ls (hR.put (M' := (M.1, M.2.1, e_set M.2.2 q i.toNatClampNeg z)) rfl a2 a3 ?_ (fun c hc => e_ent_setR hc)) (hS.put a2 a3 (by show bs + 1 ≤ bs + q; omega)) hL
    rw [e_ent_q rfl (by omega)]
    show H1[bs + q]? = some (vp_cell _ _)
    rw [a1, vp_cell_q, vp_cell_q, arrV_store]
    congr 2
    funext j
    by_cases hj : j = i.toNatClampNeg
    · subst hj
      simp [updV, e_set, e_ro, hz0, va_rf]
    · simp [updV, e_set, hj])
  simpa [e_mv, h0, hz0] using key
theorem g_copy (C0 : e_Cx p s m args meth c D CA bs b L xs y) {q d i : Nat} {sp dp n : Int32} (hq : 1 ≤ q ∧ q ≤ M.1 ∧ (e_kd q).1 = 10) (hdd : 1 ≤ d ∧ d ≤ M.1 ∧ (e_kd d).1 = 10) (hs : ¬ sp < 0 ∧ ¬ dp < 0 ∧ ¬ n < 0) (h4 : sp.toNatClampNeg + n.toNatClampNeg ≤ (e_kd q).2) (h5 : dp.toNatClampNeg + n.toNatClampNeg ≤ (e_kd d).2) (hlink : (Jvm.Cond.methodLink (e_mO y) i arraycopyName).before args s = true) (hnat : (Jvm.Cond.native arraycopyName).before args s = true) (hstat : (Jvm.Cond.static arraycopyName).before args s = true) (hini : (Jvm.Cond.initialized "java/lang/System").before args s = true) (hfr : 1 ≤ R.frames) (hlo : nativeFrameWords "java/lang/System" "arraycopy" 5 + 11 ≤ R.locals) (hd : decode (e_mB y) pc = .ok (.invokestatic i, 3)) (k : e_G p l e R s m args below meth c Q D CA bs b y (pc + 3) lv [] ((M.1, e_cpy M.2.1 q sp.toNatClampNeg d dp.toNatClampNeg n.toNatClampNeg, M.2.2)) cells slots) : e_G p l e R s m args below meth c Q D CA bs b y pc lv ([.int n, .int dp, .ref d, .int sp, .ref q]) M cells slots := by
  intro H locs ls hR hS hL
  obtain ⟨hq1, hq2, hq3⟩ := hq
  obtain ⟨hd1, hd2, hd3⟩ := hdd
  obtain ⟨h1, h2, h3⟩ := hs
  have hq0 : ¬ q = 0 := by omega
  have hd0 : ¬ d = 0 := by omega
  have hK := C0.2.2.2.2.2.2.2.2.1
  have nn : ∀ z : Int32, ¬ z < 0 → z.toInt = (z.toNatClampNeg : Int) := by
    intro z hz
    have hz0 : (0 : Int) ≤ z.toInt := by
      have := Int32.not_lt.mp hz
      simpa using Int32.le_iff_toInt_le.mp this
    show z.toInt = ((z.toInt.toNat : Nat) : Int)
    omega
  have hc0 : H[bs + q]? = some (vp_cell (CA 10) ((e_kd q).2, .inl (M.2.1 q))) := by
    have := hR.2.2 q hq1 hq2
    rw [e_ent_i hq3 (by omega) (by omega)] at this
    exact this
  have hc1 : H[bs + d]? = some (vp_cell (CA 10) ((e_kd d).2, .inl (M.2.1 d))) := by
    have := hR.2.2 d hd1 hd2
    rw [e_ent_i hd3 (by omega) (by omega)] at this
    exact this
  have key : W p l e R s m args below meth c H locs cells slots Q (F0 m pc ls [.int n, .int dp, .ref (bs + d), .int sp, .ref (bs + q)]) := by
    intro T hT X
    obtain ⟨-, k0, hk0, cm0, hkk0⟩ := (hK.2 0 _ rfl).1 (e_kd q).2 (fun j => .int (M.2.1 q j))
    obtain ⟨-, k1, hk1, cm1, hkk1⟩ := (hK.2 0 _ rfl).1 (e_kd d).2 (fun j => .int (M.2.1 d j))
    obtain ⟨vm', X', step⟩ := X.arraycopy C0.1 C0.2.2.2.2.2.1 hlink hnat hstat hini (src := bs + q) (dst := bs + d) (cs := vp_cell (CA 10) ((e_kd q).2, .inl (M.2.1 q))) (cd := vp_cell (CA 10) ((e_kd d).2, .inl (M.2.1 d))) (srcPos := sp) (destPos := dp) (n := n) (by rw [hT]; exact hc0) (by rw [hT]; exact hc1)
      (fun _ h => by cases h) (fun _ h => by cases h) (fun h => by cases h) (fun h => by cases h) hk0 hk1 hkk0 hkk1 (by simp) h1 h2 h3
      (by rw [nn sp h1, nn n h3]; show ¬ _ > ((arrV (CA 10) (e_kd q).2 (fun j => .int (M.2.1 q j))).slots.size : Int); rw [arrV_size]; omega)
      (by rw [nn dp h2, nn n h3]; show ¬ _ > ((arrV (CA 10) (e_kd d).2 (fun j => .int (M.2.1 d j))).slots.size : Int); rw [arrV_size]; omega)
      (fun vm₁ _ i hi => by
        have e : (vp_cell (CA 10) ((e_kd q).2, .inl (M.2.1 q))).slots.getD (sp.toNatClampNeg + i) .null = .int (M.2.1 q (sp.toNatClampNeg + i)) := by
          show (arrV (CA 10) (e_kd q).2 (fun j => .int (M.2.1 q j))).slots.getD _ _ = _
          rw [Array.getD_eq_getD_getElem?, arrV_read _ _ (by omega)]
          rfl
        refine ⟨?_, ?_⟩
        · rw [e]
          rfl
        · rw [e]
          exact trivial)
      (g := F0 m pc ls [.int n, .int dp, .ref (bs + d), .int sp, .ref (bs + q)]) rfl (by rw [C0.2.2.1]; exact hL.1) (rest := []) rfl (by rw [C0.2.1]; exact hd) hfr (by show 2 * 0 + 0 + _ ≤ _; omega)
    have e1 : copied (vp_cell (CA 10) ((e_kd q).2, .inl (M.2.1 q))) (vp_cell (CA 10) ((e_kd d).2, .inl (M.2.1 d))) sp dp n = vp_cell (CA 10) ((e_kd d).2, .inl (va_cpy (M.2.1 q) (M.2.1 d) sp.toNatClampNeg dp.toNatClampNeg n.toNatClampNeg)) := va_copied (fun z => .int z) (CA 10) (CA 10) (M.2.1 q) (M.2.1 d) h4
    rw [e1] at X' step
    have hl : bs + d < H.size := (Array.getElem?_eq_some_iff.mp hc1).1
    have hheap : ((T.setVm vm').setCell (bs + d) (vp_cell (CA 10) ((e_kd d).2, .inl (va_cpy (M.2.1 q) (M.2.1 d) sp.toNatClampNeg dp.toNatClampNeg n.toNatClampNeg)))).heap = H.setIfInBounds (bs + d) (vp_cell (CA 10) ((e_kd d).2, .inl (va_cpy (M.2.1 q) (M.2.1 d) sp.toNatClampNeg dp.toNatClampNeg n.toNatClampNeg))) := by rw [← hT]; rfl
    have oq : ∀ x : Nat, x ≠ bs + d → (H.setIfInBounds (bs + d) (vp_cell (CA 10) ((e_kd d).2, .inl (va_cpy (M.2.1 q) (M.2.1 d) sp.toNatClampNeg dp.toNatClampNeg n.toNatClampNeg))))[x]? = H[x]? := fun x hx => by simp [Array.getElem?_setIfInBounds, Ne.symm hx]
    obtain ⟨t, a1, b1⟩ := k _ _ ls (hR.put (M' := (M.1, e_cpy M.2.1 q sp.toNatClampNeg d dp.toNatClampNeg n.toNatClampNeg, M.2.2)) rfl (by simp) oq (by
        rw [e_ent_i hd3 (by omega) (by omega)]
        show (H.setIfInBounds (bs + d) _)[bs + d]? = some (vp_cell _ _)
        rw [Array.getElem?_setIfInBounds]
        simp only [hl, if_true]
        have : e_cpy M.2.1 q sp.toNatClampNeg d dp.toNatClampNeg n.toNatClampNeg d = va_cpy (M.2.1 q) (M.2.1 d) sp.toNatClampNeg dp.toNatClampNeg n.toNatClampNeg := by funext j; simp [e_cpy, va_cpy]
        rw [this]) (fun c hc => by
        have : e_cpy M.2.1 q sp.toNatClampNeg d dp.toNatClampNeg n.toNatClampNeg c = M.2.1 c := by funext j; simp [e_cpy, hc]
        simp only [e_ent, this])) ⟨by simp; exact hS.1, fun x g1 g2 => by
        rw [oq x (fun e => g2 (by show bs + 1 ≤ x; omega))]
        exact hS.2.1 x g1 g2, fun x hx => by
        rcases List.mem_append.mp hx with h | h
        · exact hS.2.2 x h
        · obtain ⟨z, -, hz⟩ := List.mem_map.mp h
          rw [← hz]
          show bs + 1 ≤ bs + d
          omega⟩ hL _ hheap X'
    exact ⟨t, step t a1, b1⟩
  simpa [e_mv, hq0, hd0] using key
theorem g_new (C0 : e_Cx p s m args meth c D CA bs b L xs y) {a N i : Nat} {C : String} {T : u_T} (hv : vwCl[a]? = some (C, T, N)) (hn : M.1 + 1 ≤ 173) (hk : e_kd (M.1 + 1) = (a, N)) (hcl : (Jvm.Cond.classLink (e_mO y) i C).before args s = true) (hinst : (Jvm.Cond.instantiable C N).before args s = true) (hini : (Jvm.Cond.initialized C).before args s = true) (hcells : cells + 1 ≤ R.cells) (hslots : slots + N ≤ R.slots) (hd : decode (e_mB y) pc = .ok (.new i, 3)) (k : e_G p l e R s m args below meth c Q D CA bs b y (pc + 3) lv (.ref (M.1 + 1) :: st) ((M.1 + 1, e_clr 0 M.2.1 (M.1 + 1) 1, e_clr 0 M.2.2 (M.1 + 1) 1)) (cells + 1) (slots + N)) : e_G p l e R s m args below meth c Q D CA bs b y pc lv st M cells slots := by
  intro H locs ls hR hS hL
  obtain ⟨e1, e2, e3, e4, e5, e6⟩ := e_cls hv
  have hts := C0.2.2.2.2.2.2.2.2.2.2.2.2.2
  have hKn := C0.2.2.2.2.2.2.2.2.1.1 a _ hv
  refine W.newcK C0.1 C0.2.1 C0.2.2.2.2.2.1 hcl hinst hini rfl hd hcells hslots hKn.2.1 (h := bs + (M.1 + 1)) (by rw [hR.1]; omega) fun H1 kC hkC a1 z1 o1 => ?_
  have key := k H1 locs ls ⟨by show H1.size = bs + 1 + (M.1 + 1); omega, hn, fun c h1 h2 => ?_⟩ ⟨Nat.le_trans hS.1 (by have := hR.1; omega), fun x h1 h2 => (o1 x (by have := hS.1; have := hR.1; omega)).trans (hS.2.1 x h1 h2), hS.2.2⟩ hL
  · simpa [e_mv] using key
  · have h2 : c ≤ M.1 + 1 := h2
    by_cases hc : c = M.1 + 1
    · subst hc
      have hk1 : (e_kd (M.1 + 1)).1 = a := by rw [hk]
      rw [e_ent_o hk1 e6]
      refine ⟨_, hv, (u_born (e_ty a) hts e1 hKn hkC a1 e2).to (fun j hj => ?_)⟩
      rw [e_vpV (by rw [hk]; exact hj), e5 j hj]
      split
      · show Value.null = va_rf (e_ro bs (e_clr 0 M.2.2 (M.1 + 1) 1 (M.1 + 1) j))
        rw [e_clr_in ⟨Nat.le_refl _, Nat.lt_succ_self _⟩]
        rfl
      · show Value.int 0 = Value.int (e_clr 0 M.2.1 (M.1 + 1) 1 (M.1 + 1) j)
        rw [e_clr_in ⟨Nat.le_refl _, Nat.lt_succ_self _⟩]
    · rw [e_ent_clr (M := M) (by omega) (fun j => e_clr_out (by omega))]
      exact (hR.2.2 c h1 (by omega)).kept (o1 _ (by show bs + c < _; omega))
theorem g_newi (C0 : e_Cx p s m args meth c D CA bs b L xs y) {n : Int32} {N : Nat} (hn : M.1 + 1 ≤ 173) (hk : e_kd (M.1 + 1) = (10, N)) (h0 : ¬ n < 0) (hN : n.toNatClampNeg = N) (hN2 : N ≤ 1000) (harr : (Jvm.Cond.arrayClass .int).before args s = true) (hcells : cells + 1 ≤ R.cells) (hslots : slots + N ≤ R.slots) (hd : decode (e_mB y) pc = .ok (.newarray .int, 2)) (k : e_G p l e R s m args below meth c Q D CA bs b y (pc + 2) lv (.ref (M.1 + 1) :: st) ((M.1 + 1, e_clr 0 M.2.1 (M.1 + 1) 1, e_clr 0 M.2.2 (M.1 + 1) 1)) (cells + 1) (slots + N)) : e_G p l e R s m args below meth c Q D CA bs b y pc lv (.int n :: st) M cells slots := by
  intro H locs ls hR hS hL
  refine va_newaK (atype := .int) (g := F0 m pc ls (.int n :: st.map (e_mv b bs))) C0.1 C0.2.1 harr rfl hd rfl h0 hN (Nat.le_trans (Nat.mul_le_mul_right _ hN2) (Nat.le_of_ble_eq_true rfl)) hcells hslots (h := bs + (M.1 + 1)) (by rw [hR.1]; omega) fun H1 cA a1 z1 o1 hAr hNm => ?_
  have hcA : cA = CA 10 := by
    have h2 := (C0.2.2.2.2.2.2.2.2.1.2 0 _ rfl).2
    exact Option.some.inj (hNm.symm.trans h2)
  subst hcA
  have key := k H1 locs ls ⟨by show H1.size = bs + 1 + (M.1 + 1); omega, hn, fun c h1 h2 => ?_⟩ ⟨Nat.le_trans hS.1 (by have := hR.1; omega), fun x h1 h2 => (o1 x (by have := hS.1; have := hR.1; omega)).trans (hS.2.1 x h1 h2), hS.2.2⟩ hL
  · simpa [e_mv] using key
  · have h2 : c ≤ M.1 + 1 := h2
    by_cases hc : c = M.1 + 1
    · subst hc
      have hk1 : (e_kd (M.1 + 1)).1 = 10 := by rw [hk]
      rw [e_ent_i hk1 (by omega) (by omega)]
      show H1[bs + (M.1 + 1)]? = some (vp_cell _ _)
      rw [a1, vp_cell_i, hk]
      congr 2
      funext j
      show defaultValue _ = Value.int (e_clr 0 M.2.1 (M.1 + 1) 1 (M.1 + 1) j)
      rw [e_clr_in ⟨Nat.le_refl _, Nat.lt_succ_self _⟩]
      rfl
    · rw [e_ent_clr (M := M) (by omega) (fun j => e_clr_out (by omega))]
      exact (hR.2.2 c h1 (by omega)).kept (o1 _ (by show bs + c < _; omega))
theorem g_newb (C0 : e_Cx p s m args meth c D CA bs b L xs y) {n : Int32} {N : Nat} (hn : M.1 + 1 ≤ 173) (hk : e_kd (M.1 + 1) = (11, N)) (h0 : ¬ n < 0) (hN : n.toNatClampNeg = N) (hN2 : N ≤ 1000) (harr : (Jvm.Cond.arrayClass .byte).before args s = true) (hcells : cells + 1 ≤ R.cells) (hslots : slots + N ≤ R.slots) (hd : decode (e_mB y) pc = .ok (.newarray .byte, 2)) (k : e_G p l e R s m args below meth c Q D CA bs b y (pc + 2) lv (.ref (M.1 + 1) :: st) ((M.1 + 1, e_clr 0 M.2.1 (M.1 + 1) 1, e_clr 0 M.2.2 (M.1 + 1) 1)) (cells + 1) (slots + N)) : e_G p l e R s m args below meth c Q D CA bs b y pc lv (.int n :: st) M cells slots := by
  intro H locs ls hR hS hL
  refine va_newaK (atype := .byte) (g := F0 m pc ls (.int n :: st.map (e_mv b bs))) C0.1 C0.2.1 harr rfl hd rfl h0 hN (Nat.le_trans (Nat.mul_le_mul_right _ hN2) (Nat.le_of_ble_eq_true rfl)) hcells hslots (h := bs + (M.1 + 1)) (by rw [hR.1]; omega) fun H1 cA a1 z1 o1 hAr hNm => ?_
  have hcA : cA = CA 11 := by
    have h2 := (C0.2.2.2.2.2.2.2.2.1.2 1 _ rfl).2
    exact Option.some.inj (hNm.symm.trans h2)
  subst hcA
  have key := k H1 locs ls ⟨by show H1.size = bs + 1 + (M.1 + 1); omega, hn, fun c h1 h2 => ?_⟩ ⟨Nat.le_trans hS.1 (by have := hR.1; omega), fun x h1 h2 => (o1 x (by have := hS.1; have := hR.1; omega)).trans (hS.2.1 x h1 h2), hS.2.2⟩ hL
  · simpa [e_mv] using key
  · have h2 : c ≤ M.1 + 1 := h2
    by_cases hc : c = M.1 + 1
    · subst hc
      have hk1 : (e_kd (M.1 + 1)).1 = 11 := by rw [hk]
      rw [e_ent_i hk1 (by omega) (by omega)]
      show H1[bs + (M.1 + 1)]? = some (vp_cell _ _)
      rw [a1, vp_cell_i, hk]
      congr 2
      funext j
      show defaultValue _ = Value.int (e_clr 0 M.2.1 (M.1 + 1) 1 (M.1 + 1) j)
      rw [e_clr_in ⟨Nat.le_refl _, Nat.lt_succ_self _⟩]
      rfl
    · rw [e_ent_clr (M := M) (by omega) (fun j => e_clr_out (by omega))]
      exact (hR.2.2 c h1 (by omega)).kept (o1 _ (by show bs + c < _; omega))
theorem g_newq (C0 : e_Cx p s m args meth c D CA bs b L xs y) {n : Int32} {N kd i : Nat} {C : String} (hn : M.1 + 1 ≤ 173) (hk : e_kd (M.1 + 1) = (kd, N)) (hkd : kd = 12 ∧ C = "FeederControl$Feeder" ∨ kd = 13 ∧ C = "FeederControl$Node") (h0 : ¬ n < 0) (hN : n.toNatClampNeg = N) (hN2 : N ≤ 1000) (hcl : (Jvm.Cond.classLink (e_mO y) i C).before args s = true) (hov : (Jvm.Cond.arrayOver (.object C)).before args s = true) (hcells : cells + 1 ≤ R.cells) (hslots : slots + N ≤ R.slots) (hd : decode (e_mB y) pc = .ok (.anewarray i, 3)) (k : e_G p l e R s m args below meth c Q D CA bs b y (pc + 3) lv (.ref (M.1 + 1) :: st) ((M.1 + 1, e_clr 0 M.2.1 (M.1 + 1) 1, e_clr 0 M.2.2 (M.1 + 1) 1)) (cells + 1) (slots + N)) : e_G p l e R s m args below meth c Q D CA bs b y pc lv (.int n :: st) M cells slots := by
  intro H locs ls hR hS hL
  refine W.anew (g := F0 m pc ls (.int n :: st.map (e_mv b bs))) C0.1 C0.2.1 C0.2.2.2.2.2.1 hcl hov rfl hd rfl h0 (by omega) hcells (by omega) fun cA kA comp f1 f2 f3 f4 => ?_
  obtain ⟨t0, hty⟩ : ∃ t0 : Nat, (e_tys CA)[t0]? = some (CA kd, .object C) := by
    rcases hkd with ⟨ha, hb⟩ | ⟨ha, hb⟩
    · exact ⟨2, by rw [ha, hb]; rfl⟩
    · exact ⟨3, by rw [ha, hb]; rfl⟩
  have hcA : cA = CA kd := by
    obtain ⟨_, _, -, -, -, h2⟩ := (C0.2.2.2.2.2.2.2.2.1.2 t0 _ hty).2
    exact Option.some.inj (f1.symm.trans h2)
  subst hcA
  rw [hN, arrV_new, show H.size = bs + (M.1 + 1) by rw [hR.1]; omega]
  have o1 : ∀ x : Nat, x < bs + (M.1 + 1) → (H.push (arrV (CA kd) N (fun _ => .null)))[x]? = H[x]? := fun x hx => by rw [Array.getElem?_push, if_neg (by rw [hR.1]; omega)]
  have key := k (H.push (arrV (CA kd) N (fun _ => .null))) locs ls ⟨by rw [Array.size_push, hR.1]; omega, hn, fun c h1 h2 => ?_⟩ ⟨by rw [Array.size_push]; exact Nat.le_succ_of_le hS.1, fun x h1 h2 => (o1 x (by have := hS.1; have := hR.1; omega)).trans (hS.2.1 x h1 h2), hS.2.2⟩ hL
  · simpa [e_mv] using key
  · have h2 : c ≤ M.1 + 1 := h2
    by_cases hc : c = M.1 + 1
    · subst hc
      have hk1 : (e_kd (M.1 + 1)).1 = kd := by rw [hk]
      rw [e_ent_q hk1 (by omega)]
      show (H.push _)[bs + (M.1 + 1)]? = some (vp_cell _ _)
      rw [Array.getElem?_push, if_pos (by rw [hR.1]; omega), vp_cell_q, hk]
      congr 2
      funext j
      show Value.null = va_rf (e_ro bs (e_clr 0 M.2.2 (M.1 + 1) 1 (M.1 + 1) j))
      rw [e_clr_in ⟨Nat.le_refl _, Nat.lt_succ_self _⟩]
      rfl
    · rw [e_ent_clr (M := M) (by omega) (fun j => e_clr_out (by omega))]
      exact (hR.2.2 c h1 (by omega)).kept (o1 _ (by show bs + c < _; omega))
end E_ROWS
