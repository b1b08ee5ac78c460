/-! every run of the plain machine is one of the real machine -/
set_option maxHeartbeats 4000000 in
theorem e_one_mono {xs : Nat → Int32} {L : Nat} {op : e_Op} {lv : e_Lv} {st : List Value} {M : e_Mem} {j : Option Nat} {lv' : e_Lv} {st' : List Value} {M' : e_Mem} (h : e_one xs L op lv st M = some (j, lv', st', M')) : M.1 ≤ M'.1 := by
  obtain ⟨pc, ins, v, a, bb, cz⟩ := op
  cases ins <;> simp only [e_one] at h <;> (repeat' split at h) <;> first | (cases h; done) | (simp only [Option.some.injEq, Prod.mk.injEq] at h; obtain ⟨-, -, -, rfl⟩ := h; first | exact Nat.le_refl _ | exact Nat.le_succ _ | exact Nat.le_add_right _ _)
theorem e_mono {xs : Nat → Int32} {L : Nat} : ∀ (f : Nat) (is : List e_Op) (lv : e_Lv) (st : List Value) (M : e_Mem) (res : e_Rs), e_ev xs L f is lv st M = some res → M.1 ≤ res.2.1
  | 0, is, lv, st, M, res, h => by simp [e_ev] at h
  | f + 1, [], lv, st, M, res, h => by simp [e_ev] at h
  | f + 1, op :: is, lv, st, M, res, h => by
    simp only [e_ev] at h
    split at h
    · split at h
      · cases h
      · rename_i h1
        exact Nat.le_trans (e_one_mono h1) (e_mono f _ _ _ _ _ h)
      · rename_i h1
        exact Nat.le_trans (e_one_mono h1) (e_mono f _ _ _ _ _ h)
    · obtain ⟨r, -, rfl⟩ := Option.map_eq_some_iff.mp h
      exact Nat.le_refl _
    · split at h
      · split at h
        · cases h
        · rename_i h1
          exact Nat.le_trans (e_mono f _ _ _ _ _ h1) (e_mono f _ _ _ _ _ h)
      · cases h
theorem e_blk_op {y : Nat} {op : e_Op} {is : List e_Op} {w : List (List Nat)} (h : c_blk y (op :: is) w = true) : c_op y op (w.headD []) = true := by
  cases is with
  | nil =>
    simp only [c_blk, Bool.and_eq_true] at h
    exact h.1
  | cons op2 t =>
    simp only [c_blk, Bool.and_eq_true] at h
    exact h.1
/-- what follows an op that doesn't end its block -/
theorem e_blk_next {y : Nat} {op : e_Op} {is : List e_Op} {w : List (List Nat)} (h : c_blk y (op :: is) w = true) (ht : e_term op.2.1 = false) : c_blk y is w.tail = true ∧ e_hpc is = some (op.1 + e_len op.2.1) := by
  cases is with
  | nil =>
    simp only [c_blk, Bool.and_eq_true] at h
    rw [ht] at h
    exact absurd h.2 (by decide)
  | cons op2 t =>
    simp only [c_blk, Bool.and_eq_true, decide_eq_true_eq] at h
    exact ⟨h.2.2, by rw [← h.2.1]; rfl⟩
/-- an op that goes on, or jumps to a label of its own method -/
theorem e_one_term {xs : Nat → Int32} {L : Nat} {op : e_Op} {lv : e_Lv} {st : List Value} {M : e_Mem} {lv' : e_Lv} {st' : List Value} {M' : e_Mem} (h : e_one xs L op lv st M = some (none, lv', st', M')) : e_term op.2.1 = false := by
  obtain ⟨pc, ins, v, a, bb, cz⟩ := op
  cases ins <;> first | rfl | (simp [e_one] at h; done) | (simp only [e_one] at h; split at h <;> simp at h)
set_option maxHeartbeats 4000000 in
theorem e_one_jmp {xs : Nat → Int32} {L y : Nat} {ws : List Nat} {op : e_Op} {lv : e_Lv} {st : List Value} {M : e_Mem} {t : Nat} {lv' : e_Lv} {st' : List Value} {M' : e_Mem} (hc : c_op y op ws = true) (h : e_one xs L op lv st M = some (some t, lv', st', M')) : ∃ pc, e_hpc (e_lbl t) = some pc ∧ e_lm t = y := by
  obtain ⟨pc, ins, v, a, bb, cz⟩ := op
  cases ins
  case nop =>
    simp only [c_op] at hc
    simp only [e_one, Option.some.injEq, Prod.mk.injEq] at h
    obtain ⟨rfl, -, -, -⟩ := h
    obtain ⟨t', h1, -, h2⟩ := e_jmp_ok hc
    exact ⟨t', h1, h2⟩
  case goto off =>
    simp only [c_op, Bool.and_eq_true] at hc
    simp only [e_one, Option.some.injEq, Prod.mk.injEq] at h
    obtain ⟨rfl, -, -, -⟩ := h
    obtain ⟨t', h1, -, h2⟩ := e_jmp_ok hc.2
    exact ⟨t', h1, h2⟩
  case ifCond cd off =>
    simp only [c_op, Bool.and_eq_true] at hc
    simp only [e_one] at h
    split at h
    · simp only [Option.some.injEq, Prod.mk.injEq] at h
      obtain ⟨h, -, -, -⟩ := h
      split at h
      · cases h
        obtain ⟨t', h1, -, h2⟩ := e_jmp_ok hc.2
        exact ⟨t', h1, h2⟩
      · cases h
    · cases h
  case if_icmp cd off =>
    simp only [c_op, Bool.and_eq_true] at hc
    simp only [e_one] at h
    split at h
    · simp only [Option.some.injEq, Prod.mk.injEq] at h
      obtain ⟨h, -, -, -⟩ := h
      split at h
      · cases h
        obtain ⟨t', h1, -, h2⟩ := e_jmp_ok hc.2
        exact ⟨t', h1, h2⟩
      · cases h
    · cases h
  case tableswitch d lo hi offs =>
    simp only [c_op, Bool.and_eq_true, decide_eq_true_eq] at hc
    obtain ⟨-, hj, hsz, hall⟩ := hc
    simp only [e_one] at h
    split at h
    · rename_i x r
      simp only [Option.some.injEq, Prod.mk.injEq] at h
      obtain ⟨rfl, -, -, -⟩ := h
      by_cases hx : x.toInt < lo ∨ hi < x.toInt
      · rw [if_pos hx]
        obtain ⟨t', h1, -, h2⟩ := e_jmp_ok hj
        exact ⟨t', h1, h2⟩
      · rw [if_neg hx]
        obtain ⟨t', h1, -, h2⟩ := e_jmp_ok (List.all_eq_true.mp hall _ (List.mem_range.mpr (show (x.toInt - lo).toNat < offs.size by omega)))
        exact ⟨t', h1, h2⟩
    · cases h
  all_goals (simp only [e_one] at h <;> (repeat' split at h) <;> simp at h)
theorem e_lbl_lt {t pc : Nat} (h : e_hpc (e_lbl t) = some pc) : t < e_labs.length := by
  rcases Nat.lt_or_ge t e_labs.length with q | q
  · exact q
  · unfold e_lbl at h
    rw [List.getD_eq_getElem?_getD, List.getElem?_eq_none q] at h
    cases h
theorem e_args_map (b bs : Nat) : ∀ (As : List Value) (i : Nat), lv_args i (As.map (e_mv b bs)) = (lv_args i As).map (fun q => (q.1, e_mv b bs q.2))
  | [], _ => rfl
  | v :: t, i => by
    have hc : (e_mv b bs v).category = v.category := by cases v <;> rfl
    simp only [List.map_cons, lv_args, hc, e_args_map b bs t]
theorem e_lk_mem {i : Nat} {v : Value} : ∀ {lv : e_Lv}, e_lk i lv = some v → (i, v) ∈ lv
  | [], h => by cases h
  | (j, w) :: t, h => by
    by_cases hj : j = i
    · subst hj
      simp [e_lk] at h
      subst h
      exact List.mem_cons_self
    · simp [e_lk, hj] at h
      exact List.mem_cons_of_mem _ (e_lk_mem h)
theorem e_LR.entry {b bs nL : Nat} {As : List Value} (h : (lg_sl (As.map (e_mv b bs))).length ≤ nL) : e_LR b bs ((lg_sl (As.map (e_mv b bs)) ++ List.replicate (nL - (lg_sl (As.map (e_mv b bs))).length) Slot.unset).toArray) nL (lv_args 0 As) := by
  have hl := lv_entry (As.map (e_mv b bs)) h
  refine ⟨hl.1, hl.2.1, fun q hq => hl.2.2 q ?_⟩
  obtain ⟨i, -, hv⟩ := List.mem_filterMap.mp hq
  obtain ⟨v, hw, rfl⟩ := Option.map_eq_some_iff.mp hv
  rw [e_args_map]
  exact List.mem_map.mpr ⟨(i, v), e_lk_mem hw, rfl⟩
theorem e_slw_len (b bs : Nat) : ∀ As : List Value, (lg_sl (As.map (e_mv b bs))).length = e_slw As
  | [] => rfl
  | v :: t => by
    have ih := e_slw_len b bs t
    have hc : (e_mv b bs v).category = if e_isL v = true then 2 else 1 := by cases v <;> rfl
    simp only [lg_sl, List.map_cons, List.flatMap_cons, List.length_append, e_slw] at ih ⊢
    rw [ih, hc]
    cases e_isL v <;> simp
theorem e_slw_app : ∀ As Bs : List Value, e_slw (As ++ Bs) = e_slw As + e_slw Bs
  | [], Bs => by simp [e_slw]
  | v :: t, Bs => by
    simp only [List.cons_append, e_slw, e_slw_app t Bs]
    omega
theorem e_slw_rev : ∀ As : List Value, e_slw As.reverse = e_slw As
  | [] => rfl
  | v :: t => by
    simp only [List.reverse_cons, e_slw_app, e_slw_rev t, e_slw]
    omega
def e_Sim (l : Launch) (D : va_G) (CA : Nat → ClassId) (bs b L : Nat) (xs : Nat → Int32) (f : Nat) : Prop :=
  ∀ (y : Nat) (is : List e_Op) (lv : e_Lv) (st : List Value) (M : e_Mem) (res : e_Rs) (w : List (List Nat)), c_blk y is w = true → e_ev xs L f is lv st M = some res →
  ∀ (p : Program) (e : Env) (R : Room) (s : State) (m : MethodId) (args : Array Value) (below : List Frame) (meth : Method) (c : Code) (n0 : Nat), n0 ≤ M.1 → e_mF y ≤ R.frames → e_mQ y ≤ R.locals → res.2.1 - n0 ≤ R.cells → e_SZ res.2.1 - e_SZ n0 ≤ R.slots → e_Cx p s m args meth c D CA bs b L xs y →
  e_G p l e R s m args below meth c (MQ below (e_Qc D CA bs b res) args s (res.2.1 - n0) (e_SZ res.2.1 - e_SZ n0) (fun q => bs + 1 ≤ q)) D CA bs b y ((e_hpc is).getD 0) lv st M (M.1 - n0) (e_SZ M.1 - e_SZ n0)
theorem e_metOf {l : Launch} {D : va_G} {CA : Nat → ClassId} {bs b L : Nat} {xs : Nat → Int32} {f : Nat} (ih : e_Sim l D CA bs b L xs f) {z a : Nat} {As : List Value} {M : e_Mem} {res : e_Rs} {w : List (List Nat)} (hcls : (e_mN z).cls = e_mO z) (hb : c_blk z (e_lbl a) w = true) (h0 : e_hpc (e_lbl a) = some 0) (hpl : plainName (e_mN z).cls = true) (hev : e_ev xs L f (e_lbl a) (lv_args 0 As) [] M = some res) (hlen : e_slw As ≤ e_mL z) : e_Met l D CA bs b L xs z As M res := by
  refine Met.ofW (cc := e_mB z) (maxL := e_mL z) (ret := e_mR z) hpl rfl ?_
  intro p e s m args below meth c s₁ B hml hv
  obtain ⟨hargs, hR, hW, hK, hX, hbl, hbs⟩ := hv
  subst hargs
  have key := ih z (e_lbl a) (lv_args 0 As) [] M res w hb hev p e (headSpec (e_ws z) (e_rm z (res.2.1 - M.1) (e_SZ res.2.1 - e_SZ M.1))).room s m (As.map (e_mv b bs)).toArray below meth c M.1 (Nat.le_refl _) (Nat.le_refl _) (Nat.le_refl _) (Nat.le_refl _) (Nat.le_refl _) ⟨B.exec, B.bytes, hml, B.returns, B.notSynchronized, hcls ▸ findClass_of_methodNamed B.named, fun h => (name_of_methodNamed B.named B.method).1.trans h, hW, hK, hX, hbl, hbs, by rw [hR.1]; omega, e_T_of hW _⟩
  have k2 := key s.heap [] _ hR va_S.rf (e_LR.entry (b := b) (bs := bs) (As := As) (by rw [e_slw_len]; exact hlen))
  rw [h0, Nat.sub_self, Nat.sub_self] at k2
  rw [lg_entry_eq]
  exact k2
set_option maxHeartbeats 4000000 in
theorem e_sim (l : Launch) (D : va_G) (CA : Nat → ClassId) (bs b L : Nat) (xs : Nat → Int32) (hchk : ∀ t, t < e_labs.length → ∃ w, c_blk (e_lm t) (e_lbl t) w = true) : ∀ f : Nat, e_Sim l D CA bs b L xs f
  | 0 => by
    intro y is lv st M res w hb hev
    simp [e_ev] at hev
  | f + 1 => by
    have ih := e_sim l D CA bs b L xs hchk f
    intro y is lv st M res w hb hev p e R s m args below meth c n0 hn0 hfr hlo hrc hrs C0
    cases is with
    | nil => simp [e_ev] at hev
    | cons op is =>
    have hop := e_blk_op hb
    show e_G p l e R s m args below meth c _ D CA bs b y op.1 lv st M _ _
    simp only [e_ev] at hev
    split at hev
    · split at hev
      · cases hev
      · rename_i lv' st' M' h1
        have hm1 := e_one_mono h1
        have hm2 := e_mono _ _ _ _ _ _ hev
        have hz1 := e_SZ_le hm1
        have hz2 := e_SZ_le hm2
        have hz0 := e_SZ_le hn0
        try dsimp only at hm1 hm2 hz1 hz2
        obtain ⟨hb2, hpc⟩ := e_blk_next hb (e_one_term h1)
        refine e_sim1 C0 hop h1 hfr hlo (by omega) (by omega) (fun cells' slots' hc hs => ?_)
        have key := ih y is lv' st' M' res w.tail hb2 hev p e R s m args below meth c n0 (by omega) hfr hlo hrc hrs C0
        rw [hpc] at key
        rw [hc, hs, show M.1 - n0 + (M'.1 - M.1) = M'.1 - n0 by omega, show e_SZ M.1 - e_SZ n0 + (e_SZ M'.1 - e_SZ M.1) = e_SZ M'.1 - e_SZ n0 by omega]
        exact key
      · rename_i t lv' st' M' h1
        have hm1 := e_one_mono h1
        have hm2 := e_mono _ _ _ _ _ _ hev
        have hz1 := e_SZ_le hm1
        have hz2 := e_SZ_le hm2
        have hz0 := e_SZ_le hn0
        try dsimp only at hm1 hm2 hz1 hz2
        obtain ⟨pc', hpc, hlm⟩ := e_one_jmp hop h1
        obtain ⟨w2, hw2⟩ := hchk t (e_lbl_lt hpc)
        rw [hlm] at hw2
        refine e_sim1 C0 hop h1 hfr hlo (by omega) (by omega) (fun cells' slots' hc hs => ?_)
        have key := ih y (e_lbl t) lv' st' M' res w2 hw2 hev p e R s m args below meth c n0 (by omega) hfr hlo hrc hrs C0
        rw [hc, hs, show M.1 - n0 + (M'.1 - M.1) = M'.1 - n0 by omega, show e_SZ M.1 - e_SZ n0 + (e_SZ M'.1 - e_SZ M.1) = e_SZ M'.1 - e_SZ n0 by omega]
        exact key
    · rename_i hk
      obtain ⟨r, hr, rfl⟩ := Option.map_eq_some_iff.mp hev
      obtain ⟨pc, ins, v, a, bb, cz⟩ := op
      intro H locs ls hR hS hL
      cases ins
      case ireturn =>
        simp only [c_op, Bool.and_eq_true] at hop
        obtain ⟨hd, hx⟩ := hop
        simp only [e_ret] at hr
        split at hr
        · rename_i x
          split at hr
          · rename_i hax
            cases hr
            refine g_iret C0 ?_ (of_decide_eq_true hd) hR hS
            split at hx
            · exact Or.inl (of_decide_eq_true hx)
            · rename_i ha
              exact Or.inr ⟨(of_decide_eq_true hx).2, hax.resolve_left ha⟩
          · cases hr
        · cases hr
      case lreturn =>
        simp only [c_op, Bool.and_eq_true, decide_eq_true_eq] at hop
        obtain ⟨hd, hx⟩ := hop
        simp only [e_ret] at hr
        split at hr
        · cases hr
          exact g_lret C0 hx (of_decide_eq_true hd) hR hS
        · cases hr
      case return_ =>
        simp only [c_op, Bool.and_eq_true, decide_eq_true_eq] at hop
        obtain ⟨hd, hx⟩ := hop
        simp only [e_ret] at hr
        split at hr
        · cases hr
          exact g_ret0 C0 hx (of_decide_eq_true hd) hR hS
        · cases hr
      all_goals (simp [e_ret] at hr)
    · rename_i hk0 hk1
      split at hev
      · rename_i hcond
        obtain ⟨hb1, hb2, hrec, hsl⟩ := hcond
        split at hev
        · cases hev
        · rename_i r M1 h1
          obtain ⟨pc, ins, v, a, bb, cz⟩ := op
          dsimp only at hb1 hb2 hrec hsl h1 hev
          obtain ⟨As, rest, rfl, hAl⟩ : ∃ As rest, st = As.reverse ++ rest ∧ As.length = bb := ⟨(st.take bb).reverse, st.drop bb, by simp, by simp [hb1]⟩
          rw [List.take_left' (by simp [hAl])] at hrec hsl h1
          rw [List.drop_left' (by simp [hAl])] at hev
          rw [List.reverse_reverse] at h1
          rw [e_slw_rev] at hsl
          rw [List.drop_left' (by simp [hAl])] at hb2
          have hrl := hb2
          have hm1 := e_mono _ _ _ _ _ _ h1
          have hm2 := e_mono _ _ _ _ _ _ hev
          have hz1 := e_SZ_le hm1
          have hz2 := e_SZ_le hm2
          have hz0 := e_SZ_le hn0
          try dsimp only at hm1 hm2 hz1 hz2
          have hW := C0.2.2.2.2.2.2.2.1
          have next : e_term ins = false → e_G p l e R s m args below meth c (MQ below (e_Qc D CA bs b res) args s (res.2.1 - n0) (e_SZ res.2.1 - e_SZ n0) (fun q => bs + 1 ≤ q)) D CA bs b y (pc + e_len ins) lv (r.toList ++ rest) M1 (M.1 - n0 + (M1.1 - M.1)) (e_SZ M.1 - e_SZ n0 + (e_SZ M1.1 - e_SZ M.1)) := fun ht => by
            obtain ⟨hb2, hpc⟩ := e_blk_next hb ht
            have key := ih y is lv (r.toList ++ rest) M1 res w.tail hb2 hev p e R s m args below meth c n0 (by omega) hfr hlo hrc hrs C0
            rw [hpc] at key
            rw [show M.1 - n0 + (M1.1 - M.1) = M1.1 - n0 by omega, show e_SZ M.1 - e_SZ n0 + (e_SZ M1.1 - e_SZ M.1) = e_SZ M1.1 - e_SZ n0 by omega]
            exact key
          have hr1 : M.1 - n0 + (M1.1 - M.1) ≤ R.cells := by omega
          have hr2 : e_SZ M.1 - e_SZ n0 + (e_SZ M1.1 - e_SZ M.1) ≤ R.slots := by omega
          have met : ∀ i, c_call y i a cz = true → e_Met l D CA bs b L xs cz As M (r, M1) ∧ e_Cs y cz ∧ (Jvm.Cond.code (e_mN cz) (e_mB cz) (e_mL cz) (e_mR cz)).before args s = true ∧ (Jvm.Cond.initialized (e_mN cz).cls).before args s = true ∧ (parseMethodDescriptor (e_mN cz).desc).map (fun d => d.parameters.length) = some (e_mP cz) ∧ (1 ≤ cz ∧ cz < 148) ∧ ((e_mo y, i, cz, 0) ∈ e_MLs ∨ (e_mo y, i, cz, 1) ∈ e_MLs) := fun i hc => by
            simp only [c_call, Bool.and_eq_true, decide_eq_true_eq, Bool.or_eq_true] at hc
            obtain ⟨⟨c1, c2, c3, c4, c5, c6⟩, c7⟩ := hc
            obtain ⟨w2, hw2⟩ := hchk a (e_lbl_lt c2)
            rw [c1] at hw2
            obtain ⟨z1, z2, z3, z4, z5, z6⟩ := e_zf c5 c6
            obtain ⟨o1, o2, -⟩ := e_zs_ok cz c5 c6
            exact ⟨e_metOf ih z1 hw2 c2 z3 h1 hsl, ⟨c3, c4, z2⟩, e_wk_b o1 rfl hW args, e_wk_b o2 rfl hW args, z4, ⟨c5, c6⟩, c7⟩
          have lk0 : ∀ i, (e_mo y, i, cz, 0) ∈ e_MLs → (Jvm.Cond.methodLink (e_mO y) i (e_mN cz)).before args s = true := fun i h => by
            have := e_MLs_ok _ h
            simp only [e_mlok, if_true] at this
            exact e_wk_b this rfl hW args
          have lk1 : ∀ i, (e_mo y, i, cz, 1) ∈ e_MLs → va_Nw (.methodLinkNest (e_mO y) i (e_mN cz) "FeederControl") s := fun i h => by
            have := e_MLs_ok _ h
            simp only [e_mlok, show ¬ (1 : Nat) = 0 by decide, if_false] at this
            exact e_wk_nw this hW
          have rcv : e_recv As.reverse.getLast? M.1 (e_mC cz) = true → bb = e_mP cz + 1 → ∃ q As', As = .ref q :: As' ∧ (1 ≤ q ∧ q ≤ M.1 ∧ (e_kd q).1 = e_mC cz) ∧ As'.length = e_mP cz := fun h3 hbb => by
            cases As with
            | nil => simp at hAl; omega
            | cons v0 As =>
              rw [List.getLast?_reverse, List.head?_cons] at h3
              cases v0 <;> simp only [e_recv] at h3 <;> try (cases h3; done)
              rename_i q
              exact ⟨q, As, rfl, of_decide_eq_true h3, by simp at hAl; omega⟩
          cases ins
          case invokestatic i =>
            have h9 : cz < 900 := by
              rcases Nat.lt_or_ge cz 900 with q | q
              · exact q
              · exact absurd (by simp [e_kind, Nat.not_lt.mpr q]) hk0
            simp only [c_op, Bool.and_eq_true, show ¬ cz = 998 by omega, show ¬ cz = 991 by omega, show ¬ cz = 992 by omega, show ¬ cz = 993 by omega, show ¬ cz = 994 by omega, if_false, decide_eq_true_eq] at hop
            obtain ⟨hd, hcc, hK, hbb⟩ := hop
            obtain ⟨hM, hst, hco, hin, hp, ⟨z1, z2⟩, hl⟩ := met _ hcc
            have hx := e_wk_b ((e_zs_ok cz z1 z2).2.2.1 hK) rfl hW args
            have hp' : (parseMethodDescriptor (e_mN cz).desc).map (fun d => d.parameters.length) = some As.length := by rw [hp, hAl, hbb]
            rcases hl with hl | hl
            · exact g_callS C0 hM hst hco hin hp' (lk0 i hl) hx hfr hlo hr1 hr2 hrl (of_decide_eq_true hd) (next rfl)
            · exact g_callSN C0 hM hst hco hin hp' (lk1 i hl) hx hfr hlo hr1 hr2 hrl (of_decide_eq_true hd) (next rfl)
          case invokespecial i =>
            have hc9 : cz < 900 := by
              rcases Nat.lt_or_ge cz 900 with q | q
              · exact q
              · exact absurd (by simp [e_kind, Nat.not_lt.mpr q]) hk0
            have h3 : e_recv As.reverse.getLast? M.1 (e_mC cz) = true := hrec (by simp [e_kind, hc9])
            simp only [c_op, Bool.and_eq_true, show ¬ cz = 999 by omega, if_false, decide_eq_true_eq] at hop
            obtain ⟨hd, hcc, hK, hbb⟩ := hop
            obtain ⟨hM, hst, hco, hin, hp, ⟨z1, z2⟩, hl⟩ := met _ hcc
            obtain ⟨hnm, hrn⟩ := (e_zf z1 z2).2.2.2.2.1 hK
            have hx := e_wk_b ((e_zs_ok cz z1 z2).2.2.2.1 (Or.inl hK)) rfl hW args
            obtain ⟨q, As', rfl, hq, hal⟩ := rcv h3 hbb
            have est : (Value.ref q :: As').reverse ++ rest = As'.reverse ++ .ref q :: rest := by simp
            rw [est]
            have hp' : (parseMethodDescriptor (e_mN cz).desc).map (fun d => d.parameters.length) = some As'.length := by rw [hp, hal]
            rcases hl with hl | hl
            · exact g_callI C0 hM hst hco hin hp' hq.1 hrn hnm (lk0 i hl) hx hfr hlo hr1 hr2 hrl (of_decide_eq_true hd) (next rfl)
            · exact g_callIN C0 hM hst hco hin hp' hq.1 hrn hnm (lk1 i hl) hx hfr hlo hr1 hr2 hrl (of_decide_eq_true hd) (next rfl)
          case invokevirtual i =>
            have hc9 : cz < 900 := by
              rcases Nat.lt_or_ge cz 900 with q | q
              · exact q
              · exact absurd (by simp [e_kind, Nat.not_lt.mpr q]) hk0
            have h3 : e_recv As.reverse.getLast? M.1 (e_mC cz) = true := hrec (by simp [e_kind, hc9])
            simp only [c_op, Bool.and_eq_true, decide_eq_true_eq] at hop
            obtain ⟨hd, hcc, hl, hK, hbb⟩ := hop
            obtain ⟨hM, hst, hco, hin, hp, ⟨z1, z2⟩, -⟩ := met _ hcc
            obtain ⟨hcz, hcv⟩ := (e_zf z1 z2).2.2.2.2.2 hK
            have hx := e_wk_b ((e_zs_ok cz z1 z2).2.2.2.1 (Or.inr hK)) rfl hW args
            have hse := e_wk_b ((e_zs_ok cz z1 z2).2.2.2.2 hK) rfl hW args
            obtain ⟨rw_, hv, hcn⟩ := Option.map_eq_some_iff.mp hcv
            obtain ⟨q, As', rfl, hq, hal⟩ := rcv h3 hbb
            have est : (Value.ref q :: As').reverse ++ rest = As'.reverse ++ .ref q :: rest := by simp
            rw [est]
            have hp' : (parseMethodDescriptor (e_mN cz).desc).map (fun d => d.parameters.length) = some As'.length := by rw [hp, hal]
            exact g_callV C0 hM hst hco hin hp' hq.1 hq.2.1 hq.2.2 hcz hv hcn (lk0 i hl) hx hse hfr hlo hr1 hr2 hrl (of_decide_eq_true hd) (next rfl)
          all_goals first | exact (hk0 rfl).elim | exact (hk1 rfl).elim
      · cases hev
