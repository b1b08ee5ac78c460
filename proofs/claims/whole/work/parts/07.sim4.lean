/-! what is checked of an op, once, by the kernel; and the plain machine's run is the real machine's -/
def e_len : Instr → Nat
  | .bipush _ => 2
  | .iload _ => 2
  | .aload _ => 2
  | .istore _ => 2
  | .astore _ => 2
  | .ldc _ => 2
  | .newarray _ => 2
  | .sipush _ => 3
  | .iinc _ _ => 3
  | .goto _ => 3
  | .ifCond _ _ => 3
  | .if_icmp _ _ => 3
  | .getfield _ => 3
  | .putfield _ => 3
  | .invokevirtual _ => 3
  | .invokestatic _ => 3
  | .invokespecial _ => 3
  | .new _ => 3
  | .anewarray _ => 3
  | .ldc2_w _ => 3
  | .multianewarray _ _ => 4
  | .tableswitch _ _ _ _ => 123
  | .nop => 0
  | _ => 1
def e_w (ws : List Nat) (j : Nat) (w : Jvm.Cond) : Bool := decide (lw_tbl[ws.getD j 0]? = some w) && (goodWord w || e_isN w || e_isO w)
theorem e_w_nw {ws : List Nat} {j : Nat} {w : Jvm.Cond} {s : State} (h : e_w ws j w = true) (hW : e_Wd s) : va_Nw w s := by
  simp only [e_w, Bool.and_eq_true, decide_eq_true_eq] at h
  exact hW w (List.mem_of_getElem? h.1) h.2
theorem e_w_b {ws : List Nat} {j : Nat} {w : Jvm.Cond} {s : State} (h : e_w ws j w = true) (hg : goodWord w = true) (hW : e_Wd s) (args : Array Value) : w.before args s = true := e_w_any hg (e_w_nw h hW) args
def e_hpc (is : List e_Op) : Option Nat := match is with
  | [] => none
  | op :: _ => some op.1
def e_npc (op : e_Op) (j : Option Nat) : Nat := match j with
  | none => op.1 + e_len op.2.1
  | some t => (e_hpc (e_lbl t)).getD 0
def e_jmp (y a pc : Nat) (off : Int) : Bool := match e_hpc (e_lbl a) with
  | some t => decide ((pc : Int) + off = (t : Int)) && decide (e_lm a = y)
  | none => false
theorem e_jmp_ok {y a pc : Nat} {off : Int} (h : e_jmp y a pc off = true) : ∃ t, e_hpc (e_lbl a) = some t ∧ (pc : Int) + off = (t : Int) ∧ e_lm a = y := by
  unfold e_jmp at h
  split at h
  · rename_i t ht
    simp only [Bool.and_eq_true, decide_eq_true_eq] at h
    exact ⟨t, ht, h.1, h.2⟩
  · cases h
def c_dec (y pc : Nat) (ins : Instr) : Bool := decide (decode (e_mB y) pc = .ok (ins, e_len ins))
def e_refty : FieldType → Bool
  | .object _ => true
  | .array _ => true
  | _ => false
theorem e_refty_ok {t : FieldType} (h : e_refty t = true) : (∀ x : Nat, narrow t (.ref x) = .ref x) ∧ ∀ x : Nat, fits t (.ref x) = true := by
  cases t <;> simp [e_refty] at h <;> exact ⟨fun _ => rfl, fun _ => rfl⟩
def c_call (y i a z : Nat) : Bool := decide (e_lm a = z ∧ e_hpc (e_lbl a) = some 0 ∧ e_mF z + 1 ≤ e_mF y ∧ 8 + (e_mL z + 11) + e_mQ z ≤ e_mQ y ∧ 1 ≤ z ∧ z < 148) && (decide ((e_mo y, i, z, 0) ∈ e_MLs) || decide ((e_mo y, i, z, 1) ∈ e_MLs))
theorem e_zf {z : Nat} (h1 : 1 ≤ z) (h2 : z < 148) : (e_mN z).cls = e_mO z ∧ ((e_mN z).cls ≠ "java/lang/invoke/MethodHandle" ∧ (e_mN z).cls ≠ "java/lang/invoke/VarHandle") ∧ plainName (e_mN z).cls = true ∧ (parseMethodDescriptor (e_mN z).desc).map (fun d => d.parameters.length) = some (e_mP z) ∧ (e_mK z = 1 → (e_mN z).name = "<init>" ∧ e_mR z = none) ∧ (e_mK z = 2 → e_mC z < 10 ∧ vwCl[e_mC z]?.map (·.1) = some (e_mN z).cls) := of_decide_eq_true (e_zcs_ok z h1 h2)
def c_op (y : Nat) (op : e_Op) (ws : List Nat) : Bool := match op with
  | (pc, ins, v, a, b, c) => match ins with
    | .nop => e_jmp y a pc 0
    | .iconst n => c_dec y pc (.iconst n) && decide (Int32.ofInt n = v)
    | .bipush n => c_dec y pc (.bipush n) && decide ((Int8.ofInt n).toInt32 = v)
    | .sipush n => c_dec y pc (.sipush n) && decide ((Int16.ofInt n).toInt32 = v)
    | .ldc i => c_dec y pc (.ldc i) && e_w ws 0 (.constant (e_mO y) i v)
    | .ldc2_w i => c_dec y pc (.ldc2_w i) && e_w ws 0 (.constantLong (e_mO y) i v.toInt64)
    | .iload_n k => c_dec y pc (.iload_n k) && decide ((k : Nat) = a ∧ a < e_mL y)
    | .iload k => c_dec y pc (.iload k) && decide (k = a ∧ a < e_mL y)
    | .lload_n k => c_dec y pc (.lload_n k) && decide ((k : Nat) = a ∧ a < e_mL y)
    | .aload_n k => c_dec y pc (.aload_n k) && decide ((k : Nat) = a ∧ a < e_mL y)
    | .aload k => c_dec y pc (.aload k) && decide (k = a ∧ a < e_mL y)
    | .istore_n k => c_dec y pc (.istore_n k) && decide ((k : Nat) = a ∧ a < e_mL y)
    | .istore k => c_dec y pc (.istore k) && decide (k = a ∧ a < e_mL y)
    | .lstore_n k => c_dec y pc (.lstore_n k) && decide ((k : Nat) = a ∧ a + 1 < e_mL y)
    | .astore_n k => c_dec y pc (.astore_n k) && decide ((k : Nat) = a ∧ a < e_mL y)
    | .astore k => c_dec y pc (.astore k) && decide (k = a ∧ a < e_mL y)
    | .iinc k n => c_dec y pc (.iinc k n) && decide (k = a ∧ a < e_mL y ∧ Int32.ofInt n = v)
    | .iadd => c_dec y pc .iadd
    | .isub => c_dec y pc .isub
    | .imul => c_dec y pc .imul
    | .iand => c_dec y pc .iand
    | .ixor => c_dec y pc .ixor
    | .idiv => c_dec y pc .idiv
    | .irem => c_dec y pc .irem
    | .ineg => c_dec y pc .ineg
    | .i2l => c_dec y pc .i2l
    | .i2b => c_dec y pc .i2b
    | .ladd => c_dec y pc .ladd
    | .lmul => c_dec y pc .lmul
    | .lcmp => c_dec y pc .lcmp
    | .dup => c_dec y pc .dup
    | .dup2 => c_dec y pc .dup2
    | .pop => c_dec y pc .pop
    | .goto off => c_dec y pc (.goto off) && e_jmp y a pc off
    | .ifCond cd off => c_dec y pc (.ifCond cd off) && e_jmp y a pc off
    | .if_icmp cd off => c_dec y pc (.if_icmp cd off) && e_jmp y a pc off
    | .tableswitch d lo hi offs => c_dec y pc (.tableswitch d lo hi offs) && (e_jmp y b pc d && (decide (hi - lo + 1 = offs.size) && (List.range offs.size).all fun i => e_jmp y (a + i) pc (offs.getD i 0)))
    | .getfield i => c_dec y pc (.getfield i) && (decide ((e_mo y, i, a, b) ∈ e_FLs) && (e_isR a b == decide (c = 2)))
    | .putfield i => c_dec y pc (.putfield i) && (decide ((e_mo y, i, a, b) ∈ e_FLs) && ((e_isR a b == decide (c = 2)) && (match vwCl[a]? with
      | some (C, T, _) => (if c = 2 then decide ((T b).2.2.2 = true ∧ (e_mN y).name = "<init>" ∧ C = e_mO y) && e_refty (e_ty a b) else decide ((T b).2.2.2 = false ∧ e_ty a b = if c = 1 then .boolean else .int))
      | none => false)))
    | .iaload => c_dec y pc .iaload
    | .baload => c_dec y pc .baload
    | .aaload => c_dec y pc .aaload
    | .iastore => c_dec y pc .iastore
    | .bastore => c_dec y pc .bastore
    | .aastore => c_dec y pc .aastore
    | .arraylength => c_dec y pc .arraylength
    | .new i => c_dec y pc (.new i) && (match vwCl[a]? with
      | some (C, _, N) => decide (b = N) && (e_w ws 0 (.classLink (e_mO y) i C) && (e_w ws 1 (.instantiable C N) && e_w ws 2 (.initialized C)))
      | none => false)
    | .newarray t => match t with
      | .int => c_dec y pc (.newarray .int) && (decide (a = 10) && e_w ws 0 (.arrayClass .int))
      | .byte => c_dec y pc (.newarray .byte) && (decide (a = 11) && e_w ws 0 (.arrayClass .byte))
      | _ => false
    | .anewarray i => c_dec y pc (.anewarray i) && ((decide (a = 12) && (e_w ws 0 (.classLink (e_mO y) i "FeederControl$Feeder") && e_w ws 1 (.arrayOver (.object "FeederControl$Feeder")))) || (decide (a = 13) && (e_w ws 0 (.classLink (e_mO y) i "FeederControl$Node") && e_w ws 1 (.arrayOver (.object "FeederControl$Node")))))
    | .multianewarray i d => c_dec y pc (.multianewarray i d) && (decide (d = 2) && (e_w ws 0 (.classLink (e_mO y) i ("[" ++ (FieldType.array .int).toString)) && (e_w ws 1 (.arrayOver (.array .int)) && e_w ws 2 (.arrayClass .int))))
    | .invokespecial i => c_dec y pc (.invokespecial i) && (if c = 999 then decide (1 ≤ e_mF y ∧ 12 ≤ e_mQ y) && (e_w ws 0 (.methodLink (e_mO y) i Lib.objectInit) && (e_w ws 1 (.instanceMethod Lib.objectInit) && e_w ws 2 (.code Lib.objectInit ⟨#[0xb1]⟩ 1 none)))
        else c_call y i a c && decide (e_mK c = 1 ∧ b = e_mP c + 1))
    | .invokestatic i => c_dec y pc (.invokestatic i) && (if c = 998 then decide (1 ≤ e_mF y ∧ nativeFrameWords "java/lang/System" "arraycopy" 5 + 11 ≤ e_mQ y) && (e_w ws 0 (.methodLink (e_mO y) i arraycopyName) && (e_w ws 1 (.native arraycopyName) && (e_w ws 2 (.static arraycopyName) && e_w ws 3 (.initialized "java/lang/System"))))
        else if c = 991 then decide (1 ≤ e_mF y ∧ 40 ≤ e_mQ y) && (e_w ws 0 (.methodLink (e_mO y) i Lib.Math.max.name) && (e_w ws 1 (.code Lib.Math.max.name Lib.Math.max.code 2 (some .int)) && (e_w ws 2 (.static Lib.Math.max.name) && e_w ws 3 (.initialized "java/lang/Math"))))
        else if c = 992 then decide (1 ≤ e_mF y ∧ 40 ≤ e_mQ y) && (e_w ws 0 (.methodLink (e_mO y) i Lib.Math.min.name) && (e_w ws 1 (.code Lib.Math.min.name Lib.Math.min.code 2 (some .int)) && (e_w ws 2 (.static Lib.Math.min.name) && e_w ws 3 (.initialized "java/lang/Math"))))
        else if c = 993 then decide (1 ≤ e_mF y ∧ 40 ≤ e_mQ y) && (e_w ws 0 (.methodLink (e_mO y) i Lib.Math.abs.name) && (e_w ws 1 (.code Lib.Math.abs.name Lib.Math.abs.code 1 (some .int)) && (e_w ws 2 (.static Lib.Math.abs.name) && e_w ws 3 (.initialized "java/lang/Math"))))
        else if c = 994 then decide (1 ≤ e_mF y ∧ 40 ≤ e_mQ y) && (e_w ws 0 (.methodLink (e_mO y) i Jvm.Free.MCB.FloorMod.yN) && (e_w ws 1 (.code Jvm.Free.MCB.FloorMod.yN Jvm.Free.MCB.FloorMod.yB 3 (some .int)) && (e_w ws 2 (.static Jvm.Free.MCB.FloorMod.yN) && e_w ws 3 (.initialized "java/lang/Math"))))
        else c_call y i a c && decide (e_mK c = 0 ∧ b = e_mP c))
    | .invokevirtual i => c_dec y pc (.invokevirtual i) && (c_call y i a c && decide ((e_mo y, i, c, 0) ∈ e_MLs ∧ e_mK c = 2 ∧ b = e_mP c + 1))
    | .ireturn => c_dec y pc .ireturn && (if a = 0 then decide (e_mR y = some .int) else decide (a = 1 ∧ e_mR y = some .boolean))
    | .lreturn => c_dec y pc .lreturn && decide (e_mR y = some .long)
    | .return_ => c_dec y pc .return_ && decide (e_mR y = none)
    | _ => false
/-- ops that nothing follows -/
def e_term : Instr → Bool
  | .nop => true
  | .goto _ => true
  | .tableswitch _ _ _ _ => true
  | .ireturn => true
  | .lreturn => true
  | .return_ => true
  | _ => false
def c_blk (y : Nat) : List e_Op → List (List Nat) → Bool
  | [], _ => false
  | [op], w => c_op y op (w.headD []) && e_term op.2.1
  | op :: op2 :: t, w => c_op y op (w.headD []) && (decide (op2.1 = op.1 + e_len op.2.1) && c_blk y (op2 :: t) w.tail)
section E_ROWS
variable {p : Program} {l : Launch} {e : Env} {R : Room} {s : State} {m : MethodId} {args : Array Value} {below : List Frame} {meth : Method} {c : Code} {Q : State → Prop} {D : va_G} {CA : Nat → ClassId} {bs b L y : Nat} {xs : Nat → Int32} {lv : e_Lv} {st : List Value} {M : e_Mem} {cells slots : Nat}
set_option maxHeartbeats 4000000 in
theorem e_sim1 (C0 : e_Cx p s m args meth c D CA bs b L xs y) {op : e_Op} {ws : List Nat} {j : Option Nat} {lv' : e_Lv} {st' : List Value} {M' : e_Mem} (hc : c_op y op ws = true) (h1 : e_one xs L op lv st M = some (j, lv', st', M')) (hfr : e_mF y ≤ R.frames) (hlo : e_mQ y ≤ R.locals) (hcell : cells + (M'.1 - M.1) ≤ R.cells) (hslot : slots + (e_SZ M'.1 - e_SZ M.1) ≤ R.slots)
    (k : ∀ cells' slots', cells' = cells + (M'.1 - M.1) → slots' = slots + (e_SZ M'.1 - e_SZ M.1) → e_G p l e R s m args below meth c Q D CA bs b y (e_npc op j) lv' st' M' cells' slots') : e_G p l e R s m args below meth c Q D CA bs b y op.1 lv st M cells slots := by
  obtain ⟨pc, ins, v, a, bb, cz⟩ := op
  cases ins
  case iconst n =>
    simp only [c_op, Bool.and_eq_true, decide_eq_true_eq] at hc
    obtain ⟨hd, hv⟩ := hc
    simp only [e_one] at h1
    simp only [Option.some.injEq, Prod.mk.injEq] at h1
    obtain ⟨rfl, rfl, rfl, rfl⟩ := h1
    exact g_iconst C0 hv (of_decide_eq_true hd) (k _ _ (by simp) (by simp))
  case bipush n =>
    simp only [c_op, Bool.and_eq_true, decide_eq_true_eq] at hc
    obtain ⟨hd, hv⟩ := hc
    simp only [e_one] at h1
    simp only [Option.some.injEq, Prod.mk.injEq] at h1
    obtain ⟨rfl, rfl, rfl, rfl⟩ := h1
    exact g_bipush C0 hv (of_decide_eq_true hd) (k _ _ (by simp) (by simp))
  case sipush n =>
    simp only [c_op, Bool.and_eq_true, decide_eq_true_eq] at hc
    obtain ⟨hd, hv⟩ := hc
    simp only [e_one] at h1
    simp only [Option.some.injEq, Prod.mk.injEq] at h1
    obtain ⟨rfl, rfl, rfl, rfl⟩ := h1
    exact g_sipush C0 hv (of_decide_eq_true hd) (k _ _ (by simp) (by simp))
  case ldc n =>
    simp only [c_op, Bool.and_eq_true, decide_eq_true_eq] at hc
    obtain ⟨hd, hv⟩ := hc
    simp only [e_one] at h1
    simp only [Option.some.injEq, Prod.mk.injEq] at h1
    obtain ⟨rfl, rfl, rfl, rfl⟩ := h1
    exact g_ldc C0 (e_w_b hv rfl C0.2.2.2.2.2.2.2.1 args) (of_decide_eq_true hd) (k _ _ (by simp) (by simp))
  case ldc2_w n =>
    simp only [c_op, Bool.and_eq_true, decide_eq_true_eq] at hc
    obtain ⟨hd, hv⟩ := hc
    simp only [e_one] at h1
    simp only [Option.some.injEq, Prod.mk.injEq] at h1
    obtain ⟨rfl, rfl, rfl, rfl⟩ := h1
    exact g_ldc2 C0 (e_w_b hv rfl C0.2.2.2.2.2.2.2.1 args) (of_decide_eq_true hd) (k _ _ (by simp) (by simp))
  case iload_n kx =>
    simp only [c_op, Bool.and_eq_true, decide_eq_true_eq] at hc
    obtain ⟨hd, ha, hb⟩ := hc
    simp only [e_one] at h1
    split at h1
    · rename_i x hx
      simp only [Option.some.injEq, Prod.mk.injEq] at h1
      obtain ⟨rfl, rfl, rfl, rfl⟩ := h1
      exact g_iload_n C0 ha hb hx (of_decide_eq_true hd) (k _ _ (by simp) (by simp))
    · cases h1
  case aload_n kx =>
    simp only [c_op, Bool.and_eq_true, decide_eq_true_eq] at hc
    obtain ⟨hd, ha, hb⟩ := hc
    simp only [e_one] at h1
    split at h1
    · rename_i x hx
      simp only [Option.some.injEq, Prod.mk.injEq] at h1
      obtain ⟨rfl, rfl, rfl, rfl⟩ := h1
      exact g_aload_n C0 ha hb hx (of_decide_eq_true hd) (k _ _ (by simp) (by simp))
    · cases h1
  case lload_n kx =>
    simp only [c_op, Bool.and_eq_true, decide_eq_true_eq] at hc
    obtain ⟨hd, ha, hb⟩ := hc
    simp only [e_one] at h1
    split at h1
    · rename_i x hx
      simp only [Option.some.injEq, Prod.mk.injEq] at h1
      obtain ⟨rfl, rfl, rfl, rfl⟩ := h1
      exact g_lload_n C0 ha hb hx (of_decide_eq_true hd) (k _ _ (by simp) (by simp))
    · cases h1
  case iload kx =>
    simp only [c_op, Bool.and_eq_true, decide_eq_true_eq] at hc
    obtain ⟨hd, rfl, hb⟩ := hc
    simp only [e_one] at h1
    split at h1
    · rename_i x hx
      simp only [Option.some.injEq, Prod.mk.injEq] at h1
      obtain ⟨rfl, rfl, rfl, rfl⟩ := h1
      exact g_iload C0 hb hx (of_decide_eq_true hd) (k _ _ (by simp) (by simp))
    · cases h1
  case aload kx =>
    simp only [c_op, Bool.and_eq_true, decide_eq_true_eq] at hc
    obtain ⟨hd, rfl, hb⟩ := hc
    simp only [e_one] at h1
    split at h1
    · rename_i x hx
      simp only [Option.some.injEq, Prod.mk.injEq] at h1
      obtain ⟨rfl, rfl, rfl, rfl⟩ := h1
      exact g_aload C0 hb hx (of_decide_eq_true hd) (k _ _ (by simp) (by simp))
    · cases h1
  case istore_n kx =>
    simp only [c_op, Bool.and_eq_true, decide_eq_true_eq] at hc
    obtain ⟨hd, ha, hb⟩ := hc
    simp only [e_one] at h1
    split at h1
    · rename_i x r
      split at h1
      · rename_i hk
        simp only [Option.some.injEq, Prod.mk.injEq] at h1
        obtain ⟨rfl, rfl, rfl, rfl⟩ := h1
        exact g_istore_n C0 ha hb hk (of_decide_eq_true hd) (k _ _ (by simp) (by simp))
      · cases h1
    · cases h1
  case astore_n kx =>
    simp only [c_op, Bool.and_eq_true, decide_eq_true_eq] at hc
    obtain ⟨hd, ha, hb⟩ := hc
    simp only [e_one] at h1
    split at h1
    · rename_i x r
      split at h1
      · rename_i hk
        simp only [Option.some.injEq, Prod.mk.injEq] at h1
        obtain ⟨rfl, rfl, rfl, rfl⟩ := h1
        exact g_astore_n C0 ha hb hk (of_decide_eq_true hd) (k _ _ (by simp) (by simp))
      · cases h1
    · cases h1
  case istore kx =>
    simp only [c_op, Bool.and_eq_true, decide_eq_true_eq] at hc
    obtain ⟨hd, rfl, hb⟩ := hc
    simp only [e_one] at h1
    split at h1
    · rename_i x r
      split at h1
      · rename_i hk
        simp only [Option.some.injEq, Prod.mk.injEq] at h1
        obtain ⟨rfl, rfl, rfl, rfl⟩ := h1
        exact g_istore C0 hb hk (of_decide_eq_true hd) (k _ _ (by simp) (by simp))
      · cases h1
    · cases h1
  case astore kx =>
    simp only [c_op, Bool.and_eq_true, decide_eq_true_eq] at hc
    obtain ⟨hd, rfl, hb⟩ := hc
    simp only [e_one] at h1
    split at h1
    · rename_i x r
      split at h1
      · rename_i hk
        simp only [Option.some.injEq, Prod.mk.injEq] at h1
        obtain ⟨rfl, rfl, rfl, rfl⟩ := h1
        exact g_astore C0 hb hk (of_decide_eq_true hd) (k _ _ (by simp) (by simp))
      · cases h1
    · cases h1
  case lstore_n kx =>
    simp only [c_op, Bool.and_eq_true, decide_eq_true_eq] at hc
    obtain ⟨hd, ha, hb⟩ := hc
    simp only [e_one] at h1
    split at h1
    · rename_i x r
      split at h1
      · rename_i hk
        simp only [Bool.and_eq_true] at hk
        simp only [Option.some.injEq, Prod.mk.injEq] at h1
        obtain ⟨rfl, rfl, rfl, rfl⟩ := h1
        exact g_lstore_n C0 ha hb hk.1 hk.2 (of_decide_eq_true hd) (k _ _ (by simp) (by simp))
      · cases h1
    · cases h1
  case iinc kx nx =>
    simp only [c_op, Bool.and_eq_true, decide_eq_true_eq] at hc
    obtain ⟨hd, rfl, hb, hv⟩ := hc
    simp only [e_one] at h1
    split at h1
    · rename_i x hx
      split at h1
      · rename_i hk
        simp only [Option.some.injEq, Prod.mk.injEq] at h1
        obtain ⟨rfl, rfl, rfl, rfl⟩ := h1
        exact g_iinc C0 hb hx hv hk (of_decide_eq_true hd) (k _ _ (by simp) (by simp))
      · cases h1
    · cases h1
  case iadd =>
    simp only [c_op, Bool.and_eq_true, decide_eq_true_eq] at hc
    have hd := hc
    simp only [e_one] at h1
    split at h1
    · rename_i z x r
      simp only [Option.some.injEq, Prod.mk.injEq] at h1
      obtain ⟨rfl, rfl, rfl, rfl⟩ := h1
      exact g_iadd C0 (of_decide_eq_true hd) (k _ _ (by simp) (by simp))
    · cases h1
  case isub =>
    simp only [c_op, Bool.and_eq_true, decide_eq_true_eq] at hc
    have hd := hc
    simp only [e_one] at h1
    split at h1
    · rename_i z x r
      simp only [Option.some.injEq, Prod.mk.injEq] at h1
      obtain ⟨rfl, rfl, rfl, rfl⟩ := h1
      exact g_isub C0 (of_decide_eq_true hd) (k _ _ (by simp) (by simp))
    · cases h1
  case imul =>
    simp only [c_op, Bool.and_eq_true, decide_eq_true_eq] at hc
    have hd := hc
    simp only [e_one] at h1
    split at h1
    · rename_i z x r
      simp only [Option.some.injEq, Prod.mk.injEq] at h1
      obtain ⟨rfl, rfl, rfl, rfl⟩ := h1
      exact g_imul C0 (of_decide_eq_true hd) (k _ _ (by simp) (by simp))
    · cases h1
  case iand =>
    simp only [c_op, Bool.and_eq_true, decide_eq_true_eq] at hc
    have hd := hc
    simp only [e_one] at h1
    split at h1
    · rename_i z x r
      simp only [Option.some.injEq, Prod.mk.injEq] at h1
      obtain ⟨rfl, rfl, rfl, rfl⟩ := h1
      exact g_iand C0 (of_decide_eq_true hd) (k _ _ (by simp) (by simp))
    · cases h1
  case ixor =>
    simp only [c_op, Bool.and_eq_true, decide_eq_true_eq] at hc
    have hd := hc
    simp only [e_one] at h1
    split at h1
    · rename_i z x r
      simp only [Option.some.injEq, Prod.mk.injEq] at h1
      obtain ⟨rfl, rfl, rfl, rfl⟩ := h1
      exact g_ixor C0 (of_decide_eq_true hd) (k _ _ (by simp) (by simp))
    · cases h1
  case ladd =>
    simp only [c_op, Bool.and_eq_true, decide_eq_true_eq] at hc
    have hd := hc
    simp only [e_one] at h1
    split at h1
    · rename_i z x r
      simp only [Option.some.injEq, Prod.mk.injEq] at h1
      obtain ⟨rfl, rfl, rfl, rfl⟩ := h1
      exact g_ladd C0 (of_decide_eq_true hd) (k _ _ (by simp) (by simp))
    · cases h1
  case lmul =>
    simp only [c_op, Bool.and_eq_true, decide_eq_true_eq] at hc
    have hd := hc
    simp only [e_one] at h1
    split at h1
    · rename_i z x r
      simp only [Option.some.injEq, Prod.mk.injEq] at h1
      obtain ⟨rfl, rfl, rfl, rfl⟩ := h1
      exact g_lmul C0 (of_decide_eq_true hd) (k _ _ (by simp) (by simp))
    · cases h1
  case lcmp =>
    simp only [c_op, Bool.and_eq_true, decide_eq_true_eq] at hc
    have hd := hc
    simp only [e_one] at h1
    split at h1
    · rename_i z x r
      simp only [Option.some.injEq, Prod.mk.injEq] at h1
      obtain ⟨rfl, rfl, rfl, rfl⟩ := h1
      exact g_lcmp C0 (of_decide_eq_true hd) (k _ _ (by simp) (by simp))
    · cases h1
  case ineg =>
    simp only [c_op, Bool.and_eq_true, decide_eq_true_eq] at hc
    have hd := hc
    simp only [e_one] at h1
    split at h1
    · rename_i x r
      simp only [Option.some.injEq, Prod.mk.injEq] at h1
      obtain ⟨rfl, rfl, rfl, rfl⟩ := h1
      exact g_ineg C0 (of_decide_eq_true hd) (k _ _ (by simp) (by simp))
    · cases h1
  case i2l =>
    simp only [c_op, Bool.and_eq_true, decide_eq_true_eq] at hc
    have hd := hc
    simp only [e_one] at h1
    split at h1
    · rename_i x r
      simp only [Option.some.injEq, Prod.mk.injEq] at h1
      obtain ⟨rfl, rfl, rfl, rfl⟩ := h1
      exact g_i2l C0 (of_decide_eq_true hd) (k _ _ (by simp) (by simp))
    · cases h1
  case i2b =>
    simp only [c_op, Bool.and_eq_true, decide_eq_true_eq] at hc
    have hd := hc
    simp only [e_one] at h1
    split at h1
    · rename_i x r
      simp only [Option.some.injEq, Prod.mk.injEq] at h1
      obtain ⟨rfl, rfl, rfl, rfl⟩ := h1
      exact g_i2b C0 (of_decide_eq_true hd) (k _ _ (by simp) (by simp))
    · cases h1
  case pop =>
    simp only [c_op, Bool.and_eq_true, decide_eq_true_eq] at hc
    have hd := hc
    simp only [e_one] at h1
    split at h1
    · rename_i x r
      simp only [Option.some.injEq, Prod.mk.injEq] at h1
      obtain ⟨rfl, rfl, rfl, rfl⟩ := h1
      exact g_pop C0 (of_decide_eq_true hd) (k _ _ (by simp) (by simp))
    · cases h1
  case idiv =>
    simp only [c_op, Bool.and_eq_true, decide_eq_true_eq] at hc
    have hd := hc
    simp only [e_one] at h1
    split at h1
    · rename_i z x r
      split at h1
      · cases h1
      · rename_i hz
        simp only [Option.some.injEq, Prod.mk.injEq] at h1
        obtain ⟨rfl, rfl, rfl, rfl⟩ := h1
        exact g_idiv C0 hz (of_decide_eq_true hd) (k _ _ (by simp) (by simp))
    · cases h1
  case irem =>
    simp only [c_op, Bool.and_eq_true, decide_eq_true_eq] at hc
    have hd := hc
    simp only [e_one] at h1
    split at h1
    · rename_i z x r
      split at h1
      · cases h1
      · rename_i hz
        simp only [Option.some.injEq, Prod.mk.injEq] at h1
        obtain ⟨rfl, rfl, rfl, rfl⟩ := h1
        exact g_irem C0 hz (of_decide_eq_true hd) (k _ _ (by simp) (by simp))
    · cases h1
  case dup =>
    simp only [c_op, Bool.and_eq_true, decide_eq_true_eq] at hc
    have hd := hc
    simp only [e_one] at h1
    split at h1
    · rename_i x r
      simp only [Option.some.injEq, Prod.mk.injEq] at h1
      obtain ⟨rfl, rfl, rfl, rfl⟩ := h1
      exact g_dupi C0 (of_decide_eq_true hd) (k _ _ (by simp) (by simp))
    · rename_i x r
      simp only [Option.some.injEq, Prod.mk.injEq] at h1
      obtain ⟨rfl, rfl, rfl, rfl⟩ := h1
      exact g_dupa C0 (of_decide_eq_true hd) (k _ _ (by simp) (by simp))
    · cases h1
  case dup2 =>
    simp only [c_op, Bool.and_eq_true, decide_eq_true_eq] at hc
    have hd := hc
    simp only [e_one] at h1
    split at h1
    · rename_i x z r
      simp only [Option.some.injEq, Prod.mk.injEq] at h1
      obtain ⟨rfl, rfl, rfl, rfl⟩ := h1
      exact g_dup2 C0 (of_decide_eq_true hd) (k _ _ (by simp) (by simp))
    · cases h1
  case nop =>
    simp only [c_op] at hc
    obtain ⟨t, ht, hpc, -⟩ := e_jmp_ok hc
    simp only [e_one] at h1
    simp only [Option.some.injEq, Prod.mk.injEq] at h1
    obtain ⟨rfl, rfl, rfl, rfl⟩ := h1
    have hpt : t = pc := by omega
    subst hpt
    have kk := k cells slots (by simp) (by simp)
    simp only [e_npc, ht, Option.getD_some] at kk
    exact kk
  case goto off =>
    simp only [c_op, Bool.and_eq_true, decide_eq_true_eq] at hc
    obtain ⟨hd, hj⟩ := hc
    simp only [e_one] at h1
    obtain ⟨t, ht, hpc, -⟩ := e_jmp_ok hj
    simp only [Option.some.injEq, Prod.mk.injEq] at h1
    obtain ⟨rfl, rfl, rfl, rfl⟩ := h1
    have kk := k cells slots (by simp) (by simp)
    simp only [e_npc, ht, Option.getD_some] at kk
    exact g_goto C0 hpc (of_decide_eq_true hd) kk
  case ifCond cd off =>
    simp only [c_op, Bool.and_eq_true, decide_eq_true_eq] at hc
    obtain ⟨hd, hj⟩ := hc
    simp only [e_one] at h1
    obtain ⟨t, ht, hpc, -⟩ := e_jmp_ok hj
    split at h1
    · rename_i x r
      simp only [Option.some.injEq, Prod.mk.injEq] at h1
      obtain ⟨rfl, rfl, rfl, rfl⟩ := h1
      have kk := k cells slots (by simp) (by simp)
      refine g_if C0 hpc (of_decide_eq_true hd) (fun q => ?_) (fun q => ?_)
      · simp only [e_npc, q, if_true, ht, Option.getD_some] at kk
        exact kk
      · simp only [q, if_false] at kk
        exact kk
    · cases h1
  case if_icmp cd off =>
    simp only [c_op, Bool.and_eq_true, decide_eq_true_eq] at hc
    obtain ⟨hd, hj⟩ := hc
    simp only [e_one] at h1
    obtain ⟨t, ht, hpc, -⟩ := e_jmp_ok hj
    split at h1
    · rename_i z x r
      simp only [Option.some.injEq, Prod.mk.injEq] at h1
      obtain ⟨rfl, rfl, rfl, rfl⟩ := h1
      have kk := k cells slots (by simp) (by simp)
      refine g_icmp C0 hpc (of_decide_eq_true hd) (fun q => ?_) (fun q => ?_)
      · simp only [e_npc, q, if_true, ht, Option.getD_some] at kk
        exact kk
      · simp only [q, if_false] at kk
        exact kk
    · cases h1
  case tableswitch d lo hi offs =>
    simp only [c_op, Bool.and_eq_true, decide_eq_true_eq] at hc
    obtain ⟨hd, hj, hsz, hall⟩ := hc
    simp only [e_one] at h1
    split at h1
    · rename_i x r
      simp only [Option.some.injEq, Prod.mk.injEq] at h1
      obtain ⟨rfl, rfl, rfl, rfl⟩ := h1
      have kk := k cells slots (by simp) (by simp)
      by_cases hx : x.toInt < lo ∨ hi < x.toInt
      · obtain ⟨t, ht, hpc, -⟩ := e_jmp_ok hj
        simp only [e_npc, hx, if_true, ht, Option.getD_some] at kk
        exact g_switch C0 (of_decide_eq_true hd) (Or.inl ⟨hx, hpc⟩) kk
      · have hlt : (x.toInt - lo).toNat < offs.size := by omega
        have hj2 := List.all_eq_true.mp hall _ (List.mem_range.mpr hlt)
        obtain ⟨t, ht, hpc, -⟩ := e_jmp_ok hj2
        simp only [e_npc, hx, if_false, ht, Option.getD_some] at kk
        refine g_switch C0 (of_decide_eq_true hd) (Or.inr ⟨hx, offs.getD (x.toInt - lo).toNat 0, ?_, hpc⟩) kk
        rw [Array.getD_eq_getD_getElem?, Array.getElem?_eq_getElem hlt]
        rfl
    · cases h1
  case getfield i =>
    simp only [c_op, Bool.and_eq_true, decide_eq_true_eq] at hc
    obtain ⟨hd, hm, hr⟩ := hc
    simp only [e_one] at h1
    obtain ⟨C, T, N, hv, hb, hl⟩ := e_FLs_ok _ hm
    rw [beq_iff_eq] at hr
    split at h1
    · rename_i q r
      split at h1
      · rename_i hq
        simp only [Option.some.injEq, Prod.mk.injEq] at h1
        obtain ⟨rfl, rfl, rfl, rfl⟩ := h1
        refine g_getf C0 hq.1 hq.2.1 hq.2.2 hv hb (e_wk_b hl rfl C0.2.2.2.2.2.2.2.1 args) (of_decide_eq_true hd) ?_
        have kk := k cells slots (by simp) (by simp)
        have e : (if e_isR a bb = true then e_rf (M.2.2 q bb) else Value.int (M.2.1 q bb)) = (if cz = 2 then e_rf (M.2.2 q bb) else Value.int (M.2.1 q bb)) := by
          rw [hr]
          by_cases h2 : cz = 2 <;> simp [h2]
        rw [e]
        exact kk
      · cases h1
    · cases h1
  case putfield i =>
    simp only [c_op, Bool.and_eq_true, decide_eq_true_eq] at hc
    obtain ⟨hd, hm0, hr, hm⟩ := hc
    simp only [e_one] at h1
    obtain ⟨C, T, N, hv, hb, hl⟩ := e_FLs_ok _ hm0
    rw [beq_iff_eq] at hr
    dsimp only at hv hb hl
    rw [hv] at hm
    have hx := hm
    dsimp only at hx
    split at h1
    · rename_i x q r
      split at h1
      · rename_i hq
        obtain ⟨⟨q1, q2, q3⟩, hc2, hbool⟩ := hq
        simp only [Option.some.injEq, Prod.mk.injEq] at h1
        obtain ⟨rfl, rfl, rfl, rfl⟩ := h1
        have h2 : ¬ cz = 2 := by omega
        rw [if_neg h2] at hx
        simp only [decide_eq_true_eq] at hx
        obtain ⟨hfin, hty⟩ := hx
        have hnf : narrow (e_ty a bb) (.int x) = .int x ∧ fits (e_ty a bb) (.int x) = true := by
          rw [hty]
          by_cases h1 : cz = 1
          · rw [if_pos h1]
            rcases hbool h1 with h | h <;> (subst h; exact ⟨by decide +kernel, rfl⟩)
          · rw [if_neg h1]
            exact ⟨rfl, rfl⟩
        exact g_puti C0 q1 q2 q3 hv hb (by rw [hr]; simp [h2]) hfin hnf.1 hnf.2 (e_wk_b hl rfl C0.2.2.2.2.2.2.2.1 args) (of_decide_eq_true hd) (k _ _ (by simp) (by simp))
      · cases h1
    · rename_i z q r
      split at h1
      · rename_i hq
        obtain ⟨⟨q1, q2, q3⟩, hc2, hz⟩ := hq
        simp only [Option.some.injEq, Prod.mk.injEq] at h1
        obtain ⟨rfl, rfl, rfl, rfl⟩ := h1
        rw [if_pos hc2] at hx
        simp only [Bool.and_eq_true, decide_eq_true_eq] at hx
        obtain ⟨⟨hfin, hin, hdecl⟩, hrt⟩ := hx
        exact g_putr C0 q1 q2 q3 hz hv hb (by rw [hr]; simp [hc2]) hfin hin hdecl (e_refty_ok hrt).1 (e_refty_ok hrt).2 (e_wk_b hl rfl C0.2.2.2.2.2.2.2.1 args) (of_decide_eq_true hd) (k _ _ (by simp) (by simp))
      · cases h1
    · cases h1
  case iaload =>
    simp only [c_op, Bool.and_eq_true, decide_eq_true_eq] at hc
    have hd := hc
    simp only [e_one] at h1
    split at h1
    · rename_i i q r
      split at h1
      · rename_i hq
        subst hq
        split at h1
        · rename_i hi
          simp only [Option.some.injEq, Prod.mk.injEq] at h1
          obtain ⟨rfl, rfl, rfl, rfl⟩ := h1
          exact g_sld C0 hi (of_decide_eq_true hd) (k _ _ (by simp) (by simp))
        · cases h1
      · rename_i hq0
        split at h1
        · rename_i hq
          simp only [Option.some.injEq, Prod.mk.injEq] at h1
          obtain ⟨rfl, rfl, rfl, rfl⟩ := h1
          exact g_iald C0 (Nat.pos_of_ne_zero hq0) hq.1 hq.2.1 hq.2.2 (of_decide_eq_true hd) (k _ _ (by simp) (by simp))
        · cases h1
    · cases h1
  case baload =>
    simp only [c_op, Bool.and_eq_true, decide_eq_true_eq] at hc
    have hd := hc
    simp only [e_one] at h1
    split at h1
    · rename_i i q r
      split at h1
      · rename_i hq
        simp only [Option.some.injEq, Prod.mk.injEq] at h1
        obtain ⟨rfl, rfl, rfl, rfl⟩ := h1
        exact g_bald C0 hq.1 hq.2.1 hq.2.2.1 hq.2.2.2 (of_decide_eq_true hd) (k _ _ (by simp) (by simp))
      · cases h1
    · cases h1
  case aaload =>
    simp only [c_op, Bool.and_eq_true, decide_eq_true_eq] at hc
    have hd := hc
    simp only [e_one] at h1
    split at h1
    · rename_i i q r
      split at h1
      · rename_i hq
        simp only [Option.some.injEq, Prod.mk.injEq] at h1
        obtain ⟨rfl, rfl, rfl, rfl⟩ := h1
        exact g_aald C0 hq.1 hq.2.1 hq.2.2.1 hq.2.2.2 (of_decide_eq_true hd) (k _ _ (by simp) (by simp))
      · cases h1
    · cases h1
  case iastore =>
    simp only [c_op, Bool.and_eq_true, decide_eq_true_eq] at hc
    have hd := hc
    simp only [e_one] at h1
    split at h1
    · rename_i x i q r
      split at h1
      · rename_i hq
        simp only [Option.some.injEq, Prod.mk.injEq] at h1
        obtain ⟨rfl, rfl, rfl, rfl⟩ := h1
        exact g_iast C0 hq.1 hq.2.1 hq.2.2.1 hq.2.2.2 (of_decide_eq_true hd) (k _ _ (by simp) (by simp))
      · cases h1
    · cases h1
  case bastore =>
    simp only [c_op, Bool.and_eq_true, decide_eq_true_eq] at hc
    have hd := hc
    simp only [e_one] at h1
    split at h1
    · rename_i x i q r
      split at h1
      · rename_i hq
        simp only [Option.some.injEq, Prod.mk.injEq] at h1
        obtain ⟨rfl, rfl, rfl, rfl⟩ := h1
        exact g_bast C0 hq.1 hq.2.1 hq.2.2.1 hq.2.2.2 (of_decide_eq_true hd) (k _ _ (by simp) (by simp))
      · cases h1
    · cases h1
  case aastore =>
    simp only [c_op, Bool.and_eq_true, decide_eq_true_eq] at hc
    have hd := hc
    simp only [e_one] at h1
    split at h1
    · rename_i z i q r
      split at h1
      · rename_i hq
        simp only [Option.some.injEq, Prod.mk.injEq] at h1
        obtain ⟨rfl, rfl, rfl, rfl⟩ := h1
        exact g_aast C0 hq.1 hq.2.1 hq.2.2.1.1 hq.2.2.1.2 hq.2.2.2.1 hq.2.2.2.2 (of_decide_eq_true hd) (k _ _ (by simp) (by simp))
      · cases h1
    · cases h1
  case arraylength =>
    simp only [c_op, Bool.and_eq_true, decide_eq_true_eq] at hc
    have hd := hc
    simp only [e_one] at h1
    split at h1
    · rename_i q r
      split at h1
      · rename_i hq
        subst hq
        simp only [Option.some.injEq, Prod.mk.injEq] at h1
        obtain ⟨rfl, rfl, rfl, rfl⟩ := h1
        exact g_slen C0 (of_decide_eq_true hd) (k _ _ (by simp) (by simp))
      · cases h1
    · cases h1
  case new i =>
    simp only [c_op, Bool.and_eq_true, decide_eq_true_eq] at hc
    obtain ⟨hd, hm⟩ := hc
    simp only [e_one] at h1
    split at hm
    · rename_i C T N hv
      simp only [Bool.and_eq_true, decide_eq_true_eq] at hm
      obtain ⟨rfl, w0, w1, w2⟩ := hm
      split at h1
      · rename_i hq
        obtain ⟨hn, hk⟩ := hq
        simp only [Option.some.injEq, Prod.mk.injEq] at h1
        obtain ⟨rfl, rfl, rfl, rfl⟩ := h1
        have hW := C0.2.2.2.2.2.2.2.1
        have e1 : e_SZ (M.1 + 1) - e_SZ M.1 = bb := by simp only [e_SZ, hk]; omega
        have hcell : cells + (M.1 + 1 - M.1) ≤ R.cells := hcell
        have hslot : slots + (e_SZ (M.1 + 1) - e_SZ M.1) ≤ R.slots := hslot
        exact g_new C0 hv hn hk (e_w_b w0 rfl hW args) (e_w_b w1 rfl hW args) (e_w_b w2 rfl hW args) (by omega) (by omega) (of_decide_eq_true hd) (k _ _ (by show _ = cells + (M.1 + 1 - M.1); omega) (by show _ = slots + (e_SZ (M.1 + 1) - e_SZ M.1); omega))
      · cases h1
    · cases hm
  case newarray t =>
    cases t
    case int =>
      simp only [c_op, Bool.and_eq_true, decide_eq_true_eq] at hc
      obtain ⟨hd, rfl, w0⟩ := hc
      simp only [e_one] at h1
      split at h1
      · rename_i n r
        split at h1
        · rename_i hq
          obtain ⟨hn, hk, h0, hN⟩ := hq
          simp only [Option.some.injEq, Prod.mk.injEq] at h1
          obtain ⟨rfl, rfl, rfl, rfl⟩ := h1
          have e1 : e_SZ (M.1 + 1) - e_SZ M.1 = n.toNatClampNeg := by simp only [e_SZ, hk]; omega
          have hcell : cells + (M.1 + 1 - M.1) ≤ R.cells := hcell
          have hslot : slots + (e_SZ (M.1 + 1) - e_SZ M.1) ≤ R.slots := hslot
          exact g_newi C0 hn hk h0 rfl hN (e_w_b w0 rfl C0.2.2.2.2.2.2.2.1 args) (by omega) (by omega) (of_decide_eq_true hd) (k _ _ (by show _ = cells + (M.1 + 1 - M.1); omega) (by show _ = slots + (e_SZ (M.1 + 1) - e_SZ M.1); omega))
        · cases h1
      · cases h1
    case byte =>
      simp only [c_op, Bool.and_eq_true, decide_eq_true_eq] at hc
      obtain ⟨hd, rfl, w0⟩ := hc
      simp only [e_one] at h1
      split at h1
      · rename_i n r
        split at h1
        · rename_i hq
          obtain ⟨hn, hk, h0, hN⟩ := hq
          simp only [Option.some.injEq, Prod.mk.injEq] at h1
          obtain ⟨rfl, rfl, rfl, rfl⟩ := h1
          have e1 : e_SZ (M.1 + 1) - e_SZ M.1 = n.toNatClampNeg := by simp only [e_SZ, hk]; omega
          have hcell : cells + (M.1 + 1 - M.1) ≤ R.cells := hcell
          have hslot : slots + (e_SZ (M.1 + 1) - e_SZ M.1) ≤ R.slots := hslot
          exact g_newb C0 hn hk h0 rfl hN (e_w_b w0 rfl C0.2.2.2.2.2.2.2.1 args) (by omega) (by omega) (of_decide_eq_true hd) (k _ _ (by show _ = cells + (M.1 + 1 - M.1); omega) (by show _ = slots + (e_SZ (M.1 + 1) - e_SZ M.1); omega))
        · cases h1
      · cases h1
    all_goals (simp [c_op] at hc)
  case anewarray i =>
    simp only [c_op, Bool.and_eq_true, decide_eq_true_eq] at hc
    obtain ⟨hd, hm⟩ := hc
    simp only [e_one] at h1
    split at h1
    · rename_i n r
      split at h1
      · rename_i hq
        obtain ⟨hn, hk, h0, hN⟩ := hq
        simp only [Option.some.injEq, Prod.mk.injEq] at h1
        obtain ⟨rfl, rfl, rfl, rfl⟩ := h1
        have e1 : e_SZ (M.1 + 1) - e_SZ M.1 = n.toNatClampNeg := by simp only [e_SZ, hk]; omega
        have hcell : cells + (M.1 + 1 - M.1) ≤ R.cells := hcell
        have hslot : slots + (e_SZ (M.1 + 1) - e_SZ M.1) ≤ R.slots := hslot
        simp only [Bool.or_eq_true, Bool.and_eq_true, decide_eq_true_eq] at hm
        rcases hm with ⟨ha, w0, w1⟩ | ⟨ha, w0, w1⟩
        · exact g_newq C0 hn hk (Or.inl ⟨ha, rfl⟩) h0 rfl hN (e_w_b w0 rfl C0.2.2.2.2.2.2.2.1 args) (e_w_nw w1 C0.2.2.2.2.2.2.2.1) (by omega) (by omega) (of_decide_eq_true hd) (k _ _ (by show _ = cells + (M.1 + 1 - M.1); omega) (by show _ = slots + (e_SZ (M.1 + 1) - e_SZ M.1); omega))
        · exact g_newq C0 hn hk (Or.inr ⟨ha, rfl⟩) h0 rfl hN (e_w_b w0 rfl C0.2.2.2.2.2.2.2.1 args) (e_w_nw w1 C0.2.2.2.2.2.2.2.1) (by omega) (by omega) (of_decide_eq_true hd) (k _ _ (by show _ = cells + (M.1 + 1 - M.1); omega) (by show _ = slots + (e_SZ (M.1 + 1) - e_SZ M.1); omega))
      · cases h1
    · cases h1
  case multianewarray i dd =>
    simp only [c_op, Bool.and_eq_true, decide_eq_true_eq] at hc
    obtain ⟨hd, rfl, w0, w1, w2⟩ := hc
    simp only [e_one] at h1
    split at h1
    · rename_i kk nn r
      split at h1
      · rename_i hq
        obtain ⟨hn, hk, rfl, rfl, hall⟩ := hq
        simp only [Option.some.injEq, Prod.mk.injEq] at h1
        obtain ⟨rfl, rfl, rfl, rfl⟩ := h1
        have hk2 : ∀ j, j < 24 → e_kd (M.1 + 2 + j) = (10, 33) := fun j hj => by
          have := List.all_eq_true.mp hall j (List.mem_range.mpr hj)
          simpa using this
        have e0 : ∀ j, j ≤ 24 → e_SZ (M.1 + 1 + j) = e_SZ M.1 + 24 + 33 * j := by
          intro j
          induction j with
          | zero => intro _; simp only [e_SZ, hk, Nat.add_zero]
          | succ j ih =>
            intro hj
            have h3 := hk2 j (by omega)
            rw [show M.1 + 2 + j = M.1 + 1 + j + 1 by omega] at h3
            rw [show M.1 + 1 + (j + 1) = (M.1 + 1 + j) + 1 by omega]
            simp only [e_SZ]
            rw [h3, ih (by omega)]
            omega
        have e1 : e_SZ (M.1 + 25) - e_SZ M.1 = 24 + 24 * 33 := by
          have := e0 24 (Nat.le_refl _)
          rw [show M.1 + 1 + 24 = M.1 + 25 by omega] at this
          omega
        have hcell : cells + (M.1 + 25 - M.1) ≤ R.cells := hcell
        have hslot : slots + (e_SZ (M.1 + 25) - e_SZ M.1) ≤ R.slots := hslot
        have hW := C0.2.2.2.2.2.2.2.1
        exact g_multi C0 hn hk hk2 (e_w_b w0 rfl hW args) (e_w_nw w1 hW) (e_w_b w2 rfl hW args) (by omega) (by omega) (of_decide_eq_true hd) (k _ _ (by show _ = cells + (M.1 + 25 - M.1); omega) (by show _ = slots + (e_SZ (M.1 + 25) - e_SZ M.1); omega))
      · cases h1
    · cases h1
  case invokespecial i =>
    simp only [c_op, Bool.and_eq_true, decide_eq_true_eq] at hc
    obtain ⟨hd, hm⟩ := hc
    simp only [e_one] at h1
    split at h1
    · rename_i q
      split at h1
      · rename_i hq
        subst hq
        simp only [Option.some.injEq, Prod.mk.injEq] at h1
        obtain ⟨rfl, rfl, rfl, rfl⟩ := h1
        rw [if_pos rfl] at hm
        simp only [Bool.and_eq_true, decide_eq_true_eq] at hm
        obtain ⟨⟨f1, f2⟩, w0, w1, w2⟩ := hm
        have hW := C0.2.2.2.2.2.2.2.1
        exact g_oinit C0 (e_w_b w0 rfl hW args) (e_w_b w1 rfl hW args) (e_w_b w2 rfl hW args) (Nat.le_trans f1 hfr) (Nat.le_trans f2 hlo) (of_decide_eq_true hd) (k _ _ (by simp) (by simp))
      · cases h1
    · cases h1
  case invokestatic i =>
    simp only [c_op, Bool.and_eq_true, decide_eq_true_eq] at hc
    obtain ⟨hd, hm⟩ := hc
    simp only [e_one] at h1
    by_cases h998 : cz = 998
    · rw [if_pos h998] at h1 hm
      split at h1
      · rename_i n dp d sp q
        split at h1
        · rename_i hq
          obtain ⟨g1, g2, g3, g4, g5⟩ := hq
          simp only [Option.some.injEq, Prod.mk.injEq] at h1
          obtain ⟨rfl, rfl, rfl, rfl⟩ := h1
          simp only [Bool.and_eq_true, decide_eq_true_eq] at hm
          obtain ⟨⟨f1, f2⟩, w0, w1, w2, w3⟩ := hm
          have hW := C0.2.2.2.2.2.2.2.1
          exact g_copy C0 g1 g2 g3 g4 g5 (e_w_b w0 rfl hW args) (e_w_b w1 rfl hW args) (e_w_b w2 rfl hW args) (e_w_b w3 rfl hW args) (Nat.le_trans f1 hfr) (Nat.le_trans f2 hlo) (of_decide_eq_true hd) (k _ _ (by simp) (by simp))
        · cases h1
      · cases h1
    · rw [if_neg h998] at h1 hm
      by_cases h991 : cz = 991
      · rw [if_pos h991] at h1 hm
        split at h1
        · rename_i z x r
          split at h1
          · rename_i hq
            simp only [Option.some.injEq, Prod.mk.injEq] at h1
            obtain ⟨rfl, rfl, rfl, rfl⟩ := h1
            simp only [Bool.and_eq_true, decide_eq_true_eq] at hm
            obtain ⟨⟨f1, f2⟩, w0, w1, w2, w3⟩ := hm
            have hW := C0.2.2.2.2.2.2.2.1
            exact g_mmax C0 (e_w_b w0 rfl hW args) (e_w_b w1 rfl hW args) (e_w_b w2 rfl hW args) (e_w_b w3 rfl hW args) (Nat.le_trans f1 hfr) (Nat.le_trans f2 hlo) (Nat.le_trans (Nat.le_add_right _ _) hcell) (Nat.le_trans (Nat.le_add_right _ _) hslot) hq (of_decide_eq_true hd) (k _ _ (by simp) (by simp))
          · cases h1
        · cases h1
      · rw [if_neg h991] at h1 hm
        by_cases h992 : cz = 992
        · rw [if_pos h992] at h1 hm
          split at h1
          · rename_i z x r
            split at h1
            · rename_i hq
              simp only [Option.some.injEq, Prod.mk.injEq] at h1
              obtain ⟨rfl, rfl, rfl, rfl⟩ := h1
              simp only [Bool.and_eq_true, decide_eq_true_eq] at hm
              obtain ⟨⟨f1, f2⟩, w0, w1, w2, w3⟩ := hm
              have hW := C0.2.2.2.2.2.2.2.1
              exact g_mmin C0 (e_w_b w0 rfl hW args) (e_w_b w1 rfl hW args) (e_w_b w2 rfl hW args) (e_w_b w3 rfl hW args) (Nat.le_trans f1 hfr) (Nat.le_trans f2 hlo) (Nat.le_trans (Nat.le_add_right _ _) hcell) (Nat.le_trans (Nat.le_add_right _ _) hslot) hq (of_decide_eq_true hd) (k _ _ (by simp) (by simp))
            · cases h1
          · cases h1
        · rw [if_neg h992] at h1 hm
          by_cases h993 : cz = 993
          · rw [if_pos h993] at h1 hm
            split at h1
            · rename_i x r
              split at h1
              · rename_i hq
                simp only [Option.some.injEq, Prod.mk.injEq] at h1
                obtain ⟨rfl, rfl, rfl, rfl⟩ := h1
                simp only [Bool.and_eq_true, decide_eq_true_eq] at hm
                obtain ⟨⟨f1, f2⟩, w0, w1, w2, w3⟩ := hm
                have hW := C0.2.2.2.2.2.2.2.1
                exact g_mabs C0 (e_w_b w0 rfl hW args) (e_w_b w1 rfl hW args) (e_w_b w2 rfl hW args) (e_w_b w3 rfl hW args) (Nat.le_trans f1 hfr) (Nat.le_trans f2 hlo) (Nat.le_trans (Nat.le_add_right _ _) hcell) (Nat.le_trans (Nat.le_add_right _ _) hslot) hq (of_decide_eq_true hd) (k _ _ (by simp) (by simp))
              · cases h1
            · cases h1
          · rw [if_neg h993] at h1 hm
            by_cases h994 : cz = 994
            · rw [if_pos h994] at h1 hm
              split at h1
              · rename_i z x r
                split at h1
                · rename_i hq
                  simp only [Option.some.injEq, Prod.mk.injEq] at h1
                  obtain ⟨rfl, rfl, rfl, rfl⟩ := h1
                  simp only [Bool.and_eq_true, decide_eq_true_eq] at hm
                  obtain ⟨⟨f1, f2⟩, w0, w1, w2, w3⟩ := hm
                  have hW := C0.2.2.2.2.2.2.2.1
                  exact g_fmod C0 hq.2 (e_w_b w0 rfl hW args) (e_w_b w1 rfl hW args) (e_w_b w2 rfl hW args) (e_w_b w3 rfl hW args) (Nat.le_trans f1 hfr) (Nat.le_trans f2 hlo) (Nat.le_trans (Nat.le_add_right _ _) hcell) (Nat.le_trans (Nat.le_add_right _ _) hslot) hq.1 (of_decide_eq_true hd) (k _ _ (by simp) (by simp))
                · cases h1
              · cases h1
            · rw [if_neg h994] at h1 hm
              cases h1
  all_goals first | (simp [c_op] at hc; done) | (simp [e_one] at h1; done)
end E_ROWS
