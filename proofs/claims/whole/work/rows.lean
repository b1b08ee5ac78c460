section
-- ===== PART A: goes FIRST, ahead of the names: the tables' words, and 'selects' of the private methods out of them =====
/-- a private method of a class that the tables say can be made, by its rows of tables_1 -/
def lw_okq (q : MethodName × Nat) : Prop := (q.1.cls ≠ "java/lang/invoke/MethodHandle" ∧ q.1.cls ≠ "java/lang/invoke/VarHandle") ∧ Cond.instantiable q.1.cls q.2 ∈ tables_1 ∧ Cond.privateMethod q.1 ∈ tables_1 ∧ Cond.instanceMethod q.1 ∈ tables_1
theorem lw_p0 : lw_okq (⟨"FeederControl", "refuse", "(I)I"⟩, 7) := ⟨⟨by decide +kernel, by decide +kernel⟩, List.mem_of_getElem? (i := 14) (by decide +kernel), List.mem_of_getElem? (i := 315) (by decide +kernel), List.mem_of_getElem? (i := 316) (by decide +kernel)⟩
theorem lw_p1 : lw_okq (⟨"FeederControl$History", "dropOldest", "()V"⟩, 2) := ⟨⟨by decide +kernel, by decide +kernel⟩, List.mem_of_getElem? (i := 269) (by decide +kernel), List.mem_of_getElem? (i := 326) (by decide +kernel), List.mem_of_getElem? (i := 327) (by decide +kernel)⟩
theorem lw_p2 : lw_okq (⟨"FeederControl", "hasNode", "(I)Z"⟩, 7) := ⟨⟨by decide +kernel, by decide +kernel⟩, List.mem_of_getElem? (i := 14) (by decide +kernel), List.mem_of_getElem? (i := 360) (by decide +kernel), List.mem_of_getElem? (i := 361) (by decide +kernel)⟩
theorem lw_p3 : lw_okq (⟨"FeederControl$ProfileText", "skipSpaces", "()V"⟩, 4) := ⟨⟨by decide +kernel, by decide +kernel⟩, List.mem_of_getElem? (i := 246) (by decide +kernel), List.mem_of_getElem? (i := 388) (by decide +kernel), List.mem_of_getElem? (i := 389) (by decide +kernel)⟩
theorem lw_p4 : lw_okq (⟨"FeederControl$ProfileText", "readItem", "([I)V"⟩, 4) := ⟨⟨by decide +kernel, by decide +kernel⟩, List.mem_of_getElem? (i := 246) (by decide +kernel), List.mem_of_getElem? (i := 392) (by decide +kernel), List.mem_of_getElem? (i := 393) (by decide +kernel)⟩
theorem lw_p5 : lw_okq (⟨"FeederControl$ProfileText", "readNumber", "(II)I"⟩, 4) := ⟨⟨by decide +kernel, by decide +kernel⟩, List.mem_of_getElem? (i := 246) (by decide +kernel), List.mem_of_getElem? (i := 396) (by decide +kernel), List.mem_of_getElem? (i := 397) (by decide +kernel)⟩
theorem lw_p6 : lw_okq (⟨"FeederControl$ProfileText", "isNext", "(C)Z"⟩, 4) := ⟨⟨by decide +kernel, by decide +kernel⟩, List.mem_of_getElem? (i := 246) (by decide +kernel), List.mem_of_getElem? (i := 401) (by decide +kernel), List.mem_of_getElem? (i := 402) (by decide +kernel)⟩
theorem lw_p7 : lw_okq (⟨"FeederControl$ProfileText", "expect", "(C)V"⟩, 4) := ⟨⟨by decide +kernel, by decide +kernel⟩, List.mem_of_getElem? (i := 246) (by decide +kernel), List.mem_of_getElem? (i := 405) (by decide +kernel), List.mem_of_getElem? (i := 406) (by decide +kernel)⟩
theorem lw_p8 : lw_okq (⟨"FeederControl", "regulatorFault", "(I)I"⟩, 7) := ⟨⟨by decide +kernel, by decide +kernel⟩, List.mem_of_getElem? (i := 14) (by decide +kernel), List.mem_of_getElem? (i := 417) (by decide +kernel), List.mem_of_getElem? (i := 418) (by decide +kernel)⟩
theorem lw_p9 : lw_okq (⟨"FeederControl", "bankFault", "(I)I"⟩, 7) := ⟨⟨by decide +kernel, by decide +kernel⟩, List.mem_of_getElem? (i := 14) (by decide +kernel), List.mem_of_getElem? (i := 432) (by decide +kernel), List.mem_of_getElem? (i := 433) (by decide +kernel)⟩
theorem lw_p10 : lw_okq (⟨"FeederControl", "passMinute", "()Z"⟩, 7) := ⟨⟨by decide +kernel, by decide +kernel⟩, List.mem_of_getElem? (i := 14) (by decide +kernel), List.mem_of_getElem? (i := 443) (by decide +kernel), List.mem_of_getElem? (i := 444) (by decide +kernel)⟩
theorem lw_p11 : lw_okq (⟨"FeederControl$Planner", "countStepsAfter", "(LFeederControl$Feeder;II)V"⟩, 5) := ⟨⟨by decide +kernel, by decide +kernel⟩, List.mem_of_getElem? (i := 218) (by decide +kernel), List.mem_of_getElem? (i := 589) (by decide +kernel), List.mem_of_getElem? (i := 590) (by decide +kernel)⟩
theorem lw_p12 : lw_okq (⟨"FeederControl$Planner", "countStepsFrom", "(I)V"⟩, 5) := ⟨⟨by decide +kernel, by decide +kernel⟩, List.mem_of_getElem? (i := 218) (by decide +kernel), List.mem_of_getElem? (i := 597) (by decide +kernel), List.mem_of_getElem? (i := 598) (by decide +kernel)⟩
theorem lw_p13 : lw_okq (⟨"FeederControl$Planner", "chooseTaps", "(I)V"⟩, 5) := ⟨⟨by decide +kernel, by decide +kernel⟩, List.mem_of_getElem? (i := 218) (by decide +kernel), List.mem_of_getElem? (i := 604) (by decide +kernel), List.mem_of_getElem? (i := 605) (by decide +kernel)⟩
theorem lw_p14 : lw_okq (⟨"FeederControlModel", "error", "(I)I"⟩, 12) := ⟨⟨by decide +kernel, by decide +kernel⟩, List.mem_of_getElem? (i := 643) (by decide +kernel), List.mem_of_getElem? (i := 693) (by decide +kernel), List.mem_of_getElem? (i := 694) (by decide +kernel)⟩
theorem lw_p15 : lw_okq (⟨"FeederControlModel", "save", "()V"⟩, 12) := ⟨⟨by decide +kernel, by decide +kernel⟩, List.mem_of_getElem? (i := 643) (by decide +kernel), List.mem_of_getElem? (i := 697) (by decide +kernel), List.mem_of_getElem? (i := 698) (by decide +kernel)⟩
def lw_privs_1 : List (MethodName × Nat) := [(⟨"FeederControl", "refuse", "(I)I"⟩, 7), (⟨"FeederControl$History", "dropOldest", "()V"⟩, 2), (⟨"FeederControl", "hasNode", "(I)Z"⟩, 7), (⟨"FeederControl$ProfileText", "skipSpaces", "()V"⟩, 4), (⟨"FeederControl$ProfileText", "readItem", "([I)V"⟩, 4), (⟨"FeederControl$ProfileText", "readNumber", "(II)I"⟩, 4), (⟨"FeederControl$ProfileText", "isNext", "(C)Z"⟩, 4), (⟨"FeederControl$ProfileText", "expect", "(C)V"⟩, 4), (⟨"FeederControl", "regulatorFault", "(I)I"⟩, 7), (⟨"FeederControl", "bankFault", "(I)I"⟩, 7), (⟨"FeederControl", "passMinute", "()Z"⟩, 7), (⟨"FeederControl$Planner", "countStepsAfter", "(LFeederControl$Feeder;II)V"⟩, 5), (⟨"FeederControl$Planner", "countStepsFrom", "(I)V"⟩, 5), (⟨"FeederControl$Planner", "chooseTaps", "(I)V"⟩, 5), (⟨"FeederControlModel", "error", "(I)I"⟩, 12), (⟨"FeederControlModel", "save", "()V"⟩, 12)]
theorem lw_r1 : ∀ q ∈ lw_privs_1, lw_okq q := List.forall_mem_cons.mpr ⟨lw_p0, List.forall_mem_cons.mpr ⟨lw_p1, List.forall_mem_cons.mpr ⟨lw_p2, List.forall_mem_cons.mpr ⟨lw_p3, List.forall_mem_cons.mpr ⟨lw_p4, List.forall_mem_cons.mpr ⟨lw_p5, List.forall_mem_cons.mpr ⟨lw_p6, List.forall_mem_cons.mpr ⟨lw_p7, List.forall_mem_cons.mpr ⟨lw_p8, List.forall_mem_cons.mpr ⟨lw_p9, List.forall_mem_cons.mpr ⟨lw_p10, List.forall_mem_cons.mpr ⟨lw_p11, List.forall_mem_cons.mpr ⟨lw_p12, List.forall_mem_cons.mpr ⟨lw_p13, List.forall_mem_cons.mpr ⟨lw_p14, List.forall_mem_cons.mpr ⟨lw_p15, fun _ h => absurd h List.not_mem_nil⟩⟩⟩⟩⟩⟩⟩⟩⟩⟩⟩⟩⟩⟩⟩⟩
theorem lw_p16 : lw_okq (⟨"FeederControlModel", "put", "(III)V"⟩, 12) := ⟨⟨by decide +kernel, by decide +kernel⟩, List.mem_of_getElem? (i := 643) (by decide +kernel), List.mem_of_getElem? (i := 708) (by decide +kernel), List.mem_of_getElem? (i := 709) (by decide +kernel)⟩
theorem lw_p17 : lw_okq (⟨"FeederControlModel", "isNode", "(I)Z"⟩, 12) := ⟨⟨by decide +kernel, by decide +kernel⟩, List.mem_of_getElem? (i := 643) (by decide +kernel), List.mem_of_getElem? (i := 719) (by decide +kernel), List.mem_of_getElem? (i := 720) (by decide +kernel)⟩
theorem lw_p18 : lw_okq (⟨"FeederControlModel", "next", "()I"⟩, 12) := ⟨⟨by decide +kernel, by decide +kernel⟩, List.mem_of_getElem? (i := 643) (by decide +kernel), List.mem_of_getElem? (i := 739) (by decide +kernel), List.mem_of_getElem? (i := 740) (by decide +kernel)⟩
theorem lw_p19 : lw_okq (⟨"FeederControlModel", "readsItem", "()Z"⟩, 12) := ⟨⟨by decide +kernel, by decide +kernel⟩, List.mem_of_getElem? (i := 643) (by decide +kernel), List.mem_of_getElem? (i := 743) (by decide +kernel), List.mem_of_getElem? (i := 744) (by decide +kernel)⟩
theorem lw_p20 : lw_okq (⟨"FeederControlModel", "number", "(II)I"⟩, 12) := ⟨⟨by decide +kernel, by decide +kernel⟩, List.mem_of_getElem? (i := 643) (by decide +kernel), List.mem_of_getElem? (i := 747) (by decide +kernel), List.mem_of_getElem? (i := 748) (by decide +kernel)⟩
theorem lw_p21 : lw_okq (⟨"FeederControlModel", "takes", "(I)Z"⟩, 12) := ⟨⟨by decide +kernel, by decide +kernel⟩, List.mem_of_getElem? (i := 643) (by decide +kernel), List.mem_of_getElem? (i := 751) (by decide +kernel), List.mem_of_getElem? (i := 752) (by decide +kernel)⟩
theorem lw_p22 : lw_okq (⟨"FeederControlModel", "of", "(II)I"⟩, 12) := ⟨⟨by decide +kernel, by decide +kernel⟩, List.mem_of_getElem? (i := 643) (by decide +kernel), List.mem_of_getElem? (i := 759) (by decide +kernel), List.mem_of_getElem? (i := 760) (by decide +kernel)⟩
theorem lw_p23 : lw_okq (⟨"FeederControlModel", "lacks", "(II)I"⟩, 12) := ⟨⟨by decide +kernel, by decide +kernel⟩, List.mem_of_getElem? (i := 643) (by decide +kernel), List.mem_of_getElem? (i := 767) (by decide +kernel), List.mem_of_getElem? (i := 768) (by decide +kernel)⟩
theorem lw_p24 : lw_okq (⟨"FeederControlModel", "passes", "()I"⟩, 12) := ⟨⟨by decide +kernel, by decide +kernel⟩, List.mem_of_getElem? (i := 643) (by decide +kernel), List.mem_of_getElem? (i := 783) (by decide +kernel), List.mem_of_getElem? (i := 784) (by decide +kernel)⟩
theorem lw_p25 : lw_okq (⟨"FeederControlModel", "unlocks", "()V"⟩, 12) := ⟨⟨by decide +kernel, by decide +kernel⟩, List.mem_of_getElem? (i := 643) (by decide +kernel), List.mem_of_getElem? (i := 787) (by decide +kernel), List.mem_of_getElem? (i := 788) (by decide +kernel)⟩
theorem lw_p26 : lw_okq (⟨"FeederControlModel", "hour", "()I"⟩, 12) := ⟨⟨by decide +kernel, by decide +kernel⟩, List.mem_of_getElem? (i := 643) (by decide +kernel), List.mem_of_getElem? (i := 791) (by decide +kernel), List.mem_of_getElem? (i := 792) (by decide +kernel)⟩
theorem lw_p27 : lw_okq (⟨"FeederControlModel", "isTime", "(II)Z"⟩, 12) := ⟨⟨by decide +kernel, by decide +kernel⟩, List.mem_of_getElem? (i := 643) (by decide +kernel), List.mem_of_getElem? (i := 795) (by decide +kernel), List.mem_of_getElem? (i := 796) (by decide +kernel)⟩
theorem lw_p28 : lw_okq (⟨"FeederControlModel", "computeNow", "()V"⟩, 12) := ⟨⟨by decide +kernel, by decide +kernel⟩, List.mem_of_getElem? (i := 643) (by decide +kernel), List.mem_of_getElem? (i := 799) (by decide +kernel), List.mem_of_getElem? (i := 800) (by decide +kernel)⟩
theorem lw_p29 : lw_okq (⟨"FeederControlModel", "compute", "(IZII)V"⟩, 12) := ⟨⟨by decide +kernel, by decide +kernel⟩, List.mem_of_getElem? (i := 643) (by decide +kernel), List.mem_of_getElem? (i := 803) (by decide +kernel), List.mem_of_getElem? (i := 804) (by decide +kernel)⟩
theorem lw_p30 : lw_okq (⟨"FeederControlModel", "switches", "()Z"⟩, 12) := ⟨⟨by decide +kernel, by decide +kernel⟩, List.mem_of_getElem? (i := 643) (by decide +kernel), List.mem_of_getElem? (i := 807) (by decide +kernel), List.mem_of_getElem? (i := 808) (by decide +kernel)⟩
theorem lw_p31 : lw_okq (⟨"FeederControlModel", "regulates", "(Z)Z"⟩, 12) := ⟨⟨by decide +kernel, by decide +kernel⟩, List.mem_of_getElem? (i := 643) (by decide +kernel), List.mem_of_getElem? (i := 811) (by decide +kernel), List.mem_of_getElem? (i := 812) (by decide +kernel)⟩
def lw_privs_2 : List (MethodName × Nat) := [(⟨"FeederControlModel", "put", "(III)V"⟩, 12), (⟨"FeederControlModel", "isNode", "(I)Z"⟩, 12), (⟨"FeederControlModel", "next", "()I"⟩, 12), (⟨"FeederControlModel", "readsItem", "()Z"⟩, 12), (⟨"FeederControlModel", "number", "(II)I"⟩, 12), (⟨"FeederControlModel", "takes", "(I)Z"⟩, 12), (⟨"FeederControlModel", "of", "(II)I"⟩, 12), (⟨"FeederControlModel", "lacks", "(II)I"⟩, 12), (⟨"FeederControlModel", "passes", "()I"⟩, 12), (⟨"FeederControlModel", "unlocks", "()V"⟩, 12), (⟨"FeederControlModel", "hour", "()I"⟩, 12), (⟨"FeederControlModel", "isTime", "(II)Z"⟩, 12), (⟨"FeederControlModel", "computeNow", "()V"⟩, 12), (⟨"FeederControlModel", "compute", "(IZII)V"⟩, 12), (⟨"FeederControlModel", "switches", "()Z"⟩, 12), (⟨"FeederControlModel", "regulates", "(Z)Z"⟩, 12)]
theorem lw_r2 : ∀ q ∈ lw_privs_2, lw_okq q := List.forall_mem_cons.mpr ⟨lw_p16, List.forall_mem_cons.mpr ⟨lw_p17, List.forall_mem_cons.mpr ⟨lw_p18, List.forall_mem_cons.mpr ⟨lw_p19, List.forall_mem_cons.mpr ⟨lw_p20, List.forall_mem_cons.mpr ⟨lw_p21, List.forall_mem_cons.mpr ⟨lw_p22, List.forall_mem_cons.mpr ⟨lw_p23, List.forall_mem_cons.mpr ⟨lw_p24, List.forall_mem_cons.mpr ⟨lw_p25, List.forall_mem_cons.mpr ⟨lw_p26, List.forall_mem_cons.mpr ⟨lw_p27, List.forall_mem_cons.mpr ⟨lw_p28, List.forall_mem_cons.mpr ⟨lw_p29, List.forall_mem_cons.mpr ⟨lw_p30, List.forall_mem_cons.mpr ⟨lw_p31, fun _ h => absurd h List.not_mem_nil⟩⟩⟩⟩⟩⟩⟩⟩⟩⟩⟩⟩⟩⟩⟩⟩
theorem lw_p32 : lw_okq (⟨"FeederControlModel", "wants", "(I)I"⟩, 12) := ⟨⟨by decide +kernel, by decide +kernel⟩, List.mem_of_getElem? (i := 643) (by decide +kernel), List.mem_of_getElem? (i := 815) (by decide +kernel), List.mem_of_getElem? (i := 816) (by decide +kernel)⟩
theorem lw_p33 : lw_okq (⟨"FeederControlModel", "goes", "(II)V"⟩, 12) := ⟨⟨by decide +kernel, by decide +kernel⟩, List.mem_of_getElem? (i := 643) (by decide +kernel), List.mem_of_getElem? (i := 819) (by decide +kernel), List.mem_of_getElem? (i := 820) (by decide +kernel)⟩
theorem lw_p34 : lw_okq (⟨"FeederControlModel", "outside", "()I"⟩, 12) := ⟨⟨by decide +kernel, by decide +kernel⟩, List.mem_of_getElem? (i := 643) (by decide +kernel), List.mem_of_getElem? (i := 823) (by decide +kernel), List.mem_of_getElem? (i := 824) (by decide +kernel)⟩
theorem lw_p35 : lw_okq (⟨"FeederControlModel", "told", "(IIII)I"⟩, 12) := ⟨⟨by decide +kernel, by decide +kernel⟩, List.mem_of_getElem? (i := 643) (by decide +kernel), List.mem_of_getElem? (i := 847) (by decide +kernel), List.mem_of_getElem? (i := 848) (by decide +kernel)⟩
theorem lw_p36 : lw_okq (⟨"FeederControlModel", "lacksPlan", "(I)I"⟩, 12) := ⟨⟨by decide +kernel, by decide +kernel⟩, List.mem_of_getElem? (i := 643) (by decide +kernel), List.mem_of_getElem? (i := 875) (by decide +kernel), List.mem_of_getElem? (i := 876) (by decide +kernel)⟩
theorem lw_p37 : lw_okq (⟨"FeederControlModel", "plans", "(I)Z"⟩, 12) := ⟨⟨by decide +kernel, by decide +kernel⟩, List.mem_of_getElem? (i := 643) (by decide +kernel), List.mem_of_getElem? (i := 879) (by decide +kernel), List.mem_of_getElem? (i := 880) (by decide +kernel)⟩
theorem lw_p38 : lw_okq (⟨"FeederControlModel", "best", "(II)I"⟩, 12) := ⟨⟨by decide +kernel, by decide +kernel⟩, List.mem_of_getElem? (i := 643) (by decide +kernel), List.mem_of_getElem? (i := 883) (by decide +kernel), List.mem_of_getElem? (i := 884) (by decide +kernel)⟩
def lw_privs_3 : List (MethodName × Nat) := [(⟨"FeederControlModel", "wants", "(I)I"⟩, 12), (⟨"FeederControlModel", "goes", "(II)V"⟩, 12), (⟨"FeederControlModel", "outside", "()I"⟩, 12), (⟨"FeederControlModel", "told", "(IIII)I"⟩, 12), (⟨"FeederControlModel", "lacksPlan", "(I)I"⟩, 12), (⟨"FeederControlModel", "plans", "(I)Z"⟩, 12), (⟨"FeederControlModel", "best", "(II)I"⟩, 12)]
theorem lw_r3 : ∀ q ∈ lw_privs_3, lw_okq q := List.forall_mem_cons.mpr ⟨lw_p32, List.forall_mem_cons.mpr ⟨lw_p33, List.forall_mem_cons.mpr ⟨lw_p34, List.forall_mem_cons.mpr ⟨lw_p35, List.forall_mem_cons.mpr ⟨lw_p36, List.forall_mem_cons.mpr ⟨lw_p37, List.forall_mem_cons.mpr ⟨lw_p38, fun _ h => absurd h List.not_mem_nil⟩⟩⟩⟩⟩⟩⟩
def lw_privs : List (MethodName × Nat) := lw_privs_1 ++ (lw_privs_2 ++ (lw_privs_3))
def lw_tbl : List Cond := k2_sels lw_privs ++ tables_1
theorem lw_privs_ok : ∀ q ∈ lw_privs, lw_okq q := by
  show ∀ q ∈ lw_privs_1 ++ (lw_privs_2 ++ (lw_privs_3)), lw_okq q
  exact List.forall_mem_append.mpr ⟨lw_r1, List.forall_mem_append.mpr ⟨lw_r2, lw_r3⟩⟩
def RX0 : String := "FeederControl$Bank"
def TX0 : u_T := fun k => match k with
  | 0 => ("FeederControl$Bank", "present", "Z", false)
  | 1 => ("FeederControl$Bank", "size", "I", false)
  | 2 => ("FeederControl$Bank", "mode", "I", false)
  | 3 => ("FeederControl$Bank", "a", "I", false)
  | 4 => ("FeederControl$Bank", "b", "I", false)
  | 5 => ("FeederControl$Bank", "delay", "I", false)
  | 6 => ("FeederControl$Bank", "on", "Z", false)
  | _ => ("FeederControl$Bank", "timer", "I", false)
def tyX0 : Nat → FieldType := fun k => match k with
  | 0 => .boolean
  | 1 => .int
  | 2 => .int
  | 3 => .int
  | 4 => .int
  | 5 => .int
  | 6 => .boolean
  | _ => .int
abbrev wsX00 : List Cond := u_ws RX0 TX0 8
theorem nmX0 : ∀ a, a < 8 → ∀ b, b < 8 → a ≠ b → (TX0 a).2.1 ≠ (TX0 b).2.1 := by decide +kernel
theorem tyX0_ok : ∀ k, k < 8 → parseFieldDescriptor (TX0 k).2.2.1 = some (tyX0 k) := by decide +kernel
abbrev cX0_init : ByteArray := prog_2_method_1_code
def yX0_init : MethodName := ⟨RX0, "<init>", "()V"⟩
abbrev cX0_copyFrom : ByteArray := prog_2_method_2_code
def yX0_copyFrom : MethodName := ⟨RX0, "copyFrom", "(LFeederControl$Bank;)V"⟩
abbrev cX0_isByTime : ByteArray := prog_2_method_3_code
def yX0_isByTime : MethodName := ⟨RX0, "isByTime", "()Z"⟩
abbrev cX0_isByFlow : ByteArray := prog_2_method_4_code
def yX0_isByFlow : MethodName := ⟨RX0, "isByFlow", "()Z"⟩
abbrev cX0_isOnByTime : ByteArray := prog_2_method_5_code
def yX0_isOnByTime : MethodName := ⟨RX0, "isOnByTime", "(I)Z"⟩
abbrev cX0_supply : ByteArray := prog_2_method_6_code
def yX0_supply : MethodName := ⟨RX0, "supply", "(IZ)I"⟩
abbrev cX0_countMinute : ByteArray := prog_2_method_7_code
def yX0_countMinute : MethodName := ⟨RX0, "countMinute", "(I)V"⟩
abbrev cX0_isDue : ByteArray := prog_2_method_8_code
def yX0_isDue : MethodName := ⟨RX0, "isDue", "()Z"⟩
abbrev cX0_change : ByteArray := prog_2_method_9_code
def yX0_change : MethodName := ⟨RX0, "change", "()V"⟩
def RX1 : String := "FeederControl$Feeder"
def TX1 : u_T := fun k => match k with
  | 0 => ("FeederControl$Feeder", "minutes", "I", false)
  | 1 => ("FeederControl$Feeder", "source", "I", false)
  | 2 => ("FeederControl$Feeder", "count", "I", false)
  | 3 => ("FeederControl$Feeder", "violations", "I", false)
  | 4 => ("FeederControl$Feeder", "factors", "[I", true)
  | _ => ("FeederControl$Feeder", "nodes", "[LFeederControl$Node;", true)
def tyX1 : Nat → FieldType := fun k => match k with
  | 0 => .int
  | 1 => .int
  | 2 => .int
  | 3 => .int
  | 4 => .array .int
  | _ => .array (.object "FeederControl$Node")
abbrev wsX10 : List Cond := u_ws RX1 TX1 6
theorem nmX1 : ∀ a, a < 6 → ∀ b, b < 6 → a ≠ b → (TX1 a).2.1 ≠ (TX1 b).2.1 := by decide +kernel
theorem tyX1_ok : ∀ k, k < 6 → parseFieldDescriptor (TX1 k).2.2.1 = some (tyX1 k) := by decide +kernel
abbrev cX1_init : ByteArray := prog_3_method_1_code
def yX1_init : MethodName := ⟨RX1, "<init>", "()V"⟩
abbrev cX1_copyFrom : ByteArray := prog_3_method_2_code
def yX1_copyFrom : MethodName := ⟨RX1, "copyFrom", "(LFeederControl$Feeder;)V"⟩
abbrev cX1_hour : ByteArray := prog_3_method_3_code
def yX1_hour : MethodName := ⟨RX1, "hour", "()I"⟩
abbrev cX1_releaseLocks : ByteArray := prog_3_method_4_code
def yX1_releaseLocks : MethodName := ⟨RX1, "releaseLocks", "()V"⟩
abbrev cX1_switchBanksByTime : ByteArray := prog_3_method_5_code
def yX1_switchBanksByTime : MethodName := ⟨RX1, "switchBanksByTime", "()V"⟩
abbrev cX1_switchBankByFlow : ByteArray := prog_3_method_6_code
def yX1_switchBankByFlow : MethodName := ⟨RX1, "switchBankByFlow", "(LFeederControl$Flows;)Z"⟩
abbrev cX1_moveRegulators : ByteArray := prog_3_method_7_code
def yX1_moveRegulators : MethodName := ⟨RX1, "moveRegulators", "(LFeederControl$Flows;Z)Z"⟩
def RX2 : String := "FeederControl$Flows"
def TX2 : u_T := fun k => match k with
  | 0 => ("FeederControl$Flows", "active", "[I", true)
  | 1 => ("FeederControl$Flows", "reactive", "[I", true)
  | _ => ("FeederControl$Flows", "voltage", "[I", true)
def tyX2 : Nat → FieldType := fun k => match k with
  | 0 => .array .int
  | 1 => .array .int
  | _ => .array .int
abbrev wsX20 : List Cond := u_ws RX2 TX2 3
theorem nmX2 : ∀ a, a < 3 → ∀ b, b < 3 → a ≠ b → (TX2 a).2.1 ≠ (TX2 b).2.1 := by decide +kernel
theorem tyX2_ok : ∀ k, k < 3 → parseFieldDescriptor (TX2 k).2.2.1 = some (tyX2 k) := by decide +kernel
abbrev cX2_init : ByteArray := prog_4_method_1_code
def yX2_init : MethodName := ⟨RX2, "<init>", "()V"⟩
abbrev cX2_solve : ByteArray := prog_4_method_2_code
def yX2_solve : MethodName := ⟨RX2, "solve", "(LFeederControl$Feeder;)V"⟩
abbrev cX2_sumLoads : ByteArray := prog_4_method_3_code
def yX2_sumLoads : MethodName := ⟨RX2, "sumLoads", "(LFeederControl$Feeder;IZ)V"⟩
abbrev cX2_findVoltages : ByteArray := prog_4_method_4_code
def yX2_findVoltages : MethodName := ⟨RX2, "findVoltages", "(LFeederControl$Feeder;II)V"⟩
abbrev cX2_countBadNodes : ByteArray := prog_4_method_5_code
def yX2_countBadNodes : MethodName := ⟨RX2, "countBadNodes", "(I)I"⟩
def RX3 : String := "FeederControl$History"
def TX3 : u_T := fun k => match k with
  | 0 => ("FeederControl$History", "saved", "[LFeederControl$Feeder;", true)
  | _ => ("FeederControl$History", "count", "I", false)
def tyX3 : Nat → FieldType := fun k => match k with
  | 0 => .array (.object "FeederControl$Feeder")
  | _ => .int
abbrev wsX30 : List Cond := u_ws RX3 TX3 2
theorem nmX3 : ∀ a, a < 2 → ∀ b, b < 2 → a ≠ b → (TX3 a).2.1 ≠ (TX3 b).2.1 := by decide +kernel
theorem tyX3_ok : ∀ k, k < 2 → parseFieldDescriptor (TX3 k).2.2.1 = some (tyX3 k) := by decide +kernel
abbrev cX3_init : ByteArray := prog_5_method_1_code
def yX3_init : MethodName := ⟨RX3, "<init>", "()V"⟩
abbrev cX3_save : ByteArray := prog_5_method_2_code
def yX3_save : MethodName := ⟨RX3, "save", "(LFeederControl$Feeder;)V"⟩
abbrev cX3_dropOldest : ByteArray := prog_5_method_3_code
def yX3_dropOldest : MethodName := ⟨RX3, "dropOldest", "()V"⟩
abbrev cX3_restore : ByteArray := prog_5_method_4_code
def yX3_restore : MethodName := ⟨RX3, "restore", "(LFeederControl$Feeder;)V"⟩
def RX4 : String := "FeederControl$Node"
def TX4 : u_T := fun k => match k with
  | 0 => ("FeederControl$Node", "r", "I", false)
  | 1 => ("FeederControl$Node", "x", "I", false)
  | 2 => ("FeederControl$Node", "p", "I", false)
  | 3 => ("FeederControl$Node", "q", "I", false)
  | 4 => ("FeederControl$Node", "regulator", "LFeederControl$Regulator;", true)
  | _ => ("FeederControl$Node", "bank", "LFeederControl$Bank;", true)
def tyX4 : Nat → FieldType := fun k => match k with
  | 0 => .int
  | 1 => .int
  | 2 => .int
  | 3 => .int
  | 4 => .object "FeederControl$Regulator"
  | _ => .object "FeederControl$Bank"
abbrev wsX40 : List Cond := u_ws RX4 TX4 6
theorem nmX4 : ∀ a, a < 6 → ∀ b, b < 6 → a ≠ b → (TX4 a).2.1 ≠ (TX4 b).2.1 := by decide +kernel
theorem tyX4_ok : ∀ k, k < 6 → parseFieldDescriptor (TX4 k).2.2.1 = some (tyX4 k) := by decide +kernel
abbrev cX4_init : ByteArray := prog_6_method_1_code
def yX4_init : MethodName := ⟨RX4, "<init>", "()V"⟩
abbrev cX4_copyFrom : ByteArray := prog_6_method_2_code
def yX4_copyFrom : MethodName := ⟨RX4, "copyFrom", "(LFeederControl$Node;)V"⟩
def RX5 : String := "FeederControl$Planner"
def TX5 : u_T := fun k => match k with
  | 0 => ("FeederControl$Planner", "flows", "LFeederControl$Flows;", true)
  | 1 => ("FeederControl$Planner", "stepsAfter", "[[I", true)
  | 2 => ("FeederControl$Planner", "stepsFrom", "[I", true)
  | 3 => ("FeederControl$Planner", "taps", "[I", true)
  | _ => ("FeederControl$Planner", "steps", "I", false)
def tyX5 : Nat → FieldType := fun k => match k with
  | 0 => .object "FeederControl$Flows"
  | 1 => .array (.array .int)
  | 2 => .array .int
  | 3 => .array .int
  | _ => .int
abbrev wsX50 : List Cond := u_ws RX5 TX5 5
theorem nmX5 : ∀ a, a < 5 → ∀ b, b < 5 → a ≠ b → (TX5 a).2.1 ≠ (TX5 b).2.1 := by decide +kernel
theorem tyX5_ok : ∀ k, k < 5 → parseFieldDescriptor (TX5 k).2.2.1 = some (tyX5 k) := by decide +kernel
abbrev cX5_init : ByteArray := prog_7_method_1_code
def yX5_init : MethodName := ⟨RX5, "<init>", "()V"⟩
abbrev cX5_makePlan : ByteArray := prog_7_method_2_code
def yX5_makePlan : MethodName := ⟨RX5, "makePlan", "(LFeederControl$Feeder;I)Z"⟩
abbrev cX5_countStepsAfter : ByteArray := prog_7_method_3_code
def yX5_countStepsAfter : MethodName := ⟨RX5, "countStepsAfter", "(LFeederControl$Feeder;II)V"⟩
abbrev cX5_countStepsFrom : ByteArray := prog_7_method_4_code
def yX5_countStepsFrom : MethodName := ⟨RX5, "countStepsFrom", "(I)V"⟩
abbrev cX5_chooseTaps : ByteArray := prog_7_method_5_code
def yX5_chooseTaps : MethodName := ⟨RX5, "chooseTaps", "(I)V"⟩
def RX6 : String := "FeederControl$ProfileText"
def TX6 : u_T := fun k => match k with
  | 0 => ("FeederControl$ProfileText", "bytes", "[B", true)
  | 1 => ("FeederControl$ProfileText", "length", "I", false)
  | 2 => ("FeederControl$ProfileText", "at", "I", false)
  | _ => ("FeederControl$ProfileText", "fault", "I", false)
def tyX6 : Nat → FieldType := fun k => match k with
  | 0 => .array .byte
  | 1 => .int
  | 2 => .int
  | _ => .int
abbrev wsX60 : List Cond := u_ws RX6 TX6 4
theorem nmX6 : ∀ a, a < 4 → ∀ b, b < 4 → a ≠ b → (TX6 a).2.1 ≠ (TX6 b).2.1 := by decide +kernel
theorem tyX6_ok : ∀ k, k < 4 → parseFieldDescriptor (TX6 k).2.2.1 = some (tyX6 k) := by decide +kernel
abbrev cX6_init : ByteArray := prog_8_method_1_code
def yX6_init : MethodName := ⟨RX6, "<init>", "()V"⟩
abbrev cX6_readItems : ByteArray := prog_8_method_2_code
def yX6_readItems : MethodName := ⟨RX6, "readItems", "([I)I"⟩
abbrev cX6_readItem : ByteArray := prog_8_method_3_code
def yX6_readItem : MethodName := ⟨RX6, "readItem", "([I)V"⟩
abbrev cX6_readNumber : ByteArray := prog_8_method_4_code
def yX6_readNumber : MethodName := ⟨RX6, "readNumber", "(II)I"⟩
abbrev cX6_isNext : ByteArray := prog_8_method_5_code
def yX6_isNext : MethodName := ⟨RX6, "isNext", "(C)Z"⟩
abbrev cX6_expect : ByteArray := prog_8_method_6_code
def yX6_expect : MethodName := ⟨RX6, "expect", "(C)V"⟩
abbrev cX6_skipSpaces : ByteArray := prog_8_method_7_code
def yX6_skipSpaces : MethodName := ⟨RX6, "skipSpaces", "()V"⟩
def RX7 : String := "FeederControl$Regulator"
def TX7 : u_T := fun k => match k with
  | 0 => ("FeederControl$Regulator", "present", "Z", false)
  | 1 => ("FeederControl$Regulator", "center", "I", false)
  | 2 => ("FeederControl$Regulator", "band", "I", false)
  | 3 => ("FeederControl$Regulator", "delay", "I", false)
  | 4 => ("FeederControl$Regulator", "stopsOnReverse", "Z", false)
  | 5 => ("FeederControl$Regulator", "tap", "I", false)
  | 6 => ("FeederControl$Regulator", "timer", "I", false)
  | 7 => ("FeederControl$Regulator", "steps", "I", false)
  | 8 => ("FeederControl$Regulator", "locked", "Z", false)
  | 9 => ("FeederControl$Regulator", "wanted", "I", false)
  | 10 => ("FeederControl$Regulator", "latest", "I", false)
  | _ => ("FeederControl$Regulator", "oppositeSteps", "I", false)
def tyX7 : Nat → FieldType := fun k => match k with
  | 0 => .boolean
  | 1 => .int
  | 2 => .int
  | 3 => .int
  | 4 => .boolean
  | 5 => .int
  | 6 => .int
  | 7 => .int
  | 8 => .boolean
  | 9 => .int
  | 10 => .int
  | _ => .int
abbrev wsX70 : List Cond := u_ws RX7 TX7 12
theorem nmX7 : ∀ a, a < 12 → ∀ b, b < 12 → a ≠ b → (TX7 a).2.1 ≠ (TX7 b).2.1 := by decide +kernel
theorem tyX7_ok : ∀ k, k < 12 → parseFieldDescriptor (TX7 k).2.2.1 = some (tyX7 k) := by decide +kernel
abbrev cX7_init : ByteArray := prog_9_method_1_code
def yX7_init : MethodName := ⟨RX7, "<init>", "()V"⟩
abbrev cX7_copyFrom : ByteArray := prog_9_method_2_code
def yX7_copyFrom : MethodName := ⟨RX7, "copyFrom", "(LFeederControl$Regulator;)V"⟩
abbrev cX7_release : ByteArray := prog_9_method_3_code
def yX7_release : MethodName := ⟨RX7, "release", "()V"⟩
abbrev cX7_wantedDirection : ByteArray := prog_9_method_4_code
def yX7_wantedDirection : MethodName := ⟨RX7, "wantedDirection", "(II)I"⟩
abbrev cX7_countMinute : ByteArray := prog_9_method_5_code
def yX7_countMinute : MethodName := ⟨RX7, "countMinute", "(I)V"⟩
abbrev cX7_isDue : ByteArray := prog_9_method_6_code
def yX7_isDue : MethodName := ⟨RX7, "isDue", "()Z"⟩
abbrev cX7_makeStep : ByteArray := prog_9_method_7_code
def yX7_makeStep : MethodName := ⟨RX7, "makeStep", "()V"⟩
def RX8 : String := "FeederControl"
def TX8 : u_T := fun k => match k with
  | 0 => ("FeederControl", "feeder", "LFeederControl$Feeder;", true)
  | 1 => ("FeederControl", "flows", "LFeederControl$Flows;", true)
  | 2 => ("FeederControl", "planner", "LFeederControl$Planner;", true)
  | 3 => ("FeederControl", "text", "LFeederControl$ProfileText;", true)
  | 4 => ("FeederControl", "history", "LFeederControl$History;", true)
  | 5 => ("FeederControl", "newFactors", "[I", true)
  | _ => ("FeederControl", "errorCounts", "[I", true)
def tyX8 : Nat → FieldType := fun k => match k with
  | 0 => .object "FeederControl$Feeder"
  | 1 => .object "FeederControl$Flows"
  | 2 => .object "FeederControl$Planner"
  | 3 => .object "FeederControl$ProfileText"
  | 4 => .object "FeederControl$History"
  | 5 => .array .int
  | _ => .array .int
abbrev wsX80 : List Cond := u_ws RX8 TX8 7
theorem nmX8 : ∀ a, a < 7 → ∀ b, b < 7 → a ≠ b → (TX8 a).2.1 ≠ (TX8 b).2.1 := by decide +kernel
theorem tyX8_ok : ∀ k, k < 7 → parseFieldDescriptor (TX8 k).2.2.1 = some (tyX8 k) := by decide +kernel
abbrev cX8_init : ByteArray := prog_1_method_1_code
def yX8_init : MethodName := ⟨RX8, "<init>", "()V"⟩
abbrev cX8_setSource : ByteArray := prog_1_method_2_code
def yX8_setSource : MethodName := ⟨RX8, "setSource", "(I)I"⟩
abbrev cX8_addNode : ByteArray := prog_1_method_3_code
def yX8_addNode : MethodName := ⟨RX8, "addNode", "(IIII)I"⟩
abbrev cX8_setLoad : ByteArray := prog_1_method_4_code
def yX8_setLoad : MethodName := ⟨RX8, "setLoad", "(III)I"⟩
abbrev cX8_setFactor : ByteArray := prog_1_method_5_code
def yX8_setFactor : MethodName := ⟨RX8, "setFactor", "(II)I"⟩
abbrev cX8_append : ByteArray := prog_1_method_6_code
def yX8_append : MethodName := ⟨RX8, "append", "(I)I"⟩
abbrev cX8_clearText : ByteArray := prog_1_method_7_code
def yX8_clearText : MethodName := ⟨RX8, "clearText", "()I"⟩
abbrev cX8_parseProfile : ByteArray := prog_1_method_8_code
def yX8_parseProfile : MethodName := ⟨RX8, "parseProfile", "()I"⟩
abbrev cX8_addRegulator : ByteArray := prog_1_method_9_code
def yX8_addRegulator : MethodName := ⟨RX8, "addRegulator", "(IIIII)I"⟩
abbrev cX8_setTap : ByteArray := prog_1_method_10_code
def yX8_setTap : MethodName := ⟨RX8, "setTap", "(II)I"⟩
abbrev cX8_addBank : ByteArray := prog_1_method_11_code
def yX8_addBank : MethodName := ⟨RX8, "addBank", "(IIIIII)I"⟩
abbrev cX8_switchBank : ByteArray := prog_1_method_12_code
def yX8_switchBank : MethodName := ⟨RX8, "switchBank", "(II)I"⟩
abbrev cX8_run : ByteArray := prog_1_method_13_code
def yX8_run : MethodName := ⟨RX8, "run", "(I)I"⟩
abbrev cX8_minute : ByteArray := prog_1_method_14_code
def yX8_minute : MethodName := ⟨RX8, "minute", "()I"⟩
abbrev cX8_passMinute : ByteArray := prog_1_method_15_code
def yX8_passMinute : MethodName := ⟨RX8, "passMinute", "()Z"⟩
abbrev cX8_voltage : ByteArray := prog_1_method_16_code
def yX8_voltage : MethodName := ⟨RX8, "voltage", "(I)I"⟩
abbrev cX8_activeFlow : ByteArray := prog_1_method_17_code
def yX8_activeFlow : MethodName := ⟨RX8, "activeFlow", "(I)I"⟩
abbrev cX8_reactiveFlow : ByteArray := prog_1_method_18_code
def yX8_reactiveFlow : MethodName := ⟨RX8, "reactiveFlow", "(I)I"⟩
abbrev cX8_tap : ByteArray := prog_1_method_19_code
def yX8_tap : MethodName := ⟨RX8, "tap", "(I)I"⟩
abbrev cX8_timer : ByteArray := prog_1_method_20_code
def yX8_timer : MethodName := ⟨RX8, "timer", "(I)I"⟩
abbrev cX8_isLocked : ByteArray := prog_1_method_21_code
def yX8_isLocked : MethodName := ⟨RX8, "isLocked", "(I)I"⟩
abbrev cX8_steps : ByteArray := prog_1_method_22_code
def yX8_steps : MethodName := ⟨RX8, "steps", "(I)I"⟩
abbrev cX8_isOn : ByteArray := prog_1_method_23_code
def yX8_isOn : MethodName := ⟨RX8, "isOn", "(I)I"⟩
abbrev cX8_violations : ByteArray := prog_1_method_24_code
def yX8_violations : MethodName := ⟨RX8, "violations", "()I"⟩
abbrev cX8_planSteps : ByteArray := prog_1_method_25_code
def yX8_planSteps : MethodName := ⟨RX8, "planSteps", "(I)I"⟩
abbrev cX8_planTap : ByteArray := prog_1_method_26_code
def yX8_planTap : MethodName := ⟨RX8, "planTap", "(II)I"⟩
abbrev cX8_undo : ByteArray := prog_1_method_27_code
def yX8_undo : MethodName := ⟨RX8, "undo", "()I"⟩
abbrev cX8_errorCount : ByteArray := prog_1_method_28_code
def yX8_errorCount : MethodName := ⟨RX8, "errorCount", "(I)I"⟩
abbrev cX8_digest : ByteArray := prog_1_method_29_code
def yX8_digest : MethodName := ⟨RX8, "digest", "()J"⟩
abbrev cX8_mixRegulator : ByteArray := prog_1_method_30_code
def yX8_mixRegulator : MethodName := ⟨RX8, "mixRegulator", "(JLFeederControl$Regulator;)J"⟩
abbrev cX8_mixBank : ByteArray := prog_1_method_31_code
def yX8_mixBank : MethodName := ⟨RX8, "mixBank", "(JLFeederControl$Bank;)J"⟩
abbrev cX8_mix : ByteArray := prog_1_method_32_code
def yX8_mix : MethodName := ⟨RX8, "mix", "(JI)J"⟩
abbrev cX8_isWithin : ByteArray := prog_1_method_33_code
def yX8_isWithin : MethodName := ⟨RX8, "isWithin", "(III)Z"⟩
abbrev cX8_isHour : ByteArray := prog_1_method_34_code
def yX8_isHour : MethodName := ⟨RX8, "isHour", "(I)Z"⟩
abbrev cX8_isLoad : ByteArray := prog_1_method_35_code
def yX8_isLoad : MethodName := ⟨RX8, "isLoad", "(II)Z"⟩
abbrev cX8_areBankSettings : ByteArray := prog_1_method_36_code
def yX8_areBankSettings : MethodName := ⟨RX8, "areBankSettings", "(III)Z"⟩
abbrev cX8_bit : ByteArray := prog_1_method_37_code
def yX8_bit : MethodName := ⟨RX8, "bit", "(Z)I"⟩
abbrev cX8_hasNode : ByteArray := prog_1_method_38_code
def yX8_hasNode : MethodName := ⟨RX8, "hasNode", "(I)Z"⟩
abbrev cX8_regulatorFault : ByteArray := prog_1_method_39_code
def yX8_regulatorFault : MethodName := ⟨RX8, "regulatorFault", "(I)I"⟩
abbrev cX8_bankFault : ByteArray := prog_1_method_40_code
def yX8_bankFault : MethodName := ⟨RX8, "bankFault", "(I)I"⟩
abbrev cX8_isErrorCode : ByteArray := prog_1_method_41_code
def yX8_isErrorCode : MethodName := ⟨RX8, "isErrorCode", "(I)Z"⟩
abbrev cX8_refuse : ByteArray := prog_1_method_42_code
def yX8_refuse : MethodName := ⟨RX8, "refuse", "(I)I"⟩
def RX9 : String := "FeederControlModel"
def TX9 : u_T := fun k => match k with
  | 0 => ("FeederControlModel", "w", "[I", true)
  | 1 => ("FeederControlModel", "past", "[I", true)
  | 2 => ("FeederControlModel", "saved", "I", false)
  | 3 => ("FeederControlModel", "text", "[I", true)
  | 4 => ("FeederControlModel", "length", "I", false)
  | 5 => ("FeederControlModel", "errors", "[I", true)
  | 6 => ("FeederControlModel", "active", "[I", true)
  | 7 => ("FeederControlModel", "reactive", "[I", true)
  | 8 => ("FeederControlModel", "volts", "[I", true)
  | 9 => ("FeederControlModel", "at", "I", false)
  | 10 => ("FeederControlModel", "read", "[I", true)
  | _ => ("FeederControlModel", "fewest", "[I", true)
def tyX9 : Nat → FieldType := fun k => match k with
  | 0 => .array .int
  | 1 => .array .int
  | 2 => .int
  | 3 => .array .int
  | 4 => .int
  | 5 => .array .int
  | 6 => .array .int
  | 7 => .array .int
  | 8 => .array .int
  | 9 => .int
  | 10 => .array .int
  | _ => .array .int
abbrev wsX90 : List Cond := u_ws RX9 TX9 12
theorem nmX9 : ∀ a, a < 12 → ∀ b, b < 12 → a ≠ b → (TX9 a).2.1 ≠ (TX9 b).2.1 := by decide +kernel
theorem tyX9_ok : ∀ k, k < 12 → parseFieldDescriptor (TX9 k).2.2.1 = some (tyX9 k) := by decide +kernel
abbrev cX9_init : ByteArray := prog_11_method_1_code
def yX9_init : MethodName := ⟨RX9, "<init>", "()V"⟩
abbrev cX9_in : ByteArray := prog_11_method_3_code
def yX9_in : MethodName := ⟨RX9, "in", "(III)Z"⟩
abbrev cX9_error : ByteArray := prog_11_method_4_code
def yX9_error : MethodName := ⟨RX9, "error", "(I)I"⟩
abbrev cX9_isNode : ByteArray := prog_11_method_5_code
def yX9_isNode : MethodName := ⟨RX9, "isNode", "(I)Z"⟩
abbrev cX9_spot : ByteArray := prog_11_method_6_code
def yX9_spot : MethodName := ⟨RX9, "spot", "(II)I"⟩
abbrev cX9_of : ByteArray := prog_11_method_7_code
def yX9_of : MethodName := ⟨RX9, "of", "(II)I"⟩
abbrev cX9_put : ByteArray := prog_11_method_8_code
def yX9_put : MethodName := ⟨RX9, "put", "(III)V"⟩
abbrev cX9_save : ByteArray := prog_11_method_9_code
def yX9_save : MethodName := ⟨RX9, "save", "()V"⟩
abbrev cX9_setSource : ByteArray := prog_11_method_10_code
def yX9_setSource : MethodName := ⟨RX9, "setSource", "(I)I"⟩
abbrev cX9_isLoad : ByteArray := prog_11_method_11_code
def yX9_isLoad : MethodName := ⟨RX9, "isLoad", "(II)Z"⟩
abbrev cX9_addNode : ByteArray := prog_11_method_12_code
def yX9_addNode : MethodName := ⟨RX9, "addNode", "(IIII)I"⟩
abbrev cX9_setLoad : ByteArray := prog_11_method_13_code
def yX9_setLoad : MethodName := ⟨RX9, "setLoad", "(III)I"⟩
abbrev cX9_setFactor : ByteArray := prog_11_method_14_code
def yX9_setFactor : MethodName := ⟨RX9, "setFactor", "(II)I"⟩
abbrev cX9_append : ByteArray := prog_11_method_15_code
def yX9_append : MethodName := ⟨RX9, "append", "(I)I"⟩
abbrev cX9_clearText : ByteArray := prog_11_method_16_code
def yX9_clearText : MethodName := ⟨RX9, "clearText", "()I"⟩
abbrev cX9_next : ByteArray := prog_11_method_17_code
def yX9_next : MethodName := ⟨RX9, "next", "()I"⟩
abbrev cX9_takes : ByteArray := prog_11_method_18_code
def yX9_takes : MethodName := ⟨RX9, "takes", "(I)Z"⟩
abbrev cX9_number : ByteArray := prog_11_method_19_code
def yX9_number : MethodName := ⟨RX9, "number", "(II)I"⟩
abbrev cX9_readsItem : ByteArray := prog_11_method_20_code
def yX9_readsItem : MethodName := ⟨RX9, "readsItem", "()Z"⟩
abbrev cX9_parseProfile : ByteArray := prog_11_method_21_code
def yX9_parseProfile : MethodName := ⟨RX9, "parseProfile", "()I"⟩
abbrev cX9_addRegulator : ByteArray := prog_11_method_22_code
def yX9_addRegulator : MethodName := ⟨RX9, "addRegulator", "(IIIII)I"⟩
abbrev cX9_lacks : ByteArray := prog_11_method_23_code
def yX9_lacks : MethodName := ⟨RX9, "lacks", "(II)I"⟩
abbrev cX9_setTap : ByteArray := prog_11_method_24_code
def yX9_setTap : MethodName := ⟨RX9, "setTap", "(II)I"⟩
abbrev cX9_addBank : ByteArray := prog_11_method_25_code
def yX9_addBank : MethodName := ⟨RX9, "addBank", "(IIIIII)I"⟩
abbrev cX9_switchBank : ByteArray := prog_11_method_26_code
def yX9_switchBank : MethodName := ⟨RX9, "switchBank", "(II)I"⟩
abbrev cX9_hour : ByteArray := prog_11_method_27_code
def yX9_hour : MethodName := ⟨RX9, "hour", "()I"⟩
abbrev cX9_isTime : ByteArray := prog_11_method_28_code
def yX9_isTime : MethodName := ⟨RX9, "isTime", "(II)Z"⟩
abbrev cX9_compute : ByteArray := prog_11_method_29_code
def yX9_compute : MethodName := ⟨RX9, "compute", "(IZII)V"⟩
abbrev cX9_outside : ByteArray := prog_11_method_30_code
def yX9_outside : MethodName := ⟨RX9, "outside", "()I"⟩
abbrev cX9_computeNow : ByteArray := prog_11_method_31_code
def yX9_computeNow : MethodName := ⟨RX9, "computeNow", "()V"⟩
abbrev cX9_unlocks : ByteArray := prog_11_method_32_code
def yX9_unlocks : MethodName := ⟨RX9, "unlocks", "()V"⟩
abbrev cX9_switches : ByteArray := prog_11_method_33_code
def yX9_switches : MethodName := ⟨RX9, "switches", "()Z"⟩
abbrev cX9_wants : ByteArray := prog_11_method_34_code
def yX9_wants : MethodName := ⟨RX9, "wants", "(I)I"⟩
abbrev cX9_goes : ByteArray := prog_11_method_35_code
def yX9_goes : MethodName := ⟨RX9, "goes", "(II)V"⟩
abbrev cX9_regulates : ByteArray := prog_11_method_36_code
def yX9_regulates : MethodName := ⟨RX9, "regulates", "(Z)Z"⟩
abbrev cX9_passes : ByteArray := prog_11_method_37_code
def yX9_passes : MethodName := ⟨RX9, "passes", "()I"⟩
abbrev cX9_run : ByteArray := prog_11_method_38_code
def yX9_run : MethodName := ⟨RX9, "run", "(I)I"⟩
abbrev cX9_minute : ByteArray := prog_11_method_39_code
def yX9_minute : MethodName := ⟨RX9, "minute", "()I"⟩
abbrev cX9_voltage : ByteArray := prog_11_method_40_code
def yX9_voltage : MethodName := ⟨RX9, "voltage", "(I)I"⟩
abbrev cX9_activeFlow : ByteArray := prog_11_method_41_code
def yX9_activeFlow : MethodName := ⟨RX9, "activeFlow", "(I)I"⟩
abbrev cX9_reactiveFlow : ByteArray := prog_11_method_42_code
def yX9_reactiveFlow : MethodName := ⟨RX9, "reactiveFlow", "(I)I"⟩
abbrev cX9_told : ByteArray := prog_11_method_43_code
def yX9_told : MethodName := ⟨RX9, "told", "(IIII)I"⟩
abbrev cX9_tap : ByteArray := prog_11_method_44_code
def yX9_tap : MethodName := ⟨RX9, "tap", "(I)I"⟩
abbrev cX9_timer : ByteArray := prog_11_method_45_code
def yX9_timer : MethodName := ⟨RX9, "timer", "(I)I"⟩
abbrev cX9_isLocked : ByteArray := prog_11_method_46_code
def yX9_isLocked : MethodName := ⟨RX9, "isLocked", "(I)I"⟩
abbrev cX9_steps : ByteArray := prog_11_method_47_code
def yX9_steps : MethodName := ⟨RX9, "steps", "(I)I"⟩
abbrev cX9_isOn : ByteArray := prog_11_method_48_code
def yX9_isOn : MethodName := ⟨RX9, "isOn", "(I)I"⟩
abbrev cX9_violations : ByteArray := prog_11_method_49_code
def yX9_violations : MethodName := ⟨RX9, "violations", "()I"⟩
abbrev cX9_apart : ByteArray := prog_11_method_50_code
def yX9_apart : MethodName := ⟨RX9, "apart", "(II)I"⟩
abbrev cX9_best : ByteArray := prog_11_method_51_code
def yX9_best : MethodName := ⟨RX9, "best", "(II)I"⟩
abbrev cX9_plans : ByteArray := prog_11_method_52_code
def yX9_plans : MethodName := ⟨RX9, "plans", "(I)Z"⟩
abbrev cX9_lacksPlan : ByteArray := prog_11_method_53_code
def yX9_lacksPlan : MethodName := ⟨RX9, "lacksPlan", "(I)I"⟩
abbrev cX9_planSteps : ByteArray := prog_11_method_54_code
def yX9_planSteps : MethodName := ⟨RX9, "planSteps", "(I)I"⟩
abbrev cX9_planTap : ByteArray := prog_11_method_55_code
def yX9_planTap : MethodName := ⟨RX9, "planTap", "(II)I"⟩
abbrev cX9_undo : ByteArray := prog_11_method_56_code
def yX9_undo : MethodName := ⟨RX9, "undo", "()I"⟩
abbrev cX9_errorCount : ByteArray := prog_11_method_57_code
def yX9_errorCount : MethodName := ⟨RX9, "errorCount", "(I)I"⟩
abbrev cX9_mixed : ByteArray := prog_11_method_58_code
def yX9_mixed : MethodName := ⟨RX9, "mixed", "(JJ)J"⟩
abbrev cX9_digest : ByteArray := prog_11_method_59_code
def yX9_digest : MethodName := ⟨RX9, "digest", "()J"⟩
def RJ9 : String := "java/lang/Math"
abbrev cJ9_floorMod_7cf53 : ByteArray := prog_12_method_50_code
def yJ9_floorMod_7cf53 : MethodName := ⟨RJ9, "floorMod", "(II)I"⟩
abbrev cJ9_abs_0f7a4 : ByteArray := prog_12_method_59_code
def yJ9_abs_0f7a4 : MethodName := ⟨RJ9, "abs", "(I)I"⟩
abbrev cJ9_max_7cf53 : ByteArray := prog_12_method_65_code
def yJ9_max_7cf53 : MethodName := ⟨RJ9, "max", "(II)I"⟩
abbrev cJ9_min_7cf53 : ByteArray := prog_12_method_69_code
def yJ9_min_7cf53 : MethodName := ⟨RJ9, "min", "(II)I"⟩
abbrev vwCl : List vw_C := [(RX0, TX0, 8), (RX1, TX1, 6), (RX2, TX2, 3), (RX3, TX3, 2), (RX4, TX4, 6), (RX5, TX5, 5), (RX6, TX6, 4), (RX7, TX7, 12), (RX8, TX8, 7), (RX9, TX9, 12)]
set_option maxRecDepth 20000 in
theorem inX0 : ∀ w ∈ u_ws RX0 TX0 8, w ∈ lw_tbl := by decide +kernel
set_option maxRecDepth 20000 in
theorem inX1 : ∀ w ∈ u_ws RX1 TX1 6, w ∈ lw_tbl := by decide +kernel
set_option maxRecDepth 20000 in
theorem inX2 : ∀ w ∈ u_ws RX2 TX2 3, w ∈ lw_tbl := by decide +kernel
set_option maxRecDepth 20000 in
theorem inX3 : ∀ w ∈ u_ws RX3 TX3 2, w ∈ lw_tbl := by decide +kernel
set_option maxRecDepth 20000 in
theorem inX4 : ∀ w ∈ u_ws RX4 TX4 6, w ∈ lw_tbl := by decide +kernel
set_option maxRecDepth 20000 in
theorem inX5 : ∀ w ∈ u_ws RX5 TX5 5, w ∈ lw_tbl := by decide +kernel
set_option maxRecDepth 20000 in
theorem inX6 : ∀ w ∈ u_ws RX6 TX6 4, w ∈ lw_tbl := by decide +kernel
set_option maxRecDepth 20000 in
theorem inX7 : ∀ w ∈ u_ws RX7 TX7 12, w ∈ lw_tbl := by decide +kernel
set_option maxRecDepth 20000 in
theorem inX8 : ∀ w ∈ u_ws RX8 TX8 7, w ∈ lw_tbl := by decide +kernel
set_option maxRecDepth 20000 in
theorem inX9 : ∀ w ∈ u_ws RX9 TX9 12, w ∈ lw_tbl := by decide +kernel
end
section
abbrev e_Op : Type := Nat × Instr × Int32 × Nat × Nat × Nat
def kL_law_156 : List e_Op := [(156, .aload_n 1, 0, 1, 0, 0), (157, .aload_n 0, 0, 0, 0, 0), (158, .iload_n 3, 0, 3, 0, 0), (159, .iconst 1, 1, 0, 0, 0), (160, .iadd, 0, 0, 0, 0), (161, .iaload, 0, 0, 0, 0), (162, .invokevirtual 13, 0, 185, 2, 48), (165, .aload_n 2, 0, 2, 0, 0), (166, .aload_n 0, 0, 0, 0, 0), (167, .iload_n 3, 0, 3, 0, 0), (168, .iconst 1, 1, 0, 0, 0), (169, .iadd, 0, 0, 0, 0), (170, .iaload, 0, 0, 0, 0), (171, .invokevirtual 17, 0, 332, 2, 97), (174, .if_icmp .eq 726, 0, 29, 0, 0), (177, .iconst 0, 0, 0, 0, 0), (178, .ireturn, 0, 1, 0, 0)]
def kL_law_179 : List e_Op := [(179, .aload_n 1, 0, 1, 0, 0), (180, .aload_n 0, 0, 0, 0, 0), (181, .iload_n 3, 0, 3, 0, 0), (182, .iconst 1, 1, 0, 0, 0), (183, .iadd, 0, 0, 0, 0), (184, .iaload, 0, 0, 0, 0), (185, .aload_n 0, 0, 0, 0, 0), (186, .iload_n 3, 0, 3, 0, 0), (187, .iconst 2, 2, 0, 0, 0), (188, .iadd, 0, 0, 0, 0), (189, .iaload, 0, 0, 0, 0), (190, .aload_n 0, 0, 0, 0, 0), (191, .iload_n 3, 0, 3, 0, 0), (192, .iconst 3, 3, 0, 0, 0), (193, .iadd, 0, 0, 0, 0), (194, .iaload, 0, 0, 0, 0), (195, .aload_n 0, 0, 0, 0, 0), (196, .iload_n 3, 0, 3, 0, 0), (197, .iconst 4, 4, 0, 0, 0), (198, .iadd, 0, 0, 0, 0), (199, .iaload, 0, 0, 0, 0), (200, .invokevirtual 18, 0, 187, 5, 49), (203, .aload_n 2, 0, 2, 0, 0), (204, .aload_n 0, 0, 0, 0, 0), (205, .iload_n 3, 0, 3, 0, 0), (206, .iconst 1, 1, 0, 0, 0), (207, .iadd, 0, 0, 0, 0), (208, .iaload, 0, 0, 0, 0), (209, .aload_n 0, 0, 0, 0, 0), (210, .iload_n 3, 0, 3, 0, 0), (211, .iconst 2, 2, 0, 0, 0), (212, .iadd, 0, 0, 0, 0), (213, .iaload, 0, 0, 0, 0), (214, .aload_n 0, 0, 0, 0, 0), (215, .iload_n 3, 0, 3, 0, 0), (216, .iconst 3, 3, 0, 0, 0), (217, .iadd, 0, 0, 0, 0), (218, .iaload, 0, 0, 0, 0), (219, .aload_n 0, 0, 0, 0, 0), (220, .iload_n 3, 0, 3, 0, 0), (221, .iconst 4, 4, 0, 0, 0), (222, .iadd, 0, 0, 0, 0), (223, .iaload, 0, 0, 0, 0), (224, .invokevirtual 22, 0, 337, 5, 99), (227, .if_icmp .eq 673, 0, 29, 0, 0), (230, .iconst 0, 0, 0, 0, 0), (231, .ireturn, 0, 1, 0, 0)]
def kL_law_232 : List e_Op := [(232, .aload_n 1, 0, 1, 0, 0), (233, .aload_n 0, 0, 0, 0, 0), (234, .iload_n 3, 0, 3, 0, 0), (235, .iconst 1, 1, 0, 0, 0), (236, .iadd, 0, 0, 0, 0), (237, .iaload, 0, 0, 0, 0), (238, .aload_n 0, 0, 0, 0, 0), (239, .iload_n 3, 0, 3, 0, 0), (240, .iconst 2, 2, 0, 0, 0), (241, .iadd, 0, 0, 0, 0), (242, .iaload, 0, 0, 0, 0), (243, .aload_n 0, 0, 0, 0, 0), (244, .iload_n 3, 0, 3, 0, 0), (245, .iconst 3, 3, 0, 0, 0), (246, .iadd, 0, 0, 0, 0), (247, .iaload, 0, 0, 0, 0), (248, .invokevirtual 23, 0, 191, 4, 50), (251, .aload_n 2, 0, 2, 0, 0), (252, .aload_n 0, 0, 0, 0, 0), (253, .iload_n 3, 0, 3, 0, 0), (254, .iconst 1, 1, 0, 0, 0), (255, .iadd, 0, 0, 0, 0), (256, .iaload, 0, 0, 0, 0), (257, .aload_n 0, 0, 0, 0, 0), (258, .iload_n 3, 0, 3, 0, 0), (259, .iconst 2, 2, 0, 0, 0), (260, .iadd, 0, 0, 0, 0), (261, .iaload, 0, 0, 0, 0), (262, .aload_n 0, 0, 0, 0, 0), (263, .iload_n 3, 0, 3, 0, 0), (264, .iconst 3, 3, 0, 0, 0), (265, .iadd, 0, 0, 0, 0), (266, .iaload, 0, 0, 0, 0), (267, .invokevirtual 27, 0, 343, 4, 100), (270, .if_icmp .eq 630, 0, 29, 0, 0), (273, .iconst 0, 0, 0, 0, 0), (274, .ireturn, 0, 1, 0, 0)]
def kL_law_275 : List e_Op := [(275, .aload_n 1, 0, 1, 0, 0), (276, .aload_n 0, 0, 0, 0, 0), (277, .iload_n 3, 0, 3, 0, 0), (278, .iconst 1, 1, 0, 0, 0), (279, .iadd, 0, 0, 0, 0), (280, .iaload, 0, 0, 0, 0), (281, .aload_n 0, 0, 0, 0, 0), (282, .iload_n 3, 0, 3, 0, 0), (283, .iconst 2, 2, 0, 0, 0), (284, .iadd, 0, 0, 0, 0), (285, .iaload, 0, 0, 0, 0), (286, .invokevirtual 28, 0, 194, 3, 51), (289, .aload_n 2, 0, 2, 0, 0), (290, .aload_n 0, 0, 0, 0, 0), (291, .iload_n 3, 0, 3, 0, 0), (292, .iconst 1, 1, 0, 0, 0), (293, .iadd, 0, 0, 0, 0), (294, .iaload, 0, 0, 0, 0), (295, .aload_n 0, 0, 0, 0, 0), (296, .iload_n 3, 0, 3, 0, 0), (297, .iconst 2, 2, 0, 0, 0), (298, .iadd, 0, 0, 0, 0), (299, .iaload, 0, 0, 0, 0), (300, .invokevirtual 32, 0, 346, 3, 101), (303, .if_icmp .eq 597, 0, 29, 0, 0), (306, .iconst 0, 0, 0, 0, 0), (307, .ireturn, 0, 1, 0, 0)]
def kL_law_308 : List e_Op := [(308, .aload_n 1, 0, 1, 0, 0), (309, .aload_n 0, 0, 0, 0, 0), (310, .iload_n 3, 0, 3, 0, 0), (311, .iconst 1, 1, 0, 0, 0), (312, .iadd, 0, 0, 0, 0), (313, .iaload, 0, 0, 0, 0), (314, .invokevirtual 33, 0, 197, 2, 52), (317, .aload_n 2, 0, 2, 0, 0), (318, .aload_n 0, 0, 0, 0, 0), (319, .iload_n 3, 0, 3, 0, 0), (320, .iconst 1, 1, 0, 0, 0), (321, .iadd, 0, 0, 0, 0), (322, .iaload, 0, 0, 0, 0), (323, .invokevirtual 36, 0, 349, 2, 102), (326, .if_icmp .eq 574, 0, 29, 0, 0), (329, .iconst 0, 0, 0, 0, 0), (330, .ireturn, 0, 1, 0, 0)]
def kL_law_331 : List e_Op := [(331, .aload_n 1, 0, 1, 0, 0), (332, .invokevirtual 37, 0, 200, 1, 53), (335, .aload_n 2, 0, 2, 0, 0), (336, .invokevirtual 41, 0, 352, 1, 103), (339, .if_icmp .eq 561, 0, 29, 0, 0), (342, .iconst 0, 0, 0, 0, 0), (343, .ireturn, 0, 1, 0, 0)]
def kL_law_344 : List e_Op := [(344, .aload_n 1, 0, 1, 0, 0), (345, .invokevirtual 42, 0, 201, 1, 54), (348, .aload_n 2, 0, 2, 0, 0), (349, .invokevirtual 45, 0, 378, 1, 108), (352, .if_icmp .eq 548, 0, 29, 0, 0), (355, .iconst 0, 0, 0, 0, 0), (356, .ireturn, 0, 1, 0, 0)]
def kL_law_357 : List e_Op := [(357, .aload_n 1, 0, 1, 0, 0), (358, .aload_n 0, 0, 0, 0, 0), (359, .iload_n 3, 0, 3, 0, 0), (360, .iconst 1, 1, 0, 0, 0), (361, .iadd, 0, 0, 0, 0), (362, .iaload, 0, 0, 0, 0), (363, .aload_n 0, 0, 0, 0, 0), (364, .iload_n 3, 0, 3, 0, 0), (365, .iconst 2, 2, 0, 0, 0), (366, .iadd, 0, 0, 0, 0), (367, .iaload, 0, 0, 0, 0), (368, .aload_n 0, 0, 0, 0, 0), (369, .iload_n 3, 0, 3, 0, 0), (370, .iconst 3, 3, 0, 0, 0), (371, .iadd, 0, 0, 0, 0), (372, .iaload, 0, 0, 0, 0), (373, .aload_n 0, 0, 0, 0, 0), (374, .iload_n 3, 0, 3, 0, 0), (375, .iconst 4, 4, 0, 0, 0), (376, .iadd, 0, 0, 0, 0), (377, .iaload, 0, 0, 0, 0), (378, .aload_n 0, 0, 0, 0, 0), (379, .iload_n 3, 0, 3, 0, 0), (380, .iconst 5, 5, 0, 0, 0), (381, .iadd, 0, 0, 0, 0), (382, .iaload, 0, 0, 0, 0), (383, .invokevirtual 46, 0, 203, 6, 55), (386, .aload_n 2, 0, 2, 0, 0), (387, .aload_n 0, 0, 0, 0, 0), (388, .iload_n 3, 0, 3, 0, 0), (389, .iconst 1, 1, 0, 0, 0), (390, .iadd, 0, 0, 0, 0), (391, .iaload, 0, 0, 0, 0), (392, .aload_n 0, 0, 0, 0, 0), (393, .iload_n 3, 0, 3, 0, 0), (394, .iconst 2, 2, 0, 0, 0), (395, .iadd, 0, 0, 0, 0), (396, .iaload, 0, 0, 0, 0), (397, .aload_n 0, 0, 0, 0, 0), (398, .iload_n 3, 0, 3, 0, 0), (399, .iconst 3, 3, 0, 0, 0), (400, .iadd, 0, 0, 0, 0), (401, .iaload, 0, 0, 0, 0), (402, .aload_n 0, 0, 0, 0, 0), (403, .iload_n 3, 0, 3, 0, 0), (404, .iconst 4, 4, 0, 0, 0), (405, .iadd, 0, 0, 0, 0), (406, .iaload, 0, 0, 0, 0), (407, .aload_n 0, 0, 0, 0, 0), (408, .iload_n 3, 0, 3, 0, 0), (409, .iconst 5, 5, 0, 0, 0), (410, .iadd, 0, 0, 0, 0), (411, .iaload, 0, 0, 0, 0), (412, .invokevirtual 50, 0, 386, 6, 109), (415, .if_icmp .eq 485, 0, 29, 0, 0), (418, .iconst 0, 0, 0, 0, 0), (419, .ireturn, 0, 1, 0, 0)]
def kL_law_420 : List e_Op := [(420, .aload_n 1, 0, 1, 0, 0), (421, .aload_n 0, 0, 0, 0, 0), (422, .iload_n 3, 0, 3, 0, 0), (423, .iconst 1, 1, 0, 0, 0), (424, .iadd, 0, 0, 0, 0), (425, .iaload, 0, 0, 0, 0), (426, .aload_n 0, 0, 0, 0, 0), (427, .iload_n 3, 0, 3, 0, 0), (428, .iconst 2, 2, 0, 0, 0), (429, .iadd, 0, 0, 0, 0), (430, .iaload, 0, 0, 0, 0), (431, .invokevirtual 51, 0, 209, 3, 56), (434, .aload_n 2, 0, 2, 0, 0), (435, .aload_n 0, 0, 0, 0, 0), (436, .iload_n 3, 0, 3, 0, 0), (437, .iconst 1, 1, 0, 0, 0), (438, .iadd, 0, 0, 0, 0), (439, .iaload, 0, 0, 0, 0), (440, .aload_n 0, 0, 0, 0, 0), (441, .iload_n 3, 0, 3, 0, 0), (442, .iconst 2, 2, 0, 0, 0), (443, .iadd, 0, 0, 0, 0), (444, .iaload, 0, 0, 0, 0), (445, .invokevirtual 54, 0, 394, 3, 111), (448, .if_icmp .eq 452, 0, 29, 0, 0), (451, .iconst 0, 0, 0, 0, 0), (452, .ireturn, 0, 1, 0, 0)]
def kL_law_453 : List e_Op := [(453, .aload_n 1, 0, 1, 0, 0), (454, .aload_n 0, 0, 0, 0, 0), (455, .iload_n 3, 0, 3, 0, 0), (456, .iconst 1, 1, 0, 0, 0), (457, .iadd, 0, 0, 0, 0), (458, .iaload, 0, 0, 0, 0), (459, .aload_n 0, 0, 0, 0, 0), (460, .iload_n 3, 0, 3, 0, 0), (461, .iconst 2, 2, 0, 0, 0), (462, .iadd, 0, 0, 0, 0), (463, .iaload, 0, 0, 0, 0), (464, .aload_n 0, 0, 0, 0, 0), (465, .iload_n 3, 0, 3, 0, 0), (466, .iconst 3, 3, 0, 0, 0), (467, .iadd, 0, 0, 0, 0), (468, .iaload, 0, 0, 0, 0), (469, .aload_n 0, 0, 0, 0, 0), (470, .iload_n 3, 0, 3, 0, 0), (471, .iconst 4, 4, 0, 0, 0), (472, .iadd, 0, 0, 0, 0), (473, .iaload, 0, 0, 0, 0), (474, .aload_n 0, 0, 0, 0, 0), (475, .iload_n 3, 0, 3, 0, 0), (476, .iconst 5, 5, 0, 0, 0), (477, .iadd, 0, 0, 0, 0), (478, .iaload, 0, 0, 0, 0), (479, .aload_n 0, 0, 0, 0, 0), (480, .iload_n 3, 0, 3, 0, 0), (481, .bipush 6, 6, 0, 0, 0), (483, .iadd, 0, 0, 0, 0), (484, .iaload, 0, 0, 0, 0), (485, .invokevirtual 55, 0, 212, 7, 57), (488, .aload_n 2, 0, 2, 0, 0), (489, .aload_n 0, 0, 0, 0, 0), (490, .iload_n 3, 0, 3, 0, 0), (491, .iconst 1, 1, 0, 0, 0), (492, .iadd, 0, 0, 0, 0), (493, .iaload, 0, 0, 0, 0), (494, .aload_n 0, 0, 0, 0, 0), (495, .iload_n 3, 0, 3, 0, 0), (496, .iconst 2, 2, 0, 0, 0), (497, .iadd, 0, 0, 0, 0), (498, .iaload, 0, 0, 0, 0), (499, .aload_n 0, 0, 0, 0, 0), (500, .iload_n 3, 0, 3, 0, 0), (501, .iconst 3, 3, 0, 0, 0), (502, .iadd, 0, 0, 0, 0), (503, .iaload, 0, 0, 0, 0), (504, .aload_n 0, 0, 0, 0, 0), (505, .iload_n 3, 0, 3, 0, 0), (506, .iconst 4, 4, 0, 0, 0), (507, .iadd, 0, 0, 0, 0), (508, .iaload, 0, 0, 0, 0), (509, .aload_n 0, 0, 0, 0, 0), (510, .iload_n 3, 0, 3, 0, 0), (511, .iconst 5, 5, 0, 0, 0), (512, .iadd, 0, 0, 0, 0), (513, .iaload, 0, 0, 0, 0), (514, .aload_n 0, 0, 0, 0, 0), (515, .iload_n 3, 0, 3, 0, 0), (516, .bipush 6, 6, 0, 0, 0), (518, .iadd, 0, 0, 0, 0), (519, .iaload, 0, 0, 0, 0), (520, .invokevirtual 59, 0, 398, 7, 112), (523, .if_icmp .eq 377, 0, 29, 0, 0), (526, .iconst 0, 0, 0, 0, 0), (527, .ireturn, 0, 1, 0, 0)]
def kL_law_528 : List e_Op := [(528, .aload_n 1, 0, 1, 0, 0), (529, .aload_n 0, 0, 0, 0, 0), (530, .iload_n 3, 0, 3, 0, 0), (531, .iconst 1, 1, 0, 0, 0), (532, .iadd, 0, 0, 0, 0), (533, .iaload, 0, 0, 0, 0), (534, .aload_n 0, 0, 0, 0, 0), (535, .iload_n 3, 0, 3, 0, 0), (536, .iconst 2, 2, 0, 0, 0), (537, .iadd, 0, 0, 0, 0), (538, .iaload, 0, 0, 0, 0), (539, .invokevirtual 60, 0, 216, 3, 58), (542, .aload_n 2, 0, 2, 0, 0), (543, .aload_n 0, 0, 0, 0, 0), (544, .iload_n 3, 0, 3, 0, 0), (545, .iconst 1, 1, 0, 0, 0), (546, .iadd, 0, 0, 0, 0), (547, .iaload, 0, 0, 0, 0), (548, .aload_n 0, 0, 0, 0, 0), (549, .iload_n 3, 0, 3, 0, 0), (550, .iconst 2, 2, 0, 0, 0), (551, .iadd, 0, 0, 0, 0), (552, .iaload, 0, 0, 0, 0), (553, .invokevirtual 63, 0, 408, 3, 113), (556, .if_icmp .eq 344, 0, 29, 0, 0), (559, .iconst 0, 0, 0, 0, 0), (560, .ireturn, 0, 1, 0, 0)]
def kL_law_561 : List e_Op := [(561, .aload_n 1, 0, 1, 0, 0), (562, .aload_n 0, 0, 0, 0, 0), (563, .iload_n 3, 0, 3, 0, 0), (564, .iconst 1, 1, 0, 0, 0), (565, .iadd, 0, 0, 0, 0), (566, .iaload, 0, 0, 0, 0), (567, .invokevirtual 64, 0, 221, 2, 59), (570, .aload_n 2, 0, 2, 0, 0), (571, .aload_n 0, 0, 0, 0, 0), (572, .iload_n 3, 0, 3, 0, 0), (573, .iconst 1, 1, 0, 0, 0), (574, .iadd, 0, 0, 0, 0), (575, .iaload, 0, 0, 0, 0), (576, .invokevirtual 67, 0, 488, 2, 125), (579, .if_icmp .eq 321, 0, 29, 0, 0), (582, .iconst 0, 0, 0, 0, 0), (583, .ireturn, 0, 1, 0, 0)]
def kL_law_584 : List e_Op := [(584, .aload_n 1, 0, 1, 0, 0), (585, .invokevirtual 68, 0, 226, 1, 60), (588, .aload_n 2, 0, 2, 0, 0), (589, .invokevirtual 71, 0, 492, 1, 126), (592, .if_icmp .eq 308, 0, 29, 0, 0), (595, .iconst 0, 0, 0, 0, 0), (596, .ireturn, 0, 1, 0, 0)]
def kL_law_597 : List e_Op := [(597, .aload_n 1, 0, 1, 0, 0), (598, .aload_n 0, 0, 0, 0, 0), (599, .iload_n 3, 0, 3, 0, 0), (600, .iconst 1, 1, 0, 0, 0), (601, .iadd, 0, 0, 0, 0), (602, .iaload, 0, 0, 0, 0), (603, .invokevirtual 72, 0, 236, 2, 62), (606, .aload_n 2, 0, 2, 0, 0), (607, .aload_n 0, 0, 0, 0, 0), (608, .iload_n 3, 0, 3, 0, 0), (609, .iconst 1, 1, 0, 0, 0), (610, .iadd, 0, 0, 0, 0), (611, .iaload, 0, 0, 0, 0), (612, .invokevirtual 75, 0, 493, 2, 127), (615, .if_icmp .eq 285, 0, 29, 0, 0), (618, .iconst 0, 0, 0, 0, 0), (619, .ireturn, 0, 1, 0, 0)]
def kL_law_620 : List e_Op := [(620, .aload_n 1, 0, 1, 0, 0), (621, .aload_n 0, 0, 0, 0, 0), (622, .iload_n 3, 0, 3, 0, 0), (623, .iconst 1, 1, 0, 0, 0), (624, .iadd, 0, 0, 0, 0), (625, .iaload, 0, 0, 0, 0), (626, .invokevirtual 76, 0, 238, 2, 63), (629, .aload_n 2, 0, 2, 0, 0), (630, .aload_n 0, 0, 0, 0, 0), (631, .iload_n 3, 0, 3, 0, 0), (632, .iconst 1, 1, 0, 0, 0), (633, .iadd, 0, 0, 0, 0), (634, .iaload, 0, 0, 0, 0), (635, .invokevirtual 79, 0, 495, 2, 128), (638, .if_icmp .eq 262, 0, 29, 0, 0), (641, .iconst 0, 0, 0, 0, 0), (642, .ireturn, 0, 1, 0, 0)]
def kL_law_643 : List e_Op := [(643, .aload_n 1, 0, 1, 0, 0), (644, .aload_n 0, 0, 0, 0, 0), (645, .iload_n 3, 0, 3, 0, 0), (646, .iconst 1, 1, 0, 0, 0), (647, .iadd, 0, 0, 0, 0), (648, .iaload, 0, 0, 0, 0), (649, .invokevirtual 80, 0, 240, 2, 64), (652, .aload_n 2, 0, 2, 0, 0), (653, .aload_n 0, 0, 0, 0, 0), (654, .iload_n 3, 0, 3, 0, 0), (655, .iconst 1, 1, 0, 0, 0), (656, .iadd, 0, 0, 0, 0), (657, .iaload, 0, 0, 0, 0), (658, .invokevirtual 83, 0, 497, 2, 129), (661, .if_icmp .eq 239, 0, 29, 0, 0), (664, .iconst 0, 0, 0, 0, 0), (665, .ireturn, 0, 1, 0, 0)]
def kL_law_666 : List e_Op := [(666, .aload_n 1, 0, 1, 0, 0), (667, .aload_n 0, 0, 0, 0, 0), (668, .iload_n 3, 0, 3, 0, 0), (669, .iconst 1, 1, 0, 0, 0), (670, .iadd, 0, 0, 0, 0), (671, .iaload, 0, 0, 0, 0), (672, .invokevirtual 84, 0, 242, 2, 65), (675, .aload_n 2, 0, 2, 0, 0), (676, .aload_n 0, 0, 0, 0, 0), (677, .iload_n 3, 0, 3, 0, 0), (678, .iconst 1, 1, 0, 0, 0), (679, .iadd, 0, 0, 0, 0), (680, .iaload, 0, 0, 0, 0), (681, .invokevirtual 87, 0, 502, 2, 131), (684, .if_icmp .eq 216, 0, 29, 0, 0), (687, .iconst 0, 0, 0, 0, 0), (688, .ireturn, 0, 1, 0, 0)]
def kL_law_689 : List e_Op := [(689, .aload_n 1, 0, 1, 0, 0), (690, .aload_n 0, 0, 0, 0, 0), (691, .iload_n 3, 0, 3, 0, 0), (692, .iconst 1, 1, 0, 0, 0), (693, .iadd, 0, 0, 0, 0), (694, .iaload, 0, 0, 0, 0), (695, .invokevirtual 88, 0, 245, 2, 66), (698, .aload_n 2, 0, 2, 0, 0), (699, .aload_n 0, 0, 0, 0, 0), (700, .iload_n 3, 0, 3, 0, 0), (701, .iconst 1, 1, 0, 0, 0), (702, .iadd, 0, 0, 0, 0), (703, .iaload, 0, 0, 0, 0), (704, .invokevirtual 91, 0, 503, 2, 132), (707, .if_icmp .eq 193, 0, 29, 0, 0), (710, .iconst 0, 0, 0, 0, 0), (711, .ireturn, 0, 1, 0, 0)]
def kL_law_712 : List e_Op := [(712, .aload_n 1, 0, 1, 0, 0), (713, .aload_n 0, 0, 0, 0, 0), (714, .iload_n 3, 0, 3, 0, 0), (715, .iconst 1, 1, 0, 0, 0), (716, .iadd, 0, 0, 0, 0), (717, .iaload, 0, 0, 0, 0), (718, .invokevirtual 92, 0, 248, 2, 67), (721, .aload_n 2, 0, 2, 0, 0), (722, .aload_n 0, 0, 0, 0, 0), (723, .iload_n 3, 0, 3, 0, 0), (724, .iconst 1, 1, 0, 0, 0), (725, .iadd, 0, 0, 0, 0), (726, .iaload, 0, 0, 0, 0), (727, .invokevirtual 95, 0, 504, 2, 133), (730, .if_icmp .eq 170, 0, 29, 0, 0), (733, .iconst 0, 0, 0, 0, 0), (734, .ireturn, 0, 1, 0, 0)]
def kL_law_735 : List e_Op := [(735, .aload_n 1, 0, 1, 0, 0), (736, .aload_n 0, 0, 0, 0, 0), (737, .iload_n 3, 0, 3, 0, 0), (738, .iconst 1, 1, 0, 0, 0), (739, .iadd, 0, 0, 0, 0), (740, .iaload, 0, 0, 0, 0), (741, .invokevirtual 96, 0, 251, 2, 68), (744, .aload_n 2, 0, 2, 0, 0), (745, .aload_n 0, 0, 0, 0, 0), (746, .iload_n 3, 0, 3, 0, 0), (747, .iconst 1, 1, 0, 0, 0), (748, .iadd, 0, 0, 0, 0), (749, .iaload, 0, 0, 0, 0), (750, .invokevirtual 99, 0, 505, 2, 134), (753, .if_icmp .eq 147, 0, 29, 0, 0), (756, .iconst 0, 0, 0, 0, 0), (757, .ireturn, 0, 1, 0, 0)]
def kL_law_758 : List e_Op := [(758, .aload_n 1, 0, 1, 0, 0), (759, .aload_n 0, 0, 0, 0, 0), (760, .iload_n 3, 0, 3, 0, 0), (761, .iconst 1, 1, 0, 0, 0), (762, .iadd, 0, 0, 0, 0), (763, .iaload, 0, 0, 0, 0), (764, .invokevirtual 100, 0, 254, 2, 69), (767, .aload_n 2, 0, 2, 0, 0), (768, .aload_n 0, 0, 0, 0, 0), (769, .iload_n 3, 0, 3, 0, 0), (770, .iconst 1, 1, 0, 0, 0), (771, .iadd, 0, 0, 0, 0), (772, .iaload, 0, 0, 0, 0), (773, .invokevirtual 103, 0, 506, 2, 135), (776, .if_icmp .eq 124, 0, 29, 0, 0), (779, .iconst 0, 0, 0, 0, 0), (780, .ireturn, 0, 1, 0, 0)]
def kL_law_781 : List e_Op := [(781, .aload_n 1, 0, 1, 0, 0), (782, .invokevirtual 104, 0, 257, 1, 70), (785, .aload_n 2, 0, 2, 0, 0), (786, .invokevirtual 107, 0, 507, 1, 136), (789, .if_icmp .eq 111, 0, 29, 0, 0), (792, .iconst 0, 0, 0, 0, 0), (793, .ireturn, 0, 1, 0, 0)]
def kL_law_794 : List e_Op := [(794, .aload_n 1, 0, 1, 0, 0), (795, .aload_n 0, 0, 0, 0, 0), (796, .iload_n 3, 0, 3, 0, 0), (797, .iconst 1, 1, 0, 0, 0), (798, .iadd, 0, 0, 0, 0), (799, .iaload, 0, 0, 0, 0), (800, .invokevirtual 108, 0, 258, 2, 71), (803, .aload_n 2, 0, 2, 0, 0), (804, .aload_n 0, 0, 0, 0, 0), (805, .iload_n 3, 0, 3, 0, 0), (806, .iconst 1, 1, 0, 0, 0), (807, .iadd, 0, 0, 0, 0), (808, .iaload, 0, 0, 0, 0), (809, .invokevirtual 111, 0, 536, 2, 141), (812, .if_icmp .eq 88, 0, 29, 0, 0), (815, .iconst 0, 0, 0, 0, 0), (816, .ireturn, 0, 1, 0, 0)]
def kL_law_817 : List e_Op := [(817, .aload_n 1, 0, 1, 0, 0), (818, .aload_n 0, 0, 0, 0, 0), (819, .iload_n 3, 0, 3, 0, 0), (820, .iconst 1, 1, 0, 0, 0), (821, .iadd, 0, 0, 0, 0), (822, .iaload, 0, 0, 0, 0), (823, .aload_n 0, 0, 0, 0, 0), (824, .iload_n 3, 0, 3, 0, 0), (825, .iconst 2, 2, 0, 0, 0), (826, .iadd, 0, 0, 0, 0), (827, .iaload, 0, 0, 0, 0), (828, .invokevirtual 112, 0, 262, 3, 72), (831, .aload_n 2, 0, 2, 0, 0), (832, .aload_n 0, 0, 0, 0, 0), (833, .iload_n 3, 0, 3, 0, 0), (834, .iconst 1, 1, 0, 0, 0), (835, .iadd, 0, 0, 0, 0), (836, .iaload, 0, 0, 0, 0), (837, .aload_n 0, 0, 0, 0, 0), (838, .iload_n 3, 0, 3, 0, 0), (839, .iconst 2, 2, 0, 0, 0), (840, .iadd, 0, 0, 0, 0), (841, .iaload, 0, 0, 0, 0), (842, .invokevirtual 115, 0, 538, 3, 142), (845, .if_icmp .eq 55, 0, 29, 0, 0), (848, .iconst 0, 0, 0, 0, 0), (849, .ireturn, 0, 1, 0, 0)]
def kL_law_850 : List e_Op := [(850, .aload_n 1, 0, 1, 0, 0), (851, .invokevirtual 116, 0, 267, 1, 73), (854, .aload_n 2, 0, 2, 0, 0), (855, .invokevirtual 119, 0, 544, 1, 143), (858, .if_icmp .eq 42, 0, 29, 0, 0), (861, .iconst 0, 0, 0, 0, 0), (862, .ireturn, 0, 1, 0, 0)]
def kL_law_863 : List e_Op := [(863, .aload_n 1, 0, 1, 0, 0), (864, .aload_n 0, 0, 0, 0, 0), (865, .iload_n 3, 0, 3, 0, 0), (866, .iconst 1, 1, 0, 0, 0), (867, .iadd, 0, 0, 0, 0), (868, .iaload, 0, 0, 0, 0), (869, .invokevirtual 120, 0, 269, 2, 74), (872, .aload_n 2, 0, 2, 0, 0), (873, .aload_n 0, 0, 0, 0, 0), (874, .iload_n 3, 0, 3, 0, 0), (875, .iconst 1, 1, 0, 0, 0), (876, .iadd, 0, 0, 0, 0), (877, .iaload, 0, 0, 0, 0), (878, .invokevirtual 123, 0, 548, 2, 144), (881, .if_icmp .eq 19, 0, 29, 0, 0), (884, .iconst 0, 0, 0, 0, 0), (885, .ireturn, 0, 1, 0, 0)]
def kL_law_886 : List e_Op := [(886, .aload_n 1, 0, 1, 0, 0), (887, .invokevirtual 124, 0, 272, 1, 75), (890, .aload_n 2, 0, 2, 0, 0), (891, .invokevirtual 128, 0, 552, 1, 146), (894, .lcmp, 0, 0, 0, 0), (895, .ifCond .eq 5, 0, 29, 0, 0), (898, .iconst 0, 0, 0, 0, 0), (899, .ireturn, 0, 1, 0, 0)]
def kL_law_0 : List e_Op := [(0, .new 7, 0, 8, 7, 0), (3, .dup, 0, 0, 0, 0), (4, .invokespecial 9, 0, 184, 1, 47), (7, .astore_n 1, 0, 1, 0, 0), (8, .new 10, 0, 9, 12, 0), (11, .dup, 0, 0, 0, 0), (12, .invokespecial 12, 0, 315, 1, 89), (15, .astore_n 2, 0, 2, 0, 0), (16, .iconst 0, 0, 0, 0, 0), (17, .istore_n 3, 0, 3, 0, 0), (18, .nop, 0, 28, 0, 0)]
def kL_law_18 : List e_Op := [(18, .iload_n 3, 0, 3, 0, 0), (19, .aload_n 0, 0, 0, 0, 0), (20, .arraylength, 0, 0, 0, 0), (21, .bipush 7, 7, 0, 0, 0), (23, .isub, 0, 0, 0, 0), (24, .if_icmp .gt 882, 0, 30, 0, 0), (27, .aload_n 0, 0, 0, 0, 0), (28, .iload_n 3, 0, 3, 0, 0), (29, .iaload, 0, 0, 0, 0), (30, .bipush 31, 31, 0, 0, 0), (32, .iand, 0, 0, 0, 0), (33, .tableswitch 867 0 26 #[123, 146, 199, 242, 275, 298, 311, 324, 387, 420, 495, 528, 551, 564, 587, 610, 633, 656, 679, 702, 725, 748, 761, 784, 817, 830, 853], 0, 0, 29, 0)]
def kL_law_900 : List e_Op := [(900, .iinc 3 7, 7, 3, 0, 0), (903, .goto (-885), 0, 28, 0, 0)]
def kL_law_906 : List e_Op := [(906, .iconst 1, 1, 0, 0, 0), (907, .ireturn, 0, 1, 0, 0)]
def kX0_init_0 : List e_Op := [(0, .aload_n 0, 0, 0, 0, 0), (1, .invokespecial 3, 0, 0, 0, 999), (4, .return_, 0, 0, 0, 0)]
def kX0_copyFrom_0 : List e_Op := [(0, .aload_n 0, 0, 0, 0, 0), (1, .aload_n 1, 0, 1, 0, 0), (2, .getfield 9, 0, 0, 0, 1), (5, .putfield 9, 0, 0, 0, 1), (8, .aload_n 0, 0, 0, 0, 0), (9, .aload_n 1, 0, 1, 0, 0), (10, .getfield 15, 0, 0, 1, 0), (13, .putfield 15, 0, 0, 1, 0), (16, .aload_n 0, 0, 0, 0, 0), (17, .aload_n 1, 0, 1, 0, 0), (18, .getfield 19, 0, 0, 2, 0), (21, .putfield 19, 0, 0, 2, 0), (24, .aload_n 0, 0, 0, 0, 0), (25, .aload_n 1, 0, 1, 0, 0), (26, .getfield 22, 0, 0, 3, 0), (29, .putfield 22, 0, 0, 3, 0), (32, .aload_n 0, 0, 0, 0, 0), (33, .aload_n 1, 0, 1, 0, 0), (34, .getfield 25, 0, 0, 4, 0), (37, .putfield 25, 0, 0, 4, 0), (40, .aload_n 0, 0, 0, 0, 0), (41, .aload_n 1, 0, 1, 0, 0), (42, .getfield 28, 0, 0, 5, 0), (45, .putfield 28, 0, 0, 5, 0), (48, .aload_n 0, 0, 0, 0, 0), (49, .aload_n 1, 0, 1, 0, 0), (50, .getfield 31, 0, 0, 6, 1), (53, .putfield 31, 0, 0, 6, 1), (56, .aload_n 0, 0, 0, 0, 0), (57, .aload_n 1, 0, 1, 0, 0), (58, .getfield 34, 0, 0, 7, 0), (61, .putfield 34, 0, 0, 7, 0), (64, .return_, 0, 0, 0, 0)]
def kX0_isByTime_0 : List e_Op := [(0, .aload_n 0, 0, 0, 0, 0), (1, .getfield 9, 0, 0, 0, 1), (4, .ifCond .eq 15, 0, 34, 0, 0), (7, .aload_n 0, 0, 0, 0, 0), (8, .getfield 19, 0, 0, 2, 0), (11, .iconst 1, 1, 0, 0, 0), (12, .if_icmp .ne 7, 0, 34, 0, 0), (15, .iconst 1, 1, 0, 0, 0), (16, .goto 4, 0, 35, 0, 0)]
def kX0_isByTime_19 : List e_Op := [(19, .iconst 0, 0, 0, 0, 0), (20, .nop, 0, 35, 0, 0)]
def kX0_isByTime_20 : List e_Op := [(20, .ireturn, 0, 1, 0, 0)]
def kX0_isByFlow_0 : List e_Op := [(0, .aload_n 0, 0, 0, 0, 0), (1, .getfield 9, 0, 0, 0, 1), (4, .ifCond .eq 15, 0, 37, 0, 0), (7, .aload_n 0, 0, 0, 0, 0), (8, .getfield 19, 0, 0, 2, 0), (11, .iconst 2, 2, 0, 0, 0), (12, .if_icmp .ne 7, 0, 37, 0, 0), (15, .iconst 1, 1, 0, 0, 0), (16, .goto 4, 0, 38, 0, 0)]
def kX0_isByFlow_19 : List e_Op := [(19, .iconst 0, 0, 0, 0, 0), (20, .nop, 0, 38, 0, 0)]
def kX0_isByFlow_20 : List e_Op := [(20, .ireturn, 0, 1, 0, 0)]
def kX0_isOnByTime_0 : List e_Op := [(0, .aload_n 0, 0, 0, 0, 0), (1, .getfield 22, 0, 0, 3, 0), (4, .aload_n 0, 0, 0, 0, 0), (5, .getfield 25, 0, 0, 4, 0), (8, .if_icmp .ge 27, 0, 41, 0, 0), (11, .aload_n 0, 0, 0, 0, 0), (12, .getfield 22, 0, 0, 3, 0), (15, .iload_n 1, 0, 1, 0, 0), (16, .if_icmp .gt 15, 0, 40, 0, 0), (19, .iload_n 1, 0, 1, 0, 0), (20, .aload_n 0, 0, 0, 0, 0), (21, .getfield 25, 0, 0, 4, 0), (24, .if_icmp .ge 7, 0, 40, 0, 0), (27, .iconst 1, 1, 0, 0, 0), (28, .goto 28, 0, 44, 0, 0)]
def kX0_isOnByTime_31 : List e_Op := [(31, .iconst 0, 0, 0, 0, 0), (32, .goto 24, 0, 44, 0, 0)]
def kX0_isOnByTime_35 : List e_Op := [(35, .iload_n 1, 0, 1, 0, 0), (36, .aload_n 0, 0, 0, 0, 0), (37, .getfield 22, 0, 0, 3, 0), (40, .if_icmp .ge 11, 0, 42, 0, 0), (43, .iload_n 1, 0, 1, 0, 0), (44, .aload_n 0, 0, 0, 0, 0), (45, .getfield 25, 0, 0, 4, 0), (48, .if_icmp .ge 7, 0, 43, 0, 0), (51, .nop, 0, 42, 0, 0)]
def kX0_isOnByTime_51 : List e_Op := [(51, .iconst 1, 1, 0, 0, 0), (52, .goto 4, 0, 44, 0, 0)]
def kX0_isOnByTime_55 : List e_Op := [(55, .iconst 0, 0, 0, 0, 0), (56, .nop, 0, 44, 0, 0)]
def kX0_isOnByTime_56 : List e_Op := [(56, .ireturn, 0, 1, 0, 0)]
def kX0_supply_0 : List e_Op := [(0, .iload_n 2, 0, 2, 0, 0), (1, .ifCond .eq 18, 0, 46, 0, 0), (4, .aload_n 0, 0, 0, 0, 0), (5, .invokevirtual 37, 0, 33, 1, 3), (8, .ifCond .eq 11, 0, 46, 0, 0), (11, .aload_n 0, 0, 0, 0, 0), (12, .iload_n 1, 0, 1, 0, 0), (13, .invokevirtual 41, 0, 39, 2, 5), (16, .goto 7, 0, 47, 0, 0)]
def kX0_supply_19 : List e_Op := [(19, .aload_n 0, 0, 0, 0, 0), (20, .getfield 31, 0, 0, 6, 1), (23, .nop, 0, 47, 0, 0)]
def kX0_supply_23 : List e_Op := [(23, .istore_n 3, 0, 3, 0, 0), (24, .iload_n 3, 0, 3, 0, 0), (25, .ifCond .eq 10, 0, 48, 0, 0), (28, .aload_n 0, 0, 0, 0, 0), (29, .getfield 15, 0, 0, 1, 0), (32, .goto 4, 0, 49, 0, 0)]
def kX0_supply_35 : List e_Op := [(35, .iconst 0, 0, 0, 0, 0), (36, .nop, 0, 49, 0, 0)]
def kX0_supply_36 : List e_Op := [(36, .ireturn, 0, 0, 0, 0)]
def kX0_countMinute_0 : List e_Op := [(0, .aload_n 0, 0, 0, 0, 0), (1, .getfield 31, 0, 0, 6, 1), (4, .ifCond .eq 19, 0, 52, 0, 0), (7, .iload_n 1, 0, 1, 0, 0), (8, .aload_n 0, 0, 0, 0, 0), (9, .getfield 22, 0, 0, 3, 0), (12, .if_icmp .ge 7, 0, 51, 0, 0), (15, .iconst 1, 1, 0, 0, 0), (16, .goto 20, 0, 54, 0, 0)]
def kX0_countMinute_19 : List e_Op := [(19, .iconst 0, 0, 0, 0, 0), (20, .goto 16, 0, 54, 0, 0)]
def kX0_countMinute_23 : List e_Op := [(23, .iload_n 1, 0, 1, 0, 0), (24, .aload_n 0, 0, 0, 0, 0), (25, .getfield 25, 0, 0, 4, 0), (28, .if_icmp .le 7, 0, 53, 0, 0), (31, .iconst 1, 1, 0, 0, 0), (32, .goto 4, 0, 54, 0, 0)]
def kX0_countMinute_35 : List e_Op := [(35, .iconst 0, 0, 0, 0, 0), (36, .nop, 0, 54, 0, 0)]
def kX0_countMinute_36 : List e_Op := [(36, .istore_n 2, 0, 2, 0, 0), (37, .aload_n 0, 0, 0, 0, 0), (38, .iload_n 2, 0, 2, 0, 0), (39, .ifCond .eq 12, 0, 55, 0, 0), (42, .aload_n 0, 0, 0, 0, 0), (43, .getfield 34, 0, 0, 7, 0), (46, .iconst 1, 1, 0, 0, 0), (47, .iadd, 0, 0, 0, 0), (48, .goto 4, 0, 56, 0, 0)]
def kX0_countMinute_51 : List e_Op := [(51, .iconst 0, 0, 0, 0, 0), (52, .nop, 0, 56, 0, 0)]
def kX0_countMinute_52 : List e_Op := [(52, .putfield 34, 0, 0, 7, 0), (55, .return_, 0, 0, 0, 0)]
def kX0_isDue_0 : List e_Op := [(0, .aload_n 0, 0, 0, 0, 0), (1, .getfield 34, 0, 0, 7, 0), (4, .aload_n 0, 0, 0, 0, 0), (5, .getfield 28, 0, 0, 5, 0), (8, .if_icmp .le 7, 0, 58, 0, 0), (11, .iconst 1, 1, 0, 0, 0), (12, .goto 4, 0, 59, 0, 0)]
def kX0_isDue_15 : List e_Op := [(15, .iconst 0, 0, 0, 0, 0), (16, .nop, 0, 59, 0, 0)]
def kX0_isDue_16 : List e_Op := [(16, .ireturn, 0, 1, 0, 0)]
def kX0_change_0 : List e_Op := [(0, .aload_n 0, 0, 0, 0, 0), (1, .aload_n 0, 0, 0, 0, 0), (2, .getfield 31, 0, 0, 6, 1), (5, .ifCond .ne 7, 0, 61, 0, 0), (8, .iconst 1, 1, 0, 0, 0), (9, .goto 4, 0, 62, 0, 0)]
def kX0_change_12 : List e_Op := [(12, .iconst 0, 0, 0, 0, 0), (13, .nop, 0, 62, 0, 0)]
def kX0_change_13 : List e_Op := [(13, .putfield 31, 0, 0, 6, 1), (16, .aload_n 0, 0, 0, 0, 0), (17, .iconst 0, 0, 0, 0, 0), (18, .putfield 34, 0, 0, 7, 0), (21, .return_, 0, 0, 0, 0)]
def kX1_init_0 : List e_Op := [(0, .aload_n 0, 0, 0, 0, 0), (1, .invokespecial 3, 0, 0, 0, 999), (4, .aload_n 0, 0, 0, 0, 0), (5, .sipush 10000, 10000, 0, 0, 0), (8, .putfield 9, 0, 1, 1, 0), (11, .aload_n 0, 0, 0, 0, 0), (12, .bipush 24, 24, 0, 0, 0), (14, .newarray .int, 0, 10, 0, 0), (16, .putfield 15, 0, 1, 4, 2), (19, .aload_n 0, 0, 0, 0, 0), (20, .bipush 9, 9, 0, 0, 0), (22, .anewarray 19, 0, 13, 4, 0), (25, .putfield 21, 0, 1, 5, 2), (28, .iconst 0, 0, 0, 0, 0), (29, .istore_n 1, 0, 1, 0, 0), (30, .nop, 0, 64, 0, 0)]
def kX1_init_30 : List e_Op := [(30, .iload_n 1, 0, 1, 0, 0), (31, .bipush 24, 24, 0, 0, 0), (33, .if_icmp .ge 17, 0, 65, 0, 0), (36, .aload_n 0, 0, 0, 0, 0), (37, .getfield 15, 0, 1, 4, 2), (40, .iload_n 1, 0, 1, 0, 0), (41, .bipush 100, 100, 0, 0, 0), (43, .iastore, 0, 0, 0, 0), (44, .iinc 1 1, 1, 1, 0, 0), (47, .goto (-17), 0, 64, 0, 0)]
def kX1_init_50 : List e_Op := [(50, .iconst 0, 0, 0, 0, 0), (51, .istore_n 1, 0, 1, 0, 0), (52, .nop, 0, 66, 0, 0)]
def kX1_init_52 : List e_Op := [(52, .iload_n 1, 0, 1, 0, 0), (53, .bipush 8, 8, 0, 0, 0), (55, .if_icmp .gt 22, 0, 67, 0, 0), (58, .aload_n 0, 0, 0, 0, 0), (59, .getfield 21, 0, 1, 5, 2), (62, .iload_n 1, 0, 1, 0, 0), (63, .new 19, 0, 4, 6, 0), (66, .dup, 0, 0, 0, 0), (67, .invokespecial 25, 0, 110, 1, 26), (70, .aastore, 0, 0, 0, 0), (71, .iinc 1 1, 1, 1, 0, 0), (74, .goto (-22), 0, 66, 0, 0)]
def kX1_init_77 : List e_Op := [(77, .return_, 0, 0, 0, 0)]
def kX1_copyFrom_0 : List e_Op := [(0, .aload_n 0, 0, 0, 0, 0), (1, .aload_n 1, 0, 1, 0, 0), (2, .getfield 26, 0, 1, 0, 0), (5, .putfield 26, 0, 1, 0, 0), (8, .aload_n 0, 0, 0, 0, 0), (9, .aload_n 1, 0, 1, 0, 0), (10, .getfield 9, 0, 1, 1, 0), (13, .putfield 9, 0, 1, 1, 0), (16, .aload_n 0, 0, 0, 0, 0), (17, .aload_n 1, 0, 1, 0, 0), (18, .getfield 29, 0, 1, 2, 0), (21, .putfield 29, 0, 1, 2, 0), (24, .aload_n 0, 0, 0, 0, 0), (25, .aload_n 1, 0, 1, 0, 0), (26, .getfield 32, 0, 1, 3, 0), (29, .putfield 32, 0, 1, 3, 0), (32, .aload_n 1, 0, 1, 0, 0), (33, .getfield 15, 0, 1, 4, 2), (36, .iconst 0, 0, 0, 0, 0), (37, .aload_n 0, 0, 0, 0, 0), (38, .getfield 15, 0, 1, 4, 2), (41, .iconst 0, 0, 0, 0, 0), (42, .bipush 24, 24, 0, 0, 0), (44, .invokestatic 35, 0, 0, 0, 998), (47, .iconst 1, 1, 0, 0, 0), (48, .istore_n 2, 0, 2, 0, 0), (49, .nop, 0, 69, 0, 0)]
def kX1_copyFrom_49 : List e_Op := [(49, .iload_n 2, 0, 2, 0, 0), (50, .bipush 8, 8, 0, 0, 0), (52, .if_icmp .gt 24, 0, 70, 0, 0), (55, .aload_n 0, 0, 0, 0, 0), (56, .getfield 21, 0, 1, 5, 2), (59, .iload_n 2, 0, 2, 0, 0), (60, .aaload, 0, 0, 0, 0), (61, .aload_n 1, 0, 1, 0, 0), (62, .getfield 21, 0, 1, 5, 2), (65, .iload_n 2, 0, 2, 0, 0), (66, .aaload, 0, 0, 0, 0), (67, .invokevirtual 41, 0, 111, 2, 27), (70, .iinc 2 1, 1, 2, 0, 0), (73, .goto (-24), 0, 69, 0, 0)]
def kX1_copyFrom_76 : List e_Op := [(76, .return_, 0, 0, 0, 0)]
def kX1_hour_0 : List e_Op := [(0, .aload_n 0, 0, 0, 0, 0), (1, .getfield 26, 0, 1, 0, 0), (4, .bipush 60, 60, 0, 0, 0), (6, .idiv, 0, 0, 0, 0), (7, .bipush 24, 24, 0, 0, 0), (9, .invokestatic 45, 0, 0, 0, 994), (12, .ireturn, 0, 0, 0, 0)]
def kX1_releaseLocks_0 : List e_Op := [(0, .iconst 1, 1, 0, 0, 0), (1, .istore_n 1, 0, 1, 0, 0), (2, .nop, 0, 73, 0, 0)]
def kX1_releaseLocks_2 : List e_Op := [(2, .iload_n 1, 0, 1, 0, 0), (3, .aload_n 0, 0, 0, 0, 0), (4, .getfield 29, 0, 1, 2, 0), (7, .if_icmp .gt 21, 0, 74, 0, 0), (10, .aload_n 0, 0, 0, 0, 0), (11, .getfield 21, 0, 1, 5, 2), (14, .iload_n 1, 0, 1, 0, 0), (15, .aaload, 0, 0, 0, 0), (16, .getfield 51, 0, 4, 4, 2), (19, .invokevirtual 55, 0, 166, 1, 42), (22, .iinc 1 1, 1, 1, 0, 0), (25, .goto (-23), 0, 73, 0, 0)]
def kX1_releaseLocks_28 : List e_Op := [(28, .return_, 0, 0, 0, 0)]
def kX1_switchBanksByTime_0 : List e_Op := [(0, .aload_n 0, 0, 0, 0, 0), (1, .invokevirtual 60, 0, 71, 1, 12), (4, .istore_n 1, 0, 1, 0, 0), (5, .iconst 1, 1, 0, 0, 0), (6, .istore_n 2, 0, 2, 0, 0), (7, .nop, 0, 76, 0, 0)]
def kX1_switchBanksByTime_7 : List e_Op := [(7, .iload_n 2, 0, 2, 0, 0), (8, .aload_n 0, 0, 0, 0, 0), (9, .getfield 29, 0, 1, 2, 0), (12, .if_icmp .gt 35, 0, 78, 0, 0), (15, .aload_n 0, 0, 0, 0, 0), (16, .getfield 21, 0, 1, 5, 2), (19, .iload_n 2, 0, 2, 0, 0), (20, .aaload, 0, 0, 0, 0), (21, .getfield 64, 0, 4, 5, 2), (24, .astore_n 3, 0, 3, 0, 0), (25, .aload_n 3, 0, 3, 0, 0), (26, .invokevirtual 68, 0, 33, 1, 3), (29, .ifCond .eq 12, 0, 77, 0, 0), (32, .aload_n 3, 0, 3, 0, 0), (33, .aload_n 3, 0, 3, 0, 0), (34, .iload_n 1, 0, 1, 0, 0), (35, .invokevirtual 74, 0, 39, 2, 5), (38, .putfield 78, 0, 0, 6, 1), (41, .nop, 0, 77, 0, 0)]
def kX1_switchBanksByTime_41 : List e_Op := [(41, .iinc 2 1, 1, 2, 0, 0), (44, .goto (-37), 0, 76, 0, 0)]
def kX1_switchBanksByTime_47 : List e_Op := [(47, .return_, 0, 0, 0, 0)]
def kX1_switchBankByFlow_0 : List e_Op := [(0, .iconst 0, 0, 0, 0, 0), (1, .istore_n 2, 0, 2, 0, 0), (2, .iconst 1, 1, 0, 0, 0), (3, .istore_n 3, 0, 3, 0, 0), (4, .nop, 0, 80, 0, 0)]
def kX1_switchBankByFlow_4 : List e_Op := [(4, .iload_n 3, 0, 3, 0, 0), (5, .aload_n 0, 0, 0, 0, 0), (6, .getfield 29, 0, 1, 2, 0), (9, .if_icmp .gt 58, 0, 82, 0, 0), (12, .aload_n 0, 0, 0, 0, 0), (13, .getfield 21, 0, 1, 5, 2), (16, .iload_n 3, 0, 3, 0, 0), (17, .aaload, 0, 0, 0, 0), (18, .getfield 64, 0, 4, 5, 2), (21, .astore 4, 0, 4, 0, 0), (23, .aload 4, 0, 4, 0, 0), (25, .invokevirtual 82, 0, 36, 1, 4), (28, .ifCond .eq 33, 0, 81, 0, 0), (31, .aload 4, 0, 4, 0, 0), (33, .aload_n 1, 0, 1, 0, 0), (34, .getfield 85, 0, 2, 1, 2), (37, .iload_n 3, 0, 3, 0, 0), (38, .iaload, 0, 0, 0, 0), (39, .invokevirtual 90, 0, 50, 2, 7), (42, .iload_n 2, 0, 2, 0, 0), (43, .ifCond .ne 18, 0, 81, 0, 0), (46, .aload 4, 0, 4, 0, 0), (48, .invokevirtual 94, 0, 57, 1, 8), (51, .ifCond .eq 10, 0, 81, 0, 0), (54, .aload 4, 0, 4, 0, 0), (56, .invokevirtual 97, 0, 60, 1, 9), (59, .iconst 1, 1, 0, 0, 0), (60, .istore_n 2, 0, 2, 0, 0), (61, .nop, 0, 81, 0, 0)]
def kX1_switchBankByFlow_61 : List e_Op := [(61, .iinc 3 1, 1, 3, 0, 0), (64, .goto (-60), 0, 80, 0, 0)]
def kX1_switchBankByFlow_67 : List e_Op := [(67, .iload_n 2, 0, 2, 0, 0), (68, .ireturn, 0, 1, 0, 0)]
def kX1_moveRegulators_0 : List e_Op := [(0, .iconst 0, 0, 0, 0, 0), (1, .istore_n 3, 0, 3, 0, 0), (2, .iconst 1, 1, 0, 0, 0), (3, .istore 4, 0, 4, 0, 0), (5, .nop, 0, 84, 0, 0)]
def kX1_moveRegulators_5 : List e_Op := [(5, .iload 4, 0, 4, 0, 0), (7, .aload_n 0, 0, 0, 0, 0), (8, .getfield 29, 0, 1, 2, 0), (11, .if_icmp .gt 76, 0, 86, 0, 0), (14, .aload_n 0, 0, 0, 0, 0), (15, .getfield 21, 0, 1, 5, 2), (18, .iload 4, 0, 4, 0, 0), (20, .aaload, 0, 0, 0, 0), (21, .getfield 51, 0, 4, 4, 2), (24, .astore 5, 0, 5, 0, 0), (26, .aload 5, 0, 5, 0, 0), (28, .getfield 100, 0, 7, 0, 1), (31, .ifCond .eq 50, 0, 85, 0, 0), (34, .aload 5, 0, 5, 0, 0), (36, .aload 5, 0, 5, 0, 0), (38, .aload_n 1, 0, 1, 0, 0), (39, .getfield 103, 0, 2, 2, 2), (42, .iload 4, 0, 4, 0, 0), (44, .iaload, 0, 0, 0, 0), (45, .aload_n 1, 0, 1, 0, 0), (46, .getfield 106, 0, 2, 0, 2), (49, .iload 4, 0, 4, 0, 0), (51, .iaload, 0, 0, 0, 0), (52, .invokevirtual 109, 0, 167, 3, 43), (55, .invokevirtual 112, 0, 173, 2, 44), (58, .iload_n 2, 0, 2, 0, 0), (59, .ifCond .eq 22, 0, 85, 0, 0), (62, .iload_n 3, 0, 3, 0, 0), (63, .ifCond .ne 18, 0, 85, 0, 0), (66, .aload 5, 0, 5, 0, 0), (68, .invokevirtual 113, 0, 177, 1, 45), (71, .ifCond .eq 10, 0, 85, 0, 0), (74, .aload 5, 0, 5, 0, 0), (76, .invokevirtual 114, 0, 180, 1, 46), (79, .iconst 1, 1, 0, 0, 0), (80, .istore_n 3, 0, 3, 0, 0), (81, .nop, 0, 85, 0, 0)]
def kX1_moveRegulators_81 : List e_Op := [(81, .iinc 4 1, 1, 4, 0, 0), (84, .goto (-79), 0, 84, 0, 0)]
def kX1_moveRegulators_87 : List e_Op := [(87, .iload_n 3, 0, 3, 0, 0), (88, .ireturn, 0, 1, 0, 0)]
def kX2_init_0 : List e_Op := [(0, .aload_n 0, 0, 0, 0, 0), (1, .invokespecial 3, 0, 0, 0, 999), (4, .aload_n 0, 0, 0, 0, 0), (5, .bipush 9, 9, 0, 0, 0), (7, .newarray .int, 0, 10, 0, 0), (9, .putfield 9, 0, 2, 0, 2), (12, .aload_n 0, 0, 0, 0, 0), (13, .bipush 9, 9, 0, 0, 0), (15, .newarray .int, 0, 10, 0, 0), (17, .putfield 15, 0, 2, 1, 2), (20, .aload_n 0, 0, 0, 0, 0), (21, .bipush 9, 9, 0, 0, 0), (23, .newarray .int, 0, 10, 0, 0), (25, .putfield 18, 0, 2, 2, 2), (28, .return_, 0, 0, 0, 0)]
def kX2_solve_0 : List e_Op := [(0, .aload_n 0, 0, 0, 0, 0), (1, .aload_n 1, 0, 1, 0, 0), (2, .aload_n 1, 0, 1, 0, 0), (3, .invokevirtual 21, 0, 71, 1, 12), (6, .iconst 0, 0, 0, 0, 0), (7, .invokevirtual 27, 0, 89, 4, 19), (10, .aload_n 0, 0, 0, 0, 0), (11, .aload_n 1, 0, 1, 0, 0), (12, .iconst 0, 0, 0, 0, 0), (13, .iconst 0, 0, 0, 0, 0), (14, .invokevirtual 31, 0, 92, 4, 20), (17, .return_, 0, 0, 0, 0)]
def kX2_sumLoads_0 : List e_Op := [(0, .aload_n 1, 0, 1, 0, 0), (1, .getfield 35, 0, 1, 4, 2), (4, .iload_n 2, 0, 2, 0, 0), (5, .iaload, 0, 0, 0, 0), (6, .istore 4, 0, 4, 0, 0), (8, .iconst 0, 0, 0, 0, 0), (9, .istore 5, 0, 5, 0, 0), (11, .iconst 0, 0, 0, 0, 0), (12, .istore 6, 0, 6, 0, 0), (14, .aload_n 1, 0, 1, 0, 0), (15, .getfield 38, 0, 1, 2, 0), (18, .istore 7, 0, 7, 0, 0), (20, .nop, 0, 90, 0, 0)]
def kX2_sumLoads_20 : List e_Op := [(20, .iload 7, 0, 7, 0, 0), (22, .iconst 1, 1, 0, 0, 0), (23, .if_icmp .lt 79, 0, 91, 0, 0), (26, .aload_n 1, 0, 1, 0, 0), (27, .getfield 42, 0, 1, 5, 2), (30, .iload 7, 0, 7, 0, 0), (32, .aaload, 0, 0, 0, 0), (33, .astore 8, 0, 8, 0, 0), (35, .iload 5, 0, 5, 0, 0), (37, .aload 8, 0, 8, 0, 0), (39, .getfield 46, 0, 4, 2, 0), (42, .iload 4, 0, 4, 0, 0), (44, .imul, 0, 0, 0, 0), (45, .bipush 100, 100, 0, 0, 0), (47, .idiv, 0, 0, 0, 0), (48, .iadd, 0, 0, 0, 0), (49, .istore 5, 0, 5, 0, 0), (51, .iload 6, 0, 6, 0, 0), (53, .aload 8, 0, 8, 0, 0), (55, .getfield 51, 0, 4, 3, 0), (58, .iload 4, 0, 4, 0, 0), (60, .imul, 0, 0, 0, 0), (61, .bipush 100, 100, 0, 0, 0), (63, .idiv, 0, 0, 0, 0), (64, .aload 8, 0, 8, 0, 0), (66, .getfield 54, 0, 4, 5, 2), (69, .iload_n 2, 0, 2, 0, 0), (70, .iload_n 3, 0, 3, 0, 0), (71, .invokevirtual 58, 0, 45, 3, 6), (74, .isub, 0, 0, 0, 0), (75, .iadd, 0, 0, 0, 0), (76, .istore 6, 0, 6, 0, 0), (78, .aload_n 0, 0, 0, 0, 0), (79, .getfield 9, 0, 2, 0, 2), (82, .iload 7, 0, 7, 0, 0), (84, .iload 5, 0, 5, 0, 0), (86, .iastore, 0, 0, 0, 0), (87, .aload_n 0, 0, 0, 0, 0), (88, .getfield 15, 0, 2, 1, 2), (91, .iload 7, 0, 7, 0, 0), (93, .iload 6, 0, 6, 0, 0), (95, .iastore, 0, 0, 0, 0), (96, .iinc 7 (-1), (-1), 7, 0, 0), (99, .goto (-79), 0, 90, 0, 0)]
def kX2_sumLoads_102 : List e_Op := [(102, .return_, 0, 0, 0, 0)]
def kX2_findVoltages_0 : List e_Op := [(0, .aload_n 1, 0, 1, 0, 0), (1, .getfield 64, 0, 1, 1, 0), (4, .istore 4, 0, 4, 0, 0), (6, .aload_n 0, 0, 0, 0, 0), (7, .getfield 18, 0, 2, 2, 2), (10, .iconst 0, 0, 0, 0, 0), (11, .iload 4, 0, 4, 0, 0), (13, .iastore, 0, 0, 0, 0), (14, .iconst 1, 1, 0, 0, 0), (15, .istore 5, 0, 5, 0, 0), (17, .nop, 0, 93, 0, 0)]
def kX2_findVoltages_17 : List e_Op := [(17, .iload 5, 0, 5, 0, 0), (19, .aload_n 1, 0, 1, 0, 0), (20, .getfield 38, 0, 1, 2, 0), (23, .if_icmp .gt 105, 0, 96, 0, 0), (26, .aload_n 1, 0, 1, 0, 0), (27, .getfield 42, 0, 1, 5, 2), (30, .iload 5, 0, 5, 0, 0), (32, .aaload, 0, 0, 0, 0), (33, .astore 6, 0, 6, 0, 0), (35, .iload 5, 0, 5, 0, 0), (37, .iload_n 2, 0, 2, 0, 0), (38, .if_icmp .ne 7, 0, 94, 0, 0), (41, .iload_n 3, 0, 3, 0, 0), (42, .goto 11, 0, 95, 0, 0)]
def kX2_findVoltages_45 : List e_Op := [(45, .aload 6, 0, 6, 0, 0), (47, .getfield 67, 0, 4, 4, 2), (50, .getfield 71, 0, 7, 5, 0), (53, .nop, 0, 95, 0, 0)]
def kX2_findVoltages_53 : List e_Op := [(53, .istore 7, 0, 7, 0, 0), (55, .iload 4, 0, 4, 0, 0), (57, .sipush 160, 160, 0, 0, 0), (60, .iload 7, 0, 7, 0, 0), (62, .iadd, 0, 0, 0, 0), (63, .imul, 0, 0, 0, 0), (64, .sipush 160, 160, 0, 0, 0), (67, .idiv, 0, 0, 0, 0), (68, .istore 8, 0, 8, 0, 0), (70, .iload 8, 0, 8, 0, 0), (72, .aload 6, 0, 6, 0, 0), (74, .getfield 76, 0, 4, 0, 0), (77, .aload_n 0, 0, 0, 0, 0), (78, .getfield 9, 0, 2, 0, 2), (81, .iload 5, 0, 5, 0, 0), (83, .iaload, 0, 0, 0, 0), (84, .imul, 0, 0, 0, 0), (85, .aload 6, 0, 6, 0, 0), (87, .getfield 79, 0, 4, 1, 0), (90, .aload_n 0, 0, 0, 0, 0), (91, .getfield 15, 0, 2, 1, 2), (94, .iload 5, 0, 5, 0, 0), (96, .iaload, 0, 0, 0, 0), (97, .imul, 0, 0, 0, 0), (98, .iadd, 0, 0, 0, 0), (99, .bipush 100, 100, 0, 0, 0), (101, .idiv, 0, 0, 0, 0), (102, .isub, 0, 0, 0, 0), (103, .istore 9, 0, 9, 0, 0), (105, .iload 9, 0, 9, 0, 0), (107, .iconst 0, 0, 0, 0, 0), (108, .invokestatic 82, 0, 0, 0, 991), (111, .istore 4, 0, 4, 0, 0), (113, .aload_n 0, 0, 0, 0, 0), (114, .getfield 18, 0, 2, 2, 2), (117, .iload 5, 0, 5, 0, 0), (119, .iload 4, 0, 4, 0, 0), (121, .iastore, 0, 0, 0, 0), (122, .iinc 5 1, 1, 5, 0, 0), (125, .goto (-108), 0, 93, 0, 0)]
def kX2_findVoltages_128 : List e_Op := [(128, .return_, 0, 0, 0, 0)]
def kX2_countBadNodes_0 : List e_Op := [(0, .iconst 0, 0, 0, 0, 0), (1, .istore_n 2, 0, 2, 0, 0), (2, .iconst 1, 1, 0, 0, 0), (3, .istore_n 3, 0, 3, 0, 0), (4, .nop, 0, 98, 0, 0)]
def kX2_countBadNodes_4 : List e_Op := [(4, .iload_n 3, 0, 3, 0, 0), (5, .iload_n 1, 0, 1, 0, 0), (6, .if_icmp .gt 36, 0, 100, 0, 0), (9, .iload_n 3, 0, 3, 0, 0), (10, .bipush 8, 8, 0, 0, 0), (12, .if_icmp .gt 30, 0, 100, 0, 0), (15, .aload_n 0, 0, 0, 0, 0), (16, .getfield 18, 0, 2, 2, 2), (19, .iload_n 3, 0, 3, 0, 0), (20, .iaload, 0, 0, 0, 0), (21, .sipush 9500, 9500, 0, 0, 0), (24, .sipush 10500, 10500, 0, 0, 0), (27, .invokestatic 88, 0, 284, 3, 79), (30, .ifCond .ne 6, 0, 99, 0, 0), (33, .iinc 2 1, 1, 2, 0, 0), (36, .nop, 0, 99, 0, 0)]
def kX2_countBadNodes_36 : List e_Op := [(36, .iinc 3 1, 1, 3, 0, 0), (39, .goto (-35), 0, 98, 0, 0)]
def kX2_countBadNodes_42 : List e_Op := [(42, .iload_n 2, 0, 2, 0, 0), (43, .ireturn, 0, 0, 0, 0)]
def kX3_init_0 : List e_Op := [(0, .aload_n 0, 0, 0, 0, 0), (1, .invokespecial 3, 0, 0, 0, 999), (4, .aload_n 0, 0, 0, 0, 0), (5, .iconst 3, 3, 0, 0, 0), (6, .anewarray 9, 0, 12, 1, 0), (9, .putfield 11, 0, 3, 0, 2), (12, .iconst 0, 0, 0, 0, 0), (13, .istore_n 1, 0, 1, 0, 0), (14, .nop, 0, 102, 0, 0)]
def kX3_init_14 : List e_Op := [(14, .iload_n 1, 0, 1, 0, 0), (15, .iconst 3, 3, 0, 0, 0), (16, .if_icmp .ge 22, 0, 103, 0, 0), (19, .aload_n 0, 0, 0, 0, 0), (20, .getfield 11, 0, 3, 0, 2), (23, .iload_n 1, 0, 1, 0, 0), (24, .new 9, 0, 1, 6, 0), (27, .dup, 0, 0, 0, 0), (28, .invokespecial 17, 0, 63, 1, 10), (31, .aastore, 0, 0, 0, 0), (32, .iinc 1 1, 1, 1, 0, 0), (35, .goto (-21), 0, 102, 0, 0)]
def kX3_init_38 : List e_Op := [(38, .return_, 0, 0, 0, 0)]
def kX3_save_0 : List e_Op := [(0, .aload_n 0, 0, 0, 0, 0), (1, .getfield 18, 0, 3, 1, 0), (4, .iconst 3, 3, 0, 0, 0), (5, .if_icmp .lt 7, 0, 105, 0, 0), (8, .aload_n 0, 0, 0, 0, 0), (9, .invokevirtual 22, 0, 106, 1, 24), (12, .nop, 0, 105, 0, 0)]
def kX3_save_12 : List e_Op := [(12, .aload_n 0, 0, 0, 0, 0), (13, .getfield 11, 0, 3, 0, 2), (16, .aload_n 0, 0, 0, 0, 0), (17, .getfield 18, 0, 3, 1, 0), (20, .aaload, 0, 0, 0, 0), (21, .aload_n 1, 0, 1, 0, 0), (22, .invokevirtual 25, 0, 68, 2, 11), (25, .aload_n 0, 0, 0, 0, 0), (26, .dup, 0, 0, 0, 0), (27, .getfield 18, 0, 3, 1, 0), (30, .iconst 1, 1, 0, 0, 0), (31, .iadd, 0, 0, 0, 0), (32, .putfield 18, 0, 3, 1, 0), (35, .return_, 0, 0, 0, 0)]
def kX3_dropOldest_0 : List e_Op := [(0, .aload_n 0, 0, 0, 0, 0), (1, .getfield 11, 0, 3, 0, 2), (4, .iconst 0, 0, 0, 0, 0), (5, .aaload, 0, 0, 0, 0), (6, .astore_n 1, 0, 1, 0, 0), (7, .iconst 1, 1, 0, 0, 0), (8, .istore_n 2, 0, 2, 0, 0), (9, .nop, 0, 107, 0, 0)]
def kX3_dropOldest_9 : List e_Op := [(9, .iload_n 2, 0, 2, 0, 0), (10, .iconst 3, 3, 0, 0, 0), (11, .if_icmp .ge 23, 0, 108, 0, 0), (14, .aload_n 0, 0, 0, 0, 0), (15, .getfield 11, 0, 3, 0, 2), (18, .iload_n 2, 0, 2, 0, 0), (19, .iconst 1, 1, 0, 0, 0), (20, .isub, 0, 0, 0, 0), (21, .aload_n 0, 0, 0, 0, 0), (22, .getfield 11, 0, 3, 0, 2), (25, .iload_n 2, 0, 2, 0, 0), (26, .aaload, 0, 0, 0, 0), (27, .aastore, 0, 0, 0, 0), (28, .iinc 2 1, 1, 2, 0, 0), (31, .goto (-22), 0, 107, 0, 0)]
def kX3_dropOldest_34 : List e_Op := [(34, .aload_n 0, 0, 0, 0, 0), (35, .getfield 11, 0, 3, 0, 2), (38, .iconst 2, 2, 0, 0, 0), (39, .aload_n 1, 0, 1, 0, 0), (40, .aastore, 0, 0, 0, 0), (41, .aload_n 0, 0, 0, 0, 0), (42, .iconst 2, 2, 0, 0, 0), (43, .putfield 18, 0, 3, 1, 0), (46, .return_, 0, 0, 0, 0)]
def kX3_restore_0 : List e_Op := [(0, .aload_n 0, 0, 0, 0, 0), (1, .dup, 0, 0, 0, 0), (2, .getfield 18, 0, 3, 1, 0), (5, .iconst 1, 1, 0, 0, 0), (6, .isub, 0, 0, 0, 0), (7, .putfield 18, 0, 3, 1, 0), (10, .aload_n 1, 0, 1, 0, 0), (11, .aload_n 0, 0, 0, 0, 0), (12, .getfield 11, 0, 3, 0, 2), (15, .aload_n 0, 0, 0, 0, 0), (16, .getfield 18, 0, 3, 1, 0), (19, .aaload, 0, 0, 0, 0), (20, .invokevirtual 25, 0, 68, 2, 11), (23, .return_, 0, 0, 0, 0)]
def kX4_init_0 : List e_Op := [(0, .aload_n 0, 0, 0, 0, 0), (1, .invokespecial 1, 0, 0, 0, 999), (4, .aload_n 0, 0, 0, 0, 0), (5, .new 7, 0, 7, 12, 0), (8, .dup, 0, 0, 0, 0), (9, .invokespecial 9, 0, 164, 1, 40), (12, .putfield 10, 0, 4, 4, 2), (15, .aload_n 0, 0, 0, 0, 0), (16, .new 16, 0, 0, 8, 0), (19, .dup, 0, 0, 0, 0), (20, .invokespecial 18, 0, 31, 1, 1), (23, .putfield 19, 0, 4, 5, 2), (26, .return_, 0, 0, 0, 0)]
def kX4_copyFrom_0 : List e_Op := [(0, .aload_n 0, 0, 0, 0, 0), (1, .aload_n 1, 0, 1, 0, 0), (2, .getfield 23, 0, 4, 0, 0), (5, .putfield 23, 0, 4, 0, 0), (8, .aload_n 0, 0, 0, 0, 0), (9, .aload_n 1, 0, 1, 0, 0), (10, .getfield 27, 0, 4, 1, 0), (13, .putfield 27, 0, 4, 1, 0), (16, .aload_n 0, 0, 0, 0, 0), (17, .aload_n 1, 0, 1, 0, 0), (18, .getfield 30, 0, 4, 2, 0), (21, .putfield 30, 0, 4, 2, 0), (24, .aload_n 0, 0, 0, 0, 0), (25, .aload_n 1, 0, 1, 0, 0), (26, .getfield 33, 0, 4, 3, 0), (29, .putfield 33, 0, 4, 3, 0), (32, .aload_n 0, 0, 0, 0, 0), (33, .getfield 10, 0, 4, 4, 2), (36, .aload_n 1, 0, 1, 0, 0), (37, .getfield 10, 0, 4, 4, 2), (40, .invokevirtual 36, 0, 165, 2, 41), (43, .aload_n 0, 0, 0, 0, 0), (44, .getfield 19, 0, 4, 5, 2), (47, .aload_n 1, 0, 1, 0, 0), (48, .getfield 19, 0, 4, 5, 2), (51, .invokevirtual 40, 0, 32, 2, 2), (54, .return_, 0, 0, 0, 0)]
def kX5_init_0 : List e_Op := [(0, .aload_n 0, 0, 0, 0, 0), (1, .invokespecial 3, 0, 0, 0, 999), (4, .aload_n 0, 0, 0, 0, 0), (5, .new 9, 0, 2, 3, 0), (8, .dup, 0, 0, 0, 0), (9, .invokespecial 11, 0, 87, 1, 17), (12, .putfield 12, 0, 5, 0, 2), (15, .aload_n 0, 0, 0, 0, 0), (16, .bipush 24, 24, 0, 0, 0), (18, .bipush 33, 33, 0, 0, 0), (20, .multianewarray 18 2, 0, 14, 0, 0), (24, .putfield 20, 0, 5, 1, 2), (27, .aload_n 0, 0, 0, 0, 0), (28, .bipush 33, 33, 0, 0, 0), (30, .newarray .int, 0, 10, 0, 0), (32, .putfield 23, 0, 5, 2, 2), (35, .aload_n 0, 0, 0, 0, 0), (36, .bipush 24, 24, 0, 0, 0), (38, .newarray .int, 0, 10, 0, 0), (40, .putfield 27, 0, 5, 3, 2), (43, .return_, 0, 0, 0, 0)]
def kX5_makePlan_0 : List e_Op := [(0, .iconst 0, 0, 0, 0, 0), (1, .istore_n 3, 0, 3, 0, 0), (2, .nop, 0, 114, 0, 0)]
def kX5_makePlan_2 : List e_Op := [(2, .iload_n 3, 0, 3, 0, 0), (3, .bipush 33, 33, 0, 0, 0), (5, .if_icmp .ge 16, 0, 115, 0, 0), (8, .aload_n 0, 0, 0, 0, 0), (9, .getfield 23, 0, 5, 2, 2), (12, .iload_n 3, 0, 3, 0, 0), (13, .iconst 0, 0, 0, 0, 0), (14, .iastore, 0, 0, 0, 0), (15, .iinc 3 1, 1, 3, 0, 0), (18, .goto (-16), 0, 114, 0, 0)]
def kX5_makePlan_21 : List e_Op := [(21, .bipush 23, 23, 0, 0, 0), (23, .istore_n 3, 0, 3, 0, 0), (24, .nop, 0, 116, 0, 0)]
def kX5_makePlan_24 : List e_Op := [(24, .iload_n 3, 0, 3, 0, 0), (25, .ifCond .lt 21, 0, 117, 0, 0), (28, .aload_n 0, 0, 0, 0, 0), (29, .aload_n 1, 0, 1, 0, 0), (30, .iload_n 2, 0, 2, 0, 0), (31, .iload_n 3, 0, 3, 0, 0), (32, .invokevirtual 30, 0, 119, 4, 30), (35, .aload_n 0, 0, 0, 0, 0), (36, .iload_n 3, 0, 3, 0, 0), (37, .invokevirtual 34, 0, 126, 2, 31), (40, .iinc 3 (-1), (-1), 3, 0, 0), (43, .goto (-19), 0, 116, 0, 0)]
def kX5_makePlan_46 : List e_Op := [(46, .aload_n 1, 0, 1, 0, 0), (47, .getfield 38, 0, 1, 5, 2), (50, .iload_n 2, 0, 2, 0, 0), (51, .aaload, 0, 0, 0, 0), (52, .getfield 44, 0, 4, 4, 2), (55, .getfield 50, 0, 7, 5, 0), (58, .bipush 16, 16, 0, 0, 0), (60, .iadd, 0, 0, 0, 0), (61, .istore_n 3, 0, 3, 0, 0), (62, .aload_n 0, 0, 0, 0, 0), (63, .aload_n 0, 0, 0, 0, 0), (64, .getfield 23, 0, 5, 2, 2), (67, .iload_n 3, 0, 3, 0, 0), (68, .iaload, 0, 0, 0, 0), (69, .putfield 56, 0, 5, 4, 0), (72, .aload_n 0, 0, 0, 0, 0), (73, .getfield 56, 0, 5, 4, 0), (76, .ldc 59, 1000000, 0, 0, 0), (78, .if_icmp .lt 5, 0, 118, 0, 0), (81, .iconst 0, 0, 0, 0, 0), (82, .ireturn, 0, 1, 0, 0)]
def kX5_makePlan_83 : List e_Op := [(83, .aload_n 0, 0, 0, 0, 0), (84, .iload_n 3, 0, 3, 0, 0), (85, .invokevirtual 60, 0, 133, 2, 32), (88, .iconst 1, 1, 0, 0, 0), (89, .ireturn, 0, 1, 0, 0)]
def kX5_countStepsAfter_0 : List e_Op := [(0, .aload_n 0, 0, 0, 0, 0), (1, .getfield 12, 0, 5, 0, 2), (4, .aload_n 1, 0, 1, 0, 0), (5, .iload_n 3, 0, 3, 0, 0), (6, .iconst 1, 1, 0, 0, 0), (7, .invokevirtual 63, 0, 89, 4, 19), (10, .iconst 0, 0, 0, 0, 0), (11, .istore 4, 0, 4, 0, 0), (13, .nop, 0, 120, 0, 0)]
def kX5_countStepsAfter_13 : List e_Op := [(13, .iload 4, 0, 4, 0, 0), (15, .bipush 33, 33, 0, 0, 0), (17, .if_icmp .ge 70, 0, 125, 0, 0), (20, .aload_n 0, 0, 0, 0, 0), (21, .getfield 12, 0, 5, 0, 2), (24, .aload_n 1, 0, 1, 0, 0), (25, .iload_n 2, 0, 2, 0, 0), (26, .iload 4, 0, 4, 0, 0), (28, .bipush 16, 16, 0, 0, 0), (30, .isub, 0, 0, 0, 0), (31, .invokevirtual 67, 0, 92, 4, 20), (34, .aload_n 0, 0, 0, 0, 0), (35, .getfield 12, 0, 5, 0, 2), (38, .aload_n 1, 0, 1, 0, 0), (39, .getfield 70, 0, 1, 2, 0), (42, .invokevirtual 73, 0, 97, 2, 21), (45, .ifCond .ne 7, 0, 121, 0, 0), (48, .iconst 1, 1, 0, 0, 0), (49, .goto 4, 0, 122, 0, 0)]
def kX5_countStepsAfter_52 : List e_Op := [(52, .iconst 0, 0, 0, 0, 0), (53, .nop, 0, 122, 0, 0)]
def kX5_countStepsAfter_53 : List e_Op := [(53, .istore 5, 0, 5, 0, 0), (55, .aload_n 0, 0, 0, 0, 0), (56, .getfield 20, 0, 5, 1, 2), (59, .iload_n 3, 0, 3, 0, 0), (60, .aaload, 0, 0, 0, 0), (61, .iload 4, 0, 4, 0, 0), (63, .iload 5, 0, 5, 0, 0), (65, .ifCond .eq 13, 0, 123, 0, 0), (68, .aload_n 0, 0, 0, 0, 0), (69, .getfield 23, 0, 5, 2, 2), (72, .iload 4, 0, 4, 0, 0), (74, .iaload, 0, 0, 0, 0), (75, .goto 5, 0, 124, 0, 0)]
def kX5_countStepsAfter_78 : List e_Op := [(78, .ldc 59, 1000000, 0, 0, 0), (80, .nop, 0, 124, 0, 0)]
def kX5_countStepsAfter_80 : List e_Op := [(80, .iastore, 0, 0, 0, 0), (81, .iinc 4 1, 1, 4, 0, 0), (84, .goto (-71), 0, 120, 0, 0)]
def kX5_countStepsAfter_87 : List e_Op := [(87, .return_, 0, 0, 0, 0)]
def kX5_countStepsFrom_0 : List e_Op := [(0, .iconst 0, 0, 0, 0, 0), (1, .istore_n 2, 0, 2, 0, 0), (2, .nop, 0, 127, 0, 0)]
def kX5_countStepsFrom_2 : List e_Op := [(2, .iload_n 2, 0, 2, 0, 0), (3, .bipush 33, 33, 0, 0, 0), (5, .if_icmp .ge 23, 0, 128, 0, 0), (8, .aload_n 0, 0, 0, 0, 0), (9, .getfield 23, 0, 5, 2, 2), (12, .iload_n 2, 0, 2, 0, 0), (13, .aload_n 0, 0, 0, 0, 0), (14, .getfield 20, 0, 5, 1, 2), (17, .iload_n 1, 0, 1, 0, 0), (18, .aaload, 0, 0, 0, 0), (19, .iload_n 2, 0, 2, 0, 0), (20, .iaload, 0, 0, 0, 0), (21, .iastore, 0, 0, 0, 0), (22, .iinc 2 1, 1, 2, 0, 0), (25, .goto (-23), 0, 127, 0, 0)]
def kX5_countStepsFrom_28 : List e_Op := [(28, .iconst 1, 1, 0, 0, 0), (29, .istore_n 2, 0, 2, 0, 0), (30, .nop, 0, 129, 0, 0)]
def kX5_countStepsFrom_30 : List e_Op := [(30, .iload_n 2, 0, 2, 0, 0), (31, .bipush 33, 33, 0, 0, 0), (33, .if_icmp .ge 34, 0, 130, 0, 0), (36, .aload_n 0, 0, 0, 0, 0), (37, .getfield 23, 0, 5, 2, 2), (40, .iload_n 2, 0, 2, 0, 0), (41, .aload_n 0, 0, 0, 0, 0), (42, .getfield 23, 0, 5, 2, 2), (45, .iload_n 2, 0, 2, 0, 0), (46, .iaload, 0, 0, 0, 0), (47, .aload_n 0, 0, 0, 0, 0), (48, .getfield 23, 0, 5, 2, 2), (51, .iload_n 2, 0, 2, 0, 0), (52, .iconst 1, 1, 0, 0, 0), (53, .isub, 0, 0, 0, 0), (54, .iaload, 0, 0, 0, 0), (55, .iconst 1, 1, 0, 0, 0), (56, .iadd, 0, 0, 0, 0), (57, .invokestatic 77, 0, 0, 0, 992), (60, .iastore, 0, 0, 0, 0), (61, .iinc 2 1, 1, 2, 0, 0), (64, .goto (-34), 0, 129, 0, 0)]
def kX5_countStepsFrom_67 : List e_Op := [(67, .bipush 31, 31, 0, 0, 0), (69, .istore_n 2, 0, 2, 0, 0), (70, .nop, 0, 131, 0, 0)]
def kX5_countStepsFrom_70 : List e_Op := [(70, .iload_n 2, 0, 2, 0, 0), (71, .ifCond .lt 34, 0, 132, 0, 0), (74, .aload_n 0, 0, 0, 0, 0), (75, .getfield 23, 0, 5, 2, 2), (78, .iload_n 2, 0, 2, 0, 0), (79, .aload_n 0, 0, 0, 0, 0), (80, .getfield 23, 0, 5, 2, 2), (83, .iload_n 2, 0, 2, 0, 0), (84, .iaload, 0, 0, 0, 0), (85, .aload_n 0, 0, 0, 0, 0), (86, .getfield 23, 0, 5, 2, 2), (89, .iload_n 2, 0, 2, 0, 0), (90, .iconst 1, 1, 0, 0, 0), (91, .iadd, 0, 0, 0, 0), (92, .iaload, 0, 0, 0, 0), (93, .iconst 1, 1, 0, 0, 0), (94, .iadd, 0, 0, 0, 0), (95, .invokestatic 77, 0, 0, 0, 992), (98, .iastore, 0, 0, 0, 0), (99, .iinc 2 (-1), (-1), 2, 0, 0), (102, .goto (-32), 0, 131, 0, 0)]
def kX5_countStepsFrom_105 : List e_Op := [(105, .return_, 0, 0, 0, 0)]
def kX5_chooseTaps_0 : List e_Op := [(0, .iload_n 1, 0, 1, 0, 0), (1, .istore_n 2, 0, 2, 0, 0), (2, .iconst 0, 0, 0, 0, 0), (3, .istore_n 3, 0, 3, 0, 0), (4, .nop, 0, 134, 0, 0)]
def kX5_chooseTaps_4 : List e_Op := [(4, .iload_n 3, 0, 3, 0, 0), (5, .bipush 24, 24, 0, 0, 0), (7, .if_icmp .ge 80, 0, 138, 0, 0), (10, .iconst 0, 0, 0, 0, 0), (11, .istore 4, 0, 4, 0, 0), (13, .ldc 85, 2147483647, 0, 0, 0), (15, .istore 5, 0, 5, 0, 0), (17, .iconst 0, 0, 0, 0, 0), (18, .istore 6, 0, 6, 0, 0), (20, .nop, 0, 135, 0, 0)]
def kX5_chooseTaps_20 : List e_Op := [(20, .iload 6, 0, 6, 0, 0), (22, .bipush 33, 33, 0, 0, 0), (24, .if_icmp .ge 43, 0, 137, 0, 0), (27, .iload 6, 0, 6, 0, 0), (29, .iload_n 2, 0, 2, 0, 0), (30, .isub, 0, 0, 0, 0), (31, .invokestatic 86, 0, 0, 0, 993), (34, .aload_n 0, 0, 0, 0, 0), (35, .getfield 20, 0, 5, 1, 2), (38, .iload_n 3, 0, 3, 0, 0), (39, .aaload, 0, 0, 0, 0), (40, .iload 6, 0, 6, 0, 0), (42, .iaload, 0, 0, 0, 0), (43, .iadd, 0, 0, 0, 0), (44, .istore 7, 0, 7, 0, 0), (46, .iload 7, 0, 7, 0, 0), (48, .iload 5, 0, 5, 0, 0), (50, .if_icmp .ge 11, 0, 136, 0, 0), (53, .iload 6, 0, 6, 0, 0), (55, .istore 4, 0, 4, 0, 0), (57, .iload 7, 0, 7, 0, 0), (59, .istore 5, 0, 5, 0, 0), (61, .nop, 0, 136, 0, 0)]
def kX5_chooseTaps_61 : List e_Op := [(61, .iinc 6 1, 1, 6, 0, 0), (64, .goto (-44), 0, 135, 0, 0)]
def kX5_chooseTaps_67 : List e_Op := [(67, .aload_n 0, 0, 0, 0, 0), (68, .getfield 27, 0, 5, 3, 2), (71, .iload_n 3, 0, 3, 0, 0), (72, .iload 4, 0, 4, 0, 0), (74, .bipush 16, 16, 0, 0, 0), (76, .isub, 0, 0, 0, 0), (77, .iastore, 0, 0, 0, 0), (78, .iload 4, 0, 4, 0, 0), (80, .istore_n 2, 0, 2, 0, 0), (81, .iinc 3 1, 1, 3, 0, 0), (84, .goto (-80), 0, 134, 0, 0)]
def kX5_chooseTaps_87 : List e_Op := [(87, .return_, 0, 0, 0, 0)]
def kX6_init_0 : List e_Op := [(0, .aload_n 0, 0, 0, 0, 0), (1, .invokespecial 3, 0, 0, 0, 999), (4, .aload_n 0, 0, 0, 0, 0), (5, .bipush 120, 120, 0, 0, 0), (7, .newarray .byte, 0, 11, 0, 0), (9, .putfield 9, 0, 6, 0, 2), (12, .return_, 0, 0, 0, 0)]
def kX6_readItems_0 : List e_Op := [(0, .aload_n 0, 0, 0, 0, 0), (1, .iconst 0, 0, 0, 0, 0), (2, .putfield 15, 0, 6, 2, 0), (5, .aload_n 0, 0, 0, 0, 0), (6, .iconst (-1), (-1), 0, 0, 0), (7, .putfield 19, 0, 6, 3, 0), (10, .iconst 0, 0, 0, 0, 0), (11, .istore_n 2, 0, 2, 0, 0), (12, .aload_n 0, 0, 0, 0, 0), (13, .invokevirtual 22, 0, 162, 1, 39), (16, .aload_n 0, 0, 0, 0, 0), (17, .getfield 25, 0, 6, 1, 0), (20, .istore_n 3, 0, 3, 0, 0), (21, .nop, 0, 141, 0, 0)]
def kX6_readItems_21 : List e_Op := [(21, .iload_n 3, 0, 3, 0, 0), (22, .ifCond .le 39, 0, 142, 0, 0), (25, .aload_n 0, 0, 0, 0, 0), (26, .getfield 15, 0, 6, 2, 0), (29, .aload_n 0, 0, 0, 0, 0), (30, .getfield 25, 0, 6, 1, 0), (33, .if_icmp .ge 28, 0, 142, 0, 0), (36, .aload_n 0, 0, 0, 0, 0), (37, .getfield 19, 0, 6, 3, 0), (40, .ifCond .ge 21, 0, 142, 0, 0), (43, .aload_n 0, 0, 0, 0, 0), (44, .aload_n 1, 0, 1, 0, 0), (45, .invokevirtual 28, 0, 143, 2, 35), (48, .aload_n 0, 0, 0, 0, 0), (49, .invokevirtual 22, 0, 162, 1, 39), (52, .iinc 2 1, 1, 2, 0, 0), (55, .iinc 3 (-1), (-1), 3, 0, 0), (58, .goto (-37), 0, 141, 0, 0)]
def kX6_readItems_61 : List e_Op := [(61, .iload_n 2, 0, 2, 0, 0), (62, .ireturn, 0, 0, 0, 0)]
def kX6_readItem_0 : List e_Op := [(0, .aload_n 0, 0, 0, 0, 0), (1, .iconst 0, 0, 0, 0, 0), (2, .bipush 23, 23, 0, 0, 0), (4, .invokevirtual 32, 0, 148, 3, 36), (7, .istore_n 2, 0, 2, 0, 0), (8, .iload_n 2, 0, 2, 0, 0), (9, .istore_n 3, 0, 3, 0, 0), (10, .aload_n 0, 0, 0, 0, 0), (11, .bipush 45, 45, 0, 0, 0), (13, .invokevirtual 36, 0, 155, 2, 37), (16, .ifCond .eq 17, 0, 144, 0, 0), (19, .aload_n 0, 0, 0, 0, 0), (20, .bipush 45, 45, 0, 0, 0), (22, .invokevirtual 40, 0, 158, 2, 38), (25, .aload_n 0, 0, 0, 0, 0), (26, .iload_n 2, 0, 2, 0, 0), (27, .bipush 23, 23, 0, 0, 0), (29, .invokevirtual 32, 0, 148, 3, 36), (32, .istore_n 3, 0, 3, 0, 0), (33, .nop, 0, 144, 0, 0)]
def kX6_readItem_33 : List e_Op := [(33, .aload_n 0, 0, 0, 0, 0), (34, .bipush 58, 58, 0, 0, 0), (36, .invokevirtual 40, 0, 158, 2, 38), (39, .aload_n 0, 0, 0, 0, 0), (40, .iconst 0, 0, 0, 0, 0), (41, .sipush 200, 200, 0, 0, 0), (44, .invokevirtual 32, 0, 148, 3, 36), (47, .istore 4, 0, 4, 0, 0), (49, .aload_n 0, 0, 0, 0, 0), (50, .bipush 59, 59, 0, 0, 0), (52, .invokevirtual 40, 0, 158, 2, 38), (55, .aload_n 0, 0, 0, 0, 0), (56, .getfield 19, 0, 6, 3, 0), (59, .ifCond .lt 4, 0, 145, 0, 0), (62, .return_, 0, 0, 0, 0)]
def kX6_readItem_63 : List e_Op := [(63, .iload_n 2, 0, 2, 0, 0), (64, .istore 5, 0, 5, 0, 0), (66, .nop, 0, 146, 0, 0)]
def kX6_readItem_66 : List e_Op := [(66, .iload 5, 0, 5, 0, 0), (68, .iload_n 3, 0, 3, 0, 0), (69, .if_icmp .gt 15, 0, 147, 0, 0), (72, .aload_n 1, 0, 1, 0, 0), (73, .iload 5, 0, 5, 0, 0), (75, .iload 4, 0, 4, 0, 0), (77, .iastore, 0, 0, 0, 0), (78, .iinc 5 1, 1, 5, 0, 0), (81, .goto (-15), 0, 146, 0, 0)]
def kX6_readItem_84 : List e_Op := [(84, .return_, 0, 0, 0, 0)]
def kX6_readNumber_0 : List e_Op := [(0, .aload_n 0, 0, 0, 0, 0), (1, .getfield 19, 0, 6, 3, 0), (4, .ifCond .lt 5, 0, 149, 0, 0), (7, .iload_n 1, 0, 1, 0, 0), (8, .ireturn, 0, 0, 0, 0)]
def kX6_readNumber_9 : List e_Op := [(9, .aload_n 0, 0, 0, 0, 0), (10, .invokevirtual 22, 0, 162, 1, 39), (13, .aload_n 0, 0, 0, 0, 0), (14, .getfield 15, 0, 6, 2, 0), (17, .istore_n 3, 0, 3, 0, 0), (18, .iconst 0, 0, 0, 0, 0), (19, .istore 4, 0, 4, 0, 0), (21, .nop, 0, 150, 0, 0)]
def kX6_readNumber_21 : List e_Op := [(21, .aload_n 0, 0, 0, 0, 0), (22, .getfield 15, 0, 6, 2, 0), (25, .aload_n 0, 0, 0, 0, 0), (26, .getfield 25, 0, 6, 1, 0), (29, .if_icmp .ge 75, 0, 152, 0, 0), (32, .aload_n 0, 0, 0, 0, 0), (33, .getfield 9, 0, 6, 0, 2), (36, .aload_n 0, 0, 0, 0, 0), (37, .getfield 15, 0, 6, 2, 0), (40, .baload, 0, 0, 0, 0), (41, .bipush 48, 48, 0, 0, 0), (43, .bipush 57, 57, 0, 0, 0), (45, .invokestatic 44, 0, 284, 3, 79), (48, .ifCond .eq 56, 0, 152, 0, 0), (51, .aload_n 0, 0, 0, 0, 0), (52, .getfield 15, 0, 6, 2, 0), (55, .iload_n 3, 0, 3, 0, 0), (56, .isub, 0, 0, 0, 0), (57, .iconst 3, 3, 0, 0, 0), (58, .if_icmp .ne 13, 0, 151, 0, 0), (61, .aload_n 0, 0, 0, 0, 0), (62, .aload_n 0, 0, 0, 0, 0), (63, .getfield 15, 0, 6, 2, 0), (66, .putfield 19, 0, 6, 3, 0), (69, .iload_n 1, 0, 1, 0, 0), (70, .ireturn, 0, 0, 0, 0)]
def kX6_readNumber_71 : List e_Op := [(71, .bipush 10, 10, 0, 0, 0), (73, .iload 4, 0, 4, 0, 0), (75, .imul, 0, 0, 0, 0), (76, .aload_n 0, 0, 0, 0, 0), (77, .getfield 9, 0, 6, 0, 2), (80, .aload_n 0, 0, 0, 0, 0), (81, .getfield 15, 0, 6, 2, 0), (84, .baload, 0, 0, 0, 0), (85, .iadd, 0, 0, 0, 0), (86, .bipush 48, 48, 0, 0, 0), (88, .isub, 0, 0, 0, 0), (89, .istore 4, 0, 4, 0, 0), (91, .aload_n 0, 0, 0, 0, 0), (92, .dup, 0, 0, 0, 0), (93, .getfield 15, 0, 6, 2, 0), (96, .iconst 1, 1, 0, 0, 0), (97, .iadd, 0, 0, 0, 0), (98, .putfield 15, 0, 6, 2, 0), (101, .goto (-80), 0, 150, 0, 0)]
def kX6_readNumber_104 : List e_Op := [(104, .aload_n 0, 0, 0, 0, 0), (105, .getfield 15, 0, 6, 2, 0), (108, .iload_n 3, 0, 3, 0, 0), (109, .if_icmp .eq 13, 0, 153, 0, 0), (112, .iload 4, 0, 4, 0, 0), (114, .iload_n 1, 0, 1, 0, 0), (115, .iload_n 2, 0, 2, 0, 0), (116, .invokestatic 44, 0, 284, 3, 79), (119, .ifCond .ne 10, 0, 154, 0, 0), (122, .nop, 0, 153, 0, 0)]
def kX6_readNumber_122 : List e_Op := [(122, .aload_n 0, 0, 0, 0, 0), (123, .iload_n 3, 0, 3, 0, 0), (124, .putfield 19, 0, 6, 3, 0), (127, .iload_n 1, 0, 1, 0, 0), (128, .ireturn, 0, 0, 0, 0)]
def kX6_readNumber_129 : List e_Op := [(129, .iload 4, 0, 4, 0, 0), (131, .ireturn, 0, 0, 0, 0)]
def kX6_isNext_0 : List e_Op := [(0, .aload_n 0, 0, 0, 0, 0), (1, .invokevirtual 22, 0, 162, 1, 39), (4, .aload_n 0, 0, 0, 0, 0), (5, .getfield 15, 0, 6, 2, 0), (8, .aload_n 0, 0, 0, 0, 0), (9, .getfield 25, 0, 6, 1, 0), (12, .if_icmp .ge 20, 0, 156, 0, 0), (15, .aload_n 0, 0, 0, 0, 0), (16, .getfield 9, 0, 6, 0, 2), (19, .aload_n 0, 0, 0, 0, 0), (20, .getfield 15, 0, 6, 2, 0), (23, .baload, 0, 0, 0, 0), (24, .iload_n 1, 0, 1, 0, 0), (25, .if_icmp .ne 7, 0, 156, 0, 0), (28, .iconst 1, 1, 0, 0, 0), (29, .goto 4, 0, 157, 0, 0)]
def kX6_isNext_32 : List e_Op := [(32, .iconst 0, 0, 0, 0, 0), (33, .nop, 0, 157, 0, 0)]
def kX6_isNext_33 : List e_Op := [(33, .ireturn, 0, 1, 0, 0)]
def kX6_expect_0 : List e_Op := [(0, .aload_n 0, 0, 0, 0, 0), (1, .getfield 19, 0, 6, 3, 0), (4, .ifCond .lt 4, 0, 159, 0, 0), (7, .return_, 0, 0, 0, 0)]
def kX6_expect_8 : List e_Op := [(8, .aload_n 0, 0, 0, 0, 0), (9, .iload_n 1, 0, 1, 0, 0), (10, .invokevirtual 36, 0, 155, 2, 37), (13, .ifCond .eq 16, 0, 160, 0, 0), (16, .aload_n 0, 0, 0, 0, 0), (17, .dup, 0, 0, 0, 0), (18, .getfield 15, 0, 6, 2, 0), (21, .iconst 1, 1, 0, 0, 0), (22, .iadd, 0, 0, 0, 0), (23, .putfield 15, 0, 6, 2, 0), (26, .goto 11, 0, 161, 0, 0)]
def kX6_expect_29 : List e_Op := [(29, .aload_n 0, 0, 0, 0, 0), (30, .aload_n 0, 0, 0, 0, 0), (31, .getfield 15, 0, 6, 2, 0), (34, .putfield 19, 0, 6, 3, 0), (37, .nop, 0, 161, 0, 0)]
def kX6_expect_37 : List e_Op := [(37, .return_, 0, 0, 0, 0)]
def kX6_skipSpaces_0 : List e_Op := [(0, .aload_n 0, 0, 0, 0, 0), (1, .getfield 15, 0, 6, 2, 0), (4, .aload_n 0, 0, 0, 0, 0), (5, .getfield 25, 0, 6, 1, 0), (8, .if_icmp .ge 30, 0, 163, 0, 0), (11, .aload_n 0, 0, 0, 0, 0), (12, .getfield 9, 0, 6, 0, 2), (15, .aload_n 0, 0, 0, 0, 0), (16, .getfield 15, 0, 6, 2, 0), (19, .baload, 0, 0, 0, 0), (20, .bipush 32, 32, 0, 0, 0), (22, .if_icmp .ne 16, 0, 163, 0, 0), (25, .aload_n 0, 0, 0, 0, 0), (26, .dup, 0, 0, 0, 0), (27, .getfield 15, 0, 6, 2, 0), (30, .iconst 1, 1, 0, 0, 0), (31, .iadd, 0, 0, 0, 0), (32, .putfield 15, 0, 6, 2, 0), (35, .goto (-35), 0, 162, 0, 0)]
def kX6_skipSpaces_38 : List e_Op := [(38, .return_, 0, 0, 0, 0)]
def kX7_init_0 : List e_Op := [(0, .aload_n 0, 0, 0, 0, 0), (1, .invokespecial 3, 0, 0, 0, 999), (4, .return_, 0, 0, 0, 0)]
def kX7_copyFrom_0 : List e_Op := [(0, .aload_n 0, 0, 0, 0, 0), (1, .aload_n 1, 0, 1, 0, 0), (2, .getfield 9, 0, 7, 0, 1), (5, .putfield 9, 0, 7, 0, 1), (8, .aload_n 0, 0, 0, 0, 0), (9, .aload_n 1, 0, 1, 0, 0), (10, .getfield 15, 0, 7, 1, 0), (13, .putfield 15, 0, 7, 1, 0), (16, .aload_n 0, 0, 0, 0, 0), (17, .aload_n 1, 0, 1, 0, 0), (18, .getfield 19, 0, 7, 2, 0), (21, .putfield 19, 0, 7, 2, 0), (24, .aload_n 0, 0, 0, 0, 0), (25, .aload_n 1, 0, 1, 0, 0), (26, .getfield 22, 0, 7, 3, 0), (29, .putfield 22, 0, 7, 3, 0), (32, .aload_n 0, 0, 0, 0, 0), (33, .aload_n 1, 0, 1, 0, 0), (34, .getfield 25, 0, 7, 4, 1), (37, .putfield 25, 0, 7, 4, 1), (40, .aload_n 0, 0, 0, 0, 0), (41, .aload_n 1, 0, 1, 0, 0), (42, .getfield 28, 0, 7, 5, 0), (45, .putfield 28, 0, 7, 5, 0), (48, .aload_n 0, 0, 0, 0, 0), (49, .aload_n 1, 0, 1, 0, 0), (50, .getfield 31, 0, 7, 6, 0), (53, .putfield 31, 0, 7, 6, 0), (56, .aload_n 0, 0, 0, 0, 0), (57, .aload_n 1, 0, 1, 0, 0), (58, .getfield 34, 0, 7, 7, 0), (61, .putfield 34, 0, 7, 7, 0), (64, .aload_n 0, 0, 0, 0, 0), (65, .aload_n 1, 0, 1, 0, 0), (66, .getfield 37, 0, 7, 8, 1), (69, .putfield 37, 0, 7, 8, 1), (72, .aload_n 0, 0, 0, 0, 0), (73, .aload_n 1, 0, 1, 0, 0), (74, .getfield 40, 0, 7, 9, 0), (77, .putfield 40, 0, 7, 9, 0), (80, .aload_n 0, 0, 0, 0, 0), (81, .aload_n 1, 0, 1, 0, 0), (82, .getfield 43, 0, 7, 10, 0), (85, .putfield 43, 0, 7, 10, 0), (88, .aload_n 0, 0, 0, 0, 0), (89, .aload_n 1, 0, 1, 0, 0), (90, .getfield 46, 0, 7, 11, 0), (93, .putfield 46, 0, 7, 11, 0), (96, .return_, 0, 0, 0, 0)]
def kX7_release_0 : List e_Op := [(0, .aload_n 0, 0, 0, 0, 0), (1, .iconst 0, 0, 0, 0, 0), (2, .putfield 37, 0, 7, 8, 1), (5, .aload_n 0, 0, 0, 0, 0), (6, .iconst 0, 0, 0, 0, 0), (7, .putfield 46, 0, 7, 11, 0), (10, .return_, 0, 0, 0, 0)]
def kX7_wantedDirection_0 : List e_Op := [(0, .aload_n 0, 0, 0, 0, 0), (1, .getfield 37, 0, 7, 8, 1), (4, .ifCond .ne 14, 0, 168, 0, 0), (7, .aload_n 0, 0, 0, 0, 0), (8, .getfield 25, 0, 7, 4, 1), (11, .ifCond .eq 9, 0, 169, 0, 0), (14, .iload_n 2, 0, 2, 0, 0), (15, .ifCond .ge 5, 0, 169, 0, 0), (18, .nop, 0, 168, 0, 0)]
def kX7_wantedDirection_18 : List e_Op := [(18, .iconst 0, 0, 0, 0, 0), (19, .ireturn, 0, 0, 0, 0)]
def kX7_wantedDirection_20 : List e_Op := [(20, .iload_n 1, 0, 1, 0, 0), (21, .aload_n 0, 0, 0, 0, 0), (22, .getfield 15, 0, 7, 1, 0), (25, .aload_n 0, 0, 0, 0, 0), (26, .getfield 19, 0, 7, 2, 0), (29, .isub, 0, 0, 0, 0), (30, .if_icmp .ge 14, 0, 170, 0, 0), (33, .aload_n 0, 0, 0, 0, 0), (34, .getfield 28, 0, 7, 5, 0), (37, .bipush 16, 16, 0, 0, 0), (39, .if_icmp .ge 5, 0, 170, 0, 0), (42, .iconst 1, 1, 0, 0, 0), (43, .ireturn, 0, 0, 0, 0)]
def kX7_wantedDirection_44 : List e_Op := [(44, .iload_n 1, 0, 1, 0, 0), (45, .aload_n 0, 0, 0, 0, 0), (46, .getfield 15, 0, 7, 1, 0), (49, .aload_n 0, 0, 0, 0, 0), (50, .getfield 19, 0, 7, 2, 0), (53, .iadd, 0, 0, 0, 0), (54, .if_icmp .le 16, 0, 171, 0, 0), (57, .aload_n 0, 0, 0, 0, 0), (58, .getfield 28, 0, 7, 5, 0), (61, .bipush (-16), (-16), 0, 0, 0), (63, .if_icmp .le 7, 0, 171, 0, 0), (66, .iconst (-1), (-1), 0, 0, 0), (67, .goto 4, 0, 172, 0, 0)]
def kX7_wantedDirection_70 : List e_Op := [(70, .iconst 0, 0, 0, 0, 0), (71, .nop, 0, 172, 0, 0)]
def kX7_wantedDirection_71 : List e_Op := [(71, .ireturn, 0, 0, 0, 0)]
def kX7_countMinute_0 : List e_Op := [(0, .iload_n 1, 0, 1, 0, 0), (1, .ifCond .ne 11, 0, 174, 0, 0), (4, .aload_n 0, 0, 0, 0, 0), (5, .iconst 0, 0, 0, 0, 0), (6, .putfield 31, 0, 7, 6, 0), (9, .goto 30, 0, 176, 0, 0)]
def kX7_countMinute_12 : List e_Op := [(12, .iload_n 1, 0, 1, 0, 0), (13, .aload_n 0, 0, 0, 0, 0), (14, .getfield 40, 0, 7, 9, 0), (17, .ineg, 0, 0, 0, 0), (18, .if_icmp .ne 11, 0, 175, 0, 0), (21, .aload_n 0, 0, 0, 0, 0), (22, .iconst 1, 1, 0, 0, 0), (23, .putfield 31, 0, 7, 6, 0), (26, .goto 13, 0, 176, 0, 0)]
def kX7_countMinute_29 : List e_Op := [(29, .aload_n 0, 0, 0, 0, 0), (30, .dup, 0, 0, 0, 0), (31, .getfield 31, 0, 7, 6, 0), (34, .iconst 1, 1, 0, 0, 0), (35, .iadd, 0, 0, 0, 0), (36, .putfield 31, 0, 7, 6, 0), (39, .nop, 0, 176, 0, 0)]
def kX7_countMinute_39 : List e_Op := [(39, .aload_n 0, 0, 0, 0, 0), (40, .iload_n 1, 0, 1, 0, 0), (41, .putfield 40, 0, 7, 9, 0), (44, .return_, 0, 0, 0, 0)]
def kX7_isDue_0 : List e_Op := [(0, .aload_n 0, 0, 0, 0, 0), (1, .getfield 40, 0, 7, 9, 0), (4, .ifCond .eq 18, 0, 178, 0, 0), (7, .aload_n 0, 0, 0, 0, 0), (8, .getfield 31, 0, 7, 6, 0), (11, .aload_n 0, 0, 0, 0, 0), (12, .getfield 22, 0, 7, 3, 0), (15, .if_icmp .le 7, 0, 178, 0, 0), (18, .iconst 1, 1, 0, 0, 0), (19, .goto 4, 0, 179, 0, 0)]
def kX7_isDue_22 : List e_Op := [(22, .iconst 0, 0, 0, 0, 0), (23, .nop, 0, 179, 0, 0)]
def kX7_isDue_23 : List e_Op := [(23, .ireturn, 0, 1, 0, 0)]
def kX7_makeStep_0 : List e_Op := [(0, .aload_n 0, 0, 0, 0, 0), (1, .getfield 43, 0, 7, 10, 0), (4, .aload_n 0, 0, 0, 0, 0), (5, .getfield 40, 0, 7, 9, 0), (8, .ineg, 0, 0, 0, 0), (9, .if_icmp .ne 30, 0, 183, 0, 0), (12, .aload_n 0, 0, 0, 0, 0), (13, .dup, 0, 0, 0, 0), (14, .getfield 46, 0, 7, 11, 0), (17, .iconst 1, 1, 0, 0, 0), (18, .iadd, 0, 0, 0, 0), (19, .putfield 46, 0, 7, 11, 0), (22, .aload_n 0, 0, 0, 0, 0), (23, .aload_n 0, 0, 0, 0, 0), (24, .getfield 46, 0, 7, 11, 0), (27, .iconst 3, 3, 0, 0, 0), (28, .if_icmp .lt 7, 0, 181, 0, 0), (31, .iconst 1, 1, 0, 0, 0), (32, .goto 4, 0, 182, 0, 0)]
def kX7_makeStep_35 : List e_Op := [(35, .iconst 0, 0, 0, 0, 0), (36, .nop, 0, 182, 0, 0)]
def kX7_makeStep_36 : List e_Op := [(36, .putfield 37, 0, 7, 8, 1), (39, .nop, 0, 183, 0, 0)]
def kX7_makeStep_39 : List e_Op := [(39, .aload_n 0, 0, 0, 0, 0), (40, .aload_n 0, 0, 0, 0, 0), (41, .getfield 40, 0, 7, 9, 0), (44, .putfield 43, 0, 7, 10, 0), (47, .aload_n 0, 0, 0, 0, 0), (48, .dup, 0, 0, 0, 0), (49, .getfield 28, 0, 7, 5, 0), (52, .aload_n 0, 0, 0, 0, 0), (53, .getfield 40, 0, 7, 9, 0), (56, .iadd, 0, 0, 0, 0), (57, .putfield 28, 0, 7, 5, 0), (60, .aload_n 0, 0, 0, 0, 0), (61, .dup, 0, 0, 0, 0), (62, .getfield 34, 0, 7, 7, 0), (65, .iconst 1, 1, 0, 0, 0), (66, .iadd, 0, 0, 0, 0), (67, .putfield 34, 0, 7, 7, 0), (70, .aload_n 0, 0, 0, 0, 0), (71, .iconst 0, 0, 0, 0, 0), (72, .putfield 31, 0, 7, 6, 0), (75, .aload_n 0, 0, 0, 0, 0), (76, .iconst 0, 0, 0, 0, 0), (77, .putfield 40, 0, 7, 9, 0), (80, .return_, 0, 0, 0, 0)]
def kX8_init_0 : List e_Op := [(0, .aload_n 0, 0, 0, 0, 0), (1, .invokespecial 1, 0, 0, 0, 999), (4, .aload_n 0, 0, 0, 0, 0), (5, .new 7, 0, 1, 6, 0), (8, .dup, 0, 0, 0, 0), (9, .invokespecial 9, 0, 63, 1, 10), (12, .putfield 10, 0, 8, 0, 2), (15, .aload_n 0, 0, 0, 0, 0), (16, .new 16, 0, 2, 3, 0), (19, .dup, 0, 0, 0, 0), (20, .invokespecial 18, 0, 87, 1, 17), (23, .putfield 19, 0, 8, 1, 2), (26, .aload_n 0, 0, 0, 0, 0), (27, .new 23, 0, 5, 5, 0), (30, .dup, 0, 0, 0, 0), (31, .invokespecial 25, 0, 112, 1, 28), (34, .putfield 26, 0, 8, 2, 2), (37, .aload_n 0, 0, 0, 0, 0), (38, .new 30, 0, 6, 4, 0), (41, .dup, 0, 0, 0, 0), (42, .invokespecial 32, 0, 139, 1, 33), (45, .putfield 33, 0, 8, 3, 2), (48, .aload_n 0, 0, 0, 0, 0), (49, .new 37, 0, 3, 2, 0), (52, .dup, 0, 0, 0, 0), (53, .invokespecial 39, 0, 101, 1, 22), (56, .putfield 40, 0, 8, 4, 2), (59, .aload_n 0, 0, 0, 0, 0), (60, .bipush 24, 24, 0, 0, 0), (62, .newarray .int, 0, 10, 0, 0), (64, .putfield 44, 0, 8, 5, 2), (67, .aload_n 0, 0, 0, 0, 0), (68, .iconst 5, 5, 0, 0, 0), (69, .newarray .int, 0, 10, 0, 0), (71, .putfield 48, 0, 8, 6, 2), (74, .return_, 0, 0, 0, 0)]
def kX8_setSource_0 : List e_Op := [(0, .iload_n 1, 0, 1, 0, 0), (1, .sipush 9000, 9000, 0, 0, 0), (4, .sipush 11000, 11000, 0, 0, 0), (7, .invokestatic 51, 0, 284, 3, 79), (10, .ifCond .ne 10, 0, 186, 0, 0), (13, .aload_n 0, 0, 0, 0, 0), (14, .bipush (-2), (-2), 0, 0, 0), (16, .invokevirtual 55, 0, 313, 2, 88), (19, .ireturn, 0, 0, 0, 0)]
def kX8_setSource_20 : List e_Op := [(20, .aload_n 0, 0, 0, 0, 0), (21, .getfield 40, 0, 8, 4, 2), (24, .aload_n 0, 0, 0, 0, 0), (25, .getfield 10, 0, 8, 0, 2), (28, .invokevirtual 59, 0, 104, 2, 23), (31, .aload_n 0, 0, 0, 0, 0), (32, .getfield 10, 0, 8, 0, 2), (35, .getfield 63, 0, 1, 1, 0), (38, .istore_n 2, 0, 2, 0, 0), (39, .aload_n 0, 0, 0, 0, 0), (40, .getfield 10, 0, 8, 0, 2), (43, .iload_n 1, 0, 1, 0, 0), (44, .putfield 63, 0, 1, 1, 0), (47, .iload_n 2, 0, 2, 0, 0), (48, .ireturn, 0, 0, 0, 0)]
def kX8_addNode_0 : List e_Op := [(0, .iload_n 1, 0, 1, 0, 0), (1, .iconst 0, 0, 0, 0, 0), (2, .bipush 50, 50, 0, 0, 0), (4, .invokestatic 51, 0, 284, 3, 79), (7, .ifCond .eq 22, 0, 188, 0, 0), (10, .iload_n 2, 0, 2, 0, 0), (11, .iconst 0, 0, 0, 0, 0), (12, .bipush 50, 50, 0, 0, 0), (14, .invokestatic 51, 0, 284, 3, 79), (17, .ifCond .eq 12, 0, 188, 0, 0), (20, .iload_n 3, 0, 3, 0, 0), (21, .iload 4, 0, 4, 0, 0), (23, .invokestatic 67, 0, 288, 2, 81), (26, .ifCond .ne 10, 0, 189, 0, 0), (29, .nop, 0, 188, 0, 0)]
def kX8_addNode_29 : List e_Op := [(29, .aload_n 0, 0, 0, 0, 0), (30, .bipush (-2), (-2), 0, 0, 0), (32, .invokevirtual 55, 0, 313, 2, 88), (35, .ireturn, 0, 0, 0, 0)]
def kX8_addNode_36 : List e_Op := [(36, .aload_n 0, 0, 0, 0, 0), (37, .getfield 10, 0, 8, 0, 2), (40, .getfield 71, 0, 1, 2, 0), (43, .bipush 8, 8, 0, 0, 0), (45, .if_icmp .lt 10, 0, 190, 0, 0), (48, .aload_n 0, 0, 0, 0, 0), (49, .bipush (-5), (-5), 0, 0, 0), (51, .invokevirtual 55, 0, 313, 2, 88), (54, .ireturn, 0, 0, 0, 0)]
def kX8_addNode_55 : List e_Op := [(55, .aload_n 0, 0, 0, 0, 0), (56, .getfield 40, 0, 8, 4, 2), (59, .aload_n 0, 0, 0, 0, 0), (60, .getfield 10, 0, 8, 0, 2), (63, .invokevirtual 59, 0, 104, 2, 23), (66, .aload_n 0, 0, 0, 0, 0), (67, .getfield 10, 0, 8, 0, 2), (70, .dup, 0, 0, 0, 0), (71, .getfield 71, 0, 1, 2, 0), (74, .iconst 1, 1, 0, 0, 0), (75, .iadd, 0, 0, 0, 0), (76, .putfield 71, 0, 1, 2, 0), (79, .aload_n 0, 0, 0, 0, 0), (80, .getfield 10, 0, 8, 0, 2), (83, .getfield 74, 0, 1, 5, 2), (86, .aload_n 0, 0, 0, 0, 0), (87, .getfield 10, 0, 8, 0, 2), (90, .getfield 71, 0, 1, 2, 0), (93, .aaload, 0, 0, 0, 0), (94, .astore 5, 0, 5, 0, 0), (96, .aload 5, 0, 5, 0, 0), (98, .iload_n 1, 0, 1, 0, 0), (99, .putfield 78, 0, 4, 0, 0), (102, .aload 5, 0, 5, 0, 0), (104, .iload_n 2, 0, 2, 0, 0), (105, .putfield 83, 0, 4, 1, 0), (108, .aload 5, 0, 5, 0, 0), (110, .iload_n 3, 0, 3, 0, 0), (111, .putfield 86, 0, 4, 2, 0), (114, .aload 5, 0, 5, 0, 0), (116, .iload 4, 0, 4, 0, 0), (118, .putfield 89, 0, 4, 3, 0), (121, .aload_n 0, 0, 0, 0, 0), (122, .getfield 10, 0, 8, 0, 2), (125, .getfield 71, 0, 1, 2, 0), (128, .ireturn, 0, 0, 0, 0)]
def kX8_setLoad_0 : List e_Op := [(0, .aload_n 0, 0, 0, 0, 0), (1, .iload_n 1, 0, 1, 0, 0), (2, .invokevirtual 92, 0, 303, 2, 84), (5, .ifCond .eq 11, 0, 192, 0, 0), (8, .iload_n 2, 0, 2, 0, 0), (9, .iload_n 3, 0, 3, 0, 0), (10, .invokestatic 67, 0, 288, 2, 81), (13, .ifCond .ne 10, 0, 193, 0, 0), (16, .nop, 0, 192, 0, 0)]
def kX8_setLoad_16 : List e_Op := [(16, .aload_n 0, 0, 0, 0, 0), (17, .bipush (-2), (-2), 0, 0, 0), (19, .invokevirtual 55, 0, 313, 2, 88), (22, .ireturn, 0, 0, 0, 0)]
def kX8_setLoad_23 : List e_Op := [(23, .aload_n 0, 0, 0, 0, 0), (24, .getfield 40, 0, 8, 4, 2), (27, .aload_n 0, 0, 0, 0, 0), (28, .getfield 10, 0, 8, 0, 2), (31, .invokevirtual 59, 0, 104, 2, 23), (34, .aload_n 0, 0, 0, 0, 0), (35, .getfield 10, 0, 8, 0, 2), (38, .getfield 74, 0, 1, 5, 2), (41, .iload_n 1, 0, 1, 0, 0), (42, .aaload, 0, 0, 0, 0), (43, .iload_n 2, 0, 2, 0, 0), (44, .putfield 86, 0, 4, 2, 0), (47, .aload_n 0, 0, 0, 0, 0), (48, .getfield 10, 0, 8, 0, 2), (51, .getfield 74, 0, 1, 5, 2), (54, .iload_n 1, 0, 1, 0, 0), (55, .aaload, 0, 0, 0, 0), (56, .iload_n 3, 0, 3, 0, 0), (57, .putfield 89, 0, 4, 3, 0), (60, .iconst 1, 1, 0, 0, 0), (61, .ireturn, 0, 0, 0, 0)]
def kX8_setFactor_0 : List e_Op := [(0, .iload_n 1, 0, 1, 0, 0), (1, .invokestatic 96, 0, 287, 1, 80), (4, .ifCond .eq 14, 0, 195, 0, 0), (7, .iload_n 2, 0, 2, 0, 0), (8, .iconst 0, 0, 0, 0, 0), (9, .sipush 200, 200, 0, 0, 0), (12, .invokestatic 51, 0, 284, 3, 79), (15, .ifCond .ne 10, 0, 196, 0, 0), (18, .nop, 0, 195, 0, 0)]
def kX8_setFactor_18 : List e_Op := [(18, .aload_n 0, 0, 0, 0, 0), (19, .bipush (-2), (-2), 0, 0, 0), (21, .invokevirtual 55, 0, 313, 2, 88), (24, .ireturn, 0, 0, 0, 0)]
def kX8_setFactor_25 : List e_Op := [(25, .aload_n 0, 0, 0, 0, 0), (26, .getfield 40, 0, 8, 4, 2), (29, .aload_n 0, 0, 0, 0, 0), (30, .getfield 10, 0, 8, 0, 2), (33, .invokevirtual 59, 0, 104, 2, 23), (36, .aload_n 0, 0, 0, 0, 0), (37, .getfield 10, 0, 8, 0, 2), (40, .getfield 99, 0, 1, 4, 2), (43, .iload_n 1, 0, 1, 0, 0), (44, .iaload, 0, 0, 0, 0), (45, .istore_n 3, 0, 3, 0, 0), (46, .aload_n 0, 0, 0, 0, 0), (47, .getfield 10, 0, 8, 0, 2), (50, .getfield 99, 0, 1, 4, 2), (53, .iload_n 1, 0, 1, 0, 0), (54, .iload_n 2, 0, 2, 0, 0), (55, .iastore, 0, 0, 0, 0), (56, .iload_n 3, 0, 3, 0, 0), (57, .ireturn, 0, 0, 0, 0)]
def kX8_append_0 : List e_Op := [(0, .iload_n 1, 0, 1, 0, 0), (1, .iconst 0, 0, 0, 0, 0), (2, .bipush 127, 127, 0, 0, 0), (4, .invokestatic 51, 0, 284, 3, 79), (7, .ifCond .ne 10, 0, 198, 0, 0), (10, .aload_n 0, 0, 0, 0, 0), (11, .bipush (-2), (-2), 0, 0, 0), (13, .invokevirtual 55, 0, 313, 2, 88), (16, .ireturn, 0, 0, 0, 0)]
def kX8_append_17 : List e_Op := [(17, .aload_n 0, 0, 0, 0, 0), (18, .getfield 33, 0, 8, 3, 2), (21, .getfield 102, 0, 6, 1, 0), (24, .bipush 120, 120, 0, 0, 0), (26, .if_icmp .lt 10, 0, 199, 0, 0), (29, .aload_n 0, 0, 0, 0, 0), (30, .bipush (-5), (-5), 0, 0, 0), (32, .invokevirtual 55, 0, 313, 2, 88), (35, .ireturn, 0, 0, 0, 0)]
def kX8_append_36 : List e_Op := [(36, .aload_n 0, 0, 0, 0, 0), (37, .getfield 33, 0, 8, 3, 2), (40, .getfield 105, 0, 6, 0, 2), (43, .aload_n 0, 0, 0, 0, 0), (44, .getfield 33, 0, 8, 3, 2), (47, .getfield 102, 0, 6, 1, 0), (50, .iload_n 1, 0, 1, 0, 0), (51, .i2b, 0, 0, 0, 0), (52, .bastore, 0, 0, 0, 0), (53, .aload_n 0, 0, 0, 0, 0), (54, .getfield 33, 0, 8, 3, 2), (57, .dup, 0, 0, 0, 0), (58, .getfield 102, 0, 6, 1, 0), (61, .iconst 1, 1, 0, 0, 0), (62, .iadd, 0, 0, 0, 0), (63, .putfield 102, 0, 6, 1, 0), (66, .aload_n 0, 0, 0, 0, 0), (67, .getfield 33, 0, 8, 3, 2), (70, .getfield 102, 0, 6, 1, 0), (73, .ireturn, 0, 0, 0, 0)]
def kX8_clearText_0 : List e_Op := [(0, .aload_n 0, 0, 0, 0, 0), (1, .getfield 33, 0, 8, 3, 2), (4, .getfield 102, 0, 6, 1, 0), (7, .istore_n 1, 0, 1, 0, 0), (8, .aload_n 0, 0, 0, 0, 0), (9, .getfield 33, 0, 8, 3, 2), (12, .iconst 0, 0, 0, 0, 0), (13, .putfield 102, 0, 6, 1, 0), (16, .iload_n 1, 0, 1, 0, 0), (17, .ireturn, 0, 0, 0, 0)]
def kX8_parseProfile_0 : List e_Op := [(0, .aload_n 0, 0, 0, 0, 0), (1, .getfield 10, 0, 8, 0, 2), (4, .getfield 99, 0, 1, 4, 2), (7, .iconst 0, 0, 0, 0, 0), (8, .aload_n 0, 0, 0, 0, 0), (9, .getfield 44, 0, 8, 5, 2), (12, .iconst 0, 0, 0, 0, 0), (13, .bipush 24, 24, 0, 0, 0), (15, .invokestatic 109, 0, 0, 0, 998), (18, .aload_n 0, 0, 0, 0, 0), (19, .getfield 33, 0, 8, 3, 2), (22, .aload_n 0, 0, 0, 0, 0), (23, .getfield 44, 0, 8, 5, 2), (26, .invokevirtual 115, 0, 140, 2, 34), (29, .istore_n 1, 0, 1, 0, 0), (30, .aload_n 0, 0, 0, 0, 0), (31, .getfield 33, 0, 8, 3, 2), (34, .getfield 119, 0, 6, 3, 0), (37, .ifCond .lt 14, 0, 202, 0, 0), (40, .bipush (-10), (-10), 0, 0, 0), (42, .aload_n 0, 0, 0, 0, 0), (43, .getfield 33, 0, 8, 3, 2), (46, .getfield 119, 0, 6, 3, 0), (49, .isub, 0, 0, 0, 0), (50, .ireturn, 0, 0, 0, 0)]
def kX8_parseProfile_51 : List e_Op := [(51, .aload_n 0, 0, 0, 0, 0), (52, .getfield 40, 0, 8, 4, 2), (55, .aload_n 0, 0, 0, 0, 0), (56, .getfield 10, 0, 8, 0, 2), (59, .invokevirtual 59, 0, 104, 2, 23), (62, .aload_n 0, 0, 0, 0, 0), (63, .getfield 44, 0, 8, 5, 2), (66, .iconst 0, 0, 0, 0, 0), (67, .aload_n 0, 0, 0, 0, 0), (68, .getfield 10, 0, 8, 0, 2), (71, .getfield 99, 0, 1, 4, 2), (74, .iconst 0, 0, 0, 0, 0), (75, .bipush 24, 24, 0, 0, 0), (77, .invokestatic 109, 0, 0, 0, 998), (80, .iload_n 1, 0, 1, 0, 0), (81, .ireturn, 0, 0, 0, 0)]
def kX8_addRegulator_0 : List e_Op := [(0, .aload_n 0, 0, 0, 0, 0), (1, .iload_n 1, 0, 1, 0, 0), (2, .invokevirtual 92, 0, 303, 2, 84), (5, .ifCond .eq 49, 0, 204, 0, 0), (8, .iload_n 2, 0, 2, 0, 0), (9, .sipush 9000, 9000, 0, 0, 0), (12, .sipush 11000, 11000, 0, 0, 0), (15, .invokestatic 51, 0, 284, 3, 79), (18, .ifCond .eq 36, 0, 204, 0, 0), (21, .iload_n 3, 0, 3, 0, 0), (22, .bipush 10, 10, 0, 0, 0), (24, .sipush 500, 500, 0, 0, 0), (27, .invokestatic 51, 0, 284, 3, 79), (30, .ifCond .eq 24, 0, 204, 0, 0), (33, .iload 4, 0, 4, 0, 0), (35, .iconst 0, 0, 0, 0, 0), (36, .bipush 30, 30, 0, 0, 0), (38, .invokestatic 51, 0, 284, 3, 79), (41, .ifCond .eq 13, 0, 204, 0, 0), (44, .iload 5, 0, 5, 0, 0), (46, .iconst 0, 0, 0, 0, 0), (47, .iconst 1, 1, 0, 0, 0), (48, .invokestatic 51, 0, 284, 3, 79), (51, .ifCond .ne 10, 0, 205, 0, 0), (54, .nop, 0, 204, 0, 0)]
def kX8_addRegulator_54 : List e_Op := [(54, .aload_n 0, 0, 0, 0, 0), (55, .bipush (-2), (-2), 0, 0, 0), (57, .invokevirtual 55, 0, 313, 2, 88), (60, .ireturn, 0, 0, 0, 0)]
def kX8_addRegulator_61 : List e_Op := [(61, .aload_n 0, 0, 0, 0, 0), (62, .getfield 10, 0, 8, 0, 2), (65, .getfield 74, 0, 1, 5, 2), (68, .iload_n 1, 0, 1, 0, 0), (69, .aaload, 0, 0, 0, 0), (70, .getfield 122, 0, 4, 4, 2), (73, .astore 6, 0, 6, 0, 0), (75, .aload 6, 0, 6, 0, 0), (77, .getfield 126, 0, 7, 0, 1), (80, .ifCond .eq 10, 0, 206, 0, 0), (83, .aload_n 0, 0, 0, 0, 0), (84, .bipush (-3), (-3), 0, 0, 0), (86, .invokevirtual 55, 0, 313, 2, 88), (89, .ireturn, 0, 0, 0, 0)]
def kX8_addRegulator_90 : List e_Op := [(90, .aload_n 0, 0, 0, 0, 0), (91, .getfield 40, 0, 8, 4, 2), (94, .aload_n 0, 0, 0, 0, 0), (95, .getfield 10, 0, 8, 0, 2), (98, .invokevirtual 59, 0, 104, 2, 23), (101, .aload 6, 0, 6, 0, 0), (103, .iconst 1, 1, 0, 0, 0), (104, .putfield 126, 0, 7, 0, 1), (107, .aload 6, 0, 6, 0, 0), (109, .iload_n 2, 0, 2, 0, 0), (110, .putfield 132, 0, 7, 1, 0), (113, .aload 6, 0, 6, 0, 0), (115, .iload_n 3, 0, 3, 0, 0), (116, .putfield 135, 0, 7, 2, 0), (119, .aload 6, 0, 6, 0, 0), (121, .iload 4, 0, 4, 0, 0), (123, .putfield 138, 0, 7, 3, 0), (126, .aload 6, 0, 6, 0, 0), (128, .iload 5, 0, 5, 0, 0), (130, .iconst 1, 1, 0, 0, 0), (131, .if_icmp .ne 7, 0, 207, 0, 0), (134, .iconst 1, 1, 0, 0, 0), (135, .goto 4, 0, 208, 0, 0)]
def kX8_addRegulator_138 : List e_Op := [(138, .iconst 0, 0, 0, 0, 0), (139, .nop, 0, 208, 0, 0)]
def kX8_addRegulator_139 : List e_Op := [(139, .putfield 141, 0, 7, 4, 1), (142, .iconst 1, 1, 0, 0, 0), (143, .ireturn, 0, 0, 0, 0)]
def kX8_setTap_0 : List e_Op := [(0, .iload_n 2, 0, 2, 0, 0), (1, .bipush (-16), (-16), 0, 0, 0), (3, .bipush 16, 16, 0, 0, 0), (5, .invokestatic 51, 0, 284, 3, 79), (8, .ifCond .ne 10, 0, 210, 0, 0), (11, .aload_n 0, 0, 0, 0, 0), (12, .bipush (-2), (-2), 0, 0, 0), (14, .invokevirtual 55, 0, 313, 2, 88), (17, .ireturn, 0, 0, 0, 0)]
def kX8_setTap_18 : List e_Op := [(18, .aload_n 0, 0, 0, 0, 0), (19, .iload_n 1, 0, 1, 0, 0), (20, .invokevirtual 144, 0, 304, 2, 85), (23, .istore_n 3, 0, 3, 0, 0), (24, .iload_n 3, 0, 3, 0, 0), (25, .ifCond .eq 9, 0, 211, 0, 0), (28, .aload_n 0, 0, 0, 0, 0), (29, .iload_n 3, 0, 3, 0, 0), (30, .invokevirtual 55, 0, 313, 2, 88), (33, .ireturn, 0, 0, 0, 0)]
def kX8_setTap_34 : List e_Op := [(34, .aload_n 0, 0, 0, 0, 0), (35, .getfield 40, 0, 8, 4, 2), (38, .aload_n 0, 0, 0, 0, 0), (39, .getfield 10, 0, 8, 0, 2), (42, .invokevirtual 59, 0, 104, 2, 23), (45, .aload_n 0, 0, 0, 0, 0), (46, .getfield 10, 0, 8, 0, 2), (49, .getfield 74, 0, 1, 5, 2), (52, .iload_n 1, 0, 1, 0, 0), (53, .aaload, 0, 0, 0, 0), (54, .getfield 122, 0, 4, 4, 2), (57, .astore 4, 0, 4, 0, 0), (59, .aload 4, 0, 4, 0, 0), (61, .getfield 147, 0, 7, 5, 0), (64, .istore 5, 0, 5, 0, 0), (66, .aload 4, 0, 4, 0, 0), (68, .iload_n 2, 0, 2, 0, 0), (69, .putfield 147, 0, 7, 5, 0), (72, .bipush 100, 100, 0, 0, 0), (74, .iload 5, 0, 5, 0, 0), (76, .iadd, 0, 0, 0, 0), (77, .ireturn, 0, 0, 0, 0)]
def kX8_addBank_0 : List e_Op := [(0, .aload_n 0, 0, 0, 0, 0), (1, .iload_n 1, 0, 1, 0, 0), (2, .invokevirtual 92, 0, 303, 2, 84), (5, .ifCond .eq 36, 0, 213, 0, 0), (8, .iload_n 2, 0, 2, 0, 0), (9, .iconst 1, 1, 0, 0, 0), (10, .sipush 300, 300, 0, 0, 0), (13, .invokestatic 51, 0, 284, 3, 79), (16, .ifCond .eq 25, 0, 213, 0, 0), (19, .iload_n 3, 0, 3, 0, 0), (20, .iload 4, 0, 4, 0, 0), (22, .iload 5, 0, 5, 0, 0), (24, .invokestatic 150, 0, 291, 3, 82), (27, .ifCond .eq 14, 0, 213, 0, 0), (30, .iload 6, 0, 6, 0, 0), (32, .iconst 0, 0, 0, 0, 0), (33, .bipush 30, 30, 0, 0, 0), (35, .invokestatic 51, 0, 284, 3, 79), (38, .ifCond .ne 10, 0, 214, 0, 0), (41, .nop, 0, 213, 0, 0)]
def kX8_addBank_41 : List e_Op := [(41, .aload_n 0, 0, 0, 0, 0), (42, .bipush (-2), (-2), 0, 0, 0), (44, .invokevirtual 55, 0, 313, 2, 88), (47, .ireturn, 0, 0, 0, 0)]
def kX8_addBank_48 : List e_Op := [(48, .aload_n 0, 0, 0, 0, 0), (49, .getfield 10, 0, 8, 0, 2), (52, .getfield 74, 0, 1, 5, 2), (55, .iload_n 1, 0, 1, 0, 0), (56, .aaload, 0, 0, 0, 0), (57, .getfield 153, 0, 4, 5, 2), (60, .astore 7, 0, 7, 0, 0), (62, .aload 7, 0, 7, 0, 0), (64, .getfield 157, 0, 0, 0, 1), (67, .ifCond .eq 10, 0, 215, 0, 0), (70, .aload_n 0, 0, 0, 0, 0), (71, .bipush (-3), (-3), 0, 0, 0), (73, .invokevirtual 55, 0, 313, 2, 88), (76, .ireturn, 0, 0, 0, 0)]
def kX8_addBank_77 : List e_Op := [(77, .aload_n 0, 0, 0, 0, 0), (78, .getfield 40, 0, 8, 4, 2), (81, .aload_n 0, 0, 0, 0, 0), (82, .getfield 10, 0, 8, 0, 2), (85, .invokevirtual 59, 0, 104, 2, 23), (88, .aload 7, 0, 7, 0, 0), (90, .iconst 1, 1, 0, 0, 0), (91, .putfield 157, 0, 0, 0, 1), (94, .aload 7, 0, 7, 0, 0), (96, .iload_n 2, 0, 2, 0, 0), (97, .putfield 160, 0, 0, 1, 0), (100, .aload 7, 0, 7, 0, 0), (102, .iload_n 3, 0, 3, 0, 0), (103, .putfield 163, 0, 0, 2, 0), (106, .aload 7, 0, 7, 0, 0), (108, .iload 4, 0, 4, 0, 0), (110, .putfield 166, 0, 0, 3, 0), (113, .aload 7, 0, 7, 0, 0), (115, .iload 5, 0, 5, 0, 0), (117, .putfield 169, 0, 0, 4, 0), (120, .aload 7, 0, 7, 0, 0), (122, .iload 6, 0, 6, 0, 0), (124, .putfield 172, 0, 0, 5, 0), (127, .iconst 1, 1, 0, 0, 0), (128, .ireturn, 0, 0, 0, 0)]
def kX8_switchBank_0 : List e_Op := [(0, .iload_n 2, 0, 2, 0, 0), (1, .iconst 0, 0, 0, 0, 0), (2, .iconst 1, 1, 0, 0, 0), (3, .invokestatic 51, 0, 284, 3, 79), (6, .ifCond .ne 10, 0, 217, 0, 0), (9, .aload_n 0, 0, 0, 0, 0), (10, .bipush (-2), (-2), 0, 0, 0), (12, .invokevirtual 55, 0, 313, 2, 88), (15, .ireturn, 0, 0, 0, 0)]
def kX8_switchBank_16 : List e_Op := [(16, .aload_n 0, 0, 0, 0, 0), (17, .iload_n 1, 0, 1, 0, 0), (18, .invokevirtual 173, 0, 308, 2, 86), (21, .istore_n 3, 0, 3, 0, 0), (22, .iload_n 3, 0, 3, 0, 0), (23, .ifCond .eq 9, 0, 218, 0, 0), (26, .aload_n 0, 0, 0, 0, 0), (27, .iload_n 3, 0, 3, 0, 0), (28, .invokevirtual 55, 0, 313, 2, 88), (31, .ireturn, 0, 0, 0, 0)]
def kX8_switchBank_32 : List e_Op := [(32, .aload_n 0, 0, 0, 0, 0), (33, .getfield 40, 0, 8, 4, 2), (36, .aload_n 0, 0, 0, 0, 0), (37, .getfield 10, 0, 8, 0, 2), (40, .invokevirtual 59, 0, 104, 2, 23), (43, .aload_n 0, 0, 0, 0, 0), (44, .getfield 10, 0, 8, 0, 2), (47, .getfield 74, 0, 1, 5, 2), (50, .iload_n 1, 0, 1, 0, 0), (51, .aaload, 0, 0, 0, 0), (52, .getfield 153, 0, 4, 5, 2), (55, .astore 4, 0, 4, 0, 0), (57, .aload 4, 0, 4, 0, 0), (59, .getfield 176, 0, 0, 6, 1), (62, .invokestatic 179, 0, 300, 1, 83), (65, .istore 5, 0, 5, 0, 0), (67, .aload 4, 0, 4, 0, 0), (69, .iload_n 2, 0, 2, 0, 0), (70, .iconst 1, 1, 0, 0, 0), (71, .if_icmp .ne 7, 0, 219, 0, 0), (74, .iconst 1, 1, 0, 0, 0), (75, .goto 4, 0, 220, 0, 0)]
def kX8_switchBank_78 : List e_Op := [(78, .iconst 0, 0, 0, 0, 0), (79, .nop, 0, 220, 0, 0)]
def kX8_switchBank_79 : List e_Op := [(79, .putfield 176, 0, 0, 6, 1), (82, .iload 5, 0, 5, 0, 0), (84, .ireturn, 0, 0, 0, 0)]
def kX8_run_0 : List e_Op := [(0, .iload_n 1, 0, 1, 0, 0), (1, .iconst 0, 0, 0, 0, 0), (2, .sipush 1440, 1440, 0, 0, 0), (5, .invokestatic 51, 0, 284, 3, 79), (8, .ifCond .ne 10, 0, 222, 0, 0), (11, .aload_n 0, 0, 0, 0, 0), (12, .bipush (-2), (-2), 0, 0, 0), (14, .invokevirtual 55, 0, 313, 2, 88), (17, .ireturn, 0, 0, 0, 0)]
def kX8_run_18 : List e_Op := [(18, .aload_n 0, 0, 0, 0, 0), (19, .getfield 40, 0, 8, 4, 2), (22, .aload_n 0, 0, 0, 0, 0), (23, .getfield 10, 0, 8, 0, 2), (26, .invokevirtual 59, 0, 104, 2, 23), (29, .iconst 0, 0, 0, 0, 0), (30, .istore_n 2, 0, 2, 0, 0), (31, .iconst 0, 0, 0, 0, 0), (32, .istore_n 3, 0, 3, 0, 0), (33, .nop, 0, 223, 0, 0)]
def kX8_run_33 : List e_Op := [(33, .iload_n 3, 0, 3, 0, 0), (34, .iload_n 1, 0, 1, 0, 0), (35, .if_icmp .ge 19, 0, 225, 0, 0), (38, .aload_n 0, 0, 0, 0, 0), (39, .invokevirtual 183, 0, 227, 1, 61), (42, .ifCond .eq 6, 0, 224, 0, 0), (45, .iinc 2 1, 1, 2, 0, 0), (48, .nop, 0, 224, 0, 0)]
def kX8_run_48 : List e_Op := [(48, .iinc 3 1, 1, 3, 0, 0), (51, .goto (-18), 0, 223, 0, 0)]
def kX8_run_54 : List e_Op := [(54, .iload_n 2, 0, 2, 0, 0), (55, .ireturn, 0, 0, 0, 0)]
def kX8_minute_0 : List e_Op := [(0, .aload_n 0, 0, 0, 0, 0), (1, .getfield 10, 0, 8, 0, 2), (4, .getfield 187, 0, 1, 0, 0), (7, .ireturn, 0, 0, 0, 0)]
def kX8_passMinute_0 : List e_Op := [(0, .aload_n 0, 0, 0, 0, 0), (1, .getfield 10, 0, 8, 0, 2), (4, .dup, 0, 0, 0, 0), (5, .getfield 187, 0, 1, 0, 0), (8, .iconst 1, 1, 0, 0, 0), (9, .iadd, 0, 0, 0, 0), (10, .putfield 187, 0, 1, 0, 0), (13, .aload_n 0, 0, 0, 0, 0), (14, .getfield 10, 0, 8, 0, 2), (17, .getfield 187, 0, 1, 0, 0), (20, .bipush 60, 60, 0, 0, 0), (22, .irem, 0, 0, 0, 0), (23, .ifCond .ne 10, 0, 228, 0, 0), (26, .aload_n 0, 0, 0, 0, 0), (27, .getfield 10, 0, 8, 0, 2), (30, .invokevirtual 190, 0, 72, 1, 13), (33, .nop, 0, 228, 0, 0)]
def kX8_passMinute_33 : List e_Op := [(33, .aload_n 0, 0, 0, 0, 0), (34, .getfield 10, 0, 8, 0, 2), (37, .invokevirtual 193, 0, 75, 1, 14), (40, .aload_n 0, 0, 0, 0, 0), (41, .getfield 19, 0, 8, 1, 2), (44, .aload_n 0, 0, 0, 0, 0), (45, .getfield 10, 0, 8, 0, 2), (48, .invokevirtual 196, 0, 88, 2, 18), (51, .aload_n 0, 0, 0, 0, 0), (52, .getfield 10, 0, 8, 0, 2), (55, .aload_n 0, 0, 0, 0, 0), (56, .getfield 19, 0, 8, 1, 2), (59, .invokevirtual 199, 0, 79, 2, 15), (62, .istore_n 1, 0, 1, 0, 0), (63, .aload_n 0, 0, 0, 0, 0), (64, .getfield 10, 0, 8, 0, 2), (67, .aload_n 0, 0, 0, 0, 0), (68, .getfield 19, 0, 8, 1, 2), (71, .iload_n 1, 0, 1, 0, 0), (72, .ifCond .ne 7, 0, 229, 0, 0), (75, .iconst 1, 1, 0, 0, 0), (76, .goto 4, 0, 230, 0, 0)]
def kX8_passMinute_79 : List e_Op := [(79, .iconst 0, 0, 0, 0, 0), (80, .nop, 0, 230, 0, 0)]
def kX8_passMinute_80 : List e_Op := [(80, .invokevirtual 203, 0, 83, 3, 16), (83, .istore_n 2, 0, 2, 0, 0), (84, .iload_n 1, 0, 1, 0, 0), (85, .ifCond .ne 7, 0, 231, 0, 0), (88, .iload_n 2, 0, 2, 0, 0), (89, .ifCond .eq 14, 0, 232, 0, 0), (92, .nop, 0, 231, 0, 0)]
def kX8_passMinute_92 : List e_Op := [(92, .aload_n 0, 0, 0, 0, 0), (93, .getfield 19, 0, 8, 1, 2), (96, .aload_n 0, 0, 0, 0, 0), (97, .getfield 10, 0, 8, 0, 2), (100, .invokevirtual 196, 0, 88, 2, 18), (103, .nop, 0, 232, 0, 0)]
def kX8_passMinute_103 : List e_Op := [(103, .aload_n 0, 0, 0, 0, 0), (104, .getfield 10, 0, 8, 0, 2), (107, .dup, 0, 0, 0, 0), (108, .getfield 207, 0, 1, 3, 0), (111, .aload_n 0, 0, 0, 0, 0), (112, .getfield 19, 0, 8, 1, 2), (115, .aload_n 0, 0, 0, 0, 0), (116, .getfield 10, 0, 8, 0, 2), (119, .getfield 71, 0, 1, 2, 0), (122, .invokevirtual 210, 0, 97, 2, 21), (125, .iadd, 0, 0, 0, 0), (126, .putfield 207, 0, 1, 3, 0), (129, .iload_n 1, 0, 1, 0, 0), (130, .ifCond .ne 7, 0, 233, 0, 0), (133, .iload_n 2, 0, 2, 0, 0), (134, .ifCond .eq 7, 0, 234, 0, 0), (137, .nop, 0, 233, 0, 0)]
def kX8_passMinute_137 : List e_Op := [(137, .iconst 1, 1, 0, 0, 0), (138, .goto 4, 0, 235, 0, 0)]
def kX8_passMinute_141 : List e_Op := [(141, .iconst 0, 0, 0, 0, 0), (142, .nop, 0, 235, 0, 0)]
def kX8_passMinute_142 : List e_Op := [(142, .ireturn, 0, 1, 0, 0)]
def kX8_voltage_0 : List e_Op := [(0, .iload_n 1, 0, 1, 0, 0), (1, .iconst 0, 0, 0, 0, 0), (2, .aload_n 0, 0, 0, 0, 0), (3, .getfield 10, 0, 8, 0, 2), (6, .getfield 71, 0, 1, 2, 0), (9, .invokestatic 51, 0, 284, 3, 79), (12, .ifCond .ne 10, 0, 237, 0, 0), (15, .aload_n 0, 0, 0, 0, 0), (16, .bipush (-2), (-2), 0, 0, 0), (18, .invokevirtual 55, 0, 313, 2, 88), (21, .ireturn, 0, 0, 0, 0)]
def kX8_voltage_22 : List e_Op := [(22, .aload_n 0, 0, 0, 0, 0), (23, .getfield 19, 0, 8, 1, 2), (26, .aload_n 0, 0, 0, 0, 0), (27, .getfield 10, 0, 8, 0, 2), (30, .invokevirtual 196, 0, 88, 2, 18), (33, .aload_n 0, 0, 0, 0, 0), (34, .getfield 19, 0, 8, 1, 2), (37, .getfield 213, 0, 2, 2, 2), (40, .iload_n 1, 0, 1, 0, 0), (41, .iaload, 0, 0, 0, 0), (42, .ireturn, 0, 0, 0, 0)]
def kX8_activeFlow_0 : List e_Op := [(0, .aload_n 0, 0, 0, 0, 0), (1, .iload_n 1, 0, 1, 0, 0), (2, .invokevirtual 92, 0, 303, 2, 84), (5, .ifCond .ne 10, 0, 239, 0, 0), (8, .aload_n 0, 0, 0, 0, 0), (9, .bipush (-2), (-2), 0, 0, 0), (11, .invokevirtual 55, 0, 313, 2, 88), (14, .ireturn, 0, 0, 0, 0)]
def kX8_activeFlow_15 : List e_Op := [(15, .aload_n 0, 0, 0, 0, 0), (16, .getfield 19, 0, 8, 1, 2), (19, .aload_n 0, 0, 0, 0, 0), (20, .getfield 10, 0, 8, 0, 2), (23, .invokevirtual 196, 0, 88, 2, 18), (26, .sipush 10000, 10000, 0, 0, 0), (29, .aload_n 0, 0, 0, 0, 0), (30, .getfield 19, 0, 8, 1, 2), (33, .getfield 216, 0, 2, 0, 2), (36, .iload_n 1, 0, 1, 0, 0), (37, .iaload, 0, 0, 0, 0), (38, .iadd, 0, 0, 0, 0), (39, .ireturn, 0, 0, 0, 0)]
def kX8_reactiveFlow_0 : List e_Op := [(0, .aload_n 0, 0, 0, 0, 0), (1, .iload_n 1, 0, 1, 0, 0), (2, .invokevirtual 92, 0, 303, 2, 84), (5, .ifCond .ne 10, 0, 241, 0, 0), (8, .aload_n 0, 0, 0, 0, 0), (9, .bipush (-2), (-2), 0, 0, 0), (11, .invokevirtual 55, 0, 313, 2, 88), (14, .ireturn, 0, 0, 0, 0)]
def kX8_reactiveFlow_15 : List e_Op := [(15, .aload_n 0, 0, 0, 0, 0), (16, .getfield 19, 0, 8, 1, 2), (19, .aload_n 0, 0, 0, 0, 0), (20, .getfield 10, 0, 8, 0, 2), (23, .invokevirtual 196, 0, 88, 2, 18), (26, .sipush 10000, 10000, 0, 0, 0), (29, .aload_n 0, 0, 0, 0, 0), (30, .getfield 19, 0, 8, 1, 2), (33, .getfield 219, 0, 2, 1, 2), (36, .iload_n 1, 0, 1, 0, 0), (37, .iaload, 0, 0, 0, 0), (38, .iadd, 0, 0, 0, 0), (39, .ireturn, 0, 0, 0, 0)]
def kX8_tap_0 : List e_Op := [(0, .aload_n 0, 0, 0, 0, 0), (1, .iload_n 1, 0, 1, 0, 0), (2, .invokevirtual 144, 0, 304, 2, 85), (5, .istore_n 2, 0, 2, 0, 0), (6, .iload_n 2, 0, 2, 0, 0), (7, .ifCond .eq 11, 0, 243, 0, 0), (10, .aload_n 0, 0, 0, 0, 0), (11, .iload_n 2, 0, 2, 0, 0), (12, .invokevirtual 55, 0, 313, 2, 88), (15, .goto 21, 0, 244, 0, 0)]
def kX8_tap_18 : List e_Op := [(18, .bipush 100, 100, 0, 0, 0), (20, .aload_n 0, 0, 0, 0, 0), (21, .getfield 10, 0, 8, 0, 2), (24, .getfield 74, 0, 1, 5, 2), (27, .iload_n 1, 0, 1, 0, 0), (28, .aaload, 0, 0, 0, 0), (29, .getfield 122, 0, 4, 4, 2), (32, .getfield 147, 0, 7, 5, 0), (35, .iadd, 0, 0, 0, 0), (36, .nop, 0, 244, 0, 0)]
def kX8_tap_36 : List e_Op := [(36, .ireturn, 0, 0, 0, 0)]
def kX8_timer_0 : List e_Op := [(0, .aload_n 0, 0, 0, 0, 0), (1, .iload_n 1, 0, 1, 0, 0), (2, .invokevirtual 144, 0, 304, 2, 85), (5, .istore_n 2, 0, 2, 0, 0), (6, .iload_n 2, 0, 2, 0, 0), (7, .ifCond .eq 11, 0, 246, 0, 0), (10, .aload_n 0, 0, 0, 0, 0), (11, .iload_n 2, 0, 2, 0, 0), (12, .invokevirtual 55, 0, 313, 2, 88), (15, .goto 18, 0, 247, 0, 0)]
def kX8_timer_18 : List e_Op := [(18, .aload_n 0, 0, 0, 0, 0), (19, .getfield 10, 0, 8, 0, 2), (22, .getfield 74, 0, 1, 5, 2), (25, .iload_n 1, 0, 1, 0, 0), (26, .aaload, 0, 0, 0, 0), (27, .getfield 122, 0, 4, 4, 2), (30, .getfield 222, 0, 7, 6, 0), (33, .nop, 0, 247, 0, 0)]
def kX8_timer_33 : List e_Op := [(33, .ireturn, 0, 0, 0, 0)]
def kX8_isLocked_0 : List e_Op := [(0, .aload_n 0, 0, 0, 0, 0), (1, .iload_n 1, 0, 1, 0, 0), (2, .invokevirtual 144, 0, 304, 2, 85), (5, .istore_n 2, 0, 2, 0, 0), (6, .iload_n 2, 0, 2, 0, 0), (7, .ifCond .eq 11, 0, 249, 0, 0), (10, .aload_n 0, 0, 0, 0, 0), (11, .iload_n 2, 0, 2, 0, 0), (12, .invokevirtual 55, 0, 313, 2, 88), (15, .goto 21, 0, 250, 0, 0)]
def kX8_isLocked_18 : List e_Op := [(18, .aload_n 0, 0, 0, 0, 0), (19, .getfield 10, 0, 8, 0, 2), (22, .getfield 74, 0, 1, 5, 2), (25, .iload_n 1, 0, 1, 0, 0), (26, .aaload, 0, 0, 0, 0), (27, .getfield 122, 0, 4, 4, 2), (30, .getfield 225, 0, 7, 8, 1), (33, .invokestatic 179, 0, 300, 1, 83), (36, .nop, 0, 250, 0, 0)]
def kX8_isLocked_36 : List e_Op := [(36, .ireturn, 0, 0, 0, 0)]
def kX8_steps_0 : List e_Op := [(0, .aload_n 0, 0, 0, 0, 0), (1, .iload_n 1, 0, 1, 0, 0), (2, .invokevirtual 144, 0, 304, 2, 85), (5, .istore_n 2, 0, 2, 0, 0), (6, .iload_n 2, 0, 2, 0, 0), (7, .ifCond .eq 11, 0, 252, 0, 0), (10, .aload_n 0, 0, 0, 0, 0), (11, .iload_n 2, 0, 2, 0, 0), (12, .invokevirtual 55, 0, 313, 2, 88), (15, .goto 18, 0, 253, 0, 0)]
def kX8_steps_18 : List e_Op := [(18, .aload_n 0, 0, 0, 0, 0), (19, .getfield 10, 0, 8, 0, 2), (22, .getfield 74, 0, 1, 5, 2), (25, .iload_n 1, 0, 1, 0, 0), (26, .aaload, 0, 0, 0, 0), (27, .getfield 122, 0, 4, 4, 2), (30, .getfield 228, 0, 7, 7, 0), (33, .nop, 0, 253, 0, 0)]
def kX8_steps_33 : List e_Op := [(33, .ireturn, 0, 0, 0, 0)]
def kX8_isOn_0 : List e_Op := [(0, .aload_n 0, 0, 0, 0, 0), (1, .iload_n 1, 0, 1, 0, 0), (2, .invokevirtual 173, 0, 308, 2, 86), (5, .istore_n 2, 0, 2, 0, 0), (6, .iload_n 2, 0, 2, 0, 0), (7, .ifCond .eq 11, 0, 255, 0, 0), (10, .aload_n 0, 0, 0, 0, 0), (11, .iload_n 2, 0, 2, 0, 0), (12, .invokevirtual 55, 0, 313, 2, 88), (15, .goto 21, 0, 256, 0, 0)]
def kX8_isOn_18 : List e_Op := [(18, .aload_n 0, 0, 0, 0, 0), (19, .getfield 10, 0, 8, 0, 2), (22, .getfield 74, 0, 1, 5, 2), (25, .iload_n 1, 0, 1, 0, 0), (26, .aaload, 0, 0, 0, 0), (27, .getfield 153, 0, 4, 5, 2), (30, .getfield 176, 0, 0, 6, 1), (33, .invokestatic 179, 0, 300, 1, 83), (36, .nop, 0, 256, 0, 0)]
def kX8_isOn_36 : List e_Op := [(36, .ireturn, 0, 0, 0, 0)]
def kX8_violations_0 : List e_Op := [(0, .aload_n 0, 0, 0, 0, 0), (1, .getfield 10, 0, 8, 0, 2), (4, .getfield 207, 0, 1, 3, 0), (7, .ireturn, 0, 0, 0, 0)]
def kX8_planSteps_0 : List e_Op := [(0, .aload_n 0, 0, 0, 0, 0), (1, .iload_n 1, 0, 1, 0, 0), (2, .invokevirtual 144, 0, 304, 2, 85), (5, .istore_n 2, 0, 2, 0, 0), (6, .iload_n 2, 0, 2, 0, 0), (7, .ifCond .eq 9, 0, 259, 0, 0), (10, .aload_n 0, 0, 0, 0, 0), (11, .iload_n 2, 0, 2, 0, 0), (12, .invokevirtual 55, 0, 313, 2, 88), (15, .ireturn, 0, 0, 0, 0)]
def kX8_planSteps_16 : List e_Op := [(16, .aload_n 0, 0, 0, 0, 0), (17, .getfield 26, 0, 8, 2, 2), (20, .aload_n 0, 0, 0, 0, 0), (21, .getfield 10, 0, 8, 0, 2), (24, .iload_n 1, 0, 1, 0, 0), (25, .invokevirtual 231, 0, 113, 3, 29), (28, .ifCond .eq 13, 0, 260, 0, 0), (31, .aload_n 0, 0, 0, 0, 0), (32, .getfield 26, 0, 8, 2, 2), (35, .getfield 235, 0, 5, 4, 0), (38, .goto 9, 0, 261, 0, 0)]
def kX8_planSteps_41 : List e_Op := [(41, .aload_n 0, 0, 0, 0, 0), (42, .bipush (-4), (-4), 0, 0, 0), (44, .invokevirtual 55, 0, 313, 2, 88), (47, .nop, 0, 261, 0, 0)]
def kX8_planSteps_47 : List e_Op := [(47, .ireturn, 0, 0, 0, 0)]
def kX8_planTap_0 : List e_Op := [(0, .iload_n 2, 0, 2, 0, 0), (1, .invokestatic 96, 0, 287, 1, 80), (4, .ifCond .ne 10, 0, 263, 0, 0), (7, .aload_n 0, 0, 0, 0, 0), (8, .bipush (-2), (-2), 0, 0, 0), (10, .invokevirtual 55, 0, 313, 2, 88), (13, .ireturn, 0, 0, 0, 0)]
def kX8_planTap_14 : List e_Op := [(14, .aload_n 0, 0, 0, 0, 0), (15, .iload_n 1, 0, 1, 0, 0), (16, .invokevirtual 144, 0, 304, 2, 85), (19, .istore_n 3, 0, 3, 0, 0), (20, .iload_n 3, 0, 3, 0, 0), (21, .ifCond .eq 9, 0, 264, 0, 0), (24, .aload_n 0, 0, 0, 0, 0), (25, .iload_n 3, 0, 3, 0, 0), (26, .invokevirtual 55, 0, 313, 2, 88), (29, .ireturn, 0, 0, 0, 0)]
def kX8_planTap_30 : List e_Op := [(30, .aload_n 0, 0, 0, 0, 0), (31, .getfield 26, 0, 8, 2, 2), (34, .aload_n 0, 0, 0, 0, 0), (35, .getfield 10, 0, 8, 0, 2), (38, .iload_n 1, 0, 1, 0, 0), (39, .invokevirtual 231, 0, 113, 3, 29), (42, .ifCond .eq 18, 0, 265, 0, 0), (45, .bipush 100, 100, 0, 0, 0), (47, .aload_n 0, 0, 0, 0, 0), (48, .getfield 26, 0, 8, 2, 2), (51, .getfield 236, 0, 5, 3, 2), (54, .iload_n 2, 0, 2, 0, 0), (55, .iaload, 0, 0, 0, 0), (56, .iadd, 0, 0, 0, 0), (57, .goto 9, 0, 266, 0, 0)]
def kX8_planTap_60 : List e_Op := [(60, .aload_n 0, 0, 0, 0, 0), (61, .bipush (-4), (-4), 0, 0, 0), (63, .invokevirtual 55, 0, 313, 2, 88), (66, .nop, 0, 266, 0, 0)]
def kX8_planTap_66 : List e_Op := [(66, .ireturn, 0, 0, 0, 0)]
def kX8_undo_0 : List e_Op := [(0, .aload_n 0, 0, 0, 0, 0), (1, .getfield 40, 0, 8, 4, 2), (4, .getfield 239, 0, 3, 1, 0), (7, .ifCond .gt 10, 0, 268, 0, 0), (10, .aload_n 0, 0, 0, 0, 0), (11, .bipush (-6), (-6), 0, 0, 0), (13, .invokevirtual 55, 0, 313, 2, 88), (16, .ireturn, 0, 0, 0, 0)]
def kX8_undo_17 : List e_Op := [(17, .aload_n 0, 0, 0, 0, 0), (18, .getfield 40, 0, 8, 4, 2), (21, .aload_n 0, 0, 0, 0, 0), (22, .getfield 10, 0, 8, 0, 2), (25, .invokevirtual 240, 0, 109, 2, 25), (28, .aload_n 0, 0, 0, 0, 0), (29, .getfield 40, 0, 8, 4, 2), (32, .getfield 239, 0, 3, 1, 0), (35, .ireturn, 0, 0, 0, 0)]
def kX8_errorCount_0 : List e_Op := [(0, .iload_n 1, 0, 1, 0, 0), (1, .invokestatic 243, 0, 312, 1, 87), (4, .ifCond .eq 15, 0, 270, 0, 0), (7, .aload_n 0, 0, 0, 0, 0), (8, .getfield 48, 0, 8, 6, 2), (11, .bipush (-2), (-2), 0, 0, 0), (13, .iload_n 1, 0, 1, 0, 0), (14, .isub, 0, 0, 0, 0), (15, .iaload, 0, 0, 0, 0), (16, .goto 9, 0, 271, 0, 0)]
def kX8_errorCount_19 : List e_Op := [(19, .aload_n 0, 0, 0, 0, 0), (20, .bipush (-2), (-2), 0, 0, 0), (22, .invokevirtual 55, 0, 313, 2, 88), (25, .nop, 0, 271, 0, 0)]
def kX8_errorCount_25 : List e_Op := [(25, .ireturn, 0, 0, 0, 0)]
def kX8_digest_0 : List e_Op := [(0, .aload_n 0, 0, 0, 0, 0), (1, .getfield 19, 0, 8, 1, 2), (4, .aload_n 0, 0, 0, 0, 0), (5, .getfield 10, 0, 8, 0, 2), (8, .invokevirtual 196, 0, 88, 2, 18), (11, .ldc2_w 246, 2749, 0, 0, 0), (14, .lstore_n 1, 0, 1, 0, 0), (15, .iconst 0, 0, 0, 0, 0), (16, .istore_n 3, 0, 3, 0, 0), (17, .nop, 0, 273, 0, 0)]
def kX8_digest_17 : List e_Op := [(17, .iload_n 3, 0, 3, 0, 0), (18, .iconst 5, 5, 0, 0, 0), (19, .if_icmp .ge 20, 0, 274, 0, 0), (22, .lload_n 1, 0, 1, 0, 0), (23, .aload_n 0, 0, 0, 0, 0), (24, .getfield 48, 0, 8, 6, 2), (27, .iload_n 3, 0, 3, 0, 0), (28, .iaload, 0, 0, 0, 0), (29, .invokestatic 248, 0, 283, 2, 78), (32, .lstore_n 1, 0, 1, 0, 0), (33, .iinc 3 1, 1, 3, 0, 0), (36, .goto (-19), 0, 273, 0, 0)]
def kX8_digest_39 : List e_Op := [(39, .lload_n 1, 0, 1, 0, 0), (40, .aload_n 0, 0, 0, 0, 0), (41, .getfield 33, 0, 8, 3, 2), (44, .getfield 102, 0, 6, 1, 0), (47, .invokestatic 248, 0, 283, 2, 78), (50, .lstore_n 1, 0, 1, 0, 0), (51, .lload_n 1, 0, 1, 0, 0), (52, .aload_n 0, 0, 0, 0, 0), (53, .getfield 10, 0, 8, 0, 2), (56, .getfield 187, 0, 1, 0, 0), (59, .invokestatic 248, 0, 283, 2, 78), (62, .lstore_n 1, 0, 1, 0, 0), (63, .lload_n 1, 0, 1, 0, 0), (64, .aload_n 0, 0, 0, 0, 0), (65, .getfield 10, 0, 8, 0, 2), (68, .getfield 63, 0, 1, 1, 0), (71, .invokestatic 248, 0, 283, 2, 78), (74, .lstore_n 1, 0, 1, 0, 0), (75, .iconst 0, 0, 0, 0, 0), (76, .istore_n 3, 0, 3, 0, 0), (77, .nop, 0, 275, 0, 0)]
def kX8_digest_77 : List e_Op := [(77, .iload_n 3, 0, 3, 0, 0), (78, .bipush 24, 24, 0, 0, 0), (80, .if_icmp .ge 23, 0, 276, 0, 0), (83, .lload_n 1, 0, 1, 0, 0), (84, .aload_n 0, 0, 0, 0, 0), (85, .getfield 10, 0, 8, 0, 2), (88, .getfield 99, 0, 1, 4, 2), (91, .iload_n 3, 0, 3, 0, 0), (92, .iaload, 0, 0, 0, 0), (93, .invokestatic 248, 0, 283, 2, 78), (96, .lstore_n 1, 0, 1, 0, 0), (97, .iinc 3 1, 1, 3, 0, 0), (100, .goto (-23), 0, 275, 0, 0)]
def kX8_digest_103 : List e_Op := [(103, .lload_n 1, 0, 1, 0, 0), (104, .aload_n 0, 0, 0, 0, 0), (105, .getfield 10, 0, 8, 0, 2), (108, .getfield 71, 0, 1, 2, 0), (111, .invokestatic 248, 0, 283, 2, 78), (114, .lstore_n 1, 0, 1, 0, 0), (115, .iconst 1, 1, 0, 0, 0), (116, .istore_n 3, 0, 3, 0, 0), (117, .nop, 0, 277, 0, 0)]
def kX8_digest_117 : List e_Op := [(117, .iload_n 3, 0, 3, 0, 0), (118, .aload_n 0, 0, 0, 0, 0), (119, .getfield 10, 0, 8, 0, 2), (122, .getfield 71, 0, 1, 2, 0), (125, .if_icmp .gt 85, 0, 278, 0, 0), (128, .lload_n 1, 0, 1, 0, 0), (129, .aload_n 0, 0, 0, 0, 0), (130, .getfield 19, 0, 8, 1, 2), (133, .getfield 213, 0, 2, 2, 2), (136, .iload_n 3, 0, 3, 0, 0), (137, .iaload, 0, 0, 0, 0), (138, .invokestatic 248, 0, 283, 2, 78), (141, .lstore_n 1, 0, 1, 0, 0), (142, .lload_n 1, 0, 1, 0, 0), (143, .aload_n 0, 0, 0, 0, 0), (144, .getfield 19, 0, 8, 1, 2), (147, .getfield 216, 0, 2, 0, 2), (150, .iload_n 3, 0, 3, 0, 0), (151, .iaload, 0, 0, 0, 0), (152, .invokestatic 248, 0, 283, 2, 78), (155, .lstore_n 1, 0, 1, 0, 0), (156, .lload_n 1, 0, 1, 0, 0), (157, .aload_n 0, 0, 0, 0, 0), (158, .getfield 19, 0, 8, 1, 2), (161, .getfield 219, 0, 2, 1, 2), (164, .iload_n 3, 0, 3, 0, 0), (165, .iaload, 0, 0, 0, 0), (166, .invokestatic 248, 0, 283, 2, 78), (169, .lstore_n 1, 0, 1, 0, 0), (170, .lload_n 1, 0, 1, 0, 0), (171, .aload_n 0, 0, 0, 0, 0), (172, .getfield 10, 0, 8, 0, 2), (175, .getfield 74, 0, 1, 5, 2), (178, .iload_n 3, 0, 3, 0, 0), (179, .aaload, 0, 0, 0, 0), (180, .getfield 122, 0, 4, 4, 2), (183, .invokestatic 252, 0, 279, 2, 76), (186, .lstore_n 1, 0, 1, 0, 0), (187, .lload_n 1, 0, 1, 0, 0), (188, .aload_n 0, 0, 0, 0, 0), (189, .getfield 10, 0, 8, 0, 2), (192, .getfield 74, 0, 1, 5, 2), (195, .iload_n 3, 0, 3, 0, 0), (196, .aaload, 0, 0, 0, 0), (197, .getfield 153, 0, 4, 5, 2), (200, .invokestatic 256, 0, 281, 2, 77), (203, .lstore_n 1, 0, 1, 0, 0), (204, .iinc 3 1, 1, 3, 0, 0), (207, .goto (-90), 0, 277, 0, 0)]
def kX8_digest_210 : List e_Op := [(210, .lload_n 1, 0, 1, 0, 0), (211, .aload_n 0, 0, 0, 0, 0), (212, .getfield 10, 0, 8, 0, 2), (215, .getfield 207, 0, 1, 3, 0), (218, .invokestatic 248, 0, 283, 2, 78), (221, .lstore_n 1, 0, 1, 0, 0), (222, .lload_n 1, 0, 1, 0, 0), (223, .aload_n 0, 0, 0, 0, 0), (224, .getfield 40, 0, 8, 4, 2), (227, .getfield 239, 0, 3, 1, 0), (230, .invokestatic 248, 0, 283, 2, 78), (233, .lreturn, 0, 0, 0, 0)]
def kX8_mixRegulator_0 : List e_Op := [(0, .lload_n 0, 0, 0, 0, 0), (1, .aload_n 2, 0, 2, 0, 0), (2, .getfield 126, 0, 7, 0, 1), (5, .invokestatic 179, 0, 300, 1, 83), (8, .invokestatic 248, 0, 283, 2, 78), (11, .lstore_n 3, 0, 3, 0, 0), (12, .aload_n 2, 0, 2, 0, 0), (13, .getfield 126, 0, 7, 0, 1), (16, .ifCond .ne 5, 0, 280, 0, 0), (19, .lload_n 3, 0, 3, 0, 0), (20, .lreturn, 0, 0, 0, 0)]
def kX8_mixRegulator_21 : List e_Op := [(21, .lload_n 3, 0, 3, 0, 0), (22, .aload_n 2, 0, 2, 0, 0), (23, .getfield 147, 0, 7, 5, 0), (26, .invokestatic 248, 0, 283, 2, 78), (29, .lstore_n 3, 0, 3, 0, 0), (30, .lload_n 3, 0, 3, 0, 0), (31, .aload_n 2, 0, 2, 0, 0), (32, .getfield 222, 0, 7, 6, 0), (35, .invokestatic 248, 0, 283, 2, 78), (38, .lstore_n 3, 0, 3, 0, 0), (39, .lload_n 3, 0, 3, 0, 0), (40, .aload_n 2, 0, 2, 0, 0), (41, .getfield 225, 0, 7, 8, 1), (44, .invokestatic 179, 0, 300, 1, 83), (47, .invokestatic 248, 0, 283, 2, 78), (50, .lstore_n 3, 0, 3, 0, 0), (51, .lload_n 3, 0, 3, 0, 0), (52, .aload_n 2, 0, 2, 0, 0), (53, .getfield 228, 0, 7, 7, 0), (56, .invokestatic 248, 0, 283, 2, 78), (59, .lreturn, 0, 0, 0, 0)]
def kX8_mixBank_0 : List e_Op := [(0, .lload_n 0, 0, 0, 0, 0), (1, .aload_n 2, 0, 2, 0, 0), (2, .getfield 157, 0, 0, 0, 1), (5, .invokestatic 179, 0, 300, 1, 83), (8, .invokestatic 248, 0, 283, 2, 78), (11, .lstore_n 3, 0, 3, 0, 0), (12, .aload_n 2, 0, 2, 0, 0), (13, .getfield 157, 0, 0, 0, 1), (16, .ifCond .ne 5, 0, 282, 0, 0), (19, .lload_n 3, 0, 3, 0, 0), (20, .lreturn, 0, 0, 0, 0)]
def kX8_mixBank_21 : List e_Op := [(21, .lload_n 3, 0, 3, 0, 0), (22, .aload_n 2, 0, 2, 0, 0), (23, .getfield 176, 0, 0, 6, 1), (26, .invokestatic 179, 0, 300, 1, 83), (29, .invokestatic 248, 0, 283, 2, 78), (32, .lstore_n 3, 0, 3, 0, 0), (33, .lload_n 3, 0, 3, 0, 0), (34, .aload_n 2, 0, 2, 0, 0), (35, .getfield 260, 0, 0, 7, 0), (38, .invokestatic 248, 0, 283, 2, 78), (41, .lreturn, 0, 0, 0, 0)]
def kX8_mix_0 : List e_Op := [(0, .ldc2_w 261, 31, 0, 0, 0), (3, .lload_n 0, 0, 0, 0, 0), (4, .lmul, 0, 0, 0, 0), (5, .iload_n 2, 0, 2, 0, 0), (6, .i2l, 0, 0, 0, 0), (7, .ladd, 0, 0, 0, 0), (8, .lreturn, 0, 0, 0, 0)]
def kX8_isWithin_0 : List e_Op := [(0, .iload_n 0, 0, 0, 0, 0), (1, .iload_n 1, 0, 1, 0, 0), (2, .if_icmp .lt 12, 0, 285, 0, 0), (5, .iload_n 0, 0, 0, 0, 0), (6, .iload_n 2, 0, 2, 0, 0), (7, .if_icmp .gt 7, 0, 285, 0, 0), (10, .iconst 1, 1, 0, 0, 0), (11, .goto 4, 0, 286, 0, 0)]
def kX8_isWithin_14 : List e_Op := [(14, .iconst 0, 0, 0, 0, 0), (15, .nop, 0, 286, 0, 0)]
def kX8_isWithin_15 : List e_Op := [(15, .ireturn, 0, 1, 0, 0)]
def kX8_isHour_0 : List e_Op := [(0, .iload_n 0, 0, 0, 0, 0), (1, .iconst 0, 0, 0, 0, 0), (2, .bipush 23, 23, 0, 0, 0), (4, .invokestatic 51, 0, 284, 3, 79), (7, .ireturn, 0, 1, 0, 0)]
def kX8_isLoad_0 : List e_Op := [(0, .iload_n 0, 0, 0, 0, 0), (1, .sipush (-500), (-500), 0, 0, 0), (4, .sipush 500, 500, 0, 0, 0), (7, .invokestatic 51, 0, 284, 3, 79), (10, .ifCond .eq 20, 0, 289, 0, 0), (13, .iload_n 1, 0, 1, 0, 0), (14, .sipush (-300), (-300), 0, 0, 0), (17, .sipush 300, 300, 0, 0, 0), (20, .invokestatic 51, 0, 284, 3, 79), (23, .ifCond .eq 7, 0, 289, 0, 0), (26, .iconst 1, 1, 0, 0, 0), (27, .goto 4, 0, 290, 0, 0)]
def kX8_isLoad_30 : List e_Op := [(30, .iconst 0, 0, 0, 0, 0), (31, .nop, 0, 290, 0, 0)]
def kX8_isLoad_31 : List e_Op := [(31, .ireturn, 0, 1, 0, 0)]
def kX8_areBankSettings_0 : List e_Op := [(0, .iload_n 0, 0, 0, 0, 0), (1, .iconst 1, 1, 0, 0, 0), (2, .if_icmp .ne 23, 0, 294, 0, 0), (5, .iload_n 1, 0, 1, 0, 0), (6, .invokestatic 96, 0, 287, 1, 80), (9, .ifCond .eq 14, 0, 292, 0, 0), (12, .iload_n 2, 0, 2, 0, 0), (13, .invokestatic 96, 0, 287, 1, 80), (16, .ifCond .eq 7, 0, 292, 0, 0), (19, .iconst 1, 1, 0, 0, 0), (20, .goto 4, 0, 293, 0, 0)]
def kX8_areBankSettings_23 : List e_Op := [(23, .iconst 0, 0, 0, 0, 0), (24, .nop, 0, 293, 0, 0)]
def kX8_areBankSettings_24 : List e_Op := [(24, .ireturn, 0, 1, 0, 0)]
def kX8_areBankSettings_25 : List e_Op := [(25, .iload_n 0, 0, 0, 0, 0), (26, .iconst 2, 2, 0, 0, 0), (27, .if_icmp .ne 40, 0, 297, 0, 0), (30, .iload_n 1, 0, 1, 0, 0), (31, .sipush (-3000), (-3000), 0, 0, 0), (34, .sipush 3000, 3000, 0, 0, 0), (37, .invokestatic 51, 0, 284, 3, 79), (40, .ifCond .eq 25, 0, 295, 0, 0), (43, .iload_n 2, 0, 2, 0, 0), (44, .sipush (-3000), (-3000), 0, 0, 0), (47, .sipush 3000, 3000, 0, 0, 0), (50, .invokestatic 51, 0, 284, 3, 79), (53, .ifCond .eq 12, 0, 295, 0, 0), (56, .iload_n 1, 0, 1, 0, 0), (57, .iload_n 2, 0, 2, 0, 0), (58, .if_icmp .ge 7, 0, 295, 0, 0), (61, .iconst 1, 1, 0, 0, 0), (62, .goto 4, 0, 296, 0, 0)]
def kX8_areBankSettings_65 : List e_Op := [(65, .iconst 0, 0, 0, 0, 0), (66, .nop, 0, 296, 0, 0)]
def kX8_areBankSettings_66 : List e_Op := [(66, .ireturn, 0, 1, 0, 0)]
def kX8_areBankSettings_67 : List e_Op := [(67, .iload_n 0, 0, 0, 0, 0), (68, .ifCond .ne 7, 0, 298, 0, 0), (71, .iconst 1, 1, 0, 0, 0), (72, .goto 4, 0, 299, 0, 0)]
def kX8_areBankSettings_75 : List e_Op := [(75, .iconst 0, 0, 0, 0, 0), (76, .nop, 0, 299, 0, 0)]
def kX8_areBankSettings_76 : List e_Op := [(76, .ireturn, 0, 1, 0, 0)]
def kX8_bit_0 : List e_Op := [(0, .iload_n 0, 0, 0, 0, 0), (1, .ifCond .eq 7, 0, 301, 0, 0), (4, .iconst 1, 1, 0, 0, 0), (5, .goto 4, 0, 302, 0, 0)]
def kX8_bit_8 : List e_Op := [(8, .iconst 0, 0, 0, 0, 0), (9, .nop, 0, 302, 0, 0)]
def kX8_bit_9 : List e_Op := [(9, .ireturn, 0, 0, 0, 0)]
def kX8_hasNode_0 : List e_Op := [(0, .iload_n 1, 0, 1, 0, 0), (1, .iconst 1, 1, 0, 0, 0), (2, .aload_n 0, 0, 0, 0, 0), (3, .getfield 10, 0, 8, 0, 2), (6, .getfield 71, 0, 1, 2, 0), (9, .invokestatic 51, 0, 284, 3, 79), (12, .ireturn, 0, 1, 0, 0)]
def kX8_regulatorFault_0 : List e_Op := [(0, .aload_n 0, 0, 0, 0, 0), (1, .iload_n 1, 0, 1, 0, 0), (2, .invokevirtual 92, 0, 303, 2, 84), (5, .ifCond .ne 6, 0, 305, 0, 0), (8, .bipush (-2), (-2), 0, 0, 0), (10, .ireturn, 0, 0, 0, 0)]
def kX8_regulatorFault_11 : List e_Op := [(11, .aload_n 0, 0, 0, 0, 0), (12, .getfield 10, 0, 8, 0, 2), (15, .getfield 74, 0, 1, 5, 2), (18, .iload_n 1, 0, 1, 0, 0), (19, .aaload, 0, 0, 0, 0), (20, .getfield 122, 0, 4, 4, 2), (23, .getfield 126, 0, 7, 0, 1), (26, .ifCond .eq 7, 0, 306, 0, 0), (29, .iconst 0, 0, 0, 0, 0), (30, .goto 5, 0, 307, 0, 0)]
def kX8_regulatorFault_33 : List e_Op := [(33, .bipush (-4), (-4), 0, 0, 0), (35, .nop, 0, 307, 0, 0)]
def kX8_regulatorFault_35 : List e_Op := [(35, .ireturn, 0, 0, 0, 0)]
def kX8_bankFault_0 : List e_Op := [(0, .aload_n 0, 0, 0, 0, 0), (1, .iload_n 1, 0, 1, 0, 0), (2, .invokevirtual 92, 0, 303, 2, 84), (5, .ifCond .ne 6, 0, 309, 0, 0), (8, .bipush (-2), (-2), 0, 0, 0), (10, .ireturn, 0, 0, 0, 0)]
def kX8_bankFault_11 : List e_Op := [(11, .aload_n 0, 0, 0, 0, 0), (12, .getfield 10, 0, 8, 0, 2), (15, .getfield 74, 0, 1, 5, 2), (18, .iload_n 1, 0, 1, 0, 0), (19, .aaload, 0, 0, 0, 0), (20, .getfield 153, 0, 4, 5, 2), (23, .getfield 157, 0, 0, 0, 1), (26, .ifCond .eq 7, 0, 310, 0, 0), (29, .iconst 0, 0, 0, 0, 0), (30, .goto 5, 0, 311, 0, 0)]
def kX8_bankFault_33 : List e_Op := [(33, .bipush (-4), (-4), 0, 0, 0), (35, .nop, 0, 311, 0, 0)]
def kX8_bankFault_35 : List e_Op := [(35, .ireturn, 0, 0, 0, 0)]
def kX8_isErrorCode_0 : List e_Op := [(0, .iload_n 0, 0, 0, 0, 0), (1, .bipush (-6), (-6), 0, 0, 0), (3, .bipush (-2), (-2), 0, 0, 0), (5, .invokestatic 51, 0, 284, 3, 79), (8, .ireturn, 0, 1, 0, 0)]
def kX8_refuse_0 : List e_Op := [(0, .iload_n 1, 0, 1, 0, 0), (1, .invokestatic 243, 0, 312, 1, 87), (4, .ifCond .eq 16, 0, 314, 0, 0), (7, .aload_n 0, 0, 0, 0, 0), (8, .getfield 48, 0, 8, 6, 2), (11, .bipush (-2), (-2), 0, 0, 0), (13, .iload_n 1, 0, 1, 0, 0), (14, .isub, 0, 0, 0, 0), (15, .dup2, 0, 0, 0, 0), (16, .iaload, 0, 0, 0, 0), (17, .iconst 1, 1, 0, 0, 0), (18, .iadd, 0, 0, 0, 0), (19, .iastore, 0, 0, 0, 0), (20, .nop, 0, 314, 0, 0)]
def kX8_refuse_20 : List e_Op := [(20, .iload_n 1, 0, 1, 0, 0), (21, .ireturn, 0, 0, 0, 0)]
def kX9_init_0 : List e_Op := [(0, .aload_n 0, 0, 0, 0, 0), (1, .invokespecial 1, 0, 0, 0, 999), (4, .aload_n 0, 0, 0, 0, 0), (5, .sipush 220, 220, 0, 0, 0), (8, .newarray .int, 0, 10, 0, 0), (10, .putfield 7, 0, 9, 0, 2), (13, .aload_n 0, 0, 0, 0, 0), (14, .sipush 660, 660, 0, 0, 0), (17, .newarray .int, 0, 10, 0, 0), (19, .putfield 13, 0, 9, 1, 2), (22, .aload_n 0, 0, 0, 0, 0), (23, .bipush 120, 120, 0, 0, 0), (25, .newarray .int, 0, 10, 0, 0), (27, .putfield 16, 0, 9, 3, 2), (30, .aload_n 0, 0, 0, 0, 0), (31, .bipush 7, 7, 0, 0, 0), (33, .newarray .int, 0, 10, 0, 0), (35, .putfield 19, 0, 9, 5, 2), (38, .aload_n 0, 0, 0, 0, 0), (39, .bipush 9, 9, 0, 0, 0), (41, .newarray .int, 0, 10, 0, 0), (43, .putfield 22, 0, 9, 6, 2), (46, .aload_n 0, 0, 0, 0, 0), (47, .bipush 9, 9, 0, 0, 0), (49, .newarray .int, 0, 10, 0, 0), (51, .putfield 25, 0, 9, 7, 2), (54, .aload_n 0, 0, 0, 0, 0), (55, .bipush 9, 9, 0, 0, 0), (57, .newarray .int, 0, 10, 0, 0), (59, .putfield 28, 0, 9, 8, 2), (62, .aload_n 0, 0, 0, 0, 0), (63, .bipush 24, 24, 0, 0, 0), (65, .newarray .int, 0, 10, 0, 0), (67, .putfield 31, 0, 9, 10, 2), (70, .aload_n 0, 0, 0, 0, 0), (71, .sipush 792, 792, 0, 0, 0), (74, .newarray .int, 0, 10, 0, 0), (76, .putfield 34, 0, 9, 11, 2), (79, .aload_n 0, 0, 0, 0, 0), (80, .getfield 7, 0, 9, 0, 2), (83, .iconst 1, 1, 0, 0, 0), (84, .sipush 10000, 10000, 0, 0, 0), (87, .iastore, 0, 0, 0, 0), (88, .iconst 0, 0, 0, 0, 0), (89, .istore_n 1, 0, 1, 0, 0), (90, .nop, 0, 316, 0, 0)]
def kX9_init_90 : List e_Op := [(90, .iload_n 1, 0, 1, 0, 0), (91, .bipush 24, 24, 0, 0, 0), (93, .if_icmp .ge 19, 0, 317, 0, 0), (96, .aload_n 0, 0, 0, 0, 0), (97, .getfield 7, 0, 9, 0, 2), (100, .iconst 4, 4, 0, 0, 0), (101, .iload_n 1, 0, 1, 0, 0), (102, .iadd, 0, 0, 0, 0), (103, .bipush 100, 100, 0, 0, 0), (105, .iastore, 0, 0, 0, 0), (106, .iinc 1 1, 1, 1, 0, 0), (109, .goto (-19), 0, 316, 0, 0)]
def kX9_init_112 : List e_Op := [(112, .return_, 0, 0, 0, 0)]
def kX9_in_0 : List e_Op := [(0, .iload_n 0, 0, 0, 0, 0), (1, .iload_n 1, 0, 1, 0, 0), (2, .if_icmp .lt 12, 0, 319, 0, 0), (5, .iload_n 0, 0, 0, 0, 0), (6, .iload_n 2, 0, 2, 0, 0), (7, .if_icmp .gt 7, 0, 319, 0, 0), (10, .iconst 1, 1, 0, 0, 0), (11, .goto 4, 0, 320, 0, 0)]
def kX9_in_14 : List e_Op := [(14, .iconst 0, 0, 0, 0, 0), (15, .nop, 0, 320, 0, 0)]
def kX9_in_15 : List e_Op := [(15, .ireturn, 0, 1, 0, 0)]
def kX9_error_0 : List e_Op := [(0, .aload_n 0, 0, 0, 0, 0), (1, .getfield 19, 0, 9, 5, 2), (4, .iload_n 1, 0, 1, 0, 0), (5, .ineg, 0, 0, 0, 0), (6, .dup2, 0, 0, 0, 0), (7, .iaload, 0, 0, 0, 0), (8, .iconst 1, 1, 0, 0, 0), (9, .iadd, 0, 0, 0, 0), (10, .iastore, 0, 0, 0, 0), (11, .iload_n 1, 0, 1, 0, 0), (12, .ireturn, 0, 0, 0, 0)]
def kX9_isNode_0 : List e_Op := [(0, .iload_n 1, 0, 1, 0, 0), (1, .iconst 1, 1, 0, 0, 0), (2, .aload_n 0, 0, 0, 0, 0), (3, .getfield 7, 0, 9, 0, 2), (6, .iconst 3, 3, 0, 0, 0), (7, .iaload, 0, 0, 0, 0), (8, .invokestatic 37, 0, 318, 3, 90), (11, .ireturn, 0, 1, 0, 0)]
def kX9_spot_0 : List e_Op := [(0, .bipush 28, 28, 0, 0, 0), (2, .bipush 24, 24, 0, 0, 0), (4, .iload_n 0, 0, 0, 0, 0), (5, .iconst 1, 1, 0, 0, 0), (6, .isub, 0, 0, 0, 0), (7, .imul, 0, 0, 0, 0), (8, .iadd, 0, 0, 0, 0), (9, .iload_n 1, 0, 1, 0, 0), (10, .iadd, 0, 0, 0, 0), (11, .ireturn, 0, 0, 0, 0)]
def kX9_of_0 : List e_Op := [(0, .aload_n 0, 0, 0, 0, 0), (1, .getfield 7, 0, 9, 0, 2), (4, .iload_n 1, 0, 1, 0, 0), (5, .iload_n 2, 0, 2, 0, 0), (6, .invokestatic 41, 0, 323, 2, 93), (9, .iaload, 0, 0, 0, 0), (10, .ireturn, 0, 0, 0, 0)]
def kX9_put_0 : List e_Op := [(0, .aload_n 0, 0, 0, 0, 0), (1, .getfield 7, 0, 9, 0, 2), (4, .iload_n 1, 0, 1, 0, 0), (5, .iload_n 2, 0, 2, 0, 0), (6, .invokestatic 41, 0, 323, 2, 93), (9, .iload_n 3, 0, 3, 0, 0), (10, .iastore, 0, 0, 0, 0), (11, .return_, 0, 0, 0, 0)]
def kX9_save_0 : List e_Op := [(0, .aload_n 0, 0, 0, 0, 0), (1, .getfield 45, 0, 9, 2, 0), (4, .iconst 3, 3, 0, 0, 0), (5, .if_icmp .ne 44, 0, 329, 0, 0), (8, .iconst 0, 0, 0, 0, 0), (9, .istore_n 1, 0, 1, 0, 0), (10, .nop, 0, 327, 0, 0)]
def kX9_save_10 : List e_Op := [(10, .iload_n 1, 0, 1, 0, 0), (11, .sipush 440, 440, 0, 0, 0), (14, .if_icmp .ge 25, 0, 328, 0, 0), (17, .aload_n 0, 0, 0, 0, 0), (18, .getfield 13, 0, 9, 1, 2), (21, .iload_n 1, 0, 1, 0, 0), (22, .aload_n 0, 0, 0, 0, 0), (23, .getfield 13, 0, 9, 1, 2), (26, .iload_n 1, 0, 1, 0, 0), (27, .sipush 220, 220, 0, 0, 0), (30, .iadd, 0, 0, 0, 0), (31, .iaload, 0, 0, 0, 0), (32, .iastore, 0, 0, 0, 0), (33, .iinc 1 1, 1, 1, 0, 0), (36, .goto (-26), 0, 327, 0, 0)]
def kX9_save_39 : List e_Op := [(39, .aload_n 0, 0, 0, 0, 0), (40, .dup, 0, 0, 0, 0), (41, .getfield 45, 0, 9, 2, 0), (44, .iconst 1, 1, 0, 0, 0), (45, .isub, 0, 0, 0, 0), (46, .putfield 45, 0, 9, 2, 0), (49, .nop, 0, 329, 0, 0)]
def kX9_save_49 : List e_Op := [(49, .iconst 0, 0, 0, 0, 0), (50, .istore_n 1, 0, 1, 0, 0), (51, .nop, 0, 330, 0, 0)]
def kX9_save_51 : List e_Op := [(51, .iload_n 1, 0, 1, 0, 0), (52, .sipush 220, 220, 0, 0, 0), (55, .if_icmp .ge 30, 0, 331, 0, 0), (58, .aload_n 0, 0, 0, 0, 0), (59, .getfield 13, 0, 9, 1, 2), (62, .sipush 220, 220, 0, 0, 0), (65, .aload_n 0, 0, 0, 0, 0), (66, .getfield 45, 0, 9, 2, 0), (69, .imul, 0, 0, 0, 0), (70, .iload_n 1, 0, 1, 0, 0), (71, .iadd, 0, 0, 0, 0), (72, .aload_n 0, 0, 0, 0, 0), (73, .getfield 7, 0, 9, 0, 2), (76, .iload_n 1, 0, 1, 0, 0), (77, .iaload, 0, 0, 0, 0), (78, .iastore, 0, 0, 0, 0), (79, .iinc 1 1, 1, 1, 0, 0), (82, .goto (-31), 0, 330, 0, 0)]
def kX9_save_85 : List e_Op := [(85, .aload_n 0, 0, 0, 0, 0), (86, .dup, 0, 0, 0, 0), (87, .getfield 45, 0, 9, 2, 0), (90, .iconst 1, 1, 0, 0, 0), (91, .iadd, 0, 0, 0, 0), (92, .putfield 45, 0, 9, 2, 0), (95, .return_, 0, 0, 0, 0)]
def kX9_setSource_0 : List e_Op := [(0, .iload_n 1, 0, 1, 0, 0), (1, .sipush 9000, 9000, 0, 0, 0), (4, .sipush 11000, 11000, 0, 0, 0), (7, .invokestatic 37, 0, 318, 3, 90), (10, .ifCond .ne 10, 0, 333, 0, 0), (13, .aload_n 0, 0, 0, 0, 0), (14, .bipush (-2), (-2), 0, 0, 0), (16, .invokevirtual 49, 0, 321, 2, 91), (19, .ireturn, 0, 0, 0, 0)]
def kX9_setSource_20 : List e_Op := [(20, .aload_n 0, 0, 0, 0, 0), (21, .invokevirtual 53, 0, 326, 1, 96), (24, .aload_n 0, 0, 0, 0, 0), (25, .getfield 7, 0, 9, 0, 2), (28, .iconst 1, 1, 0, 0, 0), (29, .iaload, 0, 0, 0, 0), (30, .istore_n 2, 0, 2, 0, 0), (31, .aload_n 0, 0, 0, 0, 0), (32, .getfield 7, 0, 9, 0, 2), (35, .iconst 1, 1, 0, 0, 0), (36, .iload_n 1, 0, 1, 0, 0), (37, .iastore, 0, 0, 0, 0), (38, .iload_n 2, 0, 2, 0, 0), (39, .ireturn, 0, 0, 0, 0)]
def kX9_isLoad_0 : List e_Op := [(0, .iload_n 0, 0, 0, 0, 0), (1, .sipush (-500), (-500), 0, 0, 0), (4, .sipush 500, 500, 0, 0, 0), (7, .invokestatic 37, 0, 318, 3, 90), (10, .ifCond .eq 20, 0, 335, 0, 0), (13, .iload_n 1, 0, 1, 0, 0), (14, .sipush (-300), (-300), 0, 0, 0), (17, .sipush 300, 300, 0, 0, 0), (20, .invokestatic 37, 0, 318, 3, 90), (23, .ifCond .eq 7, 0, 335, 0, 0), (26, .iconst 1, 1, 0, 0, 0), (27, .goto 4, 0, 336, 0, 0)]
def kX9_isLoad_30 : List e_Op := [(30, .iconst 0, 0, 0, 0, 0), (31, .nop, 0, 336, 0, 0)]
def kX9_isLoad_31 : List e_Op := [(31, .ireturn, 0, 1, 0, 0)]
def kX9_addNode_0 : List e_Op := [(0, .iload_n 1, 0, 1, 0, 0), (1, .iconst 0, 0, 0, 0, 0), (2, .bipush 50, 50, 0, 0, 0), (4, .invokestatic 37, 0, 318, 3, 90), (7, .ifCond .eq 22, 0, 338, 0, 0), (10, .iload_n 2, 0, 2, 0, 0), (11, .iconst 0, 0, 0, 0, 0), (12, .bipush 50, 50, 0, 0, 0), (14, .invokestatic 37, 0, 318, 3, 90), (17, .ifCond .eq 12, 0, 338, 0, 0), (20, .iload_n 3, 0, 3, 0, 0), (21, .iload 4, 0, 4, 0, 0), (23, .invokestatic 56, 0, 334, 2, 98), (26, .ifCond .ne 10, 0, 339, 0, 0), (29, .nop, 0, 338, 0, 0)]
def kX9_addNode_29 : List e_Op := [(29, .aload_n 0, 0, 0, 0, 0), (30, .bipush (-2), (-2), 0, 0, 0), (32, .invokevirtual 49, 0, 321, 2, 91), (35, .ireturn, 0, 0, 0, 0)]
def kX9_addNode_36 : List e_Op := [(36, .aload_n 0, 0, 0, 0, 0), (37, .getfield 7, 0, 9, 0, 2), (40, .iconst 3, 3, 0, 0, 0), (41, .iaload, 0, 0, 0, 0), (42, .bipush 8, 8, 0, 0, 0), (44, .if_icmp .ne 10, 0, 340, 0, 0), (47, .aload_n 0, 0, 0, 0, 0), (48, .bipush (-5), (-5), 0, 0, 0), (50, .invokevirtual 49, 0, 321, 2, 91), (53, .ireturn, 0, 0, 0, 0)]
def kX9_addNode_54 : List e_Op := [(54, .aload_n 0, 0, 0, 0, 0), (55, .invokevirtual 53, 0, 326, 1, 96), (58, .aload_n 0, 0, 0, 0, 0), (59, .getfield 7, 0, 9, 0, 2), (62, .iconst 3, 3, 0, 0, 0), (63, .dup2, 0, 0, 0, 0), (64, .iaload, 0, 0, 0, 0), (65, .iconst 1, 1, 0, 0, 0), (66, .iadd, 0, 0, 0, 0), (67, .iastore, 0, 0, 0, 0), (68, .aload_n 0, 0, 0, 0, 0), (69, .getfield 7, 0, 9, 0, 2), (72, .iconst 3, 3, 0, 0, 0), (73, .iaload, 0, 0, 0, 0), (74, .istore 5, 0, 5, 0, 0), (76, .iconst 0, 0, 0, 0, 0), (77, .istore 6, 0, 6, 0, 0), (79, .nop, 0, 341, 0, 0)]
def kX9_addNode_79 : List e_Op := [(79, .iload 6, 0, 6, 0, 0), (81, .bipush 24, 24, 0, 0, 0), (83, .if_icmp .ge 18, 0, 342, 0, 0), (86, .aload_n 0, 0, 0, 0, 0), (87, .iload 5, 0, 5, 0, 0), (89, .iload 6, 0, 6, 0, 0), (91, .iconst 0, 0, 0, 0, 0), (92, .invokevirtual 60, 0, 325, 4, 95), (95, .iinc 6 1, 1, 6, 0, 0), (98, .goto (-19), 0, 341, 0, 0)]
def kX9_addNode_101 : List e_Op := [(101, .aload_n 0, 0, 0, 0, 0), (102, .iload 5, 0, 5, 0, 0), (104, .iconst 0, 0, 0, 0, 0), (105, .iload_n 1, 0, 1, 0, 0), (106, .invokevirtual 60, 0, 325, 4, 95), (109, .aload_n 0, 0, 0, 0, 0), (110, .iload 5, 0, 5, 0, 0), (112, .iconst 1, 1, 0, 0, 0), (113, .iload_n 2, 0, 2, 0, 0), (114, .invokevirtual 60, 0, 325, 4, 95), (117, .aload_n 0, 0, 0, 0, 0), (118, .iload 5, 0, 5, 0, 0), (120, .iconst 2, 2, 0, 0, 0), (121, .iload_n 3, 0, 3, 0, 0), (122, .invokevirtual 60, 0, 325, 4, 95), (125, .aload_n 0, 0, 0, 0, 0), (126, .iload 5, 0, 5, 0, 0), (128, .iconst 3, 3, 0, 0, 0), (129, .iload 4, 0, 4, 0, 0), (131, .invokevirtual 60, 0, 325, 4, 95), (134, .iload 5, 0, 5, 0, 0), (136, .ireturn, 0, 0, 0, 0)]
def kX9_setLoad_0 : List e_Op := [(0, .aload_n 0, 0, 0, 0, 0), (1, .iload_n 1, 0, 1, 0, 0), (2, .invokevirtual 64, 0, 322, 2, 92), (5, .ifCond .eq 11, 0, 344, 0, 0), (8, .iload_n 2, 0, 2, 0, 0), (9, .iload_n 3, 0, 3, 0, 0), (10, .invokestatic 56, 0, 334, 2, 98), (13, .ifCond .ne 10, 0, 345, 0, 0), (16, .nop, 0, 344, 0, 0)]
def kX9_setLoad_16 : List e_Op := [(16, .aload_n 0, 0, 0, 0, 0), (17, .bipush (-2), (-2), 0, 0, 0), (19, .invokevirtual 49, 0, 321, 2, 91), (22, .ireturn, 0, 0, 0, 0)]
def kX9_setLoad_23 : List e_Op := [(23, .aload_n 0, 0, 0, 0, 0), (24, .invokevirtual 53, 0, 326, 1, 96), (27, .aload_n 0, 0, 0, 0, 0), (28, .iload_n 1, 0, 1, 0, 0), (29, .iconst 2, 2, 0, 0, 0), (30, .iload_n 2, 0, 2, 0, 0), (31, .invokevirtual 60, 0, 325, 4, 95), (34, .aload_n 0, 0, 0, 0, 0), (35, .iload_n 1, 0, 1, 0, 0), (36, .iconst 3, 3, 0, 0, 0), (37, .iload_n 3, 0, 3, 0, 0), (38, .invokevirtual 60, 0, 325, 4, 95), (41, .iconst 1, 1, 0, 0, 0), (42, .ireturn, 0, 0, 0, 0)]
def kX9_setFactor_0 : List e_Op := [(0, .iload_n 1, 0, 1, 0, 0), (1, .iconst 0, 0, 0, 0, 0), (2, .bipush 23, 23, 0, 0, 0), (4, .invokestatic 37, 0, 318, 3, 90), (7, .ifCond .eq 14, 0, 347, 0, 0), (10, .iload_n 2, 0, 2, 0, 0), (11, .iconst 0, 0, 0, 0, 0), (12, .sipush 200, 200, 0, 0, 0), (15, .invokestatic 37, 0, 318, 3, 90), (18, .ifCond .ne 10, 0, 348, 0, 0), (21, .nop, 0, 347, 0, 0)]
def kX9_setFactor_21 : List e_Op := [(21, .aload_n 0, 0, 0, 0, 0), (22, .bipush (-2), (-2), 0, 0, 0), (24, .invokevirtual 49, 0, 321, 2, 91), (27, .ireturn, 0, 0, 0, 0)]
def kX9_setFactor_28 : List e_Op := [(28, .aload_n 0, 0, 0, 0, 0), (29, .invokevirtual 53, 0, 326, 1, 96), (32, .aload_n 0, 0, 0, 0, 0), (33, .getfield 7, 0, 9, 0, 2), (36, .iconst 4, 4, 0, 0, 0), (37, .iload_n 1, 0, 1, 0, 0), (38, .iadd, 0, 0, 0, 0), (39, .iaload, 0, 0, 0, 0), (40, .istore_n 3, 0, 3, 0, 0), (41, .aload_n 0, 0, 0, 0, 0), (42, .getfield 7, 0, 9, 0, 2), (45, .iconst 4, 4, 0, 0, 0), (46, .iload_n 1, 0, 1, 0, 0), (47, .iadd, 0, 0, 0, 0), (48, .iload_n 2, 0, 2, 0, 0), (49, .iastore, 0, 0, 0, 0), (50, .iload_n 3, 0, 3, 0, 0), (51, .ireturn, 0, 0, 0, 0)]
def kX9_append_0 : List e_Op := [(0, .iload_n 1, 0, 1, 0, 0), (1, .iconst 0, 0, 0, 0, 0), (2, .bipush 127, 127, 0, 0, 0), (4, .invokestatic 37, 0, 318, 3, 90), (7, .ifCond .ne 10, 0, 350, 0, 0), (10, .aload_n 0, 0, 0, 0, 0), (11, .bipush (-2), (-2), 0, 0, 0), (13, .invokevirtual 49, 0, 321, 2, 91), (16, .ireturn, 0, 0, 0, 0)]
def kX9_append_17 : List e_Op := [(17, .aload_n 0, 0, 0, 0, 0), (18, .getfield 68, 0, 9, 4, 0), (21, .bipush 120, 120, 0, 0, 0), (23, .if_icmp .ne 10, 0, 351, 0, 0), (26, .aload_n 0, 0, 0, 0, 0), (27, .bipush (-5), (-5), 0, 0, 0), (29, .invokevirtual 49, 0, 321, 2, 91), (32, .ireturn, 0, 0, 0, 0)]
def kX9_append_33 : List e_Op := [(33, .aload_n 0, 0, 0, 0, 0), (34, .getfield 16, 0, 9, 3, 2), (37, .aload_n 0, 0, 0, 0, 0), (38, .getfield 68, 0, 9, 4, 0), (41, .iload_n 1, 0, 1, 0, 0), (42, .iastore, 0, 0, 0, 0), (43, .aload_n 0, 0, 0, 0, 0), (44, .dup, 0, 0, 0, 0), (45, .getfield 68, 0, 9, 4, 0), (48, .iconst 1, 1, 0, 0, 0), (49, .iadd, 0, 0, 0, 0), (50, .putfield 68, 0, 9, 4, 0), (53, .aload_n 0, 0, 0, 0, 0), (54, .getfield 68, 0, 9, 4, 0), (57, .ireturn, 0, 0, 0, 0)]
def kX9_clearText_0 : List e_Op := [(0, .aload_n 0, 0, 0, 0, 0), (1, .getfield 68, 0, 9, 4, 0), (4, .istore_n 1, 0, 1, 0, 0), (5, .aload_n 0, 0, 0, 0, 0), (6, .iconst 0, 0, 0, 0, 0), (7, .putfield 68, 0, 9, 4, 0), (10, .iload_n 1, 0, 1, 0, 0), (11, .ireturn, 0, 0, 0, 0)]
def kX9_next_0 : List e_Op := [(0, .aload_n 0, 0, 0, 0, 0), (1, .getfield 71, 0, 9, 9, 0), (4, .aload_n 0, 0, 0, 0, 0), (5, .getfield 68, 0, 9, 4, 0), (8, .if_icmp .ge 30, 0, 354, 0, 0), (11, .aload_n 0, 0, 0, 0, 0), (12, .getfield 16, 0, 9, 3, 2), (15, .aload_n 0, 0, 0, 0, 0), (16, .getfield 71, 0, 9, 9, 0), (19, .iaload, 0, 0, 0, 0), (20, .bipush 32, 32, 0, 0, 0), (22, .if_icmp .ne 16, 0, 354, 0, 0), (25, .aload_n 0, 0, 0, 0, 0), (26, .dup, 0, 0, 0, 0), (27, .getfield 71, 0, 9, 9, 0), (30, .iconst 1, 1, 0, 0, 0), (31, .iadd, 0, 0, 0, 0), (32, .putfield 71, 0, 9, 9, 0), (35, .goto (-35), 0, 353, 0, 0)]
def kX9_next_38 : List e_Op := [(38, .aload_n 0, 0, 0, 0, 0), (39, .getfield 71, 0, 9, 9, 0), (42, .aload_n 0, 0, 0, 0, 0), (43, .getfield 68, 0, 9, 4, 0), (46, .if_icmp .ge 15, 0, 355, 0, 0), (49, .aload_n 0, 0, 0, 0, 0), (50, .getfield 16, 0, 9, 3, 2), (53, .aload_n 0, 0, 0, 0, 0), (54, .getfield 71, 0, 9, 9, 0), (57, .iaload, 0, 0, 0, 0), (58, .goto 4, 0, 356, 0, 0)]
def kX9_next_61 : List e_Op := [(61, .iconst (-1), (-1), 0, 0, 0), (62, .nop, 0, 356, 0, 0)]
def kX9_next_62 : List e_Op := [(62, .ireturn, 0, 0, 0, 0)]
def kX9_takes_0 : List e_Op := [(0, .aload_n 0, 0, 0, 0, 0), (1, .invokevirtual 74, 0, 353, 1, 104), (4, .iload_n 1, 0, 1, 0, 0), (5, .if_icmp .ne 7, 0, 358, 0, 0), (8, .iconst 1, 1, 0, 0, 0), (9, .goto 4, 0, 359, 0, 0)]
def kX9_takes_12 : List e_Op := [(12, .iconst 0, 0, 0, 0, 0), (13, .nop, 0, 359, 0, 0)]
def kX9_takes_13 : List e_Op := [(13, .istore_n 2, 0, 2, 0, 0), (14, .aload_n 0, 0, 0, 0, 0), (15, .dup, 0, 0, 0, 0), (16, .getfield 71, 0, 9, 9, 0), (19, .iload_n 2, 0, 2, 0, 0), (20, .ifCond .eq 7, 0, 360, 0, 0), (23, .iconst 1, 1, 0, 0, 0), (24, .goto 4, 0, 361, 0, 0)]
def kX9_takes_27 : List e_Op := [(27, .iconst 0, 0, 0, 0, 0), (28, .nop, 0, 361, 0, 0)]
def kX9_takes_28 : List e_Op := [(28, .iadd, 0, 0, 0, 0), (29, .putfield 71, 0, 9, 9, 0), (32, .iload_n 2, 0, 2, 0, 0), (33, .ireturn, 0, 1, 0, 0)]
def kX9_number_0 : List e_Op := [(0, .aload_n 0, 0, 0, 0, 0), (1, .invokevirtual 74, 0, 353, 1, 104), (4, .pop, 0, 0, 0, 0), (5, .aload_n 0, 0, 0, 0, 0), (6, .getfield 71, 0, 9, 9, 0), (9, .istore_n 3, 0, 3, 0, 0), (10, .iconst 0, 0, 0, 0, 0), (11, .istore 4, 0, 4, 0, 0), (13, .nop, 0, 363, 0, 0)]
def kX9_number_13 : List e_Op := [(13, .aload_n 0, 0, 0, 0, 0), (14, .getfield 71, 0, 9, 9, 0), (17, .aload_n 0, 0, 0, 0, 0), (18, .getfield 68, 0, 9, 4, 0), (21, .if_icmp .ge 65, 0, 364, 0, 0), (24, .aload_n 0, 0, 0, 0, 0), (25, .getfield 16, 0, 9, 3, 2), (28, .aload_n 0, 0, 0, 0, 0), (29, .getfield 71, 0, 9, 9, 0), (32, .iaload, 0, 0, 0, 0), (33, .bipush 48, 48, 0, 0, 0), (35, .bipush 57, 57, 0, 0, 0), (37, .invokestatic 37, 0, 318, 3, 90), (40, .ifCond .eq 46, 0, 364, 0, 0), (43, .aload_n 0, 0, 0, 0, 0), (44, .getfield 71, 0, 9, 9, 0), (47, .iload_n 3, 0, 3, 0, 0), (48, .iconst 3, 3, 0, 0, 0), (49, .iadd, 0, 0, 0, 0), (50, .if_icmp .ge 36, 0, 364, 0, 0), (53, .bipush 10, 10, 0, 0, 0), (55, .iload 4, 0, 4, 0, 0), (57, .imul, 0, 0, 0, 0), (58, .aload_n 0, 0, 0, 0, 0), (59, .getfield 16, 0, 9, 3, 2), (62, .aload_n 0, 0, 0, 0, 0), (63, .getfield 71, 0, 9, 9, 0), (66, .iaload, 0, 0, 0, 0), (67, .iadd, 0, 0, 0, 0), (68, .bipush 48, 48, 0, 0, 0), (70, .isub, 0, 0, 0, 0), (71, .istore 4, 0, 4, 0, 0), (73, .aload_n 0, 0, 0, 0, 0), (74, .dup, 0, 0, 0, 0), (75, .getfield 71, 0, 9, 9, 0), (78, .iconst 1, 1, 0, 0, 0), (79, .iadd, 0, 0, 0, 0), (80, .putfield 71, 0, 9, 9, 0), (83, .goto (-70), 0, 363, 0, 0)]
def kX9_number_86 : List e_Op := [(86, .aload_n 0, 0, 0, 0, 0), (87, .getfield 71, 0, 9, 9, 0), (90, .iload_n 3, 0, 3, 0, 0), (91, .iconst 3, 3, 0, 0, 0), (92, .iadd, 0, 0, 0, 0), (93, .if_icmp .ne 37, 0, 365, 0, 0), (96, .aload_n 0, 0, 0, 0, 0), (97, .getfield 71, 0, 9, 9, 0), (100, .aload_n 0, 0, 0, 0, 0), (101, .getfield 68, 0, 9, 4, 0), (104, .if_icmp .ge 26, 0, 365, 0, 0), (107, .aload_n 0, 0, 0, 0, 0), (108, .getfield 16, 0, 9, 3, 2), (111, .aload_n 0, 0, 0, 0, 0), (112, .getfield 71, 0, 9, 9, 0), (115, .iaload, 0, 0, 0, 0), (116, .bipush 48, 48, 0, 0, 0), (118, .bipush 57, 57, 0, 0, 0), (120, .invokestatic 37, 0, 318, 3, 90), (123, .ifCond .eq 7, 0, 365, 0, 0), (126, .iconst 1, 1, 0, 0, 0), (127, .goto 4, 0, 366, 0, 0)]
def kX9_number_130 : List e_Op := [(130, .iconst 0, 0, 0, 0, 0), (131, .nop, 0, 366, 0, 0)]
def kX9_number_131 : List e_Op := [(131, .istore 5, 0, 5, 0, 0), (133, .aload_n 0, 0, 0, 0, 0), (134, .getfield 71, 0, 9, 9, 0), (137, .iload_n 3, 0, 3, 0, 0), (138, .if_icmp .eq 8, 0, 367, 0, 0), (141, .iload 5, 0, 5, 0, 0), (143, .ifCond .eq 5, 0, 368, 0, 0), (146, .nop, 0, 367, 0, 0)]
def kX9_number_146 : List e_Op := [(146, .iconst (-1), (-1), 0, 0, 0), (147, .ireturn, 0, 0, 0, 0)]
def kX9_number_148 : List e_Op := [(148, .iload 4, 0, 4, 0, 0), (150, .iload_n 1, 0, 1, 0, 0), (151, .iload_n 2, 0, 2, 0, 0), (152, .invokestatic 37, 0, 318, 3, 90), (155, .ifCond .ne 10, 0, 369, 0, 0), (158, .aload_n 0, 0, 0, 0, 0), (159, .iload_n 3, 0, 3, 0, 0), (160, .putfield 71, 0, 9, 9, 0), (163, .iconst (-1), (-1), 0, 0, 0), (164, .ireturn, 0, 0, 0, 0)]
def kX9_number_165 : List e_Op := [(165, .iload 4, 0, 4, 0, 0), (167, .ireturn, 0, 0, 0, 0)]
def kX9_readsItem_0 : List e_Op := [(0, .aload_n 0, 0, 0, 0, 0), (1, .iconst 0, 0, 0, 0, 0), (2, .bipush 23, 23, 0, 0, 0), (4, .invokevirtual 78, 0, 362, 3, 106), (7, .istore_n 1, 0, 1, 0, 0), (8, .iload_n 1, 0, 1, 0, 0), (9, .ifCond .ge 5, 0, 371, 0, 0), (12, .iconst 0, 0, 0, 0, 0), (13, .ireturn, 0, 1, 0, 0)]
def kX9_readsItem_14 : List e_Op := [(14, .iload_n 1, 0, 1, 0, 0), (15, .istore_n 2, 0, 2, 0, 0), (16, .aload_n 0, 0, 0, 0, 0), (17, .bipush 45, 45, 0, 0, 0), (19, .invokevirtual 81, 0, 357, 2, 105), (22, .ifCond .eq 17, 0, 372, 0, 0), (25, .aload_n 0, 0, 0, 0, 0), (26, .iload_n 1, 0, 1, 0, 0), (27, .bipush 23, 23, 0, 0, 0), (29, .invokevirtual 78, 0, 362, 3, 106), (32, .istore_n 2, 0, 2, 0, 0), (33, .iload_n 2, 0, 2, 0, 0), (34, .ifCond .ge 5, 0, 372, 0, 0), (37, .iconst 0, 0, 0, 0, 0), (38, .ireturn, 0, 1, 0, 0)]
def kX9_readsItem_39 : List e_Op := [(39, .aload_n 0, 0, 0, 0, 0), (40, .bipush 58, 58, 0, 0, 0), (42, .invokevirtual 81, 0, 357, 2, 105), (45, .ifCond .ne 5, 0, 373, 0, 0), (48, .iconst 0, 0, 0, 0, 0), (49, .ireturn, 0, 1, 0, 0)]
def kX9_readsItem_50 : List e_Op := [(50, .aload_n 0, 0, 0, 0, 0), (51, .iconst 0, 0, 0, 0, 0), (52, .sipush 200, 200, 0, 0, 0), (55, .invokevirtual 78, 0, 362, 3, 106), (58, .istore_n 3, 0, 3, 0, 0), (59, .iload_n 3, 0, 3, 0, 0), (60, .ifCond .lt 12, 0, 374, 0, 0), (63, .aload_n 0, 0, 0, 0, 0), (64, .bipush 59, 59, 0, 0, 0), (66, .invokevirtual 81, 0, 357, 2, 105), (69, .ifCond .ne 5, 0, 375, 0, 0), (72, .nop, 0, 374, 0, 0)]
def kX9_readsItem_72 : List e_Op := [(72, .iconst 0, 0, 0, 0, 0), (73, .ireturn, 0, 1, 0, 0)]
def kX9_readsItem_74 : List e_Op := [(74, .iload_n 1, 0, 1, 0, 0), (75, .istore 4, 0, 4, 0, 0), (77, .nop, 0, 376, 0, 0)]
def kX9_readsItem_77 : List e_Op := [(77, .iload 4, 0, 4, 0, 0), (79, .iload_n 2, 0, 2, 0, 0), (80, .if_icmp .gt 17, 0, 377, 0, 0), (83, .aload_n 0, 0, 0, 0, 0), (84, .getfield 31, 0, 9, 10, 2), (87, .iload 4, 0, 4, 0, 0), (89, .iload_n 3, 0, 3, 0, 0), (90, .iastore, 0, 0, 0, 0), (91, .iinc 4 1, 1, 4, 0, 0), (94, .goto (-17), 0, 376, 0, 0)]
def kX9_readsItem_97 : List e_Op := [(97, .iconst 1, 1, 0, 0, 0), (98, .ireturn, 0, 1, 0, 0)]
def kX9_parseProfile_0 : List e_Op := [(0, .iconst 0, 0, 0, 0, 0), (1, .istore_n 1, 0, 1, 0, 0), (2, .nop, 0, 379, 0, 0)]
def kX9_parseProfile_2 : List e_Op := [(2, .iload_n 1, 0, 1, 0, 0), (3, .bipush 24, 24, 0, 0, 0), (5, .if_icmp .ge 23, 0, 380, 0, 0), (8, .aload_n 0, 0, 0, 0, 0), (9, .getfield 31, 0, 9, 10, 2), (12, .iload_n 1, 0, 1, 0, 0), (13, .aload_n 0, 0, 0, 0, 0), (14, .getfield 7, 0, 9, 0, 2), (17, .iconst 4, 4, 0, 0, 0), (18, .iload_n 1, 0, 1, 0, 0), (19, .iadd, 0, 0, 0, 0), (20, .iaload, 0, 0, 0, 0), (21, .iastore, 0, 0, 0, 0), (22, .iinc 1 1, 1, 1, 0, 0), (25, .goto (-23), 0, 379, 0, 0)]
def kX9_parseProfile_28 : List e_Op := [(28, .aload_n 0, 0, 0, 0, 0), (29, .iconst 0, 0, 0, 0, 0), (30, .putfield 71, 0, 9, 9, 0), (33, .iconst 0, 0, 0, 0, 0), (34, .istore_n 1, 0, 1, 0, 0), (35, .nop, 0, 381, 0, 0)]
def kX9_parseProfile_35 : List e_Op := [(35, .aload_n 0, 0, 0, 0, 0), (36, .invokevirtual 74, 0, 353, 1, 104), (39, .ifCond .lt 24, 0, 383, 0, 0), (42, .aload_n 0, 0, 0, 0, 0), (43, .invokevirtual 84, 0, 370, 1, 107), (46, .ifCond .ne 11, 0, 382, 0, 0), (49, .bipush (-10), (-10), 0, 0, 0), (51, .aload_n 0, 0, 0, 0, 0), (52, .getfield 71, 0, 9, 9, 0), (55, .isub, 0, 0, 0, 0), (56, .ireturn, 0, 0, 0, 0)]
def kX9_parseProfile_57 : List e_Op := [(57, .iinc 1 1, 1, 1, 0, 0), (60, .goto (-25), 0, 381, 0, 0)]
def kX9_parseProfile_63 : List e_Op := [(63, .aload_n 0, 0, 0, 0, 0), (64, .invokevirtual 53, 0, 326, 1, 96), (67, .iconst 0, 0, 0, 0, 0), (68, .istore_n 2, 0, 2, 0, 0), (69, .nop, 0, 384, 0, 0)]
def kX9_parseProfile_69 : List e_Op := [(69, .iload_n 2, 0, 2, 0, 0), (70, .bipush 24, 24, 0, 0, 0), (72, .if_icmp .ge 23, 0, 385, 0, 0), (75, .aload_n 0, 0, 0, 0, 0), (76, .getfield 7, 0, 9, 0, 2), (79, .iconst 4, 4, 0, 0, 0), (80, .iload_n 2, 0, 2, 0, 0), (81, .iadd, 0, 0, 0, 0), (82, .aload_n 0, 0, 0, 0, 0), (83, .getfield 31, 0, 9, 10, 2), (86, .iload_n 2, 0, 2, 0, 0), (87, .iaload, 0, 0, 0, 0), (88, .iastore, 0, 0, 0, 0), (89, .iinc 2 1, 1, 2, 0, 0), (92, .goto (-23), 0, 384, 0, 0)]
def kX9_parseProfile_95 : List e_Op := [(95, .iload_n 1, 0, 1, 0, 0), (96, .ireturn, 0, 0, 0, 0)]
def kX9_addRegulator_0 : List e_Op := [(0, .aload_n 0, 0, 0, 0, 0), (1, .iload_n 1, 0, 1, 0, 0), (2, .invokevirtual 64, 0, 322, 2, 92), (5, .ifCond .eq 49, 0, 387, 0, 0), (8, .iload_n 2, 0, 2, 0, 0), (9, .sipush 9000, 9000, 0, 0, 0), (12, .sipush 11000, 11000, 0, 0, 0), (15, .invokestatic 37, 0, 318, 3, 90), (18, .ifCond .eq 36, 0, 387, 0, 0), (21, .iload_n 3, 0, 3, 0, 0), (22, .bipush 10, 10, 0, 0, 0), (24, .sipush 500, 500, 0, 0, 0), (27, .invokestatic 37, 0, 318, 3, 90), (30, .ifCond .eq 24, 0, 387, 0, 0), (33, .iload 4, 0, 4, 0, 0), (35, .iconst 0, 0, 0, 0, 0), (36, .bipush 30, 30, 0, 0, 0), (38, .invokestatic 37, 0, 318, 3, 90), (41, .ifCond .eq 13, 0, 387, 0, 0), (44, .iload 5, 0, 5, 0, 0), (46, .iconst 0, 0, 0, 0, 0), (47, .iconst 1, 1, 0, 0, 0), (48, .invokestatic 37, 0, 318, 3, 90), (51, .ifCond .ne 10, 0, 388, 0, 0), (54, .nop, 0, 387, 0, 0)]
def kX9_addRegulator_54 : List e_Op := [(54, .aload_n 0, 0, 0, 0, 0), (55, .bipush (-2), (-2), 0, 0, 0), (57, .invokevirtual 49, 0, 321, 2, 91), (60, .ireturn, 0, 0, 0, 0)]
def kX9_addRegulator_61 : List e_Op := [(61, .aload_n 0, 0, 0, 0, 0), (62, .iload_n 1, 0, 1, 0, 0), (63, .iconst 4, 4, 0, 0, 0), (64, .invokevirtual 88, 0, 324, 3, 94), (67, .iconst 1, 1, 0, 0, 0), (68, .if_icmp .ne 10, 0, 389, 0, 0), (71, .aload_n 0, 0, 0, 0, 0), (72, .bipush (-3), (-3), 0, 0, 0), (74, .invokevirtual 49, 0, 321, 2, 91), (77, .ireturn, 0, 0, 0, 0)]
def kX9_addRegulator_78 : List e_Op := [(78, .aload_n 0, 0, 0, 0, 0), (79, .invokevirtual 53, 0, 326, 1, 96), (82, .aload_n 0, 0, 0, 0, 0), (83, .iload_n 1, 0, 1, 0, 0), (84, .iconst 4, 4, 0, 0, 0), (85, .iconst 1, 1, 0, 0, 0), (86, .invokevirtual 60, 0, 325, 4, 95), (89, .aload_n 0, 0, 0, 0, 0), (90, .iload_n 1, 0, 1, 0, 0), (91, .iconst 5, 5, 0, 0, 0), (92, .iload_n 2, 0, 2, 0, 0), (93, .invokevirtual 60, 0, 325, 4, 95), (96, .aload_n 0, 0, 0, 0, 0), (97, .iload_n 1, 0, 1, 0, 0), (98, .bipush 6, 6, 0, 0, 0), (100, .iload_n 3, 0, 3, 0, 0), (101, .invokevirtual 60, 0, 325, 4, 95), (104, .aload_n 0, 0, 0, 0, 0), (105, .iload_n 1, 0, 1, 0, 0), (106, .bipush 7, 7, 0, 0, 0), (108, .iload 4, 0, 4, 0, 0), (110, .invokevirtual 60, 0, 325, 4, 95), (113, .aload_n 0, 0, 0, 0, 0), (114, .iload_n 1, 0, 1, 0, 0), (115, .bipush 8, 8, 0, 0, 0), (117, .iload 5, 0, 5, 0, 0), (119, .invokevirtual 60, 0, 325, 4, 95), (122, .iconst 1, 1, 0, 0, 0), (123, .ireturn, 0, 0, 0, 0)]
def kX9_lacks_0 : List e_Op := [(0, .aload_n 0, 0, 0, 0, 0), (1, .iload_n 1, 0, 1, 0, 0), (2, .invokevirtual 64, 0, 322, 2, 92), (5, .ifCond .ne 8, 0, 391, 0, 0), (8, .bipush (-2), (-2), 0, 0, 0), (10, .goto 18, 0, 393, 0, 0)]
def kX9_lacks_13 : List e_Op := [(13, .aload_n 0, 0, 0, 0, 0), (14, .iload_n 1, 0, 1, 0, 0), (15, .iload_n 2, 0, 2, 0, 0), (16, .invokevirtual 88, 0, 324, 3, 94), (19, .ifCond .ne 8, 0, 392, 0, 0), (22, .bipush (-4), (-4), 0, 0, 0), (24, .goto 4, 0, 393, 0, 0)]
def kX9_lacks_27 : List e_Op := [(27, .iconst 0, 0, 0, 0, 0), (28, .nop, 0, 393, 0, 0)]
def kX9_lacks_28 : List e_Op := [(28, .ireturn, 0, 0, 0, 0)]
def kX9_setTap_0 : List e_Op := [(0, .iload_n 2, 0, 2, 0, 0), (1, .bipush (-16), (-16), 0, 0, 0), (3, .bipush 16, 16, 0, 0, 0), (5, .invokestatic 37, 0, 318, 3, 90), (8, .ifCond .eq 12, 0, 395, 0, 0), (11, .aload_n 0, 0, 0, 0, 0), (12, .iload_n 1, 0, 1, 0, 0), (13, .iconst 4, 4, 0, 0, 0), (14, .invokevirtual 91, 0, 390, 3, 110), (17, .goto 5, 0, 396, 0, 0)]
def kX9_setTap_20 : List e_Op := [(20, .bipush (-2), (-2), 0, 0, 0), (22, .nop, 0, 396, 0, 0)]
def kX9_setTap_22 : List e_Op := [(22, .istore_n 3, 0, 3, 0, 0), (23, .iload_n 3, 0, 3, 0, 0), (24, .ifCond .ge 9, 0, 397, 0, 0), (27, .aload_n 0, 0, 0, 0, 0), (28, .iload_n 3, 0, 3, 0, 0), (29, .invokevirtual 49, 0, 321, 2, 91), (32, .ireturn, 0, 0, 0, 0)]
def kX9_setTap_33 : List e_Op := [(33, .aload_n 0, 0, 0, 0, 0), (34, .invokevirtual 53, 0, 326, 1, 96), (37, .aload_n 0, 0, 0, 0, 0), (38, .iload_n 1, 0, 1, 0, 0), (39, .bipush 10, 10, 0, 0, 0), (41, .invokevirtual 88, 0, 324, 3, 94), (44, .istore 4, 0, 4, 0, 0), (46, .aload_n 0, 0, 0, 0, 0), (47, .iload_n 1, 0, 1, 0, 0), (48, .bipush 10, 10, 0, 0, 0), (50, .iload_n 2, 0, 2, 0, 0), (51, .invokevirtual 60, 0, 325, 4, 95), (54, .iload 4, 0, 4, 0, 0), (56, .bipush 100, 100, 0, 0, 0), (58, .iadd, 0, 0, 0, 0), (59, .ireturn, 0, 0, 0, 0)]
def kX9_addBank_0 : List e_Op := [(0, .iload_n 3, 0, 3, 0, 0), (1, .iconst 1, 1, 0, 0, 0), (2, .if_icmp .ne 25, 0, 399, 0, 0), (5, .iload 4, 0, 4, 0, 0), (7, .iconst 0, 0, 0, 0, 0), (8, .bipush 23, 23, 0, 0, 0), (10, .invokestatic 37, 0, 318, 3, 90), (13, .ifCond .eq 18, 0, 400, 0, 0), (16, .iload 5, 0, 5, 0, 0), (18, .iconst 0, 0, 0, 0, 0), (19, .bipush 23, 23, 0, 0, 0), (21, .invokestatic 37, 0, 318, 3, 90), (24, .ifCond .eq 7, 0, 400, 0, 0), (27, .nop, 0, 399, 0, 0)]
def kX9_addBank_27 : List e_Op := [(27, .iconst 1, 1, 0, 0, 0), (28, .goto 4, 0, 401, 0, 0)]
def kX9_addBank_31 : List e_Op := [(31, .iconst 0, 0, 0, 0, 0), (32, .nop, 0, 401, 0, 0)]
def kX9_addBank_32 : List e_Op := [(32, .istore 7, 0, 7, 0, 0), (34, .iload_n 3, 0, 3, 0, 0), (35, .iconst 2, 2, 0, 0, 0), (36, .if_icmp .ne 38, 0, 402, 0, 0), (39, .iload 4, 0, 4, 0, 0), (41, .sipush (-3000), (-3000), 0, 0, 0), (44, .sipush 3000, 3000, 0, 0, 0), (47, .invokestatic 37, 0, 318, 3, 90), (50, .ifCond .eq 28, 0, 403, 0, 0), (53, .iload 5, 0, 5, 0, 0), (55, .sipush (-3000), (-3000), 0, 0, 0), (58, .sipush 3000, 3000, 0, 0, 0), (61, .invokestatic 37, 0, 318, 3, 90), (64, .ifCond .eq 14, 0, 403, 0, 0), (67, .iload 4, 0, 4, 0, 0), (69, .iload 5, 0, 5, 0, 0), (71, .if_icmp .ge 7, 0, 403, 0, 0), (74, .nop, 0, 402, 0, 0)]
def kX9_addBank_74 : List e_Op := [(74, .iconst 1, 1, 0, 0, 0), (75, .goto 4, 0, 404, 0, 0)]
def kX9_addBank_78 : List e_Op := [(78, .iconst 0, 0, 0, 0, 0), (79, .nop, 0, 404, 0, 0)]
def kX9_addBank_79 : List e_Op := [(79, .istore 8, 0, 8, 0, 0), (81, .aload_n 0, 0, 0, 0, 0), (82, .iload_n 1, 0, 1, 0, 0), (83, .invokevirtual 64, 0, 322, 2, 92), (86, .ifCond .eq 44, 0, 405, 0, 0), (89, .iload_n 2, 0, 2, 0, 0), (90, .iconst 1, 1, 0, 0, 0), (91, .sipush 300, 300, 0, 0, 0), (94, .invokestatic 37, 0, 318, 3, 90), (97, .ifCond .eq 33, 0, 405, 0, 0), (100, .iload_n 3, 0, 3, 0, 0), (101, .iconst 0, 0, 0, 0, 0), (102, .iconst 2, 2, 0, 0, 0), (103, .invokestatic 37, 0, 318, 3, 90), (106, .ifCond .eq 24, 0, 405, 0, 0), (109, .iload 7, 0, 7, 0, 0), (111, .ifCond .eq 19, 0, 405, 0, 0), (114, .iload 8, 0, 8, 0, 0), (116, .ifCond .eq 14, 0, 405, 0, 0), (119, .iload 6, 0, 6, 0, 0), (121, .iconst 0, 0, 0, 0, 0), (122, .bipush 30, 30, 0, 0, 0), (124, .invokestatic 37, 0, 318, 3, 90), (127, .ifCond .ne 10, 0, 406, 0, 0), (130, .nop, 0, 405, 0, 0)]
def kX9_addBank_130 : List e_Op := [(130, .aload_n 0, 0, 0, 0, 0), (131, .bipush (-2), (-2), 0, 0, 0), (133, .invokevirtual 49, 0, 321, 2, 91), (136, .ireturn, 0, 0, 0, 0)]
def kX9_addBank_137 : List e_Op := [(137, .aload_n 0, 0, 0, 0, 0), (138, .iload_n 1, 0, 1, 0, 0), (139, .bipush 16, 16, 0, 0, 0), (141, .invokevirtual 88, 0, 324, 3, 94), (144, .iconst 1, 1, 0, 0, 0), (145, .if_icmp .ne 10, 0, 407, 0, 0), (148, .aload_n 0, 0, 0, 0, 0), (149, .bipush (-3), (-3), 0, 0, 0), (151, .invokevirtual 49, 0, 321, 2, 91), (154, .ireturn, 0, 0, 0, 0)]
def kX9_addBank_155 : List e_Op := [(155, .aload_n 0, 0, 0, 0, 0), (156, .invokevirtual 53, 0, 326, 1, 96), (159, .aload_n 0, 0, 0, 0, 0), (160, .iload_n 1, 0, 1, 0, 0), (161, .bipush 16, 16, 0, 0, 0), (163, .iconst 1, 1, 0, 0, 0), (164, .invokevirtual 60, 0, 325, 4, 95), (167, .aload_n 0, 0, 0, 0, 0), (168, .iload_n 1, 0, 1, 0, 0), (169, .bipush 17, 17, 0, 0, 0), (171, .iload_n 2, 0, 2, 0, 0), (172, .invokevirtual 60, 0, 325, 4, 95), (175, .aload_n 0, 0, 0, 0, 0), (176, .iload_n 1, 0, 1, 0, 0), (177, .bipush 18, 18, 0, 0, 0), (179, .iload_n 3, 0, 3, 0, 0), (180, .invokevirtual 60, 0, 325, 4, 95), (183, .aload_n 0, 0, 0, 0, 0), (184, .iload_n 1, 0, 1, 0, 0), (185, .bipush 19, 19, 0, 0, 0), (187, .iload 4, 0, 4, 0, 0), (189, .invokevirtual 60, 0, 325, 4, 95), (192, .aload_n 0, 0, 0, 0, 0), (193, .iload_n 1, 0, 1, 0, 0), (194, .bipush 20, 20, 0, 0, 0), (196, .iload 5, 0, 5, 0, 0), (198, .invokevirtual 60, 0, 325, 4, 95), (201, .aload_n 0, 0, 0, 0, 0), (202, .iload_n 1, 0, 1, 0, 0), (203, .bipush 21, 21, 0, 0, 0), (205, .iload 6, 0, 6, 0, 0), (207, .invokevirtual 60, 0, 325, 4, 95), (210, .iconst 1, 1, 0, 0, 0), (211, .ireturn, 0, 0, 0, 0)]
def kX9_switchBank_0 : List e_Op := [(0, .iload_n 2, 0, 2, 0, 0), (1, .iconst 0, 0, 0, 0, 0), (2, .iconst 1, 1, 0, 0, 0), (3, .invokestatic 37, 0, 318, 3, 90), (6, .ifCond .eq 13, 0, 409, 0, 0), (9, .aload_n 0, 0, 0, 0, 0), (10, .iload_n 1, 0, 1, 0, 0), (11, .bipush 16, 16, 0, 0, 0), (13, .invokevirtual 91, 0, 390, 3, 110), (16, .goto 5, 0, 410, 0, 0)]
def kX9_switchBank_19 : List e_Op := [(19, .bipush (-2), (-2), 0, 0, 0), (21, .nop, 0, 410, 0, 0)]
def kX9_switchBank_21 : List e_Op := [(21, .istore_n 3, 0, 3, 0, 0), (22, .iload_n 3, 0, 3, 0, 0), (23, .ifCond .ge 9, 0, 411, 0, 0), (26, .aload_n 0, 0, 0, 0, 0), (27, .iload_n 3, 0, 3, 0, 0), (28, .invokevirtual 49, 0, 321, 2, 91), (31, .ireturn, 0, 0, 0, 0)]
def kX9_switchBank_32 : List e_Op := [(32, .aload_n 0, 0, 0, 0, 0), (33, .invokevirtual 53, 0, 326, 1, 96), (36, .aload_n 0, 0, 0, 0, 0), (37, .iload_n 1, 0, 1, 0, 0), (38, .bipush 23, 23, 0, 0, 0), (40, .invokevirtual 88, 0, 324, 3, 94), (43, .istore 4, 0, 4, 0, 0), (45, .aload_n 0, 0, 0, 0, 0), (46, .iload_n 1, 0, 1, 0, 0), (47, .bipush 23, 23, 0, 0, 0), (49, .iload_n 2, 0, 2, 0, 0), (50, .invokevirtual 60, 0, 325, 4, 95), (53, .iload 4, 0, 4, 0, 0), (55, .ireturn, 0, 0, 0, 0)]
def kX9_hour_0 : List e_Op := [(0, .aload_n 0, 0, 0, 0, 0), (1, .getfield 7, 0, 9, 0, 2), (4, .iconst 0, 0, 0, 0, 0), (5, .iaload, 0, 0, 0, 0), (6, .bipush 60, 60, 0, 0, 0), (8, .idiv, 0, 0, 0, 0), (9, .bipush 24, 24, 0, 0, 0), (11, .irem, 0, 0, 0, 0), (12, .ireturn, 0, 0, 0, 0)]
def kX9_isTime_0 : List e_Op := [(0, .aload_n 0, 0, 0, 0, 0), (1, .iload_n 1, 0, 1, 0, 0), (2, .bipush 19, 19, 0, 0, 0), (4, .invokevirtual 88, 0, 324, 3, 94), (7, .istore_n 3, 0, 3, 0, 0), (8, .aload_n 0, 0, 0, 0, 0), (9, .iload_n 1, 0, 1, 0, 0), (10, .bipush 20, 20, 0, 0, 0), (12, .invokevirtual 88, 0, 324, 3, 94), (15, .istore 4, 0, 4, 0, 0), (17, .iload_n 3, 0, 3, 0, 0), (18, .iload 4, 0, 4, 0, 0), (20, .if_icmp .ge 22, 0, 415, 0, 0), (23, .iload_n 2, 0, 2, 0, 0), (24, .iload_n 3, 0, 3, 0, 0), (25, .if_icmp .lt 13, 0, 414, 0, 0), (28, .iload_n 2, 0, 2, 0, 0), (29, .iload 4, 0, 4, 0, 0), (31, .if_icmp .ge 7, 0, 414, 0, 0), (34, .iconst 1, 1, 0, 0, 0), (35, .goto 23, 0, 418, 0, 0)]
def kX9_isTime_38 : List e_Op := [(38, .iconst 0, 0, 0, 0, 0), (39, .goto 19, 0, 418, 0, 0)]
def kX9_isTime_42 : List e_Op := [(42, .iload_n 2, 0, 2, 0, 0), (43, .iload_n 3, 0, 3, 0, 0), (44, .if_icmp .ge 9, 0, 416, 0, 0), (47, .iload_n 2, 0, 2, 0, 0), (48, .iload 4, 0, 4, 0, 0), (50, .if_icmp .ge 7, 0, 417, 0, 0), (53, .nop, 0, 416, 0, 0)]
def kX9_isTime_53 : List e_Op := [(53, .iconst 1, 1, 0, 0, 0), (54, .goto 4, 0, 418, 0, 0)]
def kX9_isTime_57 : List e_Op := [(57, .iconst 0, 0, 0, 0, 0), (58, .nop, 0, 418, 0, 0)]
def kX9_isTime_58 : List e_Op := [(58, .ireturn, 0, 1, 0, 0)]
def kX9_compute_0 : List e_Op := [(0, .iconst 0, 0, 0, 0, 0), (1, .istore 5, 0, 5, 0, 0), (3, .iconst 0, 0, 0, 0, 0), (4, .istore 6, 0, 6, 0, 0), (6, .aload_n 0, 0, 0, 0, 0), (7, .getfield 7, 0, 9, 0, 2), (10, .iconst 3, 3, 0, 0, 0), (11, .iaload, 0, 0, 0, 0), (12, .istore 7, 0, 7, 0, 0), (14, .nop, 0, 420, 0, 0)]
def kX9_compute_14 : List e_Op := [(14, .iload 7, 0, 7, 0, 0), (16, .ifCond .le 154, 0, 426, 0, 0), (19, .iload 5, 0, 5, 0, 0), (21, .aload_n 0, 0, 0, 0, 0), (22, .iload 7, 0, 7, 0, 0), (24, .iconst 2, 2, 0, 0, 0), (25, .invokevirtual 88, 0, 324, 3, 94), (28, .aload_n 0, 0, 0, 0, 0), (29, .getfield 7, 0, 9, 0, 2), (32, .iconst 4, 4, 0, 0, 0), (33, .iload_n 1, 0, 1, 0, 0), (34, .iadd, 0, 0, 0, 0), (35, .iaload, 0, 0, 0, 0), (36, .imul, 0, 0, 0, 0), (37, .bipush 100, 100, 0, 0, 0), (39, .idiv, 0, 0, 0, 0), (40, .iadd, 0, 0, 0, 0), (41, .istore 5, 0, 5, 0, 0), (43, .iload 6, 0, 6, 0, 0), (45, .aload_n 0, 0, 0, 0, 0), (46, .iload 7, 0, 7, 0, 0), (48, .iconst 3, 3, 0, 0, 0), (49, .invokevirtual 88, 0, 324, 3, 94), (52, .aload_n 0, 0, 0, 0, 0), (53, .getfield 7, 0, 9, 0, 2), (56, .iconst 4, 4, 0, 0, 0), (57, .iload_n 1, 0, 1, 0, 0), (58, .iadd, 0, 0, 0, 0), (59, .iaload, 0, 0, 0, 0), (60, .imul, 0, 0, 0, 0), (61, .bipush 100, 100, 0, 0, 0), (63, .idiv, 0, 0, 0, 0), (64, .iadd, 0, 0, 0, 0), (65, .istore 6, 0, 6, 0, 0), (67, .iload_n 2, 0, 2, 0, 0), (68, .ifCond .eq 25, 0, 421, 0, 0), (71, .aload_n 0, 0, 0, 0, 0), (72, .iload 7, 0, 7, 0, 0), (74, .bipush 18, 18, 0, 0, 0), (76, .invokevirtual 88, 0, 324, 3, 94), (79, .iconst 1, 1, 0, 0, 0), (80, .if_icmp .ne 13, 0, 421, 0, 0), (83, .aload_n 0, 0, 0, 0, 0), (84, .iload 7, 0, 7, 0, 0), (86, .iload_n 1, 0, 1, 0, 0), (87, .invokevirtual 94, 0, 413, 3, 115), (90, .goto 20, 0, 423, 0, 0)]
def kX9_compute_93 : List e_Op := [(93, .aload_n 0, 0, 0, 0, 0), (94, .iload 7, 0, 7, 0, 0), (96, .bipush 23, 23, 0, 0, 0), (98, .invokevirtual 88, 0, 324, 3, 94), (101, .iconst 1, 1, 0, 0, 0), (102, .if_icmp .ne 7, 0, 422, 0, 0), (105, .iconst 1, 1, 0, 0, 0), (106, .goto 4, 0, 423, 0, 0)]
def kX9_compute_109 : List e_Op := [(109, .iconst 0, 0, 0, 0, 0), (110, .nop, 0, 423, 0, 0)]
def kX9_compute_110 : List e_Op := [(110, .istore 8, 0, 8, 0, 0), (112, .iload 6, 0, 6, 0, 0), (114, .aload_n 0, 0, 0, 0, 0), (115, .iload 7, 0, 7, 0, 0), (117, .bipush 16, 16, 0, 0, 0), (119, .invokevirtual 88, 0, 324, 3, 94), (122, .iconst 1, 1, 0, 0, 0), (123, .if_icmp .ne 19, 0, 424, 0, 0), (126, .iload 8, 0, 8, 0, 0), (128, .ifCond .eq 14, 0, 424, 0, 0), (131, .aload_n 0, 0, 0, 0, 0), (132, .iload 7, 0, 7, 0, 0), (134, .bipush 17, 17, 0, 0, 0), (136, .invokevirtual 88, 0, 324, 3, 94), (139, .goto 4, 0, 425, 0, 0)]
def kX9_compute_142 : List e_Op := [(142, .iconst 0, 0, 0, 0, 0), (143, .nop, 0, 425, 0, 0)]
def kX9_compute_143 : List e_Op := [(143, .isub, 0, 0, 0, 0), (144, .istore 6, 0, 6, 0, 0), (146, .aload_n 0, 0, 0, 0, 0), (147, .getfield 22, 0, 9, 6, 2), (150, .iload 7, 0, 7, 0, 0), (152, .iload 5, 0, 5, 0, 0), (154, .iastore, 0, 0, 0, 0), (155, .aload_n 0, 0, 0, 0, 0), (156, .getfield 25, 0, 9, 7, 2), (159, .iload 7, 0, 7, 0, 0), (161, .iload 6, 0, 6, 0, 0), (163, .iastore, 0, 0, 0, 0), (164, .iinc 7 (-1), (-1), 7, 0, 0), (167, .goto (-153), 0, 420, 0, 0)]
def kX9_compute_170 : List e_Op := [(170, .aload_n 0, 0, 0, 0, 0), (171, .getfield 28, 0, 9, 8, 2), (174, .iconst 0, 0, 0, 0, 0), (175, .aload_n 0, 0, 0, 0, 0), (176, .getfield 7, 0, 9, 0, 2), (179, .iconst 1, 1, 0, 0, 0), (180, .iaload, 0, 0, 0, 0), (181, .iastore, 0, 0, 0, 0), (182, .iconst 1, 1, 0, 0, 0), (183, .istore 7, 0, 7, 0, 0), (185, .nop, 0, 427, 0, 0)]
def kX9_compute_185 : List e_Op := [(185, .iload 7, 0, 7, 0, 0), (187, .aload_n 0, 0, 0, 0, 0), (188, .getfield 7, 0, 9, 0, 2), (191, .iconst 3, 3, 0, 0, 0), (192, .iaload, 0, 0, 0, 0), (193, .if_icmp .gt 132, 0, 434, 0, 0), (196, .iload 7, 0, 7, 0, 0), (198, .iload_n 3, 0, 3, 0, 0), (199, .if_icmp .ne 8, 0, 428, 0, 0), (202, .iload 4, 0, 4, 0, 0), (204, .goto 11, 0, 429, 0, 0)]
def kX9_compute_207 : List e_Op := [(207, .aload_n 0, 0, 0, 0, 0), (208, .iload 7, 0, 7, 0, 0), (210, .bipush 10, 10, 0, 0, 0), (212, .invokevirtual 88, 0, 324, 3, 94), (215, .nop, 0, 429, 0, 0)]
def kX9_compute_215 : List e_Op := [(215, .istore 8, 0, 8, 0, 0), (217, .aload_n 0, 0, 0, 0, 0), (218, .iload 7, 0, 7, 0, 0), (220, .iconst 4, 4, 0, 0, 0), (221, .invokevirtual 88, 0, 324, 3, 94), (224, .iconst 1, 1, 0, 0, 0), (225, .if_icmp .ne 26, 0, 430, 0, 0), (228, .aload_n 0, 0, 0, 0, 0), (229, .getfield 28, 0, 9, 8, 2), (232, .iload 7, 0, 7, 0, 0), (234, .iconst 1, 1, 0, 0, 0), (235, .isub, 0, 0, 0, 0), (236, .iaload, 0, 0, 0, 0), (237, .sipush 160, 160, 0, 0, 0), (240, .iload 8, 0, 8, 0, 0), (242, .iadd, 0, 0, 0, 0), (243, .imul, 0, 0, 0, 0), (244, .sipush 160, 160, 0, 0, 0), (247, .idiv, 0, 0, 0, 0), (248, .goto 12, 0, 431, 0, 0)]
def kX9_compute_251 : List e_Op := [(251, .aload_n 0, 0, 0, 0, 0), (252, .getfield 28, 0, 9, 8, 2), (255, .iload 7, 0, 7, 0, 0), (257, .iconst 1, 1, 0, 0, 0), (258, .isub, 0, 0, 0, 0), (259, .iaload, 0, 0, 0, 0), (260, .nop, 0, 431, 0, 0)]
def kX9_compute_260 : List e_Op := [(260, .istore 9, 0, 9, 0, 0), (262, .iload 9, 0, 9, 0, 0), (264, .aload_n 0, 0, 0, 0, 0), (265, .iload 7, 0, 7, 0, 0), (267, .iconst 0, 0, 0, 0, 0), (268, .invokevirtual 88, 0, 324, 3, 94), (271, .aload_n 0, 0, 0, 0, 0), (272, .getfield 22, 0, 9, 6, 2), (275, .iload 7, 0, 7, 0, 0), (277, .iaload, 0, 0, 0, 0), (278, .imul, 0, 0, 0, 0), (279, .aload_n 0, 0, 0, 0, 0), (280, .iload 7, 0, 7, 0, 0), (282, .iconst 1, 1, 0, 0, 0), (283, .invokevirtual 88, 0, 324, 3, 94), (286, .aload_n 0, 0, 0, 0, 0), (287, .getfield 25, 0, 9, 7, 2), (290, .iload 7, 0, 7, 0, 0), (292, .iaload, 0, 0, 0, 0), (293, .imul, 0, 0, 0, 0), (294, .iadd, 0, 0, 0, 0), (295, .bipush 100, 100, 0, 0, 0), (297, .idiv, 0, 0, 0, 0), (298, .isub, 0, 0, 0, 0), (299, .istore 10, 0, 10, 0, 0), (301, .aload_n 0, 0, 0, 0, 0), (302, .getfield 28, 0, 9, 8, 2), (305, .iload 7, 0, 7, 0, 0), (307, .iload 10, 0, 10, 0, 0), (309, .ifCond .ge 7, 0, 432, 0, 0), (312, .iconst 0, 0, 0, 0, 0), (313, .goto 5, 0, 433, 0, 0)]
def kX9_compute_316 : List e_Op := [(316, .iload 10, 0, 10, 0, 0), (318, .nop, 0, 433, 0, 0)]
def kX9_compute_318 : List e_Op := [(318, .iastore, 0, 0, 0, 0), (319, .iinc 7 1, 1, 7, 0, 0), (322, .goto (-137), 0, 427, 0, 0)]
def kX9_compute_325 : List e_Op := [(325, .return_, 0, 0, 0, 0)]
def kX9_outside_0 : List e_Op := [(0, .iconst 0, 0, 0, 0, 0), (1, .istore_n 1, 0, 1, 0, 0), (2, .iconst 1, 1, 0, 0, 0), (3, .istore_n 2, 0, 2, 0, 0), (4, .nop, 0, 436, 0, 0)]
def kX9_outside_4 : List e_Op := [(4, .iload_n 2, 0, 2, 0, 0), (5, .aload_n 0, 0, 0, 0, 0), (6, .getfield 7, 0, 9, 0, 2), (9, .iconst 3, 3, 0, 0, 0), (10, .iaload, 0, 0, 0, 0), (11, .if_icmp .gt 35, 0, 439, 0, 0), (14, .iload_n 1, 0, 1, 0, 0), (15, .aload_n 0, 0, 0, 0, 0), (16, .getfield 28, 0, 9, 8, 2), (19, .iload_n 2, 0, 2, 0, 0), (20, .iaload, 0, 0, 0, 0), (21, .sipush 9500, 9500, 0, 0, 0), (24, .sipush 10500, 10500, 0, 0, 0), (27, .invokestatic 37, 0, 318, 3, 90), (30, .ifCond .eq 7, 0, 437, 0, 0), (33, .iconst 0, 0, 0, 0, 0), (34, .goto 4, 0, 438, 0, 0)]
def kX9_outside_37 : List e_Op := [(37, .iconst 1, 1, 0, 0, 0), (38, .nop, 0, 438, 0, 0)]
def kX9_outside_38 : List e_Op := [(38, .iadd, 0, 0, 0, 0), (39, .istore_n 1, 0, 1, 0, 0), (40, .iinc 2 1, 1, 2, 0, 0), (43, .goto (-39), 0, 436, 0, 0)]
def kX9_outside_46 : List e_Op := [(46, .iload_n 1, 0, 1, 0, 0), (47, .ireturn, 0, 0, 0, 0)]
def kX9_computeNow_0 : List e_Op := [(0, .aload_n 0, 0, 0, 0, 0), (1, .aload_n 0, 0, 0, 0, 0), (2, .invokevirtual 97, 0, 412, 1, 114), (5, .iconst 0, 0, 0, 0, 0), (6, .iconst 0, 0, 0, 0, 0), (7, .iconst 0, 0, 0, 0, 0), (8, .invokevirtual 100, 0, 419, 5, 116), (11, .return_, 0, 0, 0, 0)]
def kX9_unlocks_0 : List e_Op := [(0, .iconst 1, 1, 0, 0, 0), (1, .istore_n 1, 0, 1, 0, 0), (2, .nop, 0, 442, 0, 0)]
def kX9_unlocks_2 : List e_Op := [(2, .iload_n 1, 0, 1, 0, 0), (3, .aload_n 0, 0, 0, 0, 0), (4, .getfield 7, 0, 9, 0, 2), (7, .iconst 3, 3, 0, 0, 0), (8, .iaload, 0, 0, 0, 0), (9, .if_icmp .gt 25, 0, 443, 0, 0), (12, .aload_n 0, 0, 0, 0, 0), (13, .iload_n 1, 0, 1, 0, 0), (14, .bipush 14, 14, 0, 0, 0), (16, .iconst 0, 0, 0, 0, 0), (17, .invokevirtual 60, 0, 325, 4, 95), (20, .aload_n 0, 0, 0, 0, 0), (21, .iload_n 1, 0, 1, 0, 0), (22, .bipush 13, 13, 0, 0, 0), (24, .iconst 0, 0, 0, 0, 0), (25, .invokevirtual 60, 0, 325, 4, 95), (28, .iinc 1 1, 1, 1, 0, 0), (31, .goto (-29), 0, 442, 0, 0)]
def kX9_unlocks_34 : List e_Op := [(34, .return_, 0, 0, 0, 0)]
def kX9_switches_0 : List e_Op := [(0, .iconst 0, 0, 0, 0, 0), (1, .istore_n 1, 0, 1, 0, 0), (2, .iconst 1, 1, 0, 0, 0), (3, .istore_n 2, 0, 2, 0, 0), (4, .nop, 0, 445, 0, 0)]
def kX9_switches_4 : List e_Op := [(4, .iload_n 2, 0, 2, 0, 0), (5, .aload_n 0, 0, 0, 0, 0), (6, .getfield 7, 0, 9, 0, 2), (9, .iconst 3, 3, 0, 0, 0), (10, .iaload, 0, 0, 0, 0), (11, .if_icmp .gt 162, 0, 453, 0, 0), (14, .aload_n 0, 0, 0, 0, 0), (15, .iload_n 2, 0, 2, 0, 0), (16, .bipush 16, 16, 0, 0, 0), (18, .invokevirtual 88, 0, 324, 3, 94), (21, .iconst 1, 1, 0, 0, 0), (22, .if_icmp .ne 145, 0, 452, 0, 0), (25, .aload_n 0, 0, 0, 0, 0), (26, .iload_n 2, 0, 2, 0, 0), (27, .bipush 18, 18, 0, 0, 0), (29, .invokevirtual 88, 0, 324, 3, 94), (32, .iconst 2, 2, 0, 0, 0), (33, .if_icmp .ne 134, 0, 452, 0, 0), (36, .aload_n 0, 0, 0, 0, 0), (37, .iload_n 2, 0, 2, 0, 0), (38, .bipush 23, 23, 0, 0, 0), (40, .invokevirtual 88, 0, 324, 3, 94), (43, .ifCond .ne 27, 0, 447, 0, 0), (46, .aload_n 0, 0, 0, 0, 0), (47, .getfield 25, 0, 9, 7, 2), (50, .iload_n 2, 0, 2, 0, 0), (51, .iaload, 0, 0, 0, 0), (52, .aload_n 0, 0, 0, 0, 0), (53, .iload_n 2, 0, 2, 0, 0), (54, .bipush 20, 20, 0, 0, 0), (56, .invokevirtual 88, 0, 324, 3, 94), (59, .if_icmp .le 7, 0, 446, 0, 0), (62, .iconst 1, 1, 0, 0, 0), (63, .goto 28, 0, 449, 0, 0)]
def kX9_switches_66 : List e_Op := [(66, .iconst 0, 0, 0, 0, 0), (67, .goto 24, 0, 449, 0, 0)]
def kX9_switches_70 : List e_Op := [(70, .aload_n 0, 0, 0, 0, 0), (71, .getfield 25, 0, 9, 7, 2), (74, .iload_n 2, 0, 2, 0, 0), (75, .iaload, 0, 0, 0, 0), (76, .aload_n 0, 0, 0, 0, 0), (77, .iload_n 2, 0, 2, 0, 0), (78, .bipush 19, 19, 0, 0, 0), (80, .invokevirtual 88, 0, 324, 3, 94), (83, .if_icmp .ge 7, 0, 448, 0, 0), (86, .iconst 1, 1, 0, 0, 0), (87, .goto 4, 0, 449, 0, 0)]
def kX9_switches_90 : List e_Op := [(90, .iconst 0, 0, 0, 0, 0), (91, .nop, 0, 449, 0, 0)]
def kX9_switches_91 : List e_Op := [(91, .istore_n 3, 0, 3, 0, 0), (92, .aload_n 0, 0, 0, 0, 0), (93, .iload_n 2, 0, 2, 0, 0), (94, .bipush 22, 22, 0, 0, 0), (96, .iload_n 3, 0, 3, 0, 0), (97, .ifCond .eq 15, 0, 450, 0, 0), (100, .aload_n 0, 0, 0, 0, 0), (101, .iload_n 2, 0, 2, 0, 0), (102, .bipush 22, 22, 0, 0, 0), (104, .invokevirtual 88, 0, 324, 3, 94), (107, .iconst 1, 1, 0, 0, 0), (108, .iadd, 0, 0, 0, 0), (109, .goto 4, 0, 451, 0, 0)]
def kX9_switches_112 : List e_Op := [(112, .iconst 0, 0, 0, 0, 0), (113, .nop, 0, 451, 0, 0)]
def kX9_switches_113 : List e_Op := [(113, .invokevirtual 60, 0, 325, 4, 95), (116, .iload_n 3, 0, 3, 0, 0), (117, .ifCond .eq 50, 0, 452, 0, 0), (120, .iload_n 1, 0, 1, 0, 0), (121, .ifCond .ne 46, 0, 452, 0, 0), (124, .aload_n 0, 0, 0, 0, 0), (125, .iload_n 2, 0, 2, 0, 0), (126, .bipush 22, 22, 0, 0, 0), (128, .invokevirtual 88, 0, 324, 3, 94), (131, .aload_n 0, 0, 0, 0, 0), (132, .iload_n 2, 0, 2, 0, 0), (133, .bipush 21, 21, 0, 0, 0), (135, .invokevirtual 88, 0, 324, 3, 94), (138, .if_icmp .le 29, 0, 452, 0, 0), (141, .aload_n 0, 0, 0, 0, 0), (142, .iload_n 2, 0, 2, 0, 0), (143, .bipush 23, 23, 0, 0, 0), (145, .iconst 1, 1, 0, 0, 0), (146, .aload_n 0, 0, 0, 0, 0), (147, .iload_n 2, 0, 2, 0, 0), (148, .bipush 23, 23, 0, 0, 0), (150, .invokevirtual 88, 0, 324, 3, 94), (153, .isub, 0, 0, 0, 0), (154, .invokevirtual 60, 0, 325, 4, 95), (157, .aload_n 0, 0, 0, 0, 0), (158, .iload_n 2, 0, 2, 0, 0), (159, .bipush 22, 22, 0, 0, 0), (161, .iconst 0, 0, 0, 0, 0), (162, .invokevirtual 60, 0, 325, 4, 95), (165, .iconst 1, 1, 0, 0, 0), (166, .istore_n 1, 0, 1, 0, 0), (167, .nop, 0, 452, 0, 0)]
def kX9_switches_167 : List e_Op := [(167, .iinc 2 1, 1, 2, 0, 0), (170, .goto (-166), 0, 445, 0, 0)]
def kX9_switches_173 : List e_Op := [(173, .iload_n 1, 0, 1, 0, 0), (174, .ireturn, 0, 1, 0, 0)]
def kX9_wants_0 : List e_Op := [(0, .aload_n 0, 0, 0, 0, 0), (1, .iload_n 1, 0, 1, 0, 0), (2, .bipush 8, 8, 0, 0, 0), (4, .invokevirtual 88, 0, 324, 3, 94), (7, .iconst 1, 1, 0, 0, 0), (8, .if_icmp .ne 12, 0, 455, 0, 0), (11, .aload_n 0, 0, 0, 0, 0), (12, .getfield 22, 0, 9, 6, 2), (15, .iload_n 1, 0, 1, 0, 0), (16, .iaload, 0, 0, 0, 0), (17, .ifCond .lt 14, 0, 456, 0, 0), (20, .nop, 0, 455, 0, 0)]
def kX9_wants_20 : List e_Op := [(20, .aload_n 0, 0, 0, 0, 0), (21, .iload_n 1, 0, 1, 0, 0), (22, .bipush 14, 14, 0, 0, 0), (24, .invokevirtual 88, 0, 324, 3, 94), (27, .iconst 1, 1, 0, 0, 0), (28, .if_icmp .ne 5, 0, 457, 0, 0), (31, .nop, 0, 456, 0, 0)]
def kX9_wants_31 : List e_Op := [(31, .iconst 0, 0, 0, 0, 0), (32, .ireturn, 0, 0, 0, 0)]
def kX9_wants_33 : List e_Op := [(33, .aload_n 0, 0, 0, 0, 0), (34, .getfield 28, 0, 9, 8, 2), (37, .iload_n 1, 0, 1, 0, 0), (38, .iaload, 0, 0, 0, 0), (39, .aload_n 0, 0, 0, 0, 0), (40, .iload_n 1, 0, 1, 0, 0), (41, .iconst 5, 5, 0, 0, 0), (42, .invokevirtual 88, 0, 324, 3, 94), (45, .aload_n 0, 0, 0, 0, 0), (46, .iload_n 1, 0, 1, 0, 0), (47, .bipush 6, 6, 0, 0, 0), (49, .invokevirtual 88, 0, 324, 3, 94), (52, .isub, 0, 0, 0, 0), (53, .if_icmp .ge 19, 0, 458, 0, 0), (56, .aload_n 0, 0, 0, 0, 0), (57, .iload_n 1, 0, 1, 0, 0), (58, .bipush 10, 10, 0, 0, 0), (60, .invokevirtual 88, 0, 324, 3, 94), (63, .bipush 16, 16, 0, 0, 0), (65, .if_icmp .ge 7, 0, 458, 0, 0), (68, .iconst 1, 1, 0, 0, 0), (69, .goto 4, 0, 459, 0, 0)]
def kX9_wants_72 : List e_Op := [(72, .iconst 0, 0, 0, 0, 0), (73, .nop, 0, 459, 0, 0)]
def kX9_wants_73 : List e_Op := [(73, .istore_n 2, 0, 2, 0, 0), (74, .aload_n 0, 0, 0, 0, 0), (75, .getfield 28, 0, 9, 8, 2), (78, .iload_n 1, 0, 1, 0, 0), (79, .iaload, 0, 0, 0, 0), (80, .aload_n 0, 0, 0, 0, 0), (81, .iload_n 1, 0, 1, 0, 0), (82, .iconst 5, 5, 0, 0, 0), (83, .invokevirtual 88, 0, 324, 3, 94), (86, .aload_n 0, 0, 0, 0, 0), (87, .iload_n 1, 0, 1, 0, 0), (88, .bipush 6, 6, 0, 0, 0), (90, .invokevirtual 88, 0, 324, 3, 94), (93, .iadd, 0, 0, 0, 0), (94, .if_icmp .le 19, 0, 460, 0, 0), (97, .aload_n 0, 0, 0, 0, 0), (98, .iload_n 1, 0, 1, 0, 0), (99, .bipush 10, 10, 0, 0, 0), (101, .invokevirtual 88, 0, 324, 3, 94), (104, .bipush (-16), (-16), 0, 0, 0), (106, .if_icmp .le 7, 0, 460, 0, 0), (109, .iconst 1, 1, 0, 0, 0), (110, .goto 4, 0, 461, 0, 0)]
def kX9_wants_113 : List e_Op := [(113, .iconst 0, 0, 0, 0, 0), (114, .nop, 0, 461, 0, 0)]
def kX9_wants_114 : List e_Op := [(114, .istore_n 3, 0, 3, 0, 0), (115, .iload_n 2, 0, 2, 0, 0), (116, .ifCond .eq 7, 0, 462, 0, 0), (119, .iconst 1, 1, 0, 0, 0), (120, .goto 12, 0, 464, 0, 0)]
def kX9_wants_123 : List e_Op := [(123, .iload_n 3, 0, 3, 0, 0), (124, .ifCond .eq 7, 0, 463, 0, 0), (127, .iconst (-1), (-1), 0, 0, 0), (128, .goto 4, 0, 464, 0, 0)]
def kX9_wants_131 : List e_Op := [(131, .iconst 0, 0, 0, 0, 0), (132, .nop, 0, 464, 0, 0)]
def kX9_wants_132 : List e_Op := [(132, .ireturn, 0, 0, 0, 0)]
def kX9_goes_0 : List e_Op := [(0, .aload_n 0, 0, 0, 0, 0), (1, .iload_n 1, 0, 1, 0, 0), (2, .bipush 10, 10, 0, 0, 0), (4, .aload_n 0, 0, 0, 0, 0), (5, .iload_n 1, 0, 1, 0, 0), (6, .bipush 10, 10, 0, 0, 0), (8, .invokevirtual 88, 0, 324, 3, 94), (11, .iload_n 2, 0, 2, 0, 0), (12, .iadd, 0, 0, 0, 0), (13, .invokevirtual 60, 0, 325, 4, 95), (16, .aload_n 0, 0, 0, 0, 0), (17, .iload_n 1, 0, 1, 0, 0), (18, .bipush 9, 9, 0, 0, 0), (20, .iconst 0, 0, 0, 0, 0), (21, .invokevirtual 60, 0, 325, 4, 95), (24, .aload_n 0, 0, 0, 0, 0), (25, .iload_n 1, 0, 1, 0, 0), (26, .bipush 11, 11, 0, 0, 0), (28, .iconst 0, 0, 0, 0, 0), (29, .invokevirtual 60, 0, 325, 4, 95), (32, .aload_n 0, 0, 0, 0, 0), (33, .iload_n 1, 0, 1, 0, 0), (34, .bipush 15, 15, 0, 0, 0), (36, .aload_n 0, 0, 0, 0, 0), (37, .iload_n 1, 0, 1, 0, 0), (38, .bipush 15, 15, 0, 0, 0), (40, .invokevirtual 88, 0, 324, 3, 94), (43, .iconst 1, 1, 0, 0, 0), (44, .iadd, 0, 0, 0, 0), (45, .invokevirtual 60, 0, 325, 4, 95), (48, .aload_n 0, 0, 0, 0, 0), (49, .iload_n 1, 0, 1, 0, 0), (50, .bipush 12, 12, 0, 0, 0), (52, .invokevirtual 88, 0, 324, 3, 94), (55, .iload_n 2, 0, 2, 0, 0), (56, .ineg, 0, 0, 0, 0), (57, .if_icmp .ne 42, 0, 468, 0, 0), (60, .aload_n 0, 0, 0, 0, 0), (61, .iload_n 1, 0, 1, 0, 0), (62, .bipush 13, 13, 0, 0, 0), (64, .aload_n 0, 0, 0, 0, 0), (65, .iload_n 1, 0, 1, 0, 0), (66, .bipush 13, 13, 0, 0, 0), (68, .invokevirtual 88, 0, 324, 3, 94), (71, .iconst 1, 1, 0, 0, 0), (72, .iadd, 0, 0, 0, 0), (73, .invokevirtual 60, 0, 325, 4, 95), (76, .aload_n 0, 0, 0, 0, 0), (77, .iload_n 1, 0, 1, 0, 0), (78, .bipush 14, 14, 0, 0, 0), (80, .aload_n 0, 0, 0, 0, 0), (81, .iload_n 1, 0, 1, 0, 0), (82, .bipush 13, 13, 0, 0, 0), (84, .invokevirtual 88, 0, 324, 3, 94), (87, .iconst 2, 2, 0, 0, 0), (88, .if_icmp .le 7, 0, 466, 0, 0), (91, .iconst 1, 1, 0, 0, 0), (92, .goto 4, 0, 467, 0, 0)]
def kX9_goes_95 : List e_Op := [(95, .iconst 0, 0, 0, 0, 0), (96, .nop, 0, 467, 0, 0)]
def kX9_goes_96 : List e_Op := [(96, .invokevirtual 60, 0, 325, 4, 95), (99, .nop, 0, 468, 0, 0)]
def kX9_goes_99 : List e_Op := [(99, .aload_n 0, 0, 0, 0, 0), (100, .iload_n 1, 0, 1, 0, 0), (101, .bipush 12, 12, 0, 0, 0), (103, .iload_n 2, 0, 2, 0, 0), (104, .invokevirtual 60, 0, 325, 4, 95), (107, .return_, 0, 0, 0, 0)]
def kX9_regulates_0 : List e_Op := [(0, .iconst 0, 0, 0, 0, 0), (1, .istore_n 2, 0, 2, 0, 0), (2, .iconst 1, 1, 0, 0, 0), (3, .istore_n 3, 0, 3, 0, 0), (4, .nop, 0, 470, 0, 0)]
def kX9_regulates_4 : List e_Op := [(4, .iload_n 3, 0, 3, 0, 0), (5, .aload_n 0, 0, 0, 0, 0), (6, .getfield 7, 0, 9, 0, 2), (9, .iconst 3, 3, 0, 0, 0), (10, .iaload, 0, 0, 0, 0), (11, .if_icmp .gt 116, 0, 475, 0, 0), (14, .aload_n 0, 0, 0, 0, 0), (15, .iload_n 3, 0, 3, 0, 0), (16, .iconst 4, 4, 0, 0, 0), (17, .invokevirtual 88, 0, 324, 3, 94), (20, .iconst 1, 1, 0, 0, 0), (21, .if_icmp .ne 100, 0, 474, 0, 0), (24, .aload_n 0, 0, 0, 0, 0), (25, .iload_n 3, 0, 3, 0, 0), (26, .invokevirtual 104, 0, 454, 2, 121), (29, .istore 4, 0, 4, 0, 0), (31, .aload_n 0, 0, 0, 0, 0), (32, .iload_n 3, 0, 3, 0, 0), (33, .bipush 9, 9, 0, 0, 0), (35, .iload 4, 0, 4, 0, 0), (37, .ifCond .ne 7, 0, 471, 0, 0), (40, .iconst 0, 0, 0, 0, 0), (41, .goto 29, 0, 473, 0, 0)]
def kX9_regulates_44 : List e_Op := [(44, .iload 4, 0, 4, 0, 0), (46, .aload_n 0, 0, 0, 0, 0), (47, .iload_n 3, 0, 3, 0, 0), (48, .bipush 11, 11, 0, 0, 0), (50, .invokevirtual 88, 0, 324, 3, 94), (53, .ineg, 0, 0, 0, 0), (54, .if_icmp .ne 7, 0, 472, 0, 0), (57, .iconst 1, 1, 0, 0, 0), (58, .goto 12, 0, 473, 0, 0)]
def kX9_regulates_61 : List e_Op := [(61, .aload_n 0, 0, 0, 0, 0), (62, .iload_n 3, 0, 3, 0, 0), (63, .bipush 9, 9, 0, 0, 0), (65, .invokevirtual 88, 0, 324, 3, 94), (68, .iconst 1, 1, 0, 0, 0), (69, .iadd, 0, 0, 0, 0), (70, .nop, 0, 473, 0, 0)]
def kX9_regulates_70 : List e_Op := [(70, .invokevirtual 60, 0, 325, 4, 95), (73, .aload_n 0, 0, 0, 0, 0), (74, .iload_n 3, 0, 3, 0, 0), (75, .bipush 11, 11, 0, 0, 0), (77, .iload 4, 0, 4, 0, 0), (79, .invokevirtual 60, 0, 325, 4, 95), (82, .iload 4, 0, 4, 0, 0), (84, .ifCond .eq 37, 0, 474, 0, 0), (87, .iload_n 1, 0, 1, 0, 0), (88, .ifCond .eq 33, 0, 474, 0, 0), (91, .iload_n 2, 0, 2, 0, 0), (92, .ifCond .ne 29, 0, 474, 0, 0), (95, .aload_n 0, 0, 0, 0, 0), (96, .iload_n 3, 0, 3, 0, 0), (97, .bipush 9, 9, 0, 0, 0), (99, .invokevirtual 88, 0, 324, 3, 94), (102, .aload_n 0, 0, 0, 0, 0), (103, .iload_n 3, 0, 3, 0, 0), (104, .bipush 7, 7, 0, 0, 0), (106, .invokevirtual 88, 0, 324, 3, 94), (109, .if_icmp .le 12, 0, 474, 0, 0), (112, .aload_n 0, 0, 0, 0, 0), (113, .iload_n 3, 0, 3, 0, 0), (114, .iload 4, 0, 4, 0, 0), (116, .invokevirtual 107, 0, 465, 3, 122), (119, .iconst 1, 1, 0, 0, 0), (120, .istore_n 2, 0, 2, 0, 0), (121, .nop, 0, 474, 0, 0)]
def kX9_regulates_121 : List e_Op := [(121, .iinc 3 1, 1, 3, 0, 0), (124, .goto (-120), 0, 470, 0, 0)]
def kX9_regulates_127 : List e_Op := [(127, .iload_n 2, 0, 2, 0, 0), (128, .ireturn, 0, 1, 0, 0)]
def kX9_passes_0 : List e_Op := [(0, .aload_n 0, 0, 0, 0, 0), (1, .getfield 7, 0, 9, 0, 2), (4, .iconst 0, 0, 0, 0, 0), (5, .dup2, 0, 0, 0, 0), (6, .iaload, 0, 0, 0, 0), (7, .iconst 1, 1, 0, 0, 0), (8, .iadd, 0, 0, 0, 0), (9, .iastore, 0, 0, 0, 0), (10, .aload_n 0, 0, 0, 0, 0), (11, .getfield 7, 0, 9, 0, 2), (14, .iconst 0, 0, 0, 0, 0), (15, .iaload, 0, 0, 0, 0), (16, .bipush 60, 60, 0, 0, 0), (18, .irem, 0, 0, 0, 0), (19, .ifCond .ne 7, 0, 477, 0, 0), (22, .aload_n 0, 0, 0, 0, 0), (23, .invokevirtual 111, 0, 441, 1, 119), (26, .nop, 0, 477, 0, 0)]
def kX9_passes_26 : List e_Op := [(26, .iconst 1, 1, 0, 0, 0), (27, .istore_n 1, 0, 1, 0, 0), (28, .nop, 0, 478, 0, 0)]
def kX9_passes_28 : List e_Op := [(28, .iload_n 1, 0, 1, 0, 0), (29, .aload_n 0, 0, 0, 0, 0), (30, .getfield 7, 0, 9, 0, 2), (33, .iconst 3, 3, 0, 0, 0), (34, .iaload, 0, 0, 0, 0), (35, .if_icmp .gt 55, 0, 482, 0, 0), (38, .aload_n 0, 0, 0, 0, 0), (39, .iload_n 1, 0, 1, 0, 0), (40, .bipush 16, 16, 0, 0, 0), (42, .invokevirtual 88, 0, 324, 3, 94), (45, .iconst 1, 1, 0, 0, 0), (46, .if_icmp .ne 38, 0, 481, 0, 0), (49, .aload_n 0, 0, 0, 0, 0), (50, .iload_n 1, 0, 1, 0, 0), (51, .bipush 18, 18, 0, 0, 0), (53, .invokevirtual 88, 0, 324, 3, 94), (56, .iconst 1, 1, 0, 0, 0), (57, .if_icmp .ne 27, 0, 481, 0, 0), (60, .aload_n 0, 0, 0, 0, 0), (61, .iload_n 1, 0, 1, 0, 0), (62, .bipush 23, 23, 0, 0, 0), (64, .aload_n 0, 0, 0, 0, 0), (65, .iload_n 1, 0, 1, 0, 0), (66, .aload_n 0, 0, 0, 0, 0), (67, .invokevirtual 97, 0, 412, 1, 114), (70, .invokevirtual 94, 0, 413, 3, 115), (73, .ifCond .eq 7, 0, 479, 0, 0), (76, .iconst 1, 1, 0, 0, 0), (77, .goto 4, 0, 480, 0, 0)]
def kX9_passes_80 : List e_Op := [(80, .iconst 0, 0, 0, 0, 0), (81, .nop, 0, 480, 0, 0)]
def kX9_passes_81 : List e_Op := [(81, .invokevirtual 60, 0, 325, 4, 95), (84, .nop, 0, 481, 0, 0)]
def kX9_passes_84 : List e_Op := [(84, .iinc 1 1, 1, 1, 0, 0), (87, .goto (-59), 0, 478, 0, 0)]
def kX9_passes_90 : List e_Op := [(90, .aload_n 0, 0, 0, 0, 0), (91, .invokevirtual 114, 0, 440, 1, 118), (94, .aload_n 0, 0, 0, 0, 0), (95, .invokevirtual 117, 0, 444, 1, 120), (98, .istore_n 1, 0, 1, 0, 0), (99, .aload_n 0, 0, 0, 0, 0), (100, .iload_n 1, 0, 1, 0, 0), (101, .ifCond .ne 7, 0, 483, 0, 0), (104, .iconst 1, 1, 0, 0, 0), (105, .goto 4, 0, 484, 0, 0)]
def kX9_passes_108 : List e_Op := [(108, .iconst 0, 0, 0, 0, 0), (109, .nop, 0, 484, 0, 0)]
def kX9_passes_109 : List e_Op := [(109, .invokevirtual 120, 0, 469, 2, 123), (112, .istore_n 2, 0, 2, 0, 0), (113, .aload_n 0, 0, 0, 0, 0), (114, .invokevirtual 114, 0, 440, 1, 118), (117, .aload_n 0, 0, 0, 0, 0), (118, .getfield 7, 0, 9, 0, 2), (121, .iconst 2, 2, 0, 0, 0), (122, .dup2, 0, 0, 0, 0), (123, .iaload, 0, 0, 0, 0), (124, .aload_n 0, 0, 0, 0, 0), (125, .invokevirtual 124, 0, 435, 1, 117), (128, .iadd, 0, 0, 0, 0), (129, .iastore, 0, 0, 0, 0), (130, .iload_n 1, 0, 1, 0, 0), (131, .ifCond .ne 7, 0, 485, 0, 0), (134, .iload_n 2, 0, 2, 0, 0), (135, .ifCond .eq 7, 0, 486, 0, 0), (138, .nop, 0, 485, 0, 0)]
def kX9_passes_138 : List e_Op := [(138, .iconst 1, 1, 0, 0, 0), (139, .goto 4, 0, 487, 0, 0)]
def kX9_passes_142 : List e_Op := [(142, .iconst 0, 0, 0, 0, 0), (143, .nop, 0, 487, 0, 0)]
def kX9_passes_143 : List e_Op := [(143, .ireturn, 0, 0, 0, 0)]
def kX9_run_0 : List e_Op := [(0, .iload_n 1, 0, 1, 0, 0), (1, .iconst 0, 0, 0, 0, 0), (2, .sipush 1440, 1440, 0, 0, 0), (5, .invokestatic 37, 0, 318, 3, 90), (8, .ifCond .ne 10, 0, 489, 0, 0), (11, .aload_n 0, 0, 0, 0, 0), (12, .bipush (-2), (-2), 0, 0, 0), (14, .invokevirtual 49, 0, 321, 2, 91), (17, .ireturn, 0, 0, 0, 0)]
def kX9_run_18 : List e_Op := [(18, .aload_n 0, 0, 0, 0, 0), (19, .invokevirtual 53, 0, 326, 1, 96), (22, .iconst 0, 0, 0, 0, 0), (23, .istore_n 2, 0, 2, 0, 0), (24, .iconst 0, 0, 0, 0, 0), (25, .istore_n 3, 0, 3, 0, 0), (26, .nop, 0, 490, 0, 0)]
def kX9_run_26 : List e_Op := [(26, .iload_n 3, 0, 3, 0, 0), (27, .iload_n 1, 0, 1, 0, 0), (28, .if_icmp .ge 16, 0, 491, 0, 0), (31, .iload_n 2, 0, 2, 0, 0), (32, .aload_n 0, 0, 0, 0, 0), (33, .invokevirtual 127, 0, 476, 1, 124), (36, .iadd, 0, 0, 0, 0), (37, .istore_n 2, 0, 2, 0, 0), (38, .iinc 3 1, 1, 3, 0, 0), (41, .goto (-15), 0, 490, 0, 0)]
def kX9_run_44 : List e_Op := [(44, .iload_n 2, 0, 2, 0, 0), (45, .ireturn, 0, 0, 0, 0)]
def kX9_minute_0 : List e_Op := [(0, .aload_n 0, 0, 0, 0, 0), (1, .getfield 7, 0, 9, 0, 2), (4, .iconst 0, 0, 0, 0, 0), (5, .iaload, 0, 0, 0, 0), (6, .ireturn, 0, 0, 0, 0)]
def kX9_voltage_0 : List e_Op := [(0, .iload_n 1, 0, 1, 0, 0), (1, .ifCond .eq 18, 0, 494, 0, 0), (4, .aload_n 0, 0, 0, 0, 0), (5, .iload_n 1, 0, 1, 0, 0), (6, .invokevirtual 64, 0, 322, 2, 92), (9, .ifCond .ne 10, 0, 494, 0, 0), (12, .aload_n 0, 0, 0, 0, 0), (13, .bipush (-2), (-2), 0, 0, 0), (15, .invokevirtual 49, 0, 321, 2, 91), (18, .ireturn, 0, 0, 0, 0)]
def kX9_voltage_19 : List e_Op := [(19, .aload_n 0, 0, 0, 0, 0), (20, .invokevirtual 114, 0, 440, 1, 118), (23, .aload_n 0, 0, 0, 0, 0), (24, .getfield 28, 0, 9, 8, 2), (27, .iload_n 1, 0, 1, 0, 0), (28, .iaload, 0, 0, 0, 0), (29, .ireturn, 0, 0, 0, 0)]
def kX9_activeFlow_0 : List e_Op := [(0, .aload_n 0, 0, 0, 0, 0), (1, .iload_n 1, 0, 1, 0, 0), (2, .invokevirtual 64, 0, 322, 2, 92), (5, .ifCond .ne 10, 0, 496, 0, 0), (8, .aload_n 0, 0, 0, 0, 0), (9, .bipush (-2), (-2), 0, 0, 0), (11, .invokevirtual 49, 0, 321, 2, 91), (14, .ireturn, 0, 0, 0, 0)]
def kX9_activeFlow_15 : List e_Op := [(15, .aload_n 0, 0, 0, 0, 0), (16, .invokevirtual 114, 0, 440, 1, 118), (19, .sipush 10000, 10000, 0, 0, 0), (22, .aload_n 0, 0, 0, 0, 0), (23, .getfield 22, 0, 9, 6, 2), (26, .iload_n 1, 0, 1, 0, 0), (27, .iaload, 0, 0, 0, 0), (28, .iadd, 0, 0, 0, 0), (29, .ireturn, 0, 0, 0, 0)]
def kX9_reactiveFlow_0 : List e_Op := [(0, .aload_n 0, 0, 0, 0, 0), (1, .iload_n 1, 0, 1, 0, 0), (2, .invokevirtual 64, 0, 322, 2, 92), (5, .ifCond .ne 10, 0, 498, 0, 0), (8, .aload_n 0, 0, 0, 0, 0), (9, .bipush (-2), (-2), 0, 0, 0), (11, .invokevirtual 49, 0, 321, 2, 91), (14, .ireturn, 0, 0, 0, 0)]
def kX9_reactiveFlow_15 : List e_Op := [(15, .aload_n 0, 0, 0, 0, 0), (16, .invokevirtual 114, 0, 440, 1, 118), (19, .sipush 10000, 10000, 0, 0, 0), (22, .aload_n 0, 0, 0, 0, 0), (23, .getfield 25, 0, 9, 7, 2), (26, .iload_n 1, 0, 1, 0, 0), (27, .iaload, 0, 0, 0, 0), (28, .iadd, 0, 0, 0, 0), (29, .ireturn, 0, 0, 0, 0)]
def kX9_told_0 : List e_Op := [(0, .aload_n 0, 0, 0, 0, 0), (1, .iload_n 1, 0, 1, 0, 0), (2, .iload_n 2, 0, 2, 0, 0), (3, .invokevirtual 91, 0, 390, 3, 110), (6, .istore 5, 0, 5, 0, 0), (8, .iload 5, 0, 5, 0, 0), (10, .ifCond .ge 12, 0, 500, 0, 0), (13, .aload_n 0, 0, 0, 0, 0), (14, .iload 5, 0, 5, 0, 0), (16, .invokevirtual 49, 0, 321, 2, 91), (19, .goto 12, 0, 501, 0, 0)]
def kX9_told_22 : List e_Op := [(22, .aload_n 0, 0, 0, 0, 0), (23, .iload_n 1, 0, 1, 0, 0), (24, .iload_n 3, 0, 3, 0, 0), (25, .invokevirtual 88, 0, 324, 3, 94), (28, .iload 4, 0, 4, 0, 0), (30, .iadd, 0, 0, 0, 0), (31, .nop, 0, 501, 0, 0)]
def kX9_told_31 : List e_Op := [(31, .ireturn, 0, 0, 0, 0)]
def kX9_tap_0 : List e_Op := [(0, .aload_n 0, 0, 0, 0, 0), (1, .iload_n 1, 0, 1, 0, 0), (2, .iconst 4, 4, 0, 0, 0), (3, .bipush 10, 10, 0, 0, 0), (5, .bipush 100, 100, 0, 0, 0), (7, .invokevirtual 130, 0, 499, 5, 130), (10, .ireturn, 0, 0, 0, 0)]
def kX9_timer_0 : List e_Op := [(0, .aload_n 0, 0, 0, 0, 0), (1, .iload_n 1, 0, 1, 0, 0), (2, .iconst 4, 4, 0, 0, 0), (3, .bipush 9, 9, 0, 0, 0), (5, .iconst 0, 0, 0, 0, 0), (6, .invokevirtual 130, 0, 499, 5, 130), (9, .ireturn, 0, 0, 0, 0)]
def kX9_isLocked_0 : List e_Op := [(0, .aload_n 0, 0, 0, 0, 0), (1, .iload_n 1, 0, 1, 0, 0), (2, .iconst 4, 4, 0, 0, 0), (3, .bipush 14, 14, 0, 0, 0), (5, .iconst 0, 0, 0, 0, 0), (6, .invokevirtual 130, 0, 499, 5, 130), (9, .ireturn, 0, 0, 0, 0)]
def kX9_steps_0 : List e_Op := [(0, .aload_n 0, 0, 0, 0, 0), (1, .iload_n 1, 0, 1, 0, 0), (2, .iconst 4, 4, 0, 0, 0), (3, .bipush 15, 15, 0, 0, 0), (5, .iconst 0, 0, 0, 0, 0), (6, .invokevirtual 130, 0, 499, 5, 130), (9, .ireturn, 0, 0, 0, 0)]
def kX9_isOn_0 : List e_Op := [(0, .aload_n 0, 0, 0, 0, 0), (1, .iload_n 1, 0, 1, 0, 0), (2, .bipush 16, 16, 0, 0, 0), (4, .bipush 23, 23, 0, 0, 0), (6, .iconst 0, 0, 0, 0, 0), (7, .invokevirtual 130, 0, 499, 5, 130), (10, .ireturn, 0, 0, 0, 0)]
def kX9_violations_0 : List e_Op := [(0, .aload_n 0, 0, 0, 0, 0), (1, .getfield 7, 0, 9, 0, 2), (4, .iconst 2, 2, 0, 0, 0), (5, .iaload, 0, 0, 0, 0), (6, .ireturn, 0, 0, 0, 0)]
def kX9_apart_0 : List e_Op := [(0, .iload_n 0, 0, 0, 0, 0), (1, .iload_n 1, 0, 1, 0, 0), (2, .if_icmp .ge 9, 0, 509, 0, 0), (5, .iload_n 1, 0, 1, 0, 0), (6, .iload_n 0, 0, 0, 0, 0), (7, .isub, 0, 0, 0, 0), (8, .goto 6, 0, 510, 0, 0)]
def kX9_apart_11 : List e_Op := [(11, .iload_n 0, 0, 0, 0, 0), (12, .iload_n 1, 0, 1, 0, 0), (13, .isub, 0, 0, 0, 0), (14, .nop, 0, 510, 0, 0)]
def kX9_apart_14 : List e_Op := [(14, .ireturn, 0, 0, 0, 0)]
def kX9_best_0 : List e_Op := [(0, .iconst (-1), (-1), 0, 0, 0), (1, .istore_n 3, 0, 3, 0, 0), (2, .ldc 134, 99999, 0, 0, 0), (4, .istore 4, 0, 4, 0, 0), (6, .iconst 0, 0, 0, 0, 0), (7, .istore 5, 0, 5, 0, 0), (9, .nop, 0, 512, 0, 0)]
def kX9_best_9 : List e_Op := [(9, .iload 5, 0, 5, 0, 0), (11, .bipush 33, 33, 0, 0, 0), (13, .if_icmp .ge 61, 0, 514, 0, 0), (16, .aload_n 0, 0, 0, 0, 0), (17, .getfield 34, 0, 9, 11, 2), (20, .bipush 33, 33, 0, 0, 0), (22, .iload_n 1, 0, 1, 0, 0), (23, .imul, 0, 0, 0, 0), (24, .iload 5, 0, 5, 0, 0), (26, .iadd, 0, 0, 0, 0), (27, .iaload, 0, 0, 0, 0), (28, .iload 5, 0, 5, 0, 0), (30, .iload_n 2, 0, 2, 0, 0), (31, .invokestatic 135, 0, 508, 2, 137), (34, .iadd, 0, 0, 0, 0), (35, .istore 6, 0, 6, 0, 0), (37, .aload_n 0, 0, 0, 0, 0), (38, .getfield 34, 0, 9, 11, 2), (41, .bipush 33, 33, 0, 0, 0), (43, .iload_n 1, 0, 1, 0, 0), (44, .imul, 0, 0, 0, 0), (45, .iload 5, 0, 5, 0, 0), (47, .iadd, 0, 0, 0, 0), (48, .iaload, 0, 0, 0, 0), (49, .ldc 134, 99999, 0, 0, 0), (51, .if_icmp .ge 17, 0, 513, 0, 0), (54, .iload 6, 0, 6, 0, 0), (56, .iload 4, 0, 4, 0, 0), (58, .if_icmp .ge 10, 0, 513, 0, 0), (61, .iload 5, 0, 5, 0, 0), (63, .istore_n 3, 0, 3, 0, 0), (64, .iload 6, 0, 6, 0, 0), (66, .istore 4, 0, 4, 0, 0), (68, .nop, 0, 513, 0, 0)]
def kX9_best_68 : List e_Op := [(68, .iinc 5 1, 1, 5, 0, 0), (71, .goto (-62), 0, 512, 0, 0)]
def kX9_best_74 : List e_Op := [(74, .iload_n 3, 0, 3, 0, 0), (75, .ireturn, 0, 0, 0, 0)]
def kX9_plans_0 : List e_Op := [(0, .iconst 1, 1, 0, 0, 0), (1, .istore_n 2, 0, 2, 0, 0), (2, .bipush 23, 23, 0, 0, 0), (4, .istore_n 3, 0, 3, 0, 0), (5, .nop, 0, 516, 0, 0)]
def kX9_plans_5 : List e_Op := [(5, .iload_n 3, 0, 3, 0, 0), (6, .ifCond .lt 158, 0, 531, 0, 0), (9, .iconst 0, 0, 0, 0, 0), (10, .istore 4, 0, 4, 0, 0), (12, .iconst 0, 0, 0, 0, 0), (13, .istore 5, 0, 5, 0, 0), (15, .nop, 0, 517, 0, 0)]
def kX9_plans_15 : List e_Op := [(15, .iload 5, 0, 5, 0, 0), (17, .bipush 33, 33, 0, 0, 0), (19, .if_icmp .ge 124, 0, 528, 0, 0), (22, .aload_n 0, 0, 0, 0, 0), (23, .iload_n 3, 0, 3, 0, 0), (24, .iconst 1, 1, 0, 0, 0), (25, .iload_n 1, 0, 1, 0, 0), (26, .iload 5, 0, 5, 0, 0), (28, .bipush 16, 16, 0, 0, 0), (30, .isub, 0, 0, 0, 0), (31, .invokevirtual 100, 0, 419, 5, 116), (34, .iload_n 3, 0, 3, 0, 0), (35, .bipush 23, 23, 0, 0, 0), (37, .if_icmp .eq 7, 0, 518, 0, 0), (40, .iload_n 2, 0, 2, 0, 0), (41, .ifCond .ne 7, 0, 519, 0, 0), (44, .nop, 0, 518, 0, 0)]
def kX9_plans_44 : List e_Op := [(44, .iconst (-1), (-1), 0, 0, 0), (45, .goto 12, 0, 520, 0, 0)]
def kX9_plans_48 : List e_Op := [(48, .aload_n 0, 0, 0, 0, 0), (49, .iload_n 3, 0, 3, 0, 0), (50, .iconst 1, 1, 0, 0, 0), (51, .iadd, 0, 0, 0, 0), (52, .iload 5, 0, 5, 0, 0), (54, .invokevirtual 138, 0, 511, 3, 138), (57, .nop, 0, 520, 0, 0)]
def kX9_plans_57 : List e_Op := [(57, .istore 6, 0, 6, 0, 0), (59, .iload 6, 0, 6, 0, 0), (61, .ifCond .ge 7, 0, 521, 0, 0), (64, .iconst 0, 0, 0, 0, 0), (65, .goto 25, 0, 522, 0, 0)]
def kX9_plans_68 : List e_Op := [(68, .aload_n 0, 0, 0, 0, 0), (69, .getfield 34, 0, 9, 11, 2), (72, .bipush 33, 33, 0, 0, 0), (74, .iload_n 3, 0, 3, 0, 0), (75, .iconst 1, 1, 0, 0, 0), (76, .iadd, 0, 0, 0, 0), (77, .imul, 0, 0, 0, 0), (78, .iload 6, 0, 6, 0, 0), (80, .iadd, 0, 0, 0, 0), (81, .iaload, 0, 0, 0, 0), (82, .iload 5, 0, 5, 0, 0), (84, .iload 6, 0, 6, 0, 0), (86, .invokestatic 135, 0, 508, 2, 137), (89, .iadd, 0, 0, 0, 0), (90, .nop, 0, 522, 0, 0)]
def kX9_plans_90 : List e_Op := [(90, .istore 7, 0, 7, 0, 0), (92, .aload_n 0, 0, 0, 0, 0), (93, .getfield 34, 0, 9, 11, 2), (96, .bipush 33, 33, 0, 0, 0), (98, .iload_n 3, 0, 3, 0, 0), (99, .imul, 0, 0, 0, 0), (100, .iload 5, 0, 5, 0, 0), (102, .iadd, 0, 0, 0, 0), (103, .aload_n 0, 0, 0, 0, 0), (104, .invokevirtual 124, 0, 435, 1, 117), (107, .ifCond .ne 8, 0, 523, 0, 0), (110, .iload 7, 0, 7, 0, 0), (112, .goto 5, 0, 524, 0, 0)]
def kX9_plans_115 : List e_Op := [(115, .ldc 134, 99999, 0, 0, 0), (117, .nop, 0, 524, 0, 0)]
def kX9_plans_117 : List e_Op := [(117, .iastore, 0, 0, 0, 0), (118, .iload 4, 0, 4, 0, 0), (120, .ifCond .ne 10, 0, 525, 0, 0), (123, .aload_n 0, 0, 0, 0, 0), (124, .invokevirtual 124, 0, 435, 1, 117), (127, .ifCond .ne 7, 0, 526, 0, 0), (130, .nop, 0, 525, 0, 0)]
def kX9_plans_130 : List e_Op := [(130, .iconst 1, 1, 0, 0, 0), (131, .goto 4, 0, 527, 0, 0)]
def kX9_plans_134 : List e_Op := [(134, .iconst 0, 0, 0, 0, 0), (135, .nop, 0, 527, 0, 0)]
def kX9_plans_135 : List e_Op := [(135, .istore 4, 0, 4, 0, 0), (137, .iinc 5 1, 1, 5, 0, 0), (140, .goto (-125), 0, 517, 0, 0)]
def kX9_plans_143 : List e_Op := [(143, .iload_n 2, 0, 2, 0, 0), (144, .ifCond .eq 12, 0, 529, 0, 0), (147, .iload 4, 0, 4, 0, 0), (149, .ifCond .eq 7, 0, 529, 0, 0), (152, .iconst 1, 1, 0, 0, 0), (153, .goto 4, 0, 530, 0, 0)]
def kX9_plans_156 : List e_Op := [(156, .iconst 0, 0, 0, 0, 0), (157, .nop, 0, 530, 0, 0)]
def kX9_plans_157 : List e_Op := [(157, .istore_n 2, 0, 2, 0, 0), (158, .iinc 3 (-1), (-1), 3, 0, 0), (161, .goto (-156), 0, 516, 0, 0)]
def kX9_plans_164 : List e_Op := [(164, .iload_n 2, 0, 2, 0, 0), (165, .ireturn, 0, 1, 0, 0)]
def kX9_lacksPlan_0 : List e_Op := [(0, .aload_n 0, 0, 0, 0, 0), (1, .iload_n 1, 0, 1, 0, 0), (2, .iconst 4, 4, 0, 0, 0), (3, .invokevirtual 91, 0, 390, 3, 110), (6, .istore_n 2, 0, 2, 0, 0), (7, .iload_n 2, 0, 2, 0, 0), (8, .ifCond .ge 7, 0, 533, 0, 0), (11, .iload_n 2, 0, 2, 0, 0), (12, .goto 17, 0, 535, 0, 0)]
def kX9_lacksPlan_15 : List e_Op := [(15, .aload_n 0, 0, 0, 0, 0), (16, .iload_n 1, 0, 1, 0, 0), (17, .invokevirtual 141, 0, 515, 2, 139), (20, .ifCond .eq 7, 0, 534, 0, 0), (23, .iconst 0, 0, 0, 0, 0), (24, .goto 5, 0, 535, 0, 0)]
def kX9_lacksPlan_27 : List e_Op := [(27, .bipush (-4), (-4), 0, 0, 0), (29, .nop, 0, 535, 0, 0)]
def kX9_lacksPlan_29 : List e_Op := [(29, .ireturn, 0, 0, 0, 0)]
def kX9_planSteps_0 : List e_Op := [(0, .aload_n 0, 0, 0, 0, 0), (1, .iload_n 1, 0, 1, 0, 0), (2, .invokevirtual 144, 0, 532, 2, 140), (5, .istore_n 2, 0, 2, 0, 0), (6, .iload_n 2, 0, 2, 0, 0), (7, .ifCond .ge 9, 0, 537, 0, 0), (10, .aload_n 0, 0, 0, 0, 0), (11, .iload_n 2, 0, 2, 0, 0), (12, .invokevirtual 49, 0, 321, 2, 91), (15, .ireturn, 0, 0, 0, 0)]
def kX9_planSteps_16 : List e_Op := [(16, .aload_n 0, 0, 0, 0, 0), (17, .iload_n 1, 0, 1, 0, 0), (18, .bipush 10, 10, 0, 0, 0), (20, .invokevirtual 88, 0, 324, 3, 94), (23, .bipush 16, 16, 0, 0, 0), (25, .iadd, 0, 0, 0, 0), (26, .istore_n 3, 0, 3, 0, 0), (27, .aload_n 0, 0, 0, 0, 0), (28, .iconst 0, 0, 0, 0, 0), (29, .iload_n 3, 0, 3, 0, 0), (30, .invokevirtual 138, 0, 511, 3, 138), (33, .istore 4, 0, 4, 0, 0), (35, .aload_n 0, 0, 0, 0, 0), (36, .getfield 34, 0, 9, 11, 2), (39, .iload 4, 0, 4, 0, 0), (41, .iaload, 0, 0, 0, 0), (42, .iload 4, 0, 4, 0, 0), (44, .iload_n 3, 0, 3, 0, 0), (45, .invokestatic 135, 0, 508, 2, 137), (48, .iadd, 0, 0, 0, 0), (49, .ireturn, 0, 0, 0, 0)]
def kX9_planTap_0 : List e_Op := [(0, .iload_n 2, 0, 2, 0, 0), (1, .iconst 0, 0, 0, 0, 0), (2, .bipush 23, 23, 0, 0, 0), (4, .invokestatic 37, 0, 318, 3, 90), (7, .ifCond .eq 11, 0, 539, 0, 0), (10, .aload_n 0, 0, 0, 0, 0), (11, .iload_n 1, 0, 1, 0, 0), (12, .invokevirtual 144, 0, 532, 2, 140), (15, .goto 5, 0, 540, 0, 0)]
def kX9_planTap_18 : List e_Op := [(18, .bipush (-2), (-2), 0, 0, 0), (20, .nop, 0, 540, 0, 0)]
def kX9_planTap_20 : List e_Op := [(20, .istore_n 3, 0, 3, 0, 0), (21, .iload_n 3, 0, 3, 0, 0), (22, .ifCond .ge 9, 0, 541, 0, 0), (25, .aload_n 0, 0, 0, 0, 0), (26, .iload_n 3, 0, 3, 0, 0), (27, .invokevirtual 49, 0, 321, 2, 91), (30, .ireturn, 0, 0, 0, 0)]
def kX9_planTap_31 : List e_Op := [(31, .aload_n 0, 0, 0, 0, 0), (32, .iload_n 1, 0, 1, 0, 0), (33, .bipush 10, 10, 0, 0, 0), (35, .invokevirtual 88, 0, 324, 3, 94), (38, .bipush 16, 16, 0, 0, 0), (40, .iadd, 0, 0, 0, 0), (41, .istore 4, 0, 4, 0, 0), (43, .iconst 0, 0, 0, 0, 0), (44, .istore 5, 0, 5, 0, 0), (46, .nop, 0, 542, 0, 0)]
def kX9_planTap_46 : List e_Op := [(46, .iload 5, 0, 5, 0, 0), (48, .iload_n 2, 0, 2, 0, 0), (49, .if_icmp .gt 19, 0, 543, 0, 0), (52, .aload_n 0, 0, 0, 0, 0), (53, .iload 5, 0, 5, 0, 0), (55, .iload 4, 0, 4, 0, 0), (57, .invokevirtual 138, 0, 511, 3, 138), (60, .istore 4, 0, 4, 0, 0), (62, .iinc 5 1, 1, 5, 0, 0), (65, .goto (-19), 0, 542, 0, 0)]
def kX9_planTap_68 : List e_Op := [(68, .bipush 100, 100, 0, 0, 0), (70, .iload 4, 0, 4, 0, 0), (72, .iadd, 0, 0, 0, 0), (73, .bipush 16, 16, 0, 0, 0), (75, .isub, 0, 0, 0, 0), (76, .ireturn, 0, 0, 0, 0)]
def kX9_undo_0 : List e_Op := [(0, .aload_n 0, 0, 0, 0, 0), (1, .getfield 45, 0, 9, 2, 0), (4, .ifCond .ne 10, 0, 545, 0, 0), (7, .aload_n 0, 0, 0, 0, 0), (8, .bipush (-6), (-6), 0, 0, 0), (10, .invokevirtual 49, 0, 321, 2, 91), (13, .ireturn, 0, 0, 0, 0)]
def kX9_undo_14 : List e_Op := [(14, .aload_n 0, 0, 0, 0, 0), (15, .dup, 0, 0, 0, 0), (16, .getfield 45, 0, 9, 2, 0), (19, .iconst 1, 1, 0, 0, 0), (20, .isub, 0, 0, 0, 0), (21, .putfield 45, 0, 9, 2, 0), (24, .iconst 0, 0, 0, 0, 0), (25, .istore_n 1, 0, 1, 0, 0), (26, .nop, 0, 546, 0, 0)]
def kX9_undo_26 : List e_Op := [(26, .iload_n 1, 0, 1, 0, 0), (27, .sipush 220, 220, 0, 0, 0), (30, .if_icmp .ge 30, 0, 547, 0, 0), (33, .aload_n 0, 0, 0, 0, 0), (34, .getfield 7, 0, 9, 0, 2), (37, .iload_n 1, 0, 1, 0, 0), (38, .aload_n 0, 0, 0, 0, 0), (39, .getfield 13, 0, 9, 1, 2), (42, .sipush 220, 220, 0, 0, 0), (45, .aload_n 0, 0, 0, 0, 0), (46, .getfield 45, 0, 9, 2, 0), (49, .imul, 0, 0, 0, 0), (50, .iload_n 1, 0, 1, 0, 0), (51, .iadd, 0, 0, 0, 0), (52, .iaload, 0, 0, 0, 0), (53, .iastore, 0, 0, 0, 0), (54, .iinc 1 1, 1, 1, 0, 0), (57, .goto (-31), 0, 546, 0, 0)]
def kX9_undo_60 : List e_Op := [(60, .aload_n 0, 0, 0, 0, 0), (61, .getfield 45, 0, 9, 2, 0), (64, .ireturn, 0, 0, 0, 0)]
def kX9_errorCount_0 : List e_Op := [(0, .iload_n 1, 0, 1, 0, 0), (1, .bipush (-6), (-6), 0, 0, 0), (3, .bipush (-2), (-2), 0, 0, 0), (5, .invokestatic 37, 0, 318, 3, 90), (8, .ifCond .eq 13, 0, 549, 0, 0), (11, .aload_n 0, 0, 0, 0, 0), (12, .getfield 19, 0, 9, 5, 2), (15, .iload_n 1, 0, 1, 0, 0), (16, .ineg, 0, 0, 0, 0), (17, .iaload, 0, 0, 0, 0), (18, .goto 9, 0, 550, 0, 0)]
def kX9_errorCount_21 : List e_Op := [(21, .aload_n 0, 0, 0, 0, 0), (22, .bipush (-2), (-2), 0, 0, 0), (24, .invokevirtual 49, 0, 321, 2, 91), (27, .nop, 0, 550, 0, 0)]
def kX9_errorCount_27 : List e_Op := [(27, .ireturn, 0, 0, 0, 0)]
def kX9_mixed_0 : List e_Op := [(0, .ldc2_w 147, 31, 0, 0, 0), (3, .lload_n 0, 0, 0, 0, 0), (4, .lmul, 0, 0, 0, 0), (5, .lload_n 2, 0, 2, 0, 0), (6, .ladd, 0, 0, 0, 0), (7, .lreturn, 0, 0, 0, 0)]
def kX9_digest_0 : List e_Op := [(0, .aload_n 0, 0, 0, 0, 0), (1, .invokevirtual 114, 0, 440, 1, 118), (4, .ldc2_w 149, 2749, 0, 0, 0), (7, .lstore_n 1, 0, 1, 0, 0), (8, .iconst 2, 2, 0, 0, 0), (9, .istore_n 3, 0, 3, 0, 0), (10, .nop, 0, 553, 0, 0)]
def kX9_digest_10 : List e_Op := [(10, .iload_n 3, 0, 3, 0, 0), (11, .bipush 7, 7, 0, 0, 0), (13, .if_icmp .ge 21, 0, 554, 0, 0), (16, .lload_n 1, 0, 1, 0, 0), (17, .aload_n 0, 0, 0, 0, 0), (18, .getfield 19, 0, 9, 5, 2), (21, .iload_n 3, 0, 3, 0, 0), (22, .iaload, 0, 0, 0, 0), (23, .i2l, 0, 0, 0, 0), (24, .invokestatic 151, 0, 551, 2, 145), (27, .lstore_n 1, 0, 1, 0, 0), (28, .iinc 3 1, 1, 3, 0, 0), (31, .goto (-21), 0, 553, 0, 0)]
def kX9_digest_34 : List e_Op := [(34, .lload_n 1, 0, 1, 0, 0), (35, .aload_n 0, 0, 0, 0, 0), (36, .getfield 68, 0, 9, 4, 0), (39, .i2l, 0, 0, 0, 0), (40, .invokestatic 151, 0, 551, 2, 145), (43, .aload_n 0, 0, 0, 0, 0), (44, .getfield 7, 0, 9, 0, 2), (47, .iconst 0, 0, 0, 0, 0), (48, .iaload, 0, 0, 0, 0), (49, .i2l, 0, 0, 0, 0), (50, .invokestatic 151, 0, 551, 2, 145), (53, .aload_n 0, 0, 0, 0, 0), (54, .getfield 7, 0, 9, 0, 2), (57, .iconst 1, 1, 0, 0, 0), (58, .iaload, 0, 0, 0, 0), (59, .i2l, 0, 0, 0, 0), (60, .invokestatic 151, 0, 551, 2, 145), (63, .lstore_n 1, 0, 1, 0, 0), (64, .iconst 0, 0, 0, 0, 0), (65, .istore_n 3, 0, 3, 0, 0), (66, .nop, 0, 555, 0, 0)]
def kX9_digest_66 : List e_Op := [(66, .iload_n 3, 0, 3, 0, 0), (67, .bipush 24, 24, 0, 0, 0), (69, .if_icmp .ge 23, 0, 556, 0, 0), (72, .lload_n 1, 0, 1, 0, 0), (73, .aload_n 0, 0, 0, 0, 0), (74, .getfield 7, 0, 9, 0, 2), (77, .iconst 4, 4, 0, 0, 0), (78, .iload_n 3, 0, 3, 0, 0), (79, .iadd, 0, 0, 0, 0), (80, .iaload, 0, 0, 0, 0), (81, .i2l, 0, 0, 0, 0), (82, .invokestatic 151, 0, 551, 2, 145), (85, .lstore_n 1, 0, 1, 0, 0), (86, .iinc 3 1, 1, 3, 0, 0), (89, .goto (-23), 0, 555, 0, 0)]
def kX9_digest_92 : List e_Op := [(92, .lload_n 1, 0, 1, 0, 0), (93, .aload_n 0, 0, 0, 0, 0), (94, .getfield 7, 0, 9, 0, 2), (97, .iconst 3, 3, 0, 0, 0), (98, .iaload, 0, 0, 0, 0), (99, .i2l, 0, 0, 0, 0), (100, .invokestatic 151, 0, 551, 2, 145), (103, .lstore_n 1, 0, 1, 0, 0), (104, .iconst 1, 1, 0, 0, 0), (105, .istore_n 3, 0, 3, 0, 0), (106, .nop, 0, 557, 0, 0)]
def kX9_digest_106 : List e_Op := [(106, .iload_n 3, 0, 3, 0, 0), (107, .aload_n 0, 0, 0, 0, 0), (108, .getfield 7, 0, 9, 0, 2), (111, .iconst 3, 3, 0, 0, 0), (112, .iaload, 0, 0, 0, 0), (113, .if_icmp .gt 157, 0, 560, 0, 0), (116, .lload_n 1, 0, 1, 0, 0), (117, .aload_n 0, 0, 0, 0, 0), (118, .getfield 28, 0, 9, 8, 2), (121, .iload_n 3, 0, 3, 0, 0), (122, .iaload, 0, 0, 0, 0), (123, .i2l, 0, 0, 0, 0), (124, .invokestatic 151, 0, 551, 2, 145), (127, .aload_n 0, 0, 0, 0, 0), (128, .getfield 22, 0, 9, 6, 2), (131, .iload_n 3, 0, 3, 0, 0), (132, .iaload, 0, 0, 0, 0), (133, .i2l, 0, 0, 0, 0), (134, .invokestatic 151, 0, 551, 2, 145), (137, .aload_n 0, 0, 0, 0, 0), (138, .getfield 25, 0, 9, 7, 2), (141, .iload_n 3, 0, 3, 0, 0), (142, .iaload, 0, 0, 0, 0), (143, .i2l, 0, 0, 0, 0), (144, .invokestatic 151, 0, 551, 2, 145), (147, .lstore_n 1, 0, 1, 0, 0), (148, .lload_n 1, 0, 1, 0, 0), (149, .aload_n 0, 0, 0, 0, 0), (150, .iload_n 3, 0, 3, 0, 0), (151, .iconst 4, 4, 0, 0, 0), (152, .invokevirtual 88, 0, 324, 3, 94), (155, .i2l, 0, 0, 0, 0), (156, .invokestatic 151, 0, 551, 2, 145), (159, .lstore_n 1, 0, 1, 0, 0), (160, .aload_n 0, 0, 0, 0, 0), (161, .iload_n 3, 0, 3, 0, 0), (162, .iconst 4, 4, 0, 0, 0), (163, .invokevirtual 88, 0, 324, 3, 94), (166, .iconst 1, 1, 0, 0, 0), (167, .if_icmp .ne 49, 0, 558, 0, 0), (170, .lload_n 1, 0, 1, 0, 0), (171, .aload_n 0, 0, 0, 0, 0), (172, .iload_n 3, 0, 3, 0, 0), (173, .bipush 10, 10, 0, 0, 0), (175, .invokevirtual 88, 0, 324, 3, 94), (178, .i2l, 0, 0, 0, 0), (179, .invokestatic 151, 0, 551, 2, 145), (182, .aload_n 0, 0, 0, 0, 0), (183, .iload_n 3, 0, 3, 0, 0), (184, .bipush 9, 9, 0, 0, 0), (186, .invokevirtual 88, 0, 324, 3, 94), (189, .i2l, 0, 0, 0, 0), (190, .invokestatic 151, 0, 551, 2, 145), (193, .aload_n 0, 0, 0, 0, 0), (194, .iload_n 3, 0, 3, 0, 0), (195, .bipush 14, 14, 0, 0, 0), (197, .invokevirtual 88, 0, 324, 3, 94), (200, .i2l, 0, 0, 0, 0), (201, .invokestatic 151, 0, 551, 2, 145), (204, .aload_n 0, 0, 0, 0, 0), (205, .iload_n 3, 0, 3, 0, 0), (206, .bipush 15, 15, 0, 0, 0), (208, .invokevirtual 88, 0, 324, 3, 94), (211, .i2l, 0, 0, 0, 0), (212, .invokestatic 151, 0, 551, 2, 145), (215, .lstore_n 1, 0, 1, 0, 0), (216, .nop, 0, 558, 0, 0)]
def kX9_digest_216 : List e_Op := [(216, .lload_n 1, 0, 1, 0, 0), (217, .aload_n 0, 0, 0, 0, 0), (218, .iload_n 3, 0, 3, 0, 0), (219, .bipush 16, 16, 0, 0, 0), (221, .invokevirtual 88, 0, 324, 3, 94), (224, .i2l, 0, 0, 0, 0), (225, .invokestatic 151, 0, 551, 2, 145), (228, .lstore_n 1, 0, 1, 0, 0), (229, .aload_n 0, 0, 0, 0, 0), (230, .iload_n 3, 0, 3, 0, 0), (231, .bipush 16, 16, 0, 0, 0), (233, .invokevirtual 88, 0, 324, 3, 94), (236, .iconst 1, 1, 0, 0, 0), (237, .if_icmp .ne 27, 0, 559, 0, 0), (240, .lload_n 1, 0, 1, 0, 0), (241, .aload_n 0, 0, 0, 0, 0), (242, .iload_n 3, 0, 3, 0, 0), (243, .bipush 23, 23, 0, 0, 0), (245, .invokevirtual 88, 0, 324, 3, 94), (248, .i2l, 0, 0, 0, 0), (249, .invokestatic 151, 0, 551, 2, 145), (252, .aload_n 0, 0, 0, 0, 0), (253, .iload_n 3, 0, 3, 0, 0), (254, .bipush 22, 22, 0, 0, 0), (256, .invokevirtual 88, 0, 324, 3, 94), (259, .i2l, 0, 0, 0, 0), (260, .invokestatic 151, 0, 551, 2, 145), (263, .lstore_n 1, 0, 1, 0, 0), (264, .nop, 0, 559, 0, 0)]
def kX9_digest_264 : List e_Op := [(264, .iinc 3 1, 1, 3, 0, 0), (267, .goto (-161), 0, 557, 0, 0)]
def kX9_digest_270 : List e_Op := [(270, .lload_n 1, 0, 1, 0, 0), (271, .aload_n 0, 0, 0, 0, 0), (272, .getfield 7, 0, 9, 0, 2), (275, .iconst 2, 2, 0, 0, 0), (276, .iaload, 0, 0, 0, 0), (277, .i2l, 0, 0, 0, 0), (278, .invokestatic 151, 0, 551, 2, 145), (281, .aload_n 0, 0, 0, 0, 0), (282, .getfield 45, 0, 9, 2, 0), (285, .i2l, 0, 0, 0, 0), (286, .invokestatic 151, 0, 551, 2, 145), (289, .lreturn, 0, 0, 0, 0)]
def e_labs : List (List e_Op) := [kL_law_156, kL_law_179, kL_law_232, kL_law_275, kL_law_308, kL_law_331, kL_law_344, kL_law_357, kL_law_420, kL_law_453, kL_law_528, kL_law_561, kL_law_584, kL_law_597, kL_law_620, kL_law_643, kL_law_666, kL_law_689, kL_law_712, kL_law_735, kL_law_758, kL_law_781, kL_law_794, kL_law_817, kL_law_850, kL_law_863, kL_law_886, kL_law_0, kL_law_18, kL_law_900, kL_law_906, kX0_init_0, kX0_copyFrom_0, kX0_isByTime_0, kX0_isByTime_19, kX0_isByTime_20, kX0_isByFlow_0, kX0_isByFlow_19, kX0_isByFlow_20, kX0_isOnByTime_0, kX0_isOnByTime_31, kX0_isOnByTime_35, kX0_isOnByTime_51, kX0_isOnByTime_55, kX0_isOnByTime_56, kX0_supply_0, kX0_supply_19, kX0_supply_23, kX0_supply_35, kX0_supply_36, kX0_countMinute_0, kX0_countMinute_19, kX0_countMinute_23, kX0_countMinute_35, kX0_countMinute_36, kX0_countMinute_51, kX0_countMinute_52, kX0_isDue_0, kX0_isDue_15, kX0_isDue_16, kX0_change_0, kX0_change_12, kX0_change_13, kX1_init_0, kX1_init_30, kX1_init_50, kX1_init_52, kX1_init_77, kX1_copyFrom_0, kX1_copyFrom_49, kX1_copyFrom_76, kX1_hour_0, kX1_releaseLocks_0, kX1_releaseLocks_2, kX1_releaseLocks_28, kX1_switchBanksByTime_0, kX1_switchBanksByTime_7, kX1_switchBanksByTime_41, kX1_switchBanksByTime_47, kX1_switchBankByFlow_0, kX1_switchBankByFlow_4, kX1_switchBankByFlow_61, kX1_switchBankByFlow_67, kX1_moveRegulators_0, kX1_moveRegulators_5, kX1_moveRegulators_81, kX1_moveRegulators_87, kX2_init_0, kX2_solve_0, kX2_sumLoads_0, kX2_sumLoads_20, kX2_sumLoads_102, kX2_findVoltages_0, kX2_findVoltages_17, kX2_findVoltages_45, kX2_findVoltages_53, kX2_findVoltages_128, kX2_countBadNodes_0, kX2_countBadNodes_4, kX2_countBadNodes_36, kX2_countBadNodes_42, kX3_init_0, kX3_init_14, kX3_init_38, kX3_save_0, kX3_save_12, kX3_dropOldest_0, kX3_dropOldest_9, kX3_dropOldest_34, kX3_restore_0, kX4_init_0, kX4_copyFrom_0, kX5_init_0, kX5_makePlan_0, kX5_makePlan_2, kX5_makePlan_21, kX5_makePlan_24, kX5_makePlan_46, kX5_makePlan_83, kX5_countStepsAfter_0, kX5_countStepsAfter_13, kX5_countStepsAfter_52, kX5_countStepsAfter_53, kX5_countStepsAfter_78, kX5_countStepsAfter_80, kX5_countStepsAfter_87, kX5_countStepsFrom_0, kX5_countStepsFrom_2, kX5_countStepsFrom_28, kX5_countStepsFrom_30, kX5_countStepsFrom_67, kX5_countStepsFrom_70, kX5_countStepsFrom_105, kX5_chooseTaps_0, kX5_chooseTaps_4, kX5_chooseTaps_20, kX5_chooseTaps_61, kX5_chooseTaps_67, kX5_chooseTaps_87, kX6_init_0, kX6_readItems_0, kX6_readItems_21, kX6_readItems_61, kX6_readItem_0, kX6_readItem_33, kX6_readItem_63, kX6_readItem_66, kX6_readItem_84, kX6_readNumber_0, kX6_readNumber_9, kX6_readNumber_21, kX6_readNumber_71, kX6_readNumber_104, kX6_readNumber_122, kX6_readNumber_129, kX6_isNext_0, kX6_isNext_32, kX6_isNext_33, kX6_expect_0, kX6_expect_8, kX6_expect_29, kX6_expect_37, kX6_skipSpaces_0, kX6_skipSpaces_38, kX7_init_0, kX7_copyFrom_0, kX7_release_0, kX7_wantedDirection_0, kX7_wantedDirection_18, kX7_wantedDirection_20, kX7_wantedDirection_44, kX7_wantedDirection_70, kX7_wantedDirection_71, kX7_countMinute_0, kX7_countMinute_12, kX7_countMinute_29, kX7_countMinute_39, kX7_isDue_0, kX7_isDue_22, kX7_isDue_23, kX7_makeStep_0, kX7_makeStep_35, kX7_makeStep_36, kX7_makeStep_39, kX8_init_0, kX8_setSource_0, kX8_setSource_20, kX8_addNode_0, kX8_addNode_29, kX8_addNode_36, kX8_addNode_55, kX8_setLoad_0, kX8_setLoad_16, kX8_setLoad_23, kX8_setFactor_0, kX8_setFactor_18, kX8_setFactor_25, kX8_append_0, kX8_append_17, kX8_append_36, kX8_clearText_0, kX8_parseProfile_0, kX8_parseProfile_51, kX8_addRegulator_0, kX8_addRegulator_54, kX8_addRegulator_61, kX8_addRegulator_90, kX8_addRegulator_138, kX8_addRegulator_139, kX8_setTap_0, kX8_setTap_18, kX8_setTap_34, kX8_addBank_0, kX8_addBank_41, kX8_addBank_48, kX8_addBank_77, kX8_switchBank_0, kX8_switchBank_16, kX8_switchBank_32, kX8_switchBank_78, kX8_switchBank_79, kX8_run_0, kX8_run_18, kX8_run_33, kX8_run_48, kX8_run_54, kX8_minute_0, kX8_passMinute_0, kX8_passMinute_33, kX8_passMinute_79, kX8_passMinute_80, kX8_passMinute_92, kX8_passMinute_103, kX8_passMinute_137, kX8_passMinute_141, kX8_passMinute_142, kX8_voltage_0, kX8_voltage_22, kX8_activeFlow_0, kX8_activeFlow_15, kX8_reactiveFlow_0, kX8_reactiveFlow_15, kX8_tap_0, kX8_tap_18, kX8_tap_36, kX8_timer_0, kX8_timer_18, kX8_timer_33, kX8_isLocked_0, kX8_isLocked_18, kX8_isLocked_36, kX8_steps_0, kX8_steps_18, kX8_steps_33, kX8_isOn_0, kX8_isOn_18, kX8_isOn_36, kX8_violations_0, kX8_planSteps_0, kX8_planSteps_16, kX8_planSteps_41, kX8_planSteps_47, kX8_planTap_0, kX8_planTap_14, kX8_planTap_30, kX8_planTap_60, kX8_planTap_66, kX8_undo_0, kX8_undo_17, kX8_errorCount_0, kX8_errorCount_19, kX8_errorCount_25, kX8_digest_0, kX8_digest_17, kX8_digest_39, kX8_digest_77, kX8_digest_103, kX8_digest_117, kX8_digest_210, kX8_mixRegulator_0, kX8_mixRegulator_21, kX8_mixBank_0, kX8_mixBank_21, kX8_mix_0, kX8_isWithin_0, kX8_isWithin_14, kX8_isWithin_15, kX8_isHour_0, kX8_isLoad_0, kX8_isLoad_30, kX8_isLoad_31, kX8_areBankSettings_0, kX8_areBankSettings_23, kX8_areBankSettings_24, kX8_areBankSettings_25, kX8_areBankSettings_65, kX8_areBankSettings_66, kX8_areBankSettings_67, kX8_areBankSettings_75, kX8_areBankSettings_76, kX8_bit_0, kX8_bit_8, kX8_bit_9, kX8_hasNode_0, kX8_regulatorFault_0, kX8_regulatorFault_11, kX8_regulatorFault_33, kX8_regulatorFault_35, kX8_bankFault_0, kX8_bankFault_11, kX8_bankFault_33, kX8_bankFault_35, kX8_isErrorCode_0, kX8_refuse_0, kX8_refuse_20, kX9_init_0, kX9_init_90, kX9_init_112, kX9_in_0, kX9_in_14, kX9_in_15, kX9_error_0, kX9_isNode_0, kX9_spot_0, kX9_of_0, kX9_put_0, kX9_save_0, kX9_save_10, kX9_save_39, kX9_save_49, kX9_save_51, kX9_save_85, kX9_setSource_0, kX9_setSource_20, kX9_isLoad_0, kX9_isLoad_30, kX9_isLoad_31, kX9_addNode_0, kX9_addNode_29, kX9_addNode_36, kX9_addNode_54, kX9_addNode_79, kX9_addNode_101, kX9_setLoad_0, kX9_setLoad_16, kX9_setLoad_23, kX9_setFactor_0, kX9_setFactor_21, kX9_setFactor_28, kX9_append_0, kX9_append_17, kX9_append_33, kX9_clearText_0, kX9_next_0, kX9_next_38, kX9_next_61, kX9_next_62, kX9_takes_0, kX9_takes_12, kX9_takes_13, kX9_takes_27, kX9_takes_28, kX9_number_0, kX9_number_13, kX9_number_86, kX9_number_130, kX9_number_131, kX9_number_146, kX9_number_148, kX9_number_165, kX9_readsItem_0, kX9_readsItem_14, kX9_readsItem_39, kX9_readsItem_50, kX9_readsItem_72, kX9_readsItem_74, kX9_readsItem_77, kX9_readsItem_97, kX9_parseProfile_0, kX9_parseProfile_2, kX9_parseProfile_28, kX9_parseProfile_35, kX9_parseProfile_57, kX9_parseProfile_63, kX9_parseProfile_69, kX9_parseProfile_95, kX9_addRegulator_0, kX9_addRegulator_54, kX9_addRegulator_61, kX9_addRegulator_78, kX9_lacks_0, kX9_lacks_13, kX9_lacks_27, kX9_lacks_28, kX9_setTap_0, kX9_setTap_20, kX9_setTap_22, kX9_setTap_33, kX9_addBank_0, kX9_addBank_27, kX9_addBank_31, kX9_addBank_32, kX9_addBank_74, kX9_addBank_78, kX9_addBank_79, kX9_addBank_130, kX9_addBank_137, kX9_addBank_155, kX9_switchBank_0, kX9_switchBank_19, kX9_switchBank_21, kX9_switchBank_32, kX9_hour_0, kX9_isTime_0, kX9_isTime_38, kX9_isTime_42, kX9_isTime_53, kX9_isTime_57, kX9_isTime_58, kX9_compute_0, kX9_compute_14, kX9_compute_93, kX9_compute_109, kX9_compute_110, kX9_compute_142, kX9_compute_143, kX9_compute_170, kX9_compute_185, kX9_compute_207, kX9_compute_215, kX9_compute_251, kX9_compute_260, kX9_compute_316, kX9_compute_318, kX9_compute_325, kX9_outside_0, kX9_outside_4, kX9_outside_37, kX9_outside_38, kX9_outside_46, kX9_computeNow_0, kX9_unlocks_0, kX9_unlocks_2, kX9_unlocks_34, kX9_switches_0, kX9_switches_4, kX9_switches_66, kX9_switches_70, kX9_switches_90, kX9_switches_91, kX9_switches_112, kX9_switches_113, kX9_switches_167, kX9_switches_173, kX9_wants_0, kX9_wants_20, kX9_wants_31, kX9_wants_33, kX9_wants_72, kX9_wants_73, kX9_wants_113, kX9_wants_114, kX9_wants_123, kX9_wants_131, kX9_wants_132, kX9_goes_0, kX9_goes_95, kX9_goes_96, kX9_goes_99, kX9_regulates_0, kX9_regulates_4, kX9_regulates_44, kX9_regulates_61, kX9_regulates_70, kX9_regulates_121, kX9_regulates_127, kX9_passes_0, kX9_passes_26, kX9_passes_28, kX9_passes_80, kX9_passes_81, kX9_passes_84, kX9_passes_90, kX9_passes_108, kX9_passes_109, kX9_passes_138, kX9_passes_142, kX9_passes_143, kX9_run_0, kX9_run_18, kX9_run_26, kX9_run_44, kX9_minute_0, kX9_voltage_0, kX9_voltage_19, kX9_activeFlow_0, kX9_activeFlow_15, kX9_reactiveFlow_0, kX9_reactiveFlow_15, kX9_told_0, kX9_told_22, kX9_told_31, kX9_tap_0, kX9_timer_0, kX9_isLocked_0, kX9_steps_0, kX9_isOn_0, kX9_violations_0, kX9_apart_0, kX9_apart_11, kX9_apart_14, kX9_best_0, kX9_best_9, kX9_best_68, kX9_best_74, kX9_plans_0, kX9_plans_5, kX9_plans_15, kX9_plans_44, kX9_plans_48, kX9_plans_57, kX9_plans_68, kX9_plans_90, kX9_plans_115, kX9_plans_117, kX9_plans_130, kX9_plans_134, kX9_plans_135, kX9_plans_143, kX9_plans_156, kX9_plans_157, kX9_plans_164, kX9_lacksPlan_0, kX9_lacksPlan_15, kX9_lacksPlan_27, kX9_lacksPlan_29, kX9_planSteps_0, kX9_planSteps_16, kX9_planTap_0, kX9_planTap_18, kX9_planTap_20, kX9_planTap_31, kX9_planTap_46, kX9_planTap_68, kX9_undo_0, kX9_undo_14, kX9_undo_26, kX9_undo_60, kX9_errorCount_0, kX9_errorCount_21, kX9_errorCount_27, kX9_mixed_0, kX9_digest_0, kX9_digest_10, kX9_digest_34, kX9_digest_66, kX9_digest_92, kX9_digest_106, kX9_digest_216, kX9_digest_264, kX9_digest_270]
def e_lbl (n : Nat) : List e_Op := e_labs.getD n []
def e_lms : List Nat := [0, 0, 0, 0, 0, 0, 0, 0, 0, 0, 0, 0, 0, 0, 0, 0, 0, 0, 0, 0, 0, 0, 0, 0, 0, 0, 0, 0, 0, 0, 0, 1, 2, 3, 3, 3, 4, 4, 4, 5, 5, 5, 5, 5, 5, 6, 6, 6, 6, 6, 7, 7, 7, 7, 7, 7, 7, 8, 8, 8, 9, 9, 9, 10, 10, 10, 10, 10, 11, 11, 11, 12, 13, 13, 13, 14, 14, 14, 14, 15, 15, 15, 15, 16, 16, 16, 16, 17, 18, 19, 19, 19, 20, 20, 20, 20, 20, 21, 21, 21, 21, 22, 22, 22, 23, 23, 24, 24, 24, 25, 26, 27, 28, 29, 29, 29, 29, 29, 29, 30, 30, 30, 30, 30, 30, 30, 31, 31, 31, 31, 31, 31, 31, 32, 32, 32, 32, 32, 32, 33, 34, 34, 34, 35, 35, 35, 35, 35, 36, 36, 36, 36, 36, 36, 36, 37, 37, 37, 38, 38, 38, 38, 39, 39, 40, 41, 42, 43, 43, 43, 43, 43, 43, 44, 44, 44, 44, 45, 45, 45, 46, 46, 46, 46, 47, 48, 48, 49, 49, 49, 49, 50, 50, 50, 51, 51, 51, 52, 52, 52, 53, 54, 54, 55, 55, 55, 55, 55, 55, 56, 56, 56, 57, 57, 57, 57, 58, 58, 58, 58, 58, 59, 59, 59, 59, 59, 60, 61, 61, 61, 61, 61, 61, 61, 61, 61, 62, 62, 63, 63, 64, 64, 65, 65, 65, 66, 66, 66, 67, 67, 67, 68, 68, 68, 69, 69, 69, 70, 71, 71, 71, 71, 72, 72, 72, 72, 72, 73, 73, 74, 74, 74, 75, 75, 75, 75, 75, 75, 75, 76, 76, 77, 77, 78, 79, 79, 79, 80, 81, 81, 81, 82, 82, 82, 82, 82, 82, 82, 82, 82, 83, 83, 83, 84, 85, 85, 85, 85, 86, 86, 86, 86, 87, 88, 88, 89, 89, 89, 90, 90, 90, 91, 92, 93, 94, 95, 96, 96, 96, 96, 96, 96, 97, 97, 98, 98, 98, 99, 99, 99, 99, 99, 99, 100, 100, 100, 101, 101, 101, 102, 102, 102, 103, 104, 104, 104, 104, 105, 105, 105, 105, 105, 106, 106, 106, 106, 106, 106, 106, 106, 107, 107, 107, 107, 107, 107, 107, 107, 108, 108, 108, 108, 108, 108, 108, 108, 109, 109, 109, 109, 110, 110, 110, 110, 111, 111, 111, 111, 112, 112, 112, 112, 112, 112, 112, 112, 112, 112, 113, 113, 113, 113, 114, 115, 115, 115, 115, 115, 115, 116, 116, 116, 116, 116, 116, 116, 116, 116, 116, 116, 116, 116, 116, 116, 116, 117, 117, 117, 117, 117, 118, 119, 119, 119, 120, 120, 120, 120, 120, 120, 120, 120, 120, 120, 121, 121, 121, 121, 121, 121, 121, 121, 121, 121, 121, 122, 122, 122, 122, 123, 123, 123, 123, 123, 123, 123, 124, 124, 124, 124, 124, 124, 124, 124, 124, 124, 124, 124, 125, 125, 125, 125, 126, 127, 127, 128, 128, 129, 129, 130, 130, 130, 131, 132, 133, 134, 135, 136, 137, 137, 137, 138, 138, 138, 138, 139, 139, 139, 139, 139, 139, 139, 139, 139, 139, 139, 139, 139, 139, 139, 139, 139, 140, 140, 140, 140, 141, 141, 142, 142, 142, 142, 142, 142, 143, 143, 143, 143, 144, 144, 144, 145, 146, 146, 146, 146, 146, 146, 146, 146, 146]
def e_lm (n : Nat) : Nat := e_lms.getD n 999
set_option maxRecDepth 20000 in
theorem lL_law_156 : e_lbl 0 = kL_law_156 := rfl
set_option maxRecDepth 20000 in
theorem lL_law_179 : e_lbl 1 = kL_law_179 := rfl
set_option maxRecDepth 20000 in
theorem lL_law_232 : e_lbl 2 = kL_law_232 := rfl
set_option maxRecDepth 20000 in
theorem lL_law_275 : e_lbl 3 = kL_law_275 := rfl
set_option maxRecDepth 20000 in
theorem lL_law_308 : e_lbl 4 = kL_law_308 := rfl
set_option maxRecDepth 20000 in
theorem lL_law_331 : e_lbl 5 = kL_law_331 := rfl
set_option maxRecDepth 20000 in
theorem lL_law_344 : e_lbl 6 = kL_law_344 := rfl
set_option maxRecDepth 20000 in
theorem lL_law_357 : e_lbl 7 = kL_law_357 := rfl
set_option maxRecDepth 20000 in
theorem lL_law_420 : e_lbl 8 = kL_law_420 := rfl
set_option maxRecDepth 20000 in
theorem lL_law_453 : e_lbl 9 = kL_law_453 := rfl
set_option maxRecDepth 20000 in
theorem lL_law_528 : e_lbl 10 = kL_law_528 := rfl
set_option maxRecDepth 20000 in
theorem lL_law_561 : e_lbl 11 = kL_law_561 := rfl
set_option maxRecDepth 20000 in
theorem lL_law_584 : e_lbl 12 = kL_law_584 := rfl
set_option maxRecDepth 20000 in
theorem lL_law_597 : e_lbl 13 = kL_law_597 := rfl
set_option maxRecDepth 20000 in
theorem lL_law_620 : e_lbl 14 = kL_law_620 := rfl
set_option maxRecDepth 20000 in
theorem lL_law_643 : e_lbl 15 = kL_law_643 := rfl
set_option maxRecDepth 20000 in
theorem lL_law_666 : e_lbl 16 = kL_law_666 := rfl
set_option maxRecDepth 20000 in
theorem lL_law_689 : e_lbl 17 = kL_law_689 := rfl
set_option maxRecDepth 20000 in
theorem lL_law_712 : e_lbl 18 = kL_law_712 := rfl
set_option maxRecDepth 20000 in
theorem lL_law_735 : e_lbl 19 = kL_law_735 := rfl
set_option maxRecDepth 20000 in
theorem lL_law_758 : e_lbl 20 = kL_law_758 := rfl
set_option maxRecDepth 20000 in
theorem lL_law_781 : e_lbl 21 = kL_law_781 := rfl
set_option maxRecDepth 20000 in
theorem lL_law_794 : e_lbl 22 = kL_law_794 := rfl
set_option maxRecDepth 20000 in
theorem lL_law_817 : e_lbl 23 = kL_law_817 := rfl
set_option maxRecDepth 20000 in
theorem lL_law_850 : e_lbl 24 = kL_law_850 := rfl
set_option maxRecDepth 20000 in
theorem lL_law_863 : e_lbl 25 = kL_law_863 := rfl
set_option maxRecDepth 20000 in
theorem lL_law_886 : e_lbl 26 = kL_law_886 := rfl
set_option maxRecDepth 20000 in
theorem lL_law_0 : e_lbl 27 = kL_law_0 := rfl
set_option maxRecDepth 20000 in
theorem lL_law_18 : e_lbl 28 = kL_law_18 := rfl
set_option maxRecDepth 20000 in
theorem lL_law_900 : e_lbl 29 = kL_law_900 := rfl
set_option maxRecDepth 20000 in
theorem lL_law_906 : e_lbl 30 = kL_law_906 := rfl
set_option maxRecDepth 20000 in
theorem lX0_init_0 : e_lbl 31 = kX0_init_0 := rfl
set_option maxRecDepth 20000 in
theorem lX0_copyFrom_0 : e_lbl 32 = kX0_copyFrom_0 := rfl
set_option maxRecDepth 20000 in
theorem lX0_isByTime_0 : e_lbl 33 = kX0_isByTime_0 := rfl
set_option maxRecDepth 20000 in
theorem lX0_isByTime_19 : e_lbl 34 = kX0_isByTime_19 := rfl
set_option maxRecDepth 20000 in
theorem lX0_isByTime_20 : e_lbl 35 = kX0_isByTime_20 := rfl
set_option maxRecDepth 20000 in
theorem lX0_isByFlow_0 : e_lbl 36 = kX0_isByFlow_0 := rfl
set_option maxRecDepth 20000 in
theorem lX0_isByFlow_19 : e_lbl 37 = kX0_isByFlow_19 := rfl
set_option maxRecDepth 20000 in
theorem lX0_isByFlow_20 : e_lbl 38 = kX0_isByFlow_20 := rfl
set_option maxRecDepth 20000 in
theorem lX0_isOnByTime_0 : e_lbl 39 = kX0_isOnByTime_0 := rfl
set_option maxRecDepth 20000 in
theorem lX0_isOnByTime_31 : e_lbl 40 = kX0_isOnByTime_31 := rfl
set_option maxRecDepth 20000 in
theorem lX0_isOnByTime_35 : e_lbl 41 = kX0_isOnByTime_35 := rfl
set_option maxRecDepth 20000 in
theorem lX0_isOnByTime_51 : e_lbl 42 = kX0_isOnByTime_51 := rfl
set_option maxRecDepth 20000 in
theorem lX0_isOnByTime_55 : e_lbl 43 = kX0_isOnByTime_55 := rfl
set_option maxRecDepth 20000 in
theorem lX0_isOnByTime_56 : e_lbl 44 = kX0_isOnByTime_56 := rfl
set_option maxRecDepth 20000 in
theorem lX0_supply_0 : e_lbl 45 = kX0_supply_0 := rfl
set_option maxRecDepth 20000 in
theorem lX0_supply_19 : e_lbl 46 = kX0_supply_19 := rfl
set_option maxRecDepth 20000 in
theorem lX0_supply_23 : e_lbl 47 = kX0_supply_23 := rfl
set_option maxRecDepth 20000 in
theorem lX0_supply_35 : e_lbl 48 = kX0_supply_35 := rfl
set_option maxRecDepth 20000 in
theorem lX0_supply_36 : e_lbl 49 = kX0_supply_36 := rfl
set_option maxRecDepth 20000 in
theorem lX0_countMinute_0 : e_lbl 50 = kX0_countMinute_0 := rfl
set_option maxRecDepth 20000 in
theorem lX0_countMinute_19 : e_lbl 51 = kX0_countMinute_19 := rfl
set_option maxRecDepth 20000 in
theorem lX0_countMinute_23 : e_lbl 52 = kX0_countMinute_23 := rfl
set_option maxRecDepth 20000 in
theorem lX0_countMinute_35 : e_lbl 53 = kX0_countMinute_35 := rfl
set_option maxRecDepth 20000 in
theorem lX0_countMinute_36 : e_lbl 54 = kX0_countMinute_36 := rfl
set_option maxRecDepth 20000 in
theorem lX0_countMinute_51 : e_lbl 55 = kX0_countMinute_51 := rfl
set_option maxRecDepth 20000 in
theorem lX0_countMinute_52 : e_lbl 56 = kX0_countMinute_52 := rfl
set_option maxRecDepth 20000 in
theorem lX0_isDue_0 : e_lbl 57 = kX0_isDue_0 := rfl
set_option maxRecDepth 20000 in
theorem lX0_isDue_15 : e_lbl 58 = kX0_isDue_15 := rfl
set_option maxRecDepth 20000 in
theorem lX0_isDue_16 : e_lbl 59 = kX0_isDue_16 := rfl
set_option maxRecDepth 20000 in
theorem lX0_change_0 : e_lbl 60 = kX0_change_0 := rfl
set_option maxRecDepth 20000 in
theorem lX0_change_12 : e_lbl 61 = kX0_change_12 := rfl
set_option maxRecDepth 20000 in
theorem lX0_change_13 : e_lbl 62 = kX0_change_13 := rfl
set_option maxRecDepth 20000 in
theorem lX1_init_0 : e_lbl 63 = kX1_init_0 := rfl
set_option maxRecDepth 20000 in
theorem lX1_init_30 : e_lbl 64 = kX1_init_30 := rfl
set_option maxRecDepth 20000 in
theorem lX1_init_50 : e_lbl 65 = kX1_init_50 := rfl
set_option maxRecDepth 20000 in
theorem lX1_init_52 : e_lbl 66 = kX1_init_52 := rfl
set_option maxRecDepth 20000 in
theorem lX1_init_77 : e_lbl 67 = kX1_init_77 := rfl
set_option maxRecDepth 20000 in
theorem lX1_copyFrom_0 : e_lbl 68 = kX1_copyFrom_0 := rfl
set_option maxRecDepth 20000 in
theorem lX1_copyFrom_49 : e_lbl 69 = kX1_copyFrom_49 := rfl
set_option maxRecDepth 20000 in
theorem lX1_copyFrom_76 : e_lbl 70 = kX1_copyFrom_76 := rfl
set_option maxRecDepth 20000 in
theorem lX1_hour_0 : e_lbl 71 = kX1_hour_0 := rfl
set_option maxRecDepth 20000 in
theorem lX1_releaseLocks_0 : e_lbl 72 = kX1_releaseLocks_0 := rfl
set_option maxRecDepth 20000 in
theorem lX1_releaseLocks_2 : e_lbl 73 = kX1_releaseLocks_2 := rfl
set_option maxRecDepth 20000 in
theorem lX1_releaseLocks_28 : e_lbl 74 = kX1_releaseLocks_28 := rfl
set_option maxRecDepth 20000 in
theorem lX1_switchBanksByTime_0 : e_lbl 75 = kX1_switchBanksByTime_0 := rfl
set_option maxRecDepth 20000 in
theorem lX1_switchBanksByTime_7 : e_lbl 76 = kX1_switchBanksByTime_7 := rfl
set_option maxRecDepth 20000 in
theorem lX1_switchBanksByTime_41 : e_lbl 77 = kX1_switchBanksByTime_41 := rfl
set_option maxRecDepth 20000 in
theorem lX1_switchBanksByTime_47 : e_lbl 78 = kX1_switchBanksByTime_47 := rfl
set_option maxRecDepth 20000 in
theorem lX1_switchBankByFlow_0 : e_lbl 79 = kX1_switchBankByFlow_0 := rfl
set_option maxRecDepth 20000 in
theorem lX1_switchBankByFlow_4 : e_lbl 80 = kX1_switchBankByFlow_4 := rfl
set_option maxRecDepth 20000 in
theorem lX1_switchBankByFlow_61 : e_lbl 81 = kX1_switchBankByFlow_61 := rfl
set_option maxRecDepth 20000 in
theorem lX1_switchBankByFlow_67 : e_lbl 82 = kX1_switchBankByFlow_67 := rfl
set_option maxRecDepth 20000 in
theorem lX1_moveRegulators_0 : e_lbl 83 = kX1_moveRegulators_0 := rfl
set_option maxRecDepth 20000 in
theorem lX1_moveRegulators_5 : e_lbl 84 = kX1_moveRegulators_5 := rfl
set_option maxRecDepth 20000 in
theorem lX1_moveRegulators_81 : e_lbl 85 = kX1_moveRegulators_81 := rfl
set_option maxRecDepth 20000 in
theorem lX1_moveRegulators_87 : e_lbl 86 = kX1_moveRegulators_87 := rfl
set_option maxRecDepth 20000 in
theorem lX2_init_0 : e_lbl 87 = kX2_init_0 := rfl
set_option maxRecDepth 20000 in
theorem lX2_solve_0 : e_lbl 88 = kX2_solve_0 := rfl
set_option maxRecDepth 20000 in
theorem lX2_sumLoads_0 : e_lbl 89 = kX2_sumLoads_0 := rfl
set_option maxRecDepth 20000 in
theorem lX2_sumLoads_20 : e_lbl 90 = kX2_sumLoads_20 := rfl
set_option maxRecDepth 20000 in
theorem lX2_sumLoads_102 : e_lbl 91 = kX2_sumLoads_102 := rfl
set_option maxRecDepth 20000 in
theorem lX2_findVoltages_0 : e_lbl 92 = kX2_findVoltages_0 := rfl
set_option maxRecDepth 20000 in
theorem lX2_findVoltages_17 : e_lbl 93 = kX2_findVoltages_17 := rfl
set_option maxRecDepth 20000 in
theorem lX2_findVoltages_45 : e_lbl 94 = kX2_findVoltages_45 := rfl
set_option maxRecDepth 20000 in
theorem lX2_findVoltages_53 : e_lbl 95 = kX2_findVoltages_53 := rfl
set_option maxRecDepth 20000 in
theorem lX2_findVoltages_128 : e_lbl 96 = kX2_findVoltages_128 := rfl
set_option maxRecDepth 20000 in
theorem lX2_countBadNodes_0 : e_lbl 97 = kX2_countBadNodes_0 := rfl
set_option maxRecDepth 20000 in
theorem lX2_countBadNodes_4 : e_lbl 98 = kX2_countBadNodes_4 := rfl
set_option maxRecDepth 20000 in
theorem lX2_countBadNodes_36 : e_lbl 99 = kX2_countBadNodes_36 := rfl
set_option maxRecDepth 20000 in
theorem lX2_countBadNodes_42 : e_lbl 100 = kX2_countBadNodes_42 := rfl
set_option maxRecDepth 20000 in
theorem lX3_init_0 : e_lbl 101 = kX3_init_0 := rfl
set_option maxRecDepth 20000 in
theorem lX3_init_14 : e_lbl 102 = kX3_init_14 := rfl
set_option maxRecDepth 20000 in
theorem lX3_init_38 : e_lbl 103 = kX3_init_38 := rfl
set_option maxRecDepth 20000 in
theorem lX3_save_0 : e_lbl 104 = kX3_save_0 := rfl
set_option maxRecDepth 20000 in
theorem lX3_save_12 : e_lbl 105 = kX3_save_12 := rfl
set_option maxRecDepth 20000 in
theorem lX3_dropOldest_0 : e_lbl 106 = kX3_dropOldest_0 := rfl
set_option maxRecDepth 20000 in
theorem lX3_dropOldest_9 : e_lbl 107 = kX3_dropOldest_9 := rfl
set_option maxRecDepth 20000 in
theorem lX3_dropOldest_34 : e_lbl 108 = kX3_dropOldest_34 := rfl
set_option maxRecDepth 20000 in
theorem lX3_restore_0 : e_lbl 109 = kX3_restore_0 := rfl
set_option maxRecDepth 20000 in
theorem lX4_init_0 : e_lbl 110 = kX4_init_0 := rfl
set_option maxRecDepth 20000 in
theorem lX4_copyFrom_0 : e_lbl 111 = kX4_copyFrom_0 := rfl
set_option maxRecDepth 20000 in
theorem lX5_init_0 : e_lbl 112 = kX5_init_0 := rfl
set_option maxRecDepth 20000 in
theorem lX5_makePlan_0 : e_lbl 113 = kX5_makePlan_0 := rfl
set_option maxRecDepth 20000 in
theorem lX5_makePlan_2 : e_lbl 114 = kX5_makePlan_2 := rfl
set_option maxRecDepth 20000 in
theorem lX5_makePlan_21 : e_lbl 115 = kX5_makePlan_21 := rfl
set_option maxRecDepth 20000 in
theorem lX5_makePlan_24 : e_lbl 116 = kX5_makePlan_24 := rfl
set_option maxRecDepth 20000 in
theorem lX5_makePlan_46 : e_lbl 117 = kX5_makePlan_46 := rfl
set_option maxRecDepth 20000 in
theorem lX5_makePlan_83 : e_lbl 118 = kX5_makePlan_83 := rfl
set_option maxRecDepth 20000 in
theorem lX5_countStepsAfter_0 : e_lbl 119 = kX5_countStepsAfter_0 := rfl
set_option maxRecDepth 20000 in
theorem lX5_countStepsAfter_13 : e_lbl 120 = kX5_countStepsAfter_13 := rfl
set_option maxRecDepth 20000 in
theorem lX5_countStepsAfter_52 : e_lbl 121 = kX5_countStepsAfter_52 := rfl
set_option maxRecDepth 20000 in
theorem lX5_countStepsAfter_53 : e_lbl 122 = kX5_countStepsAfter_53 := rfl
set_option maxRecDepth 20000 in
theorem lX5_countStepsAfter_78 : e_lbl 123 = kX5_countStepsAfter_78 := rfl
set_option maxRecDepth 20000 in
theorem lX5_countStepsAfter_80 : e_lbl 124 = kX5_countStepsAfter_80 := rfl
set_option maxRecDepth 20000 in
theorem lX5_countStepsAfter_87 : e_lbl 125 = kX5_countStepsAfter_87 := rfl
set_option maxRecDepth 20000 in
theorem lX5_countStepsFrom_0 : e_lbl 126 = kX5_countStepsFrom_0 := rfl
set_option maxRecDepth 20000 in
theorem lX5_countStepsFrom_2 : e_lbl 127 = kX5_countStepsFrom_2 := rfl
set_option maxRecDepth 20000 in
theorem lX5_countStepsFrom_28 : e_lbl 128 = kX5_countStepsFrom_28 := rfl
set_option maxRecDepth 20000 in
theorem lX5_countStepsFrom_30 : e_lbl 129 = kX5_countStepsFrom_30 := rfl
set_option maxRecDepth 20000 in
theorem lX5_countStepsFrom_67 : e_lbl 130 = kX5_countStepsFrom_67 := rfl
set_option maxRecDepth 20000 in
theorem lX5_countStepsFrom_70 : e_lbl 131 = kX5_countStepsFrom_70 := rfl
set_option maxRecDepth 20000 in
theorem lX5_countStepsFrom_105 : e_lbl 132 = kX5_countStepsFrom_105 := rfl
set_option maxRecDepth 20000 in
theorem lX5_chooseTaps_0 : e_lbl 133 = kX5_chooseTaps_0 := rfl
set_option maxRecDepth 20000 in
theorem lX5_chooseTaps_4 : e_lbl 134 = kX5_chooseTaps_4 := rfl
set_option maxRecDepth 20000 in
theorem lX5_chooseTaps_20 : e_lbl 135 = kX5_chooseTaps_20 := rfl
set_option maxRecDepth 20000 in
theorem lX5_chooseTaps_61 : e_lbl 136 = kX5_chooseTaps_61 := rfl
set_option maxRecDepth 20000 in
theorem lX5_chooseTaps_67 : e_lbl 137 = kX5_chooseTaps_67 := rfl
set_option maxRecDepth 20000 in
theorem lX5_chooseTaps_87 : e_lbl 138 = kX5_chooseTaps_87 := rfl
set_option maxRecDepth 20000 in
theorem lX6_init_0 : e_lbl 139 = kX6_init_0 := rfl
set_option maxRecDepth 20000 in
theorem lX6_readItems_0 : e_lbl 140 = kX6_readItems_0 := rfl
set_option maxRecDepth 20000 in
theorem lX6_readItems_21 : e_lbl 141 = kX6_readItems_21 := rfl
set_option maxRecDepth 20000 in
theorem lX6_readItems_61 : e_lbl 142 = kX6_readItems_61 := rfl
set_option maxRecDepth 20000 in
theorem lX6_readItem_0 : e_lbl 143 = kX6_readItem_0 := rfl
set_option maxRecDepth 20000 in
theorem lX6_readItem_33 : e_lbl 144 = kX6_readItem_33 := rfl
set_option maxRecDepth 20000 in
theorem lX6_readItem_63 : e_lbl 145 = kX6_readItem_63 := rfl
set_option maxRecDepth 20000 in
theorem lX6_readItem_66 : e_lbl 146 = kX6_readItem_66 := rfl
set_option maxRecDepth 20000 in
theorem lX6_readItem_84 : e_lbl 147 = kX6_readItem_84 := rfl
set_option maxRecDepth 20000 in
theorem lX6_readNumber_0 : e_lbl 148 = kX6_readNumber_0 := rfl
set_option maxRecDepth 20000 in
theorem lX6_readNumber_9 : e_lbl 149 = kX6_readNumber_9 := rfl
set_option maxRecDepth 20000 in
theorem lX6_readNumber_21 : e_lbl 150 = kX6_readNumber_21 := rfl
set_option maxRecDepth 20000 in
theorem lX6_readNumber_71 : e_lbl 151 = kX6_readNumber_71 := rfl
set_option maxRecDepth 20000 in
theorem lX6_readNumber_104 : e_lbl 152 = kX6_readNumber_104 := rfl
set_option maxRecDepth 20000 in
theorem lX6_readNumber_122 : e_lbl 153 = kX6_readNumber_122 := rfl
set_option maxRecDepth 20000 in
theorem lX6_readNumber_129 : e_lbl 154 = kX6_readNumber_129 := rfl
set_option maxRecDepth 20000 in
theorem lX6_isNext_0 : e_lbl 155 = kX6_isNext_0 := rfl
set_option maxRecDepth 20000 in
theorem lX6_isNext_32 : e_lbl 156 = kX6_isNext_32 := rfl
set_option maxRecDepth 20000 in
theorem lX6_isNext_33 : e_lbl 157 = kX6_isNext_33 := rfl
set_option maxRecDepth 20000 in
theorem lX6_expect_0 : e_lbl 158 = kX6_expect_0 := rfl
set_option maxRecDepth 20000 in
theorem lX6_expect_8 : e_lbl 159 = kX6_expect_8 := rfl
set_option maxRecDepth 20000 in
theorem lX6_expect_29 : e_lbl 160 = kX6_expect_29 := rfl
set_option maxRecDepth 20000 in
theorem lX6_expect_37 : e_lbl 161 = kX6_expect_37 := rfl
set_option maxRecDepth 20000 in
theorem lX6_skipSpaces_0 : e_lbl 162 = kX6_skipSpaces_0 := rfl
set_option maxRecDepth 20000 in
theorem lX6_skipSpaces_38 : e_lbl 163 = kX6_skipSpaces_38 := rfl
set_option maxRecDepth 20000 in
theorem lX7_init_0 : e_lbl 164 = kX7_init_0 := rfl
set_option maxRecDepth 20000 in
theorem lX7_copyFrom_0 : e_lbl 165 = kX7_copyFrom_0 := rfl
set_option maxRecDepth 20000 in
theorem lX7_release_0 : e_lbl 166 = kX7_release_0 := rfl
set_option maxRecDepth 20000 in
theorem lX7_wantedDirection_0 : e_lbl 167 = kX7_wantedDirection_0 := rfl
set_option maxRecDepth 20000 in
theorem lX7_wantedDirection_18 : e_lbl 168 = kX7_wantedDirection_18 := rfl
set_option maxRecDepth 20000 in
theorem lX7_wantedDirection_20 : e_lbl 169 = kX7_wantedDirection_20 := rfl
set_option maxRecDepth 20000 in
theorem lX7_wantedDirection_44 : e_lbl 170 = kX7_wantedDirection_44 := rfl
set_option maxRecDepth 20000 in
theorem lX7_wantedDirection_70 : e_lbl 171 = kX7_wantedDirection_70 := rfl
set_option maxRecDepth 20000 in
theorem lX7_wantedDirection_71 : e_lbl 172 = kX7_wantedDirection_71 := rfl
set_option maxRecDepth 20000 in
theorem lX7_countMinute_0 : e_lbl 173 = kX7_countMinute_0 := rfl
set_option maxRecDepth 20000 in
theorem lX7_countMinute_12 : e_lbl 174 = kX7_countMinute_12 := rfl
set_option maxRecDepth 20000 in
theorem lX7_countMinute_29 : e_lbl 175 = kX7_countMinute_29 := rfl
set_option maxRecDepth 20000 in
theorem lX7_countMinute_39 : e_lbl 176 = kX7_countMinute_39 := rfl
set_option maxRecDepth 20000 in
theorem lX7_isDue_0 : e_lbl 177 = kX7_isDue_0 := rfl
set_option maxRecDepth 20000 in
theorem lX7_isDue_22 : e_lbl 178 = kX7_isDue_22 := rfl
set_option maxRecDepth 20000 in
theorem lX7_isDue_23 : e_lbl 179 = kX7_isDue_23 := rfl
set_option maxRecDepth 20000 in
theorem lX7_makeStep_0 : e_lbl 180 = kX7_makeStep_0 := rfl
set_option maxRecDepth 20000 in
theorem lX7_makeStep_35 : e_lbl 181 = kX7_makeStep_35 := rfl
set_option maxRecDepth 20000 in
theorem lX7_makeStep_36 : e_lbl 182 = kX7_makeStep_36 := rfl
set_option maxRecDepth 20000 in
theorem lX7_makeStep_39 : e_lbl 183 = kX7_makeStep_39 := rfl
set_option maxRecDepth 20000 in
theorem lX8_init_0 : e_lbl 184 = kX8_init_0 := rfl
set_option maxRecDepth 20000 in
theorem lX8_setSource_0 : e_lbl 185 = kX8_setSource_0 := rfl
set_option maxRecDepth 20000 in
theorem lX8_setSource_20 : e_lbl 186 = kX8_setSource_20 := rfl
set_option maxRecDepth 20000 in
theorem lX8_addNode_0 : e_lbl 187 = kX8_addNode_0 := rfl
set_option maxRecDepth 20000 in
theorem lX8_addNode_29 : e_lbl 188 = kX8_addNode_29 := rfl
set_option maxRecDepth 20000 in
theorem lX8_addNode_36 : e_lbl 189 = kX8_addNode_36 := rfl
set_option maxRecDepth 20000 in
theorem lX8_addNode_55 : e_lbl 190 = kX8_addNode_55 := rfl
set_option maxRecDepth 20000 in
theorem lX8_setLoad_0 : e_lbl 191 = kX8_setLoad_0 := rfl
set_option maxRecDepth 20000 in
theorem lX8_setLoad_16 : e_lbl 192 = kX8_setLoad_16 := rfl
set_option maxRecDepth 20000 in
theorem lX8_setLoad_23 : e_lbl 193 = kX8_setLoad_23 := rfl
set_option maxRecDepth 20000 in
theorem lX8_setFactor_0 : e_lbl 194 = kX8_setFactor_0 := rfl
set_option maxRecDepth 20000 in
theorem lX8_setFactor_18 : e_lbl 195 = kX8_setFactor_18 := rfl
set_option maxRecDepth 20000 in
theorem lX8_setFactor_25 : e_lbl 196 = kX8_setFactor_25 := rfl
set_option maxRecDepth 20000 in
theorem lX8_append_0 : e_lbl 197 = kX8_append_0 := rfl
set_option maxRecDepth 20000 in
theorem lX8_append_17 : e_lbl 198 = kX8_append_17 := rfl
set_option maxRecDepth 20000 in
theorem lX8_append_36 : e_lbl 199 = kX8_append_36 := rfl
set_option maxRecDepth 20000 in
theorem lX8_clearText_0 : e_lbl 200 = kX8_clearText_0 := rfl
set_option maxRecDepth 20000 in
theorem lX8_parseProfile_0 : e_lbl 201 = kX8_parseProfile_0 := rfl
set_option maxRecDepth 20000 in
theorem lX8_parseProfile_51 : e_lbl 202 = kX8_parseProfile_51 := rfl
set_option maxRecDepth 20000 in
theorem lX8_addRegulator_0 : e_lbl 203 = kX8_addRegulator_0 := rfl
set_option maxRecDepth 20000 in
theorem lX8_addRegulator_54 : e_lbl 204 = kX8_addRegulator_54 := rfl
set_option maxRecDepth 20000 in
theorem lX8_addRegulator_61 : e_lbl 205 = kX8_addRegulator_61 := rfl
set_option maxRecDepth 20000 in
theorem lX8_addRegulator_90 : e_lbl 206 = kX8_addRegulator_90 := rfl
set_option maxRecDepth 20000 in
theorem lX8_addRegulator_138 : e_lbl 207 = kX8_addRegulator_138 := rfl
set_option maxRecDepth 20000 in
theorem lX8_addRegulator_139 : e_lbl 208 = kX8_addRegulator_139 := rfl
set_option maxRecDepth 20000 in
theorem lX8_setTap_0 : e_lbl 209 = kX8_setTap_0 := rfl
set_option maxRecDepth 20000 in
theorem lX8_setTap_18 : e_lbl 210 = kX8_setTap_18 := rfl
set_option maxRecDepth 20000 in
theorem lX8_setTap_34 : e_lbl 211 = kX8_setTap_34 := rfl
set_option maxRecDepth 20000 in
theorem lX8_addBank_0 : e_lbl 212 = kX8_addBank_0 := rfl
set_option maxRecDepth 20000 in
theorem lX8_addBank_41 : e_lbl 213 = kX8_addBank_41 := rfl
set_option maxRecDepth 20000 in
theorem lX8_addBank_48 : e_lbl 214 = kX8_addBank_48 := rfl
set_option maxRecDepth 20000 in
theorem lX8_addBank_77 : e_lbl 215 = kX8_addBank_77 := rfl
set_option maxRecDepth 20000 in
theorem lX8_switchBank_0 : e_lbl 216 = kX8_switchBank_0 := rfl
set_option maxRecDepth 20000 in
theorem lX8_switchBank_16 : e_lbl 217 = kX8_switchBank_16 := rfl
set_option maxRecDepth 20000 in
theorem lX8_switchBank_32 : e_lbl 218 = kX8_switchBank_32 := rfl
set_option maxRecDepth 20000 in
theorem lX8_switchBank_78 : e_lbl 219 = kX8_switchBank_78 := rfl
set_option maxRecDepth 20000 in
theorem lX8_switchBank_79 : e_lbl 220 = kX8_switchBank_79 := rfl
set_option maxRecDepth 20000 in
theorem lX8_run_0 : e_lbl 221 = kX8_run_0 := rfl
set_option maxRecDepth 20000 in
theorem lX8_run_18 : e_lbl 222 = kX8_run_18 := rfl
set_option maxRecDepth 20000 in
theorem lX8_run_33 : e_lbl 223 = kX8_run_33 := rfl
set_option maxRecDepth 20000 in
theorem lX8_run_48 : e_lbl 224 = kX8_run_48 := rfl
set_option maxRecDepth 20000 in
theorem lX8_run_54 : e_lbl 225 = kX8_run_54 := rfl
set_option maxRecDepth 20000 in
theorem lX8_minute_0 : e_lbl 226 = kX8_minute_0 := rfl
set_option maxRecDepth 20000 in
theorem lX8_passMinute_0 : e_lbl 227 = kX8_passMinute_0 := rfl
set_option maxRecDepth 20000 in
theorem lX8_passMinute_33 : e_lbl 228 = kX8_passMinute_33 := rfl
set_option maxRecDepth 20000 in
theorem lX8_passMinute_79 : e_lbl 229 = kX8_passMinute_79 := rfl
set_option maxRecDepth 20000 in
theorem lX8_passMinute_80 : e_lbl 230 = kX8_passMinute_80 := rfl
set_option maxRecDepth 20000 in
theorem lX8_passMinute_92 : e_lbl 231 = kX8_passMinute_92 := rfl
set_option maxRecDepth 20000 in
theorem lX8_passMinute_103 : e_lbl 232 = kX8_passMinute_103 := rfl
set_option maxRecDepth 20000 in
theorem lX8_passMinute_137 : e_lbl 233 = kX8_passMinute_137 := rfl
set_option maxRecDepth 20000 in
theorem lX8_passMinute_141 : e_lbl 234 = kX8_passMinute_141 := rfl
set_option maxRecDepth 20000 in
theorem lX8_passMinute_142 : e_lbl 235 = kX8_passMinute_142 := rfl
set_option maxRecDepth 20000 in
theorem lX8_voltage_0 : e_lbl 236 = kX8_voltage_0 := rfl
set_option maxRecDepth 20000 in
theorem lX8_voltage_22 : e_lbl 237 = kX8_voltage_22 := rfl
set_option maxRecDepth 20000 in
theorem lX8_activeFlow_0 : e_lbl 238 = kX8_activeFlow_0 := rfl
set_option maxRecDepth 20000 in
theorem lX8_activeFlow_15 : e_lbl 239 = kX8_activeFlow_15 := rfl
set_option maxRecDepth 20000 in
theorem lX8_reactiveFlow_0 : e_lbl 240 = kX8_reactiveFlow_0 := rfl
set_option maxRecDepth 20000 in
theorem lX8_reactiveFlow_15 : e_lbl 241 = kX8_reactiveFlow_15 := rfl
set_option maxRecDepth 20000 in
theorem lX8_tap_0 : e_lbl 242 = kX8_tap_0 := rfl
set_option maxRecDepth 20000 in
theorem lX8_tap_18 : e_lbl 243 = kX8_tap_18 := rfl
set_option maxRecDepth 20000 in
theorem lX8_tap_36 : e_lbl 244 = kX8_tap_36 := rfl
set_option maxRecDepth 20000 in
theorem lX8_timer_0 : e_lbl 245 = kX8_timer_0 := rfl
set_option maxRecDepth 20000 in
theorem lX8_timer_18 : e_lbl 246 = kX8_timer_18 := rfl
set_option maxRecDepth 20000 in
theorem lX8_timer_33 : e_lbl 247 = kX8_timer_33 := rfl
set_option maxRecDepth 20000 in
theorem lX8_isLocked_0 : e_lbl 248 = kX8_isLocked_0 := rfl
set_option maxRecDepth 20000 in
theorem lX8_isLocked_18 : e_lbl 249 = kX8_isLocked_18 := rfl
set_option maxRecDepth 20000 in
theorem lX8_isLocked_36 : e_lbl 250 = kX8_isLocked_36 := rfl
set_option maxRecDepth 20000 in
theorem lX8_steps_0 : e_lbl 251 = kX8_steps_0 := rfl
set_option maxRecDepth 20000 in
theorem lX8_steps_18 : e_lbl 252 = kX8_steps_18 := rfl
set_option maxRecDepth 20000 in
theorem lX8_steps_33 : e_lbl 253 = kX8_steps_33 := rfl
set_option maxRecDepth 20000 in
theorem lX8_isOn_0 : e_lbl 254 = kX8_isOn_0 := rfl
set_option maxRecDepth 20000 in
theorem lX8_isOn_18 : e_lbl 255 = kX8_isOn_18 := rfl
set_option maxRecDepth 20000 in
theorem lX8_isOn_36 : e_lbl 256 = kX8_isOn_36 := rfl
set_option maxRecDepth 20000 in
theorem lX8_violations_0 : e_lbl 257 = kX8_violations_0 := rfl
set_option maxRecDepth 20000 in
theorem lX8_planSteps_0 : e_lbl 258 = kX8_planSteps_0 := rfl
set_option maxRecDepth 20000 in
theorem lX8_planSteps_16 : e_lbl 259 = kX8_planSteps_16 := rfl
set_option maxRecDepth 20000 in
theorem lX8_planSteps_41 : e_lbl 260 = kX8_planSteps_41 := rfl
set_option maxRecDepth 20000 in
theorem lX8_planSteps_47 : e_lbl 261 = kX8_planSteps_47 := rfl
set_option maxRecDepth 20000 in
theorem lX8_planTap_0 : e_lbl 262 = kX8_planTap_0 := rfl
set_option maxRecDepth 20000 in
theorem lX8_planTap_14 : e_lbl 263 = kX8_planTap_14 := rfl
set_option maxRecDepth 20000 in
theorem lX8_planTap_30 : e_lbl 264 = kX8_planTap_30 := rfl
set_option maxRecDepth 20000 in
theorem lX8_planTap_60 : e_lbl 265 = kX8_planTap_60 := rfl
set_option maxRecDepth 20000 in
theorem lX8_planTap_66 : e_lbl 266 = kX8_planTap_66 := rfl
set_option maxRecDepth 20000 in
theorem lX8_undo_0 : e_lbl 267 = kX8_undo_0 := rfl
set_option maxRecDepth 20000 in
theorem lX8_undo_17 : e_lbl 268 = kX8_undo_17 := rfl
set_option maxRecDepth 20000 in
theorem lX8_errorCount_0 : e_lbl 269 = kX8_errorCount_0 := rfl
set_option maxRecDepth 20000 in
theorem lX8_errorCount_19 : e_lbl 270 = kX8_errorCount_19 := rfl
set_option maxRecDepth 20000 in
theorem lX8_errorCount_25 : e_lbl 271 = kX8_errorCount_25 := rfl
set_option maxRecDepth 20000 in
theorem lX8_digest_0 : e_lbl 272 = kX8_digest_0 := rfl
set_option maxRecDepth 20000 in
theorem lX8_digest_17 : e_lbl 273 = kX8_digest_17 := rfl
set_option maxRecDepth 20000 in
theorem lX8_digest_39 : e_lbl 274 = kX8_digest_39 := rfl
set_option maxRecDepth 20000 in
theorem lX8_digest_77 : e_lbl 275 = kX8_digest_77 := rfl
set_option maxRecDepth 20000 in
theorem lX8_digest_103 : e_lbl 276 = kX8_digest_103 := rfl
set_option maxRecDepth 20000 in
theorem lX8_digest_117 : e_lbl 277 = kX8_digest_117 := rfl
set_option maxRecDepth 20000 in
theorem lX8_digest_210 : e_lbl 278 = kX8_digest_210 := rfl
set_option maxRecDepth 20000 in
theorem lX8_mixRegulator_0 : e_lbl 279 = kX8_mixRegulator_0 := rfl
set_option maxRecDepth 20000 in
theorem lX8_mixRegulator_21 : e_lbl 280 = kX8_mixRegulator_21 := rfl
set_option maxRecDepth 20000 in
theorem lX8_mixBank_0 : e_lbl 281 = kX8_mixBank_0 := rfl
set_option maxRecDepth 20000 in
theorem lX8_mixBank_21 : e_lbl 282 = kX8_mixBank_21 := rfl
set_option maxRecDepth 20000 in
theorem lX8_mix_0 : e_lbl 283 = kX8_mix_0 := rfl
set_option maxRecDepth 20000 in
theorem lX8_isWithin_0 : e_lbl 284 = kX8_isWithin_0 := rfl
set_option maxRecDepth 20000 in
theorem lX8_isWithin_14 : e_lbl 285 = kX8_isWithin_14 := rfl
set_option maxRecDepth 20000 in
theorem lX8_isWithin_15 : e_lbl 286 = kX8_isWithin_15 := rfl
set_option maxRecDepth 20000 in
theorem lX8_isHour_0 : e_lbl 287 = kX8_isHour_0 := rfl
set_option maxRecDepth 20000 in
theorem lX8_isLoad_0 : e_lbl 288 = kX8_isLoad_0 := rfl
set_option maxRecDepth 20000 in
theorem lX8_isLoad_30 : e_lbl 289 = kX8_isLoad_30 := rfl
set_option maxRecDepth 20000 in
theorem lX8_isLoad_31 : e_lbl 290 = kX8_isLoad_31 := rfl
set_option maxRecDepth 20000 in
theorem lX8_areBankSettings_0 : e_lbl 291 = kX8_areBankSettings_0 := rfl
set_option maxRecDepth 20000 in
theorem lX8_areBankSettings_23 : e_lbl 292 = kX8_areBankSettings_23 := rfl
set_option maxRecDepth 20000 in
theorem lX8_areBankSettings_24 : e_lbl 293 = kX8_areBankSettings_24 := rfl
set_option maxRecDepth 20000 in
theorem lX8_areBankSettings_25 : e_lbl 294 = kX8_areBankSettings_25 := rfl
set_option maxRecDepth 20000 in
theorem lX8_areBankSettings_65 : e_lbl 295 = kX8_areBankSettings_65 := rfl
set_option maxRecDepth 20000 in
theorem lX8_areBankSettings_66 : e_lbl 296 = kX8_areBankSettings_66 := rfl
set_option maxRecDepth 20000 in
theorem lX8_areBankSettings_67 : e_lbl 297 = kX8_areBankSettings_67 := rfl
set_option maxRecDepth 20000 in
theorem lX8_areBankSettings_75 : e_lbl 298 = kX8_areBankSettings_75 := rfl
set_option maxRecDepth 20000 in
theorem lX8_areBankSettings_76 : e_lbl 299 = kX8_areBankSettings_76 := rfl
set_option maxRecDepth 20000 in
theorem lX8_bit_0 : e_lbl 300 = kX8_bit_0 := rfl
set_option maxRecDepth 20000 in
theorem lX8_bit_8 : e_lbl 301 = kX8_bit_8 := rfl
set_option maxRecDepth 20000 in
theorem lX8_bit_9 : e_lbl 302 = kX8_bit_9 := rfl
set_option maxRecDepth 20000 in
theorem lX8_hasNode_0 : e_lbl 303 = kX8_hasNode_0 := rfl
set_option maxRecDepth 20000 in
theorem lX8_regulatorFault_0 : e_lbl 304 = kX8_regulatorFault_0 := rfl
set_option maxRecDepth 20000 in
theorem lX8_regulatorFault_11 : e_lbl 305 = kX8_regulatorFault_11 := rfl
set_option maxRecDepth 20000 in
theorem lX8_regulatorFault_33 : e_lbl 306 = kX8_regulatorFault_33 := rfl
set_option maxRecDepth 20000 in
theorem lX8_regulatorFault_35 : e_lbl 307 = kX8_regulatorFault_35 := rfl
set_option maxRecDepth 20000 in
theorem lX8_bankFault_0 : e_lbl 308 = kX8_bankFault_0 := rfl
set_option maxRecDepth 20000 in
theorem lX8_bankFault_11 : e_lbl 309 = kX8_bankFault_11 := rfl
set_option maxRecDepth 20000 in
theorem lX8_bankFault_33 : e_lbl 310 = kX8_bankFault_33 := rfl
set_option maxRecDepth 20000 in
theorem lX8_bankFault_35 : e_lbl 311 = kX8_bankFault_35 := rfl
set_option maxRecDepth 20000 in
theorem lX8_isErrorCode_0 : e_lbl 312 = kX8_isErrorCode_0 := rfl
set_option maxRecDepth 20000 in
theorem lX8_refuse_0 : e_lbl 313 = kX8_refuse_0 := rfl
set_option maxRecDepth 20000 in
theorem lX8_refuse_20 : e_lbl 314 = kX8_refuse_20 := rfl
set_option maxRecDepth 20000 in
theorem lX9_init_0 : e_lbl 315 = kX9_init_0 := rfl
set_option maxRecDepth 20000 in
theorem lX9_init_90 : e_lbl 316 = kX9_init_90 := rfl
set_option maxRecDepth 20000 in
theorem lX9_init_112 : e_lbl 317 = kX9_init_112 := rfl
set_option maxRecDepth 20000 in
theorem lX9_in_0 : e_lbl 318 = kX9_in_0 := rfl
set_option maxRecDepth 20000 in
theorem lX9_in_14 : e_lbl 319 = kX9_in_14 := rfl
set_option maxRecDepth 20000 in
theorem lX9_in_15 : e_lbl 320 = kX9_in_15 := rfl
set_option maxRecDepth 20000 in
theorem lX9_error_0 : e_lbl 321 = kX9_error_0 := rfl
set_option maxRecDepth 20000 in
theorem lX9_isNode_0 : e_lbl 322 = kX9_isNode_0 := rfl
set_option maxRecDepth 20000 in
theorem lX9_spot_0 : e_lbl 323 = kX9_spot_0 := rfl
set_option maxRecDepth 20000 in
theorem lX9_of_0 : e_lbl 324 = kX9_of_0 := rfl
set_option maxRecDepth 20000 in
theorem lX9_put_0 : e_lbl 325 = kX9_put_0 := rfl
set_option maxRecDepth 20000 in
theorem lX9_save_0 : e_lbl 326 = kX9_save_0 := rfl
set_option maxRecDepth 20000 in
theorem lX9_save_10 : e_lbl 327 = kX9_save_10 := rfl
set_option maxRecDepth 20000 in
theorem lX9_save_39 : e_lbl 328 = kX9_save_39 := rfl
set_option maxRecDepth 20000 in
theorem lX9_save_49 : e_lbl 329 = kX9_save_49 := rfl
set_option maxRecDepth 20000 in
theorem lX9_save_51 : e_lbl 330 = kX9_save_51 := rfl
set_option maxRecDepth 20000 in
theorem lX9_save_85 : e_lbl 331 = kX9_save_85 := rfl
set_option maxRecDepth 20000 in
theorem lX9_setSource_0 : e_lbl 332 = kX9_setSource_0 := rfl
set_option maxRecDepth 20000 in
theorem lX9_setSource_20 : e_lbl 333 = kX9_setSource_20 := rfl
set_option maxRecDepth 20000 in
theorem lX9_isLoad_0 : e_lbl 334 = kX9_isLoad_0 := rfl
set_option maxRecDepth 20000 in
theorem lX9_isLoad_30 : e_lbl 335 = kX9_isLoad_30 := rfl
set_option maxRecDepth 20000 in
theorem lX9_isLoad_31 : e_lbl 336 = kX9_isLoad_31 := rfl
set_option maxRecDepth 20000 in
theorem lX9_addNode_0 : e_lbl 337 = kX9_addNode_0 := rfl
set_option maxRecDepth 20000 in
theorem lX9_addNode_29 : e_lbl 338 = kX9_addNode_29 := rfl
set_option maxRecDepth 20000 in
theorem lX9_addNode_36 : e_lbl 339 = kX9_addNode_36 := rfl
set_option maxRecDepth 20000 in
theorem lX9_addNode_54 : e_lbl 340 = kX9_addNode_54 := rfl
set_option maxRecDepth 20000 in
theorem lX9_addNode_79 : e_lbl 341 = kX9_addNode_79 := rfl
set_option maxRecDepth 20000 in
theorem lX9_addNode_101 : e_lbl 342 = kX9_addNode_101 := rfl
set_option maxRecDepth 20000 in
theorem lX9_setLoad_0 : e_lbl 343 = kX9_setLoad_0 := rfl
set_option maxRecDepth 20000 in
theorem lX9_setLoad_16 : e_lbl 344 = kX9_setLoad_16 := rfl
set_option maxRecDepth 20000 in
theorem lX9_setLoad_23 : e_lbl 345 = kX9_setLoad_23 := rfl
set_option maxRecDepth 20000 in
theorem lX9_setFactor_0 : e_lbl 346 = kX9_setFactor_0 := rfl
set_option maxRecDepth 20000 in
theorem lX9_setFactor_21 : e_lbl 347 = kX9_setFactor_21 := rfl
set_option maxRecDepth 20000 in
theorem lX9_setFactor_28 : e_lbl 348 = kX9_setFactor_28 := rfl
set_option maxRecDepth 20000 in
theorem lX9_append_0 : e_lbl 349 = kX9_append_0 := rfl
set_option maxRecDepth 20000 in
theorem lX9_append_17 : e_lbl 350 = kX9_append_17 := rfl
set_option maxRecDepth 20000 in
theorem lX9_append_33 : e_lbl 351 = kX9_append_33 := rfl
set_option maxRecDepth 20000 in
theorem lX9_clearText_0 : e_lbl 352 = kX9_clearText_0 := rfl
set_option maxRecDepth 20000 in
theorem lX9_next_0 : e_lbl 353 = kX9_next_0 := rfl
set_option maxRecDepth 20000 in
theorem lX9_next_38 : e_lbl 354 = kX9_next_38 := rfl
set_option maxRecDepth 20000 in
theorem lX9_next_61 : e_lbl 355 = kX9_next_61 := rfl
set_option maxRecDepth 20000 in
theorem lX9_next_62 : e_lbl 356 = kX9_next_62 := rfl
set_option maxRecDepth 20000 in
theorem lX9_takes_0 : e_lbl 357 = kX9_takes_0 := rfl
set_option maxRecDepth 20000 in
theorem lX9_takes_12 : e_lbl 358 = kX9_takes_12 := rfl
set_option maxRecDepth 20000 in
theorem lX9_takes_13 : e_lbl 359 = kX9_takes_13 := rfl
set_option maxRecDepth 20000 in
theorem lX9_takes_27 : e_lbl 360 = kX9_takes_27 := rfl
set_option maxRecDepth 20000 in
theorem lX9_takes_28 : e_lbl 361 = kX9_takes_28 := rfl
set_option maxRecDepth 20000 in
theorem lX9_number_0 : e_lbl 362 = kX9_number_0 := rfl
set_option maxRecDepth 20000 in
theorem lX9_number_13 : e_lbl 363 = kX9_number_13 := rfl
set_option maxRecDepth 20000 in
theorem lX9_number_86 : e_lbl 364 = kX9_number_86 := rfl
set_option maxRecDepth 20000 in
theorem lX9_number_130 : e_lbl 365 = kX9_number_130 := rfl
set_option maxRecDepth 20000 in
theorem lX9_number_131 : e_lbl 366 = kX9_number_131 := rfl
set_option maxRecDepth 20000 in
theorem lX9_number_146 : e_lbl 367 = kX9_number_146 := rfl
set_option maxRecDepth 20000 in
theorem lX9_number_148 : e_lbl 368 = kX9_number_148 := rfl
set_option maxRecDepth 20000 in
theorem lX9_number_165 : e_lbl 369 = kX9_number_165 := rfl
set_option maxRecDepth 20000 in
theorem lX9_readsItem_0 : e_lbl 370 = kX9_readsItem_0 := rfl
set_option maxRecDepth 20000 in
theorem lX9_readsItem_14 : e_lbl 371 = kX9_readsItem_14 := rfl
set_option maxRecDepth 20000 in
theorem lX9_readsItem_39 : e_lbl 372 = kX9_readsItem_39 := rfl
set_option maxRecDepth 20000 in
theorem lX9_readsItem_50 : e_lbl 373 = kX9_readsItem_50 := rfl
set_option maxRecDepth 20000 in
theorem lX9_readsItem_72 : e_lbl 374 = kX9_readsItem_72 := rfl
set_option maxRecDepth 20000 in
theorem lX9_readsItem_74 : e_lbl 375 = kX9_readsItem_74 := rfl
set_option maxRecDepth 20000 in
theorem lX9_readsItem_77 : e_lbl 376 = kX9_readsItem_77 := rfl
set_option maxRecDepth 20000 in
theorem lX9_readsItem_97 : e_lbl 377 = kX9_readsItem_97 := rfl
set_option maxRecDepth 20000 in
theorem lX9_parseProfile_0 : e_lbl 378 = kX9_parseProfile_0 := rfl
set_option maxRecDepth 20000 in
theorem lX9_parseProfile_2 : e_lbl 379 = kX9_parseProfile_2 := rfl
set_option maxRecDepth 20000 in
theorem lX9_parseProfile_28 : e_lbl 380 = kX9_parseProfile_28 := rfl
set_option maxRecDepth 20000 in
theorem lX9_parseProfile_35 : e_lbl 381 = kX9_parseProfile_35 := rfl
set_option maxRecDepth 20000 in
theorem lX9_parseProfile_57 : e_lbl 382 = kX9_parseProfile_57 := rfl
set_option maxRecDepth 20000 in
theorem lX9_parseProfile_63 : e_lbl 383 = kX9_parseProfile_63 := rfl
set_option maxRecDepth 20000 in
theorem lX9_parseProfile_69 : e_lbl 384 = kX9_parseProfile_69 := rfl
set_option maxRecDepth 20000 in
theorem lX9_parseProfile_95 : e_lbl 385 = kX9_parseProfile_95 := rfl
set_option maxRecDepth 20000 in
theorem lX9_addRegulator_0 : e_lbl 386 = kX9_addRegulator_0 := rfl
set_option maxRecDepth 20000 in
theorem lX9_addRegulator_54 : e_lbl 387 = kX9_addRegulator_54 := rfl
set_option maxRecDepth 20000 in
theorem lX9_addRegulator_61 : e_lbl 388 = kX9_addRegulator_61 := rfl
set_option maxRecDepth 20000 in
theorem lX9_addRegulator_78 : e_lbl 389 = kX9_addRegulator_78 := rfl
set_option maxRecDepth 20000 in
theorem lX9_lacks_0 : e_lbl 390 = kX9_lacks_0 := rfl
set_option maxRecDepth 20000 in
theorem lX9_lacks_13 : e_lbl 391 = kX9_lacks_13 := rfl
set_option maxRecDepth 20000 in
theorem lX9_lacks_27 : e_lbl 392 = kX9_lacks_27 := rfl
set_option maxRecDepth 20000 in
theorem lX9_lacks_28 : e_lbl 393 = kX9_lacks_28 := rfl
set_option maxRecDepth 20000 in
theorem lX9_setTap_0 : e_lbl 394 = kX9_setTap_0 := rfl
set_option maxRecDepth 20000 in
theorem lX9_setTap_20 : e_lbl 395 = kX9_setTap_20 := rfl
set_option maxRecDepth 20000 in
theorem lX9_setTap_22 : e_lbl 396 = kX9_setTap_22 := rfl
set_option maxRecDepth 20000 in
theorem lX9_setTap_33 : e_lbl 397 = kX9_setTap_33 := rfl
set_option maxRecDepth 20000 in
theorem lX9_addBank_0 : e_lbl 398 = kX9_addBank_0 := rfl
set_option maxRecDepth 20000 in
theorem lX9_addBank_27 : e_lbl 399 = kX9_addBank_27 := rfl
set_option maxRecDepth 20000 in
theorem lX9_addBank_31 : e_lbl 400 = kX9_addBank_31 := rfl
set_option maxRecDepth 20000 in
theorem lX9_addBank_32 : e_lbl 401 = kX9_addBank_32 := rfl
set_option maxRecDepth 20000 in
theorem lX9_addBank_74 : e_lbl 402 = kX9_addBank_74 := rfl
set_option maxRecDepth 20000 in
theorem lX9_addBank_78 : e_lbl 403 = kX9_addBank_78 := rfl
set_option maxRecDepth 20000 in
theorem lX9_addBank_79 : e_lbl 404 = kX9_addBank_79 := rfl
set_option maxRecDepth 20000 in
theorem lX9_addBank_130 : e_lbl 405 = kX9_addBank_130 := rfl
set_option maxRecDepth 20000 in
theorem lX9_addBank_137 : e_lbl 406 = kX9_addBank_137 := rfl
set_option maxRecDepth 20000 in
theorem lX9_addBank_155 : e_lbl 407 = kX9_addBank_155 := rfl
set_option maxRecDepth 20000 in
theorem lX9_switchBank_0 : e_lbl 408 = kX9_switchBank_0 := rfl
set_option maxRecDepth 20000 in
theorem lX9_switchBank_19 : e_lbl 409 = kX9_switchBank_19 := rfl
set_option maxRecDepth 20000 in
theorem lX9_switchBank_21 : e_lbl 410 = kX9_switchBank_21 := rfl
set_option maxRecDepth 20000 in
theorem lX9_switchBank_32 : e_lbl 411 = kX9_switchBank_32 := rfl
set_option maxRecDepth 20000 in
theorem lX9_hour_0 : e_lbl 412 = kX9_hour_0 := rfl
set_option maxRecDepth 20000 in
theorem lX9_isTime_0 : e_lbl 413 = kX9_isTime_0 := rfl
set_option maxRecDepth 20000 in
theorem lX9_isTime_38 : e_lbl 414 = kX9_isTime_38 := rfl
set_option maxRecDepth 20000 in
theorem lX9_isTime_42 : e_lbl 415 = kX9_isTime_42 := rfl
set_option maxRecDepth 20000 in
theorem lX9_isTime_53 : e_lbl 416 = kX9_isTime_53 := rfl
set_option maxRecDepth 20000 in
theorem lX9_isTime_57 : e_lbl 417 = kX9_isTime_57 := rfl
set_option maxRecDepth 20000 in
theorem lX9_isTime_58 : e_lbl 418 = kX9_isTime_58 := rfl
set_option maxRecDepth 20000 in
theorem lX9_compute_0 : e_lbl 419 = kX9_compute_0 := rfl
set_option maxRecDepth 20000 in
theorem lX9_compute_14 : e_lbl 420 = kX9_compute_14 := rfl
set_option maxRecDepth 20000 in
theorem lX9_compute_93 : e_lbl 421 = kX9_compute_93 := rfl
set_option maxRecDepth 20000 in
theorem lX9_compute_109 : e_lbl 422 = kX9_compute_109 := rfl
set_option maxRecDepth 20000 in
theorem lX9_compute_110 : e_lbl 423 = kX9_compute_110 := rfl
set_option maxRecDepth 20000 in
theorem lX9_compute_142 : e_lbl 424 = kX9_compute_142 := rfl
set_option maxRecDepth 20000 in
theorem lX9_compute_143 : e_lbl 425 = kX9_compute_143 := rfl
set_option maxRecDepth 20000 in
theorem lX9_compute_170 : e_lbl 426 = kX9_compute_170 := rfl
set_option maxRecDepth 20000 in
theorem lX9_compute_185 : e_lbl 427 = kX9_compute_185 := rfl
set_option maxRecDepth 20000 in
theorem lX9_compute_207 : e_lbl 428 = kX9_compute_207 := rfl
set_option maxRecDepth 20000 in
theorem lX9_compute_215 : e_lbl 429 = kX9_compute_215 := rfl
set_option maxRecDepth 20000 in
theorem lX9_compute_251 : e_lbl 430 = kX9_compute_251 := rfl
set_option maxRecDepth 20000 in
theorem lX9_compute_260 : e_lbl 431 = kX9_compute_260 := rfl
set_option maxRecDepth 20000 in
theorem lX9_compute_316 : e_lbl 432 = kX9_compute_316 := rfl
set_option maxRecDepth 20000 in
theorem lX9_compute_318 : e_lbl 433 = kX9_compute_318 := rfl
set_option maxRecDepth 20000 in
theorem lX9_compute_325 : e_lbl 434 = kX9_compute_325 := rfl
set_option maxRecDepth 20000 in
theorem lX9_outside_0 : e_lbl 435 = kX9_outside_0 := rfl
set_option maxRecDepth 20000 in
theorem lX9_outside_4 : e_lbl 436 = kX9_outside_4 := rfl
set_option maxRecDepth 20000 in
theorem lX9_outside_37 : e_lbl 437 = kX9_outside_37 := rfl
set_option maxRecDepth 20000 in
theorem lX9_outside_38 : e_lbl 438 = kX9_outside_38 := rfl
set_option maxRecDepth 20000 in
theorem lX9_outside_46 : e_lbl 439 = kX9_outside_46 := rfl
set_option maxRecDepth 20000 in
theorem lX9_computeNow_0 : e_lbl 440 = kX9_computeNow_0 := rfl
set_option maxRecDepth 20000 in
theorem lX9_unlocks_0 : e_lbl 441 = kX9_unlocks_0 := rfl
set_option maxRecDepth 20000 in
theorem lX9_unlocks_2 : e_lbl 442 = kX9_unlocks_2 := rfl
set_option maxRecDepth 20000 in
theorem lX9_unlocks_34 : e_lbl 443 = kX9_unlocks_34 := rfl
set_option maxRecDepth 20000 in
theorem lX9_switches_0 : e_lbl 444 = kX9_switches_0 := rfl
set_option maxRecDepth 20000 in
theorem lX9_switches_4 : e_lbl 445 = kX9_switches_4 := rfl
set_option maxRecDepth 20000 in
theorem lX9_switches_66 : e_lbl 446 = kX9_switches_66 := rfl
set_option maxRecDepth 20000 in
theorem lX9_switches_70 : e_lbl 447 = kX9_switches_70 := rfl
set_option maxRecDepth 20000 in
theorem lX9_switches_90 : e_lbl 448 = kX9_switches_90 := rfl
set_option maxRecDepth 20000 in
theorem lX9_switches_91 : e_lbl 449 = kX9_switches_91 := rfl
set_option maxRecDepth 20000 in
theorem lX9_switches_112 : e_lbl 450 = kX9_switches_112 := rfl
set_option maxRecDepth 20000 in
theorem lX9_switches_113 : e_lbl 451 = kX9_switches_113 := rfl
set_option maxRecDepth 20000 in
theorem lX9_switches_167 : e_lbl 452 = kX9_switches_167 := rfl
set_option maxRecDepth 20000 in
theorem lX9_switches_173 : e_lbl 453 = kX9_switches_173 := rfl
set_option maxRecDepth 20000 in
theorem lX9_wants_0 : e_lbl 454 = kX9_wants_0 := rfl
set_option maxRecDepth 20000 in
theorem lX9_wants_20 : e_lbl 455 = kX9_wants_20 := rfl
set_option maxRecDepth 20000 in
theorem lX9_wants_31 : e_lbl 456 = kX9_wants_31 := rfl
set_option maxRecDepth 20000 in
theorem lX9_wants_33 : e_lbl 457 = kX9_wants_33 := rfl
set_option maxRecDepth 20000 in
theorem lX9_wants_72 : e_lbl 458 = kX9_wants_72 := rfl
set_option maxRecDepth 20000 in
theorem lX9_wants_73 : e_lbl 459 = kX9_wants_73 := rfl
set_option maxRecDepth 20000 in
theorem lX9_wants_113 : e_lbl 460 = kX9_wants_113 := rfl
set_option maxRecDepth 20000 in
theorem lX9_wants_114 : e_lbl 461 = kX9_wants_114 := rfl
set_option maxRecDepth 20000 in
theorem lX9_wants_123 : e_lbl 462 = kX9_wants_123 := rfl
set_option maxRecDepth 20000 in
theorem lX9_wants_131 : e_lbl 463 = kX9_wants_131 := rfl
set_option maxRecDepth 20000 in
theorem lX9_wants_132 : e_lbl 464 = kX9_wants_132 := rfl
set_option maxRecDepth 20000 in
theorem lX9_goes_0 : e_lbl 465 = kX9_goes_0 := rfl
set_option maxRecDepth 20000 in
theorem lX9_goes_95 : e_lbl 466 = kX9_goes_95 := rfl
set_option maxRecDepth 20000 in
theorem lX9_goes_96 : e_lbl 467 = kX9_goes_96 := rfl
set_option maxRecDepth 20000 in
theorem lX9_goes_99 : e_lbl 468 = kX9_goes_99 := rfl
set_option maxRecDepth 20000 in
theorem lX9_regulates_0 : e_lbl 469 = kX9_regulates_0 := rfl
set_option maxRecDepth 20000 in
theorem lX9_regulates_4 : e_lbl 470 = kX9_regulates_4 := rfl
set_option maxRecDepth 20000 in
theorem lX9_regulates_44 : e_lbl 471 = kX9_regulates_44 := rfl
set_option maxRecDepth 20000 in
theorem lX9_regulates_61 : e_lbl 472 = kX9_regulates_61 := rfl
set_option maxRecDepth 20000 in
theorem lX9_regulates_70 : e_lbl 473 = kX9_regulates_70 := rfl
set_option maxRecDepth 20000 in
theorem lX9_regulates_121 : e_lbl 474 = kX9_regulates_121 := rfl
set_option maxRecDepth 20000 in
theorem lX9_regulates_127 : e_lbl 475 = kX9_regulates_127 := rfl
set_option maxRecDepth 20000 in
theorem lX9_passes_0 : e_lbl 476 = kX9_passes_0 := rfl
set_option maxRecDepth 20000 in
theorem lX9_passes_26 : e_lbl 477 = kX9_passes_26 := rfl
set_option maxRecDepth 20000 in
theorem lX9_passes_28 : e_lbl 478 = kX9_passes_28 := rfl
set_option maxRecDepth 20000 in
theorem lX9_passes_80 : e_lbl 479 = kX9_passes_80 := rfl
set_option maxRecDepth 20000 in
theorem lX9_passes_81 : e_lbl 480 = kX9_passes_81 := rfl
set_option maxRecDepth 20000 in
theorem lX9_passes_84 : e_lbl 481 = kX9_passes_84 := rfl
set_option maxRecDepth 20000 in
theorem lX9_passes_90 : e_lbl 482 = kX9_passes_90 := rfl
set_option maxRecDepth 20000 in
theorem lX9_passes_108 : e_lbl 483 = kX9_passes_108 := rfl
set_option maxRecDepth 20000 in
theorem lX9_passes_109 : e_lbl 484 = kX9_passes_109 := rfl
set_option maxRecDepth 20000 in
theorem lX9_passes_138 : e_lbl 485 = kX9_passes_138 := rfl
set_option maxRecDepth 20000 in
theorem lX9_passes_142 : e_lbl 486 = kX9_passes_142 := rfl
set_option maxRecDepth 20000 in
theorem lX9_passes_143 : e_lbl 487 = kX9_passes_143 := rfl
set_option maxRecDepth 20000 in
theorem lX9_run_0 : e_lbl 488 = kX9_run_0 := rfl
set_option maxRecDepth 20000 in
theorem lX9_run_18 : e_lbl 489 = kX9_run_18 := rfl
set_option maxRecDepth 20000 in
theorem lX9_run_26 : e_lbl 490 = kX9_run_26 := rfl
set_option maxRecDepth 20000 in
theorem lX9_run_44 : e_lbl 491 = kX9_run_44 := rfl
set_option maxRecDepth 20000 in
theorem lX9_minute_0 : e_lbl 492 = kX9_minute_0 := rfl
set_option maxRecDepth 20000 in
theorem lX9_voltage_0 : e_lbl 493 = kX9_voltage_0 := rfl
set_option maxRecDepth 20000 in
theorem lX9_voltage_19 : e_lbl 494 = kX9_voltage_19 := rfl
set_option maxRecDepth 20000 in
theorem lX9_activeFlow_0 : e_lbl 495 = kX9_activeFlow_0 := rfl
set_option maxRecDepth 20000 in
theorem lX9_activeFlow_15 : e_lbl 496 = kX9_activeFlow_15 := rfl
set_option maxRecDepth 20000 in
theorem lX9_reactiveFlow_0 : e_lbl 497 = kX9_reactiveFlow_0 := rfl
set_option maxRecDepth 20000 in
theorem lX9_reactiveFlow_15 : e_lbl 498 = kX9_reactiveFlow_15 := rfl
set_option maxRecDepth 20000 in
theorem lX9_told_0 : e_lbl 499 = kX9_told_0 := rfl
set_option maxRecDepth 20000 in
theorem lX9_told_22 : e_lbl 500 = kX9_told_22 := rfl
set_option maxRecDepth 20000 in
theorem lX9_told_31 : e_lbl 501 = kX9_told_31 := rfl
set_option maxRecDepth 20000 in
theorem lX9_tap_0 : e_lbl 502 = kX9_tap_0 := rfl
set_option maxRecDepth 20000 in
theorem lX9_timer_0 : e_lbl 503 = kX9_timer_0 := rfl
set_option maxRecDepth 20000 in
theorem lX9_isLocked_0 : e_lbl 504 = kX9_isLocked_0 := rfl
set_option maxRecDepth 20000 in
theorem lX9_steps_0 : e_lbl 505 = kX9_steps_0 := rfl
set_option maxRecDepth 20000 in
theorem lX9_isOn_0 : e_lbl 506 = kX9_isOn_0 := rfl
set_option maxRecDepth 20000 in
theorem lX9_violations_0 : e_lbl 507 = kX9_violations_0 := rfl
set_option maxRecDepth 20000 in
theorem lX9_apart_0 : e_lbl 508 = kX9_apart_0 := rfl
set_option maxRecDepth 20000 in
theorem lX9_apart_11 : e_lbl 509 = kX9_apart_11 := rfl
set_option maxRecDepth 20000 in
theorem lX9_apart_14 : e_lbl 510 = kX9_apart_14 := rfl
set_option maxRecDepth 20000 in
theorem lX9_best_0 : e_lbl 511 = kX9_best_0 := rfl
set_option maxRecDepth 20000 in
theorem lX9_best_9 : e_lbl 512 = kX9_best_9 := rfl
set_option maxRecDepth 20000 in
theorem lX9_best_68 : e_lbl 513 = kX9_best_68 := rfl
set_option maxRecDepth 20000 in
theorem lX9_best_74 : e_lbl 514 = kX9_best_74 := rfl
set_option maxRecDepth 20000 in
theorem lX9_plans_0 : e_lbl 515 = kX9_plans_0 := rfl
set_option maxRecDepth 20000 in
theorem lX9_plans_5 : e_lbl 516 = kX9_plans_5 := rfl
set_option maxRecDepth 20000 in
theorem lX9_plans_15 : e_lbl 517 = kX9_plans_15 := rfl
set_option maxRecDepth 20000 in
theorem lX9_plans_44 : e_lbl 518 = kX9_plans_44 := rfl
set_option maxRecDepth 20000 in
theorem lX9_plans_48 : e_lbl 519 = kX9_plans_48 := rfl
set_option maxRecDepth 20000 in
theorem lX9_plans_57 : e_lbl 520 = kX9_plans_57 := rfl
set_option maxRecDepth 20000 in
theorem lX9_plans_68 : e_lbl 521 = kX9_plans_68 := rfl
set_option maxRecDepth 20000 in
theorem lX9_plans_90 : e_lbl 522 = kX9_plans_90 := rfl
set_option maxRecDepth 20000 in
theorem lX9_plans_115 : e_lbl 523 = kX9_plans_115 := rfl
set_option maxRecDepth 20000 in
theorem lX9_plans_117 : e_lbl 524 = kX9_plans_117 := rfl
set_option maxRecDepth 20000 in
theorem lX9_plans_130 : e_lbl 525 = kX9_plans_130 := rfl
set_option maxRecDepth 20000 in
theorem lX9_plans_134 : e_lbl 526 = kX9_plans_134 := rfl
set_option maxRecDepth 20000 in
theorem lX9_plans_135 : e_lbl 527 = kX9_plans_135 := rfl
set_option maxRecDepth 20000 in
theorem lX9_plans_143 : e_lbl 528 = kX9_plans_143 := rfl
set_option maxRecDepth 20000 in
theorem lX9_plans_156 : e_lbl 529 = kX9_plans_156 := rfl
set_option maxRecDepth 20000 in
theorem lX9_plans_157 : e_lbl 530 = kX9_plans_157 := rfl
set_option maxRecDepth 20000 in
theorem lX9_plans_164 : e_lbl 531 = kX9_plans_164 := rfl
set_option maxRecDepth 20000 in
theorem lX9_lacksPlan_0 : e_lbl 532 = kX9_lacksPlan_0 := rfl
set_option maxRecDepth 20000 in
theorem lX9_lacksPlan_15 : e_lbl 533 = kX9_lacksPlan_15 := rfl
set_option maxRecDepth 20000 in
theorem lX9_lacksPlan_27 : e_lbl 534 = kX9_lacksPlan_27 := rfl
set_option maxRecDepth 20000 in
theorem lX9_lacksPlan_29 : e_lbl 535 = kX9_lacksPlan_29 := rfl
set_option maxRecDepth 20000 in
theorem lX9_planSteps_0 : e_lbl 536 = kX9_planSteps_0 := rfl
set_option maxRecDepth 20000 in
theorem lX9_planSteps_16 : e_lbl 537 = kX9_planSteps_16 := rfl
set_option maxRecDepth 20000 in
theorem lX9_planTap_0 : e_lbl 538 = kX9_planTap_0 := rfl
set_option maxRecDepth 20000 in
theorem lX9_planTap_18 : e_lbl 539 = kX9_planTap_18 := rfl
set_option maxRecDepth 20000 in
theorem lX9_planTap_20 : e_lbl 540 = kX9_planTap_20 := rfl
set_option maxRecDepth 20000 in
theorem lX9_planTap_31 : e_lbl 541 = kX9_planTap_31 := rfl
set_option maxRecDepth 20000 in
theorem lX9_planTap_46 : e_lbl 542 = kX9_planTap_46 := rfl
set_option maxRecDepth 20000 in
theorem lX9_planTap_68 : e_lbl 543 = kX9_planTap_68 := rfl
set_option maxRecDepth 20000 in
theorem lX9_undo_0 : e_lbl 544 = kX9_undo_0 := rfl
set_option maxRecDepth 20000 in
theorem lX9_undo_14 : e_lbl 545 = kX9_undo_14 := rfl
set_option maxRecDepth 20000 in
theorem lX9_undo_26 : e_lbl 546 = kX9_undo_26 := rfl
set_option maxRecDepth 20000 in
theorem lX9_undo_60 : e_lbl 547 = kX9_undo_60 := rfl
set_option maxRecDepth 20000 in
theorem lX9_errorCount_0 : e_lbl 548 = kX9_errorCount_0 := rfl
set_option maxRecDepth 20000 in
theorem lX9_errorCount_21 : e_lbl 549 = kX9_errorCount_21 := rfl
set_option maxRecDepth 20000 in
theorem lX9_errorCount_27 : e_lbl 550 = kX9_errorCount_27 := rfl
set_option maxRecDepth 20000 in
theorem lX9_mixed_0 : e_lbl 551 = kX9_mixed_0 := rfl
set_option maxRecDepth 20000 in
theorem lX9_digest_0 : e_lbl 552 = kX9_digest_0 := rfl
set_option maxRecDepth 20000 in
theorem lX9_digest_10 : e_lbl 553 = kX9_digest_10 := rfl
set_option maxRecDepth 20000 in
theorem lX9_digest_34 : e_lbl 554 = kX9_digest_34 := rfl
set_option maxRecDepth 20000 in
theorem lX9_digest_66 : e_lbl 555 = kX9_digest_66 := rfl
set_option maxRecDepth 20000 in
theorem lX9_digest_92 : e_lbl 556 = kX9_digest_92 := rfl
set_option maxRecDepth 20000 in
theorem lX9_digest_106 : e_lbl 557 = kX9_digest_106 := rfl
set_option maxRecDepth 20000 in
theorem lX9_digest_216 : e_lbl 558 = kX9_digest_216 := rfl
set_option maxRecDepth 20000 in
theorem lX9_digest_264 : e_lbl 559 = kX9_digest_264 := rfl
set_option maxRecDepth 20000 in
theorem lX9_digest_270 : e_lbl 560 = kX9_digest_270 := rfl
def e_mNs : List MethodName := [x, yX0_init, yX0_copyFrom, yX0_isByTime, yX0_isByFlow, yX0_isOnByTime, yX0_supply, yX0_countMinute, yX0_isDue, yX0_change, yX1_init, yX1_copyFrom, yX1_hour, yX1_releaseLocks, yX1_switchBanksByTime, yX1_switchBankByFlow, yX1_moveRegulators, yX2_init, yX2_solve, yX2_sumLoads, yX2_findVoltages, yX2_countBadNodes, yX3_init, yX3_save, yX3_dropOldest, yX3_restore, yX4_init, yX4_copyFrom, yX5_init, yX5_makePlan, yX5_countStepsAfter, yX5_countStepsFrom, yX5_chooseTaps, yX6_init, yX6_readItems, yX6_readItem, yX6_readNumber, yX6_isNext, yX6_expect, yX6_skipSpaces, yX7_init, yX7_copyFrom, yX7_release, yX7_wantedDirection, yX7_countMinute, yX7_isDue, yX7_makeStep, yX8_init, yX8_setSource, yX8_addNode, yX8_setLoad, yX8_setFactor, yX8_append, yX8_clearText, yX8_parseProfile, yX8_addRegulator, yX8_setTap, yX8_addBank, yX8_switchBank, yX8_run, yX8_minute, yX8_passMinute, yX8_voltage, yX8_activeFlow, yX8_reactiveFlow, yX8_tap, yX8_timer, yX8_isLocked, yX8_steps, yX8_isOn, yX8_violations, yX8_planSteps, yX8_planTap, yX8_undo, yX8_errorCount, yX8_digest, yX8_mixRegulator, yX8_mixBank, yX8_mix, yX8_isWithin, yX8_isHour, yX8_isLoad, yX8_areBankSettings, yX8_bit, yX8_hasNode, yX8_regulatorFault, yX8_bankFault, yX8_isErrorCode, yX8_refuse, yX9_init, yX9_in, yX9_error, yX9_isNode, yX9_spot, yX9_of, yX9_put, yX9_save, yX9_setSource, yX9_isLoad, yX9_addNode, yX9_setLoad, yX9_setFactor, yX9_append, yX9_clearText, yX9_next, yX9_takes, yX9_number, yX9_readsItem, yX9_parseProfile, yX9_addRegulator, yX9_lacks, yX9_setTap, yX9_addBank, yX9_switchBank, yX9_hour, yX9_isTime, yX9_compute, yX9_outside, yX9_computeNow, yX9_unlocks, yX9_switches, yX9_wants, yX9_goes, yX9_regulates, yX9_passes, yX9_run, yX9_minute, yX9_voltage, yX9_activeFlow, yX9_reactiveFlow, yX9_told, yX9_tap, yX9_timer, yX9_isLocked, yX9_steps, yX9_isOn, yX9_violations, yX9_apart, yX9_best, yX9_plans, yX9_lacksPlan, yX9_planSteps, yX9_planTap, yX9_undo, yX9_errorCount, yX9_mixed, yX9_digest]
def e_mN (n : Nat) : MethodName := e_mNs.getD n x
def e_mBs : List ByteArray := [code, cX0_init, cX0_copyFrom, cX0_isByTime, cX0_isByFlow, cX0_isOnByTime, cX0_supply, cX0_countMinute, cX0_isDue, cX0_change, cX1_init, cX1_copyFrom, cX1_hour, cX1_releaseLocks, cX1_switchBanksByTime, cX1_switchBankByFlow, cX1_moveRegulators, cX2_init, cX2_solve, cX2_sumLoads, cX2_findVoltages, cX2_countBadNodes, cX3_init, cX3_save, cX3_dropOldest, cX3_restore, cX4_init, cX4_copyFrom, cX5_init, cX5_makePlan, cX5_countStepsAfter, cX5_countStepsFrom, cX5_chooseTaps, cX6_init, cX6_readItems, cX6_readItem, cX6_readNumber, cX6_isNext, cX6_expect, cX6_skipSpaces, cX7_init, cX7_copyFrom, cX7_release, cX7_wantedDirection, cX7_countMinute, cX7_isDue, cX7_makeStep, cX8_init, cX8_setSource, cX8_addNode, cX8_setLoad, cX8_setFactor, cX8_append, cX8_clearText, cX8_parseProfile, cX8_addRegulator, cX8_setTap, cX8_addBank, cX8_switchBank, cX8_run, cX8_minute, cX8_passMinute, cX8_voltage, cX8_activeFlow, cX8_reactiveFlow, cX8_tap, cX8_timer, cX8_isLocked, cX8_steps, cX8_isOn, cX8_violations, cX8_planSteps, cX8_planTap, cX8_undo, cX8_errorCount, cX8_digest, cX8_mixRegulator, cX8_mixBank, cX8_mix, cX8_isWithin, cX8_isHour, cX8_isLoad, cX8_areBankSettings, cX8_bit, cX8_hasNode, cX8_regulatorFault, cX8_bankFault, cX8_isErrorCode, cX8_refuse, cX9_init, cX9_in, cX9_error, cX9_isNode, cX9_spot, cX9_of, cX9_put, cX9_save, cX9_setSource, cX9_isLoad, cX9_addNode, cX9_setLoad, cX9_setFactor, cX9_append, cX9_clearText, cX9_next, cX9_takes, cX9_number, cX9_readsItem, cX9_parseProfile, cX9_addRegulator, cX9_lacks, cX9_setTap, cX9_addBank, cX9_switchBank, cX9_hour, cX9_isTime, cX9_compute, cX9_outside, cX9_computeNow, cX9_unlocks, cX9_switches, cX9_wants, cX9_goes, cX9_regulates, cX9_passes, cX9_run, cX9_minute, cX9_voltage, cX9_activeFlow, cX9_reactiveFlow, cX9_told, cX9_tap, cX9_timer, cX9_isLocked, cX9_steps, cX9_isOn, cX9_violations, cX9_apart, cX9_best, cX9_plans, cX9_lacksPlan, cX9_planSteps, cX9_planTap, cX9_undo, cX9_errorCount, cX9_mixed, cX9_digest]
def e_mB (n : Nat) : ByteArray := e_mBs.getD n code
def e_mLs : List Nat := [4, 1, 2, 1, 1, 2, 4, 3, 1, 1, 2, 3, 1, 2, 4, 5, 6, 1, 2, 9, 10, 4, 2, 2, 3, 2, 1, 2, 1, 4, 6, 3, 8, 1, 4, 6, 5, 2, 2, 1, 1, 2, 1, 3, 2, 1, 1, 1, 3, 6, 4, 4, 2, 2, 2, 7, 6, 8, 6, 4, 1, 3, 2, 2, 2, 3, 3, 3, 3, 3, 1, 3, 4, 1, 2, 4, 5, 5, 3, 3, 1, 2, 3, 1, 2, 2, 2, 1, 2, 2, 3, 2, 2, 2, 3, 4, 2, 3, 2, 7, 4, 4, 2, 2, 1, 3, 6, 5, 3, 6, 3, 5, 9, 5, 1, 5, 11, 3, 1, 2, 4, 4, 3, 5, 3, 4, 1, 2, 2, 2, 6, 2, 2, 2, 2, 2, 1, 2, 7, 8, 3, 5, 6, 2, 2, 4, 4]
def e_mL (n : Nat) : Nat := e_mLs.getD n 0
def e_mRs : List (Option FieldType) := [some .boolean, none, none, some .boolean, some .boolean, some .boolean, some .int, none, some .boolean, none, none, none, some .int, none, none, some .boolean, some .boolean, none, none, none, none, some .int, none, none, none, none, none, none, none, some .boolean, none, none, none, none, some .int, none, some .int, some .boolean, none, none, none, none, none, some .int, none, some .boolean, none, none, some .int, some .int, some .int, some .int, some .int, some .int, some .int, some .int, some .int, some .int, some .int, some .int, some .int, some .boolean, some .int, some .int, some .int, some .int, some .int, some .int, some .int, some .int, some .int, some .int, some .int, some .int, some .int, some .long, some .long, some .long, some .long, some .boolean, some .boolean, some .boolean, some .boolean, some .int, some .boolean, some .int, some .int, some .boolean, some .int, none, some .boolean, some .int, some .boolean, some .int, some .int, none, none, some .int, some .boolean, some .int, some .int, some .int, some .int, some .int, some .int, some .boolean, some .int, some .boolean, some .int, some .int, some .int, some .int, some .int, some .int, some .int, some .boolean, none, some .int, none, none, some .boolean, some .int, none, some .boolean, some .int, some .int, some .int, some .int, some .int, some .int, some .int, some .int, some .int, some .int, some .int, some .int, some .int, some .int, some .int, some .boolean, some .int, some .int, some .int, some .int, some .int, some .long, some .long]
def e_mR (n : Nat) : Option FieldType := e_mRs.getD n none
def e_cns : List String := [RX0, RX1, RX2, RX3, RX4, RX5, RX6, RX7, RX8, RX9, "FeederControlLaw", RJ9]
def e_cn (n : Nat) : String := e_cns.getD n ""
def e_mos : List Nat := [10, 0, 0, 0, 0, 0, 0, 0, 0, 0, 1, 1, 1, 1, 1, 1, 1, 2, 2, 2, 2, 2, 3, 3, 3, 3, 4, 4, 5, 5, 5, 5, 5, 6, 6, 6, 6, 6, 6, 6, 7, 7, 7, 7, 7, 7, 7, 8, 8, 8, 8, 8, 8, 8, 8, 8, 8, 8, 8, 8, 8, 8, 8, 8, 8, 8, 8, 8, 8, 8, 8, 8, 8, 8, 8, 8, 8, 8, 8, 8, 8, 8, 8, 8, 8, 8, 8, 8, 8, 9, 9, 9, 9, 9, 9, 9, 9, 9, 9, 9, 9, 9, 9, 9, 9, 9, 9, 9, 9, 9, 9, 9, 9, 9, 9, 9, 9, 9, 9, 9, 9, 9, 9, 9, 9, 9, 9, 9, 9, 9, 9, 9, 9, 9, 9, 9, 9, 9, 9, 9, 9, 9, 9, 9, 9, 9, 9]
def e_mo (n : Nat) : Nat := e_mos.getD n 99
def e_mO (n : Nat) : String := e_cn (e_mo n)
def e_mPs : List Nat := [9, 0, 1, 0, 0, 1, 2, 1, 0, 0, 0, 1, 0, 0, 0, 1, 2, 0, 1, 3, 3, 1, 0, 1, 0, 1, 0, 1, 0, 2, 3, 1, 1, 0, 1, 1, 2, 1, 1, 0, 0, 1, 0, 2, 1, 0, 0, 0, 1, 4, 3, 2, 1, 0, 0, 5, 2, 6, 2, 1, 0, 0, 1, 1, 1, 1, 1, 1, 1, 1, 0, 1, 2, 0, 1, 0, 2, 2, 2, 3, 1, 2, 3, 1, 1, 1, 1, 1, 1, 0, 3, 1, 1, 2, 2, 3, 0, 1, 2, 4, 3, 2, 1, 0, 0, 1, 2, 0, 0, 5, 2, 2, 6, 2, 0, 2, 4, 0, 0, 0, 0, 1, 2, 1, 0, 1, 0, 1, 1, 1, 4, 1, 1, 1, 1, 1, 0, 2, 2, 1, 1, 1, 2, 0, 1, 2, 0]
def e_mP (n : Nat) : Nat := e_mPs.getD n 99
def e_mKs : List Nat := [9, 1, 2, 2, 2, 2, 2, 2, 2, 2, 1, 2, 2, 2, 2, 2, 2, 1, 2, 2, 2, 2, 1, 2, 2, 2, 1, 2, 1, 2, 2, 2, 2, 1, 2, 2, 2, 2, 2, 2, 1, 2, 2, 2, 2, 2, 2, 1, 2, 2, 2, 2, 2, 2, 2, 2, 2, 2, 2, 2, 2, 2, 2, 2, 2, 2, 2, 2, 2, 2, 2, 2, 2, 2, 2, 2, 0, 0, 0, 0, 0, 0, 0, 0, 2, 2, 2, 0, 2, 1, 0, 2, 2, 0, 2, 2, 2, 2, 0, 2, 2, 2, 2, 2, 2, 2, 2, 2, 2, 2, 2, 2, 2, 2, 2, 2, 2, 2, 2, 2, 2, 2, 2, 2, 2, 2, 2, 2, 2, 2, 2, 2, 2, 2, 2, 2, 2, 0, 2, 2, 2, 2, 2, 2, 2, 0, 2]
def e_mK (n : Nat) : Nat := e_mKs.getD n 99
def e_mAs : List Nat := [1, 1, 2, 1, 1, 2, 3, 2, 1, 1, 1, 2, 1, 1, 1, 2, 3, 1, 2, 4, 4, 2, 1, 2, 1, 2, 1, 2, 1, 3, 4, 2, 2, 1, 2, 2, 3, 2, 2, 1, 1, 2, 1, 3, 2, 1, 1, 1, 2, 5, 4, 3, 2, 1, 1, 6, 3, 7, 3, 2, 1, 1, 2, 2, 2, 2, 2, 2, 2, 2, 1, 2, 3, 1, 2, 1, 2, 2, 2, 3, 1, 2, 3, 1, 2, 2, 2, 1, 2, 1, 3, 2, 2, 2, 3, 4, 1, 2, 2, 5, 4, 3, 2, 1, 1, 2, 3, 1, 1, 6, 3, 3, 7, 3, 1, 3, 5, 1, 1, 1, 1, 2, 3, 2, 1, 2, 1, 2, 2, 2, 5, 2, 2, 2, 2, 2, 1, 2, 3, 2, 2, 2, 3, 1, 2, 2, 1]
def e_mA (n : Nat) : Nat := e_mAs.getD n 0
def e_mFs : List Nat := [7, 1, 0, 0, 0, 0, 1, 0, 0, 0, 3, 2, 1, 1, 2, 1, 1, 1, 3, 2, 1, 1, 4, 3, 0, 3, 2, 1, 2, 4, 3, 1, 1, 1, 4, 3, 1, 1, 2, 0, 1, 0, 0, 0, 0, 0, 0, 5, 4, 4, 4, 4, 3, 0, 5, 4, 4, 4, 4, 5, 0, 4, 4, 4, 4, 3, 3, 3, 3, 3, 0, 5, 5, 4, 3, 4, 1, 1, 0, 0, 1, 1, 2, 0, 1, 2, 2, 1, 2, 1, 0, 0, 1, 0, 1, 1, 0, 1, 1, 2, 2, 1, 1, 0, 0, 1, 1, 2, 3, 2, 2, 3, 2, 3, 0, 2, 3, 1, 4, 2, 2, 2, 2, 3, 5, 6, 0, 5, 5, 5, 3, 4, 4, 4, 4, 4, 0, 0, 1, 4, 5, 6, 6, 1, 1, 0, 5]
def e_mF (n : Nat) : Nat := e_mFs.getD n 0
def e_mQs : List Nat := [171, 12, 0, 0, 0, 0, 21, 0, 0, 0, 52, 42, 40, 20, 60, 22, 22, 12, 72, 44, 40, 22, 73, 64, 0, 64, 32, 21, 32, 97, 72, 40, 40, 12, 87, 62, 22, 20, 41, 0, 12, 0, 0, 0, 0, 0, 0, 94, 85, 85, 85, 85, 63, 0, 110, 85, 85, 85, 85, 115, 0, 93, 93, 93, 93, 64, 64, 64, 64, 64, 0, 120, 120, 85, 63, 93, 22, 22, 0, 0, 22, 22, 42, 0, 22, 43, 43, 22, 42, 12, 0, 0, 22, 0, 21, 21, 0, 22, 22, 44, 44, 22, 22, 0, 0, 20, 22, 47, 71, 44, 43, 65, 44, 65, 0, 43, 67, 22, 97, 44, 44, 43, 44, 66, 117, 139, 0, 117, 117, 117, 65, 90, 90, 90, 90, 90, 0, 0, 21, 97, 124, 146, 146, 21, 22, 0, 117]
def e_mQ (n : Nat) : Nat := e_mQs.getD n 0
def e_mEs : List Nat := [27, 31, 32, 33, 36, 39, 45, 50, 57, 60, 63, 68, 71, 72, 75, 79, 83, 87, 88, 89, 92, 97, 101, 104, 106, 109, 110, 111, 112, 113, 119, 126, 133, 139, 140, 143, 148, 155, 158, 162, 164, 165, 166, 167, 173, 177, 180, 184, 185, 187, 191, 194, 197, 200, 201, 203, 209, 212, 216, 221, 226, 227, 236, 238, 240, 242, 245, 248, 251, 254, 257, 258, 262, 267, 269, 272, 279, 281, 283, 284, 287, 288, 291, 300, 303, 304, 308, 312, 313, 315, 318, 321, 322, 323, 324, 325, 326, 332, 334, 337, 343, 346, 349, 352, 353, 357, 362, 370, 378, 386, 390, 394, 398, 408, 412, 413, 419, 435, 440, 441, 444, 454, 465, 469, 476, 488, 492, 493, 495, 497, 499, 502, 503, 504, 505, 506, 507, 508, 511, 515, 532, 536, 538, 544, 548, 551, 552]
def e_mE (n : Nat) : Nat := e_mEs.getD n 999
def e_mCs : List Nat := [99, 0, 0, 0, 0, 0, 0, 0, 0, 0, 1, 1, 1, 1, 1, 1, 1, 2, 2, 2, 2, 2, 3, 3, 3, 3, 4, 4, 5, 5, 5, 5, 5, 6, 6, 6, 6, 6, 6, 6, 7, 7, 7, 7, 7, 7, 7, 8, 8, 8, 8, 8, 8, 8, 8, 8, 8, 8, 8, 8, 8, 8, 8, 8, 8, 8, 8, 8, 8, 8, 8, 8, 8, 8, 8, 8, 8, 8, 8, 8, 8, 8, 8, 8, 8, 8, 8, 8, 8, 9, 9, 9, 9, 9, 9, 9, 9, 9, 9, 9, 9, 9, 9, 9, 9, 9, 9, 9, 9, 9, 9, 9, 9, 9, 9, 9, 9, 9, 9, 9, 9, 9, 9, 9, 9, 9, 9, 9, 9, 9, 9, 9, 9, 9, 9, 9, 9, 9, 9, 9, 9, 9, 9, 9, 9, 9, 9]
def e_mC (n : Nat) : Nat := e_mCs.getD n 99
def e_kds : List (Nat × Nat) := [(99, 0), (8, 7), (1, 6), (10, 24), (13, 9), (4, 6), (7, 12), (0, 8), (4, 6), (7, 12), (0, 8), (4, 6), (7, 12), (0, 8), (4, 6), (7, 12), (0, 8), (4, 6), (7, 12), (0, 8), (4, 6), (7, 12), (0, 8), (4, 6), (7, 12), (0, 8), (4, 6), (7, 12), (0, 8), (4, 6), (7, 12), (0, 8), (2, 3), (10, 9), (10, 9), (10, 9), (5, 5), (2, 3), (10, 9), (10, 9), (10, 9), (14, 24), (10, 33), (10, 33), (10, 33), (10, 33), (10, 33), (10, 33), (10, 33), (10, 33), (10, 33), (10, 33), (10, 33), (10, 33), (10, 33), (10, 33), (10, 33), (10, 33), (10, 33), (10, 33), (10, 33), (10, 33), (10, 33), (10, 33), (10, 33), (10, 33), (10, 33), (10, 24), (6, 4), (11, 120), (3, 2), (12, 3), (1, 6), (10, 24), (13, 9), (4, 6), (7, 12), (0, 8), (4, 6), (7, 12), (0, 8), (4, 6), (7, 12), (0, 8), (4, 6), (7, 12), (0, 8), (4, 6), (7, 12), (0, 8), (4, 6), (7, 12), (0, 8), (4, 6), (7, 12), (0, 8), (4, 6), (7, 12), (0, 8), (4, 6), (7, 12), (0, 8), (1, 6), (10, 24), (13, 9), (4, 6), (7, 12), (0, 8), (4, 6), (7, 12), (0, 8), (4, 6), (7, 12), (0, 8), (4, 6), (7, 12), (0, 8), (4, 6), (7, 12), (0, 8), (4, 6), (7, 12), (0, 8), (4, 6), (7, 12), (0, 8), (4, 6), (7, 12), (0, 8), (4, 6), (7, 12), (0, 8), (1, 6), (10, 24), (13, 9), (4, 6), (7, 12), (0, 8), (4, 6), (7, 12), (0, 8), (4, 6), (7, 12), (0, 8), (4, 6), (7, 12), (0, 8), (4, 6), (7, 12), (0, 8), (4, 6), (7, 12), (0, 8), (4, 6), (7, 12), (0, 8), (4, 6), (7, 12), (0, 8), (4, 6), (7, 12), (0, 8), (10, 24), (10, 5), (9, 12), (10, 220), (10, 660), (10, 120), (10, 7), (10, 9), (10, 9), (10, 9), (10, 24), (10, 792)]
def e_kd (n : Nat) : Nat × Nat := e_kds.getD n (99, 0)
def e_irs : List (List Bool) := [[false, false, false, false, false, false, false, false], [false, false, false, false, true, true], [true, true, true], [true, false], [false, false, false, false, true, true], [true, true, true, true, false], [true, false, false, false], [false, false, false, false, false, false, false, false, false, false, false, false], [true, true, true, true, true, true, true], [true, true, false, true, false, true, true, true, true, false, true, true]]
def e_isR (a k : Nat) : Bool := (e_irs.getD a []).getD k false
def e_ns : List Nat := [8, 6, 3, 2, 6, 5, 4, 12, 7, 12]
end
section
/-! the words of the tables that the ops need, each found once -/
def e_isN : Jvm.Cond → Bool
  | .methodLinkNest .. => true
  | _ => false
def e_isO : Jvm.Cond → Bool
  | .arrayOver (.object _) => true
  | .arrayOver (.array _) => true
  | _ => false
def e_wk (w : Jvm.Cond) : Prop := (∃ i : Nat, lw_tbl[i]? = some w) ∧ (goodWord w || e_isN w || e_isO w) = true
def e_flok (q : Nat × Nat × Nat × Nat) : Prop := ∃ C T N, vwCl[q.2.2.1]? = some (C, T, N) ∧ q.2.2.2 < N ∧ e_wk (.fieldLink (e_cn q.1) q.2.1 C (T q.2.2.2).2.1 (T q.2.2.2).2.2.1)
def e_mlok (q : Nat × Nat × Nat × Nat) : Prop := if q.2.2.2 = 0 then e_wk (.methodLink (e_cn q.1) q.2.1 (e_mN q.2.2.1)) else e_wk (.methodLinkNest (e_cn q.1) q.2.1 (e_mN q.2.2.1) "FeederControl")
set_option maxRecDepth 20000 in
theorem e_fl_0_9 : e_flok (0, 9, 0, 0) := ⟨_, _, _, rfl, by decide, ⟨135, rfl⟩, rfl⟩
set_option maxRecDepth 20000 in
theorem e_fl_0_15 : e_flok (0, 15, 0, 1) := ⟨_, _, _, rfl, by decide, ⟨137, rfl⟩, rfl⟩
set_option maxRecDepth 20000 in
theorem e_fl_0_19 : e_flok (0, 19, 0, 2) := ⟨_, _, _, rfl, by decide, ⟨139, rfl⟩, rfl⟩
set_option maxRecDepth 20000 in
theorem e_fl_0_22 : e_flok (0, 22, 0, 3) := ⟨_, _, _, rfl, by decide, ⟨141, rfl⟩, rfl⟩
set_option maxRecDepth 20000 in
theorem e_fl_0_25 : e_flok (0, 25, 0, 4) := ⟨_, _, _, rfl, by decide, ⟨143, rfl⟩, rfl⟩
set_option maxRecDepth 20000 in
theorem e_fl_0_28 : e_flok (0, 28, 0, 5) := ⟨_, _, _, rfl, by decide, ⟨145, rfl⟩, rfl⟩
set_option maxRecDepth 20000 in
theorem e_fl_0_31 : e_flok (0, 31, 0, 6) := ⟨_, _, _, rfl, by decide, ⟨147, rfl⟩, rfl⟩
set_option maxRecDepth 20000 in
theorem e_fl_0_34 : e_flok (0, 34, 0, 7) := ⟨_, _, _, rfl, by decide, ⟨150, rfl⟩, rfl⟩
set_option maxRecDepth 20000 in
theorem e_fl_1_9 : e_flok (1, 9, 1, 1) := ⟨_, _, _, rfl, by decide, ⟨205, rfl⟩, rfl⟩
set_option maxRecDepth 20000 in
theorem e_fl_1_15 : e_flok (1, 15, 1, 4) := ⟨_, _, _, rfl, by decide, ⟨214, rfl⟩, rfl⟩
set_option maxRecDepth 20000 in
theorem e_fl_1_21 : e_flok (1, 21, 1, 5) := ⟨_, _, _, rfl, by decide, ⟨217, rfl⟩, rfl⟩
set_option maxRecDepth 20000 in
theorem e_fl_1_26 : e_flok (1, 26, 1, 0) := ⟨_, _, _, rfl, by decide, ⟨203, rfl⟩, rfl⟩
set_option maxRecDepth 20000 in
theorem e_fl_1_29 : e_flok (1, 29, 1, 2) := ⟨_, _, _, rfl, by decide, ⟨208, rfl⟩, rfl⟩
set_option maxRecDepth 20000 in
theorem e_fl_1_32 : e_flok (1, 32, 1, 3) := ⟨_, _, _, rfl, by decide, ⟨212, rfl⟩, rfl⟩
set_option maxRecDepth 20000 in
theorem e_fl_1_51 : e_flok (1, 51, 4, 4) := ⟨_, _, _, rfl, by decide, ⟨183, rfl⟩, rfl⟩
set_option maxRecDepth 20000 in
theorem e_fl_1_64 : e_flok (1, 64, 4, 5) := ⟨_, _, _, rfl, by decide, ⟨188, rfl⟩, rfl⟩
set_option maxRecDepth 20000 in
theorem e_fl_1_78 : e_flok (1, 78, 0, 6) := ⟨_, _, _, rfl, by decide, ⟨148, rfl⟩, rfl⟩
set_option maxRecDepth 20000 in
theorem e_fl_1_85 : e_flok (1, 85, 2, 1) := ⟨_, _, _, rfl, by decide, ⟨244, rfl⟩, rfl⟩
set_option maxRecDepth 20000 in
theorem e_fl_1_100 : e_flok (1, 100, 7, 0) := ⟨_, _, _, rfl, by decide, ⟨80, rfl⟩, rfl⟩
set_option maxRecDepth 20000 in
theorem e_fl_1_103 : e_flok (1, 103, 2, 2) := ⟨_, _, _, rfl, by decide, ⟨247, rfl⟩, rfl⟩
set_option maxRecDepth 20000 in
theorem e_fl_1_106 : e_flok (1, 106, 2, 0) := ⟨_, _, _, rfl, by decide, ⟨241, rfl⟩, rfl⟩
set_option maxRecDepth 20000 in
theorem e_fl_2_9 : e_flok (2, 9, 2, 0) := ⟨_, _, _, rfl, by decide, ⟨240, rfl⟩, rfl⟩
set_option maxRecDepth 20000 in
theorem e_fl_2_15 : e_flok (2, 15, 2, 1) := ⟨_, _, _, rfl, by decide, ⟨243, rfl⟩, rfl⟩
set_option maxRecDepth 20000 in
theorem e_fl_2_18 : e_flok (2, 18, 2, 2) := ⟨_, _, _, rfl, by decide, ⟨246, rfl⟩, rfl⟩
set_option maxRecDepth 20000 in
theorem e_fl_2_35 : e_flok (2, 35, 1, 4) := ⟨_, _, _, rfl, by decide, ⟨215, rfl⟩, rfl⟩
set_option maxRecDepth 20000 in
theorem e_fl_2_38 : e_flok (2, 38, 1, 2) := ⟨_, _, _, rfl, by decide, ⟨209, rfl⟩, rfl⟩
set_option maxRecDepth 20000 in
theorem e_fl_2_42 : e_flok (2, 42, 1, 5) := ⟨_, _, _, rfl, by decide, ⟨219, rfl⟩, rfl⟩
set_option maxRecDepth 20000 in
theorem e_fl_2_46 : e_flok (2, 46, 4, 2) := ⟨_, _, _, rfl, by decide, ⟨176, rfl⟩, rfl⟩
set_option maxRecDepth 20000 in
theorem e_fl_2_51 : e_flok (2, 51, 4, 3) := ⟨_, _, _, rfl, by decide, ⟨179, rfl⟩, rfl⟩
set_option maxRecDepth 20000 in
theorem e_fl_2_54 : e_flok (2, 54, 4, 5) := ⟨_, _, _, rfl, by decide, ⟨187, rfl⟩, rfl⟩
set_option maxRecDepth 20000 in
theorem e_fl_2_64 : e_flok (2, 64, 1, 1) := ⟨_, _, _, rfl, by decide, ⟨207, rfl⟩, rfl⟩
set_option maxRecDepth 20000 in
theorem e_fl_2_67 : e_flok (2, 67, 4, 4) := ⟨_, _, _, rfl, by decide, ⟨184, rfl⟩, rfl⟩
set_option maxRecDepth 20000 in
theorem e_fl_2_71 : e_flok (2, 71, 7, 5) := ⟨_, _, _, rfl, by decide, ⟨92, rfl⟩, rfl⟩
set_option maxRecDepth 20000 in
theorem e_fl_2_76 : e_flok (2, 76, 4, 0) := ⟨_, _, _, rfl, by decide, ⟨171, rfl⟩, rfl⟩
set_option maxRecDepth 20000 in
theorem e_fl_2_79 : e_flok (2, 79, 4, 1) := ⟨_, _, _, rfl, by decide, ⟨174, rfl⟩, rfl⟩
set_option maxRecDepth 20000 in
theorem e_fl_3_11 : e_flok (3, 11, 3, 0) := ⟨_, _, _, rfl, by decide, ⟨316, rfl⟩, rfl⟩
set_option maxRecDepth 20000 in
theorem e_fl_3_18 : e_flok (3, 18, 3, 1) := ⟨_, _, _, rfl, by decide, ⟨317, rfl⟩, rfl⟩
set_option maxRecDepth 20000 in
theorem e_fl_4_10 : e_flok (4, 10, 4, 4) := ⟨_, _, _, rfl, by decide, ⟨181, rfl⟩, rfl⟩
set_option maxRecDepth 20000 in
theorem e_fl_4_19 : e_flok (4, 19, 4, 5) := ⟨_, _, _, rfl, by decide, ⟨186, rfl⟩, rfl⟩
set_option maxRecDepth 20000 in
theorem e_fl_4_23 : e_flok (4, 23, 4, 0) := ⟨_, _, _, rfl, by decide, ⟨169, rfl⟩, rfl⟩
set_option maxRecDepth 20000 in
theorem e_fl_4_27 : e_flok (4, 27, 4, 1) := ⟨_, _, _, rfl, by decide, ⟨172, rfl⟩, rfl⟩
set_option maxRecDepth 20000 in
theorem e_fl_4_30 : e_flok (4, 30, 4, 2) := ⟨_, _, _, rfl, by decide, ⟨175, rfl⟩, rfl⟩
set_option maxRecDepth 20000 in
theorem e_fl_4_33 : e_flok (4, 33, 4, 3) := ⟨_, _, _, rfl, by decide, ⟨178, rfl⟩, rfl⟩
set_option maxRecDepth 20000 in
theorem e_fl_5_12 : e_flok (5, 12, 5, 0) := ⟨_, _, _, rfl, by decide, ⟨266, rfl⟩, rfl⟩
set_option maxRecDepth 20000 in
theorem e_fl_5_20 : e_flok (5, 20, 5, 1) := ⟨_, _, _, rfl, by decide, ⟨267, rfl⟩, rfl⟩
set_option maxRecDepth 20000 in
theorem e_fl_5_23 : e_flok (5, 23, 5, 2) := ⟨_, _, _, rfl, by decide, ⟨268, rfl⟩, rfl⟩
set_option maxRecDepth 20000 in
theorem e_fl_5_27 : e_flok (5, 27, 5, 3) := ⟨_, _, _, rfl, by decide, ⟨269, rfl⟩, rfl⟩
set_option maxRecDepth 20000 in
theorem e_fl_5_38 : e_flok (5, 38, 1, 5) := ⟨_, _, _, rfl, by decide, ⟨218, rfl⟩, rfl⟩
set_option maxRecDepth 20000 in
theorem e_fl_5_44 : e_flok (5, 44, 4, 4) := ⟨_, _, _, rfl, by decide, ⟨182, rfl⟩, rfl⟩
set_option maxRecDepth 20000 in
theorem e_fl_5_50 : e_flok (5, 50, 7, 5) := ⟨_, _, _, rfl, by decide, ⟨91, rfl⟩, rfl⟩
set_option maxRecDepth 20000 in
theorem e_fl_5_56 : e_flok (5, 56, 5, 4) := ⟨_, _, _, rfl, by decide, ⟨271, rfl⟩, rfl⟩
set_option maxRecDepth 20000 in
theorem e_fl_5_70 : e_flok (5, 70, 1, 2) := ⟨_, _, _, rfl, by decide, ⟨210, rfl⟩, rfl⟩
set_option maxRecDepth 20000 in
theorem e_fl_6_9 : e_flok (6, 9, 6, 0) := ⟨_, _, _, rfl, by decide, ⟨290, rfl⟩, rfl⟩
set_option maxRecDepth 20000 in
theorem e_fl_6_15 : e_flok (6, 15, 6, 2) := ⟨_, _, _, rfl, by decide, ⟨294, rfl⟩, rfl⟩
set_option maxRecDepth 20000 in
theorem e_fl_6_19 : e_flok (6, 19, 6, 3) := ⟨_, _, _, rfl, by decide, ⟨295, rfl⟩, rfl⟩
set_option maxRecDepth 20000 in
theorem e_fl_6_25 : e_flok (6, 25, 6, 1) := ⟨_, _, _, rfl, by decide, ⟨292, rfl⟩, rfl⟩
set_option maxRecDepth 20000 in
theorem e_fl_7_9 : e_flok (7, 9, 7, 0) := ⟨_, _, _, rfl, by decide, ⟨79, rfl⟩, rfl⟩
set_option maxRecDepth 20000 in
theorem e_fl_7_15 : e_flok (7, 15, 7, 1) := ⟨_, _, _, rfl, by decide, ⟨82, rfl⟩, rfl⟩
set_option maxRecDepth 20000 in
theorem e_fl_7_19 : e_flok (7, 19, 7, 2) := ⟨_, _, _, rfl, by decide, ⟨84, rfl⟩, rfl⟩
set_option maxRecDepth 20000 in
theorem e_fl_7_22 : e_flok (7, 22, 7, 3) := ⟨_, _, _, rfl, by decide, ⟨86, rfl⟩, rfl⟩
set_option maxRecDepth 20000 in
theorem e_fl_7_25 : e_flok (7, 25, 7, 4) := ⟨_, _, _, rfl, by decide, ⟨88, rfl⟩, rfl⟩
set_option maxRecDepth 20000 in
theorem e_fl_7_28 : e_flok (7, 28, 7, 5) := ⟨_, _, _, rfl, by decide, ⟨90, rfl⟩, rfl⟩
set_option maxRecDepth 20000 in
theorem e_fl_7_31 : e_flok (7, 31, 7, 6) := ⟨_, _, _, rfl, by decide, ⟨94, rfl⟩, rfl⟩
set_option maxRecDepth 20000 in
theorem e_fl_7_34 : e_flok (7, 34, 7, 7) := ⟨_, _, _, rfl, by decide, ⟨96, rfl⟩, rfl⟩
set_option maxRecDepth 20000 in
theorem e_fl_7_37 : e_flok (7, 37, 7, 8) := ⟨_, _, _, rfl, by decide, ⟨98, rfl⟩, rfl⟩
set_option maxRecDepth 20000 in
theorem e_fl_7_40 : e_flok (7, 40, 7, 9) := ⟨_, _, _, rfl, by decide, ⟨100, rfl⟩, rfl⟩
set_option maxRecDepth 20000 in
theorem e_fl_7_43 : e_flok (7, 43, 7, 10) := ⟨_, _, _, rfl, by decide, ⟨101, rfl⟩, rfl⟩
set_option maxRecDepth 20000 in
theorem e_fl_7_46 : e_flok (7, 46, 7, 11) := ⟨_, _, _, rfl, by decide, ⟨102, rfl⟩, rfl⟩
set_option maxRecDepth 20000 in
theorem e_fl_8_10 : e_flok (8, 10, 8, 0) := ⟨_, _, _, rfl, by decide, ⟨324, rfl⟩, rfl⟩
set_option maxRecDepth 20000 in
theorem e_fl_8_19 : e_flok (8, 19, 8, 1) := ⟨_, _, _, rfl, by decide, ⟨325, rfl⟩, rfl⟩
set_option maxRecDepth 20000 in
theorem e_fl_8_26 : e_flok (8, 26, 8, 2) := ⟨_, _, _, rfl, by decide, ⟨326, rfl⟩, rfl⟩
set_option maxRecDepth 20000 in
theorem e_fl_8_33 : e_flok (8, 33, 8, 3) := ⟨_, _, _, rfl, by decide, ⟨327, rfl⟩, rfl⟩
set_option maxRecDepth 20000 in
theorem e_fl_8_40 : e_flok (8, 40, 8, 4) := ⟨_, _, _, rfl, by decide, ⟨328, rfl⟩, rfl⟩
set_option maxRecDepth 20000 in
theorem e_fl_8_44 : e_flok (8, 44, 8, 5) := ⟨_, _, _, rfl, by decide, ⟨329, rfl⟩, rfl⟩
set_option maxRecDepth 20000 in
theorem e_fl_8_48 : e_flok (8, 48, 8, 6) := ⟨_, _, _, rfl, by decide, ⟨330, rfl⟩, rfl⟩
set_option maxRecDepth 20000 in
theorem e_fl_8_63 : e_flok (8, 63, 1, 1) := ⟨_, _, _, rfl, by decide, ⟨206, rfl⟩, rfl⟩
set_option maxRecDepth 20000 in
theorem e_fl_8_71 : e_flok (8, 71, 1, 2) := ⟨_, _, _, rfl, by decide, ⟨211, rfl⟩, rfl⟩
set_option maxRecDepth 20000 in
theorem e_fl_8_74 : e_flok (8, 74, 1, 5) := ⟨_, _, _, rfl, by decide, ⟨220, rfl⟩, rfl⟩
set_option maxRecDepth 20000 in
theorem e_fl_8_78 : e_flok (8, 78, 4, 0) := ⟨_, _, _, rfl, by decide, ⟨170, rfl⟩, rfl⟩
set_option maxRecDepth 20000 in
theorem e_fl_8_83 : e_flok (8, 83, 4, 1) := ⟨_, _, _, rfl, by decide, ⟨173, rfl⟩, rfl⟩
set_option maxRecDepth 20000 in
theorem e_fl_8_86 : e_flok (8, 86, 4, 2) := ⟨_, _, _, rfl, by decide, ⟨177, rfl⟩, rfl⟩
set_option maxRecDepth 20000 in
theorem e_fl_8_89 : e_flok (8, 89, 4, 3) := ⟨_, _, _, rfl, by decide, ⟨180, rfl⟩, rfl⟩
set_option maxRecDepth 20000 in
theorem e_fl_8_99 : e_flok (8, 99, 1, 4) := ⟨_, _, _, rfl, by decide, ⟨216, rfl⟩, rfl⟩
set_option maxRecDepth 20000 in
theorem e_fl_8_102 : e_flok (8, 102, 6, 1) := ⟨_, _, _, rfl, by decide, ⟨293, rfl⟩, rfl⟩
set_option maxRecDepth 20000 in
theorem e_fl_8_105 : e_flok (8, 105, 6, 0) := ⟨_, _, _, rfl, by decide, ⟨291, rfl⟩, rfl⟩
set_option maxRecDepth 20000 in
theorem e_fl_8_119 : e_flok (8, 119, 6, 3) := ⟨_, _, _, rfl, by decide, ⟨296, rfl⟩, rfl⟩
set_option maxRecDepth 20000 in
theorem e_fl_8_122 : e_flok (8, 122, 4, 4) := ⟨_, _, _, rfl, by decide, ⟨185, rfl⟩, rfl⟩
set_option maxRecDepth 20000 in
theorem e_fl_8_126 : e_flok (8, 126, 7, 0) := ⟨_, _, _, rfl, by decide, ⟨81, rfl⟩, rfl⟩
set_option maxRecDepth 20000 in
theorem e_fl_8_132 : e_flok (8, 132, 7, 1) := ⟨_, _, _, rfl, by decide, ⟨83, rfl⟩, rfl⟩
set_option maxRecDepth 20000 in
theorem e_fl_8_135 : e_flok (8, 135, 7, 2) := ⟨_, _, _, rfl, by decide, ⟨85, rfl⟩, rfl⟩
set_option maxRecDepth 20000 in
theorem e_fl_8_138 : e_flok (8, 138, 7, 3) := ⟨_, _, _, rfl, by decide, ⟨87, rfl⟩, rfl⟩
set_option maxRecDepth 20000 in
theorem e_fl_8_141 : e_flok (8, 141, 7, 4) := ⟨_, _, _, rfl, by decide, ⟨89, rfl⟩, rfl⟩
set_option maxRecDepth 20000 in
theorem e_fl_8_147 : e_flok (8, 147, 7, 5) := ⟨_, _, _, rfl, by decide, ⟨93, rfl⟩, rfl⟩
set_option maxRecDepth 20000 in
theorem e_fl_8_153 : e_flok (8, 153, 4, 5) := ⟨_, _, _, rfl, by decide, ⟨189, rfl⟩, rfl⟩
set_option maxRecDepth 20000 in
theorem e_fl_8_157 : e_flok (8, 157, 0, 0) := ⟨_, _, _, rfl, by decide, ⟨136, rfl⟩, rfl⟩
set_option maxRecDepth 20000 in
theorem e_fl_8_160 : e_flok (8, 160, 0, 1) := ⟨_, _, _, rfl, by decide, ⟨138, rfl⟩, rfl⟩
set_option maxRecDepth 20000 in
theorem e_fl_8_163 : e_flok (8, 163, 0, 2) := ⟨_, _, _, rfl, by decide, ⟨140, rfl⟩, rfl⟩
set_option maxRecDepth 20000 in
theorem e_fl_8_166 : e_flok (8, 166, 0, 3) := ⟨_, _, _, rfl, by decide, ⟨142, rfl⟩, rfl⟩
set_option maxRecDepth 20000 in
theorem e_fl_8_169 : e_flok (8, 169, 0, 4) := ⟨_, _, _, rfl, by decide, ⟨144, rfl⟩, rfl⟩
set_option maxRecDepth 20000 in
theorem e_fl_8_172 : e_flok (8, 172, 0, 5) := ⟨_, _, _, rfl, by decide, ⟨146, rfl⟩, rfl⟩
set_option maxRecDepth 20000 in
theorem e_fl_8_176 : e_flok (8, 176, 0, 6) := ⟨_, _, _, rfl, by decide, ⟨149, rfl⟩, rfl⟩
set_option maxRecDepth 20000 in
theorem e_fl_8_187 : e_flok (8, 187, 1, 0) := ⟨_, _, _, rfl, by decide, ⟨204, rfl⟩, rfl⟩
set_option maxRecDepth 20000 in
theorem e_fl_8_207 : e_flok (8, 207, 1, 3) := ⟨_, _, _, rfl, by decide, ⟨213, rfl⟩, rfl⟩
set_option maxRecDepth 20000 in
theorem e_fl_8_213 : e_flok (8, 213, 2, 2) := ⟨_, _, _, rfl, by decide, ⟨248, rfl⟩, rfl⟩
set_option maxRecDepth 20000 in
theorem e_fl_8_216 : e_flok (8, 216, 2, 0) := ⟨_, _, _, rfl, by decide, ⟨242, rfl⟩, rfl⟩
set_option maxRecDepth 20000 in
theorem e_fl_8_219 : e_flok (8, 219, 2, 1) := ⟨_, _, _, rfl, by decide, ⟨245, rfl⟩, rfl⟩
set_option maxRecDepth 20000 in
theorem e_fl_8_222 : e_flok (8, 222, 7, 6) := ⟨_, _, _, rfl, by decide, ⟨95, rfl⟩, rfl⟩
set_option maxRecDepth 20000 in
theorem e_fl_8_225 : e_flok (8, 225, 7, 8) := ⟨_, _, _, rfl, by decide, ⟨99, rfl⟩, rfl⟩
set_option maxRecDepth 20000 in
theorem e_fl_8_228 : e_flok (8, 228, 7, 7) := ⟨_, _, _, rfl, by decide, ⟨97, rfl⟩, rfl⟩
set_option maxRecDepth 20000 in
theorem e_fl_8_235 : e_flok (8, 235, 5, 4) := ⟨_, _, _, rfl, by decide, ⟨272, rfl⟩, rfl⟩
set_option maxRecDepth 20000 in
theorem e_fl_8_236 : e_flok (8, 236, 5, 3) := ⟨_, _, _, rfl, by decide, ⟨270, rfl⟩, rfl⟩
set_option maxRecDepth 20000 in
theorem e_fl_8_239 : e_flok (8, 239, 3, 1) := ⟨_, _, _, rfl, by decide, ⟨318, rfl⟩, rfl⟩
set_option maxRecDepth 20000 in
theorem e_fl_8_260 : e_flok (8, 260, 0, 7) := ⟨_, _, _, rfl, by decide, ⟨151, rfl⟩, rfl⟩
set_option maxRecDepth 20000 in
theorem e_fl_9_7 : e_flok (9, 7, 9, 0) := ⟨_, _, _, rfl, by decide, ⟨687, rfl⟩, rfl⟩
set_option maxRecDepth 20000 in
theorem e_fl_9_13 : e_flok (9, 13, 9, 1) := ⟨_, _, _, rfl, by decide, ⟨688, rfl⟩, rfl⟩
set_option maxRecDepth 20000 in
theorem e_fl_9_16 : e_flok (9, 16, 9, 3) := ⟨_, _, _, rfl, by decide, ⟨690, rfl⟩, rfl⟩
set_option maxRecDepth 20000 in
theorem e_fl_9_19 : e_flok (9, 19, 9, 5) := ⟨_, _, _, rfl, by decide, ⟨692, rfl⟩, rfl⟩
set_option maxRecDepth 20000 in
theorem e_fl_9_22 : e_flok (9, 22, 9, 6) := ⟨_, _, _, rfl, by decide, ⟨693, rfl⟩, rfl⟩
set_option maxRecDepth 20000 in
theorem e_fl_9_25 : e_flok (9, 25, 9, 7) := ⟨_, _, _, rfl, by decide, ⟨694, rfl⟩, rfl⟩
set_option maxRecDepth 20000 in
theorem e_fl_9_28 : e_flok (9, 28, 9, 8) := ⟨_, _, _, rfl, by decide, ⟨695, rfl⟩, rfl⟩
set_option maxRecDepth 20000 in
theorem e_fl_9_31 : e_flok (9, 31, 9, 10) := ⟨_, _, _, rfl, by decide, ⟨697, rfl⟩, rfl⟩
set_option maxRecDepth 20000 in
theorem e_fl_9_34 : e_flok (9, 34, 9, 11) := ⟨_, _, _, rfl, by decide, ⟨698, rfl⟩, rfl⟩
set_option maxRecDepth 20000 in
theorem e_fl_9_45 : e_flok (9, 45, 9, 2) := ⟨_, _, _, rfl, by decide, ⟨689, rfl⟩, rfl⟩
set_option maxRecDepth 20000 in
theorem e_fl_9_68 : e_flok (9, 68, 9, 4) := ⟨_, _, _, rfl, by decide, ⟨691, rfl⟩, rfl⟩
set_option maxRecDepth 20000 in
theorem e_fl_9_71 : e_flok (9, 71, 9, 9) := ⟨_, _, _, rfl, by decide, ⟨696, rfl⟩, rfl⟩
set_option maxRecDepth 20000 in
theorem e_ml_0_37 : e_mlok (0, 37, 3, 0) := ⟨⟨525, rfl⟩, rfl⟩
set_option maxRecDepth 20000 in
theorem e_ml_0_41 : e_mlok (0, 41, 5, 0) := ⟨⟨526, rfl⟩, rfl⟩
set_option maxRecDepth 20000 in
theorem e_ml_1_25 : e_mlok (1, 25, 26, 1) := ⟨⟨69, rfl⟩, rfl⟩
set_option maxRecDepth 20000 in
theorem e_ml_1_41 : e_mlok (1, 41, 27, 0) := ⟨⟨375, rfl⟩, rfl⟩
set_option maxRecDepth 20000 in
theorem e_ml_1_55 : e_mlok (1, 55, 42, 0) := ⟨⟨489, rfl⟩, rfl⟩
set_option maxRecDepth 20000 in
theorem e_ml_1_60 : e_mlok (1, 60, 12, 0) := ⟨⟨497, rfl⟩, rfl⟩
set_option maxRecDepth 20000 in
theorem e_ml_1_68 : e_mlok (1, 68, 3, 0) := ⟨⟨504, rfl⟩, rfl⟩
set_option maxRecDepth 20000 in
theorem e_ml_1_74 : e_mlok (1, 74, 5, 0) := ⟨⟨508, rfl⟩, rfl⟩
set_option maxRecDepth 20000 in
theorem e_ml_1_82 : e_mlok (1, 82, 4, 0) := ⟨⟨538, rfl⟩, rfl⟩
set_option maxRecDepth 20000 in
theorem e_ml_1_90 : e_mlok (1, 90, 7, 0) := ⟨⟨542, rfl⟩, rfl⟩
set_option maxRecDepth 20000 in
theorem e_ml_1_94 : e_mlok (1, 94, 8, 0) := ⟨⟨546, rfl⟩, rfl⟩
set_option maxRecDepth 20000 in
theorem e_ml_1_97 : e_mlok (1, 97, 9, 0) := ⟨⟨550, rfl⟩, rfl⟩
set_option maxRecDepth 20000 in
theorem e_ml_1_109 : e_mlok (1, 109, 43, 0) := ⟨⟨558, rfl⟩, rfl⟩
set_option maxRecDepth 20000 in
theorem e_ml_1_112 : e_mlok (1, 112, 44, 0) := ⟨⟨562, rfl⟩, rfl⟩
set_option maxRecDepth 20000 in
theorem e_ml_1_113 : e_mlok (1, 113, 45, 0) := ⟨⟨566, rfl⟩, rfl⟩
set_option maxRecDepth 20000 in
theorem e_ml_1_114 : e_mlok (1, 114, 46, 0) := ⟨⟨570, rfl⟩, rfl⟩
set_option maxRecDepth 20000 in
theorem e_ml_2_21 : e_mlok (2, 21, 12, 0) := ⟨⟨516, rfl⟩, rfl⟩
set_option maxRecDepth 20000 in
theorem e_ml_2_27 : e_mlok (2, 27, 19, 0) := ⟨⟨517, rfl⟩, rfl⟩
set_option maxRecDepth 20000 in
theorem e_ml_2_31 : e_mlok (2, 31, 20, 0) := ⟨⟨527, rfl⟩, rfl⟩
set_option maxRecDepth 20000 in
theorem e_ml_2_58 : e_mlok (2, 58, 6, 0) := ⟨⟨521, rfl⟩, rfl⟩
set_option maxRecDepth 20000 in
theorem e_ml_2_88 : e_mlok (2, 88, 79, 1) := ⟨⟨578, rfl⟩, rfl⟩
set_option maxRecDepth 20000 in
theorem e_ml_3_17 : e_mlok (3, 17, 10, 0) := ⟨⟨315, rfl⟩, rfl⟩
set_option maxRecDepth 20000 in
theorem e_ml_3_22 : e_mlok (3, 22, 24, 0) := ⟨⟨364, rfl⟩, rfl⟩
set_option maxRecDepth 20000 in
theorem e_ml_3_25 : e_mlok (3, 25, 11, 0) := ⟨⟨368, rfl⟩, rfl⟩
set_option maxRecDepth 20000 in
theorem e_ml_4_9 : e_mlok (4, 9, 40, 1) := ⟨⟨75, rfl⟩, rfl⟩
set_option maxRecDepth 20000 in
theorem e_ml_4_18 : e_mlok (4, 18, 1, 1) := ⟨⟨131, rfl⟩, rfl⟩
set_option maxRecDepth 20000 in
theorem e_ml_4_36 : e_mlok (4, 36, 41, 0) := ⟨⟨379, rfl⟩, rfl⟩
set_option maxRecDepth 20000 in
theorem e_ml_4_40 : e_mlok (4, 40, 2, 0) := ⟨⟨383, rfl⟩, rfl⟩
set_option maxRecDepth 20000 in
theorem e_ml_5_11 : e_mlok (5, 11, 17, 1) := ⟨⟨263, rfl⟩, rfl⟩
set_option maxRecDepth 20000 in
theorem e_ml_5_30 : e_mlok (5, 30, 30, 0) := ⟨⟨627, rfl⟩, rfl⟩
set_option maxRecDepth 20000 in
theorem e_ml_5_34 : e_mlok (5, 34, 31, 0) := ⟨⟨635, rfl⟩, rfl⟩
set_option maxRecDepth 20000 in
theorem e_ml_5_60 : e_mlok (5, 60, 32, 0) := ⟨⟨642, rfl⟩, rfl⟩
set_option maxRecDepth 20000 in
theorem e_ml_5_63 : e_mlok (5, 63, 19, 0) := ⟨⟨631, rfl⟩, rfl⟩
set_option maxRecDepth 20000 in
theorem e_ml_5_67 : e_mlok (5, 67, 20, 0) := ⟨⟨632, rfl⟩, rfl⟩
set_option maxRecDepth 20000 in
theorem e_ml_5_73 : e_mlok (5, 73, 21, 0) := ⟨⟨633, rfl⟩, rfl⟩
set_option maxRecDepth 20000 in
theorem e_ml_6_22 : e_mlok (6, 22, 39, 0) := ⟨⟨426, rfl⟩, rfl⟩
set_option maxRecDepth 20000 in
theorem e_ml_6_28 : e_mlok (6, 28, 35, 0) := ⟨⟨430, rfl⟩, rfl⟩
set_option maxRecDepth 20000 in
theorem e_ml_6_32 : e_mlok (6, 32, 36, 0) := ⟨⟨434, rfl⟩, rfl⟩
set_option maxRecDepth 20000 in
theorem e_ml_6_36 : e_mlok (6, 36, 37, 0) := ⟨⟨439, rfl⟩, rfl⟩
set_option maxRecDepth 20000 in
theorem e_ml_6_40 : e_mlok (6, 40, 38, 0) := ⟨⟨443, rfl⟩, rfl⟩
set_option maxRecDepth 20000 in
theorem e_ml_6_44 : e_mlok (6, 44, 79, 1) := ⟨⟨438, rfl⟩, rfl⟩
set_option maxRecDepth 20000 in
theorem e_ml_8_9 : e_mlok (8, 9, 10, 0) := ⟨⟨62, rfl⟩, rfl⟩
set_option maxRecDepth 20000 in
theorem e_ml_8_18 : e_mlok (8, 18, 17, 1) := ⟨⟨236, rfl⟩, rfl⟩
set_option maxRecDepth 20000 in
theorem e_ml_8_25 : e_mlok (8, 25, 28, 1) := ⟨⟨258, rfl⟩, rfl⟩
set_option maxRecDepth 20000 in
theorem e_ml_8_32 : e_mlok (8, 32, 33, 1) := ⟨⟨286, rfl⟩, rfl⟩
set_option maxRecDepth 20000 in
theorem e_ml_8_39 : e_mlok (8, 39, 22, 0) := ⟨⟨309, rfl⟩, rfl⟩
set_option maxRecDepth 20000 in
theorem e_ml_8_51 : e_mlok (8, 51, 79, 0) := ⟨⟨350, rfl⟩, rfl⟩
set_option maxRecDepth 20000 in
theorem e_ml_8_55 : e_mlok (8, 55, 88, 0) := ⟨⟨353, rfl⟩, rfl⟩
set_option maxRecDepth 20000 in
theorem e_ml_8_59 : e_mlok (8, 59, 23, 0) := ⟨⟨360, rfl⟩, rfl⟩
set_option maxRecDepth 20000 in
theorem e_ml_8_67 : e_mlok (8, 67, 81, 0) := ⟨⟨391, rfl⟩, rfl⟩
set_option maxRecDepth 20000 in
theorem e_ml_8_92 : e_mlok (8, 92, 84, 0) := ⟨⟨398, rfl⟩, rfl⟩
set_option maxRecDepth 20000 in
theorem e_ml_8_96 : e_mlok (8, 96, 80, 0) := ⟨⟨406, rfl⟩, rfl⟩
set_option maxRecDepth 20000 in
theorem e_ml_8_115 : e_mlok (8, 115, 34, 0) := ⟨⟨422, rfl⟩, rfl⟩
set_option maxRecDepth 20000 in
theorem e_ml_8_144 : e_mlok (8, 144, 85, 0) := ⟨⟨455, rfl⟩, rfl⟩
set_option maxRecDepth 20000 in
theorem e_ml_8_150 : e_mlok (8, 150, 82, 0) := ⟨⟨463, rfl⟩, rfl⟩
set_option maxRecDepth 20000 in
theorem e_ml_8_173 : e_mlok (8, 173, 86, 0) := ⟨⟨470, rfl⟩, rfl⟩
set_option maxRecDepth 20000 in
theorem e_ml_8_179 : e_mlok (8, 179, 83, 0) := ⟨⟨474, rfl⟩, rfl⟩
set_option maxRecDepth 20000 in
theorem e_ml_8_183 : e_mlok (8, 183, 61, 0) := ⟨⟨481, rfl⟩, rfl⟩
set_option maxRecDepth 20000 in
theorem e_ml_8_190 : e_mlok (8, 190, 13, 0) := ⟨⟨485, rfl⟩, rfl⟩
set_option maxRecDepth 20000 in
theorem e_ml_8_193 : e_mlok (8, 193, 14, 0) := ⟨⟨493, rfl⟩, rfl⟩
set_option maxRecDepth 20000 in
theorem e_ml_8_196 : e_mlok (8, 196, 18, 0) := ⟨⟨512, rfl⟩, rfl⟩
set_option maxRecDepth 20000 in
theorem e_ml_8_199 : e_mlok (8, 199, 15, 0) := ⟨⟨534, rfl⟩, rfl⟩
set_option maxRecDepth 20000 in
theorem e_ml_8_203 : e_mlok (8, 203, 16, 0) := ⟨⟨554, rfl⟩, rfl⟩
set_option maxRecDepth 20000 in
theorem e_ml_8_210 : e_mlok (8, 210, 21, 0) := ⟨⟨574, rfl⟩, rfl⟩
set_option maxRecDepth 20000 in
theorem e_ml_8_231 : e_mlok (8, 231, 29, 0) := ⟨⟨623, rfl⟩, rfl⟩
set_option maxRecDepth 20000 in
theorem e_ml_8_240 : e_mlok (8, 240, 25, 0) := ⟨⟨658, rfl⟩, rfl⟩
set_option maxRecDepth 20000 in
theorem e_ml_8_243 : e_mlok (8, 243, 87, 0) := ⟨⟨357, rfl⟩, rfl⟩
set_option maxRecDepth 20000 in
theorem e_ml_8_248 : e_mlok (8, 248, 78, 0) := ⟨⟨671, rfl⟩, rfl⟩
set_option maxRecDepth 20000 in
theorem e_ml_8_252 : e_mlok (8, 252, 76, 0) := ⟨⟨675, rfl⟩, rfl⟩
set_option maxRecDepth 20000 in
theorem e_ml_8_256 : e_mlok (8, 256, 77, 0) := ⟨⟨678, rfl⟩, rfl⟩
set_option maxRecDepth 20000 in
theorem e_ml_9_37 : e_mlok (9, 37, 90, 0) := ⟨⟨728, rfl⟩, rfl⟩
set_option maxRecDepth 20000 in
theorem e_ml_9_41 : e_mlok (9, 41, 93, 0) := ⟨⟨750, rfl⟩, rfl⟩
set_option maxRecDepth 20000 in
theorem e_ml_9_49 : e_mlok (9, 49, 91, 0) := ⟨⟨731, rfl⟩, rfl⟩
set_option maxRecDepth 20000 in
theorem e_ml_9_53 : e_mlok (9, 53, 96, 0) := ⟨⟨735, rfl⟩, rfl⟩
set_option maxRecDepth 20000 in
theorem e_ml_9_56 : e_mlok (9, 56, 98, 0) := ⟨⟨743, rfl⟩, rfl⟩
set_option maxRecDepth 20000 in
theorem e_ml_9_60 : e_mlok (9, 60, 95, 0) := ⟨⟨746, rfl⟩, rfl⟩
set_option maxRecDepth 20000 in
theorem e_ml_9_64 : e_mlok (9, 64, 92, 0) := ⟨⟨757, rfl⟩, rfl⟩
set_option maxRecDepth 20000 in
theorem e_ml_9_74 : e_mlok (9, 74, 104, 0) := ⟨⟨777, rfl⟩, rfl⟩
set_option maxRecDepth 20000 in
theorem e_ml_9_78 : e_mlok (9, 78, 106, 0) := ⟨⟨785, rfl⟩, rfl⟩
set_option maxRecDepth 20000 in
theorem e_ml_9_81 : e_mlok (9, 81, 105, 0) := ⟨⟨789, rfl⟩, rfl⟩
set_option maxRecDepth 20000 in
theorem e_ml_9_84 : e_mlok (9, 84, 107, 0) := ⟨⟨781, rfl⟩, rfl⟩
set_option maxRecDepth 20000 in
theorem e_ml_9_88 : e_mlok (9, 88, 94, 0) := ⟨⟨797, rfl⟩, rfl⟩
set_option maxRecDepth 20000 in
theorem e_ml_9_91 : e_mlok (9, 91, 110, 0) := ⟨⟨805, rfl⟩, rfl⟩
set_option maxRecDepth 20000 in
theorem e_ml_9_94 : e_mlok (9, 94, 115, 0) := ⟨⟨833, rfl⟩, rfl⟩
set_option maxRecDepth 20000 in
theorem e_ml_9_97 : e_mlok (9, 97, 114, 0) := ⟨⟨829, rfl⟩, rfl⟩
set_option maxRecDepth 20000 in
theorem e_ml_9_100 : e_mlok (9, 100, 116, 0) := ⟨⟨841, rfl⟩, rfl⟩
set_option maxRecDepth 20000 in
theorem e_ml_9_104 : e_mlok (9, 104, 121, 0) := ⟨⟨853, rfl⟩, rfl⟩
set_option maxRecDepth 20000 in
theorem e_ml_9_107 : e_mlok (9, 107, 122, 0) := ⟨⟨857, rfl⟩, rfl⟩
set_option maxRecDepth 20000 in
theorem e_ml_9_111 : e_mlok (9, 111, 119, 0) := ⟨⟨825, rfl⟩, rfl⟩
set_option maxRecDepth 20000 in
theorem e_ml_9_114 : e_mlok (9, 114, 118, 0) := ⟨⟨837, rfl⟩, rfl⟩
set_option maxRecDepth 20000 in
theorem e_ml_9_117 : e_mlok (9, 117, 120, 0) := ⟨⟨845, rfl⟩, rfl⟩
set_option maxRecDepth 20000 in
theorem e_ml_9_120 : e_mlok (9, 120, 123, 0) := ⟨⟨849, rfl⟩, rfl⟩
set_option maxRecDepth 20000 in
theorem e_ml_9_124 : e_mlok (9, 124, 117, 0) := ⟨⟨861, rfl⟩, rfl⟩
set_option maxRecDepth 20000 in
theorem e_ml_9_127 : e_mlok (9, 127, 124, 0) := ⟨⟨821, rfl⟩, rfl⟩
set_option maxRecDepth 20000 in
theorem e_ml_9_130 : e_mlok (9, 130, 130, 0) := ⟨⟨885, rfl⟩, rfl⟩
set_option maxRecDepth 20000 in
theorem e_ml_9_135 : e_mlok (9, 135, 137, 0) := ⟨⟨926, rfl⟩, rfl⟩
set_option maxRecDepth 20000 in
theorem e_ml_9_138 : e_mlok (9, 138, 138, 0) := ⟨⟨921, rfl⟩, rfl⟩
set_option maxRecDepth 20000 in
theorem e_ml_9_141 : e_mlok (9, 141, 139, 0) := ⟨⟨917, rfl⟩, rfl⟩
set_option maxRecDepth 20000 in
theorem e_ml_9_144 : e_mlok (9, 144, 140, 0) := ⟨⟨913, rfl⟩, rfl⟩
set_option maxRecDepth 20000 in
theorem e_ml_9_151 : e_mlok (9, 151, 145, 0) := ⟨⟨946, rfl⟩, rfl⟩
set_option maxRecDepth 20000 in
theorem e_ml_10_9 : e_mlok (10, 9, 47, 0) := ⟨⟨54, rfl⟩, rfl⟩
set_option maxRecDepth 20000 in
theorem e_ml_10_12 : e_mlok (10, 12, 89, 0) := ⟨⟨683, rfl⟩, rfl⟩
set_option maxRecDepth 20000 in
theorem e_ml_10_13 : e_mlok (10, 13, 48, 0) := ⟨⟨346, rfl⟩, rfl⟩
set_option maxRecDepth 20000 in
theorem e_ml_10_17 : e_mlok (10, 17, 97, 0) := ⟨⟨724, rfl⟩, rfl⟩
set_option maxRecDepth 20000 in
theorem e_ml_10_18 : e_mlok (10, 18, 49, 0) := ⟨⟨387, rfl⟩, rfl⟩
set_option maxRecDepth 20000 in
theorem e_ml_10_22 : e_mlok (10, 22, 99, 0) := ⟨⟨739, rfl⟩, rfl⟩
set_option maxRecDepth 20000 in
theorem e_ml_10_23 : e_mlok (10, 23, 50, 0) := ⟨⟨394, rfl⟩, rfl⟩
set_option maxRecDepth 20000 in
theorem e_ml_10_27 : e_mlok (10, 27, 100, 0) := ⟨⟨753, rfl⟩, rfl⟩
set_option maxRecDepth 20000 in
theorem e_ml_10_28 : e_mlok (10, 28, 51, 0) := ⟨⟨402, rfl⟩, rfl⟩
set_option maxRecDepth 20000 in
theorem e_ml_10_32 : e_mlok (10, 32, 101, 0) := ⟨⟨761, rfl⟩, rfl⟩
set_option maxRecDepth 20000 in
theorem e_ml_10_33 : e_mlok (10, 33, 52, 0) := ⟨⟨409, rfl⟩, rfl⟩
set_option maxRecDepth 20000 in
theorem e_ml_10_36 : e_mlok (10, 36, 102, 0) := ⟨⟨765, rfl⟩, rfl⟩
set_option maxRecDepth 20000 in
theorem e_ml_10_37 : e_mlok (10, 37, 53, 0) := ⟨⟨413, rfl⟩, rfl⟩
set_option maxRecDepth 20000 in
theorem e_ml_10_41 : e_mlok (10, 41, 103, 0) := ⟨⟨769, rfl⟩, rfl⟩
set_option maxRecDepth 20000 in
theorem e_ml_10_42 : e_mlok (10, 42, 54, 0) := ⟨⟨417, rfl⟩, rfl⟩
set_option maxRecDepth 20000 in
theorem e_ml_10_45 : e_mlok (10, 45, 108, 0) := ⟨⟨773, rfl⟩, rfl⟩
set_option maxRecDepth 20000 in
theorem e_ml_10_46 : e_mlok (10, 46, 55, 0) := ⟨⟨447, rfl⟩, rfl⟩
set_option maxRecDepth 20000 in
theorem e_ml_10_50 : e_mlok (10, 50, 109, 0) := ⟨⟨793, rfl⟩, rfl⟩
set_option maxRecDepth 20000 in
theorem e_ml_10_51 : e_mlok (10, 51, 56, 0) := ⟨⟨451, rfl⟩, rfl⟩
set_option maxRecDepth 20000 in
theorem e_ml_10_54 : e_mlok (10, 54, 111, 0) := ⟨⟨801, rfl⟩, rfl⟩
set_option maxRecDepth 20000 in
theorem e_ml_10_55 : e_mlok (10, 55, 57, 0) := ⟨⟨459, rfl⟩, rfl⟩
set_option maxRecDepth 20000 in
theorem e_ml_10_59 : e_mlok (10, 59, 112, 0) := ⟨⟨809, rfl⟩, rfl⟩
set_option maxRecDepth 20000 in
theorem e_ml_10_60 : e_mlok (10, 60, 58, 0) := ⟨⟨466, rfl⟩, rfl⟩
set_option maxRecDepth 20000 in
theorem e_ml_10_63 : e_mlok (10, 63, 113, 0) := ⟨⟨813, rfl⟩, rfl⟩
set_option maxRecDepth 20000 in
theorem e_ml_10_64 : e_mlok (10, 64, 59, 0) := ⟨⟨477, rfl⟩, rfl⟩
set_option maxRecDepth 20000 in
theorem e_ml_10_67 : e_mlok (10, 67, 125, 0) := ⟨⟨817, rfl⟩, rfl⟩
set_option maxRecDepth 20000 in
theorem e_ml_10_68 : e_mlok (10, 68, 60, 0) := ⟨⟨579, rfl⟩, rfl⟩
set_option maxRecDepth 20000 in
theorem e_ml_10_71 : e_mlok (10, 71, 126, 0) := ⟨⟨865, rfl⟩, rfl⟩
set_option maxRecDepth 20000 in
theorem e_ml_10_72 : e_mlok (10, 72, 62, 0) := ⟨⟨583, rfl⟩, rfl⟩
set_option maxRecDepth 20000 in
theorem e_ml_10_75 : e_mlok (10, 75, 127, 0) := ⟨⟨869, rfl⟩, rfl⟩
set_option maxRecDepth 20000 in
theorem e_ml_10_76 : e_mlok (10, 76, 63, 0) := ⟨⟨587, rfl⟩, rfl⟩
set_option maxRecDepth 20000 in
theorem e_ml_10_79 : e_mlok (10, 79, 128, 0) := ⟨⟨873, rfl⟩, rfl⟩
set_option maxRecDepth 20000 in
theorem e_ml_10_80 : e_mlok (10, 80, 64, 0) := ⟨⟨591, rfl⟩, rfl⟩
set_option maxRecDepth 20000 in
theorem e_ml_10_83 : e_mlok (10, 83, 129, 0) := ⟨⟨877, rfl⟩, rfl⟩
set_option maxRecDepth 20000 in
theorem e_ml_10_84 : e_mlok (10, 84, 65, 0) := ⟨⟨595, rfl⟩, rfl⟩
set_option maxRecDepth 20000 in
theorem e_ml_10_87 : e_mlok (10, 87, 131, 0) := ⟨⟨881, rfl⟩, rfl⟩
set_option maxRecDepth 20000 in
theorem e_ml_10_88 : e_mlok (10, 88, 66, 0) := ⟨⟨599, rfl⟩, rfl⟩
set_option maxRecDepth 20000 in
theorem e_ml_10_91 : e_mlok (10, 91, 132, 0) := ⟨⟨889, rfl⟩, rfl⟩
set_option maxRecDepth 20000 in
theorem e_ml_10_92 : e_mlok (10, 92, 67, 0) := ⟨⟨603, rfl⟩, rfl⟩
set_option maxRecDepth 20000 in
theorem e_ml_10_95 : e_mlok (10, 95, 133, 0) := ⟨⟨893, rfl⟩, rfl⟩
set_option maxRecDepth 20000 in
theorem e_ml_10_96 : e_mlok (10, 96, 68, 0) := ⟨⟨607, rfl⟩, rfl⟩
set_option maxRecDepth 20000 in
theorem e_ml_10_99 : e_mlok (10, 99, 134, 0) := ⟨⟨897, rfl⟩, rfl⟩
set_option maxRecDepth 20000 in
theorem e_ml_10_100 : e_mlok (10, 100, 69, 0) := ⟨⟨611, rfl⟩, rfl⟩
set_option maxRecDepth 20000 in
theorem e_ml_10_103 : e_mlok (10, 103, 135, 0) := ⟨⟨901, rfl⟩, rfl⟩
set_option maxRecDepth 20000 in
theorem e_ml_10_104 : e_mlok (10, 104, 70, 0) := ⟨⟨615, rfl⟩, rfl⟩
set_option maxRecDepth 20000 in
theorem e_ml_10_107 : e_mlok (10, 107, 136, 0) := ⟨⟨905, rfl⟩, rfl⟩
set_option maxRecDepth 20000 in
theorem e_ml_10_108 : e_mlok (10, 108, 71, 0) := ⟨⟨619, rfl⟩, rfl⟩
set_option maxRecDepth 20000 in
theorem e_ml_10_111 : e_mlok (10, 111, 141, 0) := ⟨⟨909, rfl⟩, rfl⟩
set_option maxRecDepth 20000 in
theorem e_ml_10_112 : e_mlok (10, 112, 72, 0) := ⟨⟨650, rfl⟩, rfl⟩
set_option maxRecDepth 20000 in
theorem e_ml_10_115 : e_mlok (10, 115, 142, 0) := ⟨⟨929, rfl⟩, rfl⟩
set_option maxRecDepth 20000 in
theorem e_ml_10_116 : e_mlok (10, 116, 73, 0) := ⟨⟨654, rfl⟩, rfl⟩
set_option maxRecDepth 20000 in
theorem e_ml_10_119 : e_mlok (10, 119, 143, 0) := ⟨⟨933, rfl⟩, rfl⟩
set_option maxRecDepth 20000 in
theorem e_ml_10_120 : e_mlok (10, 120, 74, 0) := ⟨⟨662, rfl⟩, rfl⟩
set_option maxRecDepth 20000 in
theorem e_ml_10_123 : e_mlok (10, 123, 144, 0) := ⟨⟨937, rfl⟩, rfl⟩
set_option maxRecDepth 20000 in
theorem e_ml_10_124 : e_mlok (10, 124, 75, 0) := ⟨⟨666, rfl⟩, rfl⟩
set_option maxRecDepth 20000 in
theorem e_ml_10_128 : e_mlok (10, 128, 146, 0) := ⟨⟨941, rfl⟩, rfl⟩
def e_FLs_0 : List (Nat × Nat × Nat × Nat) := [(0, 9, 0, 0), (0, 15, 0, 1), (0, 19, 0, 2), (0, 22, 0, 3), (0, 25, 0, 4), (0, 28, 0, 5), (0, 31, 0, 6), (0, 34, 0, 7), (1, 9, 1, 1), (1, 15, 1, 4), (1, 21, 1, 5), (1, 26, 1, 0), (1, 29, 1, 2), (1, 32, 1, 3), (1, 51, 4, 4), (1, 64, 4, 5), (1, 78, 0, 6), (1, 85, 2, 1), (1, 100, 7, 0), (1, 103, 2, 2), (1, 106, 2, 0), (2, 9, 2, 0), (2, 15, 2, 1), (2, 18, 2, 2), (2, 35, 1, 4), (2, 38, 1, 2), (2, 42, 1, 5), (2, 46, 4, 2), (2, 51, 4, 3), (2, 54, 4, 5), (2, 64, 1, 1), (2, 67, 4, 4), (2, 71, 7, 5), (2, 76, 4, 0), (2, 79, 4, 1), (3, 11, 3, 0), (3, 18, 3, 1), (4, 10, 4, 4), (4, 19, 4, 5), (4, 23, 4, 0)]
theorem e_FLs_0_ok : ∀ q ∈ e_FLs_0, e_flok q := List.forall_mem_cons.mpr ⟨e_fl_0_9, List.forall_mem_cons.mpr ⟨e_fl_0_15, List.forall_mem_cons.mpr ⟨e_fl_0_19, List.forall_mem_cons.mpr ⟨e_fl_0_22, List.forall_mem_cons.mpr ⟨e_fl_0_25, List.forall_mem_cons.mpr ⟨e_fl_0_28, List.forall_mem_cons.mpr ⟨e_fl_0_31, List.forall_mem_cons.mpr ⟨e_fl_0_34, List.forall_mem_cons.mpr ⟨e_fl_1_9, List.forall_mem_cons.mpr ⟨e_fl_1_15, List.forall_mem_cons.mpr ⟨e_fl_1_21, List.forall_mem_cons.mpr ⟨e_fl_1_26, List.forall_mem_cons.mpr ⟨e_fl_1_29, List.forall_mem_cons.mpr ⟨e_fl_1_32, List.forall_mem_cons.mpr ⟨e_fl_1_51, List.forall_mem_cons.mpr ⟨e_fl_1_64, List.forall_mem_cons.mpr ⟨e_fl_1_78, List.forall_mem_cons.mpr ⟨e_fl_1_85, List.forall_mem_cons.mpr ⟨e_fl_1_100, List.forall_mem_cons.mpr ⟨e_fl_1_103, List.forall_mem_cons.mpr ⟨e_fl_1_106, List.forall_mem_cons.mpr ⟨e_fl_2_9, List.forall_mem_cons.mpr ⟨e_fl_2_15, List.forall_mem_cons.mpr ⟨e_fl_2_18, List.forall_mem_cons.mpr ⟨e_fl_2_35, List.forall_mem_cons.mpr ⟨e_fl_2_38, List.forall_mem_cons.mpr ⟨e_fl_2_42, List.forall_mem_cons.mpr ⟨e_fl_2_46, List.forall_mem_cons.mpr ⟨e_fl_2_51, List.forall_mem_cons.mpr ⟨e_fl_2_54, List.forall_mem_cons.mpr ⟨e_fl_2_64, List.forall_mem_cons.mpr ⟨e_fl_2_67, List.forall_mem_cons.mpr ⟨e_fl_2_71, List.forall_mem_cons.mpr ⟨e_fl_2_76, List.forall_mem_cons.mpr ⟨e_fl_2_79, List.forall_mem_cons.mpr ⟨e_fl_3_11, List.forall_mem_cons.mpr ⟨e_fl_3_18, List.forall_mem_cons.mpr ⟨e_fl_4_10, List.forall_mem_cons.mpr ⟨e_fl_4_19, List.forall_mem_cons.mpr ⟨e_fl_4_23, (fun _ h => absurd h List.not_mem_nil)⟩⟩⟩⟩⟩⟩⟩⟩⟩⟩⟩⟩⟩⟩⟩⟩⟩⟩⟩⟩⟩⟩⟩⟩⟩⟩⟩⟩⟩⟩⟩⟩⟩⟩⟩⟩⟩⟩⟩⟩
def e_FLs_1 : List (Nat × Nat × Nat × Nat) := [(4, 27, 4, 1), (4, 30, 4, 2), (4, 33, 4, 3), (5, 12, 5, 0), (5, 20, 5, 1), (5, 23, 5, 2), (5, 27, 5, 3), (5, 38, 1, 5), (5, 44, 4, 4), (5, 50, 7, 5), (5, 56, 5, 4), (5, 70, 1, 2), (6, 9, 6, 0), (6, 15, 6, 2), (6, 19, 6, 3), (6, 25, 6, 1), (7, 9, 7, 0), (7, 15, 7, 1), (7, 19, 7, 2), (7, 22, 7, 3), (7, 25, 7, 4), (7, 28, 7, 5), (7, 31, 7, 6), (7, 34, 7, 7), (7, 37, 7, 8), (7, 40, 7, 9), (7, 43, 7, 10), (7, 46, 7, 11), (8, 10, 8, 0), (8, 19, 8, 1), (8, 26, 8, 2), (8, 33, 8, 3), (8, 40, 8, 4), (8, 44, 8, 5), (8, 48, 8, 6), (8, 63, 1, 1), (8, 71, 1, 2), (8, 74, 1, 5), (8, 78, 4, 0), (8, 83, 4, 1)]
theorem e_FLs_1_ok : ∀ q ∈ e_FLs_1, e_flok q := List.forall_mem_cons.mpr ⟨e_fl_4_27, List.forall_mem_cons.mpr ⟨e_fl_4_30, List.forall_mem_cons.mpr ⟨e_fl_4_33, List.forall_mem_cons.mpr ⟨e_fl_5_12, List.forall_mem_cons.mpr ⟨e_fl_5_20, List.forall_mem_cons.mpr ⟨e_fl_5_23, List.forall_mem_cons.mpr ⟨e_fl_5_27, List.forall_mem_cons.mpr ⟨e_fl_5_38, List.forall_mem_cons.mpr ⟨e_fl_5_44, List.forall_mem_cons.mpr ⟨e_fl_5_50, List.forall_mem_cons.mpr ⟨e_fl_5_56, List.forall_mem_cons.mpr ⟨e_fl_5_70, List.forall_mem_cons.mpr ⟨e_fl_6_9, List.forall_mem_cons.mpr ⟨e_fl_6_15, List.forall_mem_cons.mpr ⟨e_fl_6_19, List.forall_mem_cons.mpr ⟨e_fl_6_25, List.forall_mem_cons.mpr ⟨e_fl_7_9, List.forall_mem_cons.mpr ⟨e_fl_7_15, List.forall_mem_cons.mpr ⟨e_fl_7_19, List.forall_mem_cons.mpr ⟨e_fl_7_22, List.forall_mem_cons.mpr ⟨e_fl_7_25, List.forall_mem_cons.mpr ⟨e_fl_7_28, List.forall_mem_cons.mpr ⟨e_fl_7_31, List.forall_mem_cons.mpr ⟨e_fl_7_34, List.forall_mem_cons.mpr ⟨e_fl_7_37, List.forall_mem_cons.mpr ⟨e_fl_7_40, List.forall_mem_cons.mpr ⟨e_fl_7_43, List.forall_mem_cons.mpr ⟨e_fl_7_46, List.forall_mem_cons.mpr ⟨e_fl_8_10, List.forall_mem_cons.mpr ⟨e_fl_8_19, List.forall_mem_cons.mpr ⟨e_fl_8_26, List.forall_mem_cons.mpr ⟨e_fl_8_33, List.forall_mem_cons.mpr ⟨e_fl_8_40, List.forall_mem_cons.mpr ⟨e_fl_8_44, List.forall_mem_cons.mpr ⟨e_fl_8_48, List.forall_mem_cons.mpr ⟨e_fl_8_63, List.forall_mem_cons.mpr ⟨e_fl_8_71, List.forall_mem_cons.mpr ⟨e_fl_8_74, List.forall_mem_cons.mpr ⟨e_fl_8_78, List.forall_mem_cons.mpr ⟨e_fl_8_83, (fun _ h => absurd h List.not_mem_nil)⟩⟩⟩⟩⟩⟩⟩⟩⟩⟩⟩⟩⟩⟩⟩⟩⟩⟩⟩⟩⟩⟩⟩⟩⟩⟩⟩⟩⟩⟩⟩⟩⟩⟩⟩⟩⟩⟩⟩⟩
def e_FLs_2 : List (Nat × Nat × Nat × Nat) := [(8, 86, 4, 2), (8, 89, 4, 3), (8, 99, 1, 4), (8, 102, 6, 1), (8, 105, 6, 0), (8, 119, 6, 3), (8, 122, 4, 4), (8, 126, 7, 0), (8, 132, 7, 1), (8, 135, 7, 2), (8, 138, 7, 3), (8, 141, 7, 4), (8, 147, 7, 5), (8, 153, 4, 5), (8, 157, 0, 0), (8, 160, 0, 1), (8, 163, 0, 2), (8, 166, 0, 3), (8, 169, 0, 4), (8, 172, 0, 5), (8, 176, 0, 6), (8, 187, 1, 0), (8, 207, 1, 3), (8, 213, 2, 2), (8, 216, 2, 0), (8, 219, 2, 1), (8, 222, 7, 6), (8, 225, 7, 8), (8, 228, 7, 7), (8, 235, 5, 4), (8, 236, 5, 3), (8, 239, 3, 1), (8, 260, 0, 7), (9, 7, 9, 0), (9, 13, 9, 1), (9, 16, 9, 3), (9, 19, 9, 5), (9, 22, 9, 6), (9, 25, 9, 7), (9, 28, 9, 8)]
theorem e_FLs_2_ok : ∀ q ∈ e_FLs_2, e_flok q := List.forall_mem_cons.mpr ⟨e_fl_8_86, List.forall_mem_cons.mpr ⟨e_fl_8_89, List.forall_mem_cons.mpr ⟨e_fl_8_99, List.forall_mem_cons.mpr ⟨e_fl_8_102, List.forall_mem_cons.mpr ⟨e_fl_8_105, List.forall_mem_cons.mpr ⟨e_fl_8_119, List.forall_mem_cons.mpr ⟨e_fl_8_122, List.forall_mem_cons.mpr ⟨e_fl_8_126, List.forall_mem_cons.mpr ⟨e_fl_8_132, List.forall_mem_cons.mpr ⟨e_fl_8_135, List.forall_mem_cons.mpr ⟨e_fl_8_138, List.forall_mem_cons.mpr ⟨e_fl_8_141, List.forall_mem_cons.mpr ⟨e_fl_8_147, List.forall_mem_cons.mpr ⟨e_fl_8_153, List.forall_mem_cons.mpr ⟨e_fl_8_157, List.forall_mem_cons.mpr ⟨e_fl_8_160, List.forall_mem_cons.mpr ⟨e_fl_8_163, List.forall_mem_cons.mpr ⟨e_fl_8_166, List.forall_mem_cons.mpr ⟨e_fl_8_169, List.forall_mem_cons.mpr ⟨e_fl_8_172, List.forall_mem_cons.mpr ⟨e_fl_8_176, List.forall_mem_cons.mpr ⟨e_fl_8_187, List.forall_mem_cons.mpr ⟨e_fl_8_207, List.forall_mem_cons.mpr ⟨e_fl_8_213, List.forall_mem_cons.mpr ⟨e_fl_8_216, List.forall_mem_cons.mpr ⟨e_fl_8_219, List.forall_mem_cons.mpr ⟨e_fl_8_222, List.forall_mem_cons.mpr ⟨e_fl_8_225, List.forall_mem_cons.mpr ⟨e_fl_8_228, List.forall_mem_cons.mpr ⟨e_fl_8_235, List.forall_mem_cons.mpr ⟨e_fl_8_236, List.forall_mem_cons.mpr ⟨e_fl_8_239, List.forall_mem_cons.mpr ⟨e_fl_8_260, List.forall_mem_cons.mpr ⟨e_fl_9_7, List.forall_mem_cons.mpr ⟨e_fl_9_13, List.forall_mem_cons.mpr ⟨e_fl_9_16, List.forall_mem_cons.mpr ⟨e_fl_9_19, List.forall_mem_cons.mpr ⟨e_fl_9_22, List.forall_mem_cons.mpr ⟨e_fl_9_25, List.forall_mem_cons.mpr ⟨e_fl_9_28, (fun _ h => absurd h List.not_mem_nil)⟩⟩⟩⟩⟩⟩⟩⟩⟩⟩⟩⟩⟩⟩⟩⟩⟩⟩⟩⟩⟩⟩⟩⟩⟩⟩⟩⟩⟩⟩⟩⟩⟩⟩⟩⟩⟩⟩⟩⟩
def e_FLs_3 : List (Nat × Nat × Nat × Nat) := [(9, 31, 9, 10), (9, 34, 9, 11), (9, 45, 9, 2), (9, 68, 9, 4), (9, 71, 9, 9)]
theorem e_FLs_3_ok : ∀ q ∈ e_FLs_3, e_flok q := List.forall_mem_cons.mpr ⟨e_fl_9_31, List.forall_mem_cons.mpr ⟨e_fl_9_34, List.forall_mem_cons.mpr ⟨e_fl_9_45, List.forall_mem_cons.mpr ⟨e_fl_9_68, List.forall_mem_cons.mpr ⟨e_fl_9_71, (fun _ h => absurd h List.not_mem_nil)⟩⟩⟩⟩⟩
def e_FLs : List (Nat × Nat × Nat × Nat) := e_FLs_0 ++ e_FLs_1 ++ e_FLs_2 ++ e_FLs_3
theorem e_FLs_ok : ∀ q ∈ e_FLs, e_flok q := List.forall_mem_append.mpr ⟨List.forall_mem_append.mpr ⟨List.forall_mem_append.mpr ⟨e_FLs_0_ok, e_FLs_1_ok⟩, e_FLs_2_ok⟩, e_FLs_3_ok⟩
def e_MLs_0 : List (Nat × Nat × Nat × Nat) := [(0, 37, 3, 0), (0, 41, 5, 0), (1, 25, 26, 1), (1, 41, 27, 0), (1, 55, 42, 0), (1, 60, 12, 0), (1, 68, 3, 0), (1, 74, 5, 0), (1, 82, 4, 0), (1, 90, 7, 0), (1, 94, 8, 0), (1, 97, 9, 0), (1, 109, 43, 0), (1, 112, 44, 0), (1, 113, 45, 0), (1, 114, 46, 0), (2, 21, 12, 0), (2, 27, 19, 0), (2, 31, 20, 0), (2, 58, 6, 0), (2, 88, 79, 1), (3, 17, 10, 0), (3, 22, 24, 0), (3, 25, 11, 0), (4, 9, 40, 1), (4, 18, 1, 1), (4, 36, 41, 0), (4, 40, 2, 0), (5, 11, 17, 1), (5, 30, 30, 0), (5, 34, 31, 0), (5, 60, 32, 0), (5, 63, 19, 0), (5, 67, 20, 0), (5, 73, 21, 0), (6, 22, 39, 0), (6, 28, 35, 0), (6, 32, 36, 0), (6, 36, 37, 0), (6, 40, 38, 0)]
theorem e_MLs_0_ok : ∀ q ∈ e_MLs_0, e_mlok q := List.forall_mem_cons.mpr ⟨e_ml_0_37, List.forall_mem_cons.mpr ⟨e_ml_0_41, List.forall_mem_cons.mpr ⟨e_ml_1_25, List.forall_mem_cons.mpr ⟨e_ml_1_41, List.forall_mem_cons.mpr ⟨e_ml_1_55, List.forall_mem_cons.mpr ⟨e_ml_1_60, List.forall_mem_cons.mpr ⟨e_ml_1_68, List.forall_mem_cons.mpr ⟨e_ml_1_74, List.forall_mem_cons.mpr ⟨e_ml_1_82, List.forall_mem_cons.mpr ⟨e_ml_1_90, List.forall_mem_cons.mpr ⟨e_ml_1_94, List.forall_mem_cons.mpr ⟨e_ml_1_97, List.forall_mem_cons.mpr ⟨e_ml_1_109, List.forall_mem_cons.mpr ⟨e_ml_1_112, List.forall_mem_cons.mpr ⟨e_ml_1_113, List.forall_mem_cons.mpr ⟨e_ml_1_114, List.forall_mem_cons.mpr ⟨e_ml_2_21, List.forall_mem_cons.mpr ⟨e_ml_2_27, List.forall_mem_cons.mpr ⟨e_ml_2_31, List.forall_mem_cons.mpr ⟨e_ml_2_58, List.forall_mem_cons.mpr ⟨e_ml_2_88, List.forall_mem_cons.mpr ⟨e_ml_3_17, List.forall_mem_cons.mpr ⟨e_ml_3_22, List.forall_mem_cons.mpr ⟨e_ml_3_25, List.forall_mem_cons.mpr ⟨e_ml_4_9, List.forall_mem_cons.mpr ⟨e_ml_4_18, List.forall_mem_cons.mpr ⟨e_ml_4_36, List.forall_mem_cons.mpr ⟨e_ml_4_40, List.forall_mem_cons.mpr ⟨e_ml_5_11, List.forall_mem_cons.mpr ⟨e_ml_5_30, List.forall_mem_cons.mpr ⟨e_ml_5_34, List.forall_mem_cons.mpr ⟨e_ml_5_60, List.forall_mem_cons.mpr ⟨e_ml_5_63, List.forall_mem_cons.mpr ⟨e_ml_5_67, List.forall_mem_cons.mpr ⟨e_ml_5_73, List.forall_mem_cons.mpr ⟨e_ml_6_22, List.forall_mem_cons.mpr ⟨e_ml_6_28, List.forall_mem_cons.mpr ⟨e_ml_6_32, List.forall_mem_cons.mpr ⟨e_ml_6_36, List.forall_mem_cons.mpr ⟨e_ml_6_40, (fun _ h => absurd h List.not_mem_nil)⟩⟩⟩⟩⟩⟩⟩⟩⟩⟩⟩⟩⟩⟩⟩⟩⟩⟩⟩⟩⟩⟩⟩⟩⟩⟩⟩⟩⟩⟩⟩⟩⟩⟩⟩⟩⟩⟩⟩⟩
def e_MLs_1 : List (Nat × Nat × Nat × Nat) := [(6, 44, 79, 1), (8, 9, 10, 0), (8, 18, 17, 1), (8, 25, 28, 1), (8, 32, 33, 1), (8, 39, 22, 0), (8, 51, 79, 0), (8, 55, 88, 0), (8, 59, 23, 0), (8, 67, 81, 0), (8, 92, 84, 0), (8, 96, 80, 0), (8, 115, 34, 0), (8, 144, 85, 0), (8, 150, 82, 0), (8, 173, 86, 0), (8, 179, 83, 0), (8, 183, 61, 0), (8, 190, 13, 0), (8, 193, 14, 0), (8, 196, 18, 0), (8, 199, 15, 0), (8, 203, 16, 0), (8, 210, 21, 0), (8, 231, 29, 0), (8, 240, 25, 0), (8, 243, 87, 0), (8, 248, 78, 0), (8, 252, 76, 0), (8, 256, 77, 0), (9, 37, 90, 0), (9, 41, 93, 0), (9, 49, 91, 0), (9, 53, 96, 0), (9, 56, 98, 0), (9, 60, 95, 0), (9, 64, 92, 0), (9, 74, 104, 0), (9, 78, 106, 0), (9, 81, 105, 0)]
theorem e_MLs_1_ok : ∀ q ∈ e_MLs_1, e_mlok q := List.forall_mem_cons.mpr ⟨e_ml_6_44, List.forall_mem_cons.mpr ⟨e_ml_8_9, List.forall_mem_cons.mpr ⟨e_ml_8_18, List.forall_mem_cons.mpr ⟨e_ml_8_25, List.forall_mem_cons.mpr ⟨e_ml_8_32, List.forall_mem_cons.mpr ⟨e_ml_8_39, List.forall_mem_cons.mpr ⟨e_ml_8_51, List.forall_mem_cons.mpr ⟨e_ml_8_55, List.forall_mem_cons.mpr ⟨e_ml_8_59, List.forall_mem_cons.mpr ⟨e_ml_8_67, List.forall_mem_cons.mpr ⟨e_ml_8_92, List.forall_mem_cons.mpr ⟨e_ml_8_96, List.forall_mem_cons.mpr ⟨e_ml_8_115, List.forall_mem_cons.mpr ⟨e_ml_8_144, List.forall_mem_cons.mpr ⟨e_ml_8_150, List.forall_mem_cons.mpr ⟨e_ml_8_173, List.forall_mem_cons.mpr ⟨e_ml_8_179, List.forall_mem_cons.mpr ⟨e_ml_8_183, List.forall_mem_cons.mpr ⟨e_ml_8_190, List.forall_mem_cons.mpr ⟨e_ml_8_193, List.forall_mem_cons.mpr ⟨e_ml_8_196, List.forall_mem_cons.mpr ⟨e_ml_8_199, List.forall_mem_cons.mpr ⟨e_ml_8_203, List.forall_mem_cons.mpr ⟨e_ml_8_210, List.forall_mem_cons.mpr ⟨e_ml_8_231, List.forall_mem_cons.mpr ⟨e_ml_8_240, List.forall_mem_cons.mpr ⟨e_ml_8_243, List.forall_mem_cons.mpr ⟨e_ml_8_248, List.forall_mem_cons.mpr ⟨e_ml_8_252, List.forall_mem_cons.mpr ⟨e_ml_8_256, List.forall_mem_cons.mpr ⟨e_ml_9_37, List.forall_mem_cons.mpr ⟨e_ml_9_41, List.forall_mem_cons.mpr ⟨e_ml_9_49, List.forall_mem_cons.mpr ⟨e_ml_9_53, List.forall_mem_cons.mpr ⟨e_ml_9_56, List.forall_mem_cons.mpr ⟨e_ml_9_60, List.forall_mem_cons.mpr ⟨e_ml_9_64, List.forall_mem_cons.mpr ⟨e_ml_9_74, List.forall_mem_cons.mpr ⟨e_ml_9_78, List.forall_mem_cons.mpr ⟨e_ml_9_81, (fun _ h => absurd h List.not_mem_nil)⟩⟩⟩⟩⟩⟩⟩⟩⟩⟩⟩⟩⟩⟩⟩⟩⟩⟩⟩⟩⟩⟩⟩⟩⟩⟩⟩⟩⟩⟩⟩⟩⟩⟩⟩⟩⟩⟩⟩⟩
def e_MLs_2 : List (Nat × Nat × Nat × Nat) := [(9, 84, 107, 0), (9, 88, 94, 0), (9, 91, 110, 0), (9, 94, 115, 0), (9, 97, 114, 0), (9, 100, 116, 0), (9, 104, 121, 0), (9, 107, 122, 0), (9, 111, 119, 0), (9, 114, 118, 0), (9, 117, 120, 0), (9, 120, 123, 0), (9, 124, 117, 0), (9, 127, 124, 0), (9, 130, 130, 0), (9, 135, 137, 0), (9, 138, 138, 0), (9, 141, 139, 0), (9, 144, 140, 0), (9, 151, 145, 0), (10, 9, 47, 0), (10, 12, 89, 0), (10, 13, 48, 0), (10, 17, 97, 0), (10, 18, 49, 0), (10, 22, 99, 0), (10, 23, 50, 0), (10, 27, 100, 0), (10, 28, 51, 0), (10, 32, 101, 0), (10, 33, 52, 0), (10, 36, 102, 0), (10, 37, 53, 0), (10, 41, 103, 0), (10, 42, 54, 0), (10, 45, 108, 0), (10, 46, 55, 0), (10, 50, 109, 0), (10, 51, 56, 0), (10, 54, 111, 0)]
theorem e_MLs_2_ok : ∀ q ∈ e_MLs_2, e_mlok q := List.forall_mem_cons.mpr ⟨e_ml_9_84, List.forall_mem_cons.mpr ⟨e_ml_9_88, List.forall_mem_cons.mpr ⟨e_ml_9_91, List.forall_mem_cons.mpr ⟨e_ml_9_94, List.forall_mem_cons.mpr ⟨e_ml_9_97, List.forall_mem_cons.mpr ⟨e_ml_9_100, List.forall_mem_cons.mpr ⟨e_ml_9_104, List.forall_mem_cons.mpr ⟨e_ml_9_107, List.forall_mem_cons.mpr ⟨e_ml_9_111, List.forall_mem_cons.mpr ⟨e_ml_9_114, List.forall_mem_cons.mpr ⟨e_ml_9_117, List.forall_mem_cons.mpr ⟨e_ml_9_120, List.forall_mem_cons.mpr ⟨e_ml_9_124, List.forall_mem_cons.mpr ⟨e_ml_9_127, List.forall_mem_cons.mpr ⟨e_ml_9_130, List.forall_mem_cons.mpr ⟨e_ml_9_135, List.forall_mem_cons.mpr ⟨e_ml_9_138, List.forall_mem_cons.mpr ⟨e_ml_9_141, List.forall_mem_cons.mpr ⟨e_ml_9_144, List.forall_mem_cons.mpr ⟨e_ml_9_151, List.forall_mem_cons.mpr ⟨e_ml_10_9, List.forall_mem_cons.mpr ⟨e_ml_10_12, List.forall_mem_cons.mpr ⟨e_ml_10_13, List.forall_mem_cons.mpr ⟨e_ml_10_17, List.forall_mem_cons.mpr ⟨e_ml_10_18, List.forall_mem_cons.mpr ⟨e_ml_10_22, List.forall_mem_cons.mpr ⟨e_ml_10_23, List.forall_mem_cons.mpr ⟨e_ml_10_27, List.forall_mem_cons.mpr ⟨e_ml_10_28, List.forall_mem_cons.mpr ⟨e_ml_10_32, List.forall_mem_cons.mpr ⟨e_ml_10_33, List.forall_mem_cons.mpr ⟨e_ml_10_36, List.forall_mem_cons.mpr ⟨e_ml_10_37, List.forall_mem_cons.mpr ⟨e_ml_10_41, List.forall_mem_cons.mpr ⟨e_ml_10_42, List.forall_mem_cons.mpr ⟨e_ml_10_45, List.forall_mem_cons.mpr ⟨e_ml_10_46, List.forall_mem_cons.mpr ⟨e_ml_10_50, List.forall_mem_cons.mpr ⟨e_ml_10_51, List.forall_mem_cons.mpr ⟨e_ml_10_54, (fun _ h => absurd h List.not_mem_nil)⟩⟩⟩⟩⟩⟩⟩⟩⟩⟩⟩⟩⟩⟩⟩⟩⟩⟩⟩⟩⟩⟩⟩⟩⟩⟩⟩⟩⟩⟩⟩⟩⟩⟩⟩⟩⟩⟩⟩⟩
def e_MLs_3 : List (Nat × Nat × Nat × Nat) := [(10, 55, 57, 0), (10, 59, 112, 0), (10, 60, 58, 0), (10, 63, 113, 0), (10, 64, 59, 0), (10, 67, 125, 0), (10, 68, 60, 0), (10, 71, 126, 0), (10, 72, 62, 0), (10, 75, 127, 0), (10, 76, 63, 0), (10, 79, 128, 0), (10, 80, 64, 0), (10, 83, 129, 0), (10, 84, 65, 0), (10, 87, 131, 0), (10, 88, 66, 0), (10, 91, 132, 0), (10, 92, 67, 0), (10, 95, 133, 0), (10, 96, 68, 0), (10, 99, 134, 0), (10, 100, 69, 0), (10, 103, 135, 0), (10, 104, 70, 0), (10, 107, 136, 0), (10, 108, 71, 0), (10, 111, 141, 0), (10, 112, 72, 0), (10, 115, 142, 0), (10, 116, 73, 0), (10, 119, 143, 0), (10, 120, 74, 0), (10, 123, 144, 0), (10, 124, 75, 0), (10, 128, 146, 0)]
theorem e_MLs_3_ok : ∀ q ∈ e_MLs_3, e_mlok q := List.forall_mem_cons.mpr ⟨e_ml_10_55, List.forall_mem_cons.mpr ⟨e_ml_10_59, List.forall_mem_cons.mpr ⟨e_ml_10_60, List.forall_mem_cons.mpr ⟨e_ml_10_63, List.forall_mem_cons.mpr ⟨e_ml_10_64, List.forall_mem_cons.mpr ⟨e_ml_10_67, List.forall_mem_cons.mpr ⟨e_ml_10_68, List.forall_mem_cons.mpr ⟨e_ml_10_71, List.forall_mem_cons.mpr ⟨e_ml_10_72, List.forall_mem_cons.mpr ⟨e_ml_10_75, List.forall_mem_cons.mpr ⟨e_ml_10_76, List.forall_mem_cons.mpr ⟨e_ml_10_79, List.forall_mem_cons.mpr ⟨e_ml_10_80, List.forall_mem_cons.mpr ⟨e_ml_10_83, List.forall_mem_cons.mpr ⟨e_ml_10_84, List.forall_mem_cons.mpr ⟨e_ml_10_87, List.forall_mem_cons.mpr ⟨e_ml_10_88, List.forall_mem_cons.mpr ⟨e_ml_10_91, List.forall_mem_cons.mpr ⟨e_ml_10_92, List.forall_mem_cons.mpr ⟨e_ml_10_95, List.forall_mem_cons.mpr ⟨e_ml_10_96, List.forall_mem_cons.mpr ⟨e_ml_10_99, List.forall_mem_cons.mpr ⟨e_ml_10_100, List.forall_mem_cons.mpr ⟨e_ml_10_103, List.forall_mem_cons.mpr ⟨e_ml_10_104, List.forall_mem_cons.mpr ⟨e_ml_10_107, List.forall_mem_cons.mpr ⟨e_ml_10_108, List.forall_mem_cons.mpr ⟨e_ml_10_111, List.forall_mem_cons.mpr ⟨e_ml_10_112, List.forall_mem_cons.mpr ⟨e_ml_10_115, List.forall_mem_cons.mpr ⟨e_ml_10_116, List.forall_mem_cons.mpr ⟨e_ml_10_119, List.forall_mem_cons.mpr ⟨e_ml_10_120, List.forall_mem_cons.mpr ⟨e_ml_10_123, List.forall_mem_cons.mpr ⟨e_ml_10_124, List.forall_mem_cons.mpr ⟨e_ml_10_128, (fun _ h => absurd h List.not_mem_nil)⟩⟩⟩⟩⟩⟩⟩⟩⟩⟩⟩⟩⟩⟩⟩⟩⟩⟩⟩⟩⟩⟩⟩⟩⟩⟩⟩⟩⟩⟩⟩⟩⟩⟩⟩⟩
def e_MLs : List (Nat × Nat × Nat × Nat) := e_MLs_0 ++ e_MLs_1 ++ e_MLs_2 ++ e_MLs_3
theorem e_MLs_ok : ∀ q ∈ e_MLs, e_mlok q := List.forall_mem_append.mpr ⟨List.forall_mem_append.mpr ⟨List.forall_mem_append.mpr ⟨e_MLs_0_ok, e_MLs_1_ok⟩, e_MLs_2_ok⟩, e_MLs_3_ok⟩
def e_zok (z : Nat) : Prop := e_wk (.code (e_mN z) (e_mB z) (e_mL z) (e_mR z)) ∧ e_wk (.initialized (e_mN z).cls) ∧ (e_mK z = 0 → e_wk (.static (e_mN z))) ∧ (e_mK z = 1 ∨ e_mK z = 2 → e_wk (.instanceMethod (e_mN z))) ∧ (e_mK z = 2 → e_wk (.selects (e_mN z).cls (e_mN z) (e_mN z)))
set_option maxRecDepth 20000 in
theorem e_z_1 : e_zok 1 := ⟨⟨⟨133, rfl⟩, rfl⟩, ⟨⟨44, rfl⟩, rfl⟩, fun h => absurd h (by decide), fun _ => ⟨⟨132, rfl⟩, rfl⟩, fun h => absurd h (by decide)⟩
set_option maxRecDepth 20000 in
theorem e_z_2 : e_zok 2 := ⟨⟨⟨386, rfl⟩, rfl⟩, ⟨⟨44, rfl⟩, rfl⟩, fun h => absurd h (by decide), fun _ => ⟨⟨384, rfl⟩, rfl⟩, fun _ => ⟨⟨385, rfl⟩, rfl⟩⟩
set_option maxRecDepth 20000 in
theorem e_z_3 : e_zok 3 := ⟨⟨⟨507, rfl⟩, rfl⟩, ⟨⟨44, rfl⟩, rfl⟩, fun h => absurd h (by decide), fun _ => ⟨⟨505, rfl⟩, rfl⟩, fun _ => ⟨⟨506, rfl⟩, rfl⟩⟩
set_option maxRecDepth 20000 in
theorem e_z_4 : e_zok 4 := ⟨⟨⟨541, rfl⟩, rfl⟩, ⟨⟨44, rfl⟩, rfl⟩, fun h => absurd h (by decide), fun _ => ⟨⟨539, rfl⟩, rfl⟩, fun _ => ⟨⟨540, rfl⟩, rfl⟩⟩
set_option maxRecDepth 20000 in
theorem e_z_5 : e_zok 5 := ⟨⟨⟨511, rfl⟩, rfl⟩, ⟨⟨44, rfl⟩, rfl⟩, fun h => absurd h (by decide), fun _ => ⟨⟨509, rfl⟩, rfl⟩, fun _ => ⟨⟨510, rfl⟩, rfl⟩⟩
set_option maxRecDepth 20000 in
theorem e_z_6 : e_zok 6 := ⟨⟨⟨524, rfl⟩, rfl⟩, ⟨⟨44, rfl⟩, rfl⟩, fun h => absurd h (by decide), fun _ => ⟨⟨522, rfl⟩, rfl⟩, fun _ => ⟨⟨523, rfl⟩, rfl⟩⟩
set_option maxRecDepth 20000 in
theorem e_z_7 : e_zok 7 := ⟨⟨⟨545, rfl⟩, rfl⟩, ⟨⟨44, rfl⟩, rfl⟩, fun h => absurd h (by decide), fun _ => ⟨⟨543, rfl⟩, rfl⟩, fun _ => ⟨⟨544, rfl⟩, rfl⟩⟩
set_option maxRecDepth 20000 in
theorem e_z_8 : e_zok 8 := ⟨⟨⟨549, rfl⟩, rfl⟩, ⟨⟨44, rfl⟩, rfl⟩, fun h => absurd h (by decide), fun _ => ⟨⟨547, rfl⟩, rfl⟩, fun _ => ⟨⟨548, rfl⟩, rfl⟩⟩
set_option maxRecDepth 20000 in
theorem e_z_9 : e_zok 9 := ⟨⟨⟨553, rfl⟩, rfl⟩, ⟨⟨44, rfl⟩, rfl⟩, fun h => absurd h (by decide), fun _ => ⟨⟨551, rfl⟩, rfl⟩, fun _ => ⟨⟨552, rfl⟩, rfl⟩⟩
set_option maxRecDepth 20000 in
theorem e_z_10 : e_zok 10 := ⟨⟨⟨64, rfl⟩, rfl⟩, ⟨⟨41, rfl⟩, rfl⟩, fun h => absurd h (by decide), fun _ => ⟨⟨63, rfl⟩, rfl⟩, fun h => absurd h (by decide)⟩
set_option maxRecDepth 20000 in
theorem e_z_11 : e_zok 11 := ⟨⟨⟨371, rfl⟩, rfl⟩, ⟨⟨41, rfl⟩, rfl⟩, fun h => absurd h (by decide), fun _ => ⟨⟨369, rfl⟩, rfl⟩, fun _ => ⟨⟨370, rfl⟩, rfl⟩⟩
set_option maxRecDepth 20000 in
theorem e_z_12 : e_zok 12 := ⟨⟨⟨500, rfl⟩, rfl⟩, ⟨⟨41, rfl⟩, rfl⟩, fun h => absurd h (by decide), fun _ => ⟨⟨498, rfl⟩, rfl⟩, fun _ => ⟨⟨499, rfl⟩, rfl⟩⟩
set_option maxRecDepth 20000 in
theorem e_z_13 : e_zok 13 := ⟨⟨⟨488, rfl⟩, rfl⟩, ⟨⟨41, rfl⟩, rfl⟩, fun h => absurd h (by decide), fun _ => ⟨⟨486, rfl⟩, rfl⟩, fun _ => ⟨⟨487, rfl⟩, rfl⟩⟩
set_option maxRecDepth 20000 in
theorem e_z_14 : e_zok 14 := ⟨⟨⟨496, rfl⟩, rfl⟩, ⟨⟨41, rfl⟩, rfl⟩, fun h => absurd h (by decide), fun _ => ⟨⟨494, rfl⟩, rfl⟩, fun _ => ⟨⟨495, rfl⟩, rfl⟩⟩
set_option maxRecDepth 20000 in
theorem e_z_15 : e_zok 15 := ⟨⟨⟨537, rfl⟩, rfl⟩, ⟨⟨41, rfl⟩, rfl⟩, fun h => absurd h (by decide), fun _ => ⟨⟨535, rfl⟩, rfl⟩, fun _ => ⟨⟨536, rfl⟩, rfl⟩⟩
set_option maxRecDepth 20000 in
theorem e_z_16 : e_zok 16 := ⟨⟨⟨557, rfl⟩, rfl⟩, ⟨⟨41, rfl⟩, rfl⟩, fun h => absurd h (by decide), fun _ => ⟨⟨555, rfl⟩, rfl⟩, fun _ => ⟨⟨556, rfl⟩, rfl⟩⟩
set_option maxRecDepth 20000 in
theorem e_z_17 : e_zok 17 := ⟨⟨⟨238, rfl⟩, rfl⟩, ⟨⟨45, rfl⟩, rfl⟩, fun h => absurd h (by decide), fun _ => ⟨⟨237, rfl⟩, rfl⟩, fun h => absurd h (by decide)⟩
set_option maxRecDepth 20000 in
theorem e_z_18 : e_zok 18 := ⟨⟨⟨515, rfl⟩, rfl⟩, ⟨⟨45, rfl⟩, rfl⟩, fun h => absurd h (by decide), fun _ => ⟨⟨513, rfl⟩, rfl⟩, fun _ => ⟨⟨514, rfl⟩, rfl⟩⟩
set_option maxRecDepth 20000 in
theorem e_z_19 : e_zok 19 := ⟨⟨⟨520, rfl⟩, rfl⟩, ⟨⟨45, rfl⟩, rfl⟩, fun h => absurd h (by decide), fun _ => ⟨⟨518, rfl⟩, rfl⟩, fun _ => ⟨⟨519, rfl⟩, rfl⟩⟩
set_option maxRecDepth 20000 in
theorem e_z_20 : e_zok 20 := ⟨⟨⟨530, rfl⟩, rfl⟩, ⟨⟨45, rfl⟩, rfl⟩, fun h => absurd h (by decide), fun _ => ⟨⟨528, rfl⟩, rfl⟩, fun _ => ⟨⟨529, rfl⟩, rfl⟩⟩
set_option maxRecDepth 20000 in
theorem e_z_21 : e_zok 21 := ⟨⟨⟨577, rfl⟩, rfl⟩, ⟨⟨45, rfl⟩, rfl⟩, fun h => absurd h (by decide), fun _ => ⟨⟨575, rfl⟩, rfl⟩, fun _ => ⟨⟨576, rfl⟩, rfl⟩⟩
set_option maxRecDepth 20000 in
theorem e_z_22 : e_zok 22 := ⟨⟨⟨311, rfl⟩, rfl⟩, ⟨⟨48, rfl⟩, rfl⟩, fun h => absurd h (by decide), fun _ => ⟨⟨310, rfl⟩, rfl⟩, fun h => absurd h (by decide)⟩
set_option maxRecDepth 20000 in
theorem e_z_23 : e_zok 23 := ⟨⟨⟨363, rfl⟩, rfl⟩, ⟨⟨48, rfl⟩, rfl⟩, fun h => absurd h (by decide), fun _ => ⟨⟨361, rfl⟩, rfl⟩, fun _ => ⟨⟨362, rfl⟩, rfl⟩⟩
set_option maxRecDepth 20000 in
theorem e_z_24 : e_zok 24 := ⟨⟨⟨367, rfl⟩, rfl⟩, ⟨⟨48, rfl⟩, rfl⟩, fun h => absurd h (by decide), fun _ => ⟨⟨366, rfl⟩, rfl⟩, fun _ => ⟨⟨1, rfl⟩, rfl⟩⟩
set_option maxRecDepth 20000 in
theorem e_z_25 : e_zok 25 := ⟨⟨⟨661, rfl⟩, rfl⟩, ⟨⟨48, rfl⟩, rfl⟩, fun h => absurd h (by decide), fun _ => ⟨⟨659, rfl⟩, rfl⟩, fun _ => ⟨⟨660, rfl⟩, rfl⟩⟩
set_option maxRecDepth 20000 in
theorem e_z_26 : e_zok 26 := ⟨⟨⟨71, rfl⟩, rfl⟩, ⟨⟨42, rfl⟩, rfl⟩, fun h => absurd h (by decide), fun _ => ⟨⟨70, rfl⟩, rfl⟩, fun h => absurd h (by decide)⟩
set_option maxRecDepth 20000 in
theorem e_z_27 : e_zok 27 := ⟨⟨⟨378, rfl⟩, rfl⟩, ⟨⟨42, rfl⟩, rfl⟩, fun h => absurd h (by decide), fun _ => ⟨⟨376, rfl⟩, rfl⟩, fun _ => ⟨⟨377, rfl⟩, rfl⟩⟩
set_option maxRecDepth 20000 in
theorem e_z_28 : e_zok 28 := ⟨⟨⟨260, rfl⟩, rfl⟩, ⟨⟨46, rfl⟩, rfl⟩, fun h => absurd h (by decide), fun _ => ⟨⟨259, rfl⟩, rfl⟩, fun h => absurd h (by decide)⟩
set_option maxRecDepth 20000 in
theorem e_z_29 : e_zok 29 := ⟨⟨⟨626, rfl⟩, rfl⟩, ⟨⟨46, rfl⟩, rfl⟩, fun h => absurd h (by decide), fun _ => ⟨⟨624, rfl⟩, rfl⟩, fun _ => ⟨⟨625, rfl⟩, rfl⟩⟩
set_option maxRecDepth 20000 in
theorem e_z_30 : e_zok 30 := ⟨⟨⟨630, rfl⟩, rfl⟩, ⟨⟨46, rfl⟩, rfl⟩, fun h => absurd h (by decide), fun _ => ⟨⟨629, rfl⟩, rfl⟩, fun _ => ⟨⟨11, rfl⟩, rfl⟩⟩
set_option maxRecDepth 20000 in
theorem e_z_31 : e_zok 31 := ⟨⟨⟨638, rfl⟩, rfl⟩, ⟨⟨46, rfl⟩, rfl⟩, fun h => absurd h (by decide), fun _ => ⟨⟨637, rfl⟩, rfl⟩, fun _ => ⟨⟨12, rfl⟩, rfl⟩⟩
set_option maxRecDepth 20000 in
theorem e_z_32 : e_zok 32 := ⟨⟨⟨645, rfl⟩, rfl⟩, ⟨⟨46, rfl⟩, rfl⟩, fun h => absurd h (by decide), fun _ => ⟨⟨644, rfl⟩, rfl⟩, fun _ => ⟨⟨13, rfl⟩, rfl⟩⟩
set_option maxRecDepth 20000 in
theorem e_z_33 : e_zok 33 := ⟨⟨⟨288, rfl⟩, rfl⟩, ⟨⟨47, rfl⟩, rfl⟩, fun h => absurd h (by decide), fun _ => ⟨⟨287, rfl⟩, rfl⟩, fun h => absurd h (by decide)⟩
set_option maxRecDepth 20000 in
theorem e_z_34 : e_zok 34 := ⟨⟨⟨425, rfl⟩, rfl⟩, ⟨⟨47, rfl⟩, rfl⟩, fun h => absurd h (by decide), fun _ => ⟨⟨423, rfl⟩, rfl⟩, fun _ => ⟨⟨424, rfl⟩, rfl⟩⟩
set_option maxRecDepth 20000 in
theorem e_z_35 : e_zok 35 := ⟨⟨⟨433, rfl⟩, rfl⟩, ⟨⟨47, rfl⟩, rfl⟩, fun h => absurd h (by decide), fun _ => ⟨⟨432, rfl⟩, rfl⟩, fun _ => ⟨⟨4, rfl⟩, rfl⟩⟩
set_option maxRecDepth 20000 in
theorem e_z_36 : e_zok 36 := ⟨⟨⟨437, rfl⟩, rfl⟩, ⟨⟨47, rfl⟩, rfl⟩, fun h => absurd h (by decide), fun _ => ⟨⟨436, rfl⟩, rfl⟩, fun _ => ⟨⟨5, rfl⟩, rfl⟩⟩
set_option maxRecDepth 20000 in
theorem e_z_37 : e_zok 37 := ⟨⟨⟨442, rfl⟩, rfl⟩, ⟨⟨47, rfl⟩, rfl⟩, fun h => absurd h (by decide), fun _ => ⟨⟨441, rfl⟩, rfl⟩, fun _ => ⟨⟨6, rfl⟩, rfl⟩⟩
set_option maxRecDepth 20000 in
theorem e_z_38 : e_zok 38 := ⟨⟨⟨446, rfl⟩, rfl⟩, ⟨⟨47, rfl⟩, rfl⟩, fun h => absurd h (by decide), fun _ => ⟨⟨445, rfl⟩, rfl⟩, fun _ => ⟨⟨7, rfl⟩, rfl⟩⟩
set_option maxRecDepth 20000 in
theorem e_z_39 : e_zok 39 := ⟨⟨⟨429, rfl⟩, rfl⟩, ⟨⟨47, rfl⟩, rfl⟩, fun h => absurd h (by decide), fun _ => ⟨⟨428, rfl⟩, rfl⟩, fun _ => ⟨⟨3, rfl⟩, rfl⟩⟩
set_option maxRecDepth 20000 in
theorem e_z_40 : e_zok 40 := ⟨⟨⟨77, rfl⟩, rfl⟩, ⟨⟨43, rfl⟩, rfl⟩, fun h => absurd h (by decide), fun _ => ⟨⟨76, rfl⟩, rfl⟩, fun h => absurd h (by decide)⟩
set_option maxRecDepth 20000 in
theorem e_z_41 : e_zok 41 := ⟨⟨⟨382, rfl⟩, rfl⟩, ⟨⟨43, rfl⟩, rfl⟩, fun h => absurd h (by decide), fun _ => ⟨⟨380, rfl⟩, rfl⟩, fun _ => ⟨⟨381, rfl⟩, rfl⟩⟩
set_option maxRecDepth 20000 in
theorem e_z_42 : e_zok 42 := ⟨⟨⟨492, rfl⟩, rfl⟩, ⟨⟨43, rfl⟩, rfl⟩, fun h => absurd h (by decide), fun _ => ⟨⟨490, rfl⟩, rfl⟩, fun _ => ⟨⟨491, rfl⟩, rfl⟩⟩
set_option maxRecDepth 20000 in
theorem e_z_43 : e_zok 43 := ⟨⟨⟨561, rfl⟩, rfl⟩, ⟨⟨43, rfl⟩, rfl⟩, fun h => absurd h (by decide), fun _ => ⟨⟨559, rfl⟩, rfl⟩, fun _ => ⟨⟨560, rfl⟩, rfl⟩⟩
set_option maxRecDepth 20000 in
theorem e_z_44 : e_zok 44 := ⟨⟨⟨565, rfl⟩, rfl⟩, ⟨⟨43, rfl⟩, rfl⟩, fun h => absurd h (by decide), fun _ => ⟨⟨563, rfl⟩, rfl⟩, fun _ => ⟨⟨564, rfl⟩, rfl⟩⟩
set_option maxRecDepth 20000 in
theorem e_z_45 : e_zok 45 := ⟨⟨⟨569, rfl⟩, rfl⟩, ⟨⟨43, rfl⟩, rfl⟩, fun h => absurd h (by decide), fun _ => ⟨⟨567, rfl⟩, rfl⟩, fun _ => ⟨⟨568, rfl⟩, rfl⟩⟩
set_option maxRecDepth 20000 in
theorem e_z_46 : e_zok 46 := ⟨⟨⟨573, rfl⟩, rfl⟩, ⟨⟨43, rfl⟩, rfl⟩, fun h => absurd h (by decide), fun _ => ⟨⟨571, rfl⟩, rfl⟩, fun _ => ⟨⟨572, rfl⟩, rfl⟩⟩
set_option maxRecDepth 20000 in
theorem e_z_47 : e_zok 47 := ⟨⟨⟨56, rfl⟩, rfl⟩, ⟨⟨40, rfl⟩, rfl⟩, fun h => absurd h (by decide), fun _ => ⟨⟨55, rfl⟩, rfl⟩, fun h => absurd h (by decide)⟩
set_option maxRecDepth 20000 in
theorem e_z_48 : e_zok 48 := ⟨⟨⟨349, rfl⟩, rfl⟩, ⟨⟨40, rfl⟩, rfl⟩, fun h => absurd h (by decide), fun _ => ⟨⟨347, rfl⟩, rfl⟩, fun _ => ⟨⟨348, rfl⟩, rfl⟩⟩
set_option maxRecDepth 20000 in
theorem e_z_49 : e_zok 49 := ⟨⟨⟨390, rfl⟩, rfl⟩, ⟨⟨40, rfl⟩, rfl⟩, fun h => absurd h (by decide), fun _ => ⟨⟨388, rfl⟩, rfl⟩, fun _ => ⟨⟨389, rfl⟩, rfl⟩⟩
set_option maxRecDepth 20000 in
theorem e_z_50 : e_zok 50 := ⟨⟨⟨397, rfl⟩, rfl⟩, ⟨⟨40, rfl⟩, rfl⟩, fun h => absurd h (by decide), fun _ => ⟨⟨395, rfl⟩, rfl⟩, fun _ => ⟨⟨396, rfl⟩, rfl⟩⟩
set_option maxRecDepth 20000 in
theorem e_z_51 : e_zok 51 := ⟨⟨⟨405, rfl⟩, rfl⟩, ⟨⟨40, rfl⟩, rfl⟩, fun h => absurd h (by decide), fun _ => ⟨⟨403, rfl⟩, rfl⟩, fun _ => ⟨⟨404, rfl⟩, rfl⟩⟩
set_option maxRecDepth 20000 in
theorem e_z_52 : e_zok 52 := ⟨⟨⟨412, rfl⟩, rfl⟩, ⟨⟨40, rfl⟩, rfl⟩, fun h => absurd h (by decide), fun _ => ⟨⟨410, rfl⟩, rfl⟩, fun _ => ⟨⟨411, rfl⟩, rfl⟩⟩
set_option maxRecDepth 20000 in
theorem e_z_53 : e_zok 53 := ⟨⟨⟨416, rfl⟩, rfl⟩, ⟨⟨40, rfl⟩, rfl⟩, fun h => absurd h (by decide), fun _ => ⟨⟨414, rfl⟩, rfl⟩, fun _ => ⟨⟨415, rfl⟩, rfl⟩⟩
set_option maxRecDepth 20000 in
theorem e_z_54 : e_zok 54 := ⟨⟨⟨420, rfl⟩, rfl⟩, ⟨⟨40, rfl⟩, rfl⟩, fun h => absurd h (by decide), fun _ => ⟨⟨418, rfl⟩, rfl⟩, fun _ => ⟨⟨419, rfl⟩, rfl⟩⟩
set_option maxRecDepth 20000 in
theorem e_z_55 : e_zok 55 := ⟨⟨⟨450, rfl⟩, rfl⟩, ⟨⟨40, rfl⟩, rfl⟩, fun h => absurd h (by decide), fun _ => ⟨⟨448, rfl⟩, rfl⟩, fun _ => ⟨⟨449, rfl⟩, rfl⟩⟩
set_option maxRecDepth 20000 in
theorem e_z_56 : e_zok 56 := ⟨⟨⟨454, rfl⟩, rfl⟩, ⟨⟨40, rfl⟩, rfl⟩, fun h => absurd h (by decide), fun _ => ⟨⟨452, rfl⟩, rfl⟩, fun _ => ⟨⟨453, rfl⟩, rfl⟩⟩
set_option maxRecDepth 20000 in
theorem e_z_57 : e_zok 57 := ⟨⟨⟨462, rfl⟩, rfl⟩, ⟨⟨40, rfl⟩, rfl⟩, fun h => absurd h (by decide), fun _ => ⟨⟨460, rfl⟩, rfl⟩, fun _ => ⟨⟨461, rfl⟩, rfl⟩⟩
set_option maxRecDepth 20000 in
theorem e_z_58 : e_zok 58 := ⟨⟨⟨469, rfl⟩, rfl⟩, ⟨⟨40, rfl⟩, rfl⟩, fun h => absurd h (by decide), fun _ => ⟨⟨467, rfl⟩, rfl⟩, fun _ => ⟨⟨468, rfl⟩, rfl⟩⟩
set_option maxRecDepth 20000 in
theorem e_z_59 : e_zok 59 := ⟨⟨⟨480, rfl⟩, rfl⟩, ⟨⟨40, rfl⟩, rfl⟩, fun h => absurd h (by decide), fun _ => ⟨⟨478, rfl⟩, rfl⟩, fun _ => ⟨⟨479, rfl⟩, rfl⟩⟩
set_option maxRecDepth 20000 in
theorem e_z_60 : e_zok 60 := ⟨⟨⟨582, rfl⟩, rfl⟩, ⟨⟨40, rfl⟩, rfl⟩, fun h => absurd h (by decide), fun _ => ⟨⟨580, rfl⟩, rfl⟩, fun _ => ⟨⟨581, rfl⟩, rfl⟩⟩
set_option maxRecDepth 20000 in
theorem e_z_61 : e_zok 61 := ⟨⟨⟨484, rfl⟩, rfl⟩, ⟨⟨40, rfl⟩, rfl⟩, fun h => absurd h (by decide), fun _ => ⟨⟨483, rfl⟩, rfl⟩, fun _ => ⟨⟨10, rfl⟩, rfl⟩⟩
set_option maxRecDepth 20000 in
theorem e_z_62 : e_zok 62 := ⟨⟨⟨586, rfl⟩, rfl⟩, ⟨⟨40, rfl⟩, rfl⟩, fun h => absurd h (by decide), fun _ => ⟨⟨584, rfl⟩, rfl⟩, fun _ => ⟨⟨585, rfl⟩, rfl⟩⟩
set_option maxRecDepth 20000 in
theorem e_z_63 : e_zok 63 := ⟨⟨⟨590, rfl⟩, rfl⟩, ⟨⟨40, rfl⟩, rfl⟩, fun h => absurd h (by decide), fun _ => ⟨⟨588, rfl⟩, rfl⟩, fun _ => ⟨⟨589, rfl⟩, rfl⟩⟩
set_option maxRecDepth 20000 in
theorem e_z_64 : e_zok 64 := ⟨⟨⟨594, rfl⟩, rfl⟩, ⟨⟨40, rfl⟩, rfl⟩, fun h => absurd h (by decide), fun _ => ⟨⟨592, rfl⟩, rfl⟩, fun _ => ⟨⟨593, rfl⟩, rfl⟩⟩
set_option maxRecDepth 20000 in
theorem e_z_65 : e_zok 65 := ⟨⟨⟨598, rfl⟩, rfl⟩, ⟨⟨40, rfl⟩, rfl⟩, fun h => absurd h (by decide), fun _ => ⟨⟨596, rfl⟩, rfl⟩, fun _ => ⟨⟨597, rfl⟩, rfl⟩⟩
set_option maxRecDepth 20000 in
theorem e_z_66 : e_zok 66 := ⟨⟨⟨602, rfl⟩, rfl⟩, ⟨⟨40, rfl⟩, rfl⟩, fun h => absurd h (by decide), fun _ => ⟨⟨600, rfl⟩, rfl⟩, fun _ => ⟨⟨601, rfl⟩, rfl⟩⟩
set_option maxRecDepth 20000 in
theorem e_z_67 : e_zok 67 := ⟨⟨⟨606, rfl⟩, rfl⟩, ⟨⟨40, rfl⟩, rfl⟩, fun h => absurd h (by decide), fun _ => ⟨⟨604, rfl⟩, rfl⟩, fun _ => ⟨⟨605, rfl⟩, rfl⟩⟩
set_option maxRecDepth 20000 in
theorem e_z_68 : e_zok 68 := ⟨⟨⟨610, rfl⟩, rfl⟩, ⟨⟨40, rfl⟩, rfl⟩, fun h => absurd h (by decide), fun _ => ⟨⟨608, rfl⟩, rfl⟩, fun _ => ⟨⟨609, rfl⟩, rfl⟩⟩
set_option maxRecDepth 20000 in
theorem e_z_69 : e_zok 69 := ⟨⟨⟨614, rfl⟩, rfl⟩, ⟨⟨40, rfl⟩, rfl⟩, fun h => absurd h (by decide), fun _ => ⟨⟨612, rfl⟩, rfl⟩, fun _ => ⟨⟨613, rfl⟩, rfl⟩⟩
set_option maxRecDepth 20000 in
theorem e_z_70 : e_zok 70 := ⟨⟨⟨618, rfl⟩, rfl⟩, ⟨⟨40, rfl⟩, rfl⟩, fun h => absurd h (by decide), fun _ => ⟨⟨616, rfl⟩, rfl⟩, fun _ => ⟨⟨617, rfl⟩, rfl⟩⟩
set_option maxRecDepth 20000 in
theorem e_z_71 : e_zok 71 := ⟨⟨⟨622, rfl⟩, rfl⟩, ⟨⟨40, rfl⟩, rfl⟩, fun h => absurd h (by decide), fun _ => ⟨⟨620, rfl⟩, rfl⟩, fun _ => ⟨⟨621, rfl⟩, rfl⟩⟩
set_option maxRecDepth 20000 in
theorem e_z_72 : e_zok 72 := ⟨⟨⟨653, rfl⟩, rfl⟩, ⟨⟨40, rfl⟩, rfl⟩, fun h => absurd h (by decide), fun _ => ⟨⟨651, rfl⟩, rfl⟩, fun _ => ⟨⟨652, rfl⟩, rfl⟩⟩
set_option maxRecDepth 20000 in
theorem e_z_73 : e_zok 73 := ⟨⟨⟨657, rfl⟩, rfl⟩, ⟨⟨40, rfl⟩, rfl⟩, fun h => absurd h (by decide), fun _ => ⟨⟨655, rfl⟩, rfl⟩, fun _ => ⟨⟨656, rfl⟩, rfl⟩⟩
set_option maxRecDepth 20000 in
theorem e_z_74 : e_zok 74 := ⟨⟨⟨665, rfl⟩, rfl⟩, ⟨⟨40, rfl⟩, rfl⟩, fun h => absurd h (by decide), fun _ => ⟨⟨663, rfl⟩, rfl⟩, fun _ => ⟨⟨664, rfl⟩, rfl⟩⟩
set_option maxRecDepth 20000 in
theorem e_z_75 : e_zok 75 := ⟨⟨⟨669, rfl⟩, rfl⟩, ⟨⟨40, rfl⟩, rfl⟩, fun h => absurd h (by decide), fun _ => ⟨⟨667, rfl⟩, rfl⟩, fun _ => ⟨⟨668, rfl⟩, rfl⟩⟩
set_option maxRecDepth 20000 in
theorem e_z_76 : e_zok 76 := ⟨⟨⟨677, rfl⟩, rfl⟩, ⟨⟨40, rfl⟩, rfl⟩, fun _ => ⟨⟨676, rfl⟩, rfl⟩, fun h => absurd h (by decide), fun h => absurd h (by decide)⟩
set_option maxRecDepth 20000 in
theorem e_z_77 : e_zok 77 := ⟨⟨⟨680, rfl⟩, rfl⟩, ⟨⟨40, rfl⟩, rfl⟩, fun _ => ⟨⟨679, rfl⟩, rfl⟩, fun h => absurd h (by decide), fun h => absurd h (by decide)⟩
set_option maxRecDepth 20000 in
theorem e_z_78 : e_zok 78 := ⟨⟨⟨673, rfl⟩, rfl⟩, ⟨⟨40, rfl⟩, rfl⟩, fun _ => ⟨⟨672, rfl⟩, rfl⟩, fun h => absurd h (by decide), fun h => absurd h (by decide)⟩
set_option maxRecDepth 20000 in
theorem e_z_79 : e_zok 79 := ⟨⟨⟨352, rfl⟩, rfl⟩, ⟨⟨40, rfl⟩, rfl⟩, fun _ => ⟨⟨351, rfl⟩, rfl⟩, fun h => absurd h (by decide), fun h => absurd h (by decide)⟩
set_option maxRecDepth 20000 in
theorem e_z_80 : e_zok 80 := ⟨⟨⟨408, rfl⟩, rfl⟩, ⟨⟨40, rfl⟩, rfl⟩, fun _ => ⟨⟨407, rfl⟩, rfl⟩, fun h => absurd h (by decide), fun h => absurd h (by decide)⟩
set_option maxRecDepth 20000 in
theorem e_z_81 : e_zok 81 := ⟨⟨⟨393, rfl⟩, rfl⟩, ⟨⟨40, rfl⟩, rfl⟩, fun _ => ⟨⟨392, rfl⟩, rfl⟩, fun h => absurd h (by decide), fun h => absurd h (by decide)⟩
set_option maxRecDepth 20000 in
theorem e_z_82 : e_zok 82 := ⟨⟨⟨465, rfl⟩, rfl⟩, ⟨⟨40, rfl⟩, rfl⟩, fun _ => ⟨⟨464, rfl⟩, rfl⟩, fun h => absurd h (by decide), fun h => absurd h (by decide)⟩
set_option maxRecDepth 20000 in
theorem e_z_83 : e_zok 83 := ⟨⟨⟨476, rfl⟩, rfl⟩, ⟨⟨40, rfl⟩, rfl⟩, fun _ => ⟨⟨475, rfl⟩, rfl⟩, fun h => absurd h (by decide), fun h => absurd h (by decide)⟩
set_option maxRecDepth 20000 in
theorem e_z_84 : e_zok 84 := ⟨⟨⟨401, rfl⟩, rfl⟩, ⟨⟨40, rfl⟩, rfl⟩, fun h => absurd h (by decide), fun _ => ⟨⟨400, rfl⟩, rfl⟩, fun _ => ⟨⟨2, rfl⟩, rfl⟩⟩
set_option maxRecDepth 20000 in
theorem e_z_85 : e_zok 85 := ⟨⟨⟨458, rfl⟩, rfl⟩, ⟨⟨40, rfl⟩, rfl⟩, fun h => absurd h (by decide), fun _ => ⟨⟨457, rfl⟩, rfl⟩, fun _ => ⟨⟨8, rfl⟩, rfl⟩⟩
set_option maxRecDepth 20000 in
theorem e_z_86 : e_zok 86 := ⟨⟨⟨473, rfl⟩, rfl⟩, ⟨⟨40, rfl⟩, rfl⟩, fun h => absurd h (by decide), fun _ => ⟨⟨472, rfl⟩, rfl⟩, fun _ => ⟨⟨9, rfl⟩, rfl⟩⟩
set_option maxRecDepth 20000 in
theorem e_z_87 : e_zok 87 := ⟨⟨⟨359, rfl⟩, rfl⟩, ⟨⟨40, rfl⟩, rfl⟩, fun _ => ⟨⟨358, rfl⟩, rfl⟩, fun h => absurd h (by decide), fun h => absurd h (by decide)⟩
set_option maxRecDepth 20000 in
theorem e_z_88 : e_zok 88 := ⟨⟨⟨356, rfl⟩, rfl⟩, ⟨⟨40, rfl⟩, rfl⟩, fun h => absurd h (by decide), fun _ => ⟨⟨355, rfl⟩, rfl⟩, fun _ => ⟨⟨0, rfl⟩, rfl⟩⟩
set_option maxRecDepth 20000 in
theorem e_z_89 : e_zok 89 := ⟨⟨⟨685, rfl⟩, rfl⟩, ⟨⟨49, rfl⟩, rfl⟩, fun h => absurd h (by decide), fun _ => ⟨⟨684, rfl⟩, rfl⟩, fun h => absurd h (by decide)⟩
set_option maxRecDepth 20000 in
theorem e_z_90 : e_zok 90 := ⟨⟨⟨730, rfl⟩, rfl⟩, ⟨⟨49, rfl⟩, rfl⟩, fun _ => ⟨⟨729, rfl⟩, rfl⟩, fun h => absurd h (by decide), fun h => absurd h (by decide)⟩
set_option maxRecDepth 20000 in
theorem e_z_91 : e_zok 91 := ⟨⟨⟨734, rfl⟩, rfl⟩, ⟨⟨49, rfl⟩, rfl⟩, fun h => absurd h (by decide), fun _ => ⟨⟨733, rfl⟩, rfl⟩, fun _ => ⟨⟨14, rfl⟩, rfl⟩⟩
set_option maxRecDepth 20000 in
theorem e_z_92 : e_zok 92 := ⟨⟨⟨760, rfl⟩, rfl⟩, ⟨⟨49, rfl⟩, rfl⟩, fun h => absurd h (by decide), fun _ => ⟨⟨759, rfl⟩, rfl⟩, fun _ => ⟨⟨17, rfl⟩, rfl⟩⟩
set_option maxRecDepth 20000 in
theorem e_z_93 : e_zok 93 := ⟨⟨⟨752, rfl⟩, rfl⟩, ⟨⟨49, rfl⟩, rfl⟩, fun _ => ⟨⟨751, rfl⟩, rfl⟩, fun h => absurd h (by decide), fun h => absurd h (by decide)⟩
set_option maxRecDepth 20000 in
theorem e_z_94 : e_zok 94 := ⟨⟨⟨800, rfl⟩, rfl⟩, ⟨⟨49, rfl⟩, rfl⟩, fun h => absurd h (by decide), fun _ => ⟨⟨799, rfl⟩, rfl⟩, fun _ => ⟨⟨22, rfl⟩, rfl⟩⟩
set_option maxRecDepth 20000 in
theorem e_z_95 : e_zok 95 := ⟨⟨⟨749, rfl⟩, rfl⟩, ⟨⟨49, rfl⟩, rfl⟩, fun h => absurd h (by decide), fun _ => ⟨⟨748, rfl⟩, rfl⟩, fun _ => ⟨⟨16, rfl⟩, rfl⟩⟩
set_option maxRecDepth 20000 in
theorem e_z_96 : e_zok 96 := ⟨⟨⟨738, rfl⟩, rfl⟩, ⟨⟨49, rfl⟩, rfl⟩, fun h => absurd h (by decide), fun _ => ⟨⟨737, rfl⟩, rfl⟩, fun _ => ⟨⟨15, rfl⟩, rfl⟩⟩
set_option maxRecDepth 20000 in
theorem e_z_97 : e_zok 97 := ⟨⟨⟨727, rfl⟩, rfl⟩, ⟨⟨49, rfl⟩, rfl⟩, fun h => absurd h (by decide), fun _ => ⟨⟨725, rfl⟩, rfl⟩, fun _ => ⟨⟨726, rfl⟩, rfl⟩⟩
set_option maxRecDepth 20000 in
theorem e_z_98 : e_zok 98 := ⟨⟨⟨745, rfl⟩, rfl⟩, ⟨⟨49, rfl⟩, rfl⟩, fun _ => ⟨⟨744, rfl⟩, rfl⟩, fun h => absurd h (by decide), fun h => absurd h (by decide)⟩
set_option maxRecDepth 20000 in
theorem e_z_99 : e_zok 99 := ⟨⟨⟨742, rfl⟩, rfl⟩, ⟨⟨49, rfl⟩, rfl⟩, fun h => absurd h (by decide), fun _ => ⟨⟨740, rfl⟩, rfl⟩, fun _ => ⟨⟨741, rfl⟩, rfl⟩⟩
set_option maxRecDepth 20000 in
theorem e_z_100 : e_zok 100 := ⟨⟨⟨756, rfl⟩, rfl⟩, ⟨⟨49, rfl⟩, rfl⟩, fun h => absurd h (by decide), fun _ => ⟨⟨754, rfl⟩, rfl⟩, fun _ => ⟨⟨755, rfl⟩, rfl⟩⟩
set_option maxRecDepth 20000 in
theorem e_z_101 : e_zok 101 := ⟨⟨⟨764, rfl⟩, rfl⟩, ⟨⟨49, rfl⟩, rfl⟩, fun h => absurd h (by decide), fun _ => ⟨⟨762, rfl⟩, rfl⟩, fun _ => ⟨⟨763, rfl⟩, rfl⟩⟩
set_option maxRecDepth 20000 in
theorem e_z_102 : e_zok 102 := ⟨⟨⟨768, rfl⟩, rfl⟩, ⟨⟨49, rfl⟩, rfl⟩, fun h => absurd h (by decide), fun _ => ⟨⟨766, rfl⟩, rfl⟩, fun _ => ⟨⟨767, rfl⟩, rfl⟩⟩
set_option maxRecDepth 20000 in
theorem e_z_103 : e_zok 103 := ⟨⟨⟨772, rfl⟩, rfl⟩, ⟨⟨49, rfl⟩, rfl⟩, fun h => absurd h (by decide), fun _ => ⟨⟨770, rfl⟩, rfl⟩, fun _ => ⟨⟨771, rfl⟩, rfl⟩⟩
set_option maxRecDepth 20000 in
theorem e_z_104 : e_zok 104 := ⟨⟨⟨780, rfl⟩, rfl⟩, ⟨⟨49, rfl⟩, rfl⟩, fun h => absurd h (by decide), fun _ => ⟨⟨779, rfl⟩, rfl⟩, fun _ => ⟨⟨18, rfl⟩, rfl⟩⟩
set_option maxRecDepth 20000 in
theorem e_z_105 : e_zok 105 := ⟨⟨⟨792, rfl⟩, rfl⟩, ⟨⟨49, rfl⟩, rfl⟩, fun h => absurd h (by decide), fun _ => ⟨⟨791, rfl⟩, rfl⟩, fun _ => ⟨⟨21, rfl⟩, rfl⟩⟩
set_option maxRecDepth 20000 in
theorem e_z_106 : e_zok 106 := ⟨⟨⟨788, rfl⟩, rfl⟩, ⟨⟨49, rfl⟩, rfl⟩, fun h => absurd h (by decide), fun _ => ⟨⟨787, rfl⟩, rfl⟩, fun _ => ⟨⟨20, rfl⟩, rfl⟩⟩
set_option maxRecDepth 20000 in
theorem e_z_107 : e_zok 107 := ⟨⟨⟨784, rfl⟩, rfl⟩, ⟨⟨49, rfl⟩, rfl⟩, fun h => absurd h (by decide), fun _ => ⟨⟨783, rfl⟩, rfl⟩, fun _ => ⟨⟨19, rfl⟩, rfl⟩⟩
set_option maxRecDepth 20000 in
theorem e_z_108 : e_zok 108 := ⟨⟨⟨776, rfl⟩, rfl⟩, ⟨⟨49, rfl⟩, rfl⟩, fun h => absurd h (by decide), fun _ => ⟨⟨774, rfl⟩, rfl⟩, fun _ => ⟨⟨775, rfl⟩, rfl⟩⟩
set_option maxRecDepth 20000 in
theorem e_z_109 : e_zok 109 := ⟨⟨⟨796, rfl⟩, rfl⟩, ⟨⟨49, rfl⟩, rfl⟩, fun h => absurd h (by decide), fun _ => ⟨⟨794, rfl⟩, rfl⟩, fun _ => ⟨⟨795, rfl⟩, rfl⟩⟩
set_option maxRecDepth 20000 in
theorem e_z_110 : e_zok 110 := ⟨⟨⟨808, rfl⟩, rfl⟩, ⟨⟨49, rfl⟩, rfl⟩, fun h => absurd h (by decide), fun _ => ⟨⟨807, rfl⟩, rfl⟩, fun _ => ⟨⟨23, rfl⟩, rfl⟩⟩
set_option maxRecDepth 20000 in
theorem e_z_111 : e_zok 111 := ⟨⟨⟨804, rfl⟩, rfl⟩, ⟨⟨49, rfl⟩, rfl⟩, fun h => absurd h (by decide), fun _ => ⟨⟨802, rfl⟩, rfl⟩, fun _ => ⟨⟨803, rfl⟩, rfl⟩⟩
set_option maxRecDepth 20000 in
theorem e_z_112 : e_zok 112 := ⟨⟨⟨812, rfl⟩, rfl⟩, ⟨⟨49, rfl⟩, rfl⟩, fun h => absurd h (by decide), fun _ => ⟨⟨810, rfl⟩, rfl⟩, fun _ => ⟨⟨811, rfl⟩, rfl⟩⟩
set_option maxRecDepth 20000 in
theorem e_z_113 : e_zok 113 := ⟨⟨⟨816, rfl⟩, rfl⟩, ⟨⟨49, rfl⟩, rfl⟩, fun h => absurd h (by decide), fun _ => ⟨⟨814, rfl⟩, rfl⟩, fun _ => ⟨⟨815, rfl⟩, rfl⟩⟩
set_option maxRecDepth 20000 in
theorem e_z_114 : e_zok 114 := ⟨⟨⟨832, rfl⟩, rfl⟩, ⟨⟨49, rfl⟩, rfl⟩, fun h => absurd h (by decide), fun _ => ⟨⟨831, rfl⟩, rfl⟩, fun _ => ⟨⟨26, rfl⟩, rfl⟩⟩
set_option maxRecDepth 20000 in
theorem e_z_115 : e_zok 115 := ⟨⟨⟨836, rfl⟩, rfl⟩, ⟨⟨49, rfl⟩, rfl⟩, fun h => absurd h (by decide), fun _ => ⟨⟨835, rfl⟩, rfl⟩, fun _ => ⟨⟨27, rfl⟩, rfl⟩⟩
set_option maxRecDepth 20000 in
theorem e_z_116 : e_zok 116 := ⟨⟨⟨844, rfl⟩, rfl⟩, ⟨⟨49, rfl⟩, rfl⟩, fun h => absurd h (by decide), fun _ => ⟨⟨843, rfl⟩, rfl⟩, fun _ => ⟨⟨29, rfl⟩, rfl⟩⟩
set_option maxRecDepth 20000 in
theorem e_z_117 : e_zok 117 := ⟨⟨⟨864, rfl⟩, rfl⟩, ⟨⟨49, rfl⟩, rfl⟩, fun h => absurd h (by decide), fun _ => ⟨⟨863, rfl⟩, rfl⟩, fun _ => ⟨⟨34, rfl⟩, rfl⟩⟩
set_option maxRecDepth 20000 in
theorem e_z_118 : e_zok 118 := ⟨⟨⟨840, rfl⟩, rfl⟩, ⟨⟨49, rfl⟩, rfl⟩, fun h => absurd h (by decide), fun _ => ⟨⟨839, rfl⟩, rfl⟩, fun _ => ⟨⟨28, rfl⟩, rfl⟩⟩
set_option maxRecDepth 20000 in
theorem e_z_119 : e_zok 119 := ⟨⟨⟨828, rfl⟩, rfl⟩, ⟨⟨49, rfl⟩, rfl⟩, fun h => absurd h (by decide), fun _ => ⟨⟨827, rfl⟩, rfl⟩, fun _ => ⟨⟨25, rfl⟩, rfl⟩⟩
set_option maxRecDepth 20000 in
theorem e_z_120 : e_zok 120 := ⟨⟨⟨848, rfl⟩, rfl⟩, ⟨⟨49, rfl⟩, rfl⟩, fun h => absurd h (by decide), fun _ => ⟨⟨847, rfl⟩, rfl⟩, fun _ => ⟨⟨30, rfl⟩, rfl⟩⟩
set_option maxRecDepth 20000 in
theorem e_z_121 : e_zok 121 := ⟨⟨⟨856, rfl⟩, rfl⟩, ⟨⟨49, rfl⟩, rfl⟩, fun h => absurd h (by decide), fun _ => ⟨⟨855, rfl⟩, rfl⟩, fun _ => ⟨⟨32, rfl⟩, rfl⟩⟩
set_option maxRecDepth 20000 in
theorem e_z_122 : e_zok 122 := ⟨⟨⟨860, rfl⟩, rfl⟩, ⟨⟨49, rfl⟩, rfl⟩, fun h => absurd h (by decide), fun _ => ⟨⟨859, rfl⟩, rfl⟩, fun _ => ⟨⟨33, rfl⟩, rfl⟩⟩
set_option maxRecDepth 20000 in
theorem e_z_123 : e_zok 123 := ⟨⟨⟨852, rfl⟩, rfl⟩, ⟨⟨49, rfl⟩, rfl⟩, fun h => absurd h (by decide), fun _ => ⟨⟨851, rfl⟩, rfl⟩, fun _ => ⟨⟨31, rfl⟩, rfl⟩⟩
set_option maxRecDepth 20000 in
theorem e_z_124 : e_zok 124 := ⟨⟨⟨824, rfl⟩, rfl⟩, ⟨⟨49, rfl⟩, rfl⟩, fun h => absurd h (by decide), fun _ => ⟨⟨823, rfl⟩, rfl⟩, fun _ => ⟨⟨24, rfl⟩, rfl⟩⟩
set_option maxRecDepth 20000 in
theorem e_z_125 : e_zok 125 := ⟨⟨⟨820, rfl⟩, rfl⟩, ⟨⟨49, rfl⟩, rfl⟩, fun h => absurd h (by decide), fun _ => ⟨⟨818, rfl⟩, rfl⟩, fun _ => ⟨⟨819, rfl⟩, rfl⟩⟩
set_option maxRecDepth 20000 in
theorem e_z_126 : e_zok 126 := ⟨⟨⟨868, rfl⟩, rfl⟩, ⟨⟨49, rfl⟩, rfl⟩, fun h => absurd h (by decide), fun _ => ⟨⟨866, rfl⟩, rfl⟩, fun _ => ⟨⟨867, rfl⟩, rfl⟩⟩
set_option maxRecDepth 20000 in
theorem e_z_127 : e_zok 127 := ⟨⟨⟨872, rfl⟩, rfl⟩, ⟨⟨49, rfl⟩, rfl⟩, fun h => absurd h (by decide), fun _ => ⟨⟨870, rfl⟩, rfl⟩, fun _ => ⟨⟨871, rfl⟩, rfl⟩⟩
set_option maxRecDepth 20000 in
theorem e_z_128 : e_zok 128 := ⟨⟨⟨876, rfl⟩, rfl⟩, ⟨⟨49, rfl⟩, rfl⟩, fun h => absurd h (by decide), fun _ => ⟨⟨874, rfl⟩, rfl⟩, fun _ => ⟨⟨875, rfl⟩, rfl⟩⟩
set_option maxRecDepth 20000 in
theorem e_z_129 : e_zok 129 := ⟨⟨⟨880, rfl⟩, rfl⟩, ⟨⟨49, rfl⟩, rfl⟩, fun h => absurd h (by decide), fun _ => ⟨⟨878, rfl⟩, rfl⟩, fun _ => ⟨⟨879, rfl⟩, rfl⟩⟩
set_option maxRecDepth 20000 in
theorem e_z_130 : e_zok 130 := ⟨⟨⟨888, rfl⟩, rfl⟩, ⟨⟨49, rfl⟩, rfl⟩, fun h => absurd h (by decide), fun _ => ⟨⟨887, rfl⟩, rfl⟩, fun _ => ⟨⟨35, rfl⟩, rfl⟩⟩
set_option maxRecDepth 20000 in
theorem e_z_131 : e_zok 131 := ⟨⟨⟨884, rfl⟩, rfl⟩, ⟨⟨49, rfl⟩, rfl⟩, fun h => absurd h (by decide), fun _ => ⟨⟨882, rfl⟩, rfl⟩, fun _ => ⟨⟨883, rfl⟩, rfl⟩⟩
set_option maxRecDepth 20000 in
theorem e_z_132 : e_zok 132 := ⟨⟨⟨892, rfl⟩, rfl⟩, ⟨⟨49, rfl⟩, rfl⟩, fun h => absurd h (by decide), fun _ => ⟨⟨890, rfl⟩, rfl⟩, fun _ => ⟨⟨891, rfl⟩, rfl⟩⟩
set_option maxRecDepth 20000 in
theorem e_z_133 : e_zok 133 := ⟨⟨⟨896, rfl⟩, rfl⟩, ⟨⟨49, rfl⟩, rfl⟩, fun h => absurd h (by decide), fun _ => ⟨⟨894, rfl⟩, rfl⟩, fun _ => ⟨⟨895, rfl⟩, rfl⟩⟩
set_option maxRecDepth 20000 in
theorem e_z_134 : e_zok 134 := ⟨⟨⟨900, rfl⟩, rfl⟩, ⟨⟨49, rfl⟩, rfl⟩, fun h => absurd h (by decide), fun _ => ⟨⟨898, rfl⟩, rfl⟩, fun _ => ⟨⟨899, rfl⟩, rfl⟩⟩
set_option maxRecDepth 20000 in
theorem e_z_135 : e_zok 135 := ⟨⟨⟨904, rfl⟩, rfl⟩, ⟨⟨49, rfl⟩, rfl⟩, fun h => absurd h (by decide), fun _ => ⟨⟨902, rfl⟩, rfl⟩, fun _ => ⟨⟨903, rfl⟩, rfl⟩⟩
set_option maxRecDepth 20000 in
theorem e_z_136 : e_zok 136 := ⟨⟨⟨908, rfl⟩, rfl⟩, ⟨⟨49, rfl⟩, rfl⟩, fun h => absurd h (by decide), fun _ => ⟨⟨906, rfl⟩, rfl⟩, fun _ => ⟨⟨907, rfl⟩, rfl⟩⟩
set_option maxRecDepth 20000 in
theorem e_z_137 : e_zok 137 := ⟨⟨⟨928, rfl⟩, rfl⟩, ⟨⟨49, rfl⟩, rfl⟩, fun _ => ⟨⟨927, rfl⟩, rfl⟩, fun h => absurd h (by decide), fun h => absurd h (by decide)⟩
set_option maxRecDepth 20000 in
theorem e_z_138 : e_zok 138 := ⟨⟨⟨924, rfl⟩, rfl⟩, ⟨⟨49, rfl⟩, rfl⟩, fun h => absurd h (by decide), fun _ => ⟨⟨923, rfl⟩, rfl⟩, fun _ => ⟨⟨38, rfl⟩, rfl⟩⟩
set_option maxRecDepth 20000 in
theorem e_z_139 : e_zok 139 := ⟨⟨⟨920, rfl⟩, rfl⟩, ⟨⟨49, rfl⟩, rfl⟩, fun h => absurd h (by decide), fun _ => ⟨⟨919, rfl⟩, rfl⟩, fun _ => ⟨⟨37, rfl⟩, rfl⟩⟩
set_option maxRecDepth 20000 in
theorem e_z_140 : e_zok 140 := ⟨⟨⟨916, rfl⟩, rfl⟩, ⟨⟨49, rfl⟩, rfl⟩, fun h => absurd h (by decide), fun _ => ⟨⟨915, rfl⟩, rfl⟩, fun _ => ⟨⟨36, rfl⟩, rfl⟩⟩
set_option maxRecDepth 20000 in
theorem e_z_141 : e_zok 141 := ⟨⟨⟨912, rfl⟩, rfl⟩, ⟨⟨49, rfl⟩, rfl⟩, fun h => absurd h (by decide), fun _ => ⟨⟨910, rfl⟩, rfl⟩, fun _ => ⟨⟨911, rfl⟩, rfl⟩⟩
set_option maxRecDepth 20000 in
theorem e_z_142 : e_zok 142 := ⟨⟨⟨932, rfl⟩, rfl⟩, ⟨⟨49, rfl⟩, rfl⟩, fun h => absurd h (by decide), fun _ => ⟨⟨930, rfl⟩, rfl⟩, fun _ => ⟨⟨931, rfl⟩, rfl⟩⟩
set_option maxRecDepth 20000 in
theorem e_z_143 : e_zok 143 := ⟨⟨⟨936, rfl⟩, rfl⟩, ⟨⟨49, rfl⟩, rfl⟩, fun h => absurd h (by decide), fun _ => ⟨⟨934, rfl⟩, rfl⟩, fun _ => ⟨⟨935, rfl⟩, rfl⟩⟩
set_option maxRecDepth 20000 in
theorem e_z_144 : e_zok 144 := ⟨⟨⟨940, rfl⟩, rfl⟩, ⟨⟨49, rfl⟩, rfl⟩, fun h => absurd h (by decide), fun _ => ⟨⟨938, rfl⟩, rfl⟩, fun _ => ⟨⟨939, rfl⟩, rfl⟩⟩
set_option maxRecDepth 20000 in
theorem e_z_145 : e_zok 145 := ⟨⟨⟨948, rfl⟩, rfl⟩, ⟨⟨49, rfl⟩, rfl⟩, fun _ => ⟨⟨947, rfl⟩, rfl⟩, fun h => absurd h (by decide), fun h => absurd h (by decide)⟩
set_option maxRecDepth 20000 in
theorem e_z_146 : e_zok 146 := ⟨⟨⟨944, rfl⟩, rfl⟩, ⟨⟨49, rfl⟩, rfl⟩, fun h => absurd h (by decide), fun _ => ⟨⟨942, rfl⟩, rfl⟩, fun _ => ⟨⟨943, rfl⟩, rfl⟩⟩
theorem e_zs_ok : ∀ z, 1 ≤ z → z < 147 → e_zok z := by
  intro z h1 h2
  match z, h1, h2 with
  | 1, _, _ => exact e_z_1
  | 2, _, _ => exact e_z_2
  | 3, _, _ => exact e_z_3
  | 4, _, _ => exact e_z_4
  | 5, _, _ => exact e_z_5
  | 6, _, _ => exact e_z_6
  | 7, _, _ => exact e_z_7
  | 8, _, _ => exact e_z_8
  | 9, _, _ => exact e_z_9
  | 10, _, _ => exact e_z_10
  | 11, _, _ => exact e_z_11
  | 12, _, _ => exact e_z_12
  | 13, _, _ => exact e_z_13
  | 14, _, _ => exact e_z_14
  | 15, _, _ => exact e_z_15
  | 16, _, _ => exact e_z_16
  | 17, _, _ => exact e_z_17
  | 18, _, _ => exact e_z_18
  | 19, _, _ => exact e_z_19
  | 20, _, _ => exact e_z_20
  | 21, _, _ => exact e_z_21
  | 22, _, _ => exact e_z_22
  | 23, _, _ => exact e_z_23
  | 24, _, _ => exact e_z_24
  | 25, _, _ => exact e_z_25
  | 26, _, _ => exact e_z_26
  | 27, _, _ => exact e_z_27
  | 28, _, _ => exact e_z_28
  | 29, _, _ => exact e_z_29
  | 30, _, _ => exact e_z_30
  | 31, _, _ => exact e_z_31
  | 32, _, _ => exact e_z_32
  | 33, _, _ => exact e_z_33
  | 34, _, _ => exact e_z_34
  | 35, _, _ => exact e_z_35
  | 36, _, _ => exact e_z_36
  | 37, _, _ => exact e_z_37
  | 38, _, _ => exact e_z_38
  | 39, _, _ => exact e_z_39
  | 40, _, _ => exact e_z_40
  | 41, _, _ => exact e_z_41
  | 42, _, _ => exact e_z_42
  | 43, _, _ => exact e_z_43
  | 44, _, _ => exact e_z_44
  | 45, _, _ => exact e_z_45
  | 46, _, _ => exact e_z_46
  | 47, _, _ => exact e_z_47
  | 48, _, _ => exact e_z_48
  | 49, _, _ => exact e_z_49
  | 50, _, _ => exact e_z_50
  | 51, _, _ => exact e_z_51
  | 52, _, _ => exact e_z_52
  | 53, _, _ => exact e_z_53
  | 54, _, _ => exact e_z_54
  | 55, _, _ => exact e_z_55
  | 56, _, _ => exact e_z_56
  | 57, _, _ => exact e_z_57
  | 58, _, _ => exact e_z_58
  | 59, _, _ => exact e_z_59
  | 60, _, _ => exact e_z_60
  | 61, _, _ => exact e_z_61
  | 62, _, _ => exact e_z_62
  | 63, _, _ => exact e_z_63
  | 64, _, _ => exact e_z_64
  | 65, _, _ => exact e_z_65
  | 66, _, _ => exact e_z_66
  | 67, _, _ => exact e_z_67
  | 68, _, _ => exact e_z_68
  | 69, _, _ => exact e_z_69
  | 70, _, _ => exact e_z_70
  | 71, _, _ => exact e_z_71
  | 72, _, _ => exact e_z_72
  | 73, _, _ => exact e_z_73
  | 74, _, _ => exact e_z_74
  | 75, _, _ => exact e_z_75
  | 76, _, _ => exact e_z_76
  | 77, _, _ => exact e_z_77
  | 78, _, _ => exact e_z_78
  | 79, _, _ => exact e_z_79
  | 80, _, _ => exact e_z_80
  | 81, _, _ => exact e_z_81
  | 82, _, _ => exact e_z_82
  | 83, _, _ => exact e_z_83
  | 84, _, _ => exact e_z_84
  | 85, _, _ => exact e_z_85
  | 86, _, _ => exact e_z_86
  | 87, _, _ => exact e_z_87
  | 88, _, _ => exact e_z_88
  | 89, _, _ => exact e_z_89
  | 90, _, _ => exact e_z_90
  | 91, _, _ => exact e_z_91
  | 92, _, _ => exact e_z_92
  | 93, _, _ => exact e_z_93
  | 94, _, _ => exact e_z_94
  | 95, _, _ => exact e_z_95
  | 96, _, _ => exact e_z_96
  | 97, _, _ => exact e_z_97
  | 98, _, _ => exact e_z_98
  | 99, _, _ => exact e_z_99
  | 100, _, _ => exact e_z_100
  | 101, _, _ => exact e_z_101
  | 102, _, _ => exact e_z_102
  | 103, _, _ => exact e_z_103
  | 104, _, _ => exact e_z_104
  | 105, _, _ => exact e_z_105
  | 106, _, _ => exact e_z_106
  | 107, _, _ => exact e_z_107
  | 108, _, _ => exact e_z_108
  | 109, _, _ => exact e_z_109
  | 110, _, _ => exact e_z_110
  | 111, _, _ => exact e_z_111
  | 112, _, _ => exact e_z_112
  | 113, _, _ => exact e_z_113
  | 114, _, _ => exact e_z_114
  | 115, _, _ => exact e_z_115
  | 116, _, _ => exact e_z_116
  | 117, _, _ => exact e_z_117
  | 118, _, _ => exact e_z_118
  | 119, _, _ => exact e_z_119
  | 120, _, _ => exact e_z_120
  | 121, _, _ => exact e_z_121
  | 122, _, _ => exact e_z_122
  | 123, _, _ => exact e_z_123
  | 124, _, _ => exact e_z_124
  | 125, _, _ => exact e_z_125
  | 126, _, _ => exact e_z_126
  | 127, _, _ => exact e_z_127
  | 128, _, _ => exact e_z_128
  | 129, _, _ => exact e_z_129
  | 130, _, _ => exact e_z_130
  | 131, _, _ => exact e_z_131
  | 132, _, _ => exact e_z_132
  | 133, _, _ => exact e_z_133
  | 134, _, _ => exact e_z_134
  | 135, _, _ => exact e_z_135
  | 136, _, _ => exact e_z_136
  | 137, _, _ => exact e_z_137
  | 138, _, _ => exact e_z_138
  | 139, _, _ => exact e_z_139
  | 140, _, _ => exact e_z_140
  | 141, _, _ => exact e_z_141
  | 142, _, _ => exact e_z_142
  | 143, _, _ => exact e_z_143
  | 144, _, _ => exact e_z_144
  | 145, _, _ => exact e_z_145
  | 146, _, _ => exact e_z_146
  | z + 147, h1, h2 => omega
def e_zc (z : Nat) : Bool := decide ((e_mN z).cls = e_mO z ∧ ((e_mN z).cls ≠ "java/lang/invoke/MethodHandle" ∧ (e_mN z).cls ≠ "java/lang/invoke/VarHandle") ∧ plainName (e_mN z).cls = true ∧ (parseMethodDescriptor (e_mN z).desc).map (fun d => d.parameters.length) = some (e_mP z) ∧ (e_mK z = 1 → (e_mN z).name = "<init>" ∧ e_mR z = none) ∧ (e_mK z = 2 → e_mC z < 10 ∧ vwCl[e_mC z]?.map (·.1) = some (e_mN z).cls))
theorem e_zc_1 : e_zc 1 = true := by decide +kernel
theorem e_zc_2 : e_zc 2 = true := by decide +kernel
theorem e_zc_3 : e_zc 3 = true := by decide +kernel
theorem e_zc_4 : e_zc 4 = true := by decide +kernel
theorem e_zc_5 : e_zc 5 = true := by decide +kernel
theorem e_zc_6 : e_zc 6 = true := by decide +kernel
theorem e_zc_7 : e_zc 7 = true := by decide +kernel
theorem e_zc_8 : e_zc 8 = true := by decide +kernel
theorem e_zc_9 : e_zc 9 = true := by decide +kernel
theorem e_zc_10 : e_zc 10 = true := by decide +kernel
theorem e_zc_11 : e_zc 11 = true := by decide +kernel
theorem e_zc_12 : e_zc 12 = true := by decide +kernel
theorem e_zc_13 : e_zc 13 = true := by decide +kernel
theorem e_zc_14 : e_zc 14 = true := by decide +kernel
theorem e_zc_15 : e_zc 15 = true := by decide +kernel
theorem e_zc_16 : e_zc 16 = true := by decide +kernel
theorem e_zc_17 : e_zc 17 = true := by decide +kernel
theorem e_zc_18 : e_zc 18 = true := by decide +kernel
theorem e_zc_19 : e_zc 19 = true := by decide +kernel
theorem e_zc_20 : e_zc 20 = true := by decide +kernel
theorem e_zc_21 : e_zc 21 = true := by decide +kernel
theorem e_zc_22 : e_zc 22 = true := by decide +kernel
theorem e_zc_23 : e_zc 23 = true := by decide +kernel
theorem e_zc_24 : e_zc 24 = true := by decide +kernel
theorem e_zc_25 : e_zc 25 = true := by decide +kernel
theorem e_zc_26 : e_zc 26 = true := by decide +kernel
theorem e_zc_27 : e_zc 27 = true := by decide +kernel
theorem e_zc_28 : e_zc 28 = true := by decide +kernel
theorem e_zc_29 : e_zc 29 = true := by decide +kernel
theorem e_zc_30 : e_zc 30 = true := by decide +kernel
theorem e_zc_31 : e_zc 31 = true := by decide +kernel
theorem e_zc_32 : e_zc 32 = true := by decide +kernel
theorem e_zc_33 : e_zc 33 = true := by decide +kernel
theorem e_zc_34 : e_zc 34 = true := by decide +kernel
theorem e_zc_35 : e_zc 35 = true := by decide +kernel
theorem e_zc_36 : e_zc 36 = true := by decide +kernel
theorem e_zc_37 : e_zc 37 = true := by decide +kernel
theorem e_zc_38 : e_zc 38 = true := by decide +kernel
theorem e_zc_39 : e_zc 39 = true := by decide +kernel
theorem e_zc_40 : e_zc 40 = true := by decide +kernel
theorem e_zc_41 : e_zc 41 = true := by decide +kernel
theorem e_zc_42 : e_zc 42 = true := by decide +kernel
theorem e_zc_43 : e_zc 43 = true := by decide +kernel
theorem e_zc_44 : e_zc 44 = true := by decide +kernel
theorem e_zc_45 : e_zc 45 = true := by decide +kernel
theorem e_zc_46 : e_zc 46 = true := by decide +kernel
theorem e_zc_47 : e_zc 47 = true := by decide +kernel
theorem e_zc_48 : e_zc 48 = true := by decide +kernel
theorem e_zc_49 : e_zc 49 = true := by decide +kernel
theorem e_zc_50 : e_zc 50 = true := by decide +kernel
theorem e_zc_51 : e_zc 51 = true := by decide +kernel
theorem e_zc_52 : e_zc 52 = true := by decide +kernel
theorem e_zc_53 : e_zc 53 = true := by decide +kernel
theorem e_zc_54 : e_zc 54 = true := by decide +kernel
theorem e_zc_55 : e_zc 55 = true := by decide +kernel
theorem e_zc_56 : e_zc 56 = true := by decide +kernel
theorem e_zc_57 : e_zc 57 = true := by decide +kernel
theorem e_zc_58 : e_zc 58 = true := by decide +kernel
theorem e_zc_59 : e_zc 59 = true := by decide +kernel
theorem e_zc_60 : e_zc 60 = true := by decide +kernel
theorem e_zc_61 : e_zc 61 = true := by decide +kernel
theorem e_zc_62 : e_zc 62 = true := by decide +kernel
theorem e_zc_63 : e_zc 63 = true := by decide +kernel
theorem e_zc_64 : e_zc 64 = true := by decide +kernel
theorem e_zc_65 : e_zc 65 = true := by decide +kernel
theorem e_zc_66 : e_zc 66 = true := by decide +kernel
theorem e_zc_67 : e_zc 67 = true := by decide +kernel
theorem e_zc_68 : e_zc 68 = true := by decide +kernel
theorem e_zc_69 : e_zc 69 = true := by decide +kernel
theorem e_zc_70 : e_zc 70 = true := by decide +kernel
theorem e_zc_71 : e_zc 71 = true := by decide +kernel
theorem e_zc_72 : e_zc 72 = true := by decide +kernel
theorem e_zc_73 : e_zc 73 = true := by decide +kernel
theorem e_zc_74 : e_zc 74 = true := by decide +kernel
theorem e_zc_75 : e_zc 75 = true := by decide +kernel
theorem e_zc_76 : e_zc 76 = true := by decide +kernel
theorem e_zc_77 : e_zc 77 = true := by decide +kernel
theorem e_zc_78 : e_zc 78 = true := by decide +kernel
theorem e_zc_79 : e_zc 79 = true := by decide +kernel
theorem e_zc_80 : e_zc 80 = true := by decide +kernel
theorem e_zc_81 : e_zc 81 = true := by decide +kernel
theorem e_zc_82 : e_zc 82 = true := by decide +kernel
theorem e_zc_83 : e_zc 83 = true := by decide +kernel
theorem e_zc_84 : e_zc 84 = true := by decide +kernel
theorem e_zc_85 : e_zc 85 = true := by decide +kernel
theorem e_zc_86 : e_zc 86 = true := by decide +kernel
theorem e_zc_87 : e_zc 87 = true := by decide +kernel
theorem e_zc_88 : e_zc 88 = true := by decide +kernel
theorem e_zc_89 : e_zc 89 = true := by decide +kernel
theorem e_zc_90 : e_zc 90 = true := by decide +kernel
theorem e_zc_91 : e_zc 91 = true := by decide +kernel
theorem e_zc_92 : e_zc 92 = true := by decide +kernel
theorem e_zc_93 : e_zc 93 = true := by decide +kernel
theorem e_zc_94 : e_zc 94 = true := by decide +kernel
theorem e_zc_95 : e_zc 95 = true := by decide +kernel
theorem e_zc_96 : e_zc 96 = true := by decide +kernel
theorem e_zc_97 : e_zc 97 = true := by decide +kernel
theorem e_zc_98 : e_zc 98 = true := by decide +kernel
theorem e_zc_99 : e_zc 99 = true := by decide +kernel
theorem e_zc_100 : e_zc 100 = true := by decide +kernel
theorem e_zc_101 : e_zc 101 = true := by decide +kernel
theorem e_zc_102 : e_zc 102 = true := by decide +kernel
theorem e_zc_103 : e_zc 103 = true := by decide +kernel
theorem e_zc_104 : e_zc 104 = true := by decide +kernel
theorem e_zc_105 : e_zc 105 = true := by decide +kernel
theorem e_zc_106 : e_zc 106 = true := by decide +kernel
theorem e_zc_107 : e_zc 107 = true := by decide +kernel
theorem e_zc_108 : e_zc 108 = true := by decide +kernel
theorem e_zc_109 : e_zc 109 = true := by decide +kernel
theorem e_zc_110 : e_zc 110 = true := by decide +kernel
theorem e_zc_111 : e_zc 111 = true := by decide +kernel
theorem e_zc_112 : e_zc 112 = true := by decide +kernel
theorem e_zc_113 : e_zc 113 = true := by decide +kernel
theorem e_zc_114 : e_zc 114 = true := by decide +kernel
theorem e_zc_115 : e_zc 115 = true := by decide +kernel
theorem e_zc_116 : e_zc 116 = true := by decide +kernel
theorem e_zc_117 : e_zc 117 = true := by decide +kernel
theorem e_zc_118 : e_zc 118 = true := by decide +kernel
theorem e_zc_119 : e_zc 119 = true := by decide +kernel
theorem e_zc_120 : e_zc 120 = true := by decide +kernel
theorem e_zc_121 : e_zc 121 = true := by decide +kernel
theorem e_zc_122 : e_zc 122 = true := by decide +kernel
theorem e_zc_123 : e_zc 123 = true := by decide +kernel
theorem e_zc_124 : e_zc 124 = true := by decide +kernel
theorem e_zc_125 : e_zc 125 = true := by decide +kernel
theorem e_zc_126 : e_zc 126 = true := by decide +kernel
theorem e_zc_127 : e_zc 127 = true := by decide +kernel
theorem e_zc_128 : e_zc 128 = true := by decide +kernel
theorem e_zc_129 : e_zc 129 = true := by decide +kernel
theorem e_zc_130 : e_zc 130 = true := by decide +kernel
theorem e_zc_131 : e_zc 131 = true := by decide +kernel
theorem e_zc_132 : e_zc 132 = true := by decide +kernel
theorem e_zc_133 : e_zc 133 = true := by decide +kernel
theorem e_zc_134 : e_zc 134 = true := by decide +kernel
theorem e_zc_135 : e_zc 135 = true := by decide +kernel
theorem e_zc_136 : e_zc 136 = true := by decide +kernel
theorem e_zc_137 : e_zc 137 = true := by decide +kernel
theorem e_zc_138 : e_zc 138 = true := by decide +kernel
theorem e_zc_139 : e_zc 139 = true := by decide +kernel
theorem e_zc_140 : e_zc 140 = true := by decide +kernel
theorem e_zc_141 : e_zc 141 = true := by decide +kernel
theorem e_zc_142 : e_zc 142 = true := by decide +kernel
theorem e_zc_143 : e_zc 143 = true := by decide +kernel
theorem e_zc_144 : e_zc 144 = true := by decide +kernel
theorem e_zc_145 : e_zc 145 = true := by decide +kernel
theorem e_zc_146 : e_zc 146 = true := by decide +kernel
theorem e_zcs_ok : ∀ z, 1 ≤ z → z < 147 → e_zc z = true := by
  intro z h1 h2
  match z, h1, h2 with
  | 1, _, _ => exact e_zc_1
  | 2, _, _ => exact e_zc_2
  | 3, _, _ => exact e_zc_3
  | 4, _, _ => exact e_zc_4
  | 5, _, _ => exact e_zc_5
  | 6, _, _ => exact e_zc_6
  | 7, _, _ => exact e_zc_7
  | 8, _, _ => exact e_zc_8
  | 9, _, _ => exact e_zc_9
  | 10, _, _ => exact e_zc_10
  | 11, _, _ => exact e_zc_11
  | 12, _, _ => exact e_zc_12
  | 13, _, _ => exact e_zc_13
  | 14, _, _ => exact e_zc_14
  | 15, _, _ => exact e_zc_15
  | 16, _, _ => exact e_zc_16
  | 17, _, _ => exact e_zc_17
  | 18, _, _ => exact e_zc_18
  | 19, _, _ => exact e_zc_19
  | 20, _, _ => exact e_zc_20
  | 21, _, _ => exact e_zc_21
  | 22, _, _ => exact e_zc_22
  | 23, _, _ => exact e_zc_23
  | 24, _, _ => exact e_zc_24
  | 25, _, _ => exact e_zc_25
  | 26, _, _ => exact e_zc_26
  | 27, _, _ => exact e_zc_27
  | 28, _, _ => exact e_zc_28
  | 29, _, _ => exact e_zc_29
  | 30, _, _ => exact e_zc_30
  | 31, _, _ => exact e_zc_31
  | 32, _, _ => exact e_zc_32
  | 33, _, _ => exact e_zc_33
  | 34, _, _ => exact e_zc_34
  | 35, _, _ => exact e_zc_35
  | 36, _, _ => exact e_zc_36
  | 37, _, _ => exact e_zc_37
  | 38, _, _ => exact e_zc_38
  | 39, _, _ => exact e_zc_39
  | 40, _, _ => exact e_zc_40
  | 41, _, _ => exact e_zc_41
  | 42, _, _ => exact e_zc_42
  | 43, _, _ => exact e_zc_43
  | 44, _, _ => exact e_zc_44
  | 45, _, _ => exact e_zc_45
  | 46, _, _ => exact e_zc_46
  | 47, _, _ => exact e_zc_47
  | 48, _, _ => exact e_zc_48
  | 49, _, _ => exact e_zc_49
  | 50, _, _ => exact e_zc_50
  | 51, _, _ => exact e_zc_51
  | 52, _, _ => exact e_zc_52
  | 53, _, _ => exact e_zc_53
  | 54, _, _ => exact e_zc_54
  | 55, _, _ => exact e_zc_55
  | 56, _, _ => exact e_zc_56
  | 57, _, _ => exact e_zc_57
  | 58, _, _ => exact e_zc_58
  | 59, _, _ => exact e_zc_59
  | 60, _, _ => exact e_zc_60
  | 61, _, _ => exact e_zc_61
  | 62, _, _ => exact e_zc_62
  | 63, _, _ => exact e_zc_63
  | 64, _, _ => exact e_zc_64
  | 65, _, _ => exact e_zc_65
  | 66, _, _ => exact e_zc_66
  | 67, _, _ => exact e_zc_67
  | 68, _, _ => exact e_zc_68
  | 69, _, _ => exact e_zc_69
  | 70, _, _ => exact e_zc_70
  | 71, _, _ => exact e_zc_71
  | 72, _, _ => exact e_zc_72
  | 73, _, _ => exact e_zc_73
  | 74, _, _ => exact e_zc_74
  | 75, _, _ => exact e_zc_75
  | 76, _, _ => exact e_zc_76
  | 77, _, _ => exact e_zc_77
  | 78, _, _ => exact e_zc_78
  | 79, _, _ => exact e_zc_79
  | 80, _, _ => exact e_zc_80
  | 81, _, _ => exact e_zc_81
  | 82, _, _ => exact e_zc_82
  | 83, _, _ => exact e_zc_83
  | 84, _, _ => exact e_zc_84
  | 85, _, _ => exact e_zc_85
  | 86, _, _ => exact e_zc_86
  | 87, _, _ => exact e_zc_87
  | 88, _, _ => exact e_zc_88
  | 89, _, _ => exact e_zc_89
  | 90, _, _ => exact e_zc_90
  | 91, _, _ => exact e_zc_91
  | 92, _, _ => exact e_zc_92
  | 93, _, _ => exact e_zc_93
  | 94, _, _ => exact e_zc_94
  | 95, _, _ => exact e_zc_95
  | 96, _, _ => exact e_zc_96
  | 97, _, _ => exact e_zc_97
  | 98, _, _ => exact e_zc_98
  | 99, _, _ => exact e_zc_99
  | 100, _, _ => exact e_zc_100
  | 101, _, _ => exact e_zc_101
  | 102, _, _ => exact e_zc_102
  | 103, _, _ => exact e_zc_103
  | 104, _, _ => exact e_zc_104
  | 105, _, _ => exact e_zc_105
  | 106, _, _ => exact e_zc_106
  | 107, _, _ => exact e_zc_107
  | 108, _, _ => exact e_zc_108
  | 109, _, _ => exact e_zc_109
  | 110, _, _ => exact e_zc_110
  | 111, _, _ => exact e_zc_111
  | 112, _, _ => exact e_zc_112
  | 113, _, _ => exact e_zc_113
  | 114, _, _ => exact e_zc_114
  | 115, _, _ => exact e_zc_115
  | 116, _, _ => exact e_zc_116
  | 117, _, _ => exact e_zc_117
  | 118, _, _ => exact e_zc_118
  | 119, _, _ => exact e_zc_119
  | 120, _, _ => exact e_zc_120
  | 121, _, _ => exact e_zc_121
  | 122, _, _ => exact e_zc_122
  | 123, _, _ => exact e_zc_123
  | 124, _, _ => exact e_zc_124
  | 125, _, _ => exact e_zc_125
  | 126, _, _ => exact e_zc_126
  | 127, _, _ => exact e_zc_127
  | 128, _, _ => exact e_zc_128
  | 129, _, _ => exact e_zc_129
  | 130, _, _ => exact e_zc_130
  | 131, _, _ => exact e_zc_131
  | 132, _, _ => exact e_zc_132
  | 133, _, _ => exact e_zc_133
  | 134, _, _ => exact e_zc_134
  | 135, _, _ => exact e_zc_135
  | 136, _, _ => exact e_zc_136
  | 137, _, _ => exact e_zc_137
  | 138, _, _ => exact e_zc_138
  | 139, _, _ => exact e_zc_139
  | 140, _, _ => exact e_zc_140
  | 141, _, _ => exact e_zc_141
  | 142, _, _ => exact e_zc_142
  | 143, _, _ => exact e_zc_143
  | 144, _, _ => exact e_zc_144
  | 145, _, _ => exact e_zc_145
  | 146, _, _ => exact e_zc_146
  | z + 147, h1, h2 => omega
end
section
/-! the plain machine: op lists over locals, a stack and a memory of numbered cells; cell 0 is the script -/
abbrev e_Lv : Type := List (Nat × Value)
abbrev e_Mem : Type := Nat × (Nat → Nat → Int32) × (Nat → Nat → Nat)
def e_lk (a : Nat) : e_Lv → Option Value
  | [] => none
  | (i, v) :: t => if i = a then some v else e_lk a t
def e_sto (a : Nat) (v : Value) : e_Lv → e_Lv
  | [] => [(a, v)]
  | (i, w) :: t => if i = a then (a, v) :: t else (i, w) :: e_sto a v t
def e_isL : Value → Bool
  | .long _ => true
  | .double _ => true
  | _ => false
/-- no long stands just below place a -/
def e_ok (a : Nat) : e_Lv → Bool
  | [] => true
  | (i, w) :: t => !(i + 1 == a && e_isL w) && e_ok a t
/-- nothing stands at place a -/
def e_no (a : Nat) : e_Lv → Bool
  | [] => true
  | (i, _) :: t => !(i == a) && e_no a t
def e_rf (x : Nat) : Value := if x = 0 then .null else .ref x
def e_set {α : Type} (m : Nat → Nat → α) (c k : Nat) (v : α) : Nat → Nat → α := fun c' k' => if c' = c ∧ k' = k then v else m c' k'
def e_cpy (m : Nat → Nat → Int32) (q sp d dp n : Nat) : Nat → Nat → Int32 := fun c' k' => if c' = d ∧ dp ≤ k' ∧ k' < dp + n then m q (sp + (k' - dp)) else m c' k'
def e_clr {α : Type} (z : α) (m : Nat → Nat → α) (lo n : Nat) : Nat → Nat → α := fun c' k' => if lo ≤ c' ∧ c' < lo + n then z else m c' k'
def e_in (i : Int32) (n : Nat) : Bool := decide (0 ≤ i.toInt ∧ i.toInt < n)
def e_c1 (cd : ClassFile.Cond) (x : Int32) : Bool := match cd with
  | .eq => decide (x = 0)
  | .ne => decide (¬ x = 0)
  | .lt => decide (x < 0)
  | .ge => decide (0 ≤ x)
  | .gt => decide (0 < x)
  | .le => decide (x ≤ 0)
def e_c2 (cd : ClassFile.Cond) (x y : Int32) : Bool := match cd with
  | .eq => decide (x = y)
  | .ne => decide (¬ x = y)
  | .lt => decide (x < y)
  | .ge => decide (y ≤ x)
  | .gt => decide (y < x)
  | .le => decide (x ≤ y)
abbrev e_St : Type := Option Nat × e_Lv × List Value × e_Mem
/-- one op that is neither a call nor a return -/
def e_one (xs : Nat → Int32) (L : Nat) (op : e_Op) (lv : e_Lv) (st : List Value) (M : e_Mem) : Option e_St := match op with
  | (_, ins, v, a, b, c) => match ins with
    | .nop => some (some a, lv, st, M)
    | .iconst _ => some (none, lv, .int v :: st, M)
    | .bipush _ => some (none, lv, .int v :: st, M)
    | .sipush _ => some (none, lv, .int v :: st, M)
    | .ldc _ => some (none, lv, .int v :: st, M)
    | .ldc2_w _ => some (none, lv, .long v.toInt64 :: st, M)
    | .iload_n _ => match e_lk a lv with
      | some (.int x) => some (none, lv, .int x :: st, M)
      | _ => none
    | .iload _ => match e_lk a lv with
      | some (.int x) => some (none, lv, .int x :: st, M)
      | _ => none
    | .lload_n _ => match e_lk a lv with
      | some (.long x) => some (none, lv, .long x :: st, M)
      | _ => none
    | .aload_n _ => match e_lk a lv with
      | some (.ref x) => some (none, lv, .ref x :: st, M)
      | _ => none
    | .aload _ => match e_lk a lv with
      | some (.ref x) => some (none, lv, .ref x :: st, M)
      | _ => none
    | .istore_n _ => match st with
      | .int x :: r => if e_ok a lv = true then some (none, e_sto a (.int x) lv, r, M) else none
      | _ => none
    | .istore _ => match st with
      | .int x :: r => if e_ok a lv = true then some (none, e_sto a (.int x) lv, r, M) else none
      | _ => none
    | .lstore_n _ => match st with
      | .long x :: r => if (e_ok a lv && e_no (a + 1) lv) = true then some (none, e_sto a (.long x) lv, r, M) else none
      | _ => none
    | .astore_n _ => match st with
      | .ref x :: r => if e_ok a lv = true then some (none, e_sto a (.ref x) lv, r, M) else none
      | _ => none
    | .astore _ => match st with
      | .ref x :: r => if e_ok a lv = true then some (none, e_sto a (.ref x) lv, r, M) else none
      | _ => none
    | .iinc _ _ => match e_lk a lv with
      | some (.int x) => if e_ok a lv = true then some (none, e_sto a (.int (x + v)) lv, st, M) else none
      | _ => none
    | .iadd => match st with
      | .int y :: .int x :: r => some (none, lv, .int (x + y) :: r, M)
      | _ => none
    | .isub => match st with
      | .int y :: .int x :: r => some (none, lv, .int (x - y) :: r, M)
      | _ => none
    | .imul => match st with
      | .int y :: .int x :: r => some (none, lv, .int (x * y) :: r, M)
      | _ => none
    | .iand => match st with
      | .int y :: .int x :: r => some (none, lv, .int (x &&& y) :: r, M)
      | _ => none
    | .ixor => match st with
      | .int y :: .int x :: r => some (none, lv, .int (x ^^^ y) :: r, M)
      | _ => none
    | .idiv => match st with
      | .int y :: .int x :: r => if y = 0 then none else some (none, lv, .int (x / y) :: r, M)
      | _ => none
    | .irem => match st with
      | .int y :: .int x :: r => if y = 0 then none else some (none, lv, .int (x - x / y * y) :: r, M)
      | _ => none
    | .ineg => match st with
      | .int x :: r => some (none, lv, .int (-x) :: r, M)
      | _ => none
    | .i2l => match st with
      | .int x :: r => some (none, lv, .long x.toInt64 :: r, M)
      | _ => none
    | .i2b => match st with
      | .int x :: r => some (none, lv, .int x.toInt8.toInt32 :: r, M)
      | _ => none
    | .ladd => match st with
      | .long y :: .long x :: r => some (none, lv, .long (x + y) :: r, M)
      | _ => none
    | .lmul => match st with
      | .long y :: .long x :: r => some (none, lv, .long (x * y) :: r, M)
      | _ => none
    | .lcmp => match st with
      | .long y :: .long x :: r => some (none, lv, .int (lg_cmp x y) :: r, M)
      | _ => none
    | .dup => match st with
      | .int x :: r => some (none, lv, .int x :: .int x :: r, M)
      | .ref x :: r => some (none, lv, .ref x :: .ref x :: r, M)
      | _ => none
    | .dup2 => match st with
      | .int x :: .ref y :: r => some (none, lv, .int x :: .ref y :: .int x :: .ref y :: r, M)
      | _ => none
    | .pop => match st with
      | .int _ :: r => some (none, lv, r, M)
      | _ => none
    | .goto _ => some (some a, lv, st, M)
    | .ifCond cd _ => match st with
      | .int x :: r => some (if e_c1 cd x = true then some a else none, lv, r, M)
      | _ => none
    | .if_icmp cd _ => match st with
      | .int y :: .int x :: r => some (if e_c2 cd x y = true then some a else none, lv, r, M)
      | _ => none
    | .tableswitch _ lo hi _ => match st with
      | .int x :: r => some (some (if x.toInt < lo ∨ hi < x.toInt then b else a + (x.toInt - lo).toNat), lv, r, M)
      | _ => none
    | .getfield _ => match st with
      | .ref q :: r => if 1 ≤ q ∧ q ≤ M.1 ∧ (e_kd q).1 = a then some (none, lv, (if c = 2 then e_rf (M.2.2 q b) else .int (M.2.1 q b)) :: r, M) else none
      | _ => none
    | .putfield _ => match st with
      | .int x :: .ref q :: r => if (1 ≤ q ∧ q ≤ M.1 ∧ (e_kd q).1 = a) ∧ c < 2 ∧ (c = 1 → x = 0 ∨ x = 1) then some (none, lv, r, (M.1, e_set M.2.1 q b x, M.2.2)) else none
      | .ref z :: .ref q :: r => if (1 ≤ q ∧ q ≤ M.1 ∧ (e_kd q).1 = a) ∧ c = 2 ∧ 1 ≤ z then some (none, lv, r, (M.1, M.2.1, e_set M.2.2 q b z)) else none
      | _ => none
    | .iaload => match st with
      | .int i :: .ref q :: r => if q = 0 then (if e_in i L = true then some (none, lv, .int (xs i.toNatClampNeg) :: r, M) else none)
          else if q ≤ M.1 ∧ (e_kd q).1 = 10 ∧ e_in i (e_kd q).2 = true then some (none, lv, .int (M.2.1 q i.toNatClampNeg) :: r, M) else none
      | _ => none
    | .baload => match st with
      | .int i :: .ref q :: r => if 1 ≤ q ∧ q ≤ M.1 ∧ (e_kd q).1 = 11 ∧ e_in i (e_kd q).2 = true then some (none, lv, .int (M.2.1 q i.toNatClampNeg) :: r, M) else none
      | _ => none
    | .aaload => match st with
      | .int i :: .ref q :: r => if 1 ≤ q ∧ q ≤ M.1 ∧ (12 ≤ (e_kd q).1 ∧ (e_kd q).1 ≤ 14) ∧ e_in i (e_kd q).2 = true then some (none, lv, e_rf (M.2.2 q i.toNatClampNeg) :: r, M) else none
      | _ => none
    | .iastore => match st with
      | .int x :: .int i :: .ref q :: r => if 1 ≤ q ∧ q ≤ M.1 ∧ (e_kd q).1 = 10 ∧ e_in i (e_kd q).2 = true then some (none, lv, r, (M.1, e_set M.2.1 q i.toNatClampNeg x, M.2.2)) else none
      | _ => none
    | .bastore => match st with
      | .int x :: .int i :: .ref q :: r => if 1 ≤ q ∧ q ≤ M.1 ∧ (e_kd q).1 = 11 ∧ e_in i (e_kd q).2 = true then some (none, lv, r, (M.1, e_set M.2.1 q i.toNatClampNeg x.toInt8.toInt32, M.2.2)) else none
      | _ => none
    | .aastore => match st with
      | .ref z :: .int i :: .ref q :: r => if 1 ≤ q ∧ q ≤ M.1 ∧ (1 ≤ z ∧ z ≤ M.1) ∧ ((e_kd q).1 = 12 ∧ (e_kd z).1 = 1 ∨ (e_kd q).1 = 13 ∧ (e_kd z).1 = 4) ∧ e_in i (e_kd q).2 = true then some (none, lv, r, (M.1, M.2.1, e_set M.2.2 q i.toNatClampNeg z)) else none
      | _ => none
    | .arraylength => match st with
      | .ref q :: r => if q = 0 then some (none, lv, .int (Int32.ofNat L) :: r, M) else none
      | _ => none
    | .new _ => if M.1 + 1 ≤ 173 ∧ e_kd (M.1 + 1) = (a, b) then some (none, lv, .ref (M.1 + 1) :: st, (M.1 + 1, e_clr 0 M.2.1 (M.1 + 1) 1, e_clr 0 M.2.2 (M.1 + 1) 1)) else none
    | .newarray _ => match st with
      | .int n :: r => if M.1 + 1 ≤ 173 ∧ e_kd (M.1 + 1) = (a, n.toNatClampNeg) ∧ ¬ n < 0 ∧ n.toNatClampNeg ≤ 1000 then some (none, lv, .ref (M.1 + 1) :: r, (M.1 + 1, e_clr 0 M.2.1 (M.1 + 1) 1, e_clr 0 M.2.2 (M.1 + 1) 1)) else none
      | _ => none
    | .anewarray _ => match st with
      | .int n :: r => if M.1 + 1 ≤ 173 ∧ e_kd (M.1 + 1) = (a, n.toNatClampNeg) ∧ ¬ n < 0 ∧ n.toNatClampNeg ≤ 1000 then some (none, lv, .ref (M.1 + 1) :: r, (M.1 + 1, e_clr 0 M.2.1 (M.1 + 1) 1, e_clr 0 M.2.2 (M.1 + 1) 1)) else none
      | _ => none
    | .multianewarray _ _ => match st with
      | .int k :: .int n :: r => if M.1 + 25 ≤ 173 ∧ e_kd (M.1 + 1) = (14, 24) ∧ n = 24 ∧ k = 33 ∧ ((List.range 24).all fun i => e_kd (M.1 + 2 + i) == (10, 33)) = true then
          some (none, lv, .ref (M.1 + 1) :: r, (M.1 + 25, e_clr 0 M.2.1 (M.1 + 1) 25, fun c' k' => if c' = M.1 + 1 ∧ k' < 24 then M.1 + 2 + k' else e_clr 0 M.2.2 (M.1 + 1) 25 c' k')) else none
      | _ => none
    | .invokespecial _ => match st with
      | [.ref _] => if c = 999 then some (none, lv, [], M) else none
      | _ => none
    | .invokestatic _ => if c = 998 then (match st with
        | [.int n, .int dp, .ref d, .int sp, .ref q] => if (1 ≤ q ∧ q ≤ M.1 ∧ (e_kd q).1 = 10) ∧ (1 ≤ d ∧ d ≤ M.1 ∧ (e_kd d).1 = 10) ∧ (¬ sp < 0 ∧ ¬ dp < 0 ∧ ¬ n < 0) ∧ sp.toNatClampNeg + n.toNatClampNeg ≤ (e_kd q).2 ∧ dp.toNatClampNeg + n.toNatClampNeg ≤ (e_kd d).2 then
            some (none, lv, [], (M.1, e_cpy M.2.1 q sp.toNatClampNeg d dp.toNatClampNeg n.toNatClampNeg, M.2.2)) else none
        | _ => none)
      else if c = 991 then (match st with
        | .int z :: .int x :: r => if r.length ≤ 4 then some (none, lv, .int (if x < z then z else x) :: r, M) else none
        | _ => none)
      else if c = 992 then (match st with
        | .int z :: .int x :: r => if r.length ≤ 4 then some (none, lv, .int (if z < x then z else x) :: r, M) else none
        | _ => none)
      else if c = 993 then (match st with
        | .int x :: r => if r.length ≤ 4 then some (none, lv, .int (if 0 ≤ x then x else 0 - x) :: r, M) else none
        | _ => none)
      else if c = 994 then (match st with
        | .int z :: .int x :: r => if r.length ≤ 4 ∧ ¬ z = 0 then some (none, lv, .int (Jvm.Free.MCB.fmod x z) :: r, M) else none
        | _ => none)
      else none
    | _ => none
/-- what a return gives: nothing, or a number -/
def e_ret (op : e_Op) (st : List Value) : Option (Option Value) := match op with
  | (_, ins, _, a, _, _) => match ins with
    | .ireturn => match st with
      | [.int x] => if a = 0 ∨ x = 0 ∨ x = 1 then some (some (.int x)) else none
      | _ => none
    | .lreturn => match st with
      | [.long x] => some (some (.long x))
      | _ => none
    | .return_ => match st with
      | [] => some none
      | _ => none
    | _ => none
/-- is the op a return (1), a call (2), or neither (0) -/
def e_kind (op : e_Op) : Nat := match op with
  | (_, ins, _, _, _, c) => match ins with
    | .ireturn => 1
    | .lreturn => 1
    | .return_ => 1
    | .invokestatic _ => if c < 900 then 2 else 0
    | .invokespecial _ => if c < 900 then 3 else 0
    | .invokevirtual _ => if c < 900 then 3 else 0
    | _ => 0
/-- is a call's receiver (the last of the arguments on the stack) an object of class C, a cell that is there -/
def e_recv (v : Option Value) (n C : Nat) : Bool := match v with
  | some (.ref q) => decide (1 ≤ q ∧ q ≤ n ∧ (e_kd q).1 = C)
  | _ => false
/-- the places that a list of arguments takes -/
def e_slw : List Value → Nat
  | [] => 0
  | v :: t => (if e_isL v = true then 2 else 1) + e_slw t
abbrev e_Rs : Type := Option Value × e_Mem
def e_ev (xs : Nat → Int32) (L : Nat) : Nat → List e_Op → e_Lv → List Value → e_Mem → Option e_Rs
  | 0, _, _, _, _ => none
  | _ + 1, [], _, _, _ => none
  | f + 1, op :: is, lv, st, M => match e_kind op with
    | 0 => match e_one xs L op lv st M with
      | none => none
      | some (none, lv', st', M') => e_ev xs L f is lv' st' M'
      | some (some t, lv', st', M') => e_ev xs L f (e_lbl t) lv' st' M'
    | 1 => (e_ret op st).map fun r => (r, M)
    | k => if op.2.2.2.2.1 ≤ st.length ∧ st.length ≤ op.2.2.2.2.1 + 4 ∧ (k = 3 → e_recv ((st.take op.2.2.2.2.1).getLast?) M.1 (e_mC op.2.2.2.2.2) = true) ∧ e_slw (st.take op.2.2.2.2.1) ≤ e_mL op.2.2.2.2.2 then
        match e_ev xs L f (e_lbl op.2.2.2.1) (lv_args 0 (st.take op.2.2.2.2.1).reverse) [] M with
        | none => none
        | some (r, M') => e_ev xs L f is lv (r.toList ++ st.drop op.2.2.2.2.1) M'
      else none
end
section
/-! the plain machine lies over the real one: what the cells are, and a row for each op -/
def e_ro (bs x : Nat) : Option Nat := if x = 0 then none else some (bs + x)
def e_mv (b bs : Nat) (v : Value) : Value := match v with
  | .ref x => .ref (if x = 0 then b else bs + x)
  | v => v
def e_ent (bs : Nat) (CA : Nat → ClassId) (M : e_Mem) (c : Nat) : va_E :=
  if (e_kd c).1 < 10 then .inr ((e_kd c).1, (List.range (e_kd c).2).map (fun k => if e_isR (e_kd c).1 k = true then va_rf (e_ro bs (M.2.2 c k)) else .int (M.2.1 c k)))
  else if (e_kd c).1 < 12 then .inl (CA (e_kd c).1, (e_kd c).2, .inl (M.2.1 c))
  else .inl (CA (e_kd c).1, (e_kd c).2, .inr (.inr (.inr (.inr (fun j => e_ro bs (M.2.2 c j))))))
def e_tys (CA : Nat → ClassId) : List (ClassId × FieldType) := [(CA 10, .int), (CA 11, .byte), (CA 12, .object "FeederControl$Feeder"), (CA 13, .object "FeederControl$Node"), (CA 14, .array .int)]
def e_Rel (D : va_G) (CA : Nat → ClassId) (bs : Nat) (M : e_Mem) (H : Heap) : Prop := H.size = bs + 1 + M.1 ∧ M.1 ≤ 173 ∧ ∀ c, 1 ≤ c → c ≤ M.1 → va_at D vwCl (bs + c, e_ent bs CA M c) H
def e_Wd (U : State) : Prop := ∀ w ∈ lw_tbl, (goodWord w || e_isN w || e_isO w) = true → va_Nw w U
def e_T : List Jvm.Cond := lw_tbl.filter goodWord
/-- the listed locals, as the kit's rows want them -/
def e_lvl (b bs nL : Nat) (lv : e_Lv) : List (Nat × Value) := (List.range nL).filterMap fun i => (e_lk i lv).map fun v => (i, e_mv b bs v)
def e_LR (b bs : Nat) (ls : Array Slot) (nL : Nat) (lv : e_Lv) : Prop := lv_has ls nL (e_lvl b bs nL lv)
def e_Cx (p : Program) (s : State) (m : MethodId) (args : Array Value) (meth : Method) (c : Code) (D : va_G) (CA : Nat → ClassId) (bs b L : Nat) (xs : Nat → Int32) (y : Nat) : Prop :=
  p.tables.exec = Jvm.exec ∧ c.code = e_mB y ∧ c.maxLocals = e_mL y ∧ meth.sig.returnType = e_mR y ∧ meth.locks = false ∧ s.vm.findClass (e_mO y) = some m.cls ∧ ((e_mN y).name = "<init>" → meth.name = "<init>") ∧ e_Wd s ∧ va_K D vwCl (e_tys CA) s ∧ va_X b L xs s s.heap ∧ b < s.heap.size ∧ b ≤ bs ∧ bs + 1 ≤ s.heap.size ∧ ∀ w ∈ e_T, w.before args s = true
def e_G (p : Program) (l : Launch) (e : Env) (R : Room) (s : State) (m : MethodId) (args : Array Value) (below : List Frame) (meth : Method) (c : Code) (Q : State → Prop) (D : va_G) (CA : Nat → ClassId) (bs b y : Nat) (pc : Nat) (lv : e_Lv) (st : List Value) (M : e_Mem) (cells slots : Nat) : Prop :=
  ∀ (H : Heap) (locs : List Loc) (ls : Array Slot), e_Rel D CA bs M H → va_S (fun q => bs + 1 ≤ q) s.heap H locs → e_LR b bs ls (e_mL y) lv →
    W p l e R s m args below meth c H locs cells slots Q (F0 m pc ls (st.map (e_mv b bs)))
theorem e_w_any {w : Jvm.Cond} (hg : goodWord w = true) {s : State} (h : va_Nw w s) (args : Array Value) : w.before args s = true := by
  rcases good_of_word hg with h1 | ⟨ty, rfl⟩
  · simp only [Bool.and_eq_true] at h1
    exact va_Nw.use h1.1 h
  · exact h
theorem e_T_of {s : State} (h : e_Wd s) (args : Array Value) : ∀ w ∈ e_T, w.before args s = true := by
  intro w hw
  obtain ⟨h1, h2⟩ := List.mem_filter.mp hw
  exact e_w_any h2 (h w h1 (by simp [h2])) args
theorem e_wk_nw {w : Jvm.Cond} {s : State} (h : e_wk w) (hW : e_Wd s) : va_Nw w s := by
  obtain ⟨⟨i, hi⟩, hg⟩ := h
  exact hW w (List.mem_of_getElem? hi) hg
theorem e_wk_b {w : Jvm.Cond} {s : State} (h : e_wk w) (hg : goodWord w = true) (hW : e_Wd s) (args : Array Value) : w.before args s = true := e_w_any hg (e_wk_nw h hW) args
theorem e_lk_at {b bs nL : Nat} {ls : Array Slot} {lv : e_Lv} (h : e_LR b bs ls nL lv) {i : Nat} {v : Value} (hi : i < nL) (hv : e_lk i lv = some v) : ls[i]? = some (.val (e_mv b bs v)) := by
  refine h.2.2 (i, e_mv b bs v) ?_
  exact List.mem_filterMap.mpr ⟨i, List.mem_range.mpr hi, by simp [hv]⟩
theorem e_lk_sto (a i : Nat) (v : Value) : ∀ lv : e_Lv, e_lk i (e_sto a v lv) = if i = a then some v else e_lk i lv
  | [] => by
    by_cases h : a = i
    · simp [e_sto, e_lk, h]
    · simp [e_sto, e_lk, h, Ne.symm h]
  | (j, w) :: t => by
    have ih := e_lk_sto a i v t
    by_cases h : j = a
    · subst h
      by_cases h2 : j = i
      · simp [e_sto, e_lk, h2]
      · simp [e_sto, e_lk, h2, Ne.symm h2]
    · by_cases h2 : j = i
      · subst h2
        simp [e_sto, e_lk, h]
      · simp [e_sto, e_lk, h, h2, ih]
theorem e_ok_lk {a i : Nat} {v : Value} : ∀ {lv : e_Lv}, e_ok a lv = true → e_lk i lv = some v → i + 1 = a → e_isL v = false
  | [], _, h, _ => by simp [e_lk] at h
  | (j, w) :: t, hk, h, hi => by
    simp only [e_ok, Bool.and_eq_true, Bool.not_eq_true', Bool.and_eq_false_iff] at hk
    by_cases hj : j = i
    · subst hj
      simp [e_lk] at h
      subst h
      rcases hk.1 with q | q
      · simp [hi] at q
      · exact q
    · simp [e_lk, hj] at h
      exact e_ok_lk hk.2 h hi
theorem e_no_lk {a : Nat} : ∀ {lv : e_Lv}, e_no a lv = true → e_lk a lv = none
  | [], _ => rfl
  | (j, w) :: t, hk => by
    simp only [e_no, Bool.and_eq_true, Bool.not_eq_true'] at hk
    have h1 : ¬ j = a := by simpa using hk.1
    simp [e_lk, h1]
    exact e_no_lk hk.2
theorem e_cat {b bs : Nat} {v : Value} (h : e_isL v = false) : (e_mv b bs v).category = 1 := by
  cases v <;> simp_all [e_isL, e_mv, Value.category]
theorem e_LR.sto {b bs nL a : Nat} {ls' : Array Slot} {lv : e_Lv} {v : Value} (hk : e_ok a lv = true) (h : lv_has ls' nL ((a, e_mv b bs v) :: (e_lvl b bs nL lv).filter (fun q => !(q.1 == a) && !(q.1 + 1 == a && q.2.category == 2)))) : e_LR b bs ls' nL (e_sto a v lv) := by
  refine ⟨h.1, h.2.1, fun q hq => h.2.2 q ?_⟩
  obtain ⟨i, hi, hv⟩ := List.mem_filterMap.mp hq
  rw [e_lk_sto] at hv
  by_cases ha : i = a
  · subst ha
    simp at hv
    subst hv
    exact List.mem_cons_self
  · rw [if_neg ha] at hv
    obtain ⟨w, hw, rfl⟩ := Option.map_eq_some_iff.mp hv
    refine List.mem_cons_of_mem _ (List.mem_filter.mpr ⟨List.mem_filterMap.mpr ⟨i, hi, by simp [hw]⟩, ?_⟩)
    by_cases hi1 : i + 1 = a
    · simp [ha, e_cat (e_ok_lk hk hw hi1)]
    · simp [ha, hi1]
theorem e_LR.stoL {b bs nL a : Nat} {ls' : Array Slot} {lv : e_Lv} {v : Value} (hk : e_ok a lv = true) (hn : e_no (a + 1) lv = true) (h : lv_has ls' nL ((a, e_mv b bs v) :: (e_lvl b bs nL lv).filter (fun q => !(q.1 == a) && (!(q.1 == a + 1) && !(q.1 + 1 == a && q.2.category == 2))))) : e_LR b bs ls' nL (e_sto a v lv) := by
  refine ⟨h.1, h.2.1, fun q hq => h.2.2 q ?_⟩
  obtain ⟨i, hi, hv⟩ := List.mem_filterMap.mp hq
  rw [e_lk_sto] at hv
  by_cases ha : i = a
  · subst ha
    simp at hv
    subst hv
    exact List.mem_cons_self
  · rw [if_neg ha] at hv
    obtain ⟨w, hw, rfl⟩ := Option.map_eq_some_iff.mp hv
    have h2 : ¬ i = a + 1 := fun q => by rw [q, e_no_lk hn] at hw; cases hw
    refine List.mem_cons_of_mem _ (List.mem_filter.mpr ⟨List.mem_filterMap.mpr ⟨i, hi, by simp [hw]⟩, ?_⟩)
    by_cases hi1 : i + 1 = a
    · simp [ha, h2, e_cat (e_ok_lk hk hw hi1)]
    · simp [ha, h2, hi1]
theorem e_in_iff {i : Int32} {n : Nat} (h : e_in i n = true) : vp_in i n := vp_in_iff.mpr (of_decide_eq_true h)
theorem e_Rel.at {D : va_G} {CA : Nat → ClassId} {bs : Nat} {M : e_Mem} {H : Heap} (h : e_Rel D CA bs M H) {q : Nat} (h1 : 1 ≤ q) (h2 : q ≤ M.1) : va_P D vwCl [(bs + q, e_ent bs CA M q)] H := by
  intro k x hx
  have h0 : k < 1 := (List.getElem?_eq_some_iff.mp hx).1
  rw [show k = 0 by omega] at hx
  cases hx
  exact h.2.2 q h1 h2
/-- a cell anew -/
theorem e_Rel.put {D : va_G} {CA : Nat → ClassId} {bs : Nat} {M M' : e_Mem} {H H1 : Heap} (h : e_Rel D CA bs M H) {q : Nat} (hn : M'.1 = M.1) (hz : H1.size = H.size) (ho : ∀ x : Nat, x ≠ bs + q → H1[x]? = H[x]?) (hat : va_at D vwCl (bs + q, e_ent bs CA M' q) H1) (he : ∀ c, c ≠ q → e_ent bs CA M' c = e_ent bs CA M c) : e_Rel D CA bs M' H1 := by
  refine ⟨by rw [hz, hn]; exact h.1, by rw [hn]; exact h.2.1, fun c h1 h2 => ?_⟩
  by_cases hc : c = q
  · subst hc
    exact hat
  · rw [he c hc]
    exact (h.2.2 c h1 (by rw [← hn]; exact h2)).kept (ho _ (by show bs + c ≠ bs + q; omega))
theorem e_ent_set {bs : Nat} {CA : Nat → ClassId} {M : e_Mem} {q k : Nat} {v : Int32} {c : Nat} (h : c ≠ q) : e_ent bs CA (M.1, e_set M.2.1 q k v, M.2.2) c = e_ent bs CA M c := by
  have h1 : ∀ k', e_set M.2.1 q k v c k' = M.2.1 c k' := fun k' => by simp [e_set, h]
  have h2 : e_set M.2.1 q k v c = M.2.1 c := funext h1
  simp only [e_ent, h1, h2]
theorem e_ent_setR {bs : Nat} {CA : Nat → ClassId} {M : e_Mem} {q k : Nat} {v : Nat} {c : Nat} (h : c ≠ q) : e_ent bs CA (M.1, M.2.1, e_set M.2.2 q k v) c = e_ent bs CA M c := by
  have h1 : ∀ k', e_set M.2.2 q k v c k' = M.2.2 c k' := fun k' => by simp [e_set, h]
  simp only [e_ent, h1]
theorem e_ent_o {bs : Nat} {CA : Nat → ClassId} {M : e_Mem} {q a : Nat} (h : (e_kd q).1 = a) (ha : a < 10) : e_ent bs CA M q = .inr (a, (List.range (e_kd q).2).map (fun k => if e_isR a k = true then va_rf (e_ro bs (M.2.2 q k)) else .int (M.2.1 q k))) := by
  simp only [e_ent, h, ha, if_true]
theorem e_ent_i {bs : Nat} {CA : Nat → ClassId} {M : e_Mem} {q a : Nat} (h : (e_kd q).1 = a) (ha : ¬ a < 10) (hb : a < 12) : e_ent bs CA M q = .inl (CA a, (e_kd q).2, .inl (M.2.1 q)) := by
  simp only [e_ent, h, ha, hb, if_true, if_false]
theorem e_ent_q {bs : Nat} {CA : Nat → ClassId} {M : e_Mem} {q a : Nat} (h : (e_kd q).1 = a) (ha : ¬ a < 12) : e_ent bs CA M q = .inl (CA a, (e_kd q).2, .inr (.inr (.inr (.inr (fun j => e_ro bs (M.2.2 q j)))))) := by
  simp only [e_ent, h, ha, if_false, show ¬ a < 10 by omega]
theorem e_mv_rf (b bs x : Nat) : e_mv b bs (e_rf x) = va_rf (e_ro bs x) := by
  by_cases h : x = 0
  · simp [e_rf, e_ro, h, e_mv, va_rf]
  · simp [e_rf, e_ro, h, e_mv, va_rf]
/-- what the tables of a class say -/
def e_tyL : List (Nat → FieldType) := [tyX0, tyX1, tyX2, tyX3, tyX4, tyX5, tyX6, tyX7, tyX8, tyX9]
def e_ty (a k : Nat) : FieldType := (e_tyL.getD a (fun _ => .int)) k
theorem e_goodlays {C : String} {T : u_T} {N : Nat} : ∀ w ∈ u_ws C T N, goodWord w = true := by
  intro w hw
  obtain ⟨k, -, rfl⟩ := List.mem_map.mp hw
  unfold u_lay
  split <;> rfl
set_option maxRecDepth 20000 in
theorem e_cls {a : Nat} {C : String} {T : u_T} {N : Nat} (h : vwCl[a]? = some (C, T, N)) : (∀ w ∈ u_ws C T N, w ∈ e_T) ∧ (∀ k, k < N → parseFieldDescriptor (T k).2.2.1 = some (e_ty a k)) ∧ (∀ x, x < N → ∀ z, z < N → x ≠ z → (T x).2.1 ≠ (T z).2.1) ∧ (∀ k, k < N → (T k).1 = C) ∧ (∀ k, k < N → defaultValue (e_ty a k) = if e_isR a k = true then .null else .int 0) ∧ a < 10 := by
  match a, h with
  | 0, h =>
    cases h
    exact ⟨fun w hw => List.mem_filter.mpr ⟨inX0 w hw, e_goodlays w hw⟩, tyX0_ok, nmX0, by decide +kernel, by decide +kernel, by omega⟩
  | 1, h =>
    cases h
    exact ⟨fun w hw => List.mem_filter.mpr ⟨inX1 w hw, e_goodlays w hw⟩, tyX1_ok, nmX1, by decide +kernel, by decide +kernel, by omega⟩
  | 2, h =>
    cases h
    exact ⟨fun w hw => List.mem_filter.mpr ⟨inX2 w hw, e_goodlays w hw⟩, tyX2_ok, nmX2, by decide +kernel, by decide +kernel, by omega⟩
  | 3, h =>
    cases h
    exact ⟨fun w hw => List.mem_filter.mpr ⟨inX3 w hw, e_goodlays w hw⟩, tyX3_ok, nmX3, by decide +kernel, by decide +kernel, by omega⟩
  | 4, h =>
    cases h
    exact ⟨fun w hw => List.mem_filter.mpr ⟨inX4 w hw, e_goodlays w hw⟩, tyX4_ok, nmX4, by decide +kernel, by decide +kernel, by omega⟩
  | 5, h =>
    cases h
    exact ⟨fun w hw => List.mem_filter.mpr ⟨inX5 w hw, e_goodlays w hw⟩, tyX5_ok, nmX5, by decide +kernel, by decide +kernel, by omega⟩
  | 6, h =>
    cases h
    exact ⟨fun w hw => List.mem_filter.mpr ⟨inX6 w hw, e_goodlays w hw⟩, tyX6_ok, nmX6, by decide +kernel, by decide +kernel, by omega⟩
  | 7, h =>
    cases h
    exact ⟨fun w hw => List.mem_filter.mpr ⟨inX7 w hw, e_goodlays w hw⟩, tyX7_ok, nmX7, by decide +kernel, by decide +kernel, by omega⟩
  | 8, h =>
    cases h
    exact ⟨fun w hw => List.mem_filter.mpr ⟨inX8 w hw, e_goodlays w hw⟩, tyX8_ok, nmX8, by decide +kernel, by decide +kernel, by omega⟩
  | 9, h =>
    cases h
    exact ⟨fun w hw => List.mem_filter.mpr ⟨inX9 w hw, e_goodlays w hw⟩, tyX9_ok, nmX9, by decide +kernel, by decide +kernel, by omega⟩
  | a + 10, h => simp [vwCl] at h
def e_kdN : Bool := e_kds.all fun q => !(decide (q.1 < 10)) || ((vwCl[q.1]?.map (·.2.2)) == some q.2)
theorem e_kdN_ok : e_kdN = true := by decide +kernel
theorem e_kd_n {q a : Nat} (h : (e_kd q).1 = a) (ha : a < 10) : vwCl[a]?.map (·.2.2) = some (e_kd q).2 := by
  have h1 := List.all_eq_true.mp e_kdN_ok
  unfold e_kd at h ⊢
  rw [List.getD_eq_getElem?_getD] at h ⊢
  cases hq : e_kds[q]? with
  | none =>
    rw [hq] at h
    simp at h
    omega
  | some z =>
    rw [hq] at h
    simp only [Option.getD_some] at h ⊢
    have h2 := h1 z (List.mem_of_getElem? hq)
    rw [h] at h2
    simpa [ha] using h2
section E_ROWS
variable {p : Program} {l : Launch} {e : Env} {R : Room} {s : State} {m : MethodId} {args : Array Value} {below : List Frame} {meth : Method} {c : Code} {Q : State → Prop} {D : va_G} {CA : Nat → ClassId} {bs b L y pc : Nat} {xs : Nat → Int32} {lv : e_Lv} {st : List Value} {M : e_Mem} {cells slots : Nat}
theorem g_iconst (C0 : e_Cx p s m args meth c D CA bs b L xs y) {n : Int} {v : Int32} (hv : Int32.ofInt n = v) (hd : decode (e_mB y) pc = .ok (.iconst n, 1)) (k : e_G p l e R s m args below meth c Q D CA bs b y (pc + 1) lv (.int v :: st) M cells slots) : e_G p l e R s m args below meth c Q D CA bs b y pc lv st M cells slots := fun H locs ls hR hS hL => lv_iconst C0.1 C0.2.1 hd hv (k H locs ls hR hS hL)
theorem g_bipush (C0 : e_Cx p s m args meth c D CA bs b L xs y) {n : Int} {v : Int32} (hv : (Int8.ofInt n).toInt32 = v) (hd : decode (e_mB y) pc = .ok (.bipush n, 2)) (k : e_G p l e R s m args below meth c Q D CA bs b y (pc + 2) lv (.int v :: st) M cells slots) : e_G p l e R s m args below meth c Q D CA bs b y pc lv st M cells slots := fun H locs ls hR hS hL => lv_bipush C0.1 C0.2.1 hd hv (k H locs ls hR hS hL)
theorem g_sipush (C0 : e_Cx p s m args meth c D CA bs b L xs y) {n : Int} {v : Int32} (hv : (Int16.ofInt n).toInt32 = v) (hd : decode (e_mB y) pc = .ok (.sipush n, 3)) (k : e_G p l e R s m args below meth c Q D CA bs b y (pc + 3) lv (.int v :: st) M cells slots) : e_G p l e R s m args below meth c Q D CA bs b y pc lv st M cells slots := fun H locs ls hR hS hL => lv_sipush C0.1 C0.2.1 hd hv (k H locs ls hR hS hL)
theorem g_ldc (C0 : e_Cx p s m args meth c D CA bs b L xs y) {i : Nat} {v : Int32} (hv : (Jvm.Cond.constant (e_mO y) i v).before args s = true) (hd : decode (e_mB y) pc = .ok (.ldc i, 2)) (k : e_G p l e R s m args below meth c Q D CA bs b y (pc + 2) lv (.int v :: st) M cells slots) : e_G p l e R s m args below meth c Q D CA bs b y pc lv st M cells slots := fun H locs ls hR hS hL => lv_ldc C0.1 C0.2.1 C0.2.2.2.2.2.1 hv hd (k H locs ls hR hS hL)
theorem g_ldc2 (C0 : e_Cx p s m args meth c D CA bs b L xs y) {i : Nat} {v : Int64} (hv : (Jvm.Cond.constantLong (e_mO y) i v).before args s = true) (hd : decode (e_mB y) pc = .ok (.ldc2_w i, 3)) (k : e_G p l e R s m args below meth c Q D CA bs b y (pc + 3) lv (.long v :: st) M cells slots) : e_G p l e R s m args below meth c Q D CA bs b y pc lv st M cells slots := fun H locs ls hR hS hL => lv_ldc2 C0.1 C0.2.1 C0.2.2.2.2.2.1 hv hd (k H locs ls hR hS hL)
theorem g_iload_n (C0 : e_Cx p s m args meth c D CA bs b L xs y) {n : Fin 4} {a : Nat} {x : Int32} (hi : (n : Nat) = a) (ha : a < e_mL y) (hv : e_lk a lv = some (.int x)) (hd : decode (e_mB y) pc = .ok (.iload_n n, 1)) (k : e_G p l e R s m args below meth c Q D CA bs b y (pc + 1) lv (.int x :: st) M cells slots) : e_G p l e R s m args below meth c Q D CA bs b y pc lv st M cells slots := fun H locs ls hR hS hL => lv_iload_n C0.1 C0.2.1 hd hi (e_lk_at hL ha hv) (k H locs ls hR hS hL)
theorem g_iload (C0 : e_Cx p s m args meth c D CA bs b L xs y) {a : Nat} {x : Int32} (ha : a < e_mL y) (hv : e_lk a lv = some (.int x)) (hd : decode (e_mB y) pc = .ok (.iload a, 2)) (k : e_G p l e R s m args below meth c Q D CA bs b y (pc + 2) lv (.int x :: st) M cells slots) : e_G p l e R s m args below meth c Q D CA bs b y pc lv st M cells slots := fun H locs ls hR hS hL => lv_iload C0.1 C0.2.1 hd (e_lk_at hL ha hv) (k H locs ls hR hS hL)
theorem g_istore_n (C0 : e_Cx p s m args meth c D CA bs b L xs y) {n : Fin 4} {a : Nat} {x : Int32} (hi : (n : Nat) = a) (ha : a < e_mL y) (hk : e_ok a lv = true) (hd : decode (e_mB y) pc = .ok (.istore_n n, 1)) (k : e_G p l e R s m args below meth c Q D CA bs b y (pc + 1) (e_sto a (.int x) lv) st M cells slots) : e_G p l e R s m args below meth c Q D CA bs b y pc lv (.int x :: st) M cells slots := fun H locs ls hR hS hL => lv_istore_n C0.1 C0.2.1 hd hi hL ha rfl (fun ls' hl' => k H locs ls' hR hS (e_LR.sto (v := .int x) hk hl'))
theorem g_istore (C0 : e_Cx p s m args meth c D CA bs b L xs y) {a : Nat} {x : Int32} (ha : a < e_mL y) (hk : e_ok a lv = true) (hd : decode (e_mB y) pc = .ok (.istore a, 2)) (k : e_G p l e R s m args below meth c Q D CA bs b y (pc + 2) (e_sto a (.int x) lv) st M cells slots) : e_G p l e R s m args below meth c Q D CA bs b y pc lv (.int x :: st) M cells slots := fun H locs ls hR hS hL => lv_istore C0.1 C0.2.1 hd hL ha rfl (fun ls' hl' => k H locs ls' hR hS (e_LR.sto (v := .int x) hk hl'))
theorem g_aload_n (C0 : e_Cx p s m args meth c D CA bs b L xs y) {n : Fin 4} {a : Nat} {x : Nat} (hi : (n : Nat) = a) (ha : a < e_mL y) (hv : e_lk a lv = some (.ref x)) (hd : decode (e_mB y) pc = .ok (.aload_n n, 1)) (k : e_G p l e R s m args below meth c Q D CA bs b y (pc + 1) lv (.ref x :: st) M cells slots) : e_G p l e R s m args below meth c Q D CA bs b y pc lv st M cells slots := fun H locs ls hR hS hL => lv_aload_n C0.1 C0.2.1 hd hi (e_lk_at hL ha hv) (k H locs ls hR hS hL)
theorem g_aload (C0 : e_Cx p s m args meth c D CA bs b L xs y) {a : Nat} {x : Nat} (ha : a < e_mL y) (hv : e_lk a lv = some (.ref x)) (hd : decode (e_mB y) pc = .ok (.aload a, 2)) (k : e_G p l e R s m args below meth c Q D CA bs b y (pc + 2) lv (.ref x :: st) M cells slots) : e_G p l e R s m args below meth c Q D CA bs b y pc lv st M cells slots := fun H locs ls hR hS hL => lv_aload C0.1 C0.2.1 hd (e_lk_at hL ha hv) (k H locs ls hR hS hL)
theorem g_astore_n (C0 : e_Cx p s m args meth c D CA bs b L xs y) {n : Fin 4} {a : Nat} {x : Nat} (hi : (n : Nat) = a) (ha : a < e_mL y) (hk : e_ok a lv = true) (hd : decode (e_mB y) pc = .ok (.astore_n n, 1)) (k : e_G p l e R s m args below meth c Q D CA bs b y (pc + 1) (e_sto a (.ref x) lv) st M cells slots) : e_G p l e R s m args below meth c Q D CA bs b y pc lv (.ref x :: st) M cells slots := fun H locs ls hR hS hL => lv_astore_n C0.1 C0.2.1 hd hi hL ha rfl (fun ls' hl' => k H locs ls' hR hS (e_LR.sto (v := .ref x) hk hl'))
theorem g_astore (C0 : e_Cx p s m args meth c D CA bs b L xs y) {a : Nat} {x : Nat} (ha : a < e_mL y) (hk : e_ok a lv = true) (hd : decode (e_mB y) pc = .ok (.astore a, 2)) (k : e_G p l e R s m args below meth c Q D CA bs b y (pc + 2) (e_sto a (.ref x) lv) st M cells slots) : e_G p l e R s m args below meth c Q D CA bs b y pc lv (.ref x :: st) M cells slots := fun H locs ls hR hS hL => lv_astore C0.1 C0.2.1 hd hL ha rfl (fun ls' hl' => k H locs ls' hR hS (e_LR.sto (v := .ref x) hk hl'))
theorem g_lload_n (C0 : e_Cx p s m args meth c D CA bs b L xs y) {n : Fin 4} {a : Nat} {x : Int64} (hi : (n : Nat) = a) (ha : a < e_mL y) (hv : e_lk a lv = some (.long x)) (hd : decode (e_mB y) pc = .ok (.lload_n n, 1)) (k : e_G p l e R s m args below meth c Q D CA bs b y (pc + 1) lv (.long x :: st) M cells slots) : e_G p l e R s m args below meth c Q D CA bs b y pc lv st M cells slots := fun H locs ls hR hS hL => lv_lload_n C0.1 C0.2.1 hd hi (e_lk_at hL ha hv) (k H locs ls hR hS hL)
theorem g_lstore_n (C0 : e_Cx p s m args meth c D CA bs b L xs y) {n : Fin 4} {a : Nat} {x : Int64} (hi : (n : Nat) = a) (ha : a + 1 < e_mL y) (hk : e_ok a lv = true) (hn : e_no (a + 1) lv = true) (hd : decode (e_mB y) pc = .ok (.lstore_n n, 1)) (k : e_G p l e R s m args below meth c Q D CA bs b y (pc + 1) (e_sto a (.long x) lv) st M cells slots) : e_G p l e R s m args below meth c Q D CA bs b y pc lv (.long x :: st) M cells slots := fun H locs ls hR hS hL => lv_lstore_n C0.1 C0.2.1 hd hi hL ha rfl (fun ls' hl' => k H locs ls' hR hS (e_LR.stoL (v := .long x) hk hn hl'))
theorem g_iinc (C0 : e_Cx p s m args meth c D CA bs b L xs y) {a : Nat} {n : Int} {x v : Int32} (ha : a < e_mL y) (hx : e_lk a lv = some (.int x)) (hv : Int32.ofInt n = v) (hk : e_ok a lv = true) (hd : decode (e_mB y) pc = .ok (.iinc a n, 3)) (k : e_G p l e R s m args below meth c Q D CA bs b y (pc + 3) (e_sto a (.int (x + v)) lv) st M cells slots) : e_G p l e R s m args below meth c Q D CA bs b y pc lv st M cells slots := by
  intro H locs ls hR hS hL
  obtain ⟨j, hj⟩ := List.getElem?_of_mem (show (a, Value.int x) ∈ e_lvl b bs (e_mL y) lv from List.mem_filterMap.mpr ⟨a, List.mem_range.mpr ha, by rw [hx]; rfl⟩)
  exact lv_iinc C0.1 C0.2.1 hd hL hj (by rw [hv]) ha rfl (fun ls' hl' => k H locs ls' hR hS (e_LR.sto (v := .int (x + v)) hk hl'))
theorem g_iadd (C0 : e_Cx p s m args meth c D CA bs b L xs y) {x z : Int32} (hd : decode (e_mB y) pc = .ok (.iadd, 1)) (k : e_G p l e R s m args below meth c Q D CA bs b y (pc + 1) lv (.int (x + z) :: st) M cells slots) : e_G p l e R s m args below meth c Q D CA bs b y pc lv (.int z :: .int x :: st) M cells slots := fun H locs ls hR hS hL => lv_iadd C0.1 C0.2.1 hd (k H locs ls hR hS hL)
theorem g_isub (C0 : e_Cx p s m args meth c D CA bs b L xs y) {x z : Int32} (hd : decode (e_mB y) pc = .ok (.isub, 1)) (k : e_G p l e R s m args below meth c Q D CA bs b y (pc + 1) lv (.int (x - z) :: st) M cells slots) : e_G p l e R s m args below meth c Q D CA bs b y pc lv (.int z :: .int x :: st) M cells slots := fun H locs ls hR hS hL => lv_isub C0.1 C0.2.1 hd (k H locs ls hR hS hL)
theorem g_imul (C0 : e_Cx p s m args meth c D CA bs b L xs y) {x z : Int32} (hd : decode (e_mB y) pc = .ok (.imul, 1)) (k : e_G p l e R s m args below meth c Q D CA bs b y (pc + 1) lv (.int (x * z) :: st) M cells slots) : e_G p l e R s m args below meth c Q D CA bs b y pc lv (.int z :: .int x :: st) M cells slots := fun H locs ls hR hS hL => lv_imul C0.1 C0.2.1 hd (k H locs ls hR hS hL)
theorem g_iand (C0 : e_Cx p s m args meth c D CA bs b L xs y) {x z : Int32} (hd : decode (e_mB y) pc = .ok (.iand, 1)) (k : e_G p l e R s m args below meth c Q D CA bs b y (pc + 1) lv (.int (x &&& z) :: st) M cells slots) : e_G p l e R s m args below meth c Q D CA bs b y pc lv (.int z :: .int x :: st) M cells slots := fun H locs ls hR hS hL => lv_iand C0.1 C0.2.1 hd (k H locs ls hR hS hL)
theorem g_ixor (C0 : e_Cx p s m args meth c D CA bs b L xs y) {x z : Int32} (hd : decode (e_mB y) pc = .ok (.ixor, 1)) (k : e_G p l e R s m args below meth c Q D CA bs b y (pc + 1) lv (.int (x ^^^ z) :: st) M cells slots) : e_G p l e R s m args below meth c Q D CA bs b y pc lv (.int z :: .int x :: st) M cells slots := fun H locs ls hR hS hL => lv_ixor C0.1 C0.2.1 hd (k H locs ls hR hS hL)
theorem g_idiv (C0 : e_Cx p s m args meth c D CA bs b L xs y) {x z : Int32} (hz : ¬ z = 0) (hd : decode (e_mB y) pc = .ok (.idiv, 1)) (k : e_G p l e R s m args below meth c Q D CA bs b y (pc + 1) lv (.int (x / z) :: st) M cells slots) : e_G p l e R s m args below meth c Q D CA bs b y pc lv (.int z :: .int x :: st) M cells slots := fun H locs ls hR hS hL => lv_idiv C0.1 C0.2.1 hd hz (k H locs ls hR hS hL)
theorem g_irem (C0 : e_Cx p s m args meth c D CA bs b L xs y) {x z : Int32} (hz : ¬ z = 0) (hd : decode (e_mB y) pc = .ok (.irem, 1)) (k : e_G p l e R s m args below meth c Q D CA bs b y (pc + 1) lv (.int (x - x / z * z) :: st) M cells slots) : e_G p l e R s m args below meth c Q D CA bs b y pc lv (.int z :: .int x :: st) M cells slots := fun H locs ls hR hS hL => lv_irem C0.1 C0.2.1 hd hz (k H locs ls hR hS hL)
theorem g_ineg (C0 : e_Cx p s m args meth c D CA bs b L xs y) {x : Int32} (hd : decode (e_mB y) pc = .ok (.ineg, 1)) (k : e_G p l e R s m args below meth c Q D CA bs b y (pc + 1) lv (.int (-x) :: st) M cells slots) : e_G p l e R s m args below meth c Q D CA bs b y pc lv (.int x :: st) M cells slots := fun H locs ls hR hS hL => lv_ineg C0.1 C0.2.1 hd (k H locs ls hR hS hL)
theorem g_i2l (C0 : e_Cx p s m args meth c D CA bs b L xs y) {x : Int32} (hd : decode (e_mB y) pc = .ok (.i2l, 1)) (k : e_G p l e R s m args below meth c Q D CA bs b y (pc + 1) lv (.long x.toInt64 :: st) M cells slots) : e_G p l e R s m args below meth c Q D CA bs b y pc lv (.int x :: st) M cells slots := fun H locs ls hR hS hL => lv_i2l C0.1 C0.2.1 hd rfl (k H locs ls hR hS hL)
theorem g_i2b (C0 : e_Cx p s m args meth c D CA bs b L xs y) {x : Int32} (hd : decode (e_mB y) pc = .ok (.i2b, 1)) (k : e_G p l e R s m args below meth c Q D CA bs b y (pc + 1) lv (.int x.toInt8.toInt32 :: st) M cells slots) : e_G p l e R s m args below meth c Q D CA bs b y pc lv (.int x :: st) M cells slots := fun H locs ls hR hS hL => lv_i2b C0.1 C0.2.1 hd rfl (k H locs ls hR hS hL)
theorem g_ladd (C0 : e_Cx p s m args meth c D CA bs b L xs y) {x z : Int64} (hd : decode (e_mB y) pc = .ok (.ladd, 1)) (k : e_G p l e R s m args below meth c Q D CA bs b y (pc + 1) lv (.long (x + z) :: st) M cells slots) : e_G p l e R s m args below meth c Q D CA bs b y pc lv (.long z :: .long x :: st) M cells slots := fun H locs ls hR hS hL => lv_ladd C0.1 C0.2.1 hd (k H locs ls hR hS hL)
theorem g_lmul (C0 : e_Cx p s m args meth c D CA bs b L xs y) {x z : Int64} (hd : decode (e_mB y) pc = .ok (.lmul, 1)) (k : e_G p l e R s m args below meth c Q D CA bs b y (pc + 1) lv (.long (x * z) :: st) M cells slots) : e_G p l e R s m args below meth c Q D CA bs b y pc lv (.long z :: .long x :: st) M cells slots := fun H locs ls hR hS hL => lv_lmul C0.1 C0.2.1 hd (k H locs ls hR hS hL)
theorem g_lcmp (C0 : e_Cx p s m args meth c D CA bs b L xs y) {x z : Int64} (hd : decode (e_mB y) pc = .ok (.lcmp, 1)) (k : e_G p l e R s m args below meth c Q D CA bs b y (pc + 1) lv (.int (lg_cmp x z) :: st) M cells slots) : e_G p l e R s m args below meth c Q D CA bs b y pc lv (.long z :: .long x :: st) M cells slots := fun H locs ls hR hS hL => W.lcmp C0.1 C0.2.1 hd (k H locs ls hR hS hL)
theorem g_dupi (C0 : e_Cx p s m args meth c D CA bs b L xs y) {x : Int32} (hd : decode (e_mB y) pc = .ok (.dup, 1)) (k : e_G p l e R s m args below meth c Q D CA bs b y (pc + 1) lv (.int x :: .int x :: st) M cells slots) : e_G p l e R s m args below meth c Q D CA bs b y pc lv (.int x :: st) M cells slots := fun H locs ls hR hS hL => lv_dup C0.1 C0.2.1 hd rfl (k H locs ls hR hS hL)
theorem g_dupa (C0 : e_Cx p s m args meth c D CA bs b L xs y) {x : Nat} (hd : decode (e_mB y) pc = .ok (.dup, 1)) (k : e_G p l e R s m args below meth c Q D CA bs b y (pc + 1) lv (.ref x :: .ref x :: st) M cells slots) : e_G p l e R s m args below meth c Q D CA bs b y pc lv (.ref x :: st) M cells slots := fun H locs ls hR hS hL => lv_dup C0.1 C0.2.1 hd rfl (k H locs ls hR hS hL)
theorem g_dup2 (C0 : e_Cx p s m args meth c D CA bs b L xs y) {x : Int32} {z : Nat} (hd : decode (e_mB y) pc = .ok (.dup2, 1)) (k : e_G p l e R s m args below meth c Q D CA bs b y (pc + 1) lv (.int x :: .ref z :: .int x :: .ref z :: st) M cells slots) : e_G p l e R s m args below meth c Q D CA bs b y pc lv (.int x :: .ref z :: st) M cells slots := fun H locs ls hR hS hL => lv_dup2_11 C0.1 C0.2.1 hd rfl rfl (k H locs ls hR hS hL)
theorem g_pop (C0 : e_Cx p s m args meth c D CA bs b L xs y) {x : Int32} (hd : decode (e_mB y) pc = .ok (.pop, 1)) (k : e_G p l e R s m args below meth c Q D CA bs b y (pc + 1) lv st M cells slots) : e_G p l e R s m args below meth c Q D CA bs b y pc lv (.int x :: st) M cells slots := fun H locs ls hR hS hL => lv_pop C0.1 C0.2.1 hd rfl (k H locs ls hR hS hL)
theorem g_goto (C0 : e_Cx p s m args meth c D CA bs b L xs y) {off : Int} {t : Nat} (ht : (pc : Int) + off = (t : Int)) (hd : decode (e_mB y) pc = .ok (.goto off, 3)) (k : e_G p l e R s m args below meth c Q D CA bs b y t lv st M cells slots) : e_G p l e R s m args below meth c Q D CA bs b y pc lv st M cells slots := fun H locs ls hR hS hL => lv_goto C0.1 C0.2.1 hd ht (k H locs ls hR hS hL)
theorem g_if (C0 : e_Cx p s m args meth c D CA bs b L xs y) {cd : ClassFile.Cond} {x : Int32} {off : Int} {t : Nat} (ht : (pc : Int) + off = (t : Int)) (hd : decode (e_mB y) pc = .ok (.ifCond cd off, 3)) (k1 : e_c1 cd x = true → e_G p l e R s m args below meth c Q D CA bs b y t lv st M cells slots) (k2 : ¬ e_c1 cd x = true → e_G p l e R s m args below meth c Q D CA bs b y (pc + 3) lv st M cells slots) : e_G p l e R s m args below meth c Q D CA bs b y pc lv (.int x :: st) M cells slots := by
  intro H locs ls hR hS hL
  cases cd
  · exact lv_if_eq C0.1 C0.2.1 hd ht (fun q => k1 (by simp [e_c1, q]) H locs ls hR hS hL) (fun q => k2 (by simp [e_c1, q]) H locs ls hR hS hL)
  · exact lv_if_ne C0.1 C0.2.1 hd ht (fun q => k1 (by simp [e_c1, q]) H locs ls hR hS hL) (fun q => k2 (by simp [e_c1, q]) H locs ls hR hS hL)
  · exact lv_if_lt C0.1 C0.2.1 hd ht (fun q => k1 (by simp only [e_c1, q, decide_true]) H locs ls hR hS hL) (fun q => k2 (by simp only [e_c1, q, decide_false]; decide) H locs ls hR hS hL)
  · exact lv_if_ge C0.1 C0.2.1 hd ht (fun q => k1 (by simp only [e_c1, q, decide_true]) H locs ls hR hS hL) (fun q => k2 (by simp only [e_c1, q, decide_false]; decide) H locs ls hR hS hL)
  · exact lv_if_gt C0.1 C0.2.1 hd ht (fun q => k1 (by simp only [e_c1, q, decide_true]) H locs ls hR hS hL) (fun q => k2 (by simp only [e_c1, q, decide_false]; decide) H locs ls hR hS hL)
  · exact lv_if_le C0.1 C0.2.1 hd ht (fun q => k1 (by simp only [e_c1, q, decide_true]) H locs ls hR hS hL) (fun q => k2 (by simp only [e_c1, q, decide_false]; decide) H locs ls hR hS hL)
theorem g_icmp (C0 : e_Cx p s m args meth c D CA bs b L xs y) {cd : ClassFile.Cond} {x z : Int32} {off : Int} {t : Nat} (ht : (pc : Int) + off = (t : Int)) (hd : decode (e_mB y) pc = .ok (.if_icmp cd off, 3)) (k1 : e_c2 cd x z = true → e_G p l e R s m args below meth c Q D CA bs b y t lv st M cells slots) (k2 : ¬ e_c2 cd x z = true → e_G p l e R s m args below meth c Q D CA bs b y (pc + 3) lv st M cells slots) : e_G p l e R s m args below meth c Q D CA bs b y pc lv (.int z :: .int x :: st) M cells slots := by
  intro H locs ls hR hS hL
  cases cd
  · exact lv_icmp_eq C0.1 C0.2.1 hd ht (fun q => k1 (by simp [e_c2, q]) H locs ls hR hS hL) (fun q => k2 (by simp [e_c2, q]) H locs ls hR hS hL)
  · exact lv_icmp_ne C0.1 C0.2.1 hd ht (fun q => k1 (by simp [e_c2, q]) H locs ls hR hS hL) (fun q => k2 (by simp [e_c2, q]) H locs ls hR hS hL)
  · exact lv_icmp_lt C0.1 C0.2.1 hd ht (fun q => k1 (by simp only [e_c2, q, decide_true]) H locs ls hR hS hL) (fun q => k2 (by simp only [e_c2, q, decide_false]; decide) H locs ls hR hS hL)
  · exact lv_icmp_ge C0.1 C0.2.1 hd ht (fun q => k1 (by simp only [e_c2, q, decide_true]) H locs ls hR hS hL) (fun q => k2 (by simp only [e_c2, q, decide_false]; decide) H locs ls hR hS hL)
  · exact lv_icmp_gt C0.1 C0.2.1 hd ht (fun q => k1 (by simp only [e_c2, q, decide_true]) H locs ls hR hS hL) (fun q => k2 (by simp only [e_c2, q, decide_false]; decide) H locs ls hR hS hL)
  · exact lv_icmp_le C0.1 C0.2.1 hd ht (fun q => k1 (by simp only [e_c2, q, decide_true]) H locs ls hR hS hL) (fun q => k2 (by simp only [e_c2, q, decide_false]; decide) H locs ls hR hS hL)
theorem g_switch (C0 : e_Cx p s m args meth c D CA bs b L xs y) {d lo hi : Int} {offs : Array Int} {len : Nat} {x : Int32} {t : Nat} (hd : decode (e_mB y) pc = .ok (.tableswitch d lo hi offs, len)) (ht : (x.toInt < lo ∨ hi < x.toInt) ∧ (pc : Int) + d = (t : Int) ∨ (¬ (x.toInt < lo ∨ hi < x.toInt)) ∧ ∃ off, offs[(x.toInt - lo).toNat]? = some off ∧ (pc : Int) + off = (t : Int)) (k : e_G p l e R s m args below meth c Q D CA bs b y t lv st M cells slots) : e_G p l e R s m args below meth c Q D CA bs b y pc lv (.int x :: st) M cells slots := by
  intro H locs ls hR hS hL
  rcases ht with ⟨h1, h2⟩ | ⟨h1, off, h2, h3⟩
  · exact lv_tableOut C0.1 C0.2.1 hd h1 h2 (k H locs ls hR hS hL)
  · exact lv_tableIn C0.1 C0.2.1 hd (fun q => h1 (Or.inl q)) (fun q => h1 (Or.inr q)) h2 h3 (k H locs ls hR hS hL)
theorem g_getf (C0 : e_Cx p s m args meth c D CA bs b L xs y) {q a bb i : Nat} {C : String} {T : u_T} {N : Nat} (h1 : 1 ≤ q) (h2 : q ≤ M.1) (h3 : (e_kd q).1 = a) (hv : vwCl[a]? = some (C, T, N)) (hb : bb < N) (hl : (Jvm.Cond.fieldLink (e_mO y) i C (T bb).2.1 (T bb).2.2.1).before args s = true) (hd : decode (e_mB y) pc = .ok (.getfield i, 3)) (k : e_G p l e R s m args below meth c Q D CA bs b y (pc + 3) lv ((if e_isR a bb = true then e_rf (M.2.2 q bb) else .int (M.2.1 q bb)) :: st) M cells slots) : e_G p l e R s m args below meth c Q D CA bs b y pc lv (.ref q :: st) M cells slots := by
  intro H locs ls hR hS hL
  obtain ⟨e1, e2, e3, e4, e5, e6⟩ := e_cls hv
  have hP := hR.at h1 h2
  have hn := e_kd_n h3 e6
  rw [hv] at hn
  have hn : N = (e_kd q).2 := by simpa using hn
  have h0 : ¬ q = 0 := by omega
  have kk := k H locs ls hR hS hL
  have ev : e_mv b bs (if e_isR a bb = true then e_rf (M.2.2 q bb) else .int (M.2.1 q bb)) = if e_isR a bb = true then va_rf (e_ro bs (M.2.2 q bb)) else .int (M.2.1 q bb) := by
    split
    · exact e_mv_rf b bs _
    · rfl
  rw [List.map_cons, ev] at kk
  have key := va_get (pc := pc) (ls := ls) (rest := st.map (e_mv b bs)) C0.1 C0.2.1 C0.2.2.2.2.2.2.2.2.2.2.2.2.2 e1 C0.2.2.2.2.2.1 C0.2.2.2.2.2.2.2.2.1 hP 0 (by rw [e_ent_o h3 e6]; rfl) hv bb hb hl (fun x hx => by rw [e4 bb hb] at hx; exact hx) (by rw [List.getElem?_map, List.getElem?_range (by omega)]; rfl) hd kk
  simpa [e_mv, h0] using key
theorem g_iald (C0 : e_Cx p s m args meth c D CA bs b L xs y) {q : Nat} {i : Int32} (h1 : 1 ≤ q) (h2 : q ≤ M.1) (h3 : (e_kd q).1 = 10) (h4 : e_in i (e_kd q).2 = true) (hd : decode (e_mB y) pc = .ok (.iaload, 1)) (k : e_G p l e R s m args below meth c Q D CA bs b y (pc + 1) lv (.int (M.2.1 q i.toNatClampNeg) :: st) M cells slots) : e_G p l e R s m args below meth c Q D CA bs b y pc lv (.int i :: .ref q :: st) M cells slots := by
  intro H locs ls hR hS hL
  have h0 : ¬ q = 0 := by omega
  have key := va_iald (pc := pc) (ls := ls) (rest := st.map (e_mv b bs)) C0.1 C0.2.1 C0.2.2.2.2.2.2.2.2.1 (hR.at h1 h2) 0 0 (by rw [e_ent_i h3 (by omega) (by omega)]; rfl) rfl (e_in_iff h4) hd (k H locs ls hR hS hL)
  simpa [e_mv, h0] using key
theorem g_bald (C0 : e_Cx p s m args meth c D CA bs b L xs y) {q : Nat} {i : Int32} (h1 : 1 ≤ q) (h2 : q ≤ M.1) (h3 : (e_kd q).1 = 11) (h4 : e_in i (e_kd q).2 = true) (hd : decode (e_mB y) pc = .ok (.baload, 1)) (k : e_G p l e R s m args below meth c Q D CA bs b y (pc + 1) lv (.int (M.2.1 q i.toNatClampNeg) :: st) M cells slots) : e_G p l e R s m args below meth c Q D CA bs b y pc lv (.int i :: .ref q :: st) M cells slots := by
  intro H locs ls hR hS hL
  have h0 : ¬ q = 0 := by omega
  have key := va_bald (pc := pc) (ls := ls) (rest := st.map (e_mv b bs)) C0.1 C0.2.1 C0.2.2.2.2.2.2.2.2.1 (hR.at h1 h2) 0 1 (by rw [e_ent_i h3 (by omega) (by omega)]; rfl) rfl (e_in_iff h4) hd (k H locs ls hR hS hL)
  simpa [e_mv, h0] using key
theorem g_sld (C0 : e_Cx p s m args meth c D CA bs b L xs y) {i : Int32} (h4 : e_in i L = true) (hd : decode (e_mB y) pc = .ok (.iaload, 1)) (k : e_G p l e R s m args below meth c Q D CA bs b y (pc + 1) lv (.int (xs i.toNatClampNeg) :: st) M cells slots) : e_G p l e R s m args below meth c Q D CA bs b y pc lv (.int i :: .ref 0 :: st) M cells slots := by
  intro H locs ls hR hS hL
  exact va_sld (b := b) (A := fun q => bs + 1 ≤ q) C0.1 C0.2.1 C0.2.2.2.2.2.2.2.2.2.1 C0.2.2.2.2.2.2.2.2.2.2.1 (by have := C0.2.2.2.2.2.2.2.2.2.2.2.1; omega) hS (e_in_iff h4) hd (k H locs ls hR hS hL)
theorem g_slen (C0 : e_Cx p s m args meth c D CA bs b L xs y) (hd : decode (e_mB y) pc = .ok (.arraylength, 1)) (k : e_G p l e R s m args below meth c Q D CA bs b y (pc + 1) lv (.int (Int32.ofNat L) :: st) M cells slots) : e_G p l e R s m args below meth c Q D CA bs b y pc lv (.ref 0 :: st) M cells slots := by
  intro H locs ls hR hS hL
  exact va_slen (b := b) (A := fun q => bs + 1 ≤ q) C0.1 C0.2.1 C0.2.2.2.2.2.2.2.2.2.1 C0.2.2.2.2.2.2.2.2.2.2.1 (by have := C0.2.2.2.2.2.2.2.2.2.2.2.1; omega) hS hd (k H locs ls hR hS hL)
theorem g_aald (C0 : e_Cx p s m args meth c D CA bs b L xs y) {q : Nat} {i : Int32} (h1 : 1 ≤ q) (h2 : q ≤ M.1) (h3 : 12 ≤ (e_kd q).1 ∧ (e_kd q).1 ≤ 14) (h4 : e_in i (e_kd q).2 = true) (hd : decode (e_mB y) pc = .ok (.aaload, 1)) (k : e_G p l e R s m args below meth c Q D CA bs b y (pc + 1) lv (e_rf (M.2.2 q i.toNatClampNeg) :: st) M cells slots) : e_G p l e R s m args below meth c Q D CA bs b y pc lv (.int i :: .ref q :: st) M cells slots := by
  intro H locs ls hR hS hL
  have h0 : ¬ q = 0 := by omega
  have hin := e_in_iff h4
  have hlt : i.toNatClampNeg < (e_kd q).2 := Nat.not_le.mp fun q => hin (Or.inr q)
  have kk := k H locs ls hR hS hL
  rw [List.map_cons, e_mv_rf] at kk
  have hP := hR.2.2 q h1 h2
  rw [e_ent_q rfl (by omega)] at hP
  have hcell : H[bs + q]? = some (vp_cell (CA (e_kd q).1) ((e_kd q).2, .inr (.inr (.inr (.inr (fun j => e_ro bs (M.2.2 q j))))))) := hP
  obtain ⟨ty, hty, hr⟩ : ∃ ty : FieldType, ArrOfT s (CA (e_kd q).1) ty ∧ ty.isReference = true := by
    have hk := C0.2.2.2.2.2.2.2.2.1.2
    obtain h | h | h : (e_kd q).1 = 12 ∨ (e_kd q).1 = 13 ∨ (e_kd q).1 = 14 := by omega
    · exact ⟨_, by rw [h]; exact (hk 2 _ rfl).1, rfl⟩
    · exact ⟨_, by rw [h]; exact (hk 3 _ rfl).1, rfl⟩
    · exact ⟨_, by rw [h]; exact (hk 4 _ rfl).1, rfl⟩
  have key := W.aald (v := va_rf (e_ro bs (M.2.2 q i.toNatClampNeg))) (ty := ty) (g := F0 m pc ls (.int i :: .ref (bs + q) :: st.map (e_mv b bs))) C0.1 C0.2.1 hcell (hty _ (fun j => va_rf (e_ro bs (M.2.2 q j)))) hr (fun q => by cases q) (by show ¬ (i < 0 ∨ (arrV _ _ _).slots.size ≤ _); rw [arrV_size]; exact hin) (by show (arrV _ _ _).slots[_]? = _; rw [arrV_read _ _ hlt]) rfl rfl hd kk
  simpa [e_mv, h0] using key
end E_ROWS
end
section
/-! stores, new cells, calls and returns of the plain machine -/
theorem e_vpV {g : Nat → Value} {n j : Nat} (hj : j < n) : vp_V ((List.range n).map g) j = g j := by
  simp [vp_V, List.getD_eq_getElem?_getD, List.getElem?_map, List.getElem?_range hj]
theorem e_AOA_moved {t : FieldType} {u U : State} (hvm : u.vm.Alike U.vm) (h : va_Nw (.arrayOver (.array t)) u) : va_Nw (.arrayOver (.array t)) U := arrayOver_alikeB hvm h
theorem e_Wd.warm {s U : State} (hW : s.WarmedH U.vm) (h : e_Wd s) : e_Wd U := by
  intro w hw hg
  have h0 := h w hw hg
  by_cases hgw : goodWord w = true
  · exact word_at hW (good_of_word hgw) h0
  · cases w with
    | methodLinkNest a i x hh => exact va_Nw.warmM hW h0
    | arrayOver t =>
      cases t with
      | object C => exact va_AO.moved hW.alike h0
      | array t => exact e_AOA_moved hW.alike h0
      | _ => simp [hgw, e_isN, e_isO] at hg
    | _ => simp [hgw, e_isN, e_isO] at hg
def e_SZ : Nat → Nat
  | 0 => 0
  | n + 1 => e_SZ n + (e_kd (n + 1)).2
theorem e_SZ_le {a b : Nat} (h : a ≤ b) : e_SZ a ≤ e_SZ b := by
  induction b with
  | zero => rw [Nat.le_zero.mp h]; exact Nat.le_refl _
  | succ n ih =>
    rcases Nat.lt_or_ge a (n + 1) with q | q
    · exact Nat.le_trans (ih (by omega)) (Nat.le_add_right _ _)
    · rw [Nat.le_antisymm h q]; exact Nat.le_refl _
theorem e_ent_clr {bs : Nat} {CA : Nat → ClassId} {M : e_Mem} {k n : Nat} {r' : Nat → Nat → Nat} {c : Nat} (h : c ≤ M.1) (hr : ∀ j, r' c j = M.2.2 c j) : e_ent bs CA (k, e_clr 0 M.2.1 (M.1 + 1) n, r') c = e_ent bs CA M c := by
  have h1 : ∀ j, e_clr 0 M.2.1 (M.1 + 1) n c j = M.2.1 c j := fun j => by simp only [e_clr]; rw [if_neg (by omega)]
  have h2 : e_clr 0 M.2.1 (M.1 + 1) n c = M.2.1 c := funext h1
  simp only [e_ent, h2, h1, hr]
theorem e_clr_in {α : Type} {z : α} {m : Nat → Nat → α} {lo n c j : Nat} (h : lo ≤ c ∧ c < lo + n) : e_clr z m lo n c j = z := by simp only [e_clr]; rw [if_pos h]
theorem e_clr_out {α : Type} {z : α} {m : Nat → Nat → α} {lo n c j : Nat} (h : ¬ (lo ≤ c ∧ c < lo + n)) : e_clr z m lo n c j = m c j := by simp only [e_clr]; rw [if_neg h]
def e_Qc (D : va_G) (CA : Nat → ClassId) (bs b : Nat) (res : e_Rs) : Array Value → State → Outcome → State → Prop := fun _ st o t => o = .returned (res.1.map (e_mv b bs)) ∧ e_Rel D CA bs res.2 t.heap ∧ va_F (fun q => bs + 1 ≤ q) st t
def e_Pc (D : va_G) (CA : Nat → ClassId) (bs b L : Nat) (xs : Nat → Int32) (As : List Value) (M : e_Mem) : Array Value → State → Prop :=
  va_Pc (As.map (e_mv b bs)) (fun U => e_Rel D CA bs M U.heap ∧ e_Wd U ∧ va_K D vwCl (e_tys CA) U ∧ va_X b L xs U U.heap ∧ b < U.heap.size ∧ b ≤ bs)
def e_rm (y mc ms : Nat) : Room := { frames := e_mF y, cells := mc, slots := ms, locals := e_mQ y }
def e_ws (y : Nat) : List Jvm.Cond := [Jvm.Cond.code (e_mN y) (e_mB y) (e_mL y) (e_mR y)]
def e_Met (l : Launch) (D : va_G) (CA : Nat → ClassId) (bs b L : Nat) (xs : Nat → Int32) (y : Nat) (As : List Value) (M : e_Mem) (res : e_Rs) : Prop :=
  Met l (e_mN y) (e_ws y) (e_rm y (res.2.1 - M.1) (e_SZ res.2.1 - e_SZ M.1)) (e_Pc D CA bs b L xs As M) (e_Qc D CA bs b res) (res.2.1 - M.1) (e_SZ res.2.1 - e_SZ M.1) (fun q => bs + 1 ≤ q)
theorem e_blind {D : va_G} {CA : Nat → ClassId} {bs b L : Nat} {xs : Nat → Int32} {As : List Value} {M : e_Mem} : FrameBlind (e_Pc D CA bs b L xs As M) := by
  intro a U g mk ⟨h1, h2, h3, h4, h5, h6, h7⟩
  exact ⟨h1, h2, e_Wd.warm (s := U) (U := U.calling g mk a) (State.WarmedH.refl U) h3, va_K.moved (u := U) (U := U.calling g mk a) (Vm.Alike.refl U.vm) h4, va_X.moved (u := U) (U := U.calling g mk a) (Vm.Alike.refl U.vm) h5, h6, h7⟩
theorem e_go {w : Nat} : GoodIn (e_ws w) (e_ws w) := fun w hw => ⟨hw, by rw [List.mem_singleton.mp hw]; exact Or.inl rfl⟩
/-- what is static of a call to method z -/
def e_Cs (y z : Nat) : Prop := e_mF z + 1 ≤ e_mF y ∧ 8 + (e_mL z + 11) + e_mQ z ≤ e_mQ y ∧ ((e_mN z).cls ≠ "java/lang/invoke/MethodHandle" ∧ (e_mN z).cls ≠ "java/lang/invoke/VarHandle")
section E_ROWS
variable {p : Program} {l : Launch} {e : Env} {R : Room} {s : State} {m : MethodId} {args : Array Value} {below : List Frame} {meth : Method} {c : Code} {Q : State → Prop} {D : va_G} {CA : Nat → ClassId} {bs b L y pc : Nat} {xs : Nat → Int32} {lv : e_Lv} {st : List Value} {M : e_Mem} {cells slots : Nat}
theorem g_puti (C0 : e_Cx p s m args meth c D CA bs b L xs y) {q a bb i : Nat} {C : String} {T : u_T} {N : Nat} {x : Int32} (h1 : 1 ≤ q) (h2 : q ≤ M.1) (h3 : (e_kd q).1 = a) (hv : vwCl[a]? = some (C, T, N)) (hb : bb < N) (hr : e_isR a bb = false) (hfin : (T bb).2.2.2 = false) (hn : narrow (e_ty a bb) (.int x) = .int x) (hf : fits (e_ty a bb) (.int x) = true) (hl : (Jvm.Cond.fieldLink (e_mO y) i C (T bb).2.1 (T bb).2.2.1).before args s = true) (hd : decode (e_mB y) pc = .ok (.putfield i, 3)) (k : e_G p l e R s m args below meth c Q D CA bs b y (pc + 3) lv st ((M.1, e_set M.2.1 q bb x, M.2.2)) cells slots) : e_G p l e R s m args below meth c Q D CA bs b y pc lv (.int x :: .ref q :: st) M cells slots := by
  intro H locs ls hR hS hL
  obtain ⟨e1, e2, e3, e4, e5, e6⟩ := e_cls hv
  have hn' := e_kd_n h3 e6
  rw [hv] at hn'
  have hN : N = (e_kd q).2 := by simpa using hn'
  have h0 : ¬ q = 0 := by omega
  have hts := C0.2.2.2.2.2.2.2.2.2.2.2.2.2
  have hK := C0.2.2.2.2.2.2.2.2.1
  have hat := hR.2.2 q h1 h2
  rw [e_ent_o h3 e6] at hat
  obtain ⟨r, g1, cell, q1, q2, q3, q4⟩ := hat
  have hr' : r = (C, T, N) := Option.some.inj (g1.symm.trans hv)
  subst hr'
  obtain ⟨hS', hfc, kC, hkC, hkind⟩ := hK.1 a _ hv
  obtain ⟨cf, kf, fi, f, hi, hsl⟩ := hS' bb hb
  have hap := va_apart (own := e_mO y) hts e1 (e_ty a) e2 e3 hK hv
  have hlay := hts _ (e1 _ (u_in_lay hb))
  unfold u_lay at hlay
  rw [if_neg (by rw [hfin]; decide)] at hlay
  have hst := (u_facts hfc hkC (u_lays hts e1 hb) hi).1
  have h6 := u_store hfc hkC hkind hlay hi (e2 bb hb) hn hf
  have hi' : s.fieldFound? C (T bb).2.1 (T bb).2.2.1 = some (cf, kf, fi, f) := by rw [← e4 bb hb]; exact hi
  have key := W.putK (rest := st.map (e_mv b bs)) (g := F0 m pc ls (.int x :: .ref (bs + q) :: st.map (e_mv b bs))) C0.1 C0.2.1 (f := f) ⟨C0.2.2.2.2.2.1, hl, ⟨_, _, _, hi'⟩, hst⟩ (by rw [q2]; exact h6) q1 q3 (by rw [hsl]; exact k2_hasslot (q4 bb hb)) rfl rfl hd (fun H' a1 a2 a3 => by
    rw [hsl] at a1
    refine k H' _ ls (hR.put (M' := (M.1, e_set M.2.1 q bb x, M.2.2)) rfl a2 a3 ?_ (fun c hc => e_ent_set hc)) (hS.put a2 a3 (by show bs + 1 ≤ bs + q; omega)) hL
    rw [e_ent_o h3 e6]
    refine ⟨_, hv, t_OB.to (V := updV (vp_V _) bb (.int x)) ⟨_, a1, q2, q3, t_set q4 hap hb (.int x)⟩ (fun j hj => ?_)⟩
    have hj : j < N := hj
    rw [e_vpV (by omega)]
    by_cases hjb : j = bb
    · subst hjb
      simp [updV, hr, e_set]
    · simp [updV, hjb, e_set]
      rw [e_vpV (by omega)])
  simpa [e_mv, h0] using key
theorem g_putr (C0 : e_Cx p s m args meth c D CA bs b L xs y) {q z a bb i : Nat} {C : String} {T : u_T} {N : Nat} (h1 : 1 ≤ q) (h2 : q ≤ M.1) (h3 : (e_kd q).1 = a) (hz : 1 ≤ z) (hv : vwCl[a]? = some (C, T, N)) (hb : bb < N) (hr : e_isR a bb = true) (hfin : (T bb).2.2.2 = true) (hin : (e_mN y).name = "<init>") (hdecl : C = e_mO y) (hn : ∀ x : Nat, narrow (e_ty a bb) (.ref x) = .ref x) (hf : ∀ x : Nat, fits (e_ty a bb) (.ref x) = true) (hl : (Jvm.Cond.fieldLink (e_mO y) i C (T bb).2.1 (T bb).2.2.1).before args s = true) (hd : decode (e_mB y) pc = .ok (.putfield i, 3)) (k : e_G p l e R s m args below meth c Q D CA bs b y (pc + 3) lv st ((M.1, M.2.1, e_set M.2.2 q bb z)) cells slots) : e_G p l e R s m args below meth c Q D CA bs b y pc lv (.ref z :: .ref q :: st) M cells slots := by
  intro H locs ls hR hS hL
  obtain ⟨e1, e2, e3, e4, e5, e6⟩ := e_cls hv
  have hn' := e_kd_n h3 e6
  rw [hv] at hn'
  have hN : N = (e_kd q).2 := by simpa using hn'
  have h0 : ¬ q = 0 := by omega
  have hz0 : ¬ z = 0 := by omega
  have hts := C0.2.2.2.2.2.2.2.2.2.2.2.2.2
  have hK := C0.2.2.2.2.2.2.2.2.1
  have hat := hR.2.2 q h1 h2
  rw [e_ent_o h3 e6] at hat
  obtain ⟨r, g1, cell, q1, q2, q3, q4⟩ := hat
  have hr' : r = (C, T, N) := Option.some.inj (g1.symm.trans hv)
  subst hr'
  obtain ⟨hS', hfc, kC, hkC, hkind⟩ := hK.1 a _ hv
  obtain ⟨cf, kf, fi, f, hi, hsl⟩ := hS' bb hb
  have hap := va_apart (own := e_mO y) hts e1 (e_ty a) e2 e3 hK hv
  have hlay := hts _ (e1 _ (u_in_lay hb))
  unfold u_lay at hlay
  rw [if_pos hfin] at hlay
  have hst := (u_facts hfc hkC (u_lays hts e1 hb) hi).1
  have hcf : m.cls = cf := by
    obtain ⟨_, _, c', _, _, _, -, -, hf', -, -, -, hown2, -⟩ := Cond.laysFinal_spec hlay
    have e1 : c' = cf := by have := hi.symm.trans hf'; simp at this; exact this.1.symm
    rw [e4 bb hb, hdecl] at hown2
    rw [← e1]; exact Option.some.inj (C0.2.2.2.2.2.1.symm.trans hown2)
  have h6 := u_fits hfc hkC hkind (Or.inr hlay) hi (e2 bb hb) (hn (bs + z)) (hf (bs + z))
  have hi' : s.fieldFound? C (T bb).2.1 (T bb).2.2.1 = some (cf, kf, fi, f) := by rw [← e4 bb hb]; exact hi
  have key := W.putFinK (rest := st.map (e_mv b bs)) (g := F0 m pc ls (.ref (bs + z) :: .ref (bs + q) :: st.map (e_mv b bs))) C0.1 C0.2.1 C0.2.2.2.2.2.1 hl hi' hst hcf (C0.2.2.2.2.2.2.1 hin) (by rw [q2]; exact h6) q1 q3 (by rw [hsl]; exact k2_hasslot (q4 bb hb)) rfl rfl hd (fun H' a1 a2 a3 => by
    rw [hsl] at a1
    refine k H' _ ls (hR.put (M' := (M.1, M.2.1, e_set M.2.2 q bb z)) rfl a2 a3 ?_ (fun c hc => e_ent_setR hc)) (hS.put a2 a3 (by show bs + 1 ≤ bs + q; omega)) hL
    rw [e_ent_o h3 e6]
    refine ⟨_, hv, t_OB.to (V := updV (vp_V _) bb (.ref (bs + z))) ⟨_, a1, q2, q3, t_set q4 hap hb (.ref (bs + z))⟩ (fun j hj => ?_)⟩
    have hj : j < N := hj
    rw [e_vpV (by omega)]
    by_cases hjb : j = bb
    · subst hjb
      simp [updV, hr, e_set, e_ro, hz0, va_rf]
    · simp [updV, hjb, e_set]
      rw [e_vpV (by omega)])
  simpa [e_mv, h0, hz0] using key
theorem g_iast (C0 : e_Cx p s m args meth c D CA bs b L xs y) {q : Nat} {i x : Int32} (h1 : 1 ≤ q) (h2 : q ≤ M.1) (h3 : (e_kd q).1 = 10) (h4 : e_in i (e_kd q).2 = true) (hd : decode (e_mB y) pc = .ok (.iastore, 1)) (k : e_G p l e R s m args below meth c Q D CA bs b y (pc + 1) lv st ((M.1, e_set M.2.1 q i.toNatClampNeg x, M.2.2)) cells slots) : e_G p l e R s m args below meth c Q D CA bs b y pc lv (.int x :: .int i :: .ref q :: st) M cells slots := by
  intro H locs ls hR hS hL
  have h0 : ¬ q = 0 := by omega
  have hin := e_in_iff h4
  have hat := hR.2.2 q h1 h2
  rw [e_ent_i h3 (by omega) (by omega)] at hat
  have hcell : H[bs + q]? = some (vp_cell (CA 10) ((e_kd q).2, .inl (M.2.1 q))) := hat
  have key := W.iast (g := F0 m pc ls (.int x :: .int i :: .ref (bs + q) :: st.map (e_mv b bs))) (rest := st.map (e_mv b bs)) C0.1 C0.2.1 hcell ((C0.2.2.2.2.2.2.2.2.1.2 0 _ rfl).1 _ (fun j => .int (M.2.1 q j))) (fun q => by cases q) (by show ¬ (i < 0 ∨ (arrV _ _ _).slots.size ≤ _); rw [arrV_size]; exact hin) rfl rfl hd (fun H1 a1 a2 a3 => by
    refine k H1 _ ls (hR.put (M' := (M.1, e_set M.2.1 q i.toNatClampNeg x, M.2.2)) rfl a2 a3 ?_ (fun c hc => e_ent_set hc)) (hS.put a2 a3 (by show bs + 1 ≤ bs + q; omega)) hL
    rw [e_ent_i h3 (by omega) (by omega)]
    show H1[bs + q]? = some (vp_cell _ _)
    rw [a1, vp_cell_i, vp_cell_i, arrV_store]
    congr 2
    funext j
    by_cases hj : j = i.toNatClampNeg
    · subst hj
      simp [updV, e_set]
      try rfl
    · simp [updV, e_set, hj])
  simpa [e_mv, h0] using key
theorem g_bast (C0 : e_Cx p s m args meth c D CA bs b L xs y) {q : Nat} {i x : Int32} (h1 : 1 ≤ q) (h2 : q ≤ M.1) (h3 : (e_kd q).1 = 11) (h4 : e_in i (e_kd q).2 = true) (hd : decode (e_mB y) pc = .ok (.bastore, 1)) (k : e_G p l e R s m args below meth c Q D CA bs b y (pc + 1) lv st ((M.1, e_set M.2.1 q i.toNatClampNeg x.toInt8.toInt32, M.2.2)) cells slots) : e_G p l e R s m args below meth c Q D CA bs b y pc lv (.int x :: .int i :: .ref q :: st) M cells slots := by
  intro H locs ls hR hS hL
  have h0 : ¬ q = 0 := by omega
  have hin := e_in_iff h4
  have hat := hR.2.2 q h1 h2
  rw [e_ent_i h3 (by omega) (by omega)] at hat
  have hcell : H[bs + q]? = some (vp_cell (CA 11) ((e_kd q).2, .inl (M.2.1 q))) := hat
  have key := W.bast (g := F0 m pc ls (.int x :: .int i :: .ref (bs + q) :: st.map (e_mv b bs))) (rest := st.map (e_mv b bs)) C0.1 C0.2.1 hcell ((C0.2.2.2.2.2.2.2.2.1.2 1 _ rfl).1 _ (fun j => .int (M.2.1 q j))) (fun q => by cases q) (by show ¬ (i < 0 ∨ (arrV _ _ _).slots.size ≤ _); rw [arrV_size]; exact hin) rfl rfl hd (fun H1 a1 a2 a3 => by
    refine k H1 _ ls (hR.put (M' := (M.1, e_set M.2.1 q i.toNatClampNeg x.toInt8.toInt32, M.2.2)) rfl a2 a3 ?_ (fun c hc => e_ent_set hc)) (hS.put a2 a3 (by show bs + 1 ≤ bs + q; omega)) hL
    rw [e_ent_i h3 (by omega) (by omega)]
    show H1[bs + q]? = some (vp_cell _ _)
    rw [a1, vp_cell_i, vp_cell_i, arrV_store]
    congr 2
    funext j
    by_cases hj : j = i.toNatClampNeg
    · subst hj
      simp [updV, e_set]
      try rfl
    · simp [updV, e_set, hj])
  simpa [e_mv, h0] using key
theorem g_aast (C0 : e_Cx p s m args meth c D CA bs b L xs y) {q z : Nat} {i : Int32} (h1 : 1 ≤ q) (h2 : q ≤ M.1) (hz1 : 1 ≤ z) (hz2 : z ≤ M.1) (h3 : (e_kd q).1 = 12 ∧ (e_kd z).1 = 1 ∨ (e_kd q).1 = 13 ∧ (e_kd z).1 = 4) (h4 : e_in i (e_kd q).2 = true) (hd : decode (e_mB y) pc = .ok (.aastore, 1)) (k : e_G p l e R s m args below meth c Q D CA bs b y (pc + 1) lv st ((M.1, M.2.1, e_set M.2.2 q i.toNatClampNeg z)) cells slots) : e_G p l e R s m args below meth c Q D CA bs b y pc lv (.ref z :: .int i :: .ref q :: st) M cells slots := by
  intro H locs ls hR hS hL
  have h0 : ¬ q = 0 := by omega
  have hz0 : ¬ z = 0 := by omega
  have hin := e_in_iff h4
  have hlt : i.toNatClampNeg < (e_kd q).2 := Nat.not_le.mp fun q => hin (Or.inr q)
  have hi0 : ¬ i < 0 := fun q => hin (Or.inl q)
  have hK := C0.2.2.2.2.2.2.2.2.1
  have hat := hR.2.2 q h1 h2
  rw [e_ent_q rfl (by omega)] at hat
  have hcell : H[bs + q]? = some (vp_cell (CA (e_kd q).1) ((e_kd q).2, .inr (.inr (.inr (.inr (fun j => e_ro bs (M.2.2 q j))))))) := hat
  obtain ⟨ci, r, t0, hz3, hc, hty⟩ : ∃ (ci : Nat) (r : vw_C) (t0 : Nat), (e_kd z).1 = ci ∧ (vwCl[ci]? = some r ∧ ci < 10) ∧ (e_tys CA)[t0]? = some (CA (e_kd q).1, .object r.1) := by
    rcases h3 with ⟨ha, hb⟩ | ⟨ha, hb⟩
    · exact ⟨1, _, 2, hb, ⟨rfl, by omega⟩, by rw [ha]; rfl⟩
    · exact ⟨4, _, 3, hb, ⟨rfl, by omega⟩, by rw [ha]; rfl⟩
  have hatz := hR.2.2 z hz1 hz2
  rw [e_ent_o hz3 hc.2] at hatz
  obtain ⟨r', hr', cellV, g1, g2, g3, -⟩ := hatz
  have hcls := (hK.1 ci r hc.1).2
  obtain ⟨kA, comp, k1, k2, k3, -⟩ := (hK.2 t0 _ hty).2
  have hcomp : comp = D.1 ci := Option.some.inj (k3.symm.trans hcls.1)
  subst hcomp
  obtain ⟨kC, hkC, -⟩ := hcls.2
  have key := W.aast (g := F0 m pc ls (.ref (bs + z) :: .int i :: .ref (bs + q) :: st.map (e_mv b bs))) (rest := st.map (e_mv b bs)) C0.1 C0.2.1 hcell (fun q h => by cases h) (fun h => by cases h) k1 k2 rfl hkC ⟨hi0, by show _ < (arrV _ _ _).slots.size; rw [arrV_size]; exact hlt⟩ g1 (fun q h => by rw [g3] at h; cases h) (by rw [g2]; exact hkC) (by rw [g2]; exact va_assign hcls) rfl rfl hd (fun H1 a1 a2 a3 => by
    refine k H1 _ ls (hR.put (M' := (M.1, M.2.1, e_set M.2.2 q i.toNatClampNeg z)) rfl a2 a3 ?_ (fun c hc => e_ent_setR hc)) (hS.put a2 a3 (by show bs + 1 ≤ bs + q; omega)) hL
    rw [e_ent_q rfl (by omega)]
    show H1[bs + q]? = some (vp_cell _ _)
    rw [a1, vp_cell_q, vp_cell_q, arrV_store]
    congr 2
    funext j
    by_cases hj : j = i.toNatClampNeg
    · subst hj
      simp [updV, e_set, e_ro, hz0, va_rf]
    · simp [updV, e_set, hj])
  simpa [e_mv, h0, hz0] using key
theorem g_copy (C0 : e_Cx p s m args meth c D CA bs b L xs y) {q d i : Nat} {sp dp n : Int32} (hq : 1 ≤ q ∧ q ≤ M.1 ∧ (e_kd q).1 = 10) (hdd : 1 ≤ d ∧ d ≤ M.1 ∧ (e_kd d).1 = 10) (hs : ¬ sp < 0 ∧ ¬ dp < 0 ∧ ¬ n < 0) (h4 : sp.toNatClampNeg + n.toNatClampNeg ≤ (e_kd q).2) (h5 : dp.toNatClampNeg + n.toNatClampNeg ≤ (e_kd d).2) (hlink : (Jvm.Cond.methodLink (e_mO y) i arraycopyName).before args s = true) (hnat : (Jvm.Cond.native arraycopyName).before args s = true) (hstat : (Jvm.Cond.static arraycopyName).before args s = true) (hini : (Jvm.Cond.initialized "java/lang/System").before args s = true) (hfr : 1 ≤ R.frames) (hlo : nativeFrameWords "java/lang/System" "arraycopy" 5 + 11 ≤ R.locals) (hd : decode (e_mB y) pc = .ok (.invokestatic i, 3)) (k : e_G p l e R s m args below meth c Q D CA bs b y (pc + 3) lv [] ((M.1, e_cpy M.2.1 q sp.toNatClampNeg d dp.toNatClampNeg n.toNatClampNeg, M.2.2)) cells slots) : e_G p l e R s m args below meth c Q D CA bs b y pc lv ([.int n, .int dp, .ref d, .int sp, .ref q]) M cells slots := by
  intro H locs ls hR hS hL
  obtain ⟨hq1, hq2, hq3⟩ := hq
  obtain ⟨hd1, hd2, hd3⟩ := hdd
  obtain ⟨h1, h2, h3⟩ := hs
  have hq0 : ¬ q = 0 := by omega
  have hd0 : ¬ d = 0 := by omega
  have hK := C0.2.2.2.2.2.2.2.2.1
  have nn : ∀ z : Int32, ¬ z < 0 → z.toInt = (z.toNatClampNeg : Int) := by
    intro z hz
    have hz0 : (0 : Int) ≤ z.toInt := by
      have := Int32.not_lt.mp hz
      simpa using Int32.le_iff_toInt_le.mp this
    show z.toInt = ((z.toInt.toNat : Nat) : Int)
    omega
  have hc0 : H[bs + q]? = some (vp_cell (CA 10) ((e_kd q).2, .inl (M.2.1 q))) := by
    have := hR.2.2 q hq1 hq2
    rw [e_ent_i hq3 (by omega) (by omega)] at this
    exact this
  have hc1 : H[bs + d]? = some (vp_cell (CA 10) ((e_kd d).2, .inl (M.2.1 d))) := by
    have := hR.2.2 d hd1 hd2
    rw [e_ent_i hd3 (by omega) (by omega)] at this
    exact this
  have key : W p l e R s m args below meth c H locs cells slots Q (F0 m pc ls [.int n, .int dp, .ref (bs + d), .int sp, .ref (bs + q)]) := by
    intro T hT X
    obtain ⟨-, k0, hk0, cm0, hkk0⟩ := (hK.2 0 _ rfl).1 (e_kd q).2 (fun j => .int (M.2.1 q j))
    obtain ⟨-, k1, hk1, cm1, hkk1⟩ := (hK.2 0 _ rfl).1 (e_kd d).2 (fun j => .int (M.2.1 d j))
    obtain ⟨vm', X', step⟩ := X.arraycopy C0.1 C0.2.2.2.2.2.1 hlink hnat hstat hini (src := bs + q) (dst := bs + d) (cs := vp_cell (CA 10) ((e_kd q).2, .inl (M.2.1 q))) (cd := vp_cell (CA 10) ((e_kd d).2, .inl (M.2.1 d))) (srcPos := sp) (destPos := dp) (n := n) (by rw [hT]; exact hc0) (by rw [hT]; exact hc1)
      (fun _ h => by cases h) (fun _ h => by cases h) (fun h => by cases h) (fun h => by cases h) hk0 hk1 hkk0 hkk1 (by simp) h1 h2 h3
      (by rw [nn sp h1, nn n h3]; show ¬ _ > ((arrV (CA 10) (e_kd q).2 (fun j => .int (M.2.1 q j))).slots.size : Int); rw [arrV_size]; omega)
      (by rw [nn dp h2, nn n h3]; show ¬ _ > ((arrV (CA 10) (e_kd d).2 (fun j => .int (M.2.1 d j))).slots.size : Int); rw [arrV_size]; omega)
      (fun vm₁ _ i hi => by
        have e : (vp_cell (CA 10) ((e_kd q).2, .inl (M.2.1 q))).slots.getD (sp.toNatClampNeg + i) .null = .int (M.2.1 q (sp.toNatClampNeg + i)) := by
          show (arrV (CA 10) (e_kd q).2 (fun j => .int (M.2.1 q j))).slots.getD _ _ = _
          rw [Array.getD_eq_getD_getElem?, arrV_read _ _ (by omega)]
          rfl
        refine ⟨?_, ?_⟩
        · rw [e]
          rfl
        · rw [e]
          exact trivial)
      (g := F0 m pc ls [.int n, .int dp, .ref (bs + d), .int sp, .ref (bs + q)]) rfl (by rw [C0.2.2.1]; exact hL.1) (rest := []) rfl (by rw [C0.2.1]; exact hd) hfr (by show 2 * 0 + 0 + _ ≤ _; omega)
    have e1 : copied (vp_cell (CA 10) ((e_kd q).2, .inl (M.2.1 q))) (vp_cell (CA 10) ((e_kd d).2, .inl (M.2.1 d))) sp dp n = vp_cell (CA 10) ((e_kd d).2, .inl (va_cpy (M.2.1 q) (M.2.1 d) sp.toNatClampNeg dp.toNatClampNeg n.toNatClampNeg)) := va_copied (fun z => .int z) (CA 10) (CA 10) (M.2.1 q) (M.2.1 d) h4
    rw [e1] at X' step
    have hl : bs + d < H.size := (Array.getElem?_eq_some_iff.mp hc1).1
    have hheap : ((T.setVm vm').setCell (bs + d) (vp_cell (CA 10) ((e_kd d).2, .inl (va_cpy (M.2.1 q) (M.2.1 d) sp.toNatClampNeg dp.toNatClampNeg n.toNatClampNeg)))).heap = H.setIfInBounds (bs + d) (vp_cell (CA 10) ((e_kd d).2, .inl (va_cpy (M.2.1 q) (M.2.1 d) sp.toNatClampNeg dp.toNatClampNeg n.toNatClampNeg))) := by rw [← hT]; rfl
    have oq : ∀ x : Nat, x ≠ bs + d → (H.setIfInBounds (bs + d) (vp_cell (CA 10) ((e_kd d).2, .inl (va_cpy (M.2.1 q) (M.2.1 d) sp.toNatClampNeg dp.toNatClampNeg n.toNatClampNeg))))[x]? = H[x]? := fun x hx => by simp [Array.getElem?_setIfInBounds, Ne.symm hx]
    obtain ⟨t, a1, b1⟩ := k _ _ ls (hR.put (M' := (M.1, e_cpy M.2.1 q sp.toNatClampNeg d dp.toNatClampNeg n.toNatClampNeg, M.2.2)) rfl (by simp) oq (by
        rw [e_ent_i hd3 (by omega) (by omega)]
        show (H.setIfInBounds (bs + d) _)[bs + d]? = some (vp_cell _ _)
        rw [Array.getElem?_setIfInBounds]
        simp only [hl, if_true]
        have : e_cpy M.2.1 q sp.toNatClampNeg d dp.toNatClampNeg n.toNatClampNeg d = va_cpy (M.2.1 q) (M.2.1 d) sp.toNatClampNeg dp.toNatClampNeg n.toNatClampNeg := by funext j; simp [e_cpy, va_cpy]
        rw [this]) (fun c hc => by
        have : e_cpy M.2.1 q sp.toNatClampNeg d dp.toNatClampNeg n.toNatClampNeg c = M.2.1 c := by funext j; simp [e_cpy, hc]
        simp only [e_ent, this])) ⟨by simp; exact hS.1, fun x g1 g2 => by
        rw [oq x (fun e => g2 (by show bs + 1 ≤ x; omega))]
        exact hS.2.1 x g1 g2, fun x hx => by
        rcases List.mem_append.mp hx with h | h
        · exact hS.2.2 x h
        · obtain ⟨z, -, hz⟩ := List.mem_map.mp h
          rw [← hz]
          show bs + 1 ≤ bs + d
          omega⟩ hL _ hheap X'
    exact ⟨t, step t a1, b1⟩
  simpa [e_mv, hq0, hd0] using key
theorem g_new (C0 : e_Cx p s m args meth c D CA bs b L xs y) {a N i : Nat} {C : String} {T : u_T} (hv : vwCl[a]? = some (C, T, N)) (hn : M.1 + 1 ≤ 173) (hk : e_kd (M.1 + 1) = (a, N)) (hcl : (Jvm.Cond.classLink (e_mO y) i C).before args s = true) (hinst : (Jvm.Cond.instantiable C N).before args s = true) (hini : (Jvm.Cond.initialized C).before args s = true) (hcells : cells + 1 ≤ R.cells) (hslots : slots + N ≤ R.slots) (hd : decode (e_mB y) pc = .ok (.new i, 3)) (k : e_G p l e R s m args below meth c Q D CA bs b y (pc + 3) lv (.ref (M.1 + 1) :: st) ((M.1 + 1, e_clr 0 M.2.1 (M.1 + 1) 1, e_clr 0 M.2.2 (M.1 + 1) 1)) (cells + 1) (slots + N)) : e_G p l e R s m args below meth c Q D CA bs b y pc lv st M cells slots := by
  intro H locs ls hR hS hL
  obtain ⟨e1, e2, e3, e4, e5, e6⟩ := e_cls hv
  have hts := C0.2.2.2.2.2.2.2.2.2.2.2.2.2
  have hKn := C0.2.2.2.2.2.2.2.2.1.1 a _ hv
  refine W.newcK C0.1 C0.2.1 C0.2.2.2.2.2.1 hcl hinst hini rfl hd hcells hslots hKn.2.1 (h := bs + (M.1 + 1)) (by rw [hR.1]; omega) fun H1 kC hkC a1 z1 o1 => ?_
  have key := k H1 locs ls ⟨by show H1.size = bs + 1 + (M.1 + 1); omega, hn, fun c h1 h2 => ?_⟩ ⟨Nat.le_trans hS.1 (by have := hR.1; omega), fun x h1 h2 => (o1 x (by have := hS.1; have := hR.1; omega)).trans (hS.2.1 x h1 h2), hS.2.2⟩ hL
  · simpa [e_mv] using key
  · have h2 : c ≤ M.1 + 1 := h2
    by_cases hc : c = M.1 + 1
    · subst hc
      have hk1 : (e_kd (M.1 + 1)).1 = a := by rw [hk]
      rw [e_ent_o hk1 e6]
      refine ⟨_, hv, (u_born (e_ty a) hts e1 hKn hkC a1 e2).to (fun j hj => ?_)⟩
      rw [e_vpV (by rw [hk]; exact hj), e5 j hj]
      split
      · show Value.null = va_rf (e_ro bs (e_clr 0 M.2.2 (M.1 + 1) 1 (M.1 + 1) j))
        rw [e_clr_in ⟨Nat.le_refl _, Nat.lt_succ_self _⟩]
        rfl
      · show Value.int 0 = Value.int (e_clr 0 M.2.1 (M.1 + 1) 1 (M.1 + 1) j)
        rw [e_clr_in ⟨Nat.le_refl _, Nat.lt_succ_self _⟩]
    · rw [e_ent_clr (M := M) (by omega) (fun j => e_clr_out (by omega))]
      exact (hR.2.2 c h1 (by omega)).kept (o1 _ (by show bs + c < _; omega))
theorem g_newi (C0 : e_Cx p s m args meth c D CA bs b L xs y) {n : Int32} {N : Nat} (hn : M.1 + 1 ≤ 173) (hk : e_kd (M.1 + 1) = (10, N)) (h0 : ¬ n < 0) (hN : n.toNatClampNeg = N) (hN2 : N ≤ 1000) (harr : (Jvm.Cond.arrayClass .int).before args s = true) (hcells : cells + 1 ≤ R.cells) (hslots : slots + N ≤ R.slots) (hd : decode (e_mB y) pc = .ok (.newarray .int, 2)) (k : e_G p l e R s m args below meth c Q D CA bs b y (pc + 2) lv (.ref (M.1 + 1) :: st) ((M.1 + 1, e_clr 0 M.2.1 (M.1 + 1) 1, e_clr 0 M.2.2 (M.1 + 1) 1)) (cells + 1) (slots + N)) : e_G p l e R s m args below meth c Q D CA bs b y pc lv (.int n :: st) M cells slots := by
  intro H locs ls hR hS hL
  refine va_newaK (atype := .int) (g := F0 m pc ls (.int n :: st.map (e_mv b bs))) C0.1 C0.2.1 harr rfl hd rfl h0 hN (Nat.le_trans (Nat.mul_le_mul_right _ hN2) (Nat.le_of_ble_eq_true rfl)) hcells hslots (h := bs + (M.1 + 1)) (by rw [hR.1]; omega) fun H1 cA a1 z1 o1 hAr hNm => ?_
  have hcA : cA = CA 10 := by
    have h2 := (C0.2.2.2.2.2.2.2.2.1.2 0 _ rfl).2
    exact Option.some.inj (hNm.symm.trans h2)
  subst hcA
  have key := k H1 locs ls ⟨by show H1.size = bs + 1 + (M.1 + 1); omega, hn, fun c h1 h2 => ?_⟩ ⟨Nat.le_trans hS.1 (by have := hR.1; omega), fun x h1 h2 => (o1 x (by have := hS.1; have := hR.1; omega)).trans (hS.2.1 x h1 h2), hS.2.2⟩ hL
  · simpa [e_mv] using key
  · have h2 : c ≤ M.1 + 1 := h2
    by_cases hc : c = M.1 + 1
    · subst hc
      have hk1 : (e_kd (M.1 + 1)).1 = 10 := by rw [hk]
      rw [e_ent_i hk1 (by omega) (by omega)]
      show H1[bs + (M.1 + 1)]? = some (vp_cell _ _)
      rw [a1, vp_cell_i, hk]
      congr 2
      funext j
      show defaultValue _ = Value.int (e_clr 0 M.2.1 (M.1 + 1) 1 (M.1 + 1) j)
      rw [e_clr_in ⟨Nat.le_refl _, Nat.lt_succ_self _⟩]
      rfl
    · rw [e_ent_clr (M := M) (by omega) (fun j => e_clr_out (by omega))]
      exact (hR.2.2 c h1 (by omega)).kept (o1 _ (by show bs + c < _; omega))
theorem g_newb (C0 : e_Cx p s m args meth c D CA bs b L xs y) {n : Int32} {N : Nat} (hn : M.1 + 1 ≤ 173) (hk : e_kd (M.1 + 1) = (11, N)) (h0 : ¬ n < 0) (hN : n.toNatClampNeg = N) (hN2 : N ≤ 1000) (harr : (Jvm.Cond.arrayClass .byte).before args s = true) (hcells : cells + 1 ≤ R.cells) (hslots : slots + N ≤ R.slots) (hd : decode (e_mB y) pc = .ok (.newarray .byte, 2)) (k : e_G p l e R s m args below meth c Q D CA bs b y (pc + 2) lv (.ref (M.1 + 1) :: st) ((M.1 + 1, e_clr 0 M.2.1 (M.1 + 1) 1, e_clr 0 M.2.2 (M.1 + 1) 1)) (cells + 1) (slots + N)) : e_G p l e R s m args below meth c Q D CA bs b y pc lv (.int n :: st) M cells slots := by
  intro H locs ls hR hS hL
  refine va_newaK (atype := .byte) (g := F0 m pc ls (.int n :: st.map (e_mv b bs))) C0.1 C0.2.1 harr rfl hd rfl h0 hN (Nat.le_trans (Nat.mul_le_mul_right _ hN2) (Nat.le_of_ble_eq_true rfl)) hcells hslots (h := bs + (M.1 + 1)) (by rw [hR.1]; omega) fun H1 cA a1 z1 o1 hAr hNm => ?_
  have hcA : cA = CA 11 := by
    have h2 := (C0.2.2.2.2.2.2.2.2.1.2 1 _ rfl).2
    exact Option.some.inj (hNm.symm.trans h2)
  subst hcA
  have key := k H1 locs ls ⟨by show H1.size = bs + 1 + (M.1 + 1); omega, hn, fun c h1 h2 => ?_⟩ ⟨Nat.le_trans hS.1 (by have := hR.1; omega), fun x h1 h2 => (o1 x (by have := hS.1; have := hR.1; omega)).trans (hS.2.1 x h1 h2), hS.2.2⟩ hL
  · simpa [e_mv] using key
  · have h2 : c ≤ M.1 + 1 := h2
    by_cases hc : c = M.1 + 1
    · subst hc
      have hk1 : (e_kd (M.1 + 1)).1 = 11 := by rw [hk]
      rw [e_ent_i hk1 (by omega) (by omega)]
      show H1[bs + (M.1 + 1)]? = some (vp_cell _ _)
      rw [a1, vp_cell_i, hk]
      congr 2
      funext j
      show defaultValue _ = Value.int (e_clr 0 M.2.1 (M.1 + 1) 1 (M.1 + 1) j)
      rw [e_clr_in ⟨Nat.le_refl _, Nat.lt_succ_self _⟩]
      rfl
    · rw [e_ent_clr (M := M) (by omega) (fun j => e_clr_out (by omega))]
      exact (hR.2.2 c h1 (by omega)).kept (o1 _ (by show bs + c < _; omega))
theorem g_newq (C0 : e_Cx p s m args meth c D CA bs b L xs y) {n : Int32} {N kd i : Nat} {C : String} (hn : M.1 + 1 ≤ 173) (hk : e_kd (M.1 + 1) = (kd, N)) (hkd : kd = 12 ∧ C = "FeederControl$Feeder" ∨ kd = 13 ∧ C = "FeederControl$Node") (h0 : ¬ n < 0) (hN : n.toNatClampNeg = N) (hN2 : N ≤ 1000) (hcl : (Jvm.Cond.classLink (e_mO y) i C).before args s = true) (hov : (Jvm.Cond.arrayOver (.object C)).before args s = true) (hcells : cells + 1 ≤ R.cells) (hslots : slots + N ≤ R.slots) (hd : decode (e_mB y) pc = .ok (.anewarray i, 3)) (k : e_G p l e R s m args below meth c Q D CA bs b y (pc + 3) lv (.ref (M.1 + 1) :: st) ((M.1 + 1, e_clr 0 M.2.1 (M.1 + 1) 1, e_clr 0 M.2.2 (M.1 + 1) 1)) (cells + 1) (slots + N)) : e_G p l e R s m args below meth c Q D CA bs b y pc lv (.int n :: st) M cells slots := by
  intro H locs ls hR hS hL
  refine W.anew (g := F0 m pc ls (.int n :: st.map (e_mv b bs))) C0.1 C0.2.1 C0.2.2.2.2.2.1 hcl hov rfl hd rfl h0 (by omega) hcells (by omega) fun cA kA comp f1 f2 f3 f4 => ?_
  obtain ⟨t0, hty⟩ : ∃ t0 : Nat, (e_tys CA)[t0]? = some (CA kd, .object C) := by
    rcases hkd with ⟨ha, hb⟩ | ⟨ha, hb⟩
    · exact ⟨2, by rw [ha, hb]; rfl⟩
    · exact ⟨3, by rw [ha, hb]; rfl⟩
  have hcA : cA = CA kd := by
    obtain ⟨_, _, -, -, -, h2⟩ := (C0.2.2.2.2.2.2.2.2.1.2 t0 _ hty).2
    exact Option.some.inj (f1.symm.trans h2)
  subst hcA
  rw [hN, arrV_new, show H.size = bs + (M.1 + 1) by rw [hR.1]; omega]
  have o1 : ∀ x : Nat, x < bs + (M.1 + 1) → (H.push (arrV (CA kd) N (fun _ => .null)))[x]? = H[x]? := fun x hx => by rw [Array.getElem?_push, if_neg (by rw [hR.1]; omega)]
  have key := k (H.push (arrV (CA kd) N (fun _ => .null))) locs ls ⟨by rw [Array.size_push, hR.1]; omega, hn, fun c h1 h2 => ?_⟩ ⟨by rw [Array.size_push]; exact Nat.le_succ_of_le hS.1, fun x h1 h2 => (o1 x (by have := hS.1; have := hR.1; omega)).trans (hS.2.1 x h1 h2), hS.2.2⟩ hL
  · simpa [e_mv] using key
  · have h2 : c ≤ M.1 + 1 := h2
    by_cases hc : c = M.1 + 1
    · subst hc
      have hk1 : (e_kd (M.1 + 1)).1 = kd := by rw [hk]
      rw [e_ent_q hk1 (by omega)]
      show (H.push _)[bs + (M.1 + 1)]? = some (vp_cell _ _)
      rw [Array.getElem?_push, if_pos (by rw [hR.1]; omega), vp_cell_q, hk]
      congr 2
      funext j
      show Value.null = va_rf (e_ro bs (e_clr 0 M.2.2 (M.1 + 1) 1 (M.1 + 1) j))
      rw [e_clr_in ⟨Nat.le_refl _, Nat.lt_succ_self _⟩]
      rfl
    · rw [e_ent_clr (M := M) (by omega) (fun j => e_clr_out (by omega))]
      exact (hR.2.2 c h1 (by omega)).kept (o1 _ (by show bs + c < _; omega))
end E_ROWS
end
section
/-! new int[24][33], Object.<init>, calls, returns -/
theorem e_outer (c : ClassId) (N h0 : Nat) : ∀ i : Nat, Jvm.Free.Multi.outerC c N h0 i = arrV c N (fun j => va_rf (if j < i then some (h0 + 1 + j) else none))
  | 0 => by
    show ({ cls := c, slots := Array.replicate N .null, vm := .none } : Cell) = _
    rw [arrV_new]
    refine congrArg (arrV c N) (funext fun j => ?_)
    simp [va_rf]
  | i + 1 => by
    show (Jvm.Free.Multi.outerC c N h0 i).setSlot i (.ref (h0 + 1 + i)) = _
    rw [e_outer c N h0 i, arrV_store]
    refine congrArg (arrV c N) (funext fun j => ?_)
    by_cases e : j = i
    · subst e
      simp [updV, va_rf]
    · by_cases h : j < i
      · simp [updV, e, h, Nat.lt_succ_of_lt h]
      · simp [updV, e, h, show ¬ j < i + 1 by omega]
section E_ROWS
variable {p : Program} {l : Launch} {e : Env} {R : Room} {s : State} {m : MethodId} {args : Array Value} {below : List Frame} {meth : Method} {c : Code} {Q : State → Prop} {D : va_G} {CA : Nat → ClassId} {bs b L y pc : Nat} {xs : Nat → Int32} {lv : e_Lv} {st : List Value} {M : e_Mem} {cells slots : Nat}
theorem g_multi (C0 : e_Cx p s m args meth c D CA bs b L xs y) {i : Nat} (hn : M.1 + 25 ≤ 173) (hk : e_kd (M.1 + 1) = (14, 24)) (hk2 : ∀ j, j < 24 → e_kd (M.1 + 2 + j) = (10, 33)) (hcl : (Jvm.Cond.classLink (e_mO y) i ("[" ++ (FieldType.array .int).toString)).before args s = true) (hov : (Jvm.Cond.arrayOver (.array .int)).before args s = true) (harr : (Jvm.Cond.arrayClass .int).before args s = true) (hcells : cells + 25 ≤ R.cells) (hslots : slots + (24 + 24 * 33) ≤ R.slots) (hd : decode (e_mB y) pc = .ok (.multianewarray i 2, 4)) (k : e_G p l e R s m args below meth c Q D CA bs b y (pc + 4) lv (.ref (M.1 + 1) :: st) ((M.1 + 25, e_clr 0 M.2.1 (M.1 + 1) 25, fun c' k' => if c' = M.1 + 1 ∧ k' < 24 then M.1 + 2 + k' else e_clr 0 M.2.2 (M.1 + 1) 25 c' k')) (cells + 25) (slots + (24 + 24 * 33))) : e_G p l e R s m args below meth c Q D CA bs b y pc lv (.int 33 :: .int 24 :: st) M cells slots := by
  intro H locs ls hR hS hL T hT Xs
  have hN : (24 : Int32).toNatClampNeg = 24 := by decide +kernel
  have hK' : (33 : Int32).toNatClampNeg = 33 := by decide +kernel
  obtain ⟨vm₁, cA, comp, -, fA, fC, hO, -, X', step⟩ := Xs.multianewarray2F (ty := .int) C0.1 C0.2.2.2.2.2.1 hcl hov harr (g := F0 m pc ls (.int 33 :: .int 24 :: st.map (e_mv b bs))) rfl (by rw [C0.2.1]; exact hd) rfl (by decide +kernel) (by decide +kernel) (by rw [hN]; exact Nat.le_of_ble_eq_true rfl) (by rw [hK']; exact Nat.le_of_ble_eq_true rfl) (by rw [hK']; exact Nat.le_of_ble_eq_true rfl) rfl rfl (by rw [hN]; omega) (by rw [hN, hK']; omega)
  rw [hN, hK'] at X' step
  have hTys := C0.2.2.2.2.2.2.2.2.1.2
  have hcA : cA = CA 14 := Option.some.inj (fA.symm.trans (hTys 4 _ rfl).2)
  have hcI : comp = CA 10 := Option.some.inj (fC.symm.trans (hTys 0 _ rfl).2)
  subst hcA
  subst hcI
  generalize hF : Jvm.Free.Multi.fill (T.setVm vm₁) (CA 14) (CA 10) 24 33 (defaultValue .int) 24 = F at X' step
  have hTh : (T.setVm vm₁).heap = H := hT
  obtain ⟨f1, f2, -, -⟩ := Jvm.Free.Multi.fill_facts (T.setVm vm₁) (CA 14) (CA 10) 24 33 (defaultValue .int) 24
  rw [hF, hTh] at f1 f2
  have hsz := hR.1
  have hold : ∀ x : Nat, x < H.size → F.heap[x]? = H[x]? := fun x hx => by
    have := Jvm.Free.Multi.fill_old (T.setVm vm₁) (CA 14) (CA 10) 24 33 (defaultValue .int) (a := x) (by rw [hTh]; exact hx) 24
    rw [hF, hTh] at this
    exact this
  have hrow : ∀ j : Nat, j < 24 → F.heap[H.size + 1 + j]? = some (arrV (CA 10) 33 (fun _ => .int 0)) := fun j hj => by
    have := Jvm.Free.Multi.fill_inner (T.setVm vm₁) (CA 14) (CA 10) 24 33 (defaultValue .int) 24 j hj
    rw [hF, hTh] at this
    rw [this]
    exact congrArg some (arrV_new (CA 10) 33 (.int 0))
  rw [e_outer] at f2
  have key := k F.heap locs ls ⟨by show F.heap.size = bs + 1 + (M.1 + 25); rw [f1]; omega, hn, fun c h1 h2 => ?_⟩ ⟨by rw [f1]; have := hS.1; omega, fun x h1 h2 => (hold x (Nat.lt_of_lt_of_le h1 hS.1)).trans (hS.2.1 x h1 h2), hS.2.2⟩ hL F rfl X'
  · obtain ⟨t, a1, b1⟩ := key
    refine ⟨t, step t ?_, b1⟩
    have e : T.heap.size = bs + (M.1 + 1) := by rw [hT]; omega
    rw [e]
    simpa [e_mv] using a1
  · have h2 : c ≤ M.1 + 25 := h2
    by_cases hc : c ≤ M.1
    · rw [e_ent_clr (M := M) hc (fun j => by
        show (if c = M.1 + 1 ∧ j < 24 then M.1 + 2 + j else e_clr 0 M.2.2 (M.1 + 1) 25 c j) = _
        rw [if_neg (by omega), e_clr_out (by omega)])]
      exact (hR.2.2 c h1 hc).kept (hold _ (by show bs + c < _; omega))
    · by_cases hc1 : c = M.1 + 1
      · subst hc1
        have hk1 : (e_kd (M.1 + 1)).1 = 14 := by rw [hk]
        rw [e_ent_q hk1 (by omega)]
        show F.heap[bs + (M.1 + 1)]? = some (vp_cell _ _)
        rw [show bs + (M.1 + 1) = H.size by omega, f2, vp_cell_q, hk]
        show some (arrV (CA 14) 24 _) = some (arrV (CA 14) 24 _)
        congr 2
        funext j
        show va_rf (if j < 24 then some (H.size + 1 + j) else none) = va_rf (e_ro bs (if M.1 + 1 = M.1 + 1 ∧ j < 24 then M.1 + 2 + j else e_clr 0 M.2.2 (M.1 + 1) 25 (M.1 + 1) j))
        by_cases hj : j < 24
        · rw [if_pos hj, if_pos ⟨rfl, hj⟩]
          unfold e_ro
          rw [if_neg (by omega)]
          congr 2
          omega
        · rw [if_neg hj, if_neg (by omega), e_clr_in ⟨Nat.le_refl _, by omega⟩]
          rfl
      · have hk1 : e_kd c = (10, 33) := by
          have := hk2 (c - (M.1 + 2)) (by omega)
          rw [show M.1 + 2 + (c - (M.1 + 2)) = c by omega] at this
          exact this
        rw [e_ent_i (a := 10) (by rw [hk1]) (by omega) (by omega)]
        show F.heap[bs + c]? = some (vp_cell _ _)
        have := hrow (c - (M.1 + 2)) (by omega)
        rw [show bs + c = H.size + 1 + (c - (M.1 + 2)) by omega, this, vp_cell_i, hk1]
        show some (arrV (CA 10) 33 _) = some (arrV (CA 10) 33 _)
        congr 2
        funext j
        show Value.int 0 = Value.int (e_clr 0 M.2.1 (M.1 + 1) 25 c j)
        rw [e_clr_in ⟨by omega, by omega⟩]
theorem g_oinit (C0 : e_Cx p s m args meth c D CA bs b L xs y) {q i : Nat} (hl : (Jvm.Cond.methodLink (e_mO y) i Lib.objectInit).before args s = true) (hin : (Jvm.Cond.instanceMethod Lib.objectInit).before args s = true) (hc : (Jvm.Cond.code Lib.objectInit ⟨#[0xb1]⟩ 1 none).before args s = true) (hfr : 1 ≤ R.frames) (hlo : 12 ≤ R.locals) (hd : decode (e_mB y) pc = .ok (.invokespecial i, 3)) (k : e_G p l e R s m args below meth c Q D CA bs b y (pc + 3) lv [] M cells slots) : e_G p l e R s m args below meth c Q D CA bs b y pc lv ([.ref q]) M cells slots := by
  intro H locs ls hR hS hL
  exact W.objInit C0.1 C0.2.1 C0.2.2.2.2.2.1 hl hin hc (g := F0 m pc ls [.ref (if q = 0 then b else bs + q)]) rfl (by rw [C0.2.2.1]; exact hL.1) rfl hd hfr (by show 2 * 0 + 0 + 12 ≤ _; omega) (k H locs ls hR hS hL)
theorem g_ret0 (C0 : e_Cx p s m args meth c D CA bs b L xs y) (hr : e_mR y = none) (hd : decode (e_mB y) pc = .ok (.return_, 1)) {H : Heap} {locs : List Loc} {ls : Array Slot} (hR : e_Rel D CA bs M H) (hS : va_S (fun q => bs + 1 ≤ q) s.heap H locs) : W p l e R s m args below meth c H locs cells slots (MQ below (e_Qc D CA bs b (none, M)) args s cells slots (fun q => bs + 1 ≤ q)) (F0 m pc ls []) :=
  W.vret (hlocks := C0.2.2.2.2.1) C0.1 C0.2.1 (C0.2.2.2.1.trans hr) (fun t ht _ => ⟨rfl, by rw [ht]; exact hR, hS.F ht⟩) hS.2.2 hd
theorem g_iret (C0 : e_Cx p s m args meth c D CA bs b L xs y) {x : Int32} (hr : e_mR y = some .int ∨ e_mR y = some .boolean ∧ (x = 0 ∨ x = 1)) (hd : decode (e_mB y) pc = .ok (.ireturn, 1)) {H : Heap} {locs : List Loc} {ls : Array Slot} (hR : e_Rel D CA bs M H) (hS : va_S (fun q => bs + 1 ≤ q) s.heap H locs) : W p l e R s m args below meth c H locs cells slots (MQ below (e_Qc D CA bs b (some (.int x), M)) args s cells slots (fun q => bs + 1 ≤ q)) (F0 m pc ls [.int x]) := by
  rcases hr with hr | ⟨hr, hx⟩
  · exact W.iret (hlocks := C0.2.2.2.2.1) C0.1 C0.2.1 (C0.2.2.2.1.trans hr) (fun t ht _ => ⟨rfl, by rw [ht]; exact hR, hS.F ht⟩) hS.2.2 hd
  · exact W.zret (hlocks := C0.2.2.2.2.1) C0.1 C0.2.1 (C0.2.2.2.1.trans hr) (by rcases hx with h | h <;> (subst h; decide +kernel)) (fun t ht _ => ⟨rfl, by rw [ht]; exact hR, hS.F ht⟩) hS.2.2 hd
theorem g_lret (C0 : e_Cx p s m args meth c D CA bs b L xs y) {x : Int64} (hr : e_mR y = some .long) (hd : decode (e_mB y) pc = .ok (.lreturn, 1)) {H : Heap} {locs : List Loc} {ls : Array Slot} (hR : e_Rel D CA bs M H) (hS : va_S (fun q => bs + 1 ≤ q) s.heap H locs) : W p l e R s m args below meth c H locs cells slots (MQ below (e_Qc D CA bs b (some (.long x), M)) args s cells slots (fun q => bs + 1 ≤ q)) (F0 m pc ls [.long x]) :=
  W.lret (hlocks := C0.2.2.2.2.1) C0.1 C0.2.1 (C0.2.2.2.1.trans hr) (fun t ht _ => ⟨rfl, by rw [ht]; exact hR, hS.F ht⟩) hS.2.2 hd
theorem e_cat_le (b bs : Nat) : ∀ r : List Value, ((r.map (e_mv b bs)).map fun v => v.category).sum ≤ 2 * r.length
  | [] => by simp
  | v :: r => by
    have ih := e_cat_le b bs r
    have h1 : (e_mv b bs v).category ≤ 2 := by rcases lv_cat (e_mv b bs v) with h | h <;> omega
    simp only [List.map_cons, List.sum_cons, List.length_cons]
    omega
theorem g_mmax (C0 : e_Cx p s m args meth c D CA bs b L xs y) {x z : Int32} {i : Nat} (hl : (Jvm.Cond.methodLink (e_mO y) i Lib.Math.max.name).before args s = true) (hcode : (Jvm.Cond.code Lib.Math.max.name Lib.Math.max.code 2 (some .int)).before args s = true) (hstat : (Jvm.Cond.static Lib.Math.max.name).before args s = true) (hini : (Jvm.Cond.initialized "java/lang/Math").before args s = true) (hfr : 1 ≤ R.frames) (hlo : 40 ≤ R.locals) (hc : cells ≤ R.cells) (hs : slots ≤ R.slots) (hr : st.length ≤ 4) (hd : decode (e_mB y) pc = .ok (.invokestatic i, 3)) (k : e_G p l e R s m args below meth c Q D CA bs b y (pc + 3) lv (.int (if x < z then z else x) :: st) M cells slots) : e_G p l e R s m args below meth c Q D CA bs b y pc lv (.int z :: .int x :: st) M cells slots := by
  intro H locs ls hR hS hL
  have hcat := e_cat_le b bs st
  exact va_mmax C0.1 C0.2.1 (by rw [C0.2.2.1]; exact hL.1.symm) C0.2.2.2.2.2.1 hl hstat hini hcode hfr (by omega) hc hs hd (k H locs ls hR hS hL)
theorem g_mmin (C0 : e_Cx p s m args meth c D CA bs b L xs y) {x z : Int32} {i : Nat} (hl : (Jvm.Cond.methodLink (e_mO y) i Lib.Math.min.name).before args s = true) (hcode : (Jvm.Cond.code Lib.Math.min.name Lib.Math.min.code 2 (some .int)).before args s = true) (hstat : (Jvm.Cond.static Lib.Math.min.name).before args s = true) (hini : (Jvm.Cond.initialized "java/lang/Math").before args s = true) (hfr : 1 ≤ R.frames) (hlo : 40 ≤ R.locals) (hc : cells ≤ R.cells) (hs : slots ≤ R.slots) (hr : st.length ≤ 4) (hd : decode (e_mB y) pc = .ok (.invokestatic i, 3)) (k : e_G p l e R s m args below meth c Q D CA bs b y (pc + 3) lv (.int (if z < x then z else x) :: st) M cells slots) : e_G p l e R s m args below meth c Q D CA bs b y pc lv (.int z :: .int x :: st) M cells slots := by
  intro H locs ls hR hS hL
  have hcat := e_cat_le b bs st
  exact va_mmin C0.1 C0.2.1 (by rw [C0.2.2.1]; exact hL.1.symm) C0.2.2.2.2.2.1 hl hstat hini hcode hfr (by omega) hc hs hd (k H locs ls hR hS hL)
theorem g_mabs (C0 : e_Cx p s m args meth c D CA bs b L xs y) {x : Int32} {i : Nat} (hl : (Jvm.Cond.methodLink (e_mO y) i Lib.Math.abs.name).before args s = true) (hcode : (Jvm.Cond.code Lib.Math.abs.name Lib.Math.abs.code 1 (some .int)).before args s = true) (hstat : (Jvm.Cond.static Lib.Math.abs.name).before args s = true) (hini : (Jvm.Cond.initialized "java/lang/Math").before args s = true) (hfr : 1 ≤ R.frames) (hlo : 40 ≤ R.locals) (hc : cells ≤ R.cells) (hs : slots ≤ R.slots) (hr : st.length ≤ 4) (hd : decode (e_mB y) pc = .ok (.invokestatic i, 3)) (k : e_G p l e R s m args below meth c Q D CA bs b y (pc + 3) lv (.int (if 0 ≤ x then x else 0 - x) :: st) M cells slots) : e_G p l e R s m args below meth c Q D CA bs b y pc lv (.int x :: st) M cells slots := by
  intro H locs ls hR hS hL
  have hcat := e_cat_le b bs st
  exact va_mabs C0.1 C0.2.1 (by rw [C0.2.2.1]; exact hL.1.symm) C0.2.2.2.2.2.1 hl hstat hini hcode hfr (by omega) hc hs hd (k H locs ls hR hS hL)
theorem g_fmod (C0 : e_Cx p s m args meth c D CA bs b L xs y) {x z : Int32} {i : Nat} (hz : ¬ z = 0) (hl : (Jvm.Cond.methodLink (e_mO y) i Jvm.Free.MCB.FloorMod.yN).before args s = true) (hcode : (Jvm.Cond.code Jvm.Free.MCB.FloorMod.yN Jvm.Free.MCB.FloorMod.yB 3 (some .int)).before args s = true) (hstat : (Jvm.Cond.static Jvm.Free.MCB.FloorMod.yN).before args s = true) (hini : (Jvm.Cond.initialized "java/lang/Math").before args s = true) (hfr : 1 ≤ R.frames) (hlo : 40 ≤ R.locals) (hc : cells ≤ R.cells) (hs : slots ≤ R.slots) (hr : st.length ≤ 4) (hd : decode (e_mB y) pc = .ok (.invokestatic i, 3)) (k : e_G p l e R s m args below meth c Q D CA bs b y (pc + 3) lv (.int (Jvm.Free.MCB.fmod x z) :: st) M cells slots) : e_G p l e R s m args below meth c Q D CA bs b y pc lv (.int z :: .int x :: st) M cells slots := by
  intro H locs ls hR hS hL T hT X
  have hcat := e_cat_le b bs st
  obtain ⟨v, vm₁, ⟨U', l2, c2, s2⟩, hW₁, X', ⟨hpure, hval⟩, hstep⟩ := callS X C0.1 (own := e_mO y) (bytes := Jvm.Free.MCB.FloorMod.yB) (maxL := 3) (ret := some .int) C0.2.2.2.2.2.1 hl hstat hini hcode ⟨by decide, by decide⟩ (Jvm.Free.MCB.FloorMod.pays (W := 8) hfr (by omega) hcode hini) (g := F0 m pc ls (.int z :: .int x :: st.map (e_mv b bs))) rfl (by rw [C0.2.2.1]; exact hL.1) (argsL := [.int x, .int z]) (rest := st.map (e_mv b bs)) (fun sig h => by
      have e : parseMethodDescriptor Jvm.Free.MCB.FloorMod.yN.desc = some { parameters := [.int, .int], returnType := some .int } := by decide +kernel
      rw [e] at h
      cases h
      rfl) rfl (by show 2 * 0 + _ ≤ 8; omega) (by rw [C0.2.1]; exact hd) (fun vm₁ _ => ⟨hc, hs, ⟨(x, z), rfl, hz⟩⟩)
  have hv := hval (x, z) ⟨rfl, hz⟩
  subst hv
  obtain ⟨p1, p2, p3, p4⟩ := hpure
  dsimp only at p1 p2 p3 p4 X' hstep
  subst p2
  subst p3
  subst p4
  obtain ⟨t, a1, b1⟩ := k H _ ls hR hS hL U' (p1.trans hT) X'
  exact ⟨t, hstep t a1, b1⟩
theorem e_after {a : Array Value} {res : e_Rs} {mc ms : Nat} {restM : List Value} {ls : Array Slot} {st0 : List Value} {H : Heap} {locs : List Loc} (hr : va_Run p l e R s m args below meth c H locs cells slots mc ms (F0 m pc ls st0) restM (e_Qc D CA bs b res a) (fun q => bs + 1 ≤ q)) (hS : va_S (fun q => bs + 1 ≤ q) s.heap H locs)
    (kk : ∀ (H1 : Heap) (locs1 : List Loc), e_Rel D CA bs res.2 H1 → va_S (fun q => bs + 1 ≤ q) s.heap H1 locs1 → W p l e R s m args below meth c H1 locs1 (cells + mc) (slots + ms) Q (F0 m (pc + 3) ls ((res.1.map (e_mv b bs)).toList ++ restM))) : W p l e R s m args below meth c H locs cells slots Q (F0 m pc ls st0) := by
  intro T hT X
  obtain ⟨v, st₀, t, T', L', h0, X', hL, e1, e2, ⟨hv, hrel, hz, hk⟩, st⟩ := hr T hT X
  cases hv
  rw [h0] at hz hk
  obtain ⟨t2, a1, b1⟩ := kk T'.heap (locs ++ L') (by rw [e1]; exact hrel)
    ⟨Nat.le_trans hS.1 (by rw [e1]; exact hz), fun q h1 h2 => by rw [e1, hk q (Nat.lt_of_lt_of_le h1 hS.1) h2]; exact hS.2.1 q h1 h2, fun q hq => by
      rcases List.mem_append.mp hq with h | h
      · exact hS.2.2 q h
      · exact hL q h⟩ T' rfl X'
  exact ⟨t2, st t2 a1, b1⟩
theorem e_pre (C0 : e_Cx p s m args meth c D CA bs b L xs y) {As : List Value} {H : Heap} {locs : List Loc} (hR : e_Rel D CA bs M H) (hS : va_S (fun q => bs + 1 ≤ q) s.heap H locs) {U : State} (hU : U.heap = H) (hW : s.WarmedH U.vm) : e_Pc D CA bs b L xs As M (As.map (e_mv b bs)).toArray U := by
  have hbs := C0.2.2.2.2.2.2.2.2.2.2.2.1
  have hbl := C0.2.2.2.2.2.2.2.2.2.2.1
  refine ⟨rfl, by rw [hU]; exact hR, e_Wd.warm hW C0.2.2.2.2.2.2.2.1, va_K.moved hW.alike C0.2.2.2.2.2.2.2.2.1, ?_, by rw [hU]; exact Nat.lt_of_lt_of_le hbl hS.1, hbs⟩
  rw [hU]
  exact va_X.moved hW.alike (va_X.kept C0.2.2.2.2.2.2.2.2.2.1 (hS.2.1 b hbl (by omega)))
theorem e_callB {z i n mc ms : Nat} (hst : e_Cs y z) (hcode : (Jvm.Cond.code (e_mN z) (e_mB z) (e_mL z) (e_mR z)).before args s = true) (hini : (Jvm.Cond.initialized (e_mN z).cls).before args s = true) (hl : (Jvm.Cond.methodLink (e_mO y) i (e_mN z)).before args s = true) (hp : (parseMethodDescriptor (e_mN z).desc).map (fun d => d.parameters.length) = some n) (hf : e_mF y ≤ R.frames) (hlo : e_mQ y ≤ R.locals) : CallB R s args (e_mO y) i (e_mN z) (e_mB z) (e_mL z) (e_mR z) (e_ws z) (e_rm z mc ms) mc ms n :=
  callB_of (Ts := e_ws z) n (fun w hw => by rw [List.mem_singleton.mp hw]; exact hcode) e_go rfl rfl rfl hini hl ⟨hst.2.2.1, hst.2.2.2, hp⟩ ⟨Nat.le_trans hst.1 hf, Nat.le_trans hst.2.1 hlo⟩
theorem e_callN {z i n mc ms : Nat} {host : String} (hst : e_Cs y z) (hcode : (Jvm.Cond.code (e_mN z) (e_mB z) (e_mL z) (e_mR z)).before args s = true) (hini : (Jvm.Cond.initialized (e_mN z).cls).before args s = true) (hl : va_Nw (.methodLinkNest (e_mO y) i (e_mN z) host) s) (hp : (parseMethodDescriptor (e_mN z).desc).map (fun d => d.parameters.length) = some n) (hf : e_mF y ≤ R.frames) (hlo : e_mQ y ≤ R.locals) : va_CN R s args (e_mO y) i (e_mN z) host (e_mB z) (e_mL z) (e_mR z) (e_ws z) (e_rm z mc ms) mc ms n :=
  va_cnB (Ts := e_ws z) n (fun w hw => by rw [List.mem_singleton.mp hw]; exact hcode) e_go rfl rfl rfl hl hini ⟨hst.2.2.1, hst.2.2.2, hp⟩ ⟨Nat.le_trans hst.1 hf, Nat.le_trans hst.2.1 hlo⟩
theorem g_callV (C0 : e_Cx p s m args meth c D CA bs b L xs y) {z i q : Nat} {As rest : List Value} {res : e_Rs} (hM : e_Met l D CA bs b L xs z (.ref q :: As) M res) (hst : e_Cs y z) (hcode : (Jvm.Cond.code (e_mN z) (e_mB z) (e_mL z) (e_mR z)).before args s = true) (hini : (Jvm.Cond.initialized (e_mN z).cls).before args s = true) (hp : (parseMethodDescriptor (e_mN z).desc).map (fun d => d.parameters.length) = some As.length) {rw : vw_C} (hq1 : 1 ≤ q) (hq2 : q ≤ M.1) (hq3 : (e_kd q).1 = e_mC z) (hcz : e_mC z < 10) (hcv : vwCl[e_mC z]? = some rw) (hcn : rw.1 = (e_mN z).cls) (hl : (Jvm.Cond.methodLink (e_mO y) i (e_mN z)).before args s = true) (hx : (Jvm.Cond.instanceMethod (e_mN z)).before args s = true) (hse : (Jvm.Cond.selects (e_mN z).cls (e_mN z) (e_mN z)).before args s = true) (hf : e_mF y ≤ R.frames) (hlo : e_mQ y ≤ R.locals) (hmc : cells + (res.2.1 - M.1) ≤ R.cells) (hms : slots + (e_SZ res.2.1 - e_SZ M.1) ≤ R.slots) (hrest : rest.length ≤ 4) (hd : decode (e_mB y) pc = .ok (.invokevirtual i, 3)) (k : e_G p l e R s m args below meth c Q D CA bs b y (pc + 3) lv (res.1.toList ++ rest) res.2 (cells + (res.2.1 - M.1)) (slots + (e_SZ res.2.1 - e_SZ M.1))) : e_G p l e R s m args below meth c Q D CA bs b y pc lv (As.reverse ++ .ref q :: rest) M cells slots := by
  intro H locs ls hR hS hL
  have hcat := e_cat_le b bs rest
  have hW : 2 * (F0 m pc ls ((As.reverse ++ .ref q :: rest).map (e_mv b bs))).monitorRoom + ((rest.map (e_mv b bs)).map fun v => v.category).sum ≤ 8 := by show 2 * 0 + _ ≤ 8; omega
  have hrec := va_recv C0.2.2.2.2.2.2.2.2.1 (hR.at hq1 hq2) (ci := e_mC z) (q0 := 0) hcv (by rw [e_ent_o hq3 hcz]; rfl)
  rw [hcn] at hrec
  refine e_after (va_runV (C := (e_mN z).cls) (b := bs + q) (R := R) (n := As.length) (locs := locs) (cells := cells) (slots := slots) (l := l) (e := e) (below := below) (meth := meth) (As := As.map (e_mv b bs)) (rest := rest.map (e_mv b bs)) (g := F0 m pc ls _) ⟨C0.1, C0.2.1, C0.2.2.1, C0.2.2.2.2.2.1, C0.2.2.2.2.2.2.2.2.2.2.2.2.2⟩ hM ⟨e_callB hst hcode hini hl hp hf hlo, hx, hse⟩ ⟨e_blind, hrec, fun U hU hW => by have := e_pre C0 (As := .ref q :: As) hR hS hU hW; simpa [e_mv, show ¬ q = 0 by omega] using this⟩ rfl (by simp) (hL.1) (by simp [e_mv, show ¬ q = 0 by omega]) hW hd ⟨hmc, hms⟩) hS fun H1 locs1 hR1 hS1 => ?_
  have key := k H1 locs1 ls hR1 hS1 hL
  rw [List.map_append] at key
  have e1 : (res.1.toList).map (e_mv b bs) = (res.1.map (e_mv b bs)).toList := by cases res.1 <;> rfl
  rw [e1] at key
  exact key
theorem g_callS (C0 : e_Cx p s m args meth c D CA bs b L xs y) {z i : Nat} {As rest : List Value} {res : e_Rs} (hM : e_Met l D CA bs b L xs z As M res) (hst : e_Cs y z) (hcode : (Jvm.Cond.code (e_mN z) (e_mB z) (e_mL z) (e_mR z)).before args s = true) (hini : (Jvm.Cond.initialized (e_mN z).cls).before args s = true) (hp : (parseMethodDescriptor (e_mN z).desc).map (fun d => d.parameters.length) = some As.length) (hl : (Jvm.Cond.methodLink (e_mO y) i (e_mN z)).before args s = true) (hx : (Jvm.Cond.static (e_mN z)).before args s = true) (hf : e_mF y ≤ R.frames) (hlo : e_mQ y ≤ R.locals) (hmc : cells + (res.2.1 - M.1) ≤ R.cells) (hms : slots + (e_SZ res.2.1 - e_SZ M.1) ≤ R.slots) (hrest : rest.length ≤ 4) (hd : decode (e_mB y) pc = .ok (.invokestatic i, 3)) (k : e_G p l e R s m args below meth c Q D CA bs b y (pc + 3) lv (res.1.toList ++ rest) res.2 (cells + (res.2.1 - M.1)) (slots + (e_SZ res.2.1 - e_SZ M.1))) : e_G p l e R s m args below meth c Q D CA bs b y pc lv (As.reverse ++ rest) M cells slots := by
  intro H locs ls hR hS hL
  have hcat := e_cat_le b bs rest
  have hW : 2 * (F0 m pc ls ((As.reverse ++ rest).map (e_mv b bs))).monitorRoom + ((rest.map (e_mv b bs)).map fun v => v.category).sum ≤ 8 := by show 2 * 0 + _ ≤ 8; omega
  refine e_after (va_runS (R := R) (n := As.length) (locs := locs) (cells := cells) (slots := slots) (l := l) (e := e) (below := below) (meth := meth) (As := As.map (e_mv b bs)) (rest := rest.map (e_mv b bs)) (g := F0 m pc ls _) ⟨C0.1, C0.2.1, C0.2.2.1, C0.2.2.2.2.2.1, C0.2.2.2.2.2.2.2.2.2.2.2.2.2⟩ hM ⟨e_callB hst hcode hini hl hp hf hlo, hx⟩ ⟨e_blind, fun U hU hW => e_pre C0 hR hS hU hW⟩ rfl (by simp) (hL.1) (by simp) hW hd ⟨hmc, hms⟩) hS fun H1 locs1 hR1 hS1 => ?_
  have key := k H1 locs1 ls hR1 hS1 hL
  rw [List.map_append] at key
  have e1 : (res.1.toList).map (e_mv b bs) = (res.1.map (e_mv b bs)).toList := by cases res.1 <;> rfl
  rw [e1] at key
  exact key
theorem g_callSN (C0 : e_Cx p s m args meth c D CA bs b L xs y) {z i : Nat} {As rest : List Value} {res : e_Rs} (hM : e_Met l D CA bs b L xs z As M res) (hst : e_Cs y z) (hcode : (Jvm.Cond.code (e_mN z) (e_mB z) (e_mL z) (e_mR z)).before args s = true) (hini : (Jvm.Cond.initialized (e_mN z).cls).before args s = true) (hp : (parseMethodDescriptor (e_mN z).desc).map (fun d => d.parameters.length) = some As.length) {host : String} (hl : va_Nw (.methodLinkNest (e_mO y) i (e_mN z) host) s) (hx : (Jvm.Cond.static (e_mN z)).before args s = true) (hf : e_mF y ≤ R.frames) (hlo : e_mQ y ≤ R.locals) (hmc : cells + (res.2.1 - M.1) ≤ R.cells) (hms : slots + (e_SZ res.2.1 - e_SZ M.1) ≤ R.slots) (hrest : rest.length ≤ 4) (hd : decode (e_mB y) pc = .ok (.invokestatic i, 3)) (k : e_G p l e R s m args below meth c Q D CA bs b y (pc + 3) lv (res.1.toList ++ rest) res.2 (cells + (res.2.1 - M.1)) (slots + (e_SZ res.2.1 - e_SZ M.1))) : e_G p l e R s m args below meth c Q D CA bs b y pc lv (As.reverse ++ rest) M cells slots := by
  intro H locs ls hR hS hL
  have hcat := e_cat_le b bs rest
  have hW : 2 * (F0 m pc ls ((As.reverse ++ rest).map (e_mv b bs))).monitorRoom + ((rest.map (e_mv b bs)).map fun v => v.category).sum ≤ 8 := by show 2 * 0 + _ ≤ 8; omega
  refine e_after (va_runSN (R := R) (n := As.length) (locs := locs) (cells := cells) (slots := slots) (l := l) (e := e) (below := below) (meth := meth) (As := As.map (e_mv b bs)) (rest := rest.map (e_mv b bs)) (g := F0 m pc ls _) ⟨C0.1, C0.2.1, C0.2.2.1, C0.2.2.2.2.2.1, C0.2.2.2.2.2.2.2.2.2.2.2.2.2⟩ hM ⟨e_callN hst hcode hini hl hp hf hlo, hx, trivial⟩ ⟨e_blind, fun U hU hW => e_pre C0 hR hS hU hW⟩ rfl (by simp) (hL.1) (by simp) hW hd ⟨hmc, hms⟩) hS fun H1 locs1 hR1 hS1 => ?_
  have key := k H1 locs1 ls hR1 hS1 hL
  rw [List.map_append] at key
  have e1 : (res.1.toList).map (e_mv b bs) = (res.1.map (e_mv b bs)).toList := by cases res.1 <;> rfl
  rw [e1] at key
  exact key
theorem g_callI (C0 : e_Cx p s m args meth c D CA bs b L xs y) {z i q : Nat} {As rest : List Value} {res : e_Rs} (hM : e_Met l D CA bs b L xs z (.ref q :: As) M res) (hst : e_Cs y z) (hcode : (Jvm.Cond.code (e_mN z) (e_mB z) (e_mL z) (e_mR z)).before args s = true) (hini : (Jvm.Cond.initialized (e_mN z).cls).before args s = true) (hp : (parseMethodDescriptor (e_mN z).desc).map (fun d => d.parameters.length) = some As.length) (hq1 : 1 ≤ q) (hrn : e_mR z = none) (hnm : (e_mN z).name = "<init>") (hl : (Jvm.Cond.methodLink (e_mO y) i (e_mN z)).before args s = true) (hx : (Jvm.Cond.instanceMethod (e_mN z)).before args s = true) (hf : e_mF y ≤ R.frames) (hlo : e_mQ y ≤ R.locals) (hmc : cells + (res.2.1 - M.1) ≤ R.cells) (hms : slots + (e_SZ res.2.1 - e_SZ M.1) ≤ R.slots) (hrest : rest.length ≤ 4) (hd : decode (e_mB y) pc = .ok (.invokespecial i, 3)) (k : e_G p l e R s m args below meth c Q D CA bs b y (pc + 3) lv (res.1.toList ++ rest) res.2 (cells + (res.2.1 - M.1)) (slots + (e_SZ res.2.1 - e_SZ M.1))) : e_G p l e R s m args below meth c Q D CA bs b y pc lv (As.reverse ++ .ref q :: rest) M cells slots := by
  intro H locs ls hR hS hL
  have hcat := e_cat_le b bs rest
  have hW : 2 * (F0 m pc ls ((As.reverse ++ .ref q :: rest).map (e_mv b bs))).monitorRoom + ((rest.map (e_mv b bs)).map fun v => v.category).sum ≤ 8 := by show 2 * 0 + _ ≤ 8; omega
  rw [hrn] at hcode
  refine e_after (va_runI (b := bs + q) (R := R) (n := As.length) (locs := locs) (cells := cells) (slots := slots) (l := l) (e := e) (below := below) (meth := meth) (As := As.map (e_mv b bs)) (rest := rest.map (e_mv b bs)) (g := F0 m pc ls _) ⟨C0.1, C0.2.1, C0.2.2.1, C0.2.2.2.2.2.1, C0.2.2.2.2.2.2.2.2.2.2.2.2.2⟩ hM ⟨hrn ▸ e_callB hst (hrn.symm ▸ hcode) hini hl hp hf hlo, hnm, hx⟩ ⟨e_blind, fun U hU hW => by have := e_pre C0 (As := .ref q :: As) hR hS hU hW; simpa [e_mv, show ¬ q = 0 by omega] using this⟩ rfl (by simp) (hL.1) (by simp [e_mv, show ¬ q = 0 by omega]) hW hd ⟨hmc, hms⟩) hS fun H1 locs1 hR1 hS1 => ?_
  have key := k H1 locs1 ls hR1 hS1 hL
  rw [List.map_append] at key
  have e1 : (res.1.toList).map (e_mv b bs) = (res.1.map (e_mv b bs)).toList := by cases res.1 <;> rfl
  rw [e1] at key
  exact key
theorem g_callIN (C0 : e_Cx p s m args meth c D CA bs b L xs y) {z i q : Nat} {As rest : List Value} {res : e_Rs} (hM : e_Met l D CA bs b L xs z (.ref q :: As) M res) (hst : e_Cs y z) (hcode : (Jvm.Cond.code (e_mN z) (e_mB z) (e_mL z) (e_mR z)).before args s = true) (hini : (Jvm.Cond.initialized (e_mN z).cls).before args s = true) (hp : (parseMethodDescriptor (e_mN z).desc).map (fun d => d.parameters.length) = some As.length) {host : String} (hq1 : 1 ≤ q) (hrn : e_mR z = none) (hnm : (e_mN z).name = "<init>") (hl : va_Nw (.methodLinkNest (e_mO y) i (e_mN z) host) s) (hx : (Jvm.Cond.instanceMethod (e_mN z)).before args s = true) (hf : e_mF y ≤ R.frames) (hlo : e_mQ y ≤ R.locals) (hmc : cells + (res.2.1 - M.1) ≤ R.cells) (hms : slots + (e_SZ res.2.1 - e_SZ M.1) ≤ R.slots) (hrest : rest.length ≤ 4) (hd : decode (e_mB y) pc = .ok (.invokespecial i, 3)) (k : e_G p l e R s m args below meth c Q D CA bs b y (pc + 3) lv (res.1.toList ++ rest) res.2 (cells + (res.2.1 - M.1)) (slots + (e_SZ res.2.1 - e_SZ M.1))) : e_G p l e R s m args below meth c Q D CA bs b y pc lv (As.reverse ++ .ref q :: rest) M cells slots := by
  intro H locs ls hR hS hL
  have hcat := e_cat_le b bs rest
  have hW : 2 * (F0 m pc ls ((As.reverse ++ .ref q :: rest).map (e_mv b bs))).monitorRoom + ((rest.map (e_mv b bs)).map fun v => v.category).sum ≤ 8 := by show 2 * 0 + _ ≤ 8; omega
  rw [hrn] at hcode
  refine e_after (va_runIN (b := bs + q) (R := R) (n := As.length) (locs := locs) (cells := cells) (slots := slots) (l := l) (e := e) (below := below) (meth := meth) (As := As.map (e_mv b bs)) (rest := rest.map (e_mv b bs)) (g := F0 m pc ls _) ⟨C0.1, C0.2.1, C0.2.2.1, C0.2.2.2.2.2.1, C0.2.2.2.2.2.2.2.2.2.2.2.2.2⟩ hM ⟨hrn ▸ e_callN hst (hrn.symm ▸ hcode) hini hl hp hf hlo, hnm, hx⟩ ⟨e_blind, fun U hU hW => by have := e_pre C0 (As := .ref q :: As) hR hS hU hW; simpa [e_mv, show ¬ q = 0 by omega] using this⟩ rfl (by simp) (hL.1) (by simp [e_mv, show ¬ q = 0 by omega]) hW hd ⟨hmc, hms⟩) hS fun H1 locs1 hR1 hS1 => ?_
  have key := k H1 locs1 ls hR1 hS1 hL
  rw [List.map_append] at key
  have e1 : (res.1.toList).map (e_mv b bs) = (res.1.map (e_mv b bs)).toList := by cases res.1 <;> rfl
  rw [e1] at key
  exact key
end E_ROWS
end
section
/-! what is checked of an op, once, by the kernel; and the plain machine's run is the real machine's -/
def e_len : Instr → Nat
  | .bipush _ => 2
  | .iload _ => 2
  | .aload _ => 2
  | .istore _ => 2
  | .astore _ => 2
  | .ldc _ => 2
  | .newarray _ => 2
  | .sipush _ => 3
  | .iinc _ _ => 3
  | .goto _ => 3
  | .ifCond _ _ => 3
  | .if_icmp _ _ => 3
  | .getfield _ => 3
  | .putfield _ => 3
  | .invokevirtual _ => 3
  | .invokestatic _ => 3
  | .invokespecial _ => 3
  | .new _ => 3
  | .anewarray _ => 3
  | .ldc2_w _ => 3
  | .multianewarray _ _ => 4
  | .tableswitch _ _ _ _ => 123
  | .nop => 0
  | _ => 1
def e_w (ws : List Nat) (j : Nat) (w : Jvm.Cond) : Bool := decide (lw_tbl[ws.getD j 0]? = some w) && (goodWord w || e_isN w || e_isO w)
theorem e_w_nw {ws : List Nat} {j : Nat} {w : Jvm.Cond} {s : State} (h : e_w ws j w = true) (hW : e_Wd s) : va_Nw w s := by
  simp only [e_w, Bool.and_eq_true, decide_eq_true_eq] at h
  exact hW w (List.mem_of_getElem? h.1) h.2
theorem e_w_b {ws : List Nat} {j : Nat} {w : Jvm.Cond} {s : State} (h : e_w ws j w = true) (hg : goodWord w = true) (hW : e_Wd s) (args : Array Value) : w.before args s = true := e_w_any hg (e_w_nw h hW) args
def e_hpc (is : List e_Op) : Option Nat := match is with
  | [] => none
  | op :: _ => some op.1
def e_npc (op : e_Op) (j : Option Nat) : Nat := match j with
  | none => op.1 + e_len op.2.1
  | some t => (e_hpc (e_lbl t)).getD 0
def e_jmp (y a pc : Nat) (off : Int) : Bool := match e_hpc (e_lbl a) with
  | some t => decide ((pc : Int) + off = (t : Int)) && decide (e_lm a = y)
  | none => false
theorem e_jmp_ok {y a pc : Nat} {off : Int} (h : e_jmp y a pc off = true) : ∃ t, e_hpc (e_lbl a) = some t ∧ (pc : Int) + off = (t : Int) ∧ e_lm a = y := by
  unfold e_jmp at h
  split at h
  · rename_i t ht
    simp only [Bool.and_eq_true, decide_eq_true_eq] at h
    exact ⟨t, ht, h.1, h.2⟩
  · cases h
def c_dec (y pc : Nat) (ins : Instr) : Bool := decide (decode (e_mB y) pc = .ok (ins, e_len ins))
def e_refty : FieldType → Bool
  | .object _ => true
  | .array _ => true
  | _ => false
theorem e_refty_ok {t : FieldType} (h : e_refty t = true) : (∀ x : Nat, narrow t (.ref x) = .ref x) ∧ ∀ x : Nat, fits t (.ref x) = true := by
  cases t <;> simp [e_refty] at h <;> exact ⟨fun _ => rfl, fun _ => rfl⟩
def c_call (y i a z : Nat) : Bool := decide (e_lm a = z ∧ e_hpc (e_lbl a) = some 0 ∧ e_mF z + 1 ≤ e_mF y ∧ 8 + (e_mL z + 11) + e_mQ z ≤ e_mQ y ∧ 1 ≤ z ∧ z < 147) && (decide ((e_mo y, i, z, 0) ∈ e_MLs) || decide ((e_mo y, i, z, 1) ∈ e_MLs))
theorem e_zf {z : Nat} (h1 : 1 ≤ z) (h2 : z < 147) : (e_mN z).cls = e_mO z ∧ ((e_mN z).cls ≠ "java/lang/invoke/MethodHandle" ∧ (e_mN z).cls ≠ "java/lang/invoke/VarHandle") ∧ plainName (e_mN z).cls = true ∧ (parseMethodDescriptor (e_mN z).desc).map (fun d => d.parameters.length) = some (e_mP z) ∧ (e_mK z = 1 → (e_mN z).name = "<init>" ∧ e_mR z = none) ∧ (e_mK z = 2 → e_mC z < 10 ∧ vwCl[e_mC z]?.map (·.1) = some (e_mN z).cls) := of_decide_eq_true (e_zcs_ok z h1 h2)
def c_op (y : Nat) (op : e_Op) (ws : List Nat) : Bool := match op with
  | (pc, ins, v, a, b, c) => match ins with
    | .nop => e_jmp y a pc 0
    | .iconst n => c_dec y pc (.iconst n) && decide (Int32.ofInt n = v)
    | .bipush n => c_dec y pc (.bipush n) && decide ((Int8.ofInt n).toInt32 = v)
    | .sipush n => c_dec y pc (.sipush n) && decide ((Int16.ofInt n).toInt32 = v)
    | .ldc i => c_dec y pc (.ldc i) && e_w ws 0 (.constant (e_mO y) i v)
    | .ldc2_w i => c_dec y pc (.ldc2_w i) && e_w ws 0 (.constantLong (e_mO y) i v.toInt64)
    | .iload_n k => c_dec y pc (.iload_n k) && decide ((k : Nat) = a ∧ a < e_mL y)
    | .iload k => c_dec y pc (.iload k) && decide (k = a ∧ a < e_mL y)
    | .lload_n k => c_dec y pc (.lload_n k) && decide ((k : Nat) = a ∧ a < e_mL y)
    | .aload_n k => c_dec y pc (.aload_n k) && decide ((k : Nat) = a ∧ a < e_mL y)
    | .aload k => c_dec y pc (.aload k) && decide (k = a ∧ a < e_mL y)
    | .istore_n k => c_dec y pc (.istore_n k) && decide ((k : Nat) = a ∧ a < e_mL y)
    | .istore k => c_dec y pc (.istore k) && decide (k = a ∧ a < e_mL y)
    | .lstore_n k => c_dec y pc (.lstore_n k) && decide ((k : Nat) = a ∧ a + 1 < e_mL y)
    | .astore_n k => c_dec y pc (.astore_n k) && decide ((k : Nat) = a ∧ a < e_mL y)
    | .astore k => c_dec y pc (.astore k) && decide (k = a ∧ a < e_mL y)
    | .iinc k n => c_dec y pc (.iinc k n) && decide (k = a ∧ a < e_mL y ∧ Int32.ofInt n = v)
    | .iadd => c_dec y pc .iadd
    | .isub => c_dec y pc .isub
    | .imul => c_dec y pc .imul
    | .iand => c_dec y pc .iand
    | .ixor => c_dec y pc .ixor
    | .idiv => c_dec y pc .idiv
    | .irem => c_dec y pc .irem
    | .ineg => c_dec y pc .ineg
    | .i2l => c_dec y pc .i2l
    | .i2b => c_dec y pc .i2b
    | .ladd => c_dec y pc .ladd
    | .lmul => c_dec y pc .lmul
    | .lcmp => c_dec y pc .lcmp
    | .dup => c_dec y pc .dup
    | .dup2 => c_dec y pc .dup2
    | .pop => c_dec y pc .pop
    | .goto off => c_dec y pc (.goto off) && e_jmp y a pc off
    | .ifCond cd off => c_dec y pc (.ifCond cd off) && e_jmp y a pc off
    | .if_icmp cd off => c_dec y pc (.if_icmp cd off) && e_jmp y a pc off
    | .tableswitch d lo hi offs => c_dec y pc (.tableswitch d lo hi offs) && (e_jmp y b pc d && (decide (hi - lo + 1 = offs.size) && (List.range offs.size).all fun i => e_jmp y (a + i) pc (offs.getD i 0)))
    | .getfield i => c_dec y pc (.getfield i) && (decide ((e_mo y, i, a, b) ∈ e_FLs) && (e_isR a b == decide (c = 2)))
    | .putfield i => c_dec y pc (.putfield i) && (decide ((e_mo y, i, a, b) ∈ e_FLs) && ((e_isR a b == decide (c = 2)) && (match vwCl[a]? with
      | some (C, T, _) => (if c = 2 then decide ((T b).2.2.2 = true ∧ (e_mN y).name = "<init>" ∧ C = e_mO y) && e_refty (e_ty a b) else decide ((T b).2.2.2 = false ∧ e_ty a b = if c = 1 then .boolean else .int))
      | none => false)))
    | .iaload => c_dec y pc .iaload
    | .baload => c_dec y pc .baload
    | .aaload => c_dec y pc .aaload
    | .iastore => c_dec y pc .iastore
    | .bastore => c_dec y pc .bastore
    | .aastore => c_dec y pc .aastore
    | .arraylength => c_dec y pc .arraylength
    | .new i => c_dec y pc (.new i) && (match vwCl[a]? with
      | some (C, _, N) => decide (b = N) && (e_w ws 0 (.classLink (e_mO y) i C) && (e_w ws 1 (.instantiable C N) && e_w ws 2 (.initialized C)))
      | none => false)
    | .newarray t => match t with
      | .int => c_dec y pc (.newarray .int) && (decide (a = 10) && e_w ws 0 (.arrayClass .int))
      | .byte => c_dec y pc (.newarray .byte) && (decide (a = 11) && e_w ws 0 (.arrayClass .byte))
      | _ => false
    | .anewarray i => c_dec y pc (.anewarray i) && ((decide (a = 12) && (e_w ws 0 (.classLink (e_mO y) i "FeederControl$Feeder") && e_w ws 1 (.arrayOver (.object "FeederControl$Feeder")))) || (decide (a = 13) && (e_w ws 0 (.classLink (e_mO y) i "FeederControl$Node") && e_w ws 1 (.arrayOver (.object "FeederControl$Node")))))
    | .multianewarray i d => c_dec y pc (.multianewarray i d) && (decide (d = 2) && (e_w ws 0 (.classLink (e_mO y) i ("[" ++ (FieldType.array .int).toString)) && (e_w ws 1 (.arrayOver (.array .int)) && e_w ws 2 (.arrayClass .int))))
    | .invokespecial i => c_dec y pc (.invokespecial i) && (if c = 999 then decide (1 ≤ e_mF y ∧ 12 ≤ e_mQ y) && (e_w ws 0 (.methodLink (e_mO y) i Lib.objectInit) && (e_w ws 1 (.instanceMethod Lib.objectInit) && e_w ws 2 (.code Lib.objectInit ⟨#[0xb1]⟩ 1 none)))
        else c_call y i a c && decide (e_mK c = 1 ∧ b = e_mP c + 1))
    | .invokestatic i => c_dec y pc (.invokestatic i) && (if c = 998 then decide (1 ≤ e_mF y ∧ nativeFrameWords "java/lang/System" "arraycopy" 5 + 11 ≤ e_mQ y) && (e_w ws 0 (.methodLink (e_mO y) i arraycopyName) && (e_w ws 1 (.native arraycopyName) && (e_w ws 2 (.static arraycopyName) && e_w ws 3 (.initialized "java/lang/System"))))
        else if c = 991 then decide (1 ≤ e_mF y ∧ 40 ≤ e_mQ y) && (e_w ws 0 (.methodLink (e_mO y) i Lib.Math.max.name) && (e_w ws 1 (.code Lib.Math.max.name Lib.Math.max.code 2 (some .int)) && (e_w ws 2 (.static Lib.Math.max.name) && e_w ws 3 (.initialized "java/lang/Math"))))
        else if c = 992 then decide (1 ≤ e_mF y ∧ 40 ≤ e_mQ y) && (e_w ws 0 (.methodLink (e_mO y) i Lib.Math.min.name) && (e_w ws 1 (.code Lib.Math.min.name Lib.Math.min.code 2 (some .int)) && (e_w ws 2 (.static Lib.Math.min.name) && e_w ws 3 (.initialized "java/lang/Math"))))
        else if c = 993 then decide (1 ≤ e_mF y ∧ 40 ≤ e_mQ y) && (e_w ws 0 (.methodLink (e_mO y) i Lib.Math.abs.name) && (e_w ws 1 (.code Lib.Math.abs.name Lib.Math.abs.code 1 (some .int)) && (e_w ws 2 (.static Lib.Math.abs.name) && e_w ws 3 (.initialized "java/lang/Math"))))
        else if c = 994 then decide (1 ≤ e_mF y ∧ 40 ≤ e_mQ y) && (e_w ws 0 (.methodLink (e_mO y) i Jvm.Free.MCB.FloorMod.yN) && (e_w ws 1 (.code Jvm.Free.MCB.FloorMod.yN Jvm.Free.MCB.FloorMod.yB 3 (some .int)) && (e_w ws 2 (.static Jvm.Free.MCB.FloorMod.yN) && e_w ws 3 (.initialized "java/lang/Math"))))
        else c_call y i a c && decide (e_mK c = 0 ∧ b = e_mP c))
    | .invokevirtual i => c_dec y pc (.invokevirtual i) && (c_call y i a c && decide ((e_mo y, i, c, 0) ∈ e_MLs ∧ e_mK c = 2 ∧ b = e_mP c + 1))
    | .ireturn => c_dec y pc .ireturn && (if a = 0 then decide (e_mR y = some .int) else decide (a = 1 ∧ e_mR y = some .boolean))
    | .lreturn => c_dec y pc .lreturn && decide (e_mR y = some .long)
    | .return_ => c_dec y pc .return_ && decide (e_mR y = none)
    | _ => false
/-- ops that nothing follows -/
def e_term : Instr → Bool
  | .nop => true
  | .goto _ => true
  | .tableswitch _ _ _ _ => true
  | .ireturn => true
  | .lreturn => true
  | .return_ => true
  | _ => false
def c_blk (y : Nat) : List e_Op → List (List Nat) → Bool
  | [], _ => false
  | [op], w => c_op y op (w.headD []) && e_term op.2.1
  | op :: op2 :: t, w => c_op y op (w.headD []) && (decide (op2.1 = op.1 + e_len op.2.1) && c_blk y (op2 :: t) w.tail)
section E_ROWS
variable {p : Program} {l : Launch} {e : Env} {R : Room} {s : State} {m : MethodId} {args : Array Value} {below : List Frame} {meth : Method} {c : Code} {Q : State → Prop} {D : va_G} {CA : Nat → ClassId} {bs b L y : Nat} {xs : Nat → Int32} {lv : e_Lv} {st : List Value} {M : e_Mem} {cells slots : Nat}
set_option maxHeartbeats 4000000 in
theorem e_sim1 (C0 : e_Cx p s m args meth c D CA bs b L xs y) {op : e_Op} {ws : List Nat} {j : Option Nat} {lv' : e_Lv} {st' : List Value} {M' : e_Mem} (hc : c_op y op ws = true) (h1 : e_one xs L op lv st M = some (j, lv', st', M')) (hfr : e_mF y ≤ R.frames) (hlo : e_mQ y ≤ R.locals) (hcell : cells + (M'.1 - M.1) ≤ R.cells) (hslot : slots + (e_SZ M'.1 - e_SZ M.1) ≤ R.slots)
    (k : ∀ cells' slots', cells' = cells + (M'.1 - M.1) → slots' = slots + (e_SZ M'.1 - e_SZ M.1) → e_G p l e R s m args below meth c Q D CA bs b y (e_npc op j) lv' st' M' cells' slots') : e_G p l e R s m args below meth c Q D CA bs b y op.1 lv st M cells slots := by
  obtain ⟨pc, ins, v, a, bb, cz⟩ := op
  cases ins
  case iconst n =>
    simp only [c_op, Bool.and_eq_true, decide_eq_true_eq] at hc
    obtain ⟨hd, hv⟩ := hc
    simp only [e_one] at h1
    simp only [Option.some.injEq, Prod.mk.injEq] at h1
    obtain ⟨rfl, rfl, rfl, rfl⟩ := h1
    exact g_iconst C0 hv (of_decide_eq_true hd) (k _ _ (by simp) (by simp))
  case bipush n =>
    simp only [c_op, Bool.and_eq_true, decide_eq_true_eq] at hc
    obtain ⟨hd, hv⟩ := hc
    simp only [e_one] at h1
    simp only [Option.some.injEq, Prod.mk.injEq] at h1
    obtain ⟨rfl, rfl, rfl, rfl⟩ := h1
    exact g_bipush C0 hv (of_decide_eq_true hd) (k _ _ (by simp) (by simp))
  case sipush n =>
    simp only [c_op, Bool.and_eq_true, decide_eq_true_eq] at hc
    obtain ⟨hd, hv⟩ := hc
    simp only [e_one] at h1
    simp only [Option.some.injEq, Prod.mk.injEq] at h1
    obtain ⟨rfl, rfl, rfl, rfl⟩ := h1
    exact g_sipush C0 hv (of_decide_eq_true hd) (k _ _ (by simp) (by simp))
  case ldc n =>
    simp only [c_op, Bool.and_eq_true, decide_eq_true_eq] at hc
    obtain ⟨hd, hv⟩ := hc
    simp only [e_one] at h1
    simp only [Option.some.injEq, Prod.mk.injEq] at h1
    obtain ⟨rfl, rfl, rfl, rfl⟩ := h1
    exact g_ldc C0 (e_w_b hv rfl C0.2.2.2.2.2.2.2.1 args) (of_decide_eq_true hd) (k _ _ (by simp) (by simp))
  case ldc2_w n =>
    simp only [c_op, Bool.and_eq_true, decide_eq_true_eq] at hc
    obtain ⟨hd, hv⟩ := hc
    simp only [e_one] at h1
    simp only [Option.some.injEq, Prod.mk.injEq] at h1
    obtain ⟨rfl, rfl, rfl, rfl⟩ := h1
    exact g_ldc2 C0 (e_w_b hv rfl C0.2.2.2.2.2.2.2.1 args) (of_decide_eq_true hd) (k _ _ (by simp) (by simp))
  case iload_n kx =>
    simp only [c_op, Bool.and_eq_true, decide_eq_true_eq] at hc
    obtain ⟨hd, ha, hb⟩ := hc
    simp only [e_one] at h1
    split at h1
    · rename_i x hx
      simp only [Option.some.injEq, Prod.mk.injEq] at h1
      obtain ⟨rfl, rfl, rfl, rfl⟩ := h1
      exact g_iload_n C0 ha hb hx (of_decide_eq_true hd) (k _ _ (by simp) (by simp))
    · cases h1
  case aload_n kx =>
    simp only [c_op, Bool.and_eq_true, decide_eq_true_eq] at hc
    obtain ⟨hd, ha, hb⟩ := hc
    simp only [e_one] at h1
    split at h1
    · rename_i x hx
      simp only [Option.some.injEq, Prod.mk.injEq] at h1
      obtain ⟨rfl, rfl, rfl, rfl⟩ := h1
      exact g_aload_n C0 ha hb hx (of_decide_eq_true hd) (k _ _ (by simp) (by simp))
    · cases h1
  case lload_n kx =>
    simp only [c_op, Bool.and_eq_true, decide_eq_true_eq] at hc
    obtain ⟨hd, ha, hb⟩ := hc
    simp only [e_one] at h1
    split at h1
    · rename_i x hx
      simp only [Option.some.injEq, Prod.mk.injEq] at h1
      obtain ⟨rfl, rfl, rfl, rfl⟩ := h1
      exact g_lload_n C0 ha hb hx (of_decide_eq_true hd) (k _ _ (by simp) (by simp))
    · cases h1
  case iload kx =>
    simp only [c_op, Bool.and_eq_true, decide_eq_true_eq] at hc
    obtain ⟨hd, rfl, hb⟩ := hc
    simp only [e_one] at h1
    split at h1
    · rename_i x hx
      simp only [Option.some.injEq, Prod.mk.injEq] at h1
      obtain ⟨rfl, rfl, rfl, rfl⟩ := h1
      exact g_iload C0 hb hx (of_decide_eq_true hd) (k _ _ (by simp) (by simp))
    · cases h1
  case aload kx =>
    simp only [c_op, Bool.and_eq_true, decide_eq_true_eq] at hc
    obtain ⟨hd, rfl, hb⟩ := hc
    simp only [e_one] at h1
    split at h1
    · rename_i x hx
      simp only [Option.some.injEq, Prod.mk.injEq] at h1
      obtain ⟨rfl, rfl, rfl, rfl⟩ := h1
      exact g_aload C0 hb hx (of_decide_eq_true hd) (k _ _ (by simp) (by simp))
    · cases h1
  case istore_n kx =>
    simp only [c_op, Bool.and_eq_true, decide_eq_true_eq] at hc
    obtain ⟨hd, ha, hb⟩ := hc
    simp only [e_one] at h1
    split at h1
    · rename_i x r
      split at h1
      · rename_i hk
        simp only [Option.some.injEq, Prod.mk.injEq] at h1
        obtain ⟨rfl, rfl, rfl, rfl⟩ := h1
        exact g_istore_n C0 ha hb hk (of_decide_eq_true hd) (k _ _ (by simp) (by simp))
      · cases h1
    · cases h1
  case astore_n kx =>
    simp only [c_op, Bool.and_eq_true, decide_eq_true_eq] at hc
    obtain ⟨hd, ha, hb⟩ := hc
    simp only [e_one] at h1
    split at h1
    · rename_i x r
      split at h1
      · rename_i hk
        simp only [Option.some.injEq, Prod.mk.injEq] at h1
        obtain ⟨rfl, rfl, rfl, rfl⟩ := h1
        exact g_astore_n C0 ha hb hk (of_decide_eq_true hd) (k _ _ (by simp) (by simp))
      · cases h1
    · cases h1
  case istore kx =>
    simp only [c_op, Bool.and_eq_true, decide_eq_true_eq] at hc
    obtain ⟨hd, rfl, hb⟩ := hc
    simp only [e_one] at h1
    split at h1
    · rename_i x r
      split at h1
      · rename_i hk
        simp only [Option.some.injEq, Prod.mk.injEq] at h1
        obtain ⟨rfl, rfl, rfl, rfl⟩ := h1
        exact g_istore C0 hb hk (of_decide_eq_true hd) (k _ _ (by simp) (by simp))
      · cases h1
    · cases h1
  case astore kx =>
    simp only [c_op, Bool.and_eq_true, decide_eq_true_eq] at hc
    obtain ⟨hd, rfl, hb⟩ := hc
    simp only [e_one] at h1
    split at h1
    · rename_i x r
      split at h1
      · rename_i hk
        simp only [Option.some.injEq, Prod.mk.injEq] at h1
        obtain ⟨rfl, rfl, rfl, rfl⟩ := h1
        exact g_astore C0 hb hk (of_decide_eq_true hd) (k _ _ (by simp) (by simp))
      · cases h1
    · cases h1
  case lstore_n kx =>
    simp only [c_op, Bool.and_eq_true, decide_eq_true_eq] at hc
    obtain ⟨hd, ha, hb⟩ := hc
    simp only [e_one] at h1
    split at h1
    · rename_i x r
      split at h1
      · rename_i hk
        simp only [Bool.and_eq_true] at hk
        simp only [Option.some.injEq, Prod.mk.injEq] at h1
        obtain ⟨rfl, rfl, rfl, rfl⟩ := h1
        exact g_lstore_n C0 ha hb hk.1 hk.2 (of_decide_eq_true hd) (k _ _ (by simp) (by simp))
      · cases h1
    · cases h1
  case iinc kx nx =>
    simp only [c_op, Bool.and_eq_true, decide_eq_true_eq] at hc
    obtain ⟨hd, rfl, hb, hv⟩ := hc
    simp only [e_one] at h1
    split at h1
    · rename_i x hx
      split at h1
      · rename_i hk
        simp only [Option.some.injEq, Prod.mk.injEq] at h1
        obtain ⟨rfl, rfl, rfl, rfl⟩ := h1
        exact g_iinc C0 hb hx hv hk (of_decide_eq_true hd) (k _ _ (by simp) (by simp))
      · cases h1
    · cases h1
  case iadd =>
    simp only [c_op, Bool.and_eq_true, decide_eq_true_eq] at hc
    have hd := hc
    simp only [e_one] at h1
    split at h1
    · rename_i z x r
      simp only [Option.some.injEq, Prod.mk.injEq] at h1
      obtain ⟨rfl, rfl, rfl, rfl⟩ := h1
      exact g_iadd C0 (of_decide_eq_true hd) (k _ _ (by simp) (by simp))
    · cases h1
  case isub =>
    simp only [c_op, Bool.and_eq_true, decide_eq_true_eq] at hc
    have hd := hc
    simp only [e_one] at h1
    split at h1
    · rename_i z x r
      simp only [Option.some.injEq, Prod.mk.injEq] at h1
      obtain ⟨rfl, rfl, rfl, rfl⟩ := h1
      exact g_isub C0 (of_decide_eq_true hd) (k _ _ (by simp) (by simp))
    · cases h1
  case imul =>
    simp only [c_op, Bool.and_eq_true, decide_eq_true_eq] at hc
    have hd := hc
    simp only [e_one] at h1
    split at h1
    · rename_i z x r
      simp only [Option.some.injEq, Prod.mk.injEq] at h1
      obtain ⟨rfl, rfl, rfl, rfl⟩ := h1
      exact g_imul C0 (of_decide_eq_true hd) (k _ _ (by simp) (by simp))
    · cases h1
  case iand =>
    simp only [c_op, Bool.and_eq_true, decide_eq_true_eq] at hc
    have hd := hc
    simp only [e_one] at h1
    split at h1
    · rename_i z x r
      simp only [Option.some.injEq, Prod.mk.injEq] at h1
      obtain ⟨rfl, rfl, rfl, rfl⟩ := h1
      exact g_iand C0 (of_decide_eq_true hd) (k _ _ (by simp) (by simp))
    · cases h1
  case ixor =>
    simp only [c_op, Bool.and_eq_true, decide_eq_true_eq] at hc
    have hd := hc
    simp only [e_one] at h1
    split at h1
    · rename_i z x r
      simp only [Option.some.injEq, Prod.mk.injEq] at h1
      obtain ⟨rfl, rfl, rfl, rfl⟩ := h1
      exact g_ixor C0 (of_decide_eq_true hd) (k _ _ (by simp) (by simp))
    · cases h1
  case ladd =>
    simp only [c_op, Bool.and_eq_true, decide_eq_true_eq] at hc
    have hd := hc
    simp only [e_one] at h1
    split at h1
    · rename_i z x r
      simp only [Option.some.injEq, Prod.mk.injEq] at h1
      obtain ⟨rfl, rfl, rfl, rfl⟩ := h1
      exact g_ladd C0 (of_decide_eq_true hd) (k _ _ (by simp) (by simp))
    · cases h1
  case lmul =>
    simp only [c_op, Bool.and_eq_true, decide_eq_true_eq] at hc
    have hd := hc
    simp only [e_one] at h1
    split at h1
    · rename_i z x r
      simp only [Option.some.injEq, Prod.mk.injEq] at h1
      obtain ⟨rfl, rfl, rfl, rfl⟩ := h1
      exact g_lmul C0 (of_decide_eq_true hd) (k _ _ (by simp) (by simp))
    · cases h1
  case lcmp =>
    simp only [c_op, Bool.and_eq_true, decide_eq_true_eq] at hc
    have hd := hc
    simp only [e_one] at h1
    split at h1
    · rename_i z x r
      simp only [Option.some.injEq, Prod.mk.injEq] at h1
      obtain ⟨rfl, rfl, rfl, rfl⟩ := h1
      exact g_lcmp C0 (of_decide_eq_true hd) (k _ _ (by simp) (by simp))
    · cases h1
  case ineg =>
    simp only [c_op, Bool.and_eq_true, decide_eq_true_eq] at hc
    have hd := hc
    simp only [e_one] at h1
    split at h1
    · rename_i x r
      simp only [Option.some.injEq, Prod.mk.injEq] at h1
      obtain ⟨rfl, rfl, rfl, rfl⟩ := h1
      exact g_ineg C0 (of_decide_eq_true hd) (k _ _ (by simp) (by simp))
    · cases h1
  case i2l =>
    simp only [c_op, Bool.and_eq_true, decide_eq_true_eq] at hc
    have hd := hc
    simp only [e_one] at h1
    split at h1
    · rename_i x r
      simp only [Option.some.injEq, Prod.mk.injEq] at h1
      obtain ⟨rfl, rfl, rfl, rfl⟩ := h1
      exact g_i2l C0 (of_decide_eq_true hd) (k _ _ (by simp) (by simp))
    · cases h1
  case i2b =>
    simp only [c_op, Bool.and_eq_true, decide_eq_true_eq] at hc
    have hd := hc
    simp only [e_one] at h1
    split at h1
    · rename_i x r
      simp only [Option.some.injEq, Prod.mk.injEq] at h1
      obtain ⟨rfl, rfl, rfl, rfl⟩ := h1
      exact g_i2b C0 (of_decide_eq_true hd) (k _ _ (by simp) (by simp))
    · cases h1
  case pop =>
    simp only [c_op, Bool.and_eq_true, decide_eq_true_eq] at hc
    have hd := hc
    simp only [e_one] at h1
    split at h1
    · rename_i x r
      simp only [Option.some.injEq, Prod.mk.injEq] at h1
      obtain ⟨rfl, rfl, rfl, rfl⟩ := h1
      exact g_pop C0 (of_decide_eq_true hd) (k _ _ (by simp) (by simp))
    · cases h1
  case idiv =>
    simp only [c_op, Bool.and_eq_true, decide_eq_true_eq] at hc
    have hd := hc
    simp only [e_one] at h1
    split at h1
    · rename_i z x r
      split at h1
      · cases h1
      · rename_i hz
        simp only [Option.some.injEq, Prod.mk.injEq] at h1
        obtain ⟨rfl, rfl, rfl, rfl⟩ := h1
        exact g_idiv C0 hz (of_decide_eq_true hd) (k _ _ (by simp) (by simp))
    · cases h1
  case irem =>
    simp only [c_op, Bool.and_eq_true, decide_eq_true_eq] at hc
    have hd := hc
    simp only [e_one] at h1
    split at h1
    · rename_i z x r
      split at h1
      · cases h1
      · rename_i hz
        simp only [Option.some.injEq, Prod.mk.injEq] at h1
        obtain ⟨rfl, rfl, rfl, rfl⟩ := h1
        exact g_irem C0 hz (of_decide_eq_true hd) (k _ _ (by simp) (by simp))
    · cases h1
  case dup =>
    simp only [c_op, Bool.and_eq_true, decide_eq_true_eq] at hc
    have hd := hc
    simp only [e_one] at h1
    split at h1
    · rename_i x r
      simp only [Option.some.injEq, Prod.mk.injEq] at h1
      obtain ⟨rfl, rfl, rfl, rfl⟩ := h1
      exact g_dupi C0 (of_decide_eq_true hd) (k _ _ (by simp) (by simp))
    · rename_i x r
      simp only [Option.some.injEq, Prod.mk.injEq] at h1
      obtain ⟨rfl, rfl, rfl, rfl⟩ := h1
      exact g_dupa C0 (of_decide_eq_true hd) (k _ _ (by simp) (by simp))
    · cases h1
  case dup2 =>
    simp only [c_op, Bool.and_eq_true, decide_eq_true_eq] at hc
    have hd := hc
    simp only [e_one] at h1
    split at h1
    · rename_i x z r
      simp only [Option.some.injEq, Prod.mk.injEq] at h1
      obtain ⟨rfl, rfl, rfl, rfl⟩ := h1
      exact g_dup2 C0 (of_decide_eq_true hd) (k _ _ (by simp) (by simp))
    · cases h1
  case nop =>
    simp only [c_op] at hc
    obtain ⟨t, ht, hpc, -⟩ := e_jmp_ok hc
    simp only [e_one] at h1
    simp only [Option.some.injEq, Prod.mk.injEq] at h1
    obtain ⟨rfl, rfl, rfl, rfl⟩ := h1
    have hpt : t = pc := by omega
    subst hpt
    have kk := k cells slots (by simp) (by simp)
    simp only [e_npc, ht, Option.getD_some] at kk
    exact kk
  case goto off =>
    simp only [c_op, Bool.and_eq_true, decide_eq_true_eq] at hc
    obtain ⟨hd, hj⟩ := hc
    simp only [e_one] at h1
    obtain ⟨t, ht, hpc, -⟩ := e_jmp_ok hj
    simp only [Option.some.injEq, Prod.mk.injEq] at h1
    obtain ⟨rfl, rfl, rfl, rfl⟩ := h1
    have kk := k cells slots (by simp) (by simp)
    simp only [e_npc, ht, Option.getD_some] at kk
    exact g_goto C0 hpc (of_decide_eq_true hd) kk
  case ifCond cd off =>
    simp only [c_op, Bool.and_eq_true, decide_eq_true_eq] at hc
    obtain ⟨hd, hj⟩ := hc
    simp only [e_one] at h1
    obtain ⟨t, ht, hpc, -⟩ := e_jmp_ok hj
    split at h1
    · rename_i x r
      simp only [Option.some.injEq, Prod.mk.injEq] at h1
      obtain ⟨rfl, rfl, rfl, rfl⟩ := h1
      have kk := k cells slots (by simp) (by simp)
      refine g_if C0 hpc (of_decide_eq_true hd) (fun q => ?_) (fun q => ?_)
      · simp only [e_npc, q, if_true, ht, Option.getD_some] at kk
        exact kk
      · simp only [q, if_false] at kk
        exact kk
    · cases h1
  case if_icmp cd off =>
    simp only [c_op, Bool.and_eq_true, decide_eq_true_eq] at hc
    obtain ⟨hd, hj⟩ := hc
    simp only [e_one] at h1
    obtain ⟨t, ht, hpc, -⟩ := e_jmp_ok hj
    split at h1
    · rename_i z x r
      simp only [Option.some.injEq, Prod.mk.injEq] at h1
      obtain ⟨rfl, rfl, rfl, rfl⟩ := h1
      have kk := k cells slots (by simp) (by simp)
      refine g_icmp C0 hpc (of_decide_eq_true hd) (fun q => ?_) (fun q => ?_)
      · simp only [e_npc, q, if_true, ht, Option.getD_some] at kk
        exact kk
      · simp only [q, if_false] at kk
        exact kk
    · cases h1
  case tableswitch d lo hi offs =>
    simp only [c_op, Bool.and_eq_true, decide_eq_true_eq] at hc
    obtain ⟨hd, hj, hsz, hall⟩ := hc
    simp only [e_one] at h1
    split at h1
    · rename_i x r
      simp only [Option.some.injEq, Prod.mk.injEq] at h1
      obtain ⟨rfl, rfl, rfl, rfl⟩ := h1
      have kk := k cells slots (by simp) (by simp)
      by_cases hx : x.toInt < lo ∨ hi < x.toInt
      · obtain ⟨t, ht, hpc, -⟩ := e_jmp_ok hj
        simp only [e_npc, hx, if_true, ht, Option.getD_some] at kk
        exact g_switch C0 (of_decide_eq_true hd) (Or.inl ⟨hx, hpc⟩) kk
      · have hlt : (x.toInt - lo).toNat < offs.size := by omega
        have hj2 := List.all_eq_true.mp hall _ (List.mem_range.mpr hlt)
        obtain ⟨t, ht, hpc, -⟩ := e_jmp_ok hj2
        simp only [e_npc, hx, if_false, ht, Option.getD_some] at kk
        refine g_switch C0 (of_decide_eq_true hd) (Or.inr ⟨hx, offs.getD (x.toInt - lo).toNat 0, ?_, hpc⟩) kk
        rw [Array.getD_eq_getD_getElem?, Array.getElem?_eq_getElem hlt]
        rfl
    · cases h1
  case getfield i =>
    simp only [c_op, Bool.and_eq_true, decide_eq_true_eq] at hc
    obtain ⟨hd, hm, hr⟩ := hc
    simp only [e_one] at h1
    obtain ⟨C, T, N, hv, hb, hl⟩ := e_FLs_ok _ hm
    rw [beq_iff_eq] at hr
    split at h1
    · rename_i q r
      split at h1
      · rename_i hq
        simp only [Option.some.injEq, Prod.mk.injEq] at h1
        obtain ⟨rfl, rfl, rfl, rfl⟩ := h1
        refine g_getf C0 hq.1 hq.2.1 hq.2.2 hv hb (e_wk_b hl rfl C0.2.2.2.2.2.2.2.1 args) (of_decide_eq_true hd) ?_
        have kk := k cells slots (by simp) (by simp)
        have e : (if e_isR a bb = true then e_rf (M.2.2 q bb) else Value.int (M.2.1 q bb)) = (if cz = 2 then e_rf (M.2.2 q bb) else Value.int (M.2.1 q bb)) := by
          rw [hr]
          by_cases h2 : cz = 2 <;> simp [h2]
        rw [e]
        exact kk
      · cases h1
    · cases h1
  case putfield i =>
    simp only [c_op, Bool.and_eq_true, decide_eq_true_eq] at hc
    obtain ⟨hd, hm0, hr, hm⟩ := hc
    simp only [e_one] at h1
    obtain ⟨C, T, N, hv, hb, hl⟩ := e_FLs_ok _ hm0
    rw [beq_iff_eq] at hr
    dsimp only at hv hb hl
    rw [hv] at hm
    have hx := hm
    dsimp only at hx
    split at h1
    · rename_i x q r
      split at h1
      · rename_i hq
        obtain ⟨⟨q1, q2, q3⟩, hc2, hbool⟩ := hq
        simp only [Option.some.injEq, Prod.mk.injEq] at h1
        obtain ⟨rfl, rfl, rfl, rfl⟩ := h1
        have h2 : ¬ cz = 2 := by omega
        rw [if_neg h2] at hx
        simp only [decide_eq_true_eq] at hx
        obtain ⟨hfin, hty⟩ := hx
        have hnf : narrow (e_ty a bb) (.int x) = .int x ∧ fits (e_ty a bb) (.int x) = true := by
          rw [hty]
          by_cases h1 : cz = 1
          · rw [if_pos h1]
            rcases hbool h1 with h | h <;> (subst h; exact ⟨by decide +kernel, rfl⟩)
          · rw [if_neg h1]
            exact ⟨rfl, rfl⟩
        exact g_puti C0 q1 q2 q3 hv hb (by rw [hr]; simp [h2]) hfin hnf.1 hnf.2 (e_wk_b hl rfl C0.2.2.2.2.2.2.2.1 args) (of_decide_eq_true hd) (k _ _ (by simp) (by simp))
      · cases h1
    · rename_i z q r
      split at h1
      · rename_i hq
        obtain ⟨⟨q1, q2, q3⟩, hc2, hz⟩ := hq
        simp only [Option.some.injEq, Prod.mk.injEq] at h1
        obtain ⟨rfl, rfl, rfl, rfl⟩ := h1
        rw [if_pos hc2] at hx
        simp only [Bool.and_eq_true, decide_eq_true_eq] at hx
        obtain ⟨⟨hfin, hin, hdecl⟩, hrt⟩ := hx
        exact g_putr C0 q1 q2 q3 hz hv hb (by rw [hr]; simp [hc2]) hfin hin hdecl (e_refty_ok hrt).1 (e_refty_ok hrt).2 (e_wk_b hl rfl C0.2.2.2.2.2.2.2.1 args) (of_decide_eq_true hd) (k _ _ (by simp) (by simp))
      · cases h1
    · cases h1
  case iaload =>
    simp only [c_op, Bool.and_eq_true, decide_eq_true_eq] at hc
    have hd := hc
    simp only [e_one] at h1
    split at h1
    · rename_i i q r
      split at h1
      · rename_i hq
        subst hq
        split at h1
        · rename_i hi
          simp only [Option.some.injEq, Prod.mk.injEq] at h1
          obtain ⟨rfl, rfl, rfl, rfl⟩ := h1
          exact g_sld C0 hi (of_decide_eq_true hd) (k _ _ (by simp) (by simp))
        · cases h1
      · rename_i hq0
        split at h1
        · rename_i hq
          simp only [Option.some.injEq, Prod.mk.injEq] at h1
          obtain ⟨rfl, rfl, rfl, rfl⟩ := h1
          exact g_iald C0 (Nat.pos_of_ne_zero hq0) hq.1 hq.2.1 hq.2.2 (of_decide_eq_true hd) (k _ _ (by simp) (by simp))
        · cases h1
    · cases h1
  case baload =>
    simp only [c_op, Bool.and_eq_true, decide_eq_true_eq] at hc
    have hd := hc
    simp only [e_one] at h1
    split at h1
    · rename_i i q r
      split at h1
      · rename_i hq
        simp only [Option.some.injEq, Prod.mk.injEq] at h1
        obtain ⟨rfl, rfl, rfl, rfl⟩ := h1
        exact g_bald C0 hq.1 hq.2.1 hq.2.2.1 hq.2.2.2 (of_decide_eq_true hd) (k _ _ (by simp) (by simp))
      · cases h1
    · cases h1
  case aaload =>
    simp only [c_op, Bool.and_eq_true, decide_eq_true_eq] at hc
    have hd := hc
    simp only [e_one] at h1
    split at h1
    · rename_i i q r
      split at h1
      · rename_i hq
        simp only [Option.some.injEq, Prod.mk.injEq] at h1
        obtain ⟨rfl, rfl, rfl, rfl⟩ := h1
        exact g_aald C0 hq.1 hq.2.1 hq.2.2.1 hq.2.2.2 (of_decide_eq_true hd) (k _ _ (by simp) (by simp))
      · cases h1
    · cases h1
  case iastore =>
    simp only [c_op, Bool.and_eq_true, decide_eq_true_eq] at hc
    have hd := hc
    simp only [e_one] at h1
    split at h1
    · rename_i x i q r
      split at h1
      · rename_i hq
        simp only [Option.some.injEq, Prod.mk.injEq] at h1
        obtain ⟨rfl, rfl, rfl, rfl⟩ := h1
        exact g_iast C0 hq.1 hq.2.1 hq.2.2.1 hq.2.2.2 (of_decide_eq_true hd) (k _ _ (by simp) (by simp))
      · cases h1
    · cases h1
  case bastore =>
    simp only [c_op, Bool.and_eq_true, decide_eq_true_eq] at hc
    have hd := hc
    simp only [e_one] at h1
    split at h1
    · rename_i x i q r
      split at h1
      · rename_i hq
        simp only [Option.some.injEq, Prod.mk.injEq] at h1
        obtain ⟨rfl, rfl, rfl, rfl⟩ := h1
        exact g_bast C0 hq.1 hq.2.1 hq.2.2.1 hq.2.2.2 (of_decide_eq_true hd) (k _ _ (by simp) (by simp))
      · cases h1
    · cases h1
  case aastore =>
    simp only [c_op, Bool.and_eq_true, decide_eq_true_eq] at hc
    have hd := hc
    simp only [e_one] at h1
    split at h1
    · rename_i z i q r
      split at h1
      · rename_i hq
        simp only [Option.some.injEq, Prod.mk.injEq] at h1
        obtain ⟨rfl, rfl, rfl, rfl⟩ := h1
        exact g_aast C0 hq.1 hq.2.1 hq.2.2.1.1 hq.2.2.1.2 hq.2.2.2.1 hq.2.2.2.2 (of_decide_eq_true hd) (k _ _ (by simp) (by simp))
      · cases h1
    · cases h1
  case arraylength =>
    simp only [c_op, Bool.and_eq_true, decide_eq_true_eq] at hc
    have hd := hc
    simp only [e_one] at h1
    split at h1
    · rename_i q r
      split at h1
      · rename_i hq
        subst hq
        simp only [Option.some.injEq, Prod.mk.injEq] at h1
        obtain ⟨rfl, rfl, rfl, rfl⟩ := h1
        exact g_slen C0 (of_decide_eq_true hd) (k _ _ (by simp) (by simp))
      · cases h1
    · cases h1
  case new i =>
    simp only [c_op, Bool.and_eq_true, decide_eq_true_eq] at hc
    obtain ⟨hd, hm⟩ := hc
    simp only [e_one] at h1
    split at hm
    · rename_i C T N hv
      simp only [Bool.and_eq_true, decide_eq_true_eq] at hm
      obtain ⟨rfl, w0, w1, w2⟩ := hm
      split at h1
      · rename_i hq
        obtain ⟨hn, hk⟩ := hq
        simp only [Option.some.injEq, Prod.mk.injEq] at h1
        obtain ⟨rfl, rfl, rfl, rfl⟩ := h1
        have hW := C0.2.2.2.2.2.2.2.1
        have e1 : e_SZ (M.1 + 1) - e_SZ M.1 = bb := by simp only [e_SZ, hk]; omega
        have hcell : cells + (M.1 + 1 - M.1) ≤ R.cells := hcell
        have hslot : slots + (e_SZ (M.1 + 1) - e_SZ M.1) ≤ R.slots := hslot
        exact g_new C0 hv hn hk (e_w_b w0 rfl hW args) (e_w_b w1 rfl hW args) (e_w_b w2 rfl hW args) (by omega) (by omega) (of_decide_eq_true hd) (k _ _ (by show _ = cells + (M.1 + 1 - M.1); omega) (by show _ = slots + (e_SZ (M.1 + 1) - e_SZ M.1); omega))
      · cases h1
    · cases hm
  case newarray t =>
    cases t
    case int =>
      simp only [c_op, Bool.and_eq_true, decide_eq_true_eq] at hc
      obtain ⟨hd, rfl, w0⟩ := hc
      simp only [e_one] at h1
      split at h1
      · rename_i n r
        split at h1
        · rename_i hq
          obtain ⟨hn, hk, h0, hN⟩ := hq
          simp only [Option.some.injEq, Prod.mk.injEq] at h1
          obtain ⟨rfl, rfl, rfl, rfl⟩ := h1
          have e1 : e_SZ (M.1 + 1) - e_SZ M.1 = n.toNatClampNeg := by simp only [e_SZ, hk]; omega
          have hcell : cells + (M.1 + 1 - M.1) ≤ R.cells := hcell
          have hslot : slots + (e_SZ (M.1 + 1) - e_SZ M.1) ≤ R.slots := hslot
          exact g_newi C0 hn hk h0 rfl hN (e_w_b w0 rfl C0.2.2.2.2.2.2.2.1 args) (by omega) (by omega) (of_decide_eq_true hd) (k _ _ (by show _ = cells + (M.1 + 1 - M.1); omega) (by show _ = slots + (e_SZ (M.1 + 1) - e_SZ M.1); omega))
        · cases h1
      · cases h1
    case byte =>
      simp only [c_op, Bool.and_eq_true, decide_eq_true_eq] at hc
      obtain ⟨hd, rfl, w0⟩ := hc
      simp only [e_one] at h1
      split at h1
      · rename_i n r
        split at h1
        · rename_i hq
          obtain ⟨hn, hk, h0, hN⟩ := hq
          simp only [Option.some.injEq, Prod.mk.injEq] at h1
          obtain ⟨rfl, rfl, rfl, rfl⟩ := h1
          have e1 : e_SZ (M.1 + 1) - e_SZ M.1 = n.toNatClampNeg := by simp only [e_SZ, hk]; omega
          have hcell : cells + (M.1 + 1 - M.1) ≤ R.cells := hcell
          have hslot : slots + (e_SZ (M.1 + 1) - e_SZ M.1) ≤ R.slots := hslot
          exact g_newb C0 hn hk h0 rfl hN (e_w_b w0 rfl C0.2.2.2.2.2.2.2.1 args) (by omega) (by omega) (of_decide_eq_true hd) (k _ _ (by show _ = cells + (M.1 + 1 - M.1); omega) (by show _ = slots + (e_SZ (M.1 + 1) - e_SZ M.1); omega))
        · cases h1
      · cases h1
    all_goals (simp [c_op] at hc)
  case anewarray i =>
    simp only [c_op, Bool.and_eq_true, decide_eq_true_eq] at hc
    obtain ⟨hd, hm⟩ := hc
    simp only [e_one] at h1
    split at h1
    · rename_i n r
      split at h1
      · rename_i hq
        obtain ⟨hn, hk, h0, hN⟩ := hq
        simp only [Option.some.injEq, Prod.mk.injEq] at h1
        obtain ⟨rfl, rfl, rfl, rfl⟩ := h1
        have e1 : e_SZ (M.1 + 1) - e_SZ M.1 = n.toNatClampNeg := by simp only [e_SZ, hk]; omega
        have hcell : cells + (M.1 + 1 - M.1) ≤ R.cells := hcell
        have hslot : slots + (e_SZ (M.1 + 1) - e_SZ M.1) ≤ R.slots := hslot
        simp only [Bool.or_eq_true, Bool.and_eq_true, decide_eq_true_eq] at hm
        rcases hm with ⟨ha, w0, w1⟩ | ⟨ha, w0, w1⟩
        · exact g_newq C0 hn hk (Or.inl ⟨ha, rfl⟩) h0 rfl hN (e_w_b w0 rfl C0.2.2.2.2.2.2.2.1 args) (e_w_nw w1 C0.2.2.2.2.2.2.2.1) (by omega) (by omega) (of_decide_eq_true hd) (k _ _ (by show _ = cells + (M.1 + 1 - M.1); omega) (by show _ = slots + (e_SZ (M.1 + 1) - e_SZ M.1); omega))
        · exact g_newq C0 hn hk (Or.inr ⟨ha, rfl⟩) h0 rfl hN (e_w_b w0 rfl C0.2.2.2.2.2.2.2.1 args) (e_w_nw w1 C0.2.2.2.2.2.2.2.1) (by omega) (by omega) (of_decide_eq_true hd) (k _ _ (by show _ = cells + (M.1 + 1 - M.1); omega) (by show _ = slots + (e_SZ (M.1 + 1) - e_SZ M.1); omega))
      · cases h1
    · cases h1
  case multianewarray i dd =>
    simp only [c_op, Bool.and_eq_true, decide_eq_true_eq] at hc
    obtain ⟨hd, rfl, w0, w1, w2⟩ := hc
    simp only [e_one] at h1
    split at h1
    · rename_i kk nn r
      split at h1
      · rename_i hq
        obtain ⟨hn, hk, rfl, rfl, hall⟩ := hq
        simp only [Option.some.injEq, Prod.mk.injEq] at h1
        obtain ⟨rfl, rfl, rfl, rfl⟩ := h1
        have hk2 : ∀ j, j < 24 → e_kd (M.1 + 2 + j) = (10, 33) := fun j hj => by
          have := List.all_eq_true.mp hall j (List.mem_range.mpr hj)
          simpa using this
        have e0 : ∀ j, j ≤ 24 → e_SZ (M.1 + 1 + j) = e_SZ M.1 + 24 + 33 * j := by
          intro j
          induction j with
          | zero => intro _; simp only [e_SZ, hk, Nat.add_zero]
          | succ j ih =>
            intro hj
            have h3 := hk2 j (by omega)
            rw [show M.1 + 2 + j = M.1 + 1 + j + 1 by omega] at h3
            rw [show M.1 + 1 + (j + 1) = (M.1 + 1 + j) + 1 by omega]
            simp only [e_SZ]
            rw [h3, ih (by omega)]
            omega
        have e1 : e_SZ (M.1 + 25) - e_SZ M.1 = 24 + 24 * 33 := by
          have := e0 24 (Nat.le_refl _)
          rw [show M.1 + 1 + 24 = M.1 + 25 by omega] at this
          omega
        have hcell : cells + (M.1 + 25 - M.1) ≤ R.cells := hcell
        have hslot : slots + (e_SZ (M.1 + 25) - e_SZ M.1) ≤ R.slots := hslot
        have hW := C0.2.2.2.2.2.2.2.1
        exact g_multi C0 hn hk hk2 (e_w_b w0 rfl hW args) (e_w_nw w1 hW) (e_w_b w2 rfl hW args) (by omega) (by omega) (of_decide_eq_true hd) (k _ _ (by show _ = cells + (M.1 + 25 - M.1); omega) (by show _ = slots + (e_SZ (M.1 + 25) - e_SZ M.1); omega))
      · cases h1
    · cases h1
  case invokespecial i =>
    simp only [c_op, Bool.and_eq_true, decide_eq_true_eq] at hc
    obtain ⟨hd, hm⟩ := hc
    simp only [e_one] at h1
    split at h1
    · rename_i q
      split at h1
      · rename_i hq
        subst hq
        simp only [Option.some.injEq, Prod.mk.injEq] at h1
        obtain ⟨rfl, rfl, rfl, rfl⟩ := h1
        rw [if_pos rfl] at hm
        simp only [Bool.and_eq_true, decide_eq_true_eq] at hm
        obtain ⟨⟨f1, f2⟩, w0, w1, w2⟩ := hm
        have hW := C0.2.2.2.2.2.2.2.1
        exact g_oinit C0 (e_w_b w0 rfl hW args) (e_w_b w1 rfl hW args) (e_w_b w2 rfl hW args) (Nat.le_trans f1 hfr) (Nat.le_trans f2 hlo) (of_decide_eq_true hd) (k _ _ (by simp) (by simp))
      · cases h1
    · cases h1
  case invokestatic i =>
    simp only [c_op, Bool.and_eq_true, decide_eq_true_eq] at hc
    obtain ⟨hd, hm⟩ := hc
    simp only [e_one] at h1
    by_cases h998 : cz = 998
    · rw [if_pos h998] at h1 hm
      split at h1
      · rename_i n dp d sp q
        split at h1
        · rename_i hq
          obtain ⟨g1, g2, g3, g4, g5⟩ := hq
          simp only [Option.some.injEq, Prod.mk.injEq] at h1
          obtain ⟨rfl, rfl, rfl, rfl⟩ := h1
          simp only [Bool.and_eq_true, decide_eq_true_eq] at hm
          obtain ⟨⟨f1, f2⟩, w0, w1, w2, w3⟩ := hm
          have hW := C0.2.2.2.2.2.2.2.1
          exact g_copy C0 g1 g2 g3 g4 g5 (e_w_b w0 rfl hW args) (e_w_b w1 rfl hW args) (e_w_b w2 rfl hW args) (e_w_b w3 rfl hW args) (Nat.le_trans f1 hfr) (Nat.le_trans f2 hlo) (of_decide_eq_true hd) (k _ _ (by simp) (by simp))
        · cases h1
      · cases h1
    · rw [if_neg h998] at h1 hm
      by_cases h991 : cz = 991
      · rw [if_pos h991] at h1 hm
        split at h1
        · rename_i z x r
          split at h1
          · rename_i hq
            simp only [Option.some.injEq, Prod.mk.injEq] at h1
            obtain ⟨rfl, rfl, rfl, rfl⟩ := h1
            simp only [Bool.and_eq_true, decide_eq_true_eq] at hm
            obtain ⟨⟨f1, f2⟩, w0, w1, w2, w3⟩ := hm
            have hW := C0.2.2.2.2.2.2.2.1
            exact g_mmax C0 (e_w_b w0 rfl hW args) (e_w_b w1 rfl hW args) (e_w_b w2 rfl hW args) (e_w_b w3 rfl hW args) (Nat.le_trans f1 hfr) (Nat.le_trans f2 hlo) (Nat.le_trans (Nat.le_add_right _ _) hcell) (Nat.le_trans (Nat.le_add_right _ _) hslot) hq (of_decide_eq_true hd) (k _ _ (by simp) (by simp))
          · cases h1
        · cases h1
      · rw [if_neg h991] at h1 hm
        by_cases h992 : cz = 992
        · rw [if_pos h992] at h1 hm
          split at h1
          · rename_i z x r
            split at h1
            · rename_i hq
              simp only [Option.some.injEq, Prod.mk.injEq] at h1
              obtain ⟨rfl, rfl, rfl, rfl⟩ := h1
              simp only [Bool.and_eq_true, decide_eq_true_eq] at hm
              obtain ⟨⟨f1, f2⟩, w0, w1, w2, w3⟩ := hm
              have hW := C0.2.2.2.2.2.2.2.1
              exact g_mmin C0 (e_w_b w0 rfl hW args) (e_w_b w1 rfl hW args) (e_w_b w2 rfl hW args) (e_w_b w3 rfl hW args) (Nat.le_trans f1 hfr) (Nat.le_trans f2 hlo) (Nat.le_trans (Nat.le_add_right _ _) hcell) (Nat.le_trans (Nat.le_add_right _ _) hslot) hq (of_decide_eq_true hd) (k _ _ (by simp) (by simp))
            · cases h1
          · cases h1
        · rw [if_neg h992] at h1 hm
          by_cases h993 : cz = 993
          · rw [if_pos h993] at h1 hm
            split at h1
            · rename_i x r
              split at h1
              · rename_i hq
                simp only [Option.some.injEq, Prod.mk.injEq] at h1
                obtain ⟨rfl, rfl, rfl, rfl⟩ := h1
                simp only [Bool.and_eq_true, decide_eq_true_eq] at hm
                obtain ⟨⟨f1, f2⟩, w0, w1, w2, w3⟩ := hm
                have hW := C0.2.2.2.2.2.2.2.1
                exact g_mabs C0 (e_w_b w0 rfl hW args) (e_w_b w1 rfl hW args) (e_w_b w2 rfl hW args) (e_w_b w3 rfl hW args) (Nat.le_trans f1 hfr) (Nat.le_trans f2 hlo) (Nat.le_trans (Nat.le_add_right _ _) hcell) (Nat.le_trans (Nat.le_add_right _ _) hslot) hq (of_decide_eq_true hd) (k _ _ (by simp) (by simp))
              · cases h1
            · cases h1
          · rw [if_neg h993] at h1 hm
            by_cases h994 : cz = 994
            · rw [if_pos h994] at h1 hm
              split at h1
              · rename_i z x r
                split at h1
                · rename_i hq
                  simp only [Option.some.injEq, Prod.mk.injEq] at h1
                  obtain ⟨rfl, rfl, rfl, rfl⟩ := h1
                  simp only [Bool.and_eq_true, decide_eq_true_eq] at hm
                  obtain ⟨⟨f1, f2⟩, w0, w1, w2, w3⟩ := hm
                  have hW := C0.2.2.2.2.2.2.2.1
                  exact g_fmod C0 hq.2 (e_w_b w0 rfl hW args) (e_w_b w1 rfl hW args) (e_w_b w2 rfl hW args) (e_w_b w3 rfl hW args) (Nat.le_trans f1 hfr) (Nat.le_trans f2 hlo) (Nat.le_trans (Nat.le_add_right _ _) hcell) (Nat.le_trans (Nat.le_add_right _ _) hslot) hq.1 (of_decide_eq_true hd) (k _ _ (by simp) (by simp))
                · cases h1
              · cases h1
            · rw [if_neg h994] at h1 hm
              cases h1
  all_goals first | (simp [c_op] at hc; done) | (simp [e_one] at h1; done)
end E_ROWS
end
section
/-! every run of the plain machine is one of the real machine -/
set_option maxHeartbeats 4000000 in
theorem e_one_mono {xs : Nat → Int32} {L : Nat} {op : e_Op} {lv : e_Lv} {st : List Value} {M : e_Mem} {j : Option Nat} {lv' : e_Lv} {st' : List Value} {M' : e_Mem} (h : e_one xs L op lv st M = some (j, lv', st', M')) : M.1 ≤ M'.1 := by
  obtain ⟨pc, ins, v, a, bb, cz⟩ := op
  cases ins <;> simp only [e_one] at h <;> (repeat' split at h) <;> first | (cases h; done) | (simp only [Option.some.injEq, Prod.mk.injEq] at h; obtain ⟨-, -, -, rfl⟩ := h; first | exact Nat.le_refl _ | exact Nat.le_succ _ | exact Nat.le_add_right _ _)
theorem e_mono {xs : Nat → Int32} {L : Nat} : ∀ (f : Nat) (is : List e_Op) (lv : e_Lv) (st : List Value) (M : e_Mem) (res : e_Rs), e_ev xs L f is lv st M = some res → M.1 ≤ res.2.1
  | 0, is, lv, st, M, res, h => by simp [e_ev] at h
  | f + 1, [], lv, st, M, res, h => by simp [e_ev] at h
  | f + 1, op :: is, lv, st, M, res, h => by
    simp only [e_ev] at h
    split at h
    · split at h
      · cases h
      · rename_i h1
        exact Nat.le_trans (e_one_mono h1) (e_mono f _ _ _ _ _ h)
      · rename_i h1
        exact Nat.le_trans (e_one_mono h1) (e_mono f _ _ _ _ _ h)
    · obtain ⟨r, -, rfl⟩ := Option.map_eq_some_iff.mp h
      exact Nat.le_refl _
    · split at h
      · split at h
        · cases h
        · rename_i h1
          exact Nat.le_trans (e_mono f _ _ _ _ _ h1) (e_mono f _ _ _ _ _ h)
      · cases h
theorem e_blk_op {y : Nat} {op : e_Op} {is : List e_Op} {w : List (List Nat)} (h : c_blk y (op :: is) w = true) : c_op y op (w.headD []) = true := by
  cases is with
  | nil =>
    simp only [c_blk, Bool.and_eq_true] at h
    exact h.1
  | cons op2 t =>
    simp only [c_blk, Bool.and_eq_true] at h
    exact h.1
/-- what follows an op that doesn't end its block -/
theorem e_blk_next {y : Nat} {op : e_Op} {is : List e_Op} {w : List (List Nat)} (h : c_blk y (op :: is) w = true) (ht : e_term op.2.1 = false) : c_blk y is w.tail = true ∧ e_hpc is = some (op.1 + e_len op.2.1) := by
  cases is with
  | nil =>
    simp only [c_blk, Bool.and_eq_true] at h
    rw [ht] at h
    exact absurd h.2 (by decide)
  | cons op2 t =>
    simp only [c_blk, Bool.and_eq_true, decide_eq_true_eq] at h
    exact ⟨h.2.2, by rw [← h.2.1]; rfl⟩
/-- an op that goes on, or jumps to a label of its own method -/
theorem e_one_term {xs : Nat → Int32} {L : Nat} {op : e_Op} {lv : e_Lv} {st : List Value} {M : e_Mem} {lv' : e_Lv} {st' : List Value} {M' : e_Mem} (h : e_one xs L op lv st M = some (none, lv', st', M')) : e_term op.2.1 = false := by
  obtain ⟨pc, ins, v, a, bb, cz⟩ := op
  cases ins <;> first | rfl | (simp [e_one] at h; done) | (simp only [e_one] at h; split at h <;> simp at h)
set_option maxHeartbeats 4000000 in
theorem e_one_jmp {xs : Nat → Int32} {L y : Nat} {ws : List Nat} {op : e_Op} {lv : e_Lv} {st : List Value} {M : e_Mem} {t : Nat} {lv' : e_Lv} {st' : List Value} {M' : e_Mem} (hc : c_op y op ws = true) (h : e_one xs L op lv st M = some (some t, lv', st', M')) : ∃ pc, e_hpc (e_lbl t) = some pc ∧ e_lm t = y := by
  obtain ⟨pc, ins, v, a, bb, cz⟩ := op
  cases ins
  case nop =>
    simp only [c_op] at hc
    simp only [e_one, Option.some.injEq, Prod.mk.injEq] at h
    obtain ⟨rfl, -, -, -⟩ := h
    obtain ⟨t', h1, -, h2⟩ := e_jmp_ok hc
    exact ⟨t', h1, h2⟩
  case goto off =>
    simp only [c_op, Bool.and_eq_true] at hc
    simp only [e_one, Option.some.injEq, Prod.mk.injEq] at h
    obtain ⟨rfl, -, -, -⟩ := h
    obtain ⟨t', h1, -, h2⟩ := e_jmp_ok hc.2
    exact ⟨t', h1, h2⟩
  case ifCond cd off =>
    simp only [c_op, Bool.and_eq_true] at hc
    simp only [e_one] at h
    split at h
    · simp only [Option.some.injEq, Prod.mk.injEq] at h
      obtain ⟨h, -, -, -⟩ := h
      split at h
      · cases h
        obtain ⟨t', h1, -, h2⟩ := e_jmp_ok hc.2
        exact ⟨t', h1, h2⟩
      · cases h
    · cases h
  case if_icmp cd off =>
    simp only [c_op, Bool.and_eq_true] at hc
    simp only [e_one] at h
    split at h
    · simp only [Option.some.injEq, Prod.mk.injEq] at h
      obtain ⟨h, -, -, -⟩ := h
      split at h
      · cases h
        obtain ⟨t', h1, -, h2⟩ := e_jmp_ok hc.2
        exact ⟨t', h1, h2⟩
      · cases h
    · cases h
  case tableswitch d lo hi offs =>
    simp only [c_op, Bool.and_eq_true, decide_eq_true_eq] at hc
    obtain ⟨-, hj, hsz, hall⟩ := hc
    simp only [e_one] at h
    split at h
    · rename_i x r
      simp only [Option.some.injEq, Prod.mk.injEq] at h
      obtain ⟨rfl, -, -, -⟩ := h
      by_cases hx : x.toInt < lo ∨ hi < x.toInt
      · rw [if_pos hx]
        obtain ⟨t', h1, -, h2⟩ := e_jmp_ok hj
        exact ⟨t', h1, h2⟩
      · rw [if_neg hx]
        obtain ⟨t', h1, -, h2⟩ := e_jmp_ok (List.all_eq_true.mp hall _ (List.mem_range.mpr (show (x.toInt - lo).toNat < offs.size by omega)))
        exact ⟨t', h1, h2⟩
    · cases h
  all_goals (simp only [e_one] at h <;> (repeat' split at h) <;> simp at h)
theorem e_lbl_lt {t pc : Nat} (h : e_hpc (e_lbl t) = some pc) : t < e_labs.length := by
  rcases Nat.lt_or_ge t e_labs.length with q | q
  · exact q
  · unfold e_lbl at h
    rw [List.getD_eq_getElem?_getD, List.getElem?_eq_none q] at h
    cases h
theorem e_args_map (b bs : Nat) : ∀ (As : List Value) (i : Nat), lv_args i (As.map (e_mv b bs)) = (lv_args i As).map (fun q => (q.1, e_mv b bs q.2))
  | [], _ => rfl
  | v :: t, i => by
    have hc : (e_mv b bs v).category = v.category := by cases v <;> rfl
    simp only [List.map_cons, lv_args, hc, e_args_map b bs t]
theorem e_lk_mem {i : Nat} {v : Value} : ∀ {lv : e_Lv}, e_lk i lv = some v → (i, v) ∈ lv
  | [], h => by cases h
  | (j, w) :: t, h => by
    by_cases hj : j = i
    · subst hj
      simp [e_lk] at h
      subst h
      exact List.mem_cons_self
    · simp [e_lk, hj] at h
      exact List.mem_cons_of_mem _ (e_lk_mem h)
theorem e_LR.entry {b bs nL : Nat} {As : List Value} (h : (lg_sl (As.map (e_mv b bs))).length ≤ nL) : e_LR b bs ((lg_sl (As.map (e_mv b bs)) ++ List.replicate (nL - (lg_sl (As.map (e_mv b bs))).length) Slot.unset).toArray) nL (lv_args 0 As) := by
  have hl := lv_entry (As.map (e_mv b bs)) h
  refine ⟨hl.1, hl.2.1, fun q hq => hl.2.2 q ?_⟩
  obtain ⟨i, -, hv⟩ := List.mem_filterMap.mp hq
  obtain ⟨v, hw, rfl⟩ := Option.map_eq_some_iff.mp hv
  rw [e_args_map]
  exact List.mem_map.mpr ⟨(i, v), e_lk_mem hw, rfl⟩
theorem e_slw_len (b bs : Nat) : ∀ As : List Value, (lg_sl (As.map (e_mv b bs))).length = e_slw As
  | [] => rfl
  | v :: t => by
    have ih := e_slw_len b bs t
    have hc : (e_mv b bs v).category = if e_isL v = true then 2 else 1 := by cases v <;> rfl
    simp only [lg_sl, List.map_cons, List.flatMap_cons, List.length_append, e_slw] at ih ⊢
    rw [ih, hc]
    cases e_isL v <;> simp
theorem e_slw_app : ∀ As Bs : List Value, e_slw (As ++ Bs) = e_slw As + e_slw Bs
  | [], Bs => by simp [e_slw]
  | v :: t, Bs => by
    simp only [List.cons_append, e_slw, e_slw_app t Bs]
    omega
theorem e_slw_rev : ∀ As : List Value, e_slw As.reverse = e_slw As
  | [] => rfl
  | v :: t => by
    simp only [List.reverse_cons, e_slw_app, e_slw_rev t, e_slw]
    omega
def e_Sim (l : Launch) (D : va_G) (CA : Nat → ClassId) (bs b L : Nat) (xs : Nat → Int32) (f : Nat) : Prop :=
  ∀ (y : Nat) (is : List e_Op) (lv : e_Lv) (st : List Value) (M : e_Mem) (res : e_Rs) (w : List (List Nat)), c_blk y is w = true → e_ev xs L f is lv st M = some res →
  ∀ (p : Program) (e : Env) (R : Room) (s : State) (m : MethodId) (args : Array Value) (below : List Frame) (meth : Method) (c : Code) (n0 : Nat), n0 ≤ M.1 → e_mF y ≤ R.frames → e_mQ y ≤ R.locals → res.2.1 - n0 ≤ R.cells → e_SZ res.2.1 - e_SZ n0 ≤ R.slots → e_Cx p s m args meth c D CA bs b L xs y →
  e_G p l e R s m args below meth c (MQ below (e_Qc D CA bs b res) args s (res.2.1 - n0) (e_SZ res.2.1 - e_SZ n0) (fun q => bs + 1 ≤ q)) D CA bs b y ((e_hpc is).getD 0) lv st M (M.1 - n0) (e_SZ M.1 - e_SZ n0)
theorem e_metOf {l : Launch} {D : va_G} {CA : Nat → ClassId} {bs b L : Nat} {xs : Nat → Int32} {f : Nat} (ih : e_Sim l D CA bs b L xs f) {z a : Nat} {As : List Value} {M : e_Mem} {res : e_Rs} {w : List (List Nat)} (hcls : (e_mN z).cls = e_mO z) (hb : c_blk z (e_lbl a) w = true) (h0 : e_hpc (e_lbl a) = some 0) (hpl : plainName (e_mN z).cls = true) (hev : e_ev xs L f (e_lbl a) (lv_args 0 As) [] M = some res) (hlen : e_slw As ≤ e_mL z) : e_Met l D CA bs b L xs z As M res := by
  refine Met.ofW (cc := e_mB z) (maxL := e_mL z) (ret := e_mR z) hpl rfl ?_
  intro p e s m args below meth c s₁ B hml hv
  obtain ⟨hargs, hR, hW, hK, hX, hbl, hbs⟩ := hv
  subst hargs
  have key := ih z (e_lbl a) (lv_args 0 As) [] M res w hb hev p e (headSpec (e_ws z) (e_rm z (res.2.1 - M.1) (e_SZ res.2.1 - e_SZ M.1))).room s m (As.map (e_mv b bs)).toArray below meth c M.1 (Nat.le_refl _) (Nat.le_refl _) (Nat.le_refl _) (Nat.le_refl _) (Nat.le_refl _) ⟨B.exec, B.bytes, hml, B.returns, B.notSynchronized, hcls ▸ findClass_of_methodNamed B.named, fun h => (name_of_methodNamed B.named B.method).1.trans h, hW, hK, hX, hbl, hbs, by rw [hR.1]; omega, e_T_of hW _⟩
  have k2 := key s.heap [] _ hR va_S.rf (e_LR.entry (b := b) (bs := bs) (As := As) (by rw [e_slw_len]; exact hlen))
  rw [h0, Nat.sub_self, Nat.sub_self] at k2
  rw [lg_entry_eq]
  exact k2
set_option maxHeartbeats 4000000 in
theorem e_sim (l : Launch) (D : va_G) (CA : Nat → ClassId) (bs b L : Nat) (xs : Nat → Int32) (hchk : ∀ t, t < e_labs.length → ∃ w, c_blk (e_lm t) (e_lbl t) w = true) : ∀ f : Nat, e_Sim l D CA bs b L xs f
  | 0 => by
    intro y is lv st M res w hb hev
    simp [e_ev] at hev
  | f + 1 => by
    have ih := e_sim l D CA bs b L xs hchk f
    intro y is lv st M res w hb hev p e R s m args below meth c n0 hn0 hfr hlo hrc hrs C0
    cases is with
    | nil => simp [e_ev] at hev
    | cons op is =>
    have hop := e_blk_op hb
    show e_G p l e R s m args below meth c _ D CA bs b y op.1 lv st M _ _
    simp only [e_ev] at hev
    split at hev
    · split at hev
      · cases hev
      · rename_i lv' st' M' h1
        have hm1 := e_one_mono h1
        have hm2 := e_mono _ _ _ _ _ _ hev
        have hz1 := e_SZ_le hm1
        have hz2 := e_SZ_le hm2
        have hz0 := e_SZ_le hn0
        try dsimp only at hm1 hm2 hz1 hz2
        obtain ⟨hb2, hpc⟩ := e_blk_next hb (e_one_term h1)
        refine e_sim1 C0 hop h1 hfr hlo (by omega) (by omega) (fun cells' slots' hc hs => ?_)
        have key := ih y is lv' st' M' res w.tail hb2 hev p e R s m args below meth c n0 (by omega) hfr hlo hrc hrs C0
        rw [hpc] at key
        rw [hc, hs, show M.1 - n0 + (M'.1 - M.1) = M'.1 - n0 by omega, show e_SZ M.1 - e_SZ n0 + (e_SZ M'.1 - e_SZ M.1) = e_SZ M'.1 - e_SZ n0 by omega]
        exact key
      · rename_i t lv' st' M' h1
        have hm1 := e_one_mono h1
        have hm2 := e_mono _ _ _ _ _ _ hev
        have hz1 := e_SZ_le hm1
        have hz2 := e_SZ_le hm2
        have hz0 := e_SZ_le hn0
        try dsimp only at hm1 hm2 hz1 hz2
        obtain ⟨pc', hpc, hlm⟩ := e_one_jmp hop h1
        obtain ⟨w2, hw2⟩ := hchk t (e_lbl_lt hpc)
        rw [hlm] at hw2
        refine e_sim1 C0 hop h1 hfr hlo (by omega) (by omega) (fun cells' slots' hc hs => ?_)
        have key := ih y (e_lbl t) lv' st' M' res w2 hw2 hev p e R s m args below meth c n0 (by omega) hfr hlo hrc hrs C0
        rw [hc, hs, show M.1 - n0 + (M'.1 - M.1) = M'.1 - n0 by omega, show e_SZ M.1 - e_SZ n0 + (e_SZ M'.1 - e_SZ M.1) = e_SZ M'.1 - e_SZ n0 by omega]
        exact key
    · rename_i hk
      obtain ⟨r, hr, rfl⟩ := Option.map_eq_some_iff.mp hev
      obtain ⟨pc, ins, v, a, bb, cz⟩ := op
      intro H locs ls hR hS hL
      cases ins
      case ireturn =>
        simp only [c_op, Bool.and_eq_true] at hop
        obtain ⟨hd, hx⟩ := hop
        simp only [e_ret] at hr
        split at hr
        · rename_i x
          split at hr
          · rename_i hax
            cases hr
            refine g_iret C0 ?_ (of_decide_eq_true hd) hR hS
            split at hx
            · exact Or.inl (of_decide_eq_true hx)
            · rename_i ha
              exact Or.inr ⟨(of_decide_eq_true hx).2, hax.resolve_left ha⟩
          · cases hr
        · cases hr
      case lreturn =>
        simp only [c_op, Bool.and_eq_true, decide_eq_true_eq] at hop
        obtain ⟨hd, hx⟩ := hop
        simp only [e_ret] at hr
        split at hr
        · cases hr
          exact g_lret C0 hx (of_decide_eq_true hd) hR hS
        · cases hr
      case return_ =>
        simp only [c_op, Bool.and_eq_true, decide_eq_true_eq] at hop
        obtain ⟨hd, hx⟩ := hop
        simp only [e_ret] at hr
        split at hr
        · cases hr
          exact g_ret0 C0 hx (of_decide_eq_true hd) hR hS
        · cases hr
      all_goals (simp [e_ret] at hr)
    · rename_i hk0 hk1
      split at hev
      · rename_i hcond
        obtain ⟨hb1, hb2, hrec, hsl⟩ := hcond
        split at hev
        · cases hev
        · rename_i r M1 h1
          obtain ⟨pc, ins, v, a, bb, cz⟩ := op
          dsimp only at hb1 hb2 hrec hsl h1 hev
          obtain ⟨As, rest, rfl, hAl⟩ : ∃ As rest, st = As.reverse ++ rest ∧ As.length = bb := ⟨(st.take bb).reverse, st.drop bb, by simp, by simp [hb1]⟩
          rw [List.take_left' (by simp [hAl])] at hrec hsl h1
          rw [List.drop_left' (by simp [hAl])] at hev
          rw [List.reverse_reverse] at h1
          rw [e_slw_rev] at hsl
          have hrl : rest.length ≤ 4 := by simp only [List.length_append, List.length_reverse] at hb2; omega
          have hm1 := e_mono _ _ _ _ _ _ h1
          have hm2 := e_mono _ _ _ _ _ _ hev
          have hz1 := e_SZ_le hm1
          have hz2 := e_SZ_le hm2
          have hz0 := e_SZ_le hn0
          try dsimp only at hm1 hm2 hz1 hz2
          have hW := C0.2.2.2.2.2.2.2.1
          have next : e_term ins = false → e_G p l e R s m args below meth c (MQ below (e_Qc D CA bs b res) args s (res.2.1 - n0) (e_SZ res.2.1 - e_SZ n0) (fun q => bs + 1 ≤ q)) D CA bs b y (pc + e_len ins) lv (r.toList ++ rest) M1 (M.1 - n0 + (M1.1 - M.1)) (e_SZ M.1 - e_SZ n0 + (e_SZ M1.1 - e_SZ M.1)) := fun ht => by
            obtain ⟨hb2, hpc⟩ := e_blk_next hb ht
            have key := ih y is lv (r.toList ++ rest) M1 res w.tail hb2 hev p e R s m args below meth c n0 (by omega) hfr hlo hrc hrs C0
            rw [hpc] at key
            rw [show M.1 - n0 + (M1.1 - M.1) = M1.1 - n0 by omega, show e_SZ M.1 - e_SZ n0 + (e_SZ M1.1 - e_SZ M.1) = e_SZ M1.1 - e_SZ n0 by omega]
            exact key
          have hr1 : M.1 - n0 + (M1.1 - M.1) ≤ R.cells := by omega
          have hr2 : e_SZ M.1 - e_SZ n0 + (e_SZ M1.1 - e_SZ M.1) ≤ R.slots := by omega
          have met : ∀ i, c_call y i a cz = true → e_Met l D CA bs b L xs cz As M (r, M1) ∧ e_Cs y cz ∧ (Jvm.Cond.code (e_mN cz) (e_mB cz) (e_mL cz) (e_mR cz)).before args s = true ∧ (Jvm.Cond.initialized (e_mN cz).cls).before args s = true ∧ (parseMethodDescriptor (e_mN cz).desc).map (fun d => d.parameters.length) = some (e_mP cz) ∧ (1 ≤ cz ∧ cz < 147) ∧ ((e_mo y, i, cz, 0) ∈ e_MLs ∨ (e_mo y, i, cz, 1) ∈ e_MLs) := fun i hc => by
            simp only [c_call, Bool.and_eq_true, decide_eq_true_eq, Bool.or_eq_true] at hc
            obtain ⟨⟨c1, c2, c3, c4, c5, c6⟩, c7⟩ := hc
            obtain ⟨w2, hw2⟩ := hchk a (e_lbl_lt c2)
            rw [c1] at hw2
            obtain ⟨z1, z2, z3, z4, z5, z6⟩ := e_zf c5 c6
            obtain ⟨o1, o2, -⟩ := e_zs_ok cz c5 c6
            exact ⟨e_metOf ih z1 hw2 c2 z3 h1 hsl, ⟨c3, c4, z2⟩, e_wk_b o1 rfl hW args, e_wk_b o2 rfl hW args, z4, ⟨c5, c6⟩, c7⟩
          have lk0 : ∀ i, (e_mo y, i, cz, 0) ∈ e_MLs → (Jvm.Cond.methodLink (e_mO y) i (e_mN cz)).before args s = true := fun i h => by
            have := e_MLs_ok _ h
            simp only [e_mlok, if_true] at this
            exact e_wk_b this rfl hW args
          have lk1 : ∀ i, (e_mo y, i, cz, 1) ∈ e_MLs → va_Nw (.methodLinkNest (e_mO y) i (e_mN cz) "FeederControl") s := fun i h => by
            have := e_MLs_ok _ h
            simp only [e_mlok, show ¬ (1 : Nat) = 0 by decide, if_false] at this
            exact e_wk_nw this hW
          have rcv : e_recv As.reverse.getLast? M.1 (e_mC cz) = true → bb = e_mP cz + 1 → ∃ q As', As = .ref q :: As' ∧ (1 ≤ q ∧ q ≤ M.1 ∧ (e_kd q).1 = e_mC cz) ∧ As'.length = e_mP cz := fun h3 hbb => by
            cases As with
            | nil => simp at hAl; omega
            | cons v0 As =>
              rw [List.getLast?_reverse, List.head?_cons] at h3
              cases v0 <;> simp only [e_recv] at h3 <;> try (cases h3; done)
              rename_i q
              exact ⟨q, As, rfl, of_decide_eq_true h3, by simp at hAl; omega⟩
          cases ins
          case invokestatic i =>
            have h9 : cz < 900 := by
              rcases Nat.lt_or_ge cz 900 with q | q
              · exact q
              · exact absurd (by simp [e_kind, Nat.not_lt.mpr q]) hk0
            simp only [c_op, Bool.and_eq_true, show ¬ cz = 998 by omega, show ¬ cz = 991 by omega, show ¬ cz = 992 by omega, show ¬ cz = 993 by omega, show ¬ cz = 994 by omega, if_false, decide_eq_true_eq] at hop
            obtain ⟨hd, hcc, hK, hbb⟩ := hop
            obtain ⟨hM, hst, hco, hin, hp, ⟨z1, z2⟩, hl⟩ := met _ hcc
            have hx := e_wk_b ((e_zs_ok cz z1 z2).2.2.1 hK) rfl hW args
            have hp' : (parseMethodDescriptor (e_mN cz).desc).map (fun d => d.parameters.length) = some As.length := by rw [hp, hAl, hbb]
            rcases hl with hl | hl
            · exact g_callS C0 hM hst hco hin hp' (lk0 i hl) hx hfr hlo hr1 hr2 hrl (of_decide_eq_true hd) (next rfl)
            · exact g_callSN C0 hM hst hco hin hp' (lk1 i hl) hx hfr hlo hr1 hr2 hrl (of_decide_eq_true hd) (next rfl)
          case invokespecial i =>
            have hc9 : cz < 900 := by
              rcases Nat.lt_or_ge cz 900 with q | q
              · exact q
              · exact absurd (by simp [e_kind, Nat.not_lt.mpr q]) hk0
            have h3 : e_recv As.reverse.getLast? M.1 (e_mC cz) = true := hrec (by simp [e_kind, hc9])
            simp only [c_op, Bool.and_eq_true, show ¬ cz = 999 by omega, if_false, decide_eq_true_eq] at hop
            obtain ⟨hd, hcc, hK, hbb⟩ := hop
            obtain ⟨hM, hst, hco, hin, hp, ⟨z1, z2⟩, hl⟩ := met _ hcc
            obtain ⟨hnm, hrn⟩ := (e_zf z1 z2).2.2.2.2.1 hK
            have hx := e_wk_b ((e_zs_ok cz z1 z2).2.2.2.1 (Or.inl hK)) rfl hW args
            obtain ⟨q, As', rfl, hq, hal⟩ := rcv h3 hbb
            have est : (Value.ref q :: As').reverse ++ rest = As'.reverse ++ .ref q :: rest := by simp
            rw [est]
            have hp' : (parseMethodDescriptor (e_mN cz).desc).map (fun d => d.parameters.length) = some As'.length := by rw [hp, hal]
            rcases hl with hl | hl
            · exact g_callI C0 hM hst hco hin hp' hq.1 hrn hnm (lk0 i hl) hx hfr hlo hr1 hr2 hrl (of_decide_eq_true hd) (next rfl)
            · exact g_callIN C0 hM hst hco hin hp' hq.1 hrn hnm (lk1 i hl) hx hfr hlo hr1 hr2 hrl (of_decide_eq_true hd) (next rfl)
          case invokevirtual i =>
            have hc9 : cz < 900 := by
              rcases Nat.lt_or_ge cz 900 with q | q
              · exact q
              · exact absurd (by simp [e_kind, Nat.not_lt.mpr q]) hk0
            have h3 : e_recv As.reverse.getLast? M.1 (e_mC cz) = true := hrec (by simp [e_kind, hc9])
            simp only [c_op, Bool.and_eq_true, decide_eq_true_eq] at hop
            obtain ⟨hd, hcc, hl, hK, hbb⟩ := hop
            obtain ⟨hM, hst, hco, hin, hp, ⟨z1, z2⟩, -⟩ := met _ hcc
            obtain ⟨hcz, hcv⟩ := (e_zf z1 z2).2.2.2.2.2 hK
            have hx := e_wk_b ((e_zs_ok cz z1 z2).2.2.2.1 (Or.inr hK)) rfl hW args
            have hse := e_wk_b ((e_zs_ok cz z1 z2).2.2.2.2 hK) rfl hW args
            obtain ⟨rw_, hv, hcn⟩ := Option.map_eq_some_iff.mp hcv
            obtain ⟨q, As', rfl, hq, hal⟩ := rcv h3 hbb
            have est : (Value.ref q :: As').reverse ++ rest = As'.reverse ++ .ref q :: rest := by simp
            rw [est]
            have hp' : (parseMethodDescriptor (e_mN cz).desc).map (fun d => d.parameters.length) = some As'.length := by rw [hp, hal]
            exact g_callV C0 hM hst hco hin hp' hq.1 hq.2.1 hq.2.2 hcz hv hcn (lk0 i hl) hx hse hfr hlo hr1 hr2 hrl (of_decide_eq_true hd) (next rfl)
          all_goals first | exact (hk0 rfl).elim | exact (hk1 rfl).elim
      · cases hev
end
section
/-! each op list, checked by the kernel: labels 0 to 140 -/
set_option maxRecDepth 100000 in
theorem e_q0 : c_blk 0 kL_law_156 [] = true := by decide +kernel
set_option maxRecDepth 100000 in
theorem e_q1 : c_blk 0 kL_law_179 [] = true := by decide +kernel
set_option maxRecDepth 100000 in
theorem e_q2 : c_blk 0 kL_law_232 [] = true := by decide +kernel
set_option maxRecDepth 100000 in
theorem e_q3 : c_blk 0 kL_law_275 [] = true := by decide +kernel
set_option maxRecDepth 100000 in
theorem e_q4 : c_blk 0 kL_law_308 [] = true := by decide +kernel
set_option maxRecDepth 100000 in
theorem e_q5 : c_blk 0 kL_law_331 [] = true := by decide +kernel
set_option maxRecDepth 100000 in
theorem e_q6 : c_blk 0 kL_law_344 [] = true := by decide +kernel
set_option maxRecDepth 100000 in
theorem e_q7 : c_blk 0 kL_law_357 [] = true := by decide +kernel
set_option maxRecDepth 100000 in
theorem e_q8 : c_blk 0 kL_law_420 [] = true := by decide +kernel
set_option maxRecDepth 100000 in
theorem e_q9 : c_blk 0 kL_law_453 [] = true := by decide +kernel
set_option maxRecDepth 100000 in
theorem e_q10 : c_blk 0 kL_law_528 [] = true := by decide +kernel
set_option maxRecDepth 100000 in
theorem e_q11 : c_blk 0 kL_law_561 [] = true := by decide +kernel
set_option maxRecDepth 100000 in
theorem e_q12 : c_blk 0 kL_law_584 [] = true := by decide +kernel
set_option maxRecDepth 100000 in
theorem e_q13 : c_blk 0 kL_law_597 [] = true := by decide +kernel
set_option maxRecDepth 100000 in
theorem e_q14 : c_blk 0 kL_law_620 [] = true := by decide +kernel
set_option maxRecDepth 100000 in
theorem e_q15 : c_blk 0 kL_law_643 [] = true := by decide +kernel
set_option maxRecDepth 100000 in
theorem e_q16 : c_blk 0 kL_law_666 [] = true := by decide +kernel
set_option maxRecDepth 100000 in
theorem e_q17 : c_blk 0 kL_law_689 [] = true := by decide +kernel
set_option maxRecDepth 100000 in
theorem e_q18 : c_blk 0 kL_law_712 [] = true := by decide +kernel
set_option maxRecDepth 100000 in
theorem e_q19 : c_blk 0 kL_law_735 [] = true := by decide +kernel
set_option maxRecDepth 100000 in
theorem e_q20 : c_blk 0 kL_law_758 [] = true := by decide +kernel
set_option maxRecDepth 100000 in
theorem e_q21 : c_blk 0 kL_law_781 [] = true := by decide +kernel
set_option maxRecDepth 100000 in
theorem e_q22 : c_blk 0 kL_law_794 [] = true := by decide +kernel
set_option maxRecDepth 100000 in
theorem e_q23 : c_blk 0 kL_law_817 [] = true := by decide +kernel
set_option maxRecDepth 100000 in
theorem e_q24 : c_blk 0 kL_law_850 [] = true := by decide +kernel
set_option maxRecDepth 100000 in
theorem e_q25 : c_blk 0 kL_law_863 [] = true := by decide +kernel
set_option maxRecDepth 100000 in
theorem e_q26 : c_blk 0 kL_law_886 [] = true := by decide +kernel
set_option maxRecDepth 100000 in
theorem e_q27 : c_blk 0 kL_law_0 [[52, 53, 40], [], [], [], [681, 682, 49], [], [], [], [], [], []] = true := by decide +kernel
set_option maxRecDepth 100000 in
theorem e_q28 : c_blk 0 kL_law_18 [] = true := by decide +kernel
set_option maxRecDepth 100000 in
theorem e_q29 : c_blk 0 kL_law_900 [] = true := by decide +kernel
set_option maxRecDepth 100000 in
theorem e_q30 : c_blk 0 kL_law_906 [] = true := by decide +kernel
set_option maxRecDepth 100000 in
theorem e_q31 : c_blk 1 kX0_init_0 [[], [134, 58, 59], []] = true := by decide +kernel
set_option maxRecDepth 100000 in
theorem e_q32 : c_blk 2 kX0_copyFrom_0 [] = true := by decide +kernel
set_option maxRecDepth 100000 in
theorem e_q33 : c_blk 3 kX0_isByTime_0 [] = true := by decide +kernel
set_option maxRecDepth 100000 in
theorem e_q34 : c_blk 3 kX0_isByTime_19 [] = true := by decide +kernel
set_option maxRecDepth 100000 in
theorem e_q35 : c_blk 3 kX0_isByTime_20 [] = true := by decide +kernel
set_option maxRecDepth 100000 in
theorem e_q36 : c_blk 4 kX0_isByFlow_0 [] = true := by decide +kernel
set_option maxRecDepth 100000 in
theorem e_q37 : c_blk 4 kX0_isByFlow_19 [] = true := by decide +kernel
set_option maxRecDepth 100000 in
theorem e_q38 : c_blk 4 kX0_isByFlow_20 [] = true := by decide +kernel
set_option maxRecDepth 100000 in
theorem e_q39 : c_blk 5 kX0_isOnByTime_0 [] = true := by decide +kernel
set_option maxRecDepth 100000 in
theorem e_q40 : c_blk 5 kX0_isOnByTime_31 [] = true := by decide +kernel
set_option maxRecDepth 100000 in
theorem e_q41 : c_blk 5 kX0_isOnByTime_35 [] = true := by decide +kernel
set_option maxRecDepth 100000 in
theorem e_q42 : c_blk 5 kX0_isOnByTime_51 [] = true := by decide +kernel
set_option maxRecDepth 100000 in
theorem e_q43 : c_blk 5 kX0_isOnByTime_55 [] = true := by decide +kernel
set_option maxRecDepth 100000 in
theorem e_q44 : c_blk 5 kX0_isOnByTime_56 [] = true := by decide +kernel
set_option maxRecDepth 100000 in
theorem e_q45 : c_blk 6 kX0_supply_0 [] = true := by decide +kernel
set_option maxRecDepth 100000 in
theorem e_q46 : c_blk 6 kX0_supply_19 [] = true := by decide +kernel
set_option maxRecDepth 100000 in
theorem e_q47 : c_blk 6 kX0_supply_23 [] = true := by decide +kernel
set_option maxRecDepth 100000 in
theorem e_q48 : c_blk 6 kX0_supply_35 [] = true := by decide +kernel
set_option maxRecDepth 100000 in
theorem e_q49 : c_blk 6 kX0_supply_36 [] = true := by decide +kernel
set_option maxRecDepth 100000 in
theorem e_q50 : c_blk 7 kX0_countMinute_0 [] = true := by decide +kernel
set_option maxRecDepth 100000 in
theorem e_q51 : c_blk 7 kX0_countMinute_19 [] = true := by decide +kernel
set_option maxRecDepth 100000 in
theorem e_q52 : c_blk 7 kX0_countMinute_23 [] = true := by decide +kernel
set_option maxRecDepth 100000 in
theorem e_q53 : c_blk 7 kX0_countMinute_35 [] = true := by decide +kernel
set_option maxRecDepth 100000 in
theorem e_q54 : c_blk 7 kX0_countMinute_36 [] = true := by decide +kernel
set_option maxRecDepth 100000 in
theorem e_q55 : c_blk 7 kX0_countMinute_51 [] = true := by decide +kernel
set_option maxRecDepth 100000 in
theorem e_q56 : c_blk 7 kX0_countMinute_52 [] = true := by decide +kernel
set_option maxRecDepth 100000 in
theorem e_q57 : c_blk 8 kX0_isDue_0 [] = true := by decide +kernel
set_option maxRecDepth 100000 in
theorem e_q58 : c_blk 8 kX0_isDue_15 [] = true := by decide +kernel
set_option maxRecDepth 100000 in
theorem e_q59 : c_blk 8 kX0_isDue_16 [] = true := by decide +kernel
set_option maxRecDepth 100000 in
theorem e_q60 : c_blk 9 kX0_change_0 [] = true := by decide +kernel
set_option maxRecDepth 100000 in
theorem e_q61 : c_blk 9 kX0_change_12 [] = true := by decide +kernel
set_option maxRecDepth 100000 in
theorem e_q62 : c_blk 9 kX0_change_13 [] = true := by decide +kernel
set_option maxRecDepth 100000 in
theorem e_q63 : c_blk 10 kX1_init_0 [[], [65, 58, 59], [], [], [], [], [], [128], [], [], [], [66, 67], [], [], [], []] = true := by decide +kernel
set_option maxRecDepth 100000 in
theorem e_q64 : c_blk 10 kX1_init_30 [] = true := by decide +kernel
set_option maxRecDepth 100000 in
theorem e_q65 : c_blk 10 kX1_init_50 [] = true := by decide +kernel
set_option maxRecDepth 100000 in
theorem e_q66 : c_blk 10 kX1_init_52 [[], [], [], [], [], [], [66, 68, 42], [], [], [], [], []] = true := by decide +kernel
set_option maxRecDepth 100000 in
theorem e_q67 : c_blk 10 kX1_init_77 [] = true := by decide +kernel
set_option maxRecDepth 100000 in
theorem e_q68 : c_blk 11 kX1_copyFrom_0 [[], [], [], [], [], [], [], [], [], [], [], [], [], [], [], [], [], [], [], [], [], [], [], [372, 374, 373, 50], [], [], []] = true := by decide +kernel
set_option maxRecDepth 100000 in
theorem e_q69 : c_blk 11 kX1_copyFrom_49 [] = true := by decide +kernel
set_option maxRecDepth 100000 in
theorem e_q70 : c_blk 11 kX1_copyFrom_76 [] = true := by decide +kernel
set_option maxRecDepth 100000 in
theorem e_q71 : c_blk 12 kX1_hour_0 [[], [], [], [], [], [501, 503, 502, 51], []] = true := by decide +kernel
set_option maxRecDepth 100000 in
theorem e_q72 : c_blk 13 kX1_releaseLocks_0 [] = true := by decide +kernel
set_option maxRecDepth 100000 in
theorem e_q73 : c_blk 13 kX1_releaseLocks_2 [] = true := by decide +kernel
set_option maxRecDepth 100000 in
theorem e_q74 : c_blk 13 kX1_releaseLocks_28 [] = true := by decide +kernel
set_option maxRecDepth 100000 in
theorem e_q75 : c_blk 14 kX1_switchBanksByTime_0 [] = true := by decide +kernel
set_option maxRecDepth 100000 in
theorem e_q76 : c_blk 14 kX1_switchBanksByTime_7 [] = true := by decide +kernel
set_option maxRecDepth 100000 in
theorem e_q77 : c_blk 14 kX1_switchBanksByTime_41 [] = true := by decide +kernel
set_option maxRecDepth 100000 in
theorem e_q78 : c_blk 14 kX1_switchBanksByTime_47 [] = true := by decide +kernel
set_option maxRecDepth 100000 in
theorem e_q79 : c_blk 15 kX1_switchBankByFlow_0 [] = true := by decide +kernel
set_option maxRecDepth 100000 in
theorem e_q80 : c_blk 15 kX1_switchBankByFlow_4 [] = true := by decide +kernel
set_option maxRecDepth 100000 in
theorem e_q81 : c_blk 15 kX1_switchBankByFlow_61 [] = true := by decide +kernel
set_option maxRecDepth 100000 in
theorem e_q82 : c_blk 15 kX1_switchBankByFlow_67 [] = true := by decide +kernel
set_option maxRecDepth 100000 in
theorem e_q83 : c_blk 16 kX1_moveRegulators_0 [] = true := by decide +kernel
set_option maxRecDepth 100000 in
theorem e_q84 : c_blk 16 kX1_moveRegulators_5 [] = true := by decide +kernel
set_option maxRecDepth 100000 in
theorem e_q85 : c_blk 16 kX1_moveRegulators_81 [] = true := by decide +kernel
set_option maxRecDepth 100000 in
theorem e_q86 : c_blk 16 kX1_moveRegulators_87 [] = true := by decide +kernel
set_option maxRecDepth 100000 in
theorem e_q87 : c_blk 17 kX2_init_0 [[], [239, 58, 59], [], [], [128], [], [], [], [128], [], [], [], [128], [], []] = true := by decide +kernel
set_option maxRecDepth 100000 in
theorem e_q88 : c_blk 18 kX2_solve_0 [] = true := by decide +kernel
set_option maxRecDepth 100000 in
theorem e_q89 : c_blk 19 kX2_sumLoads_0 [] = true := by decide +kernel
set_option maxRecDepth 100000 in
theorem e_q90 : c_blk 19 kX2_sumLoads_20 [] = true := by decide +kernel
set_option maxRecDepth 100000 in
theorem e_q91 : c_blk 19 kX2_sumLoads_102 [] = true := by decide +kernel
set_option maxRecDepth 100000 in
theorem e_q92 : c_blk 20 kX2_findVoltages_0 [] = true := by decide +kernel
set_option maxRecDepth 100000 in
theorem e_q93 : c_blk 20 kX2_findVoltages_17 [] = true := by decide +kernel
set_option maxRecDepth 100000 in
theorem e_q94 : c_blk 20 kX2_findVoltages_45 [] = true := by decide +kernel
set_option maxRecDepth 100000 in
theorem e_q95 : c_blk 20 kX2_findVoltages_53 [[], [], [], [], [], [], [], [], [], [], [], [], [], [], [], [], [], [], [], [], [], [], [], [], [], [], [], [], [], [], [], [531, 533, 532, 51], [], [], [], [], [], [], [], []] = true := by decide +kernel
set_option maxRecDepth 100000 in
theorem e_q96 : c_blk 20 kX2_findVoltages_128 [] = true := by decide +kernel
set_option maxRecDepth 100000 in
theorem e_q97 : c_blk 21 kX2_countBadNodes_0 [] = true := by decide +kernel
set_option maxRecDepth 100000 in
theorem e_q98 : c_blk 21 kX2_countBadNodes_4 [] = true := by decide +kernel
set_option maxRecDepth 100000 in
theorem e_q99 : c_blk 21 kX2_countBadNodes_36 [] = true := by decide +kernel
set_option maxRecDepth 100000 in
theorem e_q100 : c_blk 21 kX2_countBadNodes_42 [] = true := by decide +kernel
set_option maxRecDepth 100000 in
theorem e_q101 : c_blk 22 kX3_init_0 [[], [312, 58, 59], [], [], [313, 314], [], [], [], []] = true := by decide +kernel
set_option maxRecDepth 100000 in
theorem e_q102 : c_blk 22 kX3_init_14 [[], [], [], [], [], [], [313, 61, 41], [], [], [], [], []] = true := by decide +kernel
set_option maxRecDepth 100000 in
theorem e_q103 : c_blk 22 kX3_init_38 [] = true := by decide +kernel
set_option maxRecDepth 100000 in
theorem e_q104 : c_blk 23 kX3_save_0 [] = true := by decide +kernel
set_option maxRecDepth 100000 in
theorem e_q105 : c_blk 23 kX3_save_12 [] = true := by decide +kernel
set_option maxRecDepth 100000 in
theorem e_q106 : c_blk 24 kX3_dropOldest_0 [] = true := by decide +kernel
set_option maxRecDepth 100000 in
theorem e_q107 : c_blk 24 kX3_dropOldest_9 [] = true := by decide +kernel
set_option maxRecDepth 100000 in
theorem e_q108 : c_blk 24 kX3_dropOldest_34 [] = true := by decide +kernel
set_option maxRecDepth 100000 in
theorem e_q109 : c_blk 25 kX3_restore_0 [] = true := by decide +kernel
set_option maxRecDepth 100000 in
theorem e_q110 : c_blk 26 kX4_init_0 [[], [72, 58, 59], [], [73, 74, 43], [], [], [], [], [129, 130, 44], [], [], [], []] = true := by decide +kernel
set_option maxRecDepth 100000 in
theorem e_q111 : c_blk 27 kX4_copyFrom_0 [] = true := by decide +kernel
set_option maxRecDepth 100000 in
theorem e_q112 : c_blk 28 kX5_init_0 [[], [261, 58, 59], [], [262, 235, 45], [], [], [], [], [], [], [264, 265, 128], [], [], [], [128], [], [], [], [128], [], []] = true := by decide +kernel
set_option maxRecDepth 100000 in
theorem e_q113 : c_blk 29 kX5_makePlan_0 [] = true := by decide +kernel
set_option maxRecDepth 100000 in
theorem e_q114 : c_blk 29 kX5_makePlan_2 [] = true := by decide +kernel
set_option maxRecDepth 100000 in
theorem e_q115 : c_blk 29 kX5_makePlan_21 [] = true := by decide +kernel
set_option maxRecDepth 100000 in
theorem e_q116 : c_blk 29 kX5_makePlan_24 [] = true := by decide +kernel
set_option maxRecDepth 100000 in
theorem e_q117 : c_blk 29 kX5_makePlan_46 [[], [], [], [], [], [], [], [], [], [], [], [], [], [], [], [], [], [634], [], [], []] = true := by decide +kernel
set_option maxRecDepth 100000 in
theorem e_q118 : c_blk 29 kX5_makePlan_83 [] = true := by decide +kernel
set_option maxRecDepth 100000 in
theorem e_q119 : c_blk 30 kX5_countStepsAfter_0 [] = true := by decide +kernel
set_option maxRecDepth 100000 in
theorem e_q120 : c_blk 30 kX5_countStepsAfter_13 [] = true := by decide +kernel
set_option maxRecDepth 100000 in
theorem e_q121 : c_blk 30 kX5_countStepsAfter_52 [] = true := by decide +kernel
set_option maxRecDepth 100000 in
theorem e_q122 : c_blk 30 kX5_countStepsAfter_53 [] = true := by decide +kernel
set_option maxRecDepth 100000 in
theorem e_q123 : c_blk 30 kX5_countStepsAfter_78 [[634], []] = true := by decide +kernel
set_option maxRecDepth 100000 in
theorem e_q124 : c_blk 30 kX5_countStepsAfter_80 [] = true := by decide +kernel
set_option maxRecDepth 100000 in
theorem e_q125 : c_blk 30 kX5_countStepsAfter_87 [] = true := by decide +kernel
set_option maxRecDepth 100000 in
theorem e_q126 : c_blk 31 kX5_countStepsFrom_0 [] = true := by decide +kernel
set_option maxRecDepth 100000 in
theorem e_q127 : c_blk 31 kX5_countStepsFrom_2 [] = true := by decide +kernel
set_option maxRecDepth 100000 in
theorem e_q128 : c_blk 31 kX5_countStepsFrom_28 [] = true := by decide +kernel
set_option maxRecDepth 100000 in
theorem e_q129 : c_blk 31 kX5_countStepsFrom_30 [[], [], [], [], [], [], [], [], [], [], [], [], [], [], [], [], [], [], [639, 641, 640, 51], [], [], []] = true := by decide +kernel
set_option maxRecDepth 100000 in
theorem e_q130 : c_blk 31 kX5_countStepsFrom_67 [] = true := by decide +kernel
set_option maxRecDepth 100000 in
theorem e_q131 : c_blk 31 kX5_countStepsFrom_70 [[], [], [], [], [], [], [], [], [], [], [], [], [], [], [], [], [], [639, 641, 640, 51], [], [], []] = true := by decide +kernel
set_option maxRecDepth 100000 in
theorem e_q132 : c_blk 31 kX5_countStepsFrom_105 [] = true := by decide +kernel
set_option maxRecDepth 100000 in
theorem e_q133 : c_blk 32 kX5_chooseTaps_0 [] = true := by decide +kernel
set_option maxRecDepth 100000 in
theorem e_q134 : c_blk 32 kX5_chooseTaps_4 [[], [], [], [], [], [646], [], [], [], []] = true := by decide +kernel
set_option maxRecDepth 100000 in
theorem e_q135 : c_blk 32 kX5_chooseTaps_20 [[], [], [], [], [], [], [647, 649, 648, 51], [], [], [], [], [], [], [], [], [], [], [], [], [], [], [], []] = true := by decide +kernel
set_option maxRecDepth 100000 in
theorem e_q136 : c_blk 32 kX5_chooseTaps_61 [] = true := by decide +kernel
set_option maxRecDepth 100000 in
theorem e_q137 : c_blk 32 kX5_chooseTaps_67 [] = true := by decide +kernel
set_option maxRecDepth 100000 in
theorem e_q138 : c_blk 32 kX5_chooseTaps_87 [] = true := by decide +kernel
set_option maxRecDepth 100000 in
theorem e_q139 : c_blk 33 kX6_init_0 [[], [289, 58, 59], [], [], [306], [], []] = true := by decide +kernel
set_option maxRecDepth 100000 in
theorem e_q140 : c_blk 34 kX6_readItems_0 [] = true := by decide +kernel
end
section
/-! each op list, checked by the kernel: labels 141 to 281 -/
set_option maxRecDepth 100000 in
theorem e_q141 : c_blk 34 kX6_readItems_21 [] = true := by decide +kernel
set_option maxRecDepth 100000 in
theorem e_q142 : c_blk 34 kX6_readItems_61 [] = true := by decide +kernel
set_option maxRecDepth 100000 in
theorem e_q143 : c_blk 35 kX6_readItem_0 [] = true := by decide +kernel
set_option maxRecDepth 100000 in
theorem e_q144 : c_blk 35 kX6_readItem_33 [] = true := by decide +kernel
set_option maxRecDepth 100000 in
theorem e_q145 : c_blk 35 kX6_readItem_63 [] = true := by decide +kernel
set_option maxRecDepth 100000 in
theorem e_q146 : c_blk 35 kX6_readItem_66 [] = true := by decide +kernel
set_option maxRecDepth 100000 in
theorem e_q147 : c_blk 35 kX6_readItem_84 [] = true := by decide +kernel
set_option maxRecDepth 100000 in
theorem e_q148 : c_blk 36 kX6_readNumber_0 [] = true := by decide +kernel
set_option maxRecDepth 100000 in
theorem e_q149 : c_blk 36 kX6_readNumber_9 [] = true := by decide +kernel
set_option maxRecDepth 100000 in
theorem e_q150 : c_blk 36 kX6_readNumber_21 [] = true := by decide +kernel
set_option maxRecDepth 100000 in
theorem e_q151 : c_blk 36 kX6_readNumber_71 [] = true := by decide +kernel
set_option maxRecDepth 100000 in
theorem e_q152 : c_blk 36 kX6_readNumber_104 [] = true := by decide +kernel
set_option maxRecDepth 100000 in
theorem e_q153 : c_blk 36 kX6_readNumber_122 [] = true := by decide +kernel
set_option maxRecDepth 100000 in
theorem e_q154 : c_blk 36 kX6_readNumber_129 [] = true := by decide +kernel
set_option maxRecDepth 100000 in
theorem e_q155 : c_blk 37 kX6_isNext_0 [] = true := by decide +kernel
set_option maxRecDepth 100000 in
theorem e_q156 : c_blk 37 kX6_isNext_32 [] = true := by decide +kernel
set_option maxRecDepth 100000 in
theorem e_q157 : c_blk 37 kX6_isNext_33 [] = true := by decide +kernel
set_option maxRecDepth 100000 in
theorem e_q158 : c_blk 38 kX6_expect_0 [] = true := by decide +kernel
set_option maxRecDepth 100000 in
theorem e_q159 : c_blk 38 kX6_expect_8 [] = true := by decide +kernel
set_option maxRecDepth 100000 in
theorem e_q160 : c_blk 38 kX6_expect_29 [] = true := by decide +kernel
set_option maxRecDepth 100000 in
theorem e_q161 : c_blk 38 kX6_expect_37 [] = true := by decide +kernel
set_option maxRecDepth 100000 in
theorem e_q162 : c_blk 39 kX6_skipSpaces_0 [] = true := by decide +kernel
set_option maxRecDepth 100000 in
theorem e_q163 : c_blk 39 kX6_skipSpaces_38 [] = true := by decide +kernel
set_option maxRecDepth 100000 in
theorem e_q164 : c_blk 40 kX7_init_0 [[], [78, 58, 59], []] = true := by decide +kernel
set_option maxRecDepth 100000 in
theorem e_q165 : c_blk 41 kX7_copyFrom_0 [] = true := by decide +kernel
set_option maxRecDepth 100000 in
theorem e_q166 : c_blk 42 kX7_release_0 [] = true := by decide +kernel
set_option maxRecDepth 100000 in
theorem e_q167 : c_blk 43 kX7_wantedDirection_0 [] = true := by decide +kernel
set_option maxRecDepth 100000 in
theorem e_q168 : c_blk 43 kX7_wantedDirection_18 [] = true := by decide +kernel
set_option maxRecDepth 100000 in
theorem e_q169 : c_blk 43 kX7_wantedDirection_20 [] = true := by decide +kernel
set_option maxRecDepth 100000 in
theorem e_q170 : c_blk 43 kX7_wantedDirection_44 [] = true := by decide +kernel
set_option maxRecDepth 100000 in
theorem e_q171 : c_blk 43 kX7_wantedDirection_70 [] = true := by decide +kernel
set_option maxRecDepth 100000 in
theorem e_q172 : c_blk 43 kX7_wantedDirection_71 [] = true := by decide +kernel
set_option maxRecDepth 100000 in
theorem e_q173 : c_blk 44 kX7_countMinute_0 [] = true := by decide +kernel
set_option maxRecDepth 100000 in
theorem e_q174 : c_blk 44 kX7_countMinute_12 [] = true := by decide +kernel
set_option maxRecDepth 100000 in
theorem e_q175 : c_blk 44 kX7_countMinute_29 [] = true := by decide +kernel
set_option maxRecDepth 100000 in
theorem e_q176 : c_blk 44 kX7_countMinute_39 [] = true := by decide +kernel
set_option maxRecDepth 100000 in
theorem e_q177 : c_blk 45 kX7_isDue_0 [] = true := by decide +kernel
set_option maxRecDepth 100000 in
theorem e_q178 : c_blk 45 kX7_isDue_22 [] = true := by decide +kernel
set_option maxRecDepth 100000 in
theorem e_q179 : c_blk 45 kX7_isDue_23 [] = true := by decide +kernel
set_option maxRecDepth 100000 in
theorem e_q180 : c_blk 46 kX7_makeStep_0 [] = true := by decide +kernel
set_option maxRecDepth 100000 in
theorem e_q181 : c_blk 46 kX7_makeStep_35 [] = true := by decide +kernel
set_option maxRecDepth 100000 in
theorem e_q182 : c_blk 46 kX7_makeStep_36 [] = true := by decide +kernel
set_option maxRecDepth 100000 in
theorem e_q183 : c_blk 46 kX7_makeStep_39 [] = true := by decide +kernel
set_option maxRecDepth 100000 in
theorem e_q184 : c_blk 47 kX8_init_0 [[], [57, 58, 59], [], [60, 61, 41], [], [], [], [], [234, 235, 45], [], [], [], [], [256, 257, 46], [], [], [], [], [284, 285, 47], [], [], [], [], [307, 308, 48], [], [], [], [], [], [128], [], [], [], [128], [], []] = true := by decide +kernel
set_option maxRecDepth 100000 in
theorem e_q185 : c_blk 48 kX8_setSource_0 [] = true := by decide +kernel
set_option maxRecDepth 100000 in
theorem e_q186 : c_blk 48 kX8_setSource_20 [] = true := by decide +kernel
set_option maxRecDepth 100000 in
theorem e_q187 : c_blk 49 kX8_addNode_0 [] = true := by decide +kernel
set_option maxRecDepth 100000 in
theorem e_q188 : c_blk 49 kX8_addNode_29 [] = true := by decide +kernel
set_option maxRecDepth 100000 in
theorem e_q189 : c_blk 49 kX8_addNode_36 [] = true := by decide +kernel
set_option maxRecDepth 100000 in
theorem e_q190 : c_blk 49 kX8_addNode_55 [] = true := by decide +kernel
set_option maxRecDepth 100000 in
theorem e_q191 : c_blk 50 kX8_setLoad_0 [] = true := by decide +kernel
set_option maxRecDepth 100000 in
theorem e_q192 : c_blk 50 kX8_setLoad_16 [] = true := by decide +kernel
set_option maxRecDepth 100000 in
theorem e_q193 : c_blk 50 kX8_setLoad_23 [] = true := by decide +kernel
set_option maxRecDepth 100000 in
theorem e_q194 : c_blk 51 kX8_setFactor_0 [] = true := by decide +kernel
set_option maxRecDepth 100000 in
theorem e_q195 : c_blk 51 kX8_setFactor_18 [] = true := by decide +kernel
set_option maxRecDepth 100000 in
theorem e_q196 : c_blk 51 kX8_setFactor_25 [] = true := by decide +kernel
set_option maxRecDepth 100000 in
theorem e_q197 : c_blk 52 kX8_append_0 [] = true := by decide +kernel
set_option maxRecDepth 100000 in
theorem e_q198 : c_blk 52 kX8_append_17 [] = true := by decide +kernel
set_option maxRecDepth 100000 in
theorem e_q199 : c_blk 52 kX8_append_36 [] = true := by decide +kernel
set_option maxRecDepth 100000 in
theorem e_q200 : c_blk 53 kX8_clearText_0 [] = true := by decide +kernel
set_option maxRecDepth 100000 in
theorem e_q201 : c_blk 54 kX8_parseProfile_0 [[], [], [], [], [], [], [], [], [421, 374, 373, 50], [], [], [], [], [], [], [], [], [], [], [], [], [], [], [], []] = true := by decide +kernel
set_option maxRecDepth 100000 in
theorem e_q202 : c_blk 54 kX8_parseProfile_51 [[], [], [], [], [], [], [], [], [], [], [], [], [], [421, 374, 373, 50], [], []] = true := by decide +kernel
set_option maxRecDepth 100000 in
theorem e_q203 : c_blk 55 kX8_addRegulator_0 [] = true := by decide +kernel
set_option maxRecDepth 100000 in
theorem e_q204 : c_blk 55 kX8_addRegulator_54 [] = true := by decide +kernel
set_option maxRecDepth 100000 in
theorem e_q205 : c_blk 55 kX8_addRegulator_61 [] = true := by decide +kernel
set_option maxRecDepth 100000 in
theorem e_q206 : c_blk 55 kX8_addRegulator_90 [] = true := by decide +kernel
set_option maxRecDepth 100000 in
theorem e_q207 : c_blk 55 kX8_addRegulator_138 [] = true := by decide +kernel
set_option maxRecDepth 100000 in
theorem e_q208 : c_blk 55 kX8_addRegulator_139 [] = true := by decide +kernel
set_option maxRecDepth 100000 in
theorem e_q209 : c_blk 56 kX8_setTap_0 [] = true := by decide +kernel
set_option maxRecDepth 100000 in
theorem e_q210 : c_blk 56 kX8_setTap_18 [] = true := by decide +kernel
set_option maxRecDepth 100000 in
theorem e_q211 : c_blk 56 kX8_setTap_34 [] = true := by decide +kernel
set_option maxRecDepth 100000 in
theorem e_q212 : c_blk 57 kX8_addBank_0 [] = true := by decide +kernel
set_option maxRecDepth 100000 in
theorem e_q213 : c_blk 57 kX8_addBank_41 [] = true := by decide +kernel
set_option maxRecDepth 100000 in
theorem e_q214 : c_blk 57 kX8_addBank_48 [] = true := by decide +kernel
set_option maxRecDepth 100000 in
theorem e_q215 : c_blk 57 kX8_addBank_77 [] = true := by decide +kernel
set_option maxRecDepth 100000 in
theorem e_q216 : c_blk 58 kX8_switchBank_0 [] = true := by decide +kernel
set_option maxRecDepth 100000 in
theorem e_q217 : c_blk 58 kX8_switchBank_16 [] = true := by decide +kernel
set_option maxRecDepth 100000 in
theorem e_q218 : c_blk 58 kX8_switchBank_32 [] = true := by decide +kernel
set_option maxRecDepth 100000 in
theorem e_q219 : c_blk 58 kX8_switchBank_78 [] = true := by decide +kernel
set_option maxRecDepth 100000 in
theorem e_q220 : c_blk 58 kX8_switchBank_79 [] = true := by decide +kernel
set_option maxRecDepth 100000 in
theorem e_q221 : c_blk 59 kX8_run_0 [] = true := by decide +kernel
set_option maxRecDepth 100000 in
theorem e_q222 : c_blk 59 kX8_run_18 [] = true := by decide +kernel
set_option maxRecDepth 100000 in
theorem e_q223 : c_blk 59 kX8_run_33 [] = true := by decide +kernel
set_option maxRecDepth 100000 in
theorem e_q224 : c_blk 59 kX8_run_48 [] = true := by decide +kernel
set_option maxRecDepth 100000 in
theorem e_q225 : c_blk 59 kX8_run_54 [] = true := by decide +kernel
set_option maxRecDepth 100000 in
theorem e_q226 : c_blk 60 kX8_minute_0 [] = true := by decide +kernel
set_option maxRecDepth 100000 in
theorem e_q227 : c_blk 61 kX8_passMinute_0 [] = true := by decide +kernel
set_option maxRecDepth 100000 in
theorem e_q228 : c_blk 61 kX8_passMinute_33 [] = true := by decide +kernel
set_option maxRecDepth 100000 in
theorem e_q229 : c_blk 61 kX8_passMinute_79 [] = true := by decide +kernel
set_option maxRecDepth 100000 in
theorem e_q230 : c_blk 61 kX8_passMinute_80 [] = true := by decide +kernel
set_option maxRecDepth 100000 in
theorem e_q231 : c_blk 61 kX8_passMinute_92 [] = true := by decide +kernel
set_option maxRecDepth 100000 in
theorem e_q232 : c_blk 61 kX8_passMinute_103 [] = true := by decide +kernel
set_option maxRecDepth 100000 in
theorem e_q233 : c_blk 61 kX8_passMinute_137 [] = true := by decide +kernel
set_option maxRecDepth 100000 in
theorem e_q234 : c_blk 61 kX8_passMinute_141 [] = true := by decide +kernel
set_option maxRecDepth 100000 in
theorem e_q235 : c_blk 61 kX8_passMinute_142 [] = true := by decide +kernel
set_option maxRecDepth 100000 in
theorem e_q236 : c_blk 62 kX8_voltage_0 [] = true := by decide +kernel
set_option maxRecDepth 100000 in
theorem e_q237 : c_blk 62 kX8_voltage_22 [] = true := by decide +kernel
set_option maxRecDepth 100000 in
theorem e_q238 : c_blk 63 kX8_activeFlow_0 [] = true := by decide +kernel
set_option maxRecDepth 100000 in
theorem e_q239 : c_blk 63 kX8_activeFlow_15 [] = true := by decide +kernel
set_option maxRecDepth 100000 in
theorem e_q240 : c_blk 64 kX8_reactiveFlow_0 [] = true := by decide +kernel
set_option maxRecDepth 100000 in
theorem e_q241 : c_blk 64 kX8_reactiveFlow_15 [] = true := by decide +kernel
set_option maxRecDepth 100000 in
theorem e_q242 : c_blk 65 kX8_tap_0 [] = true := by decide +kernel
set_option maxRecDepth 100000 in
theorem e_q243 : c_blk 65 kX8_tap_18 [] = true := by decide +kernel
set_option maxRecDepth 100000 in
theorem e_q244 : c_blk 65 kX8_tap_36 [] = true := by decide +kernel
set_option maxRecDepth 100000 in
theorem e_q245 : c_blk 66 kX8_timer_0 [] = true := by decide +kernel
set_option maxRecDepth 100000 in
theorem e_q246 : c_blk 66 kX8_timer_18 [] = true := by decide +kernel
set_option maxRecDepth 100000 in
theorem e_q247 : c_blk 66 kX8_timer_33 [] = true := by decide +kernel
set_option maxRecDepth 100000 in
theorem e_q248 : c_blk 67 kX8_isLocked_0 [] = true := by decide +kernel
set_option maxRecDepth 100000 in
theorem e_q249 : c_blk 67 kX8_isLocked_18 [] = true := by decide +kernel
set_option maxRecDepth 100000 in
theorem e_q250 : c_blk 67 kX8_isLocked_36 [] = true := by decide +kernel
set_option maxRecDepth 100000 in
theorem e_q251 : c_blk 68 kX8_steps_0 [] = true := by decide +kernel
set_option maxRecDepth 100000 in
theorem e_q252 : c_blk 68 kX8_steps_18 [] = true := by decide +kernel
set_option maxRecDepth 100000 in
theorem e_q253 : c_blk 68 kX8_steps_33 [] = true := by decide +kernel
set_option maxRecDepth 100000 in
theorem e_q254 : c_blk 69 kX8_isOn_0 [] = true := by decide +kernel
set_option maxRecDepth 100000 in
theorem e_q255 : c_blk 69 kX8_isOn_18 [] = true := by decide +kernel
set_option maxRecDepth 100000 in
theorem e_q256 : c_blk 69 kX8_isOn_36 [] = true := by decide +kernel
set_option maxRecDepth 100000 in
theorem e_q257 : c_blk 70 kX8_violations_0 [] = true := by decide +kernel
set_option maxRecDepth 100000 in
theorem e_q258 : c_blk 71 kX8_planSteps_0 [] = true := by decide +kernel
set_option maxRecDepth 100000 in
theorem e_q259 : c_blk 71 kX8_planSteps_16 [] = true := by decide +kernel
set_option maxRecDepth 100000 in
theorem e_q260 : c_blk 71 kX8_planSteps_41 [] = true := by decide +kernel
set_option maxRecDepth 100000 in
theorem e_q261 : c_blk 71 kX8_planSteps_47 [] = true := by decide +kernel
set_option maxRecDepth 100000 in
theorem e_q262 : c_blk 72 kX8_planTap_0 [] = true := by decide +kernel
set_option maxRecDepth 100000 in
theorem e_q263 : c_blk 72 kX8_planTap_14 [] = true := by decide +kernel
set_option maxRecDepth 100000 in
theorem e_q264 : c_blk 72 kX8_planTap_30 [] = true := by decide +kernel
set_option maxRecDepth 100000 in
theorem e_q265 : c_blk 72 kX8_planTap_60 [] = true := by decide +kernel
set_option maxRecDepth 100000 in
theorem e_q266 : c_blk 72 kX8_planTap_66 [] = true := by decide +kernel
set_option maxRecDepth 100000 in
theorem e_q267 : c_blk 73 kX8_undo_0 [] = true := by decide +kernel
set_option maxRecDepth 100000 in
theorem e_q268 : c_blk 73 kX8_undo_17 [] = true := by decide +kernel
set_option maxRecDepth 100000 in
theorem e_q269 : c_blk 74 kX8_errorCount_0 [] = true := by decide +kernel
set_option maxRecDepth 100000 in
theorem e_q270 : c_blk 74 kX8_errorCount_19 [] = true := by decide +kernel
set_option maxRecDepth 100000 in
theorem e_q271 : c_blk 74 kX8_errorCount_25 [] = true := by decide +kernel
set_option maxRecDepth 100000 in
theorem e_q272 : c_blk 75 kX8_digest_0 [[], [], [], [], [], [670], [], [], [], []] = true := by decide +kernel
set_option maxRecDepth 100000 in
theorem e_q273 : c_blk 75 kX8_digest_17 [] = true := by decide +kernel
set_option maxRecDepth 100000 in
theorem e_q274 : c_blk 75 kX8_digest_39 [] = true := by decide +kernel
set_option maxRecDepth 100000 in
theorem e_q275 : c_blk 75 kX8_digest_77 [] = true := by decide +kernel
set_option maxRecDepth 100000 in
theorem e_q276 : c_blk 75 kX8_digest_103 [] = true := by decide +kernel
set_option maxRecDepth 100000 in
theorem e_q277 : c_blk 75 kX8_digest_117 [] = true := by decide +kernel
set_option maxRecDepth 100000 in
theorem e_q278 : c_blk 75 kX8_digest_210 [] = true := by decide +kernel
set_option maxRecDepth 100000 in
theorem e_q279 : c_blk 76 kX8_mixRegulator_0 [] = true := by decide +kernel
set_option maxRecDepth 100000 in
theorem e_q280 : c_blk 76 kX8_mixRegulator_21 [] = true := by decide +kernel
set_option maxRecDepth 100000 in
theorem e_q281 : c_blk 77 kX8_mixBank_0 [] = true := by decide +kernel
end
section
/-! each op list, checked by the kernel: labels 282 to 422 -/
set_option maxRecDepth 100000 in
theorem e_q282 : c_blk 77 kX8_mixBank_21 [] = true := by decide +kernel
set_option maxRecDepth 100000 in
theorem e_q283 : c_blk 78 kX8_mix_0 [[674], [], [], [], [], [], []] = true := by decide +kernel
set_option maxRecDepth 100000 in
theorem e_q284 : c_blk 79 kX8_isWithin_0 [] = true := by decide +kernel
set_option maxRecDepth 100000 in
theorem e_q285 : c_blk 79 kX8_isWithin_14 [] = true := by decide +kernel
set_option maxRecDepth 100000 in
theorem e_q286 : c_blk 79 kX8_isWithin_15 [] = true := by decide +kernel
set_option maxRecDepth 100000 in
theorem e_q287 : c_blk 80 kX8_isHour_0 [] = true := by decide +kernel
set_option maxRecDepth 100000 in
theorem e_q288 : c_blk 81 kX8_isLoad_0 [] = true := by decide +kernel
set_option maxRecDepth 100000 in
theorem e_q289 : c_blk 81 kX8_isLoad_30 [] = true := by decide +kernel
set_option maxRecDepth 100000 in
theorem e_q290 : c_blk 81 kX8_isLoad_31 [] = true := by decide +kernel
set_option maxRecDepth 100000 in
theorem e_q291 : c_blk 82 kX8_areBankSettings_0 [] = true := by decide +kernel
set_option maxRecDepth 100000 in
theorem e_q292 : c_blk 82 kX8_areBankSettings_23 [] = true := by decide +kernel
set_option maxRecDepth 100000 in
theorem e_q293 : c_blk 82 kX8_areBankSettings_24 [] = true := by decide +kernel
set_option maxRecDepth 100000 in
theorem e_q294 : c_blk 82 kX8_areBankSettings_25 [] = true := by decide +kernel
set_option maxRecDepth 100000 in
theorem e_q295 : c_blk 82 kX8_areBankSettings_65 [] = true := by decide +kernel
set_option maxRecDepth 100000 in
theorem e_q296 : c_blk 82 kX8_areBankSettings_66 [] = true := by decide +kernel
set_option maxRecDepth 100000 in
theorem e_q297 : c_blk 82 kX8_areBankSettings_67 [] = true := by decide +kernel
set_option maxRecDepth 100000 in
theorem e_q298 : c_blk 82 kX8_areBankSettings_75 [] = true := by decide +kernel
set_option maxRecDepth 100000 in
theorem e_q299 : c_blk 82 kX8_areBankSettings_76 [] = true := by decide +kernel
set_option maxRecDepth 100000 in
theorem e_q300 : c_blk 83 kX8_bit_0 [] = true := by decide +kernel
set_option maxRecDepth 100000 in
theorem e_q301 : c_blk 83 kX8_bit_8 [] = true := by decide +kernel
set_option maxRecDepth 100000 in
theorem e_q302 : c_blk 83 kX8_bit_9 [] = true := by decide +kernel
set_option maxRecDepth 100000 in
theorem e_q303 : c_blk 84 kX8_hasNode_0 [] = true := by decide +kernel
set_option maxRecDepth 100000 in
theorem e_q304 : c_blk 85 kX8_regulatorFault_0 [] = true := by decide +kernel
set_option maxRecDepth 100000 in
theorem e_q305 : c_blk 85 kX8_regulatorFault_11 [] = true := by decide +kernel
set_option maxRecDepth 100000 in
theorem e_q306 : c_blk 85 kX8_regulatorFault_33 [] = true := by decide +kernel
set_option maxRecDepth 100000 in
theorem e_q307 : c_blk 85 kX8_regulatorFault_35 [] = true := by decide +kernel
set_option maxRecDepth 100000 in
theorem e_q308 : c_blk 86 kX8_bankFault_0 [] = true := by decide +kernel
set_option maxRecDepth 100000 in
theorem e_q309 : c_blk 86 kX8_bankFault_11 [] = true := by decide +kernel
set_option maxRecDepth 100000 in
theorem e_q310 : c_blk 86 kX8_bankFault_33 [] = true := by decide +kernel
set_option maxRecDepth 100000 in
theorem e_q311 : c_blk 86 kX8_bankFault_35 [] = true := by decide +kernel
set_option maxRecDepth 100000 in
theorem e_q312 : c_blk 87 kX8_isErrorCode_0 [] = true := by decide +kernel
set_option maxRecDepth 100000 in
theorem e_q313 : c_blk 88 kX8_refuse_0 [] = true := by decide +kernel
set_option maxRecDepth 100000 in
theorem e_q314 : c_blk 88 kX8_refuse_20 [] = true := by decide +kernel
set_option maxRecDepth 100000 in
theorem e_q315 : c_blk 89 kX9_init_0 [[], [686, 58, 59], [], [], [128], [], [], [], [128], [], [], [], [128], [], [], [], [128], [], [], [], [128], [], [], [], [128], [], [], [], [128], [], [], [], [128], [], [], [], [128], [], [], [], [], [], [], [], [], []] = true := by decide +kernel
set_option maxRecDepth 100000 in
theorem e_q316 : c_blk 89 kX9_init_90 [] = true := by decide +kernel
set_option maxRecDepth 100000 in
theorem e_q317 : c_blk 89 kX9_init_112 [] = true := by decide +kernel
set_option maxRecDepth 100000 in
theorem e_q318 : c_blk 90 kX9_in_0 [] = true := by decide +kernel
set_option maxRecDepth 100000 in
theorem e_q319 : c_blk 90 kX9_in_14 [] = true := by decide +kernel
set_option maxRecDepth 100000 in
theorem e_q320 : c_blk 90 kX9_in_15 [] = true := by decide +kernel
set_option maxRecDepth 100000 in
theorem e_q321 : c_blk 91 kX9_error_0 [] = true := by decide +kernel
set_option maxRecDepth 100000 in
theorem e_q322 : c_blk 92 kX9_isNode_0 [] = true := by decide +kernel
set_option maxRecDepth 100000 in
theorem e_q323 : c_blk 93 kX9_spot_0 [] = true := by decide +kernel
set_option maxRecDepth 100000 in
theorem e_q324 : c_blk 94 kX9_of_0 [] = true := by decide +kernel
set_option maxRecDepth 100000 in
theorem e_q325 : c_blk 95 kX9_put_0 [] = true := by decide +kernel
set_option maxRecDepth 100000 in
theorem e_q326 : c_blk 96 kX9_save_0 [] = true := by decide +kernel
set_option maxRecDepth 100000 in
theorem e_q327 : c_blk 96 kX9_save_10 [] = true := by decide +kernel
set_option maxRecDepth 100000 in
theorem e_q328 : c_blk 96 kX9_save_39 [] = true := by decide +kernel
set_option maxRecDepth 100000 in
theorem e_q329 : c_blk 96 kX9_save_49 [] = true := by decide +kernel
set_option maxRecDepth 100000 in
theorem e_q330 : c_blk 96 kX9_save_51 [] = true := by decide +kernel
set_option maxRecDepth 100000 in
theorem e_q331 : c_blk 96 kX9_save_85 [] = true := by decide +kernel
set_option maxRecDepth 100000 in
theorem e_q332 : c_blk 97 kX9_setSource_0 [] = true := by decide +kernel
set_option maxRecDepth 100000 in
theorem e_q333 : c_blk 97 kX9_setSource_20 [] = true := by decide +kernel
set_option maxRecDepth 100000 in
theorem e_q334 : c_blk 98 kX9_isLoad_0 [] = true := by decide +kernel
set_option maxRecDepth 100000 in
theorem e_q335 : c_blk 98 kX9_isLoad_30 [] = true := by decide +kernel
set_option maxRecDepth 100000 in
theorem e_q336 : c_blk 98 kX9_isLoad_31 [] = true := by decide +kernel
set_option maxRecDepth 100000 in
theorem e_q337 : c_blk 99 kX9_addNode_0 [] = true := by decide +kernel
set_option maxRecDepth 100000 in
theorem e_q338 : c_blk 99 kX9_addNode_29 [] = true := by decide +kernel
set_option maxRecDepth 100000 in
theorem e_q339 : c_blk 99 kX9_addNode_36 [] = true := by decide +kernel
set_option maxRecDepth 100000 in
theorem e_q340 : c_blk 99 kX9_addNode_54 [] = true := by decide +kernel
set_option maxRecDepth 100000 in
theorem e_q341 : c_blk 99 kX9_addNode_79 [] = true := by decide +kernel
set_option maxRecDepth 100000 in
theorem e_q342 : c_blk 99 kX9_addNode_101 [] = true := by decide +kernel
set_option maxRecDepth 100000 in
theorem e_q343 : c_blk 100 kX9_setLoad_0 [] = true := by decide +kernel
set_option maxRecDepth 100000 in
theorem e_q344 : c_blk 100 kX9_setLoad_16 [] = true := by decide +kernel
set_option maxRecDepth 100000 in
theorem e_q345 : c_blk 100 kX9_setLoad_23 [] = true := by decide +kernel
set_option maxRecDepth 100000 in
theorem e_q346 : c_blk 101 kX9_setFactor_0 [] = true := by decide +kernel
set_option maxRecDepth 100000 in
theorem e_q347 : c_blk 101 kX9_setFactor_21 [] = true := by decide +kernel
set_option maxRecDepth 100000 in
theorem e_q348 : c_blk 101 kX9_setFactor_28 [] = true := by decide +kernel
set_option maxRecDepth 100000 in
theorem e_q349 : c_blk 102 kX9_append_0 [] = true := by decide +kernel
set_option maxRecDepth 100000 in
theorem e_q350 : c_blk 102 kX9_append_17 [] = true := by decide +kernel
set_option maxRecDepth 100000 in
theorem e_q351 : c_blk 102 kX9_append_33 [] = true := by decide +kernel
set_option maxRecDepth 100000 in
theorem e_q352 : c_blk 103 kX9_clearText_0 [] = true := by decide +kernel
set_option maxRecDepth 100000 in
theorem e_q353 : c_blk 104 kX9_next_0 [] = true := by decide +kernel
set_option maxRecDepth 100000 in
theorem e_q354 : c_blk 104 kX9_next_38 [] = true := by decide +kernel
set_option maxRecDepth 100000 in
theorem e_q355 : c_blk 104 kX9_next_61 [] = true := by decide +kernel
set_option maxRecDepth 100000 in
theorem e_q356 : c_blk 104 kX9_next_62 [] = true := by decide +kernel
set_option maxRecDepth 100000 in
theorem e_q357 : c_blk 105 kX9_takes_0 [] = true := by decide +kernel
set_option maxRecDepth 100000 in
theorem e_q358 : c_blk 105 kX9_takes_12 [] = true := by decide +kernel
set_option maxRecDepth 100000 in
theorem e_q359 : c_blk 105 kX9_takes_13 [] = true := by decide +kernel
set_option maxRecDepth 100000 in
theorem e_q360 : c_blk 105 kX9_takes_27 [] = true := by decide +kernel
set_option maxRecDepth 100000 in
theorem e_q361 : c_blk 105 kX9_takes_28 [] = true := by decide +kernel
set_option maxRecDepth 100000 in
theorem e_q362 : c_blk 106 kX9_number_0 [] = true := by decide +kernel
set_option maxRecDepth 100000 in
theorem e_q363 : c_blk 106 kX9_number_13 [] = true := by decide +kernel
set_option maxRecDepth 100000 in
theorem e_q364 : c_blk 106 kX9_number_86 [] = true := by decide +kernel
set_option maxRecDepth 100000 in
theorem e_q365 : c_blk 106 kX9_number_130 [] = true := by decide +kernel
set_option maxRecDepth 100000 in
theorem e_q366 : c_blk 106 kX9_number_131 [] = true := by decide +kernel
set_option maxRecDepth 100000 in
theorem e_q367 : c_blk 106 kX9_number_146 [] = true := by decide +kernel
set_option maxRecDepth 100000 in
theorem e_q368 : c_blk 106 kX9_number_148 [] = true := by decide +kernel
set_option maxRecDepth 100000 in
theorem e_q369 : c_blk 106 kX9_number_165 [] = true := by decide +kernel
set_option maxRecDepth 100000 in
theorem e_q370 : c_blk 107 kX9_readsItem_0 [] = true := by decide +kernel
set_option maxRecDepth 100000 in
theorem e_q371 : c_blk 107 kX9_readsItem_14 [] = true := by decide +kernel
set_option maxRecDepth 100000 in
theorem e_q372 : c_blk 107 kX9_readsItem_39 [] = true := by decide +kernel
set_option maxRecDepth 100000 in
theorem e_q373 : c_blk 107 kX9_readsItem_50 [] = true := by decide +kernel
set_option maxRecDepth 100000 in
theorem e_q374 : c_blk 107 kX9_readsItem_72 [] = true := by decide +kernel
set_option maxRecDepth 100000 in
theorem e_q375 : c_blk 107 kX9_readsItem_74 [] = true := by decide +kernel
set_option maxRecDepth 100000 in
theorem e_q376 : c_blk 107 kX9_readsItem_77 [] = true := by decide +kernel
set_option maxRecDepth 100000 in
theorem e_q377 : c_blk 107 kX9_readsItem_97 [] = true := by decide +kernel
set_option maxRecDepth 100000 in
theorem e_q378 : c_blk 108 kX9_parseProfile_0 [] = true := by decide +kernel
set_option maxRecDepth 100000 in
theorem e_q379 : c_blk 108 kX9_parseProfile_2 [] = true := by decide +kernel
set_option maxRecDepth 100000 in
theorem e_q380 : c_blk 108 kX9_parseProfile_28 [] = true := by decide +kernel
set_option maxRecDepth 100000 in
theorem e_q381 : c_blk 108 kX9_parseProfile_35 [] = true := by decide +kernel
set_option maxRecDepth 100000 in
theorem e_q382 : c_blk 108 kX9_parseProfile_57 [] = true := by decide +kernel
set_option maxRecDepth 100000 in
theorem e_q383 : c_blk 108 kX9_parseProfile_63 [] = true := by decide +kernel
set_option maxRecDepth 100000 in
theorem e_q384 : c_blk 108 kX9_parseProfile_69 [] = true := by decide +kernel
set_option maxRecDepth 100000 in
theorem e_q385 : c_blk 108 kX9_parseProfile_95 [] = true := by decide +kernel
set_option maxRecDepth 100000 in
theorem e_q386 : c_blk 109 kX9_addRegulator_0 [] = true := by decide +kernel
set_option maxRecDepth 100000 in
theorem e_q387 : c_blk 109 kX9_addRegulator_54 [] = true := by decide +kernel
set_option maxRecDepth 100000 in
theorem e_q388 : c_blk 109 kX9_addRegulator_61 [] = true := by decide +kernel
set_option maxRecDepth 100000 in
theorem e_q389 : c_blk 109 kX9_addRegulator_78 [] = true := by decide +kernel
set_option maxRecDepth 100000 in
theorem e_q390 : c_blk 110 kX9_lacks_0 [] = true := by decide +kernel
set_option maxRecDepth 100000 in
theorem e_q391 : c_blk 110 kX9_lacks_13 [] = true := by decide +kernel
set_option maxRecDepth 100000 in
theorem e_q392 : c_blk 110 kX9_lacks_27 [] = true := by decide +kernel
set_option maxRecDepth 100000 in
theorem e_q393 : c_blk 110 kX9_lacks_28 [] = true := by decide +kernel
set_option maxRecDepth 100000 in
theorem e_q394 : c_blk 111 kX9_setTap_0 [] = true := by decide +kernel
set_option maxRecDepth 100000 in
theorem e_q395 : c_blk 111 kX9_setTap_20 [] = true := by decide +kernel
set_option maxRecDepth 100000 in
theorem e_q396 : c_blk 111 kX9_setTap_22 [] = true := by decide +kernel
set_option maxRecDepth 100000 in
theorem e_q397 : c_blk 111 kX9_setTap_33 [] = true := by decide +kernel
set_option maxRecDepth 100000 in
theorem e_q398 : c_blk 112 kX9_addBank_0 [] = true := by decide +kernel
set_option maxRecDepth 100000 in
theorem e_q399 : c_blk 112 kX9_addBank_27 [] = true := by decide +kernel
set_option maxRecDepth 100000 in
theorem e_q400 : c_blk 112 kX9_addBank_31 [] = true := by decide +kernel
set_option maxRecDepth 100000 in
theorem e_q401 : c_blk 112 kX9_addBank_32 [] = true := by decide +kernel
set_option maxRecDepth 100000 in
theorem e_q402 : c_blk 112 kX9_addBank_74 [] = true := by decide +kernel
set_option maxRecDepth 100000 in
theorem e_q403 : c_blk 112 kX9_addBank_78 [] = true := by decide +kernel
set_option maxRecDepth 100000 in
theorem e_q404 : c_blk 112 kX9_addBank_79 [] = true := by decide +kernel
set_option maxRecDepth 100000 in
theorem e_q405 : c_blk 112 kX9_addBank_130 [] = true := by decide +kernel
set_option maxRecDepth 100000 in
theorem e_q406 : c_blk 112 kX9_addBank_137 [] = true := by decide +kernel
set_option maxRecDepth 100000 in
theorem e_q407 : c_blk 112 kX9_addBank_155 [] = true := by decide +kernel
set_option maxRecDepth 100000 in
theorem e_q408 : c_blk 113 kX9_switchBank_0 [] = true := by decide +kernel
set_option maxRecDepth 100000 in
theorem e_q409 : c_blk 113 kX9_switchBank_19 [] = true := by decide +kernel
set_option maxRecDepth 100000 in
theorem e_q410 : c_blk 113 kX9_switchBank_21 [] = true := by decide +kernel
set_option maxRecDepth 100000 in
theorem e_q411 : c_blk 113 kX9_switchBank_32 [] = true := by decide +kernel
set_option maxRecDepth 100000 in
theorem e_q412 : c_blk 114 kX9_hour_0 [] = true := by decide +kernel
set_option maxRecDepth 100000 in
theorem e_q413 : c_blk 115 kX9_isTime_0 [] = true := by decide +kernel
set_option maxRecDepth 100000 in
theorem e_q414 : c_blk 115 kX9_isTime_38 [] = true := by decide +kernel
set_option maxRecDepth 100000 in
theorem e_q415 : c_blk 115 kX9_isTime_42 [] = true := by decide +kernel
set_option maxRecDepth 100000 in
theorem e_q416 : c_blk 115 kX9_isTime_53 [] = true := by decide +kernel
set_option maxRecDepth 100000 in
theorem e_q417 : c_blk 115 kX9_isTime_57 [] = true := by decide +kernel
set_option maxRecDepth 100000 in
theorem e_q418 : c_blk 115 kX9_isTime_58 [] = true := by decide +kernel
set_option maxRecDepth 100000 in
theorem e_q419 : c_blk 116 kX9_compute_0 [] = true := by decide +kernel
set_option maxRecDepth 100000 in
theorem e_q420 : c_blk 116 kX9_compute_14 [] = true := by decide +kernel
set_option maxRecDepth 100000 in
theorem e_q421 : c_blk 116 kX9_compute_93 [] = true := by decide +kernel
set_option maxRecDepth 100000 in
theorem e_q422 : c_blk 116 kX9_compute_109 [] = true := by decide +kernel
end
section
/-! each op list, checked by the kernel: labels 423 to 560 -/
set_option maxRecDepth 100000 in
theorem e_q423 : c_blk 116 kX9_compute_110 [] = true := by decide +kernel
set_option maxRecDepth 100000 in
theorem e_q424 : c_blk 116 kX9_compute_142 [] = true := by decide +kernel
set_option maxRecDepth 100000 in
theorem e_q425 : c_blk 116 kX9_compute_143 [] = true := by decide +kernel
set_option maxRecDepth 100000 in
theorem e_q426 : c_blk 116 kX9_compute_170 [] = true := by decide +kernel
set_option maxRecDepth 100000 in
theorem e_q427 : c_blk 116 kX9_compute_185 [] = true := by decide +kernel
set_option maxRecDepth 100000 in
theorem e_q428 : c_blk 116 kX9_compute_207 [] = true := by decide +kernel
set_option maxRecDepth 100000 in
theorem e_q429 : c_blk 116 kX9_compute_215 [] = true := by decide +kernel
set_option maxRecDepth 100000 in
theorem e_q430 : c_blk 116 kX9_compute_251 [] = true := by decide +kernel
set_option maxRecDepth 100000 in
theorem e_q431 : c_blk 116 kX9_compute_260 [] = true := by decide +kernel
set_option maxRecDepth 100000 in
theorem e_q432 : c_blk 116 kX9_compute_316 [] = true := by decide +kernel
set_option maxRecDepth 100000 in
theorem e_q433 : c_blk 116 kX9_compute_318 [] = true := by decide +kernel
set_option maxRecDepth 100000 in
theorem e_q434 : c_blk 116 kX9_compute_325 [] = true := by decide +kernel
set_option maxRecDepth 100000 in
theorem e_q435 : c_blk 117 kX9_outside_0 [] = true := by decide +kernel
set_option maxRecDepth 100000 in
theorem e_q436 : c_blk 117 kX9_outside_4 [] = true := by decide +kernel
set_option maxRecDepth 100000 in
theorem e_q437 : c_blk 117 kX9_outside_37 [] = true := by decide +kernel
set_option maxRecDepth 100000 in
theorem e_q438 : c_blk 117 kX9_outside_38 [] = true := by decide +kernel
set_option maxRecDepth 100000 in
theorem e_q439 : c_blk 117 kX9_outside_46 [] = true := by decide +kernel
set_option maxRecDepth 100000 in
theorem e_q440 : c_blk 118 kX9_computeNow_0 [] = true := by decide +kernel
set_option maxRecDepth 100000 in
theorem e_q441 : c_blk 119 kX9_unlocks_0 [] = true := by decide +kernel
set_option maxRecDepth 100000 in
theorem e_q442 : c_blk 119 kX9_unlocks_2 [] = true := by decide +kernel
set_option maxRecDepth 100000 in
theorem e_q443 : c_blk 119 kX9_unlocks_34 [] = true := by decide +kernel
set_option maxRecDepth 100000 in
theorem e_q444 : c_blk 120 kX9_switches_0 [] = true := by decide +kernel
set_option maxRecDepth 100000 in
theorem e_q445 : c_blk 120 kX9_switches_4 [] = true := by decide +kernel
set_option maxRecDepth 100000 in
theorem e_q446 : c_blk 120 kX9_switches_66 [] = true := by decide +kernel
set_option maxRecDepth 100000 in
theorem e_q447 : c_blk 120 kX9_switches_70 [] = true := by decide +kernel
set_option maxRecDepth 100000 in
theorem e_q448 : c_blk 120 kX9_switches_90 [] = true := by decide +kernel
set_option maxRecDepth 100000 in
theorem e_q449 : c_blk 120 kX9_switches_91 [] = true := by decide +kernel
set_option maxRecDepth 100000 in
theorem e_q450 : c_blk 120 kX9_switches_112 [] = true := by decide +kernel
set_option maxRecDepth 100000 in
theorem e_q451 : c_blk 120 kX9_switches_113 [] = true := by decide +kernel
set_option maxRecDepth 100000 in
theorem e_q452 : c_blk 120 kX9_switches_167 [] = true := by decide +kernel
set_option maxRecDepth 100000 in
theorem e_q453 : c_blk 120 kX9_switches_173 [] = true := by decide +kernel
set_option maxRecDepth 100000 in
theorem e_q454 : c_blk 121 kX9_wants_0 [] = true := by decide +kernel
set_option maxRecDepth 100000 in
theorem e_q455 : c_blk 121 kX9_wants_20 [] = true := by decide +kernel
set_option maxRecDepth 100000 in
theorem e_q456 : c_blk 121 kX9_wants_31 [] = true := by decide +kernel
set_option maxRecDepth 100000 in
theorem e_q457 : c_blk 121 kX9_wants_33 [] = true := by decide +kernel
set_option maxRecDepth 100000 in
theorem e_q458 : c_blk 121 kX9_wants_72 [] = true := by decide +kernel
set_option maxRecDepth 100000 in
theorem e_q459 : c_blk 121 kX9_wants_73 [] = true := by decide +kernel
set_option maxRecDepth 100000 in
theorem e_q460 : c_blk 121 kX9_wants_113 [] = true := by decide +kernel
set_option maxRecDepth 100000 in
theorem e_q461 : c_blk 121 kX9_wants_114 [] = true := by decide +kernel
set_option maxRecDepth 100000 in
theorem e_q462 : c_blk 121 kX9_wants_123 [] = true := by decide +kernel
set_option maxRecDepth 100000 in
theorem e_q463 : c_blk 121 kX9_wants_131 [] = true := by decide +kernel
set_option maxRecDepth 100000 in
theorem e_q464 : c_blk 121 kX9_wants_132 [] = true := by decide +kernel
set_option maxRecDepth 100000 in
theorem e_q465 : c_blk 122 kX9_goes_0 [] = true := by decide +kernel
set_option maxRecDepth 100000 in
theorem e_q466 : c_blk 122 kX9_goes_95 [] = true := by decide +kernel
set_option maxRecDepth 100000 in
theorem e_q467 : c_blk 122 kX9_goes_96 [] = true := by decide +kernel
set_option maxRecDepth 100000 in
theorem e_q468 : c_blk 122 kX9_goes_99 [] = true := by decide +kernel
set_option maxRecDepth 100000 in
theorem e_q469 : c_blk 123 kX9_regulates_0 [] = true := by decide +kernel
set_option maxRecDepth 100000 in
theorem e_q470 : c_blk 123 kX9_regulates_4 [] = true := by decide +kernel
set_option maxRecDepth 100000 in
theorem e_q471 : c_blk 123 kX9_regulates_44 [] = true := by decide +kernel
set_option maxRecDepth 100000 in
theorem e_q472 : c_blk 123 kX9_regulates_61 [] = true := by decide +kernel
set_option maxRecDepth 100000 in
theorem e_q473 : c_blk 123 kX9_regulates_70 [] = true := by decide +kernel
set_option maxRecDepth 100000 in
theorem e_q474 : c_blk 123 kX9_regulates_121 [] = true := by decide +kernel
set_option maxRecDepth 100000 in
theorem e_q475 : c_blk 123 kX9_regulates_127 [] = true := by decide +kernel
set_option maxRecDepth 100000 in
theorem e_q476 : c_blk 124 kX9_passes_0 [] = true := by decide +kernel
set_option maxRecDepth 100000 in
theorem e_q477 : c_blk 124 kX9_passes_26 [] = true := by decide +kernel
set_option maxRecDepth 100000 in
theorem e_q478 : c_blk 124 kX9_passes_28 [] = true := by decide +kernel
set_option maxRecDepth 100000 in
theorem e_q479 : c_blk 124 kX9_passes_80 [] = true := by decide +kernel
set_option maxRecDepth 100000 in
theorem e_q480 : c_blk 124 kX9_passes_81 [] = true := by decide +kernel
set_option maxRecDepth 100000 in
theorem e_q481 : c_blk 124 kX9_passes_84 [] = true := by decide +kernel
set_option maxRecDepth 100000 in
theorem e_q482 : c_blk 124 kX9_passes_90 [] = true := by decide +kernel
set_option maxRecDepth 100000 in
theorem e_q483 : c_blk 124 kX9_passes_108 [] = true := by decide +kernel
set_option maxRecDepth 100000 in
theorem e_q484 : c_blk 124 kX9_passes_109 [] = true := by decide +kernel
set_option maxRecDepth 100000 in
theorem e_q485 : c_blk 124 kX9_passes_138 [] = true := by decide +kernel
set_option maxRecDepth 100000 in
theorem e_q486 : c_blk 124 kX9_passes_142 [] = true := by decide +kernel
set_option maxRecDepth 100000 in
theorem e_q487 : c_blk 124 kX9_passes_143 [] = true := by decide +kernel
set_option maxRecDepth 100000 in
theorem e_q488 : c_blk 125 kX9_run_0 [] = true := by decide +kernel
set_option maxRecDepth 100000 in
theorem e_q489 : c_blk 125 kX9_run_18 [] = true := by decide +kernel
set_option maxRecDepth 100000 in
theorem e_q490 : c_blk 125 kX9_run_26 [] = true := by decide +kernel
set_option maxRecDepth 100000 in
theorem e_q491 : c_blk 125 kX9_run_44 [] = true := by decide +kernel
set_option maxRecDepth 100000 in
theorem e_q492 : c_blk 126 kX9_minute_0 [] = true := by decide +kernel
set_option maxRecDepth 100000 in
theorem e_q493 : c_blk 127 kX9_voltage_0 [] = true := by decide +kernel
set_option maxRecDepth 100000 in
theorem e_q494 : c_blk 127 kX9_voltage_19 [] = true := by decide +kernel
set_option maxRecDepth 100000 in
theorem e_q495 : c_blk 128 kX9_activeFlow_0 [] = true := by decide +kernel
set_option maxRecDepth 100000 in
theorem e_q496 : c_blk 128 kX9_activeFlow_15 [] = true := by decide +kernel
set_option maxRecDepth 100000 in
theorem e_q497 : c_blk 129 kX9_reactiveFlow_0 [] = true := by decide +kernel
set_option maxRecDepth 100000 in
theorem e_q498 : c_blk 129 kX9_reactiveFlow_15 [] = true := by decide +kernel
set_option maxRecDepth 100000 in
theorem e_q499 : c_blk 130 kX9_told_0 [] = true := by decide +kernel
set_option maxRecDepth 100000 in
theorem e_q500 : c_blk 130 kX9_told_22 [] = true := by decide +kernel
set_option maxRecDepth 100000 in
theorem e_q501 : c_blk 130 kX9_told_31 [] = true := by decide +kernel
set_option maxRecDepth 100000 in
theorem e_q502 : c_blk 131 kX9_tap_0 [] = true := by decide +kernel
set_option maxRecDepth 100000 in
theorem e_q503 : c_blk 132 kX9_timer_0 [] = true := by decide +kernel
set_option maxRecDepth 100000 in
theorem e_q504 : c_blk 133 kX9_isLocked_0 [] = true := by decide +kernel
set_option maxRecDepth 100000 in
theorem e_q505 : c_blk 134 kX9_steps_0 [] = true := by decide +kernel
set_option maxRecDepth 100000 in
theorem e_q506 : c_blk 135 kX9_isOn_0 [] = true := by decide +kernel
set_option maxRecDepth 100000 in
theorem e_q507 : c_blk 136 kX9_violations_0 [] = true := by decide +kernel
set_option maxRecDepth 100000 in
theorem e_q508 : c_blk 137 kX9_apart_0 [] = true := by decide +kernel
set_option maxRecDepth 100000 in
theorem e_q509 : c_blk 137 kX9_apart_11 [] = true := by decide +kernel
set_option maxRecDepth 100000 in
theorem e_q510 : c_blk 137 kX9_apart_14 [] = true := by decide +kernel
set_option maxRecDepth 100000 in
theorem e_q511 : c_blk 138 kX9_best_0 [[], [], [925], [], [], [], []] = true := by decide +kernel
set_option maxRecDepth 100000 in
theorem e_q512 : c_blk 138 kX9_best_9 [[], [], [], [], [], [], [], [], [], [], [], [], [], [], [], [], [], [], [], [], [], [], [], [], [925], [], [], [], [], [], [], [], [], []] = true := by decide +kernel
set_option maxRecDepth 100000 in
theorem e_q513 : c_blk 138 kX9_best_68 [] = true := by decide +kernel
set_option maxRecDepth 100000 in
theorem e_q514 : c_blk 138 kX9_best_74 [] = true := by decide +kernel
set_option maxRecDepth 100000 in
theorem e_q515 : c_blk 139 kX9_plans_0 [] = true := by decide +kernel
set_option maxRecDepth 100000 in
theorem e_q516 : c_blk 139 kX9_plans_5 [] = true := by decide +kernel
set_option maxRecDepth 100000 in
theorem e_q517 : c_blk 139 kX9_plans_15 [] = true := by decide +kernel
set_option maxRecDepth 100000 in
theorem e_q518 : c_blk 139 kX9_plans_44 [] = true := by decide +kernel
set_option maxRecDepth 100000 in
theorem e_q519 : c_blk 139 kX9_plans_48 [] = true := by decide +kernel
set_option maxRecDepth 100000 in
theorem e_q520 : c_blk 139 kX9_plans_57 [] = true := by decide +kernel
set_option maxRecDepth 100000 in
theorem e_q521 : c_blk 139 kX9_plans_68 [] = true := by decide +kernel
set_option maxRecDepth 100000 in
theorem e_q522 : c_blk 139 kX9_plans_90 [] = true := by decide +kernel
set_option maxRecDepth 100000 in
theorem e_q523 : c_blk 139 kX9_plans_115 [[925], []] = true := by decide +kernel
set_option maxRecDepth 100000 in
theorem e_q524 : c_blk 139 kX9_plans_117 [] = true := by decide +kernel
set_option maxRecDepth 100000 in
theorem e_q525 : c_blk 139 kX9_plans_130 [] = true := by decide +kernel
set_option maxRecDepth 100000 in
theorem e_q526 : c_blk 139 kX9_plans_134 [] = true := by decide +kernel
set_option maxRecDepth 100000 in
theorem e_q527 : c_blk 139 kX9_plans_135 [] = true := by decide +kernel
set_option maxRecDepth 100000 in
theorem e_q528 : c_blk 139 kX9_plans_143 [] = true := by decide +kernel
set_option maxRecDepth 100000 in
theorem e_q529 : c_blk 139 kX9_plans_156 [] = true := by decide +kernel
set_option maxRecDepth 100000 in
theorem e_q530 : c_blk 139 kX9_plans_157 [] = true := by decide +kernel
set_option maxRecDepth 100000 in
theorem e_q531 : c_blk 139 kX9_plans_164 [] = true := by decide +kernel
set_option maxRecDepth 100000 in
theorem e_q532 : c_blk 140 kX9_lacksPlan_0 [] = true := by decide +kernel
set_option maxRecDepth 100000 in
theorem e_q533 : c_blk 140 kX9_lacksPlan_15 [] = true := by decide +kernel
set_option maxRecDepth 100000 in
theorem e_q534 : c_blk 140 kX9_lacksPlan_27 [] = true := by decide +kernel
set_option maxRecDepth 100000 in
theorem e_q535 : c_blk 140 kX9_lacksPlan_29 [] = true := by decide +kernel
set_option maxRecDepth 100000 in
theorem e_q536 : c_blk 141 kX9_planSteps_0 [] = true := by decide +kernel
set_option maxRecDepth 100000 in
theorem e_q537 : c_blk 141 kX9_planSteps_16 [] = true := by decide +kernel
set_option maxRecDepth 100000 in
theorem e_q538 : c_blk 142 kX9_planTap_0 [] = true := by decide +kernel
set_option maxRecDepth 100000 in
theorem e_q539 : c_blk 142 kX9_planTap_18 [] = true := by decide +kernel
set_option maxRecDepth 100000 in
theorem e_q540 : c_blk 142 kX9_planTap_20 [] = true := by decide +kernel
set_option maxRecDepth 100000 in
theorem e_q541 : c_blk 142 kX9_planTap_31 [] = true := by decide +kernel
set_option maxRecDepth 100000 in
theorem e_q542 : c_blk 142 kX9_planTap_46 [] = true := by decide +kernel
set_option maxRecDepth 100000 in
theorem e_q543 : c_blk 142 kX9_planTap_68 [] = true := by decide +kernel
set_option maxRecDepth 100000 in
theorem e_q544 : c_blk 143 kX9_undo_0 [] = true := by decide +kernel
set_option maxRecDepth 100000 in
theorem e_q545 : c_blk 143 kX9_undo_14 [] = true := by decide +kernel
set_option maxRecDepth 100000 in
theorem e_q546 : c_blk 143 kX9_undo_26 [] = true := by decide +kernel
set_option maxRecDepth 100000 in
theorem e_q547 : c_blk 143 kX9_undo_60 [] = true := by decide +kernel
set_option maxRecDepth 100000 in
theorem e_q548 : c_blk 144 kX9_errorCount_0 [] = true := by decide +kernel
set_option maxRecDepth 100000 in
theorem e_q549 : c_blk 144 kX9_errorCount_21 [] = true := by decide +kernel
set_option maxRecDepth 100000 in
theorem e_q550 : c_blk 144 kX9_errorCount_27 [] = true := by decide +kernel
set_option maxRecDepth 100000 in
theorem e_q551 : c_blk 145 kX9_mixed_0 [[949], [], [], [], [], []] = true := by decide +kernel
set_option maxRecDepth 100000 in
theorem e_q552 : c_blk 146 kX9_digest_0 [[], [], [945], [], [], [], []] = true := by decide +kernel
set_option maxRecDepth 100000 in
theorem e_q553 : c_blk 146 kX9_digest_10 [] = true := by decide +kernel
set_option maxRecDepth 100000 in
theorem e_q554 : c_blk 146 kX9_digest_34 [] = true := by decide +kernel
set_option maxRecDepth 100000 in
theorem e_q555 : c_blk 146 kX9_digest_66 [] = true := by decide +kernel
set_option maxRecDepth 100000 in
theorem e_q556 : c_blk 146 kX9_digest_92 [] = true := by decide +kernel
set_option maxRecDepth 100000 in
theorem e_q557 : c_blk 146 kX9_digest_106 [] = true := by decide +kernel
set_option maxRecDepth 100000 in
theorem e_q558 : c_blk 146 kX9_digest_216 [] = true := by decide +kernel
set_option maxRecDepth 100000 in
theorem e_q559 : c_blk 146 kX9_digest_264 [] = true := by decide +kernel
set_option maxRecDepth 100000 in
theorem e_q560 : c_blk 146 kX9_digest_270 [] = true := by decide +kernel
end
section
theorem e_labs_len : e_labs.length = 561 := by decide +kernel
set_option maxRecDepth 20000 in
theorem e_chk_0 : ∀ i, i < 40 → ∃ w, c_blk (e_lm (0 + i)) (e_lbl (0 + i)) w = true := by
  intro i h
  match i, h with
  | 0, _ => exact ⟨_, e_q0⟩
  | 1, _ => exact ⟨_, e_q1⟩
  | 2, _ => exact ⟨_, e_q2⟩
  | 3, _ => exact ⟨_, e_q3⟩
  | 4, _ => exact ⟨_, e_q4⟩
  | 5, _ => exact ⟨_, e_q5⟩
  | 6, _ => exact ⟨_, e_q6⟩
  | 7, _ => exact ⟨_, e_q7⟩
  | 8, _ => exact ⟨_, e_q8⟩
  | 9, _ => exact ⟨_, e_q9⟩
  | 10, _ => exact ⟨_, e_q10⟩
  | 11, _ => exact ⟨_, e_q11⟩
  | 12, _ => exact ⟨_, e_q12⟩
  | 13, _ => exact ⟨_, e_q13⟩
  | 14, _ => exact ⟨_, e_q14⟩
  | 15, _ => exact ⟨_, e_q15⟩
  | 16, _ => exact ⟨_, e_q16⟩
  | 17, _ => exact ⟨_, e_q17⟩
  | 18, _ => exact ⟨_, e_q18⟩
  | 19, _ => exact ⟨_, e_q19⟩
  | 20, _ => exact ⟨_, e_q20⟩
  | 21, _ => exact ⟨_, e_q21⟩
  | 22, _ => exact ⟨_, e_q22⟩
  | 23, _ => exact ⟨_, e_q23⟩
  | 24, _ => exact ⟨_, e_q24⟩
  | 25, _ => exact ⟨_, e_q25⟩
  | 26, _ => exact ⟨_, e_q26⟩
  | 27, _ => exact ⟨_, e_q27⟩
  | 28, _ => exact ⟨_, e_q28⟩
  | 29, _ => exact ⟨_, e_q29⟩
  | 30, _ => exact ⟨_, e_q30⟩
  | 31, _ => exact ⟨_, e_q31⟩
  | 32, _ => exact ⟨_, e_q32⟩
  | 33, _ => exact ⟨_, e_q33⟩
  | 34, _ => exact ⟨_, e_q34⟩
  | 35, _ => exact ⟨_, e_q35⟩
  | 36, _ => exact ⟨_, e_q36⟩
  | 37, _ => exact ⟨_, e_q37⟩
  | 38, _ => exact ⟨_, e_q38⟩
  | 39, _ => exact ⟨_, e_q39⟩
  | i + 40, h => omega
set_option maxRecDepth 20000 in
theorem e_chk_1 : ∀ i, i < 40 → ∃ w, c_blk (e_lm (40 + i)) (e_lbl (40 + i)) w = true := by
  intro i h
  match i, h with
  | 0, _ => exact ⟨_, e_q40⟩
  | 1, _ => exact ⟨_, e_q41⟩
  | 2, _ => exact ⟨_, e_q42⟩
  | 3, _ => exact ⟨_, e_q43⟩
  | 4, _ => exact ⟨_, e_q44⟩
  | 5, _ => exact ⟨_, e_q45⟩
  | 6, _ => exact ⟨_, e_q46⟩
  | 7, _ => exact ⟨_, e_q47⟩
  | 8, _ => exact ⟨_, e_q48⟩
  | 9, _ => exact ⟨_, e_q49⟩
  | 10, _ => exact ⟨_, e_q50⟩
  | 11, _ => exact ⟨_, e_q51⟩
  | 12, _ => exact ⟨_, e_q52⟩
  | 13, _ => exact ⟨_, e_q53⟩
  | 14, _ => exact ⟨_, e_q54⟩
  | 15, _ => exact ⟨_, e_q55⟩
  | 16, _ => exact ⟨_, e_q56⟩
  | 17, _ => exact ⟨_, e_q57⟩
  | 18, _ => exact ⟨_, e_q58⟩
  | 19, _ => exact ⟨_, e_q59⟩
  | 20, _ => exact ⟨_, e_q60⟩
  | 21, _ => exact ⟨_, e_q61⟩
  | 22, _ => exact ⟨_, e_q62⟩
  | 23, _ => exact ⟨_, e_q63⟩
  | 24, _ => exact ⟨_, e_q64⟩
  | 25, _ => exact ⟨_, e_q65⟩
  | 26, _ => exact ⟨_, e_q66⟩
  | 27, _ => exact ⟨_, e_q67⟩
  | 28, _ => exact ⟨_, e_q68⟩
  | 29, _ => exact ⟨_, e_q69⟩
  | 30, _ => exact ⟨_, e_q70⟩
  | 31, _ => exact ⟨_, e_q71⟩
  | 32, _ => exact ⟨_, e_q72⟩
  | 33, _ => exact ⟨_, e_q73⟩
  | 34, _ => exact ⟨_, e_q74⟩
  | 35, _ => exact ⟨_, e_q75⟩
  | 36, _ => exact ⟨_, e_q76⟩
  | 37, _ => exact ⟨_, e_q77⟩
  | 38, _ => exact ⟨_, e_q78⟩
  | 39, _ => exact ⟨_, e_q79⟩
  | i + 40, h => omega
set_option maxRecDepth 20000 in
theorem e_chk_2 : ∀ i, i < 40 → ∃ w, c_blk (e_lm (80 + i)) (e_lbl (80 + i)) w = true := by
  intro i h
  match i, h with
  | 0, _ => exact ⟨_, e_q80⟩
  | 1, _ => exact ⟨_, e_q81⟩
  | 2, _ => exact ⟨_, e_q82⟩
  | 3, _ => exact ⟨_, e_q83⟩
  | 4, _ => exact ⟨_, e_q84⟩
  | 5, _ => exact ⟨_, e_q85⟩
  | 6, _ => exact ⟨_, e_q86⟩
  | 7, _ => exact ⟨_, e_q87⟩
  | 8, _ => exact ⟨_, e_q88⟩
  | 9, _ => exact ⟨_, e_q89⟩
  | 10, _ => exact ⟨_, e_q90⟩
  | 11, _ => exact ⟨_, e_q91⟩
  | 12, _ => exact ⟨_, e_q92⟩
  | 13, _ => exact ⟨_, e_q93⟩
  | 14, _ => exact ⟨_, e_q94⟩
  | 15, _ => exact ⟨_, e_q95⟩
  | 16, _ => exact ⟨_, e_q96⟩
  | 17, _ => exact ⟨_, e_q97⟩
  | 18, _ => exact ⟨_, e_q98⟩
  | 19, _ => exact ⟨_, e_q99⟩
  | 20, _ => exact ⟨_, e_q100⟩
  | 21, _ => exact ⟨_, e_q101⟩
  | 22, _ => exact ⟨_, e_q102⟩
  | 23, _ => exact ⟨_, e_q103⟩
  | 24, _ => exact ⟨_, e_q104⟩
  | 25, _ => exact ⟨_, e_q105⟩
  | 26, _ => exact ⟨_, e_q106⟩
  | 27, _ => exact ⟨_, e_q107⟩
  | 28, _ => exact ⟨_, e_q108⟩
  | 29, _ => exact ⟨_, e_q109⟩
  | 30, _ => exact ⟨_, e_q110⟩
  | 31, _ => exact ⟨_, e_q111⟩
  | 32, _ => exact ⟨_, e_q112⟩
  | 33, _ => exact ⟨_, e_q113⟩
  | 34, _ => exact ⟨_, e_q114⟩
  | 35, _ => exact ⟨_, e_q115⟩
  | 36, _ => exact ⟨_, e_q116⟩
  | 37, _ => exact ⟨_, e_q117⟩
  | 38, _ => exact ⟨_, e_q118⟩
  | 39, _ => exact ⟨_, e_q119⟩
  | i + 40, h => omega
set_option maxRecDepth 20000 in
theorem e_chk_3 : ∀ i, i < 40 → ∃ w, c_blk (e_lm (120 + i)) (e_lbl (120 + i)) w = true := by
  intro i h
  match i, h with
  | 0, _ => exact ⟨_, e_q120⟩
  | 1, _ => exact ⟨_, e_q121⟩
  | 2, _ => exact ⟨_, e_q122⟩
  | 3, _ => exact ⟨_, e_q123⟩
  | 4, _ => exact ⟨_, e_q124⟩
  | 5, _ => exact ⟨_, e_q125⟩
  | 6, _ => exact ⟨_, e_q126⟩
  | 7, _ => exact ⟨_, e_q127⟩
  | 8, _ => exact ⟨_, e_q128⟩
  | 9, _ => exact ⟨_, e_q129⟩
  | 10, _ => exact ⟨_, e_q130⟩
  | 11, _ => exact ⟨_, e_q131⟩
  | 12, _ => exact ⟨_, e_q132⟩
  | 13, _ => exact ⟨_, e_q133⟩
  | 14, _ => exact ⟨_, e_q134⟩
  | 15, _ => exact ⟨_, e_q135⟩
  | 16, _ => exact ⟨_, e_q136⟩
  | 17, _ => exact ⟨_, e_q137⟩
  | 18, _ => exact ⟨_, e_q138⟩
  | 19, _ => exact ⟨_, e_q139⟩
  | 20, _ => exact ⟨_, e_q140⟩
  | 21, _ => exact ⟨_, e_q141⟩
  | 22, _ => exact ⟨_, e_q142⟩
  | 23, _ => exact ⟨_, e_q143⟩
  | 24, _ => exact ⟨_, e_q144⟩
  | 25, _ => exact ⟨_, e_q145⟩
  | 26, _ => exact ⟨_, e_q146⟩
  | 27, _ => exact ⟨_, e_q147⟩
  | 28, _ => exact ⟨_, e_q148⟩
  | 29, _ => exact ⟨_, e_q149⟩
  | 30, _ => exact ⟨_, e_q150⟩
  | 31, _ => exact ⟨_, e_q151⟩
  | 32, _ => exact ⟨_, e_q152⟩
  | 33, _ => exact ⟨_, e_q153⟩
  | 34, _ => exact ⟨_, e_q154⟩
  | 35, _ => exact ⟨_, e_q155⟩
  | 36, _ => exact ⟨_, e_q156⟩
  | 37, _ => exact ⟨_, e_q157⟩
  | 38, _ => exact ⟨_, e_q158⟩
  | 39, _ => exact ⟨_, e_q159⟩
  | i + 40, h => omega
set_option maxRecDepth 20000 in
theorem e_chk_4 : ∀ i, i < 40 → ∃ w, c_blk (e_lm (160 + i)) (e_lbl (160 + i)) w = true := by
  intro i h
  match i, h with
  | 0, _ => exact ⟨_, e_q160⟩
  | 1, _ => exact ⟨_, e_q161⟩
  | 2, _ => exact ⟨_, e_q162⟩
  | 3, _ => exact ⟨_, e_q163⟩
  | 4, _ => exact ⟨_, e_q164⟩
  | 5, _ => exact ⟨_, e_q165⟩
  | 6, _ => exact ⟨_, e_q166⟩
  | 7, _ => exact ⟨_, e_q167⟩
  | 8, _ => exact ⟨_, e_q168⟩
  | 9, _ => exact ⟨_, e_q169⟩
  | 10, _ => exact ⟨_, e_q170⟩
  | 11, _ => exact ⟨_, e_q171⟩
  | 12, _ => exact ⟨_, e_q172⟩
  | 13, _ => exact ⟨_, e_q173⟩
  | 14, _ => exact ⟨_, e_q174⟩
  | 15, _ => exact ⟨_, e_q175⟩
  | 16, _ => exact ⟨_, e_q176⟩
  | 17, _ => exact ⟨_, e_q177⟩
  | 18, _ => exact ⟨_, e_q178⟩
  | 19, _ => exact ⟨_, e_q179⟩
  | 20, _ => exact ⟨_, e_q180⟩
  | 21, _ => exact ⟨_, e_q181⟩
  | 22, _ => exact ⟨_, e_q182⟩
  | 23, _ => exact ⟨_, e_q183⟩
  | 24, _ => exact ⟨_, e_q184⟩
  | 25, _ => exact ⟨_, e_q185⟩
  | 26, _ => exact ⟨_, e_q186⟩
  | 27, _ => exact ⟨_, e_q187⟩
  | 28, _ => exact ⟨_, e_q188⟩
  | 29, _ => exact ⟨_, e_q189⟩
  | 30, _ => exact ⟨_, e_q190⟩
  | 31, _ => exact ⟨_, e_q191⟩
  | 32, _ => exact ⟨_, e_q192⟩
  | 33, _ => exact ⟨_, e_q193⟩
  | 34, _ => exact ⟨_, e_q194⟩
  | 35, _ => exact ⟨_, e_q195⟩
  | 36, _ => exact ⟨_, e_q196⟩
  | 37, _ => exact ⟨_, e_q197⟩
  | 38, _ => exact ⟨_, e_q198⟩
  | 39, _ => exact ⟨_, e_q199⟩
  | i + 40, h => omega
set_option maxRecDepth 20000 in
theorem e_chk_5 : ∀ i, i < 40 → ∃ w, c_blk (e_lm (200 + i)) (e_lbl (200 + i)) w = true := by
  intro i h
  match i, h with
  | 0, _ => exact ⟨_, e_q200⟩
  | 1, _ => exact ⟨_, e_q201⟩
  | 2, _ => exact ⟨_, e_q202⟩
  | 3, _ => exact ⟨_, e_q203⟩
  | 4, _ => exact ⟨_, e_q204⟩
  | 5, _ => exact ⟨_, e_q205⟩
  | 6, _ => exact ⟨_, e_q206⟩
  | 7, _ => exact ⟨_, e_q207⟩
  | 8, _ => exact ⟨_, e_q208⟩
  | 9, _ => exact ⟨_, e_q209⟩
  | 10, _ => exact ⟨_, e_q210⟩
  | 11, _ => exact ⟨_, e_q211⟩
  | 12, _ => exact ⟨_, e_q212⟩
  | 13, _ => exact ⟨_, e_q213⟩
  | 14, _ => exact ⟨_, e_q214⟩
  | 15, _ => exact ⟨_, e_q215⟩
  | 16, _ => exact ⟨_, e_q216⟩
  | 17, _ => exact ⟨_, e_q217⟩
  | 18, _ => exact ⟨_, e_q218⟩
  | 19, _ => exact ⟨_, e_q219⟩
  | 20, _ => exact ⟨_, e_q220⟩
  | 21, _ => exact ⟨_, e_q221⟩
  | 22, _ => exact ⟨_, e_q222⟩
  | 23, _ => exact ⟨_, e_q223⟩
  | 24, _ => exact ⟨_, e_q224⟩
  | 25, _ => exact ⟨_, e_q225⟩
  | 26, _ => exact ⟨_, e_q226⟩
  | 27, _ => exact ⟨_, e_q227⟩
  | 28, _ => exact ⟨_, e_q228⟩
  | 29, _ => exact ⟨_, e_q229⟩
  | 30, _ => exact ⟨_, e_q230⟩
  | 31, _ => exact ⟨_, e_q231⟩
  | 32, _ => exact ⟨_, e_q232⟩
  | 33, _ => exact ⟨_, e_q233⟩
  | 34, _ => exact ⟨_, e_q234⟩
  | 35, _ => exact ⟨_, e_q235⟩
  | 36, _ => exact ⟨_, e_q236⟩
  | 37, _ => exact ⟨_, e_q237⟩
  | 38, _ => exact ⟨_, e_q238⟩
  | 39, _ => exact ⟨_, e_q239⟩
  | i + 40, h => omega
set_option maxRecDepth 20000 in
theorem e_chk_6 : ∀ i, i < 40 → ∃ w, c_blk (e_lm (240 + i)) (e_lbl (240 + i)) w = true := by
  intro i h
  match i, h with
  | 0, _ => exact ⟨_, e_q240⟩
  | 1, _ => exact ⟨_, e_q241⟩
  | 2, _ => exact ⟨_, e_q242⟩
  | 3, _ => exact ⟨_, e_q243⟩
  | 4, _ => exact ⟨_, e_q244⟩
  | 5, _ => exact ⟨_, e_q245⟩
  | 6, _ => exact ⟨_, e_q246⟩
  | 7, _ => exact ⟨_, e_q247⟩
  | 8, _ => exact ⟨_, e_q248⟩
  | 9, _ => exact ⟨_, e_q249⟩
  | 10, _ => exact ⟨_, e_q250⟩
  | 11, _ => exact ⟨_, e_q251⟩
  | 12, _ => exact ⟨_, e_q252⟩
  | 13, _ => exact ⟨_, e_q253⟩
  | 14, _ => exact ⟨_, e_q254⟩
  | 15, _ => exact ⟨_, e_q255⟩
  | 16, _ => exact ⟨_, e_q256⟩
  | 17, _ => exact ⟨_, e_q257⟩
  | 18, _ => exact ⟨_, e_q258⟩
  | 19, _ => exact ⟨_, e_q259⟩
  | 20, _ => exact ⟨_, e_q260⟩
  | 21, _ => exact ⟨_, e_q261⟩
  | 22, _ => exact ⟨_, e_q262⟩
  | 23, _ => exact ⟨_, e_q263⟩
  | 24, _ => exact ⟨_, e_q264⟩
  | 25, _ => exact ⟨_, e_q265⟩
  | 26, _ => exact ⟨_, e_q266⟩
  | 27, _ => exact ⟨_, e_q267⟩
  | 28, _ => exact ⟨_, e_q268⟩
  | 29, _ => exact ⟨_, e_q269⟩
  | 30, _ => exact ⟨_, e_q270⟩
  | 31, _ => exact ⟨_, e_q271⟩
  | 32, _ => exact ⟨_, e_q272⟩
  | 33, _ => exact ⟨_, e_q273⟩
  | 34, _ => exact ⟨_, e_q274⟩
  | 35, _ => exact ⟨_, e_q275⟩
  | 36, _ => exact ⟨_, e_q276⟩
  | 37, _ => exact ⟨_, e_q277⟩
  | 38, _ => exact ⟨_, e_q278⟩
  | 39, _ => exact ⟨_, e_q279⟩
  | i + 40, h => omega
set_option maxRecDepth 20000 in
theorem e_chk_7 : ∀ i, i < 40 → ∃ w, c_blk (e_lm (280 + i)) (e_lbl (280 + i)) w = true := by
  intro i h
  match i, h with
  | 0, _ => exact ⟨_, e_q280⟩
  | 1, _ => exact ⟨_, e_q281⟩
  | 2, _ => exact ⟨_, e_q282⟩
  | 3, _ => exact ⟨_, e_q283⟩
  | 4, _ => exact ⟨_, e_q284⟩
  | 5, _ => exact ⟨_, e_q285⟩
  | 6, _ => exact ⟨_, e_q286⟩
  | 7, _ => exact ⟨_, e_q287⟩
  | 8, _ => exact ⟨_, e_q288⟩
  | 9, _ => exact ⟨_, e_q289⟩
  | 10, _ => exact ⟨_, e_q290⟩
  | 11, _ => exact ⟨_, e_q291⟩
  | 12, _ => exact ⟨_, e_q292⟩
  | 13, _ => exact ⟨_, e_q293⟩
  | 14, _ => exact ⟨_, e_q294⟩
  | 15, _ => exact ⟨_, e_q295⟩
  | 16, _ => exact ⟨_, e_q296⟩
  | 17, _ => exact ⟨_, e_q297⟩
  | 18, _ => exact ⟨_, e_q298⟩
  | 19, _ => exact ⟨_, e_q299⟩
  | 20, _ => exact ⟨_, e_q300⟩
  | 21, _ => exact ⟨_, e_q301⟩
  | 22, _ => exact ⟨_, e_q302⟩
  | 23, _ => exact ⟨_, e_q303⟩
  | 24, _ => exact ⟨_, e_q304⟩
  | 25, _ => exact ⟨_, e_q305⟩
  | 26, _ => exact ⟨_, e_q306⟩
  | 27, _ => exact ⟨_, e_q307⟩
  | 28, _ => exact ⟨_, e_q308⟩
  | 29, _ => exact ⟨_, e_q309⟩
  | 30, _ => exact ⟨_, e_q310⟩
  | 31, _ => exact ⟨_, e_q311⟩
  | 32, _ => exact ⟨_, e_q312⟩
  | 33, _ => exact ⟨_, e_q313⟩
  | 34, _ => exact ⟨_, e_q314⟩
  | 35, _ => exact ⟨_, e_q315⟩
  | 36, _ => exact ⟨_, e_q316⟩
  | 37, _ => exact ⟨_, e_q317⟩
  | 38, _ => exact ⟨_, e_q318⟩
  | 39, _ => exact ⟨_, e_q319⟩
  | i + 40, h => omega
set_option maxRecDepth 20000 in
theorem e_chk_8 : ∀ i, i < 40 → ∃ w, c_blk (e_lm (320 + i)) (e_lbl (320 + i)) w = true := by
  intro i h
  match i, h with
  | 0, _ => exact ⟨_, e_q320⟩
  | 1, _ => exact ⟨_, e_q321⟩
  | 2, _ => exact ⟨_, e_q322⟩
  | 3, _ => exact ⟨_, e_q323⟩
  | 4, _ => exact ⟨_, e_q324⟩
  | 5, _ => exact ⟨_, e_q325⟩
  | 6, _ => exact ⟨_, e_q326⟩
  | 7, _ => exact ⟨_, e_q327⟩
  | 8, _ => exact ⟨_, e_q328⟩
  | 9, _ => exact ⟨_, e_q329⟩
  | 10, _ => exact ⟨_, e_q330⟩
  | 11, _ => exact ⟨_, e_q331⟩
  | 12, _ => exact ⟨_, e_q332⟩
  | 13, _ => exact ⟨_, e_q333⟩
  | 14, _ => exact ⟨_, e_q334⟩
  | 15, _ => exact ⟨_, e_q335⟩
  | 16, _ => exact ⟨_, e_q336⟩
  | 17, _ => exact ⟨_, e_q337⟩
  | 18, _ => exact ⟨_, e_q338⟩
  | 19, _ => exact ⟨_, e_q339⟩
  | 20, _ => exact ⟨_, e_q340⟩
  | 21, _ => exact ⟨_, e_q341⟩
  | 22, _ => exact ⟨_, e_q342⟩
  | 23, _ => exact ⟨_, e_q343⟩
  | 24, _ => exact ⟨_, e_q344⟩
  | 25, _ => exact ⟨_, e_q345⟩
  | 26, _ => exact ⟨_, e_q346⟩
  | 27, _ => exact ⟨_, e_q347⟩
  | 28, _ => exact ⟨_, e_q348⟩
  | 29, _ => exact ⟨_, e_q349⟩
  | 30, _ => exact ⟨_, e_q350⟩
  | 31, _ => exact ⟨_, e_q351⟩
  | 32, _ => exact ⟨_, e_q352⟩
  | 33, _ => exact ⟨_, e_q353⟩
  | 34, _ => exact ⟨_, e_q354⟩
  | 35, _ => exact ⟨_, e_q355⟩
  | 36, _ => exact ⟨_, e_q356⟩
  | 37, _ => exact ⟨_, e_q357⟩
  | 38, _ => exact ⟨_, e_q358⟩
  | 39, _ => exact ⟨_, e_q359⟩
  | i + 40, h => omega
set_option maxRecDepth 20000 in
theorem e_chk_9 : ∀ i, i < 40 → ∃ w, c_blk (e_lm (360 + i)) (e_lbl (360 + i)) w = true := by
  intro i h
  match i, h with
  | 0, _ => exact ⟨_, e_q360⟩
  | 1, _ => exact ⟨_, e_q361⟩
  | 2, _ => exact ⟨_, e_q362⟩
  | 3, _ => exact ⟨_, e_q363⟩
  | 4, _ => exact ⟨_, e_q364⟩
  | 5, _ => exact ⟨_, e_q365⟩
  | 6, _ => exact ⟨_, e_q366⟩
  | 7, _ => exact ⟨_, e_q367⟩
  | 8, _ => exact ⟨_, e_q368⟩
  | 9, _ => exact ⟨_, e_q369⟩
  | 10, _ => exact ⟨_, e_q370⟩
  | 11, _ => exact ⟨_, e_q371⟩
  | 12, _ => exact ⟨_, e_q372⟩
  | 13, _ => exact ⟨_, e_q373⟩
  | 14, _ => exact ⟨_, e_q374⟩
  | 15, _ => exact ⟨_, e_q375⟩
  | 16, _ => exact ⟨_, e_q376⟩
  | 17, _ => exact ⟨_, e_q377⟩
  | 18, _ => exact ⟨_, e_q378⟩
  | 19, _ => exact ⟨_, e_q379⟩
  | 20, _ => exact ⟨_, e_q380⟩
  | 21, _ => exact ⟨_, e_q381⟩
  | 22, _ => exact ⟨_, e_q382⟩
  | 23, _ => exact ⟨_, e_q383⟩
  | 24, _ => exact ⟨_, e_q384⟩
  | 25, _ => exact ⟨_, e_q385⟩
  | 26, _ => exact ⟨_, e_q386⟩
  | 27, _ => exact ⟨_, e_q387⟩
  | 28, _ => exact ⟨_, e_q388⟩
  | 29, _ => exact ⟨_, e_q389⟩
  | 30, _ => exact ⟨_, e_q390⟩
  | 31, _ => exact ⟨_, e_q391⟩
  | 32, _ => exact ⟨_, e_q392⟩
  | 33, _ => exact ⟨_, e_q393⟩
  | 34, _ => exact ⟨_, e_q394⟩
  | 35, _ => exact ⟨_, e_q395⟩
  | 36, _ => exact ⟨_, e_q396⟩
  | 37, _ => exact ⟨_, e_q397⟩
  | 38, _ => exact ⟨_, e_q398⟩
  | 39, _ => exact ⟨_, e_q399⟩
  | i + 40, h => omega
set_option maxRecDepth 20000 in
theorem e_chk_10 : ∀ i, i < 40 → ∃ w, c_blk (e_lm (400 + i)) (e_lbl (400 + i)) w = true := by
  intro i h
  match i, h with
  | 0, _ => exact ⟨_, e_q400⟩
  | 1, _ => exact ⟨_, e_q401⟩
  | 2, _ => exact ⟨_, e_q402⟩
  | 3, _ => exact ⟨_, e_q403⟩
  | 4, _ => exact ⟨_, e_q404⟩
  | 5, _ => exact ⟨_, e_q405⟩
  | 6, _ => exact ⟨_, e_q406⟩
  | 7, _ => exact ⟨_, e_q407⟩
  | 8, _ => exact ⟨_, e_q408⟩
  | 9, _ => exact ⟨_, e_q409⟩
  | 10, _ => exact ⟨_, e_q410⟩
  | 11, _ => exact ⟨_, e_q411⟩
  | 12, _ => exact ⟨_, e_q412⟩
  | 13, _ => exact ⟨_, e_q413⟩
  | 14, _ => exact ⟨_, e_q414⟩
  | 15, _ => exact ⟨_, e_q415⟩
  | 16, _ => exact ⟨_, e_q416⟩
  | 17, _ => exact ⟨_, e_q417⟩
  | 18, _ => exact ⟨_, e_q418⟩
  | 19, _ => exact ⟨_, e_q419⟩
  | 20, _ => exact ⟨_, e_q420⟩
  | 21, _ => exact ⟨_, e_q421⟩
  | 22, _ => exact ⟨_, e_q422⟩
  | 23, _ => exact ⟨_, e_q423⟩
  | 24, _ => exact ⟨_, e_q424⟩
  | 25, _ => exact ⟨_, e_q425⟩
  | 26, _ => exact ⟨_, e_q426⟩
  | 27, _ => exact ⟨_, e_q427⟩
  | 28, _ => exact ⟨_, e_q428⟩
  | 29, _ => exact ⟨_, e_q429⟩
  | 30, _ => exact ⟨_, e_q430⟩
  | 31, _ => exact ⟨_, e_q431⟩
  | 32, _ => exact ⟨_, e_q432⟩
  | 33, _ => exact ⟨_, e_q433⟩
  | 34, _ => exact ⟨_, e_q434⟩
  | 35, _ => exact ⟨_, e_q435⟩
  | 36, _ => exact ⟨_, e_q436⟩
  | 37, _ => exact ⟨_, e_q437⟩
  | 38, _ => exact ⟨_, e_q438⟩
  | 39, _ => exact ⟨_, e_q439⟩
  | i + 40, h => omega
set_option maxRecDepth 20000 in
theorem e_chk_11 : ∀ i, i < 40 → ∃ w, c_blk (e_lm (440 + i)) (e_lbl (440 + i)) w = true := by
  intro i h
  match i, h with
  | 0, _ => exact ⟨_, e_q440⟩
  | 1, _ => exact ⟨_, e_q441⟩
  | 2, _ => exact ⟨_, e_q442⟩
  | 3, _ => exact ⟨_, e_q443⟩
  | 4, _ => exact ⟨_, e_q444⟩
  | 5, _ => exact ⟨_, e_q445⟩
  | 6, _ => exact ⟨_, e_q446⟩
  | 7, _ => exact ⟨_, e_q447⟩
  | 8, _ => exact ⟨_, e_q448⟩
  | 9, _ => exact ⟨_, e_q449⟩
  | 10, _ => exact ⟨_, e_q450⟩
  | 11, _ => exact ⟨_, e_q451⟩
  | 12, _ => exact ⟨_, e_q452⟩
  | 13, _ => exact ⟨_, e_q453⟩
  | 14, _ => exact ⟨_, e_q454⟩
  | 15, _ => exact ⟨_, e_q455⟩
  | 16, _ => exact ⟨_, e_q456⟩
  | 17, _ => exact ⟨_, e_q457⟩
  | 18, _ => exact ⟨_, e_q458⟩
  | 19, _ => exact ⟨_, e_q459⟩
  | 20, _ => exact ⟨_, e_q460⟩
  | 21, _ => exact ⟨_, e_q461⟩
  | 22, _ => exact ⟨_, e_q462⟩
  | 23, _ => exact ⟨_, e_q463⟩
  | 24, _ => exact ⟨_, e_q464⟩
  | 25, _ => exact ⟨_, e_q465⟩
  | 26, _ => exact ⟨_, e_q466⟩
  | 27, _ => exact ⟨_, e_q467⟩
  | 28, _ => exact ⟨_, e_q468⟩
  | 29, _ => exact ⟨_, e_q469⟩
  | 30, _ => exact ⟨_, e_q470⟩
  | 31, _ => exact ⟨_, e_q471⟩
  | 32, _ => exact ⟨_, e_q472⟩
  | 33, _ => exact ⟨_, e_q473⟩
  | 34, _ => exact ⟨_, e_q474⟩
  | 35, _ => exact ⟨_, e_q475⟩
  | 36, _ => exact ⟨_, e_q476⟩
  | 37, _ => exact ⟨_, e_q477⟩
  | 38, _ => exact ⟨_, e_q478⟩
  | 39, _ => exact ⟨_, e_q479⟩
  | i + 40, h => omega
set_option maxRecDepth 20000 in
theorem e_chk_12 : ∀ i, i < 40 → ∃ w, c_blk (e_lm (480 + i)) (e_lbl (480 + i)) w = true := by
  intro i h
  match i, h with
  | 0, _ => exact ⟨_, e_q480⟩
  | 1, _ => exact ⟨_, e_q481⟩
  | 2, _ => exact ⟨_, e_q482⟩
  | 3, _ => exact ⟨_, e_q483⟩
  | 4, _ => exact ⟨_, e_q484⟩
  | 5, _ => exact ⟨_, e_q485⟩
  | 6, _ => exact ⟨_, e_q486⟩
  | 7, _ => exact ⟨_, e_q487⟩
  | 8, _ => exact ⟨_, e_q488⟩
  | 9, _ => exact ⟨_, e_q489⟩
  | 10, _ => exact ⟨_, e_q490⟩
  | 11, _ => exact ⟨_, e_q491⟩
  | 12, _ => exact ⟨_, e_q492⟩
  | 13, _ => exact ⟨_, e_q493⟩
  | 14, _ => exact ⟨_, e_q494⟩
  | 15, _ => exact ⟨_, e_q495⟩
  | 16, _ => exact ⟨_, e_q496⟩
  | 17, _ => exact ⟨_, e_q497⟩
  | 18, _ => exact ⟨_, e_q498⟩
  | 19, _ => exact ⟨_, e_q499⟩
  | 20, _ => exact ⟨_, e_q500⟩
  | 21, _ => exact ⟨_, e_q501⟩
  | 22, _ => exact ⟨_, e_q502⟩
  | 23, _ => exact ⟨_, e_q503⟩
  | 24, _ => exact ⟨_, e_q504⟩
  | 25, _ => exact ⟨_, e_q505⟩
  | 26, _ => exact ⟨_, e_q506⟩
  | 27, _ => exact ⟨_, e_q507⟩
  | 28, _ => exact ⟨_, e_q508⟩
  | 29, _ => exact ⟨_, e_q509⟩
  | 30, _ => exact ⟨_, e_q510⟩
  | 31, _ => exact ⟨_, e_q511⟩
  | 32, _ => exact ⟨_, e_q512⟩
  | 33, _ => exact ⟨_, e_q513⟩
  | 34, _ => exact ⟨_, e_q514⟩
  | 35, _ => exact ⟨_, e_q515⟩
  | 36, _ => exact ⟨_, e_q516⟩
  | 37, _ => exact ⟨_, e_q517⟩
  | 38, _ => exact ⟨_, e_q518⟩
  | 39, _ => exact ⟨_, e_q519⟩
  | i + 40, h => omega
set_option maxRecDepth 20000 in
theorem e_chk_13 : ∀ i, i < 40 → ∃ w, c_blk (e_lm (520 + i)) (e_lbl (520 + i)) w = true := by
  intro i h
  match i, h with
  | 0, _ => exact ⟨_, e_q520⟩
  | 1, _ => exact ⟨_, e_q521⟩
  | 2, _ => exact ⟨_, e_q522⟩
  | 3, _ => exact ⟨_, e_q523⟩
  | 4, _ => exact ⟨_, e_q524⟩
  | 5, _ => exact ⟨_, e_q525⟩
  | 6, _ => exact ⟨_, e_q526⟩
  | 7, _ => exact ⟨_, e_q527⟩
  | 8, _ => exact ⟨_, e_q528⟩
  | 9, _ => exact ⟨_, e_q529⟩
  | 10, _ => exact ⟨_, e_q530⟩
  | 11, _ => exact ⟨_, e_q531⟩
  | 12, _ => exact ⟨_, e_q532⟩
  | 13, _ => exact ⟨_, e_q533⟩
  | 14, _ => exact ⟨_, e_q534⟩
  | 15, _ => exact ⟨_, e_q535⟩
  | 16, _ => exact ⟨_, e_q536⟩
  | 17, _ => exact ⟨_, e_q537⟩
  | 18, _ => exact ⟨_, e_q538⟩
  | 19, _ => exact ⟨_, e_q539⟩
  | 20, _ => exact ⟨_, e_q540⟩
  | 21, _ => exact ⟨_, e_q541⟩
  | 22, _ => exact ⟨_, e_q542⟩
  | 23, _ => exact ⟨_, e_q543⟩
  | 24, _ => exact ⟨_, e_q544⟩
  | 25, _ => exact ⟨_, e_q545⟩
  | 26, _ => exact ⟨_, e_q546⟩
  | 27, _ => exact ⟨_, e_q547⟩
  | 28, _ => exact ⟨_, e_q548⟩
  | 29, _ => exact ⟨_, e_q549⟩
  | 30, _ => exact ⟨_, e_q550⟩
  | 31, _ => exact ⟨_, e_q551⟩
  | 32, _ => exact ⟨_, e_q552⟩
  | 33, _ => exact ⟨_, e_q553⟩
  | 34, _ => exact ⟨_, e_q554⟩
  | 35, _ => exact ⟨_, e_q555⟩
  | 36, _ => exact ⟨_, e_q556⟩
  | 37, _ => exact ⟨_, e_q557⟩
  | 38, _ => exact ⟨_, e_q558⟩
  | 39, _ => exact ⟨_, e_q559⟩
  | i + 40, h => omega
set_option maxRecDepth 20000 in
theorem e_chk_14 : ∀ i, i < 1 → ∃ w, c_blk (e_lm (560 + i)) (e_lbl (560 + i)) w = true := by
  intro i h
  match i, h with
  | 0, _ => exact ⟨_, e_q560⟩
  | i + 1, h => omega
theorem e_chk : ∀ t, t < e_labs.length → ∃ w, c_blk (e_lm t) (e_lbl t) w = true := by
  intro t ht
  rw [e_labs_len] at ht
  by_cases h0 : t < 40
  · obtain ⟨w, hw⟩ := e_chk_0 (t - 0) (by omega)
    rw [show 0 + (t - 0) = t by omega] at hw
    exact ⟨w, hw⟩
  by_cases h1 : t < 80
  · obtain ⟨w, hw⟩ := e_chk_1 (t - 40) (by omega)
    rw [show 40 + (t - 40) = t by omega] at hw
    exact ⟨w, hw⟩
  by_cases h2 : t < 120
  · obtain ⟨w, hw⟩ := e_chk_2 (t - 80) (by omega)
    rw [show 80 + (t - 80) = t by omega] at hw
    exact ⟨w, hw⟩
  by_cases h3 : t < 160
  · obtain ⟨w, hw⟩ := e_chk_3 (t - 120) (by omega)
    rw [show 120 + (t - 120) = t by omega] at hw
    exact ⟨w, hw⟩
  by_cases h4 : t < 200
  · obtain ⟨w, hw⟩ := e_chk_4 (t - 160) (by omega)
    rw [show 160 + (t - 160) = t by omega] at hw
    exact ⟨w, hw⟩
  by_cases h5 : t < 240
  · obtain ⟨w, hw⟩ := e_chk_5 (t - 200) (by omega)
    rw [show 200 + (t - 200) = t by omega] at hw
    exact ⟨w, hw⟩
  by_cases h6 : t < 280
  · obtain ⟨w, hw⟩ := e_chk_6 (t - 240) (by omega)
    rw [show 240 + (t - 240) = t by omega] at hw
    exact ⟨w, hw⟩
  by_cases h7 : t < 320
  · obtain ⟨w, hw⟩ := e_chk_7 (t - 280) (by omega)
    rw [show 280 + (t - 280) = t by omega] at hw
    exact ⟨w, hw⟩
  by_cases h8 : t < 360
  · obtain ⟨w, hw⟩ := e_chk_8 (t - 320) (by omega)
    rw [show 320 + (t - 320) = t by omega] at hw
    exact ⟨w, hw⟩
  by_cases h9 : t < 400
  · obtain ⟨w, hw⟩ := e_chk_9 (t - 360) (by omega)
    rw [show 360 + (t - 360) = t by omega] at hw
    exact ⟨w, hw⟩
  by_cases h10 : t < 440
  · obtain ⟨w, hw⟩ := e_chk_10 (t - 400) (by omega)
    rw [show 400 + (t - 400) = t by omega] at hw
    exact ⟨w, hw⟩
  by_cases h11 : t < 480
  · obtain ⟨w, hw⟩ := e_chk_11 (t - 440) (by omega)
    rw [show 440 + (t - 440) = t by omega] at hw
    exact ⟨w, hw⟩
  by_cases h12 : t < 520
  · obtain ⟨w, hw⟩ := e_chk_12 (t - 480) (by omega)
    rw [show 480 + (t - 480) = t by omega] at hw
    exact ⟨w, hw⟩
  by_cases h13 : t < 560
  · obtain ⟨w, hw⟩ := e_chk_13 (t - 520) (by omega)
    rw [show 520 + (t - 520) = t by omega] at hw
    exact ⟨w, hw⟩
  by_cases h14 : t < 561
  · obtain ⟨w, hw⟩ := e_chk_14 (t - 560) (by omega)
    rw [show 560 + (t - 560) = t by omega] at hw
    exact ⟨w, hw⟩
  omega
end
section
/-! THE CLAIM OUT OF ONE WALK OF THE LAW'S BODY. Your part is whole_start (and what it stands on); all else here is the same for every law, but numbers. -/
def R_law : String := "FeederControlLaw"
def lw_P (b : Addr) (xs : List Int32) (args : Array Value) (s : State) : Prop := args = #[.ref b] ∧ s.IntsAt b xs ∧ xs.length ≤ 3584 ∧ (Jvm.Cond.and given_1 narrow_1).before args s = true
def lw_Q (_ : Array Value) (s : State) (o : Outcome) (t : State) : Prop := o = .returned (some (.int 1)) ∧ Framed s o t [] 600000 7302250
def lw_Z (below : List Frame) (a : Array Value) (s : State) : State → Prop := fun t => ∃ o, t.status = .running ∧ Ended t below o ∧ lw_Q a s o t
/-- the law's own end, with 1 on the stack, nothing written that was there before, its room as the claim has it -/
theorem lw_ret {p : Program} {l : Launch} {e : Env} {s : State} {m : MethodId} {below : List Frame} {meth : Method} {c : Code} {b : Nat} (hx : p.tables.exec = Jvm.exec) (hb : c.code = code) (hr : meth.sig.returnType = ret) (hlocks : meth.locks = false) {pc : Nat} {H : Heap} {ls : Array Slot} (hdg : decode code pc = .ok (.ireturn, 1)) : W p l e room_1 s m #[Value.ref b] below meth c H [] 600000 7302250 (lw_Z below #[Value.ref b] s) (F0 m pc ls [.int 1]) := by
  intro T hT X
  obtain ⟨fs, hret, hrun, hended, hW, hframe⟩ := X.leave (v := some (.int 1)) (hlocks := hlocks) (fun h => by rw [hr] at h; cases h)
  have hmeth' : T.vm.method? m = some meth := X.method'
  refine ⟨T.setFrames fs, ?_, .returned (some (.int 1)), hrun, hended, rfl, ⟨_, rfl⟩, hW, hframe⟩
  jvm_step X.here [X.here.top, hx, hb, hdg, hmeth', hr, ret, narrow_b1]
  (try refine ⟨rfl, ?_⟩); (try refine ⟨rfl, ?_⟩)
  first | (intro acts; rw [hret _ acts rfl rfl rfl]) | rw [hret _ _ rfl rfl rfl]
  exact Steps.refl _
/-- what holds at the law's entry: the machine, the code, the tables' words (any of lw_tbl by 'hts w (by decide +kernel)'), the script of L ints xs at the cell b, what the Statement gives of the start (any of its parts by flat_of_before) -/
def lw_At (p : Program) (s : State) (m : MethodId) (meth : Method) (c : Code) (b L : Nat) (xs : Nat → Int32) : Prop :=
  p.tables.exec = Jvm.exec ∧ c.code = code ∧ meth.sig.returnType = ret ∧ c.maxLocals = 4 ∧ s.vm.findClass R_law = some m.cls ∧ (∀ w ∈ lw_tbl, w.before #[Value.ref b] s = true) ∧ va_X b L xs s s.heap ∧ b < s.heap.size ∧ meth.locks = false ∧ (Jvm.Cond.and given_1 narrow_1).before #[Value.ref b] s = true
/-! the law's run on the real machine, out of its run on the plain one -/
def e_M0 : e_Mem := (0, fun _ _ => 0, fun _ _ => 0)
def e_kcl : List Nat := [130, 61, 235, 308, 68, 257, 285, 74, 53, 682]
set_option maxRecDepth 20000 in
theorem e_kcl_ok {k i : Nat} {C : String} {T : u_T} {N : Nat} (h : vwCl[k]? = some (C, T, N)) (hi : e_kcl[k]? = some i) : lw_tbl[i]? = some (.instantiable C N) := by
  match k, h, hi with
  | 0, h, hi => cases h; cases hi; rfl
  | 1, h, hi => cases h; cases hi; rfl
  | 2, h, hi => cases h; cases hi; rfl
  | 3, h, hi => cases h; cases hi; rfl
  | 4, h, hi => cases h; cases hi; rfl
  | 5, h, hi => cases h; cases hi; rfl
  | 6, h, hi => cases h; cases hi; rfl
  | 7, h, hi => cases h; cases hi; rfl
  | 8, h, hi => cases h; cases hi; rfl
  | 9, h, hi => cases h; cases hi; rfl
  | k + 10, h, hi => simp [vwCl] at h
theorem e_arr_of {s : State} {t : FieldType} {cA : ClassId} {k : Class} {comp : ClassId} (hk : s.vm.classes[cA]? = some k) (hkind : k.kind = .array comp t) : ArrOfT s cA t := fun n z => ⟨(fun q hq => by cases hq), k, hk, comp, hkind⟩
set_option maxRecDepth 20000 in
theorem e_start {p : Program} {e : Env} {s : State} {m : MethodId} {below : List Frame} {meth : Method} {c : Code} (l : Launch) {b L : Nat} {xs : Nat → Int32} (C0 : lw_At p s m meth c b L xs) {f : Nat} {M' : e_Mem} (hrun : e_ev xs L f kL_law_0 (lv_args 0 [.ref 0]) [] e_M0 = some (some (.int 1), M')) (hM : M'.1 = 173) : W p l e room_1 s m #[Value.ref b] below meth c s.heap [] 0 0 (lw_Z below #[Value.ref b] s) (entryFrame m ([Value.ref b] : List Value).toArray 4) := by
  obtain ⟨hx, hb, hr, hml, hown, hts, hX, hbl, hlocks, hgv⟩ := id C0
  obtain ⟨bs, hbs⟩ : ∃ bs, s.heap.size = bs + 1 := ⟨s.heap.size - 1, by omega⟩
  have hW : e_Wd s := by
    intro w hw hg
    have h0 := hts w hw
    by_cases hgw : goodWord w = true
    · exact word_at (State.WarmedH.refl s) (good_of_word hgw) h0
    · cases w with
      | methodLinkNest a i x hh => exact va_Nw.of rfl h0
      | arrayOver t => exact h0
      | _ => simp [hgw, e_isN, e_isO] at hg
  have hTs := e_T_of hW (#[Value.ref b])
  have hex : ∀ k : Nat, ∃ z : ClassId × (Nat → Nat), ∀ q : vw_C, vwCl[k]? = some q → u_Kn s q.1 q.2.1 q.2.2 z.1 z.2 := by
    intro k
    cases hq : vwCl[k]? with
    | none => exact ⟨(0, fun _ => 0), fun q h => by cases h⟩
    | some q =>
      obtain ⟨C, T, N⟩ := q
      have hin := (e_cls hq).1
      have hlen : k < 10 := (e_cls hq).2.2.2.2.2
      obtain ⟨i, hi⟩ : ∃ i, e_kcl[k]? = some i := ⟨_, List.getElem?_eq_getElem (show k < e_kcl.length from hlen)⟩
      obtain ⟨cC, iS, h⟩ := u_known hTs hin (hts _ (List.mem_of_getElem? (e_kcl_ok hq hi)))
      refine ⟨(cC, iS), fun q h' => ?_⟩
      cases h'
      exact h
  obtain ⟨d, hd⟩ := Classical.axiomOfChoice hex
  obtain ⟨c10, k10, m10, n10, g10, i10⟩ := Cond.arrayClass_spec (hts (.arrayClass .int) (List.mem_of_getElem? (i := 128) rfl))
  obtain ⟨c11, k11, m11, n11, g11, i11⟩ := Cond.arrayClass_spec (hts (.arrayClass .byte) (List.mem_of_getElem? (i := 306) rfl))
  obtain ⟨m12, c12, k12, f12, -, g12, i12, n12⟩ := Cond.arrayOver_spec (hts (.arrayOver (.object "FeederControl$Feeder")) (List.mem_of_getElem? (i := 314) rfl))
  obtain ⟨m13, c13, k13, f13, -, g13, i13, n13⟩ := Cond.arrayOver_spec (hts (.arrayOver (.object "FeederControl$Node")) (List.mem_of_getElem? (i := 67) rfl))
  obtain ⟨m14, c14, k14, f14, -, g14, i14, n14⟩ := arrayOver_specB (hts (.arrayOver (.array .int)) (List.mem_of_getElem? (i := 265) rfl))
  have hK : va_K (fun k => (d k).1, fun k => (d k).2) vwCl (e_tys (fun k => if k = 10 then c10 else if k = 11 then c11 else if k = 12 then c12 else if k = 13 then c13 else c14)) s := by
    refine ⟨fun k q hq => hd k q hq, fun k q hq => ?_⟩
    match k, hq with
    | 0, hq => cases hq; exact ⟨e_arr_of g10 i10, n10⟩
    | 1, hq => cases hq; exact ⟨e_arr_of g11 i11, n11⟩
    | 2, hq => cases hq; exact ⟨e_arr_of g12 i12, k12, m12, g12, i12, f12, n12⟩
    | 3, hq => cases hq; exact ⟨e_arr_of g13 i13, k13, m13, g13, i13, f13, n13⟩
    | 4, hq => cases hq; exact ⟨e_arr_of g14 i14, n14⟩
    | k + 5, hq => simp [e_tys] at hq
  obtain ⟨w0, hw0⟩ := e_chk 27 (by rw [e_labs_len]; decide)
  have sim := e_sim l (fun k => (d k).1, fun k => (d k).2) (fun k => if k = 10 then c10 else if k = 11 then c11 else if k = 12 then c12 else if k = 13 then c13 else c14) bs b L xs e_chk f 0 kL_law_0 (lv_args 0 [.ref 0]) [] e_M0 _ w0 hw0 hrun p e room_1 s m #[Value.ref b] below meth c 0 (Nat.le_refl _) (by decide) (by decide) (by show M'.1 - 0 ≤ 600000; omega) (by show e_SZ M'.1 - e_SZ 0 ≤ 7302250; rw [hM]; exact Nat.le_of_ble_eq_true rfl) ⟨hx, hb, hml, hr, hlocks, hown, fun h => absurd h (by decide), hW, hK, hX, hbl, by omega, by omega, hTs⟩
  have hent := e_LR.entry (b := b) (bs := bs) (nL := 4) (As := [.ref 0]) (Nat.le_of_ble_eq_true rfl)
  have k2 := sim s.heap [] _ ⟨by rw [hbs]; rfl, Nat.zero_le _, fun c h1 h2 => absurd h2 (Nat.not_le.mpr h1)⟩ va_S.rf hent
  rw [lg_entry_eq]
  intro T hT X
  obtain ⟨t, a1, o, b1, b2, ⟨hq1, -, -⟩, Lx, hF, hfree⟩ := k2 T hT X
  refine ⟨t, a1, o, b1, b2, hq1, hF.1, hF.2.1, hF.2.2.weaken (fun z hz hlt => absurd hlt (Nat.not_lt.mpr (by rw [hbs]; exact hfree z hz))) ?_ ?_⟩
  · show M'.1 - 0 ≤ 600000
    omega
  · show e_SZ M'.1 - e_SZ 0 ≤ 7302250
    rw [hM]
    exact Nat.le_of_ble_eq_true rfl
end
section
/-! the plain machine as equations: Wp is lv st M Q: it comes to an end that Q holds of -/
def Wp (xs : Nat → Int32) (L : Nat) (is : List e_Op) (lv : e_Lv) (st : List Value) (M : e_Mem) (Q : e_Rs → Prop) : Prop := ∃ f res, e_ev xs L f is lv st M = some res ∧ Q res
theorem e_ev_more {xs : Nat → Int32} {L : Nat} : ∀ (f g : Nat) (is : List e_Op) (lv : e_Lv) (st : List Value) (M : e_Mem) (res : e_Rs), f ≤ g → e_ev xs L f is lv st M = some res → e_ev xs L g is lv st M = some res
  | 0, _, _, _, _, _, _, _, h => by simp [e_ev] at h
  | f + 1, 0, _, _, _, _, _, hg, _ => by omega
  | f + 1, g + 1, [], _, _, _, _, _, h => by simp [e_ev] at h
  | f + 1, g + 1, op :: is, lv, st, M, res, hg, h => by
    have hg : f ≤ g := by omega
    rcases hk : e_kind op with _ | _ | k
    · simp only [e_ev, hk] at h ⊢
      cases h1 : e_one xs L op lv st M with
      | none => rw [h1] at h; cases h
      | some z =>
        obtain ⟨j, lv', st', M'⟩ := z
        rw [h1] at h
        cases j with
        | none => exact e_ev_more f g _ _ _ _ _ hg h
        | some t => exact e_ev_more f g _ _ _ _ _ hg h
    · simp only [e_ev, hk] at h ⊢
      exact h
    · simp only [e_ev, hk] at h ⊢
      split at h
      · rename_i hc
        rw [if_pos hc]
        cases h1 : e_ev xs L f (e_lbl op.2.2.2.1) (lv_args 0 (st.take op.2.2.2.2.1).reverse) [] M with
        | none => rw [h1] at h; cases h
        | some z =>
          obtain ⟨r, M'⟩ := z
          rw [h1] at h
          rw [e_ev_more f g _ _ _ _ _ hg h1]
          exact e_ev_more f g _ _ _ _ _ hg h
      · cases h
section WP
variable {xs : Nat → Int32} {L : Nat} {is : List e_Op} {lv : e_Lv} {st : List Value} {M : e_Mem} {Q : e_Rs → Prop}
def Wp1 (xs : Nat → Int32) (L : Nat) (is : List e_Op) (Q : e_Rs → Prop) : Option e_St → Prop
  | none => False
  | some (none, lv, st, M) => Wp xs L is lv st M Q
  | some (some t, lv, st, M) => Wp xs L (e_lbl t) lv st M Q
theorem Wp_one {op : e_Op} (hk : e_kind op = 0) : Wp xs L (op :: is) lv st M Q = Wp1 xs L is Q (e_one xs L op lv st M) := by
  apply propext
  constructor
  · rintro ⟨f, res, h, hq⟩
    cases f with
    | zero => simp [e_ev] at h
    | succ f =>
      simp only [e_ev, hk] at h
      cases h1 : e_one xs L op lv st M with
      | none => rw [h1] at h; cases h
      | some z =>
        obtain ⟨j, lv', st', M'⟩ := z
        rw [h1] at h
        cases j with
        | none => exact ⟨f, res, h, hq⟩
        | some t => exact ⟨f, res, h, hq⟩
  · intro h
    cases h1 : e_one xs L op lv st M with
    | none => rw [h1] at h; exact h.elim
    | some z =>
      obtain ⟨j, lv', st', M'⟩ := z
      rw [h1] at h
      cases j with
      | none =>
        obtain ⟨f, res, h2, hq⟩ := h
        exact ⟨f + 1, res, by simp only [e_ev, hk, h1]; exact h2, hq⟩
      | some t =>
        obtain ⟨f, res, h2, hq⟩ := h
        exact ⟨f + 1, res, by simp only [e_ev, hk, h1]; exact h2, hq⟩
theorem Wp_ret {op : e_Op} {r : Option Value} (hk : e_kind op = 1) (hr : e_ret op st = some r) : Wp xs L (op :: is) lv st M Q = Q (r, M) := by
  apply propext
  constructor
  · rintro ⟨f, res, h, hq⟩
    cases f with
    | zero => simp [e_ev] at h
    | succ f =>
      simp only [e_ev, hk, hr, Option.map_some, Option.some.injEq] at h
      rw [h]
      exact hq
  · intro h
    exact ⟨1, (r, M), by simp only [e_ev, hk, hr, Option.map_some], h⟩
theorem Wp_call {op : e_Op} {As rest : List Value} (hk : 2 ≤ e_kind op) (hn : As.length = op.2.2.2.2.1) (hr : rest.length ≤ 4) (hv : e_kind op = 3 → e_recv As.head? M.1 (e_mC op.2.2.2.2.2) = true) (hs : e_slw As ≤ e_mL op.2.2.2.2.2) : Wp xs L (op :: is) lv (As.reverse ++ rest) M Q = Wp xs L (e_lbl op.2.2.2.1) (lv_args 0 As) [] M (fun r => Wp xs L is lv (r.1.toList ++ rest) r.2 Q) := by
  have e1 : (As.reverse ++ rest).take op.2.2.2.2.1 = As.reverse := List.take_left' (by simp [hn])
  have e2 : (As.reverse ++ rest).drop op.2.2.2.2.1 = rest := List.drop_left' (by simp [hn])
  have hc : op.2.2.2.2.1 ≤ (As.reverse ++ rest).length ∧ (As.reverse ++ rest).length ≤ op.2.2.2.2.1 + 4 ∧ (e_kind op = 3 → e_recv (((As.reverse ++ rest).take op.2.2.2.2.1).getLast?) M.1 (e_mC op.2.2.2.2.2) = true) ∧ e_slw ((As.reverse ++ rest).take op.2.2.2.2.1) ≤ e_mL op.2.2.2.2.2 := by
    refine ⟨by simp [hn], by simp [hn]; omega, fun h => ?_, by rw [e1, e_slw_rev]; exact hs⟩
    rw [e1, List.getLast?_reverse]
    exact hv h
  have hstep : ∀ f, e_ev xs L (f + 1) (op :: is) lv (As.reverse ++ rest) M = match e_ev xs L f (e_lbl op.2.2.2.1) (lv_args 0 As) [] M with
      | none => none
      | some (r, M') => e_ev xs L f is lv (r.toList ++ rest) M' := by
    intro f
    rcases hkk : e_kind op with _ | _ | k
    · omega
    · omega
    · rw [hkk] at hc
      simp only [e_ev, hkk]
      rw [if_pos hc, e1, e2, List.reverse_reverse]
      rfl
  apply propext
  constructor
  · rintro ⟨f, res, h, hq⟩
    cases f with
    | zero => simp [e_ev] at h
    | succ f =>
      rw [hstep] at h
      split at h
      · cases h
      · rename_i r M' h1
        exact ⟨f, (r, M'), h1, f, res, h, hq⟩
  · rintro ⟨f, ⟨r, M'⟩, h1, g, res, h2, hq⟩
    refine ⟨max f g + 1, res, ?_, hq⟩
    rw [hstep, e_ev_more f (max f g) _ _ _ _ _ (Nat.le_max_left _ _) h1]
    exact e_ev_more g (max f g) _ _ _ _ _ (Nat.le_max_right _ _) h2
theorem Wp_mono {Q' : e_Rs → Prop} (h : Wp xs L is lv st M Q) (hq : ∀ r, Q r → Q' r) : Wp xs L is lv st M Q' := by
  obtain ⟨f, res, h1, h2⟩ := h
  exact ⟨f, res, h1, hq res h2⟩
/-- a local by its kind -/
def e_wi (v : Option Value) (F : Int32 → Prop) : Prop := match v with
  | some (.int x) => F x
  | _ => False
def e_wr (v : Option Value) (F : Nat → Prop) : Prop := match v with
  | some (.ref x) => F x
  | _ => False
def e_wl (v : Option Value) (F : Int64 → Prop) : Prop := match v with
  | some (.long x) => F x
  | _ => False
theorem e_wi_s {x : Int32} {F : Int32 → Prop} : e_wi (some (.int x)) F = F x := rfl
theorem e_wr_s {x : Nat} {F : Nat → Prop} : e_wr (some (.ref x)) F = F x := rfl
theorem e_wl_s {x : Int64} {F : Int64 → Prop} : e_wl (some (.long x)) F = F x := rfl
/-- cell q is there, an object or array of kind a -/
def e_01 (x : Int32) : Prop := x = 0 ∨ x = 1
def e_okc (q a : Nat) : Bool := decide (1 ≤ q ∧ q ≤ 173 ∧ (e_kd q).1 = a)
def e_sz (q : Nat) : Nat := (e_kd q).2
variable {pc a b c : Nat} {v : Int32} {m : Nat → Nat → Int32} {r : Nat → Nat → Nat}
theorem r_nop  : Wp xs L ((pc, .nop, v, a, b, c) :: is) lv (st) M Q = Wp xs L (e_lbl a) (lv) (st) M Q := Wp_one rfl
theorem r_iconst {n : Int} : Wp xs L ((pc, .iconst n, v, a, b, c) :: is) lv (st) M Q = Wp xs L is (lv) (.int v :: st) M Q := Wp_one rfl
theorem r_bipush {n : Int} : Wp xs L ((pc, .bipush n, v, a, b, c) :: is) lv (st) M Q = Wp xs L is (lv) (.int v :: st) M Q := Wp_one rfl
theorem r_sipush {n : Int} : Wp xs L ((pc, .sipush n, v, a, b, c) :: is) lv (st) M Q = Wp xs L is (lv) (.int v :: st) M Q := Wp_one rfl
theorem r_ldc {n : Nat} : Wp xs L ((pc, .ldc n, v, a, b, c) :: is) lv (st) M Q = Wp xs L is (lv) (.int v :: st) M Q := Wp_one rfl
theorem r_ldc2 {n : Nat} : Wp xs L ((pc, .ldc2_w n, v, a, b, c) :: is) lv (st) M Q = Wp xs L is (lv) (.long v.toInt64 :: st) M Q := Wp_one rfl
theorem r_iload {n : Nat} : Wp xs L ((pc, .iload n, v, a, b, c) :: is) lv (st) M Q = e_wi (e_lk a lv) (fun x => Wp xs L is (lv) (.int x :: st) M Q) := by
  rw [Wp_one rfl]
  simp only [e_one]
  rcases e_lk a lv with _ | w
  · rfl
  · cases w <;> rfl
theorem r_iload_n {n : Fin 4} : Wp xs L ((pc, .iload_n n, v, a, b, c) :: is) lv (st) M Q = e_wi (e_lk a lv) (fun x => Wp xs L is (lv) (.int x :: st) M Q) := by
  rw [Wp_one rfl]
  simp only [e_one]
  rcases e_lk a lv with _ | w
  · rfl
  · cases w <;> rfl
theorem r_aload {n : Nat} : Wp xs L ((pc, .aload n, v, a, b, c) :: is) lv (st) M Q = e_wr (e_lk a lv) (fun x => Wp xs L is (lv) (.ref x :: st) M Q) := by
  rw [Wp_one rfl]
  simp only [e_one]
  rcases e_lk a lv with _ | w
  · rfl
  · cases w <;> rfl
theorem r_aload_n {n : Fin 4} : Wp xs L ((pc, .aload_n n, v, a, b, c) :: is) lv (st) M Q = e_wr (e_lk a lv) (fun x => Wp xs L is (lv) (.ref x :: st) M Q) := by
  rw [Wp_one rfl]
  simp only [e_one]
  rcases e_lk a lv with _ | w
  · rfl
  · cases w <;> rfl
theorem r_lload_n {n : Fin 4} : Wp xs L ((pc, .lload_n n, v, a, b, c) :: is) lv (st) M Q = e_wl (e_lk a lv) (fun x => Wp xs L is (lv) (.long x :: st) M Q) := by
  rw [Wp_one rfl]
  simp only [e_one]
  rcases e_lk a lv with _ | w
  · rfl
  · cases w <;> rfl
theorem r_istore {n : Nat} {x : Int32} (h : e_ok a lv = true) : Wp xs L ((pc, .istore n, v, a, b, c) :: is) lv (.int x :: st) M Q = Wp xs L is (e_sto a (.int x) lv) (st) M Q := by
  rw [Wp_one rfl]
  simp only [e_one, h, if_true]
  rfl
theorem r_istore_n {n : Fin 4} {x : Int32} (h : e_ok a lv = true) : Wp xs L ((pc, .istore_n n, v, a, b, c) :: is) lv (.int x :: st) M Q = Wp xs L is (e_sto a (.int x) lv) (st) M Q := by
  rw [Wp_one rfl]
  simp only [e_one, h, if_true]
  rfl
theorem r_astore {n : Nat} {x : Nat} (h : e_ok a lv = true) : Wp xs L ((pc, .astore n, v, a, b, c) :: is) lv (.ref x :: st) M Q = Wp xs L is (e_sto a (.ref x) lv) (st) M Q := by
  rw [Wp_one rfl]
  simp only [e_one, h, if_true]
  rfl
theorem r_astore_n {n : Fin 4} {x : Nat} (h : e_ok a lv = true) : Wp xs L ((pc, .astore_n n, v, a, b, c) :: is) lv (.ref x :: st) M Q = Wp xs L is (e_sto a (.ref x) lv) (st) M Q := by
  rw [Wp_one rfl]
  simp only [e_one, h, if_true]
  rfl
theorem r_lstore_n {n : Fin 4} {x : Int64} (h : e_ok a lv = true) (h2 : e_no (a + 1) lv = true) : Wp xs L ((pc, .lstore_n n, v, a, b, c) :: is) lv (.long x :: st) M Q = Wp xs L is (e_sto a (.long x) lv) (st) M Q := by
  rw [Wp_one rfl]
  simp only [e_one, h, h2, Bool.and_self, if_true]
  rfl
theorem r_iinc {k : Nat} {n : Int} (h : e_ok a lv = true) : Wp xs L ((pc, .iinc k n, v, a, b, c) :: is) lv (st) M Q = e_wi (e_lk a lv) (fun x => Wp xs L is (e_sto a (.int (x + v)) lv) (st) M Q) := by
  rw [Wp_one rfl]
  simp only [e_one, h, if_true]
  rcases e_lk a lv with _ | w
  · rfl
  · cases w <;> rfl
theorem r_iadd {x z : Int32} : Wp xs L ((pc, .iadd, v, a, b, c) :: is) lv (.int z :: .int x :: st) M Q = Wp xs L is (lv) (.int (x + z) :: st) M Q := Wp_one rfl
theorem r_isub {x z : Int32} : Wp xs L ((pc, .isub, v, a, b, c) :: is) lv (.int z :: .int x :: st) M Q = Wp xs L is (lv) (.int (x - z) :: st) M Q := Wp_one rfl
theorem r_imul {x z : Int32} : Wp xs L ((pc, .imul, v, a, b, c) :: is) lv (.int z :: .int x :: st) M Q = Wp xs L is (lv) (.int (x * z) :: st) M Q := Wp_one rfl
theorem r_iand {x z : Int32} : Wp xs L ((pc, .iand, v, a, b, c) :: is) lv (.int z :: .int x :: st) M Q = Wp xs L is (lv) (.int (x &&& z) :: st) M Q := Wp_one rfl
theorem r_ixor {x z : Int32} : Wp xs L ((pc, .ixor, v, a, b, c) :: is) lv (.int z :: .int x :: st) M Q = Wp xs L is (lv) (.int (x ^^^ z) :: st) M Q := Wp_one rfl
theorem r_idiv {x z : Int32} (h : ¬ z = 0) : Wp xs L ((pc, .idiv, v, a, b, c) :: is) lv (.int z :: .int x :: st) M Q = Wp xs L is (lv) (.int (x / z) :: st) M Q := by
  rw [Wp_one rfl]
  simp only [e_one, h, if_false]
  rfl
theorem r_irem {x z : Int32} (h : ¬ z = 0) : Wp xs L ((pc, .irem, v, a, b, c) :: is) lv (.int z :: .int x :: st) M Q = Wp xs L is (lv) (.int (x - x / z * z) :: st) M Q := by
  rw [Wp_one rfl]
  simp only [e_one, h, if_false]
  rfl
theorem r_ineg {x : Int32} : Wp xs L ((pc, .ineg, v, a, b, c) :: is) lv (.int x :: st) M Q = Wp xs L is (lv) (.int (-x) :: st) M Q := Wp_one rfl
theorem r_i2l {x : Int32} : Wp xs L ((pc, .i2l, v, a, b, c) :: is) lv (.int x :: st) M Q = Wp xs L is (lv) (.long x.toInt64 :: st) M Q := Wp_one rfl
theorem r_i2b {x : Int32} : Wp xs L ((pc, .i2b, v, a, b, c) :: is) lv (.int x :: st) M Q = Wp xs L is (lv) (.int x.toInt8.toInt32 :: st) M Q := Wp_one rfl
theorem r_ladd {x z : Int64} : Wp xs L ((pc, .ladd, v, a, b, c) :: is) lv (.long z :: .long x :: st) M Q = Wp xs L is (lv) (.long (x + z) :: st) M Q := Wp_one rfl
theorem r_lmul {x z : Int64} : Wp xs L ((pc, .lmul, v, a, b, c) :: is) lv (.long z :: .long x :: st) M Q = Wp xs L is (lv) (.long (x * z) :: st) M Q := Wp_one rfl
theorem r_lcmp {x z : Int64} : Wp xs L ((pc, .lcmp, v, a, b, c) :: is) lv (.long z :: .long x :: st) M Q = Wp xs L is (lv) (.int (lg_cmp x z) :: st) M Q := Wp_one rfl
theorem r_dupi {x : Int32} : Wp xs L ((pc, .dup, v, a, b, c) :: is) lv (.int x :: st) M Q = Wp xs L is (lv) (.int x :: .int x :: st) M Q := Wp_one rfl
theorem r_dupa {x : Nat} : Wp xs L ((pc, .dup, v, a, b, c) :: is) lv (.ref x :: st) M Q = Wp xs L is (lv) (.ref x :: .ref x :: st) M Q := Wp_one rfl
theorem r_dup2 {x : Int32} {z : Nat} : Wp xs L ((pc, .dup2, v, a, b, c) :: is) lv (.int x :: .ref z :: st) M Q = Wp xs L is (lv) (.int x :: .ref z :: .int x :: .ref z :: st) M Q := Wp_one rfl
theorem r_pop {x : Int32} : Wp xs L ((pc, .pop, v, a, b, c) :: is) lv (.int x :: st) M Q = Wp xs L is (lv) (st) M Q := Wp_one rfl
theorem r_goto {off : Int} : Wp xs L ((pc, .goto off, v, a, b, c) :: is) lv (st) M Q = Wp xs L (e_lbl a) (lv) (st) M Q := Wp_one rfl
theorem r_if_eq {off : Int} {x : Int32} : Wp xs L ((pc, .ifCond .eq off, v, a, b, c) :: is) lv (.int x :: st) M Q = if x = 0 then Wp xs L (e_lbl a) (lv) (st) M Q else Wp xs L is (lv) (st) M Q := by
  rw [Wp_one rfl]
  by_cases h : x = 0
  · rw [if_pos h]
    simp only [e_one, e_c1, h, not_true, decide_true, decide_false, if_true]
    rfl
  · rw [if_neg h]
    simp only [e_one, e_c1, h, not_false_iff, decide_true, decide_false, if_false]
    rfl
theorem r_if_ne {off : Int} {x : Int32} : Wp xs L ((pc, .ifCond .ne off, v, a, b, c) :: is) lv (.int x :: st) M Q = if x = 0 then Wp xs L is (lv) (st) M Q else Wp xs L (e_lbl a) (lv) (st) M Q := by
  rw [Wp_one rfl]
  by_cases h : x = 0
  · rw [if_pos h]
    simp only [e_one, e_c1, h, not_true, decide_true, decide_false, if_true]
    rfl
  · rw [if_neg h]
    simp only [e_one, e_c1, h, not_false_iff, decide_true, decide_false, if_false]
    rfl
theorem r_if_lt {off : Int} {x : Int32} : Wp xs L ((pc, .ifCond .lt off, v, a, b, c) :: is) lv (.int x :: st) M Q = if x < 0 then Wp xs L (e_lbl a) (lv) (st) M Q else Wp xs L is (lv) (st) M Q := by
  rw [Wp_one rfl]
  by_cases h : x < 0
  · rw [if_pos h]
    simp only [e_one, e_c1, h, not_true, decide_true, decide_false, if_true]
    rfl
  · rw [if_neg h]
    simp only [e_one, e_c1, h, not_false_iff, decide_true, decide_false, if_false]
    rfl
theorem r_if_ge {off : Int} {x : Int32} : Wp xs L ((pc, .ifCond .ge off, v, a, b, c) :: is) lv (.int x :: st) M Q = if x < 0 then Wp xs L is (lv) (st) M Q else Wp xs L (e_lbl a) (lv) (st) M Q := by
  rw [Wp_one rfl]
  by_cases h : x < 0
  · rw [if_pos h]
    simp only [e_one, e_c1, h, Int32.not_le.mpr h, decide_false]
    rfl
  · rw [if_neg h]
    simp only [e_one, e_c1, h, Int32.not_lt.mp h, decide_true, if_true]
    rfl
theorem r_if_gt {off : Int} {x : Int32} : Wp xs L ((pc, .ifCond .gt off, v, a, b, c) :: is) lv (.int x :: st) M Q = if 0 < x then Wp xs L (e_lbl a) (lv) (st) M Q else Wp xs L is (lv) (st) M Q := by
  rw [Wp_one rfl]
  by_cases h : 0 < x
  · rw [if_pos h]
    simp only [e_one, e_c1, h, not_true, decide_true, decide_false, if_true]
    rfl
  · rw [if_neg h]
    simp only [e_one, e_c1, h, not_false_iff, decide_true, decide_false, if_false]
    rfl
theorem r_if_le {off : Int} {x : Int32} : Wp xs L ((pc, .ifCond .le off, v, a, b, c) :: is) lv (.int x :: st) M Q = if 0 < x then Wp xs L is (lv) (st) M Q else Wp xs L (e_lbl a) (lv) (st) M Q := by
  rw [Wp_one rfl]
  by_cases h : 0 < x
  · rw [if_pos h]
    simp only [e_one, e_c1, h, Int32.not_le.mpr h, decide_false]
    rfl
  · rw [if_neg h]
    simp only [e_one, e_c1, h, Int32.not_lt.mp h, decide_true, if_true]
    rfl
theorem r_ic_eq {off : Int} {x z : Int32} : Wp xs L ((pc, .if_icmp .eq off, v, a, b, c) :: is) lv (.int z :: .int x :: st) M Q = if x = z then Wp xs L (e_lbl a) (lv) (st) M Q else Wp xs L is (lv) (st) M Q := by
  rw [Wp_one rfl]
  by_cases h : x = z
  · rw [if_pos h]
    simp only [e_one, e_c2, h, not_true, decide_true, decide_false, if_true]
    rfl
  · rw [if_neg h]
    simp only [e_one, e_c2, h, not_false_iff, decide_true, decide_false, if_false]
    rfl
theorem r_ic_ne {off : Int} {x z : Int32} : Wp xs L ((pc, .if_icmp .ne off, v, a, b, c) :: is) lv (.int z :: .int x :: st) M Q = if x = z then Wp xs L is (lv) (st) M Q else Wp xs L (e_lbl a) (lv) (st) M Q := by
  rw [Wp_one rfl]
  by_cases h : x = z
  · rw [if_pos h]
    simp only [e_one, e_c2, h, not_true, decide_true, decide_false, if_true]
    rfl
  · rw [if_neg h]
    simp only [e_one, e_c2, h, not_false_iff, decide_true, decide_false, if_false]
    rfl
theorem r_ic_lt {off : Int} {x z : Int32} : Wp xs L ((pc, .if_icmp .lt off, v, a, b, c) :: is) lv (.int z :: .int x :: st) M Q = if x < z then Wp xs L (e_lbl a) (lv) (st) M Q else Wp xs L is (lv) (st) M Q := by
  rw [Wp_one rfl]
  by_cases h : x < z
  · rw [if_pos h]
    simp only [e_one, e_c2, h, not_true, decide_true, decide_false, if_true]
    rfl
  · rw [if_neg h]
    simp only [e_one, e_c2, h, not_false_iff, decide_true, decide_false, if_false]
    rfl
theorem r_ic_ge {off : Int} {x z : Int32} : Wp xs L ((pc, .if_icmp .ge off, v, a, b, c) :: is) lv (.int z :: .int x :: st) M Q = if x < z then Wp xs L is (lv) (st) M Q else Wp xs L (e_lbl a) (lv) (st) M Q := by
  rw [Wp_one rfl]
  by_cases h : x < z
  · rw [if_pos h]
    simp only [e_one, e_c2, h, Int32.not_le.mpr h, decide_false]
    rfl
  · rw [if_neg h]
    simp only [e_one, e_c2, h, Int32.not_lt.mp h, decide_true, if_true]
    rfl
theorem r_ic_gt {off : Int} {x z : Int32} : Wp xs L ((pc, .if_icmp .gt off, v, a, b, c) :: is) lv (.int z :: .int x :: st) M Q = if z < x then Wp xs L (e_lbl a) (lv) (st) M Q else Wp xs L is (lv) (st) M Q := by
  rw [Wp_one rfl]
  by_cases h : z < x
  · rw [if_pos h]
    simp only [e_one, e_c2, h, not_true, decide_true, decide_false, if_true]
    rfl
  · rw [if_neg h]
    simp only [e_one, e_c2, h, not_false_iff, decide_true, decide_false, if_false]
    rfl
theorem r_ic_le {off : Int} {x z : Int32} : Wp xs L ((pc, .if_icmp .le off, v, a, b, c) :: is) lv (.int z :: .int x :: st) M Q = if z < x then Wp xs L is (lv) (st) M Q else Wp xs L (e_lbl a) (lv) (st) M Q := by
  rw [Wp_one rfl]
  by_cases h : z < x
  · rw [if_pos h]
    simp only [e_one, e_c2, h, Int32.not_le.mpr h, decide_false]
    rfl
  · rw [if_neg h]
    simp only [e_one, e_c2, h, Int32.not_lt.mp h, decide_true, if_true]
    rfl
theorem r_getf0 {i q : Nat} (h : e_okc q a = true) : Wp xs L ((pc, .getfield i, v, a, b, 0) :: is) lv (.ref q :: st) (173, m, r) Q = Wp xs L is (lv) (.int (m q b) :: st) (173, m, r) Q := by
  rw [Wp_one rfl]
  have h := of_decide_eq_true h
  simp only [e_one]
  rw [if_pos (by exact h)]
  rfl
theorem r_getf1 {i q : Nat} (h : e_okc q a = true) : Wp xs L ((pc, .getfield i, v, a, b, 1) :: is) lv (.ref q :: st) (173, m, r) Q = Wp xs L is (lv) (.int (m q b) :: st) (173, m, r) Q := by
  rw [Wp_one rfl]
  have h := of_decide_eq_true h
  simp only [e_one]
  rw [if_pos (by exact h)]
  rfl
theorem r_getf2 {i q : Nat} (h : e_okc q a = true) : Wp xs L ((pc, .getfield i, v, a, b, 2) :: is) lv (.ref q :: st) (173, m, r) Q = Wp xs L is (lv) (e_rf (r q b) :: st) (173, m, r) Q := by
  rw [Wp_one rfl]
  have h := of_decide_eq_true h
  simp only [e_one]
  rw [if_pos (by exact h)]
  rfl
theorem r_putf0 {i q : Nat} {x : Int32} (h : e_okc q a = true) : Wp xs L ((pc, .putfield i, v, a, b, 0) :: is) lv (.int x :: .ref q :: st) (173, m, r) Q = Wp xs L is (lv) (st) (173, e_set m q b x, r) Q := by
  rw [Wp_one rfl]
  have h := of_decide_eq_true h
  simp only [e_one]
  rw [if_pos (by exact ⟨h, by decide, fun h => by cases h⟩)]
  rfl
theorem r_putf1 {i q : Nat} {x : Int32} (h : e_okc q a = true) (hx : e_01 x) : Wp xs L ((pc, .putfield i, v, a, b, 1) :: is) lv (.int x :: .ref q :: st) (173, m, r) Q = Wp xs L is (lv) (st) (173, e_set m q b x, r) Q := by
  rw [Wp_one rfl]
  have h := of_decide_eq_true h
  simp only [e_one]
  rw [if_pos (by exact ⟨h, by decide, fun _ => hx⟩)]
  rfl
theorem r_iald {i : Int32} {q : Nat} (h : e_okc q 10 = true) (hi : e_in i (e_sz q) = true) : Wp xs L ((pc, .iaload, v, a, b, c) :: is) lv (.int i :: .ref q :: st) (173, m, r) Q = Wp xs L is (lv) (.int (m q i.toNatClampNeg) :: st) (173, m, r) Q := by
  have h := of_decide_eq_true h
  rw [Wp_one rfl]
  simp only [e_one]
  rw [if_neg (Nat.ne_of_gt h.1), if_pos ⟨h.2.1, h.2.2, hi⟩]
  rfl
theorem r_bald {i : Int32} {q : Nat} (h : e_okc q 11 = true) (hi : e_in i (e_sz q) = true) : Wp xs L ((pc, .baload, v, a, b, c) :: is) lv (.int i :: .ref q :: st) (173, m, r) Q = Wp xs L is (lv) (.int (m q i.toNatClampNeg) :: st) (173, m, r) Q := by
  rw [Wp_one rfl]
  have h := of_decide_eq_true h
  simp only [e_one]
  rw [if_pos (by exact ⟨h.1, h.2.1, h.2.2, hi⟩)]
  rfl
theorem r_aald12 {i : Int32} {q : Nat} (h : e_okc q 12 = true) (hi : e_in i (e_sz q) = true) : Wp xs L ((pc, .aaload, v, a, b, c) :: is) lv (.int i :: .ref q :: st) (173, m, r) Q = Wp xs L is (lv) (e_rf (r q i.toNatClampNeg) :: st) (173, m, r) Q := by
  rw [Wp_one rfl]
  have h := of_decide_eq_true h
  simp only [e_one]
  rw [if_pos (by exact ⟨h.1, h.2.1, by rw [h.2.2]; exact ⟨Nat.le_of_ble_eq_true rfl, Nat.le_of_ble_eq_true rfl⟩, hi⟩)]
  rfl
theorem r_aald13 {i : Int32} {q : Nat} (h : e_okc q 13 = true) (hi : e_in i (e_sz q) = true) : Wp xs L ((pc, .aaload, v, a, b, c) :: is) lv (.int i :: .ref q :: st) (173, m, r) Q = Wp xs L is (lv) (e_rf (r q i.toNatClampNeg) :: st) (173, m, r) Q := by
  rw [Wp_one rfl]
  have h := of_decide_eq_true h
  simp only [e_one]
  rw [if_pos (by exact ⟨h.1, h.2.1, by rw [h.2.2]; exact ⟨Nat.le_of_ble_eq_true rfl, Nat.le_of_ble_eq_true rfl⟩, hi⟩)]
  rfl
theorem r_aald14 {i : Int32} {q : Nat} (h : e_okc q 14 = true) (hi : e_in i (e_sz q) = true) : Wp xs L ((pc, .aaload, v, a, b, c) :: is) lv (.int i :: .ref q :: st) (173, m, r) Q = Wp xs L is (lv) (e_rf (r q i.toNatClampNeg) :: st) (173, m, r) Q := by
  rw [Wp_one rfl]
  have h := of_decide_eq_true h
  simp only [e_one]
  rw [if_pos (by exact ⟨h.1, h.2.1, by rw [h.2.2]; exact ⟨Nat.le_of_ble_eq_true rfl, Nat.le_of_ble_eq_true rfl⟩, hi⟩)]
  rfl
theorem r_iast {x : Int32} {i : Int32} {q : Nat} (h : e_okc q 10 = true) (hi : e_in i (e_sz q) = true) : Wp xs L ((pc, .iastore, v, a, b, c) :: is) lv (.int x :: .int i :: .ref q :: st) (173, m, r) Q = Wp xs L is (lv) (st) (173, e_set m q i.toNatClampNeg x, r) Q := by
  rw [Wp_one rfl]
  have h := of_decide_eq_true h
  simp only [e_one]
  rw [if_pos (by exact ⟨h.1, h.2.1, h.2.2, hi⟩)]
  rfl
theorem r_bast {x : Int32} {i : Int32} {q : Nat} (h : e_okc q 11 = true) (hi : e_in i (e_sz q) = true) : Wp xs L ((pc, .bastore, v, a, b, c) :: is) lv (.int x :: .int i :: .ref q :: st) (173, m, r) Q = Wp xs L is (lv) (st) (173, e_set m q i.toNatClampNeg x.toInt8.toInt32, r) Q := by
  rw [Wp_one rfl]
  have h := of_decide_eq_true h
  simp only [e_one]
  rw [if_pos (by exact ⟨h.1, h.2.1, h.2.2, hi⟩)]
  rfl
theorem r_aast {z : Nat} (hz : e_okc z 1 = true) {i : Int32} {q : Nat} (h : e_okc q 12 = true) (hi : e_in i (e_sz q) = true) : Wp xs L ((pc, .aastore, v, a, b, c) :: is) lv (.ref z :: .int i :: .ref q :: st) (173, m, r) Q = Wp xs L is (lv) (st) (173, m, e_set r q i.toNatClampNeg z) Q := by
  rw [Wp_one rfl]
  have h := of_decide_eq_true h
  have hz := of_decide_eq_true hz
  simp only [e_one]
  rw [if_pos (by exact ⟨h.1, h.2.1, ⟨hz.1, hz.2.1⟩, Or.inl ⟨h.2.2, hz.2.2⟩, hi⟩)]
  rfl
theorem r_slen  : Wp xs L ((pc, .arraylength, v, a, b, c) :: is) lv (.ref 0 :: st) M Q = Wp xs L is (lv) (.int (Int32.ofNat L) :: st) M Q := Wp_one rfl
theorem r_sld {i : Int32} (hi : e_in i L = true) : Wp xs L ((pc, .iaload, v, a, b, c) :: is) lv (.int i :: .ref 0 :: st) M Q = Wp xs L is (lv) (.int (xs i.toNatClampNeg) :: st) M Q := by
  rw [Wp_one rfl]
  simp only [e_one]
  rw [if_pos trivial, if_pos hi]
  rfl
theorem r_mmax {i : Nat} {x z : Int32} (h : st.length ≤ 4) : Wp xs L ((pc, .invokestatic i, v, a, b, 991) :: is) lv (.int z :: .int x :: st) M Q = Wp xs L is (lv) (.int (if x < z then z else x) :: st) M Q := by
  rw [Wp_one rfl]
  simp only [e_one]
  rw [if_neg (by decide)]
  rw [if_pos trivial, if_pos h]
  rfl
theorem r_mmin {i : Nat} {x z : Int32} (h : st.length ≤ 4) : Wp xs L ((pc, .invokestatic i, v, a, b, 992) :: is) lv (.int z :: .int x :: st) M Q = Wp xs L is (lv) (.int (if z < x then z else x) :: st) M Q := by
  rw [Wp_one rfl]
  simp only [e_one]
  rw [if_neg (by decide)]
  rw [if_neg (by decide)]
  rw [if_pos trivial, if_pos h]
  rfl
theorem r_mabs {i : Nat} {x : Int32} (h : st.length ≤ 4) : Wp xs L ((pc, .invokestatic i, v, a, b, 993) :: is) lv (.int x :: st) M Q = Wp xs L is (lv) (.int (if 0 ≤ x then x else 0 - x) :: st) M Q := by
  rw [Wp_one rfl]
  simp only [e_one]
  rw [if_neg (by decide)]
  rw [if_neg (by decide)]
  rw [if_neg (by decide)]
  rw [if_pos trivial, if_pos h]
  rfl
theorem r_fmod {i : Nat} {x z : Int32} (h : st.length ≤ 4) (hz : ¬ z = 0) : Wp xs L ((pc, .invokestatic i, v, a, b, 994) :: is) lv (.int z :: .int x :: st) M Q = Wp xs L is (lv) (.int (Jvm.Free.MCB.fmod x z) :: st) M Q := by
  rw [Wp_one rfl]
  simp only [e_one]
  rw [if_neg (by decide)]
  rw [if_neg (by decide)]
  rw [if_neg (by decide)]
  rw [if_neg (by decide)]
  rw [if_pos trivial, if_pos ⟨h, hz⟩]
  rfl
theorem r_copy {i q d : Nat} {n : Int32} (h : e_okc q 10 = true) (h2 : e_okc d 10 = true) (hn : ¬ n < 0) (hl : n.toNatClampNeg ≤ e_sz q) (hl2 : n.toNatClampNeg ≤ e_sz d) : Wp xs L ((pc, .invokestatic i, v, a, b, 998) :: is) lv ([.int n, .int 0, .ref d, .int 0, .ref q]) (173, m, r) Q = Wp xs L is (lv) ([]) (173, e_cpy m q 0 d 0 n.toNatClampNeg, r) Q := by
  have h := of_decide_eq_true h
  have h2 := of_decide_eq_true h2
  rw [Wp_one rfl]
  simp only [e_one]
  rw [if_pos trivial, if_pos ⟨h, h2, ⟨by decide, by decide, hn⟩, by show 0 + _ ≤ (e_kd q).2; have := hl; unfold e_sz at this; omega, by show 0 + _ ≤ (e_kd d).2; have := hl2; unfold e_sz at this; omega⟩]
  rfl
theorem r_ret  : Wp xs L ((pc, .return_, v, a, b, c) :: is) lv ([]) M Q = Q (none, M) := Wp_ret rfl rfl
theorem r_lret {x : Int64} : Wp xs L ((pc, .lreturn, v, a, b, c) :: is) lv ([.long x]) M Q = Q (some (.long x), M) := Wp_ret rfl rfl
theorem r_iret0 {x : Int32} : Wp xs L ((pc, .ireturn, v, 0, b, c) :: is) lv ([.int x]) M Q = Q (some (.int x), M) := Wp_ret rfl rfl
theorem r_iret1 {x : Int32} (h : e_01 x) : Wp xs L ((pc, .ireturn, v, 1, b, c) :: is) lv ([.int x]) M Q = Q (some (.int x), M) := Wp_ret rfl (by simp only [e_ret]; exact if_pos (Or.inr h))
end WP
end
section
/-! a call rule a method -/
section CALLS
variable {xs : Nat → Int32} {L : Nat} {is : List e_Op} {lv : e_Lv} {rest : List Value} {Q : e_Rs → Prop} {pc i : Nat} {v : Int32} {m : Nat → Nat → Int32} {r : Nat → Nat → Nat}
set_option maxRecDepth 20000 in
theorem vX0_copyFrom {q : Nat} {x0 : Nat} (hq : e_okc q 0 = true) (hr : rest.length ≤ 4) : Wp xs L ((pc, .invokevirtual i, v, 32, 2, 2) :: is) lv (.ref x0 :: .ref q :: rest) (173, m, r) Q = Wp xs L kX0_copyFrom_0 [(0, .ref q), (1, .ref x0)] [] (173, m, r) (fun z => Wp xs L is lv (z.1.toList ++ rest) z.2 Q) := Wp_call (As := [.ref q, .ref x0]) (rest := rest) (Nat.le_of_ble_eq_true rfl) rfl hr (fun _ => by show decide _ = true; have hq := of_decide_eq_true hq; exact decide_eq_true hq) (Nat.le_of_ble_eq_true rfl)
set_option maxRecDepth 20000 in
theorem vX0_isByTime {q : Nat} (hq : e_okc q 0 = true) (hr : rest.length ≤ 4) : Wp xs L ((pc, .invokevirtual i, v, 33, 1, 3) :: is) lv (.ref q :: rest) (173, m, r) Q = Wp xs L kX0_isByTime_0 [(0, .ref q)] [] (173, m, r) (fun z => Wp xs L is lv (z.1.toList ++ rest) z.2 Q) := Wp_call (As := [.ref q]) (rest := rest) (Nat.le_of_ble_eq_true rfl) rfl hr (fun _ => by show decide _ = true; have hq := of_decide_eq_true hq; exact decide_eq_true hq) (Nat.le_of_ble_eq_true rfl)
set_option maxRecDepth 20000 in
theorem vX0_isByFlow {q : Nat} (hq : e_okc q 0 = true) (hr : rest.length ≤ 4) : Wp xs L ((pc, .invokevirtual i, v, 36, 1, 4) :: is) lv (.ref q :: rest) (173, m, r) Q = Wp xs L kX0_isByFlow_0 [(0, .ref q)] [] (173, m, r) (fun z => Wp xs L is lv (z.1.toList ++ rest) z.2 Q) := Wp_call (As := [.ref q]) (rest := rest) (Nat.le_of_ble_eq_true rfl) rfl hr (fun _ => by show decide _ = true; have hq := of_decide_eq_true hq; exact decide_eq_true hq) (Nat.le_of_ble_eq_true rfl)
set_option maxRecDepth 20000 in
theorem vX0_isOnByTime {q : Nat} {x0 : Int32} (hq : e_okc q 0 = true) (hr : rest.length ≤ 4) : Wp xs L ((pc, .invokevirtual i, v, 39, 2, 5) :: is) lv (.int x0 :: .ref q :: rest) (173, m, r) Q = Wp xs L kX0_isOnByTime_0 [(0, .ref q), (1, .int x0)] [] (173, m, r) (fun z => Wp xs L is lv (z.1.toList ++ rest) z.2 Q) := Wp_call (As := [.ref q, .int x0]) (rest := rest) (Nat.le_of_ble_eq_true rfl) rfl hr (fun _ => by show decide _ = true; have hq := of_decide_eq_true hq; exact decide_eq_true hq) (Nat.le_of_ble_eq_true rfl)
set_option maxRecDepth 20000 in
theorem vX0_supply {q : Nat} {x0 : Int32} {x1 : Int32} (hq : e_okc q 0 = true) (hr : rest.length ≤ 4) : Wp xs L ((pc, .invokevirtual i, v, 45, 3, 6) :: is) lv (.int x1 :: .int x0 :: .ref q :: rest) (173, m, r) Q = Wp xs L kX0_supply_0 [(0, .ref q), (1, .int x0), (2, .int x1)] [] (173, m, r) (fun z => Wp xs L is lv (z.1.toList ++ rest) z.2 Q) := Wp_call (As := [.ref q, .int x0, .int x1]) (rest := rest) (Nat.le_of_ble_eq_true rfl) rfl hr (fun _ => by show decide _ = true; have hq := of_decide_eq_true hq; exact decide_eq_true hq) (Nat.le_of_ble_eq_true rfl)
set_option maxRecDepth 20000 in
theorem vX0_countMinute {q : Nat} {x0 : Int32} (hq : e_okc q 0 = true) (hr : rest.length ≤ 4) : Wp xs L ((pc, .invokevirtual i, v, 50, 2, 7) :: is) lv (.int x0 :: .ref q :: rest) (173, m, r) Q = Wp xs L kX0_countMinute_0 [(0, .ref q), (1, .int x0)] [] (173, m, r) (fun z => Wp xs L is lv (z.1.toList ++ rest) z.2 Q) := Wp_call (As := [.ref q, .int x0]) (rest := rest) (Nat.le_of_ble_eq_true rfl) rfl hr (fun _ => by show decide _ = true; have hq := of_decide_eq_true hq; exact decide_eq_true hq) (Nat.le_of_ble_eq_true rfl)
set_option maxRecDepth 20000 in
theorem vX0_isDue {q : Nat} (hq : e_okc q 0 = true) (hr : rest.length ≤ 4) : Wp xs L ((pc, .invokevirtual i, v, 57, 1, 8) :: is) lv (.ref q :: rest) (173, m, r) Q = Wp xs L kX0_isDue_0 [(0, .ref q)] [] (173, m, r) (fun z => Wp xs L is lv (z.1.toList ++ rest) z.2 Q) := Wp_call (As := [.ref q]) (rest := rest) (Nat.le_of_ble_eq_true rfl) rfl hr (fun _ => by show decide _ = true; have hq := of_decide_eq_true hq; exact decide_eq_true hq) (Nat.le_of_ble_eq_true rfl)
set_option maxRecDepth 20000 in
theorem vX0_change {q : Nat} (hq : e_okc q 0 = true) (hr : rest.length ≤ 4) : Wp xs L ((pc, .invokevirtual i, v, 60, 1, 9) :: is) lv (.ref q :: rest) (173, m, r) Q = Wp xs L kX0_change_0 [(0, .ref q)] [] (173, m, r) (fun z => Wp xs L is lv (z.1.toList ++ rest) z.2 Q) := Wp_call (As := [.ref q]) (rest := rest) (Nat.le_of_ble_eq_true rfl) rfl hr (fun _ => by show decide _ = true; have hq := of_decide_eq_true hq; exact decide_eq_true hq) (Nat.le_of_ble_eq_true rfl)
set_option maxRecDepth 20000 in
theorem vX1_copyFrom {q : Nat} {x0 : Nat} (hq : e_okc q 1 = true) (hr : rest.length ≤ 4) : Wp xs L ((pc, .invokevirtual i, v, 68, 2, 11) :: is) lv (.ref x0 :: .ref q :: rest) (173, m, r) Q = Wp xs L kX1_copyFrom_0 [(0, .ref q), (1, .ref x0)] [] (173, m, r) (fun z => Wp xs L is lv (z.1.toList ++ rest) z.2 Q) := Wp_call (As := [.ref q, .ref x0]) (rest := rest) (Nat.le_of_ble_eq_true rfl) rfl hr (fun _ => by show decide _ = true; have hq := of_decide_eq_true hq; exact decide_eq_true hq) (Nat.le_of_ble_eq_true rfl)
set_option maxRecDepth 20000 in
theorem vX1_hour {q : Nat} (hq : e_okc q 1 = true) (hr : rest.length ≤ 4) : Wp xs L ((pc, .invokevirtual i, v, 71, 1, 12) :: is) lv (.ref q :: rest) (173, m, r) Q = Wp xs L kX1_hour_0 [(0, .ref q)] [] (173, m, r) (fun z => Wp xs L is lv (z.1.toList ++ rest) z.2 Q) := Wp_call (As := [.ref q]) (rest := rest) (Nat.le_of_ble_eq_true rfl) rfl hr (fun _ => by show decide _ = true; have hq := of_decide_eq_true hq; exact decide_eq_true hq) (Nat.le_of_ble_eq_true rfl)
set_option maxRecDepth 20000 in
theorem vX1_releaseLocks {q : Nat} (hq : e_okc q 1 = true) (hr : rest.length ≤ 4) : Wp xs L ((pc, .invokevirtual i, v, 72, 1, 13) :: is) lv (.ref q :: rest) (173, m, r) Q = Wp xs L kX1_releaseLocks_0 [(0, .ref q)] [] (173, m, r) (fun z => Wp xs L is lv (z.1.toList ++ rest) z.2 Q) := Wp_call (As := [.ref q]) (rest := rest) (Nat.le_of_ble_eq_true rfl) rfl hr (fun _ => by show decide _ = true; have hq := of_decide_eq_true hq; exact decide_eq_true hq) (Nat.le_of_ble_eq_true rfl)
set_option maxRecDepth 20000 in
theorem vX1_switchBanksByTime {q : Nat} (hq : e_okc q 1 = true) (hr : rest.length ≤ 4) : Wp xs L ((pc, .invokevirtual i, v, 75, 1, 14) :: is) lv (.ref q :: rest) (173, m, r) Q = Wp xs L kX1_switchBanksByTime_0 [(0, .ref q)] [] (173, m, r) (fun z => Wp xs L is lv (z.1.toList ++ rest) z.2 Q) := Wp_call (As := [.ref q]) (rest := rest) (Nat.le_of_ble_eq_true rfl) rfl hr (fun _ => by show decide _ = true; have hq := of_decide_eq_true hq; exact decide_eq_true hq) (Nat.le_of_ble_eq_true rfl)
set_option maxRecDepth 20000 in
theorem vX1_switchBankByFlow {q : Nat} {x0 : Nat} (hq : e_okc q 1 = true) (hr : rest.length ≤ 4) : Wp xs L ((pc, .invokevirtual i, v, 79, 2, 15) :: is) lv (.ref x0 :: .ref q :: rest) (173, m, r) Q = Wp xs L kX1_switchBankByFlow_0 [(0, .ref q), (1, .ref x0)] [] (173, m, r) (fun z => Wp xs L is lv (z.1.toList ++ rest) z.2 Q) := Wp_call (As := [.ref q, .ref x0]) (rest := rest) (Nat.le_of_ble_eq_true rfl) rfl hr (fun _ => by show decide _ = true; have hq := of_decide_eq_true hq; exact decide_eq_true hq) (Nat.le_of_ble_eq_true rfl)
set_option maxRecDepth 20000 in
theorem vX1_moveRegulators {q : Nat} {x0 : Nat} {x1 : Int32} (hq : e_okc q 1 = true) (hr : rest.length ≤ 4) : Wp xs L ((pc, .invokevirtual i, v, 83, 3, 16) :: is) lv (.int x1 :: .ref x0 :: .ref q :: rest) (173, m, r) Q = Wp xs L kX1_moveRegulators_0 [(0, .ref q), (1, .ref x0), (2, .int x1)] [] (173, m, r) (fun z => Wp xs L is lv (z.1.toList ++ rest) z.2 Q) := Wp_call (As := [.ref q, .ref x0, .int x1]) (rest := rest) (Nat.le_of_ble_eq_true rfl) rfl hr (fun _ => by show decide _ = true; have hq := of_decide_eq_true hq; exact decide_eq_true hq) (Nat.le_of_ble_eq_true rfl)
set_option maxRecDepth 20000 in
theorem vX2_solve {q : Nat} {x0 : Nat} (hq : e_okc q 2 = true) (hr : rest.length ≤ 4) : Wp xs L ((pc, .invokevirtual i, v, 88, 2, 18) :: is) lv (.ref x0 :: .ref q :: rest) (173, m, r) Q = Wp xs L kX2_solve_0 [(0, .ref q), (1, .ref x0)] [] (173, m, r) (fun z => Wp xs L is lv (z.1.toList ++ rest) z.2 Q) := Wp_call (As := [.ref q, .ref x0]) (rest := rest) (Nat.le_of_ble_eq_true rfl) rfl hr (fun _ => by show decide _ = true; have hq := of_decide_eq_true hq; exact decide_eq_true hq) (Nat.le_of_ble_eq_true rfl)
set_option maxRecDepth 20000 in
theorem vX2_sumLoads {q : Nat} {x0 : Nat} {x1 : Int32} {x2 : Int32} (hq : e_okc q 2 = true) (hr : rest.length ≤ 4) : Wp xs L ((pc, .invokevirtual i, v, 89, 4, 19) :: is) lv (.int x2 :: .int x1 :: .ref x0 :: .ref q :: rest) (173, m, r) Q = Wp xs L kX2_sumLoads_0 [(0, .ref q), (1, .ref x0), (2, .int x1), (3, .int x2)] [] (173, m, r) (fun z => Wp xs L is lv (z.1.toList ++ rest) z.2 Q) := Wp_call (As := [.ref q, .ref x0, .int x1, .int x2]) (rest := rest) (Nat.le_of_ble_eq_true rfl) rfl hr (fun _ => by show decide _ = true; have hq := of_decide_eq_true hq; exact decide_eq_true hq) (Nat.le_of_ble_eq_true rfl)
set_option maxRecDepth 20000 in
theorem vX2_findVoltages {q : Nat} {x0 : Nat} {x1 : Int32} {x2 : Int32} (hq : e_okc q 2 = true) (hr : rest.length ≤ 4) : Wp xs L ((pc, .invokevirtual i, v, 92, 4, 20) :: is) lv (.int x2 :: .int x1 :: .ref x0 :: .ref q :: rest) (173, m, r) Q = Wp xs L kX2_findVoltages_0 [(0, .ref q), (1, .ref x0), (2, .int x1), (3, .int x2)] [] (173, m, r) (fun z => Wp xs L is lv (z.1.toList ++ rest) z.2 Q) := Wp_call (As := [.ref q, .ref x0, .int x1, .int x2]) (rest := rest) (Nat.le_of_ble_eq_true rfl) rfl hr (fun _ => by show decide _ = true; have hq := of_decide_eq_true hq; exact decide_eq_true hq) (Nat.le_of_ble_eq_true rfl)
set_option maxRecDepth 20000 in
theorem vX2_countBadNodes {q : Nat} {x0 : Int32} (hq : e_okc q 2 = true) (hr : rest.length ≤ 4) : Wp xs L ((pc, .invokevirtual i, v, 97, 2, 21) :: is) lv (.int x0 :: .ref q :: rest) (173, m, r) Q = Wp xs L kX2_countBadNodes_0 [(0, .ref q), (1, .int x0)] [] (173, m, r) (fun z => Wp xs L is lv (z.1.toList ++ rest) z.2 Q) := Wp_call (As := [.ref q, .int x0]) (rest := rest) (Nat.le_of_ble_eq_true rfl) rfl hr (fun _ => by show decide _ = true; have hq := of_decide_eq_true hq; exact decide_eq_true hq) (Nat.le_of_ble_eq_true rfl)
set_option maxRecDepth 20000 in
theorem vX3_save {q : Nat} {x0 : Nat} (hq : e_okc q 3 = true) (hr : rest.length ≤ 4) : Wp xs L ((pc, .invokevirtual i, v, 104, 2, 23) :: is) lv (.ref x0 :: .ref q :: rest) (173, m, r) Q = Wp xs L kX3_save_0 [(0, .ref q), (1, .ref x0)] [] (173, m, r) (fun z => Wp xs L is lv (z.1.toList ++ rest) z.2 Q) := Wp_call (As := [.ref q, .ref x0]) (rest := rest) (Nat.le_of_ble_eq_true rfl) rfl hr (fun _ => by show decide _ = true; have hq := of_decide_eq_true hq; exact decide_eq_true hq) (Nat.le_of_ble_eq_true rfl)
set_option maxRecDepth 20000 in
theorem vX3_dropOldest {q : Nat} (hq : e_okc q 3 = true) (hr : rest.length ≤ 4) : Wp xs L ((pc, .invokevirtual i, v, 106, 1, 24) :: is) lv (.ref q :: rest) (173, m, r) Q = Wp xs L kX3_dropOldest_0 [(0, .ref q)] [] (173, m, r) (fun z => Wp xs L is lv (z.1.toList ++ rest) z.2 Q) := Wp_call (As := [.ref q]) (rest := rest) (Nat.le_of_ble_eq_true rfl) rfl hr (fun _ => by show decide _ = true; have hq := of_decide_eq_true hq; exact decide_eq_true hq) (Nat.le_of_ble_eq_true rfl)
set_option maxRecDepth 20000 in
theorem vX3_restore {q : Nat} {x0 : Nat} (hq : e_okc q 3 = true) (hr : rest.length ≤ 4) : Wp xs L ((pc, .invokevirtual i, v, 109, 2, 25) :: is) lv (.ref x0 :: .ref q :: rest) (173, m, r) Q = Wp xs L kX3_restore_0 [(0, .ref q), (1, .ref x0)] [] (173, m, r) (fun z => Wp xs L is lv (z.1.toList ++ rest) z.2 Q) := Wp_call (As := [.ref q, .ref x0]) (rest := rest) (Nat.le_of_ble_eq_true rfl) rfl hr (fun _ => by show decide _ = true; have hq := of_decide_eq_true hq; exact decide_eq_true hq) (Nat.le_of_ble_eq_true rfl)
set_option maxRecDepth 20000 in
theorem vX4_copyFrom {q : Nat} {x0 : Nat} (hq : e_okc q 4 = true) (hr : rest.length ≤ 4) : Wp xs L ((pc, .invokevirtual i, v, 111, 2, 27) :: is) lv (.ref x0 :: .ref q :: rest) (173, m, r) Q = Wp xs L kX4_copyFrom_0 [(0, .ref q), (1, .ref x0)] [] (173, m, r) (fun z => Wp xs L is lv (z.1.toList ++ rest) z.2 Q) := Wp_call (As := [.ref q, .ref x0]) (rest := rest) (Nat.le_of_ble_eq_true rfl) rfl hr (fun _ => by show decide _ = true; have hq := of_decide_eq_true hq; exact decide_eq_true hq) (Nat.le_of_ble_eq_true rfl)
set_option maxRecDepth 20000 in
theorem vX5_makePlan {q : Nat} {x0 : Nat} {x1 : Int32} (hq : e_okc q 5 = true) (hr : rest.length ≤ 4) : Wp xs L ((pc, .invokevirtual i, v, 113, 3, 29) :: is) lv (.int x1 :: .ref x0 :: .ref q :: rest) (173, m, r) Q = Wp xs L kX5_makePlan_0 [(0, .ref q), (1, .ref x0), (2, .int x1)] [] (173, m, r) (fun z => Wp xs L is lv (z.1.toList ++ rest) z.2 Q) := Wp_call (As := [.ref q, .ref x0, .int x1]) (rest := rest) (Nat.le_of_ble_eq_true rfl) rfl hr (fun _ => by show decide _ = true; have hq := of_decide_eq_true hq; exact decide_eq_true hq) (Nat.le_of_ble_eq_true rfl)
set_option maxRecDepth 20000 in
theorem vX5_countStepsAfter {q : Nat} {x0 : Nat} {x1 : Int32} {x2 : Int32} (hq : e_okc q 5 = true) (hr : rest.length ≤ 4) : Wp xs L ((pc, .invokevirtual i, v, 119, 4, 30) :: is) lv (.int x2 :: .int x1 :: .ref x0 :: .ref q :: rest) (173, m, r) Q = Wp xs L kX5_countStepsAfter_0 [(0, .ref q), (1, .ref x0), (2, .int x1), (3, .int x2)] [] (173, m, r) (fun z => Wp xs L is lv (z.1.toList ++ rest) z.2 Q) := Wp_call (As := [.ref q, .ref x0, .int x1, .int x2]) (rest := rest) (Nat.le_of_ble_eq_true rfl) rfl hr (fun _ => by show decide _ = true; have hq := of_decide_eq_true hq; exact decide_eq_true hq) (Nat.le_of_ble_eq_true rfl)
set_option maxRecDepth 20000 in
theorem vX5_countStepsFrom {q : Nat} {x0 : Int32} (hq : e_okc q 5 = true) (hr : rest.length ≤ 4) : Wp xs L ((pc, .invokevirtual i, v, 126, 2, 31) :: is) lv (.int x0 :: .ref q :: rest) (173, m, r) Q = Wp xs L kX5_countStepsFrom_0 [(0, .ref q), (1, .int x0)] [] (173, m, r) (fun z => Wp xs L is lv (z.1.toList ++ rest) z.2 Q) := Wp_call (As := [.ref q, .int x0]) (rest := rest) (Nat.le_of_ble_eq_true rfl) rfl hr (fun _ => by show decide _ = true; have hq := of_decide_eq_true hq; exact decide_eq_true hq) (Nat.le_of_ble_eq_true rfl)
set_option maxRecDepth 20000 in
theorem vX5_chooseTaps {q : Nat} {x0 : Int32} (hq : e_okc q 5 = true) (hr : rest.length ≤ 4) : Wp xs L ((pc, .invokevirtual i, v, 133, 2, 32) :: is) lv (.int x0 :: .ref q :: rest) (173, m, r) Q = Wp xs L kX5_chooseTaps_0 [(0, .ref q), (1, .int x0)] [] (173, m, r) (fun z => Wp xs L is lv (z.1.toList ++ rest) z.2 Q) := Wp_call (As := [.ref q, .int x0]) (rest := rest) (Nat.le_of_ble_eq_true rfl) rfl hr (fun _ => by show decide _ = true; have hq := of_decide_eq_true hq; exact decide_eq_true hq) (Nat.le_of_ble_eq_true rfl)
set_option maxRecDepth 20000 in
theorem vX6_readItems {q : Nat} {x0 : Nat} (hq : e_okc q 6 = true) (hr : rest.length ≤ 4) : Wp xs L ((pc, .invokevirtual i, v, 140, 2, 34) :: is) lv (.ref x0 :: .ref q :: rest) (173, m, r) Q = Wp xs L kX6_readItems_0 [(0, .ref q), (1, .ref x0)] [] (173, m, r) (fun z => Wp xs L is lv (z.1.toList ++ rest) z.2 Q) := Wp_call (As := [.ref q, .ref x0]) (rest := rest) (Nat.le_of_ble_eq_true rfl) rfl hr (fun _ => by show decide _ = true; have hq := of_decide_eq_true hq; exact decide_eq_true hq) (Nat.le_of_ble_eq_true rfl)
set_option maxRecDepth 20000 in
theorem vX6_readItem {q : Nat} {x0 : Nat} (hq : e_okc q 6 = true) (hr : rest.length ≤ 4) : Wp xs L ((pc, .invokevirtual i, v, 143, 2, 35) :: is) lv (.ref x0 :: .ref q :: rest) (173, m, r) Q = Wp xs L kX6_readItem_0 [(0, .ref q), (1, .ref x0)] [] (173, m, r) (fun z => Wp xs L is lv (z.1.toList ++ rest) z.2 Q) := Wp_call (As := [.ref q, .ref x0]) (rest := rest) (Nat.le_of_ble_eq_true rfl) rfl hr (fun _ => by show decide _ = true; have hq := of_decide_eq_true hq; exact decide_eq_true hq) (Nat.le_of_ble_eq_true rfl)
set_option maxRecDepth 20000 in
theorem vX6_readNumber {q : Nat} {x0 : Int32} {x1 : Int32} (hq : e_okc q 6 = true) (hr : rest.length ≤ 4) : Wp xs L ((pc, .invokevirtual i, v, 148, 3, 36) :: is) lv (.int x1 :: .int x0 :: .ref q :: rest) (173, m, r) Q = Wp xs L kX6_readNumber_0 [(0, .ref q), (1, .int x0), (2, .int x1)] [] (173, m, r) (fun z => Wp xs L is lv (z.1.toList ++ rest) z.2 Q) := Wp_call (As := [.ref q, .int x0, .int x1]) (rest := rest) (Nat.le_of_ble_eq_true rfl) rfl hr (fun _ => by show decide _ = true; have hq := of_decide_eq_true hq; exact decide_eq_true hq) (Nat.le_of_ble_eq_true rfl)
set_option maxRecDepth 20000 in
theorem vX6_isNext {q : Nat} {x0 : Int32} (hq : e_okc q 6 = true) (hr : rest.length ≤ 4) : Wp xs L ((pc, .invokevirtual i, v, 155, 2, 37) :: is) lv (.int x0 :: .ref q :: rest) (173, m, r) Q = Wp xs L kX6_isNext_0 [(0, .ref q), (1, .int x0)] [] (173, m, r) (fun z => Wp xs L is lv (z.1.toList ++ rest) z.2 Q) := Wp_call (As := [.ref q, .int x0]) (rest := rest) (Nat.le_of_ble_eq_true rfl) rfl hr (fun _ => by show decide _ = true; have hq := of_decide_eq_true hq; exact decide_eq_true hq) (Nat.le_of_ble_eq_true rfl)
set_option maxRecDepth 20000 in
theorem vX6_expect {q : Nat} {x0 : Int32} (hq : e_okc q 6 = true) (hr : rest.length ≤ 4) : Wp xs L ((pc, .invokevirtual i, v, 158, 2, 38) :: is) lv (.int x0 :: .ref q :: rest) (173, m, r) Q = Wp xs L kX6_expect_0 [(0, .ref q), (1, .int x0)] [] (173, m, r) (fun z => Wp xs L is lv (z.1.toList ++ rest) z.2 Q) := Wp_call (As := [.ref q, .int x0]) (rest := rest) (Nat.le_of_ble_eq_true rfl) rfl hr (fun _ => by show decide _ = true; have hq := of_decide_eq_true hq; exact decide_eq_true hq) (Nat.le_of_ble_eq_true rfl)
set_option maxRecDepth 20000 in
theorem vX6_skipSpaces {q : Nat} (hq : e_okc q 6 = true) (hr : rest.length ≤ 4) : Wp xs L ((pc, .invokevirtual i, v, 162, 1, 39) :: is) lv (.ref q :: rest) (173, m, r) Q = Wp xs L kX6_skipSpaces_0 [(0, .ref q)] [] (173, m, r) (fun z => Wp xs L is lv (z.1.toList ++ rest) z.2 Q) := Wp_call (As := [.ref q]) (rest := rest) (Nat.le_of_ble_eq_true rfl) rfl hr (fun _ => by show decide _ = true; have hq := of_decide_eq_true hq; exact decide_eq_true hq) (Nat.le_of_ble_eq_true rfl)
set_option maxRecDepth 20000 in
theorem vX7_copyFrom {q : Nat} {x0 : Nat} (hq : e_okc q 7 = true) (hr : rest.length ≤ 4) : Wp xs L ((pc, .invokevirtual i, v, 165, 2, 41) :: is) lv (.ref x0 :: .ref q :: rest) (173, m, r) Q = Wp xs L kX7_copyFrom_0 [(0, .ref q), (1, .ref x0)] [] (173, m, r) (fun z => Wp xs L is lv (z.1.toList ++ rest) z.2 Q) := Wp_call (As := [.ref q, .ref x0]) (rest := rest) (Nat.le_of_ble_eq_true rfl) rfl hr (fun _ => by show decide _ = true; have hq := of_decide_eq_true hq; exact decide_eq_true hq) (Nat.le_of_ble_eq_true rfl)
set_option maxRecDepth 20000 in
theorem vX7_release {q : Nat} (hq : e_okc q 7 = true) (hr : rest.length ≤ 4) : Wp xs L ((pc, .invokevirtual i, v, 166, 1, 42) :: is) lv (.ref q :: rest) (173, m, r) Q = Wp xs L kX7_release_0 [(0, .ref q)] [] (173, m, r) (fun z => Wp xs L is lv (z.1.toList ++ rest) z.2 Q) := Wp_call (As := [.ref q]) (rest := rest) (Nat.le_of_ble_eq_true rfl) rfl hr (fun _ => by show decide _ = true; have hq := of_decide_eq_true hq; exact decide_eq_true hq) (Nat.le_of_ble_eq_true rfl)
set_option maxRecDepth 20000 in
theorem vX7_wantedDirection {q : Nat} {x0 : Int32} {x1 : Int32} (hq : e_okc q 7 = true) (hr : rest.length ≤ 4) : Wp xs L ((pc, .invokevirtual i, v, 167, 3, 43) :: is) lv (.int x1 :: .int x0 :: .ref q :: rest) (173, m, r) Q = Wp xs L kX7_wantedDirection_0 [(0, .ref q), (1, .int x0), (2, .int x1)] [] (173, m, r) (fun z => Wp xs L is lv (z.1.toList ++ rest) z.2 Q) := Wp_call (As := [.ref q, .int x0, .int x1]) (rest := rest) (Nat.le_of_ble_eq_true rfl) rfl hr (fun _ => by show decide _ = true; have hq := of_decide_eq_true hq; exact decide_eq_true hq) (Nat.le_of_ble_eq_true rfl)
set_option maxRecDepth 20000 in
theorem vX7_countMinute {q : Nat} {x0 : Int32} (hq : e_okc q 7 = true) (hr : rest.length ≤ 4) : Wp xs L ((pc, .invokevirtual i, v, 173, 2, 44) :: is) lv (.int x0 :: .ref q :: rest) (173, m, r) Q = Wp xs L kX7_countMinute_0 [(0, .ref q), (1, .int x0)] [] (173, m, r) (fun z => Wp xs L is lv (z.1.toList ++ rest) z.2 Q) := Wp_call (As := [.ref q, .int x0]) (rest := rest) (Nat.le_of_ble_eq_true rfl) rfl hr (fun _ => by show decide _ = true; have hq := of_decide_eq_true hq; exact decide_eq_true hq) (Nat.le_of_ble_eq_true rfl)
set_option maxRecDepth 20000 in
theorem vX7_isDue {q : Nat} (hq : e_okc q 7 = true) (hr : rest.length ≤ 4) : Wp xs L ((pc, .invokevirtual i, v, 177, 1, 45) :: is) lv (.ref q :: rest) (173, m, r) Q = Wp xs L kX7_isDue_0 [(0, .ref q)] [] (173, m, r) (fun z => Wp xs L is lv (z.1.toList ++ rest) z.2 Q) := Wp_call (As := [.ref q]) (rest := rest) (Nat.le_of_ble_eq_true rfl) rfl hr (fun _ => by show decide _ = true; have hq := of_decide_eq_true hq; exact decide_eq_true hq) (Nat.le_of_ble_eq_true rfl)
set_option maxRecDepth 20000 in
theorem vX7_makeStep {q : Nat} (hq : e_okc q 7 = true) (hr : rest.length ≤ 4) : Wp xs L ((pc, .invokevirtual i, v, 180, 1, 46) :: is) lv (.ref q :: rest) (173, m, r) Q = Wp xs L kX7_makeStep_0 [(0, .ref q)] [] (173, m, r) (fun z => Wp xs L is lv (z.1.toList ++ rest) z.2 Q) := Wp_call (As := [.ref q]) (rest := rest) (Nat.le_of_ble_eq_true rfl) rfl hr (fun _ => by show decide _ = true; have hq := of_decide_eq_true hq; exact decide_eq_true hq) (Nat.le_of_ble_eq_true rfl)
set_option maxRecDepth 20000 in
theorem vX8_setSource {q : Nat} {x0 : Int32} (hq : e_okc q 8 = true) (hr : rest.length ≤ 4) : Wp xs L ((pc, .invokevirtual i, v, 185, 2, 48) :: is) lv (.int x0 :: .ref q :: rest) (173, m, r) Q = Wp xs L kX8_setSource_0 [(0, .ref q), (1, .int x0)] [] (173, m, r) (fun z => Wp xs L is lv (z.1.toList ++ rest) z.2 Q) := Wp_call (As := [.ref q, .int x0]) (rest := rest) (Nat.le_of_ble_eq_true rfl) rfl hr (fun _ => by show decide _ = true; have hq := of_decide_eq_true hq; exact decide_eq_true hq) (Nat.le_of_ble_eq_true rfl)
set_option maxRecDepth 20000 in
theorem vX8_addNode {q : Nat} {x0 : Int32} {x1 : Int32} {x2 : Int32} {x3 : Int32} (hq : e_okc q 8 = true) (hr : rest.length ≤ 4) : Wp xs L ((pc, .invokevirtual i, v, 187, 5, 49) :: is) lv (.int x3 :: .int x2 :: .int x1 :: .int x0 :: .ref q :: rest) (173, m, r) Q = Wp xs L kX8_addNode_0 [(0, .ref q), (1, .int x0), (2, .int x1), (3, .int x2), (4, .int x3)] [] (173, m, r) (fun z => Wp xs L is lv (z.1.toList ++ rest) z.2 Q) := Wp_call (As := [.ref q, .int x0, .int x1, .int x2, .int x3]) (rest := rest) (Nat.le_of_ble_eq_true rfl) rfl hr (fun _ => by show decide _ = true; have hq := of_decide_eq_true hq; exact decide_eq_true hq) (Nat.le_of_ble_eq_true rfl)
set_option maxRecDepth 20000 in
theorem vX8_setLoad {q : Nat} {x0 : Int32} {x1 : Int32} {x2 : Int32} (hq : e_okc q 8 = true) (hr : rest.length ≤ 4) : Wp xs L ((pc, .invokevirtual i, v, 191, 4, 50) :: is) lv (.int x2 :: .int x1 :: .int x0 :: .ref q :: rest) (173, m, r) Q = Wp xs L kX8_setLoad_0 [(0, .ref q), (1, .int x0), (2, .int x1), (3, .int x2)] [] (173, m, r) (fun z => Wp xs L is lv (z.1.toList ++ rest) z.2 Q) := Wp_call (As := [.ref q, .int x0, .int x1, .int x2]) (rest := rest) (Nat.le_of_ble_eq_true rfl) rfl hr (fun _ => by show decide _ = true; have hq := of_decide_eq_true hq; exact decide_eq_true hq) (Nat.le_of_ble_eq_true rfl)
set_option maxRecDepth 20000 in
theorem vX8_setFactor {q : Nat} {x0 : Int32} {x1 : Int32} (hq : e_okc q 8 = true) (hr : rest.length ≤ 4) : Wp xs L ((pc, .invokevirtual i, v, 194, 3, 51) :: is) lv (.int x1 :: .int x0 :: .ref q :: rest) (173, m, r) Q = Wp xs L kX8_setFactor_0 [(0, .ref q), (1, .int x0), (2, .int x1)] [] (173, m, r) (fun z => Wp xs L is lv (z.1.toList ++ rest) z.2 Q) := Wp_call (As := [.ref q, .int x0, .int x1]) (rest := rest) (Nat.le_of_ble_eq_true rfl) rfl hr (fun _ => by show decide _ = true; have hq := of_decide_eq_true hq; exact decide_eq_true hq) (Nat.le_of_ble_eq_true rfl)
set_option maxRecDepth 20000 in
theorem vX8_append {q : Nat} {x0 : Int32} (hq : e_okc q 8 = true) (hr : rest.length ≤ 4) : Wp xs L ((pc, .invokevirtual i, v, 197, 2, 52) :: is) lv (.int x0 :: .ref q :: rest) (173, m, r) Q = Wp xs L kX8_append_0 [(0, .ref q), (1, .int x0)] [] (173, m, r) (fun z => Wp xs L is lv (z.1.toList ++ rest) z.2 Q) := Wp_call (As := [.ref q, .int x0]) (rest := rest) (Nat.le_of_ble_eq_true rfl) rfl hr (fun _ => by show decide _ = true; have hq := of_decide_eq_true hq; exact decide_eq_true hq) (Nat.le_of_ble_eq_true rfl)
set_option maxRecDepth 20000 in
theorem vX8_clearText {q : Nat} (hq : e_okc q 8 = true) (hr : rest.length ≤ 4) : Wp xs L ((pc, .invokevirtual i, v, 200, 1, 53) :: is) lv (.ref q :: rest) (173, m, r) Q = Wp xs L kX8_clearText_0 [(0, .ref q)] [] (173, m, r) (fun z => Wp xs L is lv (z.1.toList ++ rest) z.2 Q) := Wp_call (As := [.ref q]) (rest := rest) (Nat.le_of_ble_eq_true rfl) rfl hr (fun _ => by show decide _ = true; have hq := of_decide_eq_true hq; exact decide_eq_true hq) (Nat.le_of_ble_eq_true rfl)
set_option maxRecDepth 20000 in
theorem vX8_parseProfile {q : Nat} (hq : e_okc q 8 = true) (hr : rest.length ≤ 4) : Wp xs L ((pc, .invokevirtual i, v, 201, 1, 54) :: is) lv (.ref q :: rest) (173, m, r) Q = Wp xs L kX8_parseProfile_0 [(0, .ref q)] [] (173, m, r) (fun z => Wp xs L is lv (z.1.toList ++ rest) z.2 Q) := Wp_call (As := [.ref q]) (rest := rest) (Nat.le_of_ble_eq_true rfl) rfl hr (fun _ => by show decide _ = true; have hq := of_decide_eq_true hq; exact decide_eq_true hq) (Nat.le_of_ble_eq_true rfl)
set_option maxRecDepth 20000 in
theorem vX8_addRegulator {q : Nat} {x0 : Int32} {x1 : Int32} {x2 : Int32} {x3 : Int32} {x4 : Int32} (hq : e_okc q 8 = true) (hr : rest.length ≤ 4) : Wp xs L ((pc, .invokevirtual i, v, 203, 6, 55) :: is) lv (.int x4 :: .int x3 :: .int x2 :: .int x1 :: .int x0 :: .ref q :: rest) (173, m, r) Q = Wp xs L kX8_addRegulator_0 [(0, .ref q), (1, .int x0), (2, .int x1), (3, .int x2), (4, .int x3), (5, .int x4)] [] (173, m, r) (fun z => Wp xs L is lv (z.1.toList ++ rest) z.2 Q) := Wp_call (As := [.ref q, .int x0, .int x1, .int x2, .int x3, .int x4]) (rest := rest) (Nat.le_of_ble_eq_true rfl) rfl hr (fun _ => by show decide _ = true; have hq := of_decide_eq_true hq; exact decide_eq_true hq) (Nat.le_of_ble_eq_true rfl)
set_option maxRecDepth 20000 in
theorem vX8_setTap {q : Nat} {x0 : Int32} {x1 : Int32} (hq : e_okc q 8 = true) (hr : rest.length ≤ 4) : Wp xs L ((pc, .invokevirtual i, v, 209, 3, 56) :: is) lv (.int x1 :: .int x0 :: .ref q :: rest) (173, m, r) Q = Wp xs L kX8_setTap_0 [(0, .ref q), (1, .int x0), (2, .int x1)] [] (173, m, r) (fun z => Wp xs L is lv (z.1.toList ++ rest) z.2 Q) := Wp_call (As := [.ref q, .int x0, .int x1]) (rest := rest) (Nat.le_of_ble_eq_true rfl) rfl hr (fun _ => by show decide _ = true; have hq := of_decide_eq_true hq; exact decide_eq_true hq) (Nat.le_of_ble_eq_true rfl)
set_option maxRecDepth 20000 in
theorem vX8_addBank {q : Nat} {x0 : Int32} {x1 : Int32} {x2 : Int32} {x3 : Int32} {x4 : Int32} {x5 : Int32} (hq : e_okc q 8 = true) (hr : rest.length ≤ 4) : Wp xs L ((pc, .invokevirtual i, v, 212, 7, 57) :: is) lv (.int x5 :: .int x4 :: .int x3 :: .int x2 :: .int x1 :: .int x0 :: .ref q :: rest) (173, m, r) Q = Wp xs L kX8_addBank_0 [(0, .ref q), (1, .int x0), (2, .int x1), (3, .int x2), (4, .int x3), (5, .int x4), (6, .int x5)] [] (173, m, r) (fun z => Wp xs L is lv (z.1.toList ++ rest) z.2 Q) := Wp_call (As := [.ref q, .int x0, .int x1, .int x2, .int x3, .int x4, .int x5]) (rest := rest) (Nat.le_of_ble_eq_true rfl) rfl hr (fun _ => by show decide _ = true; have hq := of_decide_eq_true hq; exact decide_eq_true hq) (Nat.le_of_ble_eq_true rfl)
set_option maxRecDepth 20000 in
theorem vX8_switchBank {q : Nat} {x0 : Int32} {x1 : Int32} (hq : e_okc q 8 = true) (hr : rest.length ≤ 4) : Wp xs L ((pc, .invokevirtual i, v, 216, 3, 58) :: is) lv (.int x1 :: .int x0 :: .ref q :: rest) (173, m, r) Q = Wp xs L kX8_switchBank_0 [(0, .ref q), (1, .int x0), (2, .int x1)] [] (173, m, r) (fun z => Wp xs L is lv (z.1.toList ++ rest) z.2 Q) := Wp_call (As := [.ref q, .int x0, .int x1]) (rest := rest) (Nat.le_of_ble_eq_true rfl) rfl hr (fun _ => by show decide _ = true; have hq := of_decide_eq_true hq; exact decide_eq_true hq) (Nat.le_of_ble_eq_true rfl)
set_option maxRecDepth 20000 in
theorem vX8_run {q : Nat} {x0 : Int32} (hq : e_okc q 8 = true) (hr : rest.length ≤ 4) : Wp xs L ((pc, .invokevirtual i, v, 221, 2, 59) :: is) lv (.int x0 :: .ref q :: rest) (173, m, r) Q = Wp xs L kX8_run_0 [(0, .ref q), (1, .int x0)] [] (173, m, r) (fun z => Wp xs L is lv (z.1.toList ++ rest) z.2 Q) := Wp_call (As := [.ref q, .int x0]) (rest := rest) (Nat.le_of_ble_eq_true rfl) rfl hr (fun _ => by show decide _ = true; have hq := of_decide_eq_true hq; exact decide_eq_true hq) (Nat.le_of_ble_eq_true rfl)
set_option maxRecDepth 20000 in
theorem vX8_minute {q : Nat} (hq : e_okc q 8 = true) (hr : rest.length ≤ 4) : Wp xs L ((pc, .invokevirtual i, v, 226, 1, 60) :: is) lv (.ref q :: rest) (173, m, r) Q = Wp xs L kX8_minute_0 [(0, .ref q)] [] (173, m, r) (fun z => Wp xs L is lv (z.1.toList ++ rest) z.2 Q) := Wp_call (As := [.ref q]) (rest := rest) (Nat.le_of_ble_eq_true rfl) rfl hr (fun _ => by show decide _ = true; have hq := of_decide_eq_true hq; exact decide_eq_true hq) (Nat.le_of_ble_eq_true rfl)
set_option maxRecDepth 20000 in
theorem vX8_passMinute {q : Nat} (hq : e_okc q 8 = true) (hr : rest.length ≤ 4) : Wp xs L ((pc, .invokevirtual i, v, 227, 1, 61) :: is) lv (.ref q :: rest) (173, m, r) Q = Wp xs L kX8_passMinute_0 [(0, .ref q)] [] (173, m, r) (fun z => Wp xs L is lv (z.1.toList ++ rest) z.2 Q) := Wp_call (As := [.ref q]) (rest := rest) (Nat.le_of_ble_eq_true rfl) rfl hr (fun _ => by show decide _ = true; have hq := of_decide_eq_true hq; exact decide_eq_true hq) (Nat.le_of_ble_eq_true rfl)
set_option maxRecDepth 20000 in
theorem vX8_voltage {q : Nat} {x0 : Int32} (hq : e_okc q 8 = true) (hr : rest.length ≤ 4) : Wp xs L ((pc, .invokevirtual i, v, 236, 2, 62) :: is) lv (.int x0 :: .ref q :: rest) (173, m, r) Q = Wp xs L kX8_voltage_0 [(0, .ref q), (1, .int x0)] [] (173, m, r) (fun z => Wp xs L is lv (z.1.toList ++ rest) z.2 Q) := Wp_call (As := [.ref q, .int x0]) (rest := rest) (Nat.le_of_ble_eq_true rfl) rfl hr (fun _ => by show decide _ = true; have hq := of_decide_eq_true hq; exact decide_eq_true hq) (Nat.le_of_ble_eq_true rfl)
set_option maxRecDepth 20000 in
theorem vX8_activeFlow {q : Nat} {x0 : Int32} (hq : e_okc q 8 = true) (hr : rest.length ≤ 4) : Wp xs L ((pc, .invokevirtual i, v, 238, 2, 63) :: is) lv (.int x0 :: .ref q :: rest) (173, m, r) Q = Wp xs L kX8_activeFlow_0 [(0, .ref q), (1, .int x0)] [] (173, m, r) (fun z => Wp xs L is lv (z.1.toList ++ rest) z.2 Q) := Wp_call (As := [.ref q, .int x0]) (rest := rest) (Nat.le_of_ble_eq_true rfl) rfl hr (fun _ => by show decide _ = true; have hq := of_decide_eq_true hq; exact decide_eq_true hq) (Nat.le_of_ble_eq_true rfl)
set_option maxRecDepth 20000 in
theorem vX8_reactiveFlow {q : Nat} {x0 : Int32} (hq : e_okc q 8 = true) (hr : rest.length ≤ 4) : Wp xs L ((pc, .invokevirtual i, v, 240, 2, 64) :: is) lv (.int x0 :: .ref q :: rest) (173, m, r) Q = Wp xs L kX8_reactiveFlow_0 [(0, .ref q), (1, .int x0)] [] (173, m, r) (fun z => Wp xs L is lv (z.1.toList ++ rest) z.2 Q) := Wp_call (As := [.ref q, .int x0]) (rest := rest) (Nat.le_of_ble_eq_true rfl) rfl hr (fun _ => by show decide _ = true; have hq := of_decide_eq_true hq; exact decide_eq_true hq) (Nat.le_of_ble_eq_true rfl)
set_option maxRecDepth 20000 in
theorem vX8_tap {q : Nat} {x0 : Int32} (hq : e_okc q 8 = true) (hr : rest.length ≤ 4) : Wp xs L ((pc, .invokevirtual i, v, 242, 2, 65) :: is) lv (.int x0 :: .ref q :: rest) (173, m, r) Q = Wp xs L kX8_tap_0 [(0, .ref q), (1, .int x0)] [] (173, m, r) (fun z => Wp xs L is lv (z.1.toList ++ rest) z.2 Q) := Wp_call (As := [.ref q, .int x0]) (rest := rest) (Nat.le_of_ble_eq_true rfl) rfl hr (fun _ => by show decide _ = true; have hq := of_decide_eq_true hq; exact decide_eq_true hq) (Nat.le_of_ble_eq_true rfl)
set_option maxRecDepth 20000 in
theorem vX8_timer {q : Nat} {x0 : Int32} (hq : e_okc q 8 = true) (hr : rest.length ≤ 4) : Wp xs L ((pc, .invokevirtual i, v, 245, 2, 66) :: is) lv (.int x0 :: .ref q :: rest) (173, m, r) Q = Wp xs L kX8_timer_0 [(0, .ref q), (1, .int x0)] [] (173, m, r) (fun z => Wp xs L is lv (z.1.toList ++ rest) z.2 Q) := Wp_call (As := [.ref q, .int x0]) (rest := rest) (Nat.le_of_ble_eq_true rfl) rfl hr (fun _ => by show decide _ = true; have hq := of_decide_eq_true hq; exact decide_eq_true hq) (Nat.le_of_ble_eq_true rfl)
set_option maxRecDepth 20000 in
theorem vX8_isLocked {q : Nat} {x0 : Int32} (hq : e_okc q 8 = true) (hr : rest.length ≤ 4) : Wp xs L ((pc, .invokevirtual i, v, 248, 2, 67) :: is) lv (.int x0 :: .ref q :: rest) (173, m, r) Q = Wp xs L kX8_isLocked_0 [(0, .ref q), (1, .int x0)] [] (173, m, r) (fun z => Wp xs L is lv (z.1.toList ++ rest) z.2 Q) := Wp_call (As := [.ref q, .int x0]) (rest := rest) (Nat.le_of_ble_eq_true rfl) rfl hr (fun _ => by show decide _ = true; have hq := of_decide_eq_true hq; exact decide_eq_true hq) (Nat.le_of_ble_eq_true rfl)
set_option maxRecDepth 20000 in
theorem vX8_steps {q : Nat} {x0 : Int32} (hq : e_okc q 8 = true) (hr : rest.length ≤ 4) : Wp xs L ((pc, .invokevirtual i, v, 251, 2, 68) :: is) lv (.int x0 :: .ref q :: rest) (173, m, r) Q = Wp xs L kX8_steps_0 [(0, .ref q), (1, .int x0)] [] (173, m, r) (fun z => Wp xs L is lv (z.1.toList ++ rest) z.2 Q) := Wp_call (As := [.ref q, .int x0]) (rest := rest) (Nat.le_of_ble_eq_true rfl) rfl hr (fun _ => by show decide _ = true; have hq := of_decide_eq_true hq; exact decide_eq_true hq) (Nat.le_of_ble_eq_true rfl)
set_option maxRecDepth 20000 in
theorem vX8_isOn {q : Nat} {x0 : Int32} (hq : e_okc q 8 = true) (hr : rest.length ≤ 4) : Wp xs L ((pc, .invokevirtual i, v, 254, 2, 69) :: is) lv (.int x0 :: .ref q :: rest) (173, m, r) Q = Wp xs L kX8_isOn_0 [(0, .ref q), (1, .int x0)] [] (173, m, r) (fun z => Wp xs L is lv (z.1.toList ++ rest) z.2 Q) := Wp_call (As := [.ref q, .int x0]) (rest := rest) (Nat.le_of_ble_eq_true rfl) rfl hr (fun _ => by show decide _ = true; have hq := of_decide_eq_true hq; exact decide_eq_true hq) (Nat.le_of_ble_eq_true rfl)
set_option maxRecDepth 20000 in
theorem vX8_violations {q : Nat} (hq : e_okc q 8 = true) (hr : rest.length ≤ 4) : Wp xs L ((pc, .invokevirtual i, v, 257, 1, 70) :: is) lv (.ref q :: rest) (173, m, r) Q = Wp xs L kX8_violations_0 [(0, .ref q)] [] (173, m, r) (fun z => Wp xs L is lv (z.1.toList ++ rest) z.2 Q) := Wp_call (As := [.ref q]) (rest := rest) (Nat.le_of_ble_eq_true rfl) rfl hr (fun _ => by show decide _ = true; have hq := of_decide_eq_true hq; exact decide_eq_true hq) (Nat.le_of_ble_eq_true rfl)
set_option maxRecDepth 20000 in
theorem vX8_planSteps {q : Nat} {x0 : Int32} (hq : e_okc q 8 = true) (hr : rest.length ≤ 4) : Wp xs L ((pc, .invokevirtual i, v, 258, 2, 71) :: is) lv (.int x0 :: .ref q :: rest) (173, m, r) Q = Wp xs L kX8_planSteps_0 [(0, .ref q), (1, .int x0)] [] (173, m, r) (fun z => Wp xs L is lv (z.1.toList ++ rest) z.2 Q) := Wp_call (As := [.ref q, .int x0]) (rest := rest) (Nat.le_of_ble_eq_true rfl) rfl hr (fun _ => by show decide _ = true; have hq := of_decide_eq_true hq; exact decide_eq_true hq) (Nat.le_of_ble_eq_true rfl)
set_option maxRecDepth 20000 in
theorem vX8_planTap {q : Nat} {x0 : Int32} {x1 : Int32} (hq : e_okc q 8 = true) (hr : rest.length ≤ 4) : Wp xs L ((pc, .invokevirtual i, v, 262, 3, 72) :: is) lv (.int x1 :: .int x0 :: .ref q :: rest) (173, m, r) Q = Wp xs L kX8_planTap_0 [(0, .ref q), (1, .int x0), (2, .int x1)] [] (173, m, r) (fun z => Wp xs L is lv (z.1.toList ++ rest) z.2 Q) := Wp_call (As := [.ref q, .int x0, .int x1]) (rest := rest) (Nat.le_of_ble_eq_true rfl) rfl hr (fun _ => by show decide _ = true; have hq := of_decide_eq_true hq; exact decide_eq_true hq) (Nat.le_of_ble_eq_true rfl)
set_option maxRecDepth 20000 in
theorem vX8_undo {q : Nat} (hq : e_okc q 8 = true) (hr : rest.length ≤ 4) : Wp xs L ((pc, .invokevirtual i, v, 267, 1, 73) :: is) lv (.ref q :: rest) (173, m, r) Q = Wp xs L kX8_undo_0 [(0, .ref q)] [] (173, m, r) (fun z => Wp xs L is lv (z.1.toList ++ rest) z.2 Q) := Wp_call (As := [.ref q]) (rest := rest) (Nat.le_of_ble_eq_true rfl) rfl hr (fun _ => by show decide _ = true; have hq := of_decide_eq_true hq; exact decide_eq_true hq) (Nat.le_of_ble_eq_true rfl)
set_option maxRecDepth 20000 in
theorem vX8_errorCount {q : Nat} {x0 : Int32} (hq : e_okc q 8 = true) (hr : rest.length ≤ 4) : Wp xs L ((pc, .invokevirtual i, v, 269, 2, 74) :: is) lv (.int x0 :: .ref q :: rest) (173, m, r) Q = Wp xs L kX8_errorCount_0 [(0, .ref q), (1, .int x0)] [] (173, m, r) (fun z => Wp xs L is lv (z.1.toList ++ rest) z.2 Q) := Wp_call (As := [.ref q, .int x0]) (rest := rest) (Nat.le_of_ble_eq_true rfl) rfl hr (fun _ => by show decide _ = true; have hq := of_decide_eq_true hq; exact decide_eq_true hq) (Nat.le_of_ble_eq_true rfl)
set_option maxRecDepth 20000 in
theorem vX8_digest {q : Nat} (hq : e_okc q 8 = true) (hr : rest.length ≤ 4) : Wp xs L ((pc, .invokevirtual i, v, 272, 1, 75) :: is) lv (.ref q :: rest) (173, m, r) Q = Wp xs L kX8_digest_0 [(0, .ref q)] [] (173, m, r) (fun z => Wp xs L is lv (z.1.toList ++ rest) z.2 Q) := Wp_call (As := [.ref q]) (rest := rest) (Nat.le_of_ble_eq_true rfl) rfl hr (fun _ => by show decide _ = true; have hq := of_decide_eq_true hq; exact decide_eq_true hq) (Nat.le_of_ble_eq_true rfl)
set_option maxRecDepth 20000 in
theorem vX8_mixRegulator {x0 : Int64} {x1 : Nat} (hr : rest.length ≤ 4) : Wp xs L ((pc, .invokestatic i, v, 279, 2, 76) :: is) lv (.ref x1 :: .long x0 :: rest) (173, m, r) Q = Wp xs L kX8_mixRegulator_0 [(0, .long x0), (2, .ref x1)] [] (173, m, r) (fun z => Wp xs L is lv (z.1.toList ++ rest) z.2 Q) := Wp_call (As := [.long x0, .ref x1]) (rest := rest) (Nat.le_of_ble_eq_true rfl) rfl hr (fun h => by cases h) (Nat.le_of_ble_eq_true rfl)
set_option maxRecDepth 20000 in
theorem vX8_mixBank {x0 : Int64} {x1 : Nat} (hr : rest.length ≤ 4) : Wp xs L ((pc, .invokestatic i, v, 281, 2, 77) :: is) lv (.ref x1 :: .long x0 :: rest) (173, m, r) Q = Wp xs L kX8_mixBank_0 [(0, .long x0), (2, .ref x1)] [] (173, m, r) (fun z => Wp xs L is lv (z.1.toList ++ rest) z.2 Q) := Wp_call (As := [.long x0, .ref x1]) (rest := rest) (Nat.le_of_ble_eq_true rfl) rfl hr (fun h => by cases h) (Nat.le_of_ble_eq_true rfl)
set_option maxRecDepth 20000 in
theorem vX8_mix {x0 : Int64} {x1 : Int32} (hr : rest.length ≤ 4) : Wp xs L ((pc, .invokestatic i, v, 283, 2, 78) :: is) lv (.int x1 :: .long x0 :: rest) (173, m, r) Q = Wp xs L kX8_mix_0 [(0, .long x0), (2, .int x1)] [] (173, m, r) (fun z => Wp xs L is lv (z.1.toList ++ rest) z.2 Q) := Wp_call (As := [.long x0, .int x1]) (rest := rest) (Nat.le_of_ble_eq_true rfl) rfl hr (fun h => by cases h) (Nat.le_of_ble_eq_true rfl)
set_option maxRecDepth 20000 in
theorem vX8_isWithin {x0 : Int32} {x1 : Int32} {x2 : Int32} (hr : rest.length ≤ 4) : Wp xs L ((pc, .invokestatic i, v, 284, 3, 79) :: is) lv (.int x2 :: .int x1 :: .int x0 :: rest) (173, m, r) Q = Wp xs L kX8_isWithin_0 [(0, .int x0), (1, .int x1), (2, .int x2)] [] (173, m, r) (fun z => Wp xs L is lv (z.1.toList ++ rest) z.2 Q) := Wp_call (As := [.int x0, .int x1, .int x2]) (rest := rest) (Nat.le_of_ble_eq_true rfl) rfl hr (fun h => by cases h) (Nat.le_of_ble_eq_true rfl)
set_option maxRecDepth 20000 in
theorem vX8_isHour {x0 : Int32} (hr : rest.length ≤ 4) : Wp xs L ((pc, .invokestatic i, v, 287, 1, 80) :: is) lv (.int x0 :: rest) (173, m, r) Q = Wp xs L kX8_isHour_0 [(0, .int x0)] [] (173, m, r) (fun z => Wp xs L is lv (z.1.toList ++ rest) z.2 Q) := Wp_call (As := [.int x0]) (rest := rest) (Nat.le_of_ble_eq_true rfl) rfl hr (fun h => by cases h) (Nat.le_of_ble_eq_true rfl)
set_option maxRecDepth 20000 in
theorem vX8_isLoad {x0 : Int32} {x1 : Int32} (hr : rest.length ≤ 4) : Wp xs L ((pc, .invokestatic i, v, 288, 2, 81) :: is) lv (.int x1 :: .int x0 :: rest) (173, m, r) Q = Wp xs L kX8_isLoad_0 [(0, .int x0), (1, .int x1)] [] (173, m, r) (fun z => Wp xs L is lv (z.1.toList ++ rest) z.2 Q) := Wp_call (As := [.int x0, .int x1]) (rest := rest) (Nat.le_of_ble_eq_true rfl) rfl hr (fun h => by cases h) (Nat.le_of_ble_eq_true rfl)
set_option maxRecDepth 20000 in
theorem vX8_areBankSettings {x0 : Int32} {x1 : Int32} {x2 : Int32} (hr : rest.length ≤ 4) : Wp xs L ((pc, .invokestatic i, v, 291, 3, 82) :: is) lv (.int x2 :: .int x1 :: .int x0 :: rest) (173, m, r) Q = Wp xs L kX8_areBankSettings_0 [(0, .int x0), (1, .int x1), (2, .int x2)] [] (173, m, r) (fun z => Wp xs L is lv (z.1.toList ++ rest) z.2 Q) := Wp_call (As := [.int x0, .int x1, .int x2]) (rest := rest) (Nat.le_of_ble_eq_true rfl) rfl hr (fun h => by cases h) (Nat.le_of_ble_eq_true rfl)
set_option maxRecDepth 20000 in
theorem vX8_bit {x0 : Int32} (hr : rest.length ≤ 4) : Wp xs L ((pc, .invokestatic i, v, 300, 1, 83) :: is) lv (.int x0 :: rest) (173, m, r) Q = Wp xs L kX8_bit_0 [(0, .int x0)] [] (173, m, r) (fun z => Wp xs L is lv (z.1.toList ++ rest) z.2 Q) := Wp_call (As := [.int x0]) (rest := rest) (Nat.le_of_ble_eq_true rfl) rfl hr (fun h => by cases h) (Nat.le_of_ble_eq_true rfl)
set_option maxRecDepth 20000 in
theorem vX8_hasNode {q : Nat} {x0 : Int32} (hq : e_okc q 8 = true) (hr : rest.length ≤ 4) : Wp xs L ((pc, .invokevirtual i, v, 303, 2, 84) :: is) lv (.int x0 :: .ref q :: rest) (173, m, r) Q = Wp xs L kX8_hasNode_0 [(0, .ref q), (1, .int x0)] [] (173, m, r) (fun z => Wp xs L is lv (z.1.toList ++ rest) z.2 Q) := Wp_call (As := [.ref q, .int x0]) (rest := rest) (Nat.le_of_ble_eq_true rfl) rfl hr (fun _ => by show decide _ = true; have hq := of_decide_eq_true hq; exact decide_eq_true hq) (Nat.le_of_ble_eq_true rfl)
set_option maxRecDepth 20000 in
theorem vX8_regulatorFault {q : Nat} {x0 : Int32} (hq : e_okc q 8 = true) (hr : rest.length ≤ 4) : Wp xs L ((pc, .invokevirtual i, v, 304, 2, 85) :: is) lv (.int x0 :: .ref q :: rest) (173, m, r) Q = Wp xs L kX8_regulatorFault_0 [(0, .ref q), (1, .int x0)] [] (173, m, r) (fun z => Wp xs L is lv (z.1.toList ++ rest) z.2 Q) := Wp_call (As := [.ref q, .int x0]) (rest := rest) (Nat.le_of_ble_eq_true rfl) rfl hr (fun _ => by show decide _ = true; have hq := of_decide_eq_true hq; exact decide_eq_true hq) (Nat.le_of_ble_eq_true rfl)
set_option maxRecDepth 20000 in
theorem vX8_bankFault {q : Nat} {x0 : Int32} (hq : e_okc q 8 = true) (hr : rest.length ≤ 4) : Wp xs L ((pc, .invokevirtual i, v, 308, 2, 86) :: is) lv (.int x0 :: .ref q :: rest) (173, m, r) Q = Wp xs L kX8_bankFault_0 [(0, .ref q), (1, .int x0)] [] (173, m, r) (fun z => Wp xs L is lv (z.1.toList ++ rest) z.2 Q) := Wp_call (As := [.ref q, .int x0]) (rest := rest) (Nat.le_of_ble_eq_true rfl) rfl hr (fun _ => by show decide _ = true; have hq := of_decide_eq_true hq; exact decide_eq_true hq) (Nat.le_of_ble_eq_true rfl)
set_option maxRecDepth 20000 in
theorem vX8_isErrorCode {x0 : Int32} (hr : rest.length ≤ 4) : Wp xs L ((pc, .invokestatic i, v, 312, 1, 87) :: is) lv (.int x0 :: rest) (173, m, r) Q = Wp xs L kX8_isErrorCode_0 [(0, .int x0)] [] (173, m, r) (fun z => Wp xs L is lv (z.1.toList ++ rest) z.2 Q) := Wp_call (As := [.int x0]) (rest := rest) (Nat.le_of_ble_eq_true rfl) rfl hr (fun h => by cases h) (Nat.le_of_ble_eq_true rfl)
set_option maxRecDepth 20000 in
theorem vX8_refuse {q : Nat} {x0 : Int32} (hq : e_okc q 8 = true) (hr : rest.length ≤ 4) : Wp xs L ((pc, .invokevirtual i, v, 313, 2, 88) :: is) lv (.int x0 :: .ref q :: rest) (173, m, r) Q = Wp xs L kX8_refuse_0 [(0, .ref q), (1, .int x0)] [] (173, m, r) (fun z => Wp xs L is lv (z.1.toList ++ rest) z.2 Q) := Wp_call (As := [.ref q, .int x0]) (rest := rest) (Nat.le_of_ble_eq_true rfl) rfl hr (fun _ => by show decide _ = true; have hq := of_decide_eq_true hq; exact decide_eq_true hq) (Nat.le_of_ble_eq_true rfl)
set_option maxRecDepth 20000 in
theorem vX9_in {x0 : Int32} {x1 : Int32} {x2 : Int32} (hr : rest.length ≤ 4) : Wp xs L ((pc, .invokestatic i, v, 318, 3, 90) :: is) lv (.int x2 :: .int x1 :: .int x0 :: rest) (173, m, r) Q = Wp xs L kX9_in_0 [(0, .int x0), (1, .int x1), (2, .int x2)] [] (173, m, r) (fun z => Wp xs L is lv (z.1.toList ++ rest) z.2 Q) := Wp_call (As := [.int x0, .int x1, .int x2]) (rest := rest) (Nat.le_of_ble_eq_true rfl) rfl hr (fun h => by cases h) (Nat.le_of_ble_eq_true rfl)
set_option maxRecDepth 20000 in
theorem vX9_error {q : Nat} {x0 : Int32} (hq : e_okc q 9 = true) (hr : rest.length ≤ 4) : Wp xs L ((pc, .invokevirtual i, v, 321, 2, 91) :: is) lv (.int x0 :: .ref q :: rest) (173, m, r) Q = Wp xs L kX9_error_0 [(0, .ref q), (1, .int x0)] [] (173, m, r) (fun z => Wp xs L is lv (z.1.toList ++ rest) z.2 Q) := Wp_call (As := [.ref q, .int x0]) (rest := rest) (Nat.le_of_ble_eq_true rfl) rfl hr (fun _ => by show decide _ = true; have hq := of_decide_eq_true hq; exact decide_eq_true hq) (Nat.le_of_ble_eq_true rfl)
set_option maxRecDepth 20000 in
theorem vX9_isNode {q : Nat} {x0 : Int32} (hq : e_okc q 9 = true) (hr : rest.length ≤ 4) : Wp xs L ((pc, .invokevirtual i, v, 322, 2, 92) :: is) lv (.int x0 :: .ref q :: rest) (173, m, r) Q = Wp xs L kX9_isNode_0 [(0, .ref q), (1, .int x0)] [] (173, m, r) (fun z => Wp xs L is lv (z.1.toList ++ rest) z.2 Q) := Wp_call (As := [.ref q, .int x0]) (rest := rest) (Nat.le_of_ble_eq_true rfl) rfl hr (fun _ => by show decide _ = true; have hq := of_decide_eq_true hq; exact decide_eq_true hq) (Nat.le_of_ble_eq_true rfl)
set_option maxRecDepth 20000 in
theorem vX9_spot {x0 : Int32} {x1 : Int32} (hr : rest.length ≤ 4) : Wp xs L ((pc, .invokestatic i, v, 323, 2, 93) :: is) lv (.int x1 :: .int x0 :: rest) (173, m, r) Q = Wp xs L kX9_spot_0 [(0, .int x0), (1, .int x1)] [] (173, m, r) (fun z => Wp xs L is lv (z.1.toList ++ rest) z.2 Q) := Wp_call (As := [.int x0, .int x1]) (rest := rest) (Nat.le_of_ble_eq_true rfl) rfl hr (fun h => by cases h) (Nat.le_of_ble_eq_true rfl)
set_option maxRecDepth 20000 in
theorem vX9_of {q : Nat} {x0 : Int32} {x1 : Int32} (hq : e_okc q 9 = true) (hr : rest.length ≤ 4) : Wp xs L ((pc, .invokevirtual i, v, 324, 3, 94) :: is) lv (.int x1 :: .int x0 :: .ref q :: rest) (173, m, r) Q = Wp xs L kX9_of_0 [(0, .ref q), (1, .int x0), (2, .int x1)] [] (173, m, r) (fun z => Wp xs L is lv (z.1.toList ++ rest) z.2 Q) := Wp_call (As := [.ref q, .int x0, .int x1]) (rest := rest) (Nat.le_of_ble_eq_true rfl) rfl hr (fun _ => by show decide _ = true; have hq := of_decide_eq_true hq; exact decide_eq_true hq) (Nat.le_of_ble_eq_true rfl)
set_option maxRecDepth 20000 in
theorem vX9_put {q : Nat} {x0 : Int32} {x1 : Int32} {x2 : Int32} (hq : e_okc q 9 = true) (hr : rest.length ≤ 4) : Wp xs L ((pc, .invokevirtual i, v, 325, 4, 95) :: is) lv (.int x2 :: .int x1 :: .int x0 :: .ref q :: rest) (173, m, r) Q = Wp xs L kX9_put_0 [(0, .ref q), (1, .int x0), (2, .int x1), (3, .int x2)] [] (173, m, r) (fun z => Wp xs L is lv (z.1.toList ++ rest) z.2 Q) := Wp_call (As := [.ref q, .int x0, .int x1, .int x2]) (rest := rest) (Nat.le_of_ble_eq_true rfl) rfl hr (fun _ => by show decide _ = true; have hq := of_decide_eq_true hq; exact decide_eq_true hq) (Nat.le_of_ble_eq_true rfl)
set_option maxRecDepth 20000 in
theorem vX9_save {q : Nat} (hq : e_okc q 9 = true) (hr : rest.length ≤ 4) : Wp xs L ((pc, .invokevirtual i, v, 326, 1, 96) :: is) lv (.ref q :: rest) (173, m, r) Q = Wp xs L kX9_save_0 [(0, .ref q)] [] (173, m, r) (fun z => Wp xs L is lv (z.1.toList ++ rest) z.2 Q) := Wp_call (As := [.ref q]) (rest := rest) (Nat.le_of_ble_eq_true rfl) rfl hr (fun _ => by show decide _ = true; have hq := of_decide_eq_true hq; exact decide_eq_true hq) (Nat.le_of_ble_eq_true rfl)
set_option maxRecDepth 20000 in
theorem vX9_setSource {q : Nat} {x0 : Int32} (hq : e_okc q 9 = true) (hr : rest.length ≤ 4) : Wp xs L ((pc, .invokevirtual i, v, 332, 2, 97) :: is) lv (.int x0 :: .ref q :: rest) (173, m, r) Q = Wp xs L kX9_setSource_0 [(0, .ref q), (1, .int x0)] [] (173, m, r) (fun z => Wp xs L is lv (z.1.toList ++ rest) z.2 Q) := Wp_call (As := [.ref q, .int x0]) (rest := rest) (Nat.le_of_ble_eq_true rfl) rfl hr (fun _ => by show decide _ = true; have hq := of_decide_eq_true hq; exact decide_eq_true hq) (Nat.le_of_ble_eq_true rfl)
set_option maxRecDepth 20000 in
theorem vX9_isLoad {x0 : Int32} {x1 : Int32} (hr : rest.length ≤ 4) : Wp xs L ((pc, .invokestatic i, v, 334, 2, 98) :: is) lv (.int x1 :: .int x0 :: rest) (173, m, r) Q = Wp xs L kX9_isLoad_0 [(0, .int x0), (1, .int x1)] [] (173, m, r) (fun z => Wp xs L is lv (z.1.toList ++ rest) z.2 Q) := Wp_call (As := [.int x0, .int x1]) (rest := rest) (Nat.le_of_ble_eq_true rfl) rfl hr (fun h => by cases h) (Nat.le_of_ble_eq_true rfl)
set_option maxRecDepth 20000 in
theorem vX9_addNode {q : Nat} {x0 : Int32} {x1 : Int32} {x2 : Int32} {x3 : Int32} (hq : e_okc q 9 = true) (hr : rest.length ≤ 4) : Wp xs L ((pc, .invokevirtual i, v, 337, 5, 99) :: is) lv (.int x3 :: .int x2 :: .int x1 :: .int x0 :: .ref q :: rest) (173, m, r) Q = Wp xs L kX9_addNode_0 [(0, .ref q), (1, .int x0), (2, .int x1), (3, .int x2), (4, .int x3)] [] (173, m, r) (fun z => Wp xs L is lv (z.1.toList ++ rest) z.2 Q) := Wp_call (As := [.ref q, .int x0, .int x1, .int x2, .int x3]) (rest := rest) (Nat.le_of_ble_eq_true rfl) rfl hr (fun _ => by show decide _ = true; have hq := of_decide_eq_true hq; exact decide_eq_true hq) (Nat.le_of_ble_eq_true rfl)
set_option maxRecDepth 20000 in
theorem vX9_setLoad {q : Nat} {x0 : Int32} {x1 : Int32} {x2 : Int32} (hq : e_okc q 9 = true) (hr : rest.length ≤ 4) : Wp xs L ((pc, .invokevirtual i, v, 343, 4, 100) :: is) lv (.int x2 :: .int x1 :: .int x0 :: .ref q :: rest) (173, m, r) Q = Wp xs L kX9_setLoad_0 [(0, .ref q), (1, .int x0), (2, .int x1), (3, .int x2)] [] (173, m, r) (fun z => Wp xs L is lv (z.1.toList ++ rest) z.2 Q) := Wp_call (As := [.ref q, .int x0, .int x1, .int x2]) (rest := rest) (Nat.le_of_ble_eq_true rfl) rfl hr (fun _ => by show decide _ = true; have hq := of_decide_eq_true hq; exact decide_eq_true hq) (Nat.le_of_ble_eq_true rfl)
set_option maxRecDepth 20000 in
theorem vX9_setFactor {q : Nat} {x0 : Int32} {x1 : Int32} (hq : e_okc q 9 = true) (hr : rest.length ≤ 4) : Wp xs L ((pc, .invokevirtual i, v, 346, 3, 101) :: is) lv (.int x1 :: .int x0 :: .ref q :: rest) (173, m, r) Q = Wp xs L kX9_setFactor_0 [(0, .ref q), (1, .int x0), (2, .int x1)] [] (173, m, r) (fun z => Wp xs L is lv (z.1.toList ++ rest) z.2 Q) := Wp_call (As := [.ref q, .int x0, .int x1]) (rest := rest) (Nat.le_of_ble_eq_true rfl) rfl hr (fun _ => by show decide _ = true; have hq := of_decide_eq_true hq; exact decide_eq_true hq) (Nat.le_of_ble_eq_true rfl)
set_option maxRecDepth 20000 in
theorem vX9_append {q : Nat} {x0 : Int32} (hq : e_okc q 9 = true) (hr : rest.length ≤ 4) : Wp xs L ((pc, .invokevirtual i, v, 349, 2, 102) :: is) lv (.int x0 :: .ref q :: rest) (173, m, r) Q = Wp xs L kX9_append_0 [(0, .ref q), (1, .int x0)] [] (173, m, r) (fun z => Wp xs L is lv (z.1.toList ++ rest) z.2 Q) := Wp_call (As := [.ref q, .int x0]) (rest := rest) (Nat.le_of_ble_eq_true rfl) rfl hr (fun _ => by show decide _ = true; have hq := of_decide_eq_true hq; exact decide_eq_true hq) (Nat.le_of_ble_eq_true rfl)
set_option maxRecDepth 20000 in
theorem vX9_clearText {q : Nat} (hq : e_okc q 9 = true) (hr : rest.length ≤ 4) : Wp xs L ((pc, .invokevirtual i, v, 352, 1, 103) :: is) lv (.ref q :: rest) (173, m, r) Q = Wp xs L kX9_clearText_0 [(0, .ref q)] [] (173, m, r) (fun z => Wp xs L is lv (z.1.toList ++ rest) z.2 Q) := Wp_call (As := [.ref q]) (rest := rest) (Nat.le_of_ble_eq_true rfl) rfl hr (fun _ => by show decide _ = true; have hq := of_decide_eq_true hq; exact decide_eq_true hq) (Nat.le_of_ble_eq_true rfl)
set_option maxRecDepth 20000 in
theorem vX9_next {q : Nat} (hq : e_okc q 9 = true) (hr : rest.length ≤ 4) : Wp xs L ((pc, .invokevirtual i, v, 353, 1, 104) :: is) lv (.ref q :: rest) (173, m, r) Q = Wp xs L kX9_next_0 [(0, .ref q)] [] (173, m, r) (fun z => Wp xs L is lv (z.1.toList ++ rest) z.2 Q) := Wp_call (As := [.ref q]) (rest := rest) (Nat.le_of_ble_eq_true rfl) rfl hr (fun _ => by show decide _ = true; have hq := of_decide_eq_true hq; exact decide_eq_true hq) (Nat.le_of_ble_eq_true rfl)
set_option maxRecDepth 20000 in
theorem vX9_takes {q : Nat} {x0 : Int32} (hq : e_okc q 9 = true) (hr : rest.length ≤ 4) : Wp xs L ((pc, .invokevirtual i, v, 357, 2, 105) :: is) lv (.int x0 :: .ref q :: rest) (173, m, r) Q = Wp xs L kX9_takes_0 [(0, .ref q), (1, .int x0)] [] (173, m, r) (fun z => Wp xs L is lv (z.1.toList ++ rest) z.2 Q) := Wp_call (As := [.ref q, .int x0]) (rest := rest) (Nat.le_of_ble_eq_true rfl) rfl hr (fun _ => by show decide _ = true; have hq := of_decide_eq_true hq; exact decide_eq_true hq) (Nat.le_of_ble_eq_true rfl)
set_option maxRecDepth 20000 in
theorem vX9_number {q : Nat} {x0 : Int32} {x1 : Int32} (hq : e_okc q 9 = true) (hr : rest.length ≤ 4) : Wp xs L ((pc, .invokevirtual i, v, 362, 3, 106) :: is) lv (.int x1 :: .int x0 :: .ref q :: rest) (173, m, r) Q = Wp xs L kX9_number_0 [(0, .ref q), (1, .int x0), (2, .int x1)] [] (173, m, r) (fun z => Wp xs L is lv (z.1.toList ++ rest) z.2 Q) := Wp_call (As := [.ref q, .int x0, .int x1]) (rest := rest) (Nat.le_of_ble_eq_true rfl) rfl hr (fun _ => by show decide _ = true; have hq := of_decide_eq_true hq; exact decide_eq_true hq) (Nat.le_of_ble_eq_true rfl)
set_option maxRecDepth 20000 in
theorem vX9_readsItem {q : Nat} (hq : e_okc q 9 = true) (hr : rest.length ≤ 4) : Wp xs L ((pc, .invokevirtual i, v, 370, 1, 107) :: is) lv (.ref q :: rest) (173, m, r) Q = Wp xs L kX9_readsItem_0 [(0, .ref q)] [] (173, m, r) (fun z => Wp xs L is lv (z.1.toList ++ rest) z.2 Q) := Wp_call (As := [.ref q]) (rest := rest) (Nat.le_of_ble_eq_true rfl) rfl hr (fun _ => by show decide _ = true; have hq := of_decide_eq_true hq; exact decide_eq_true hq) (Nat.le_of_ble_eq_true rfl)
set_option maxRecDepth 20000 in
theorem vX9_parseProfile {q : Nat} (hq : e_okc q 9 = true) (hr : rest.length ≤ 4) : Wp xs L ((pc, .invokevirtual i, v, 378, 1, 108) :: is) lv (.ref q :: rest) (173, m, r) Q = Wp xs L kX9_parseProfile_0 [(0, .ref q)] [] (173, m, r) (fun z => Wp xs L is lv (z.1.toList ++ rest) z.2 Q) := Wp_call (As := [.ref q]) (rest := rest) (Nat.le_of_ble_eq_true rfl) rfl hr (fun _ => by show decide _ = true; have hq := of_decide_eq_true hq; exact decide_eq_true hq) (Nat.le_of_ble_eq_true rfl)
set_option maxRecDepth 20000 in
theorem vX9_addRegulator {q : Nat} {x0 : Int32} {x1 : Int32} {x2 : Int32} {x3 : Int32} {x4 : Int32} (hq : e_okc q 9 = true) (hr : rest.length ≤ 4) : Wp xs L ((pc, .invokevirtual i, v, 386, 6, 109) :: is) lv (.int x4 :: .int x3 :: .int x2 :: .int x1 :: .int x0 :: .ref q :: rest) (173, m, r) Q = Wp xs L kX9_addRegulator_0 [(0, .ref q), (1, .int x0), (2, .int x1), (3, .int x2), (4, .int x3), (5, .int x4)] [] (173, m, r) (fun z => Wp xs L is lv (z.1.toList ++ rest) z.2 Q) := Wp_call (As := [.ref q, .int x0, .int x1, .int x2, .int x3, .int x4]) (rest := rest) (Nat.le_of_ble_eq_true rfl) rfl hr (fun _ => by show decide _ = true; have hq := of_decide_eq_true hq; exact decide_eq_true hq) (Nat.le_of_ble_eq_true rfl)
set_option maxRecDepth 20000 in
theorem vX9_lacks {q : Nat} {x0 : Int32} {x1 : Int32} (hq : e_okc q 9 = true) (hr : rest.length ≤ 4) : Wp xs L ((pc, .invokevirtual i, v, 390, 3, 110) :: is) lv (.int x1 :: .int x0 :: .ref q :: rest) (173, m, r) Q = Wp xs L kX9_lacks_0 [(0, .ref q), (1, .int x0), (2, .int x1)] [] (173, m, r) (fun z => Wp xs L is lv (z.1.toList ++ rest) z.2 Q) := Wp_call (As := [.ref q, .int x0, .int x1]) (rest := rest) (Nat.le_of_ble_eq_true rfl) rfl hr (fun _ => by show decide _ = true; have hq := of_decide_eq_true hq; exact decide_eq_true hq) (Nat.le_of_ble_eq_true rfl)
set_option maxRecDepth 20000 in
theorem vX9_setTap {q : Nat} {x0 : Int32} {x1 : Int32} (hq : e_okc q 9 = true) (hr : rest.length ≤ 4) : Wp xs L ((pc, .invokevirtual i, v, 394, 3, 111) :: is) lv (.int x1 :: .int x0 :: .ref q :: rest) (173, m, r) Q = Wp xs L kX9_setTap_0 [(0, .ref q), (1, .int x0), (2, .int x1)] [] (173, m, r) (fun z => Wp xs L is lv (z.1.toList ++ rest) z.2 Q) := Wp_call (As := [.ref q, .int x0, .int x1]) (rest := rest) (Nat.le_of_ble_eq_true rfl) rfl hr (fun _ => by show decide _ = true; have hq := of_decide_eq_true hq; exact decide_eq_true hq) (Nat.le_of_ble_eq_true rfl)
set_option maxRecDepth 20000 in
theorem vX9_addBank {q : Nat} {x0 : Int32} {x1 : Int32} {x2 : Int32} {x3 : Int32} {x4 : Int32} {x5 : Int32} (hq : e_okc q 9 = true) (hr : rest.length ≤ 4) : Wp xs L ((pc, .invokevirtual i, v, 398, 7, 112) :: is) lv (.int x5 :: .int x4 :: .int x3 :: .int x2 :: .int x1 :: .int x0 :: .ref q :: rest) (173, m, r) Q = Wp xs L kX9_addBank_0 [(0, .ref q), (1, .int x0), (2, .int x1), (3, .int x2), (4, .int x3), (5, .int x4), (6, .int x5)] [] (173, m, r) (fun z => Wp xs L is lv (z.1.toList ++ rest) z.2 Q) := Wp_call (As := [.ref q, .int x0, .int x1, .int x2, .int x3, .int x4, .int x5]) (rest := rest) (Nat.le_of_ble_eq_true rfl) rfl hr (fun _ => by show decide _ = true; have hq := of_decide_eq_true hq; exact decide_eq_true hq) (Nat.le_of_ble_eq_true rfl)
set_option maxRecDepth 20000 in
theorem vX9_switchBank {q : Nat} {x0 : Int32} {x1 : Int32} (hq : e_okc q 9 = true) (hr : rest.length ≤ 4) : Wp xs L ((pc, .invokevirtual i, v, 408, 3, 113) :: is) lv (.int x1 :: .int x0 :: .ref q :: rest) (173, m, r) Q = Wp xs L kX9_switchBank_0 [(0, .ref q), (1, .int x0), (2, .int x1)] [] (173, m, r) (fun z => Wp xs L is lv (z.1.toList ++ rest) z.2 Q) := Wp_call (As := [.ref q, .int x0, .int x1]) (rest := rest) (Nat.le_of_ble_eq_true rfl) rfl hr (fun _ => by show decide _ = true; have hq := of_decide_eq_true hq; exact decide_eq_true hq) (Nat.le_of_ble_eq_true rfl)
set_option maxRecDepth 20000 in
theorem vX9_hour {q : Nat} (hq : e_okc q 9 = true) (hr : rest.length ≤ 4) : Wp xs L ((pc, .invokevirtual i, v, 412, 1, 114) :: is) lv (.ref q :: rest) (173, m, r) Q = Wp xs L kX9_hour_0 [(0, .ref q)] [] (173, m, r) (fun z => Wp xs L is lv (z.1.toList ++ rest) z.2 Q) := Wp_call (As := [.ref q]) (rest := rest) (Nat.le_of_ble_eq_true rfl) rfl hr (fun _ => by show decide _ = true; have hq := of_decide_eq_true hq; exact decide_eq_true hq) (Nat.le_of_ble_eq_true rfl)
set_option maxRecDepth 20000 in
theorem vX9_isTime {q : Nat} {x0 : Int32} {x1 : Int32} (hq : e_okc q 9 = true) (hr : rest.length ≤ 4) : Wp xs L ((pc, .invokevirtual i, v, 413, 3, 115) :: is) lv (.int x1 :: .int x0 :: .ref q :: rest) (173, m, r) Q = Wp xs L kX9_isTime_0 [(0, .ref q), (1, .int x0), (2, .int x1)] [] (173, m, r) (fun z => Wp xs L is lv (z.1.toList ++ rest) z.2 Q) := Wp_call (As := [.ref q, .int x0, .int x1]) (rest := rest) (Nat.le_of_ble_eq_true rfl) rfl hr (fun _ => by show decide _ = true; have hq := of_decide_eq_true hq; exact decide_eq_true hq) (Nat.le_of_ble_eq_true rfl)
set_option maxRecDepth 20000 in
theorem vX9_compute {q : Nat} {x0 : Int32} {x1 : Int32} {x2 : Int32} {x3 : Int32} (hq : e_okc q 9 = true) (hr : rest.length ≤ 4) : Wp xs L ((pc, .invokevirtual i, v, 419, 5, 116) :: is) lv (.int x3 :: .int x2 :: .int x1 :: .int x0 :: .ref q :: rest) (173, m, r) Q = Wp xs L kX9_compute_0 [(0, .ref q), (1, .int x0), (2, .int x1), (3, .int x2), (4, .int x3)] [] (173, m, r) (fun z => Wp xs L is lv (z.1.toList ++ rest) z.2 Q) := Wp_call (As := [.ref q, .int x0, .int x1, .int x2, .int x3]) (rest := rest) (Nat.le_of_ble_eq_true rfl) rfl hr (fun _ => by show decide _ = true; have hq := of_decide_eq_true hq; exact decide_eq_true hq) (Nat.le_of_ble_eq_true rfl)
set_option maxRecDepth 20000 in
theorem vX9_outside {q : Nat} (hq : e_okc q 9 = true) (hr : rest.length ≤ 4) : Wp xs L ((pc, .invokevirtual i, v, 435, 1, 117) :: is) lv (.ref q :: rest) (173, m, r) Q = Wp xs L kX9_outside_0 [(0, .ref q)] [] (173, m, r) (fun z => Wp xs L is lv (z.1.toList ++ rest) z.2 Q) := Wp_call (As := [.ref q]) (rest := rest) (Nat.le_of_ble_eq_true rfl) rfl hr (fun _ => by show decide _ = true; have hq := of_decide_eq_true hq; exact decide_eq_true hq) (Nat.le_of_ble_eq_true rfl)
set_option maxRecDepth 20000 in
theorem vX9_computeNow {q : Nat} (hq : e_okc q 9 = true) (hr : rest.length ≤ 4) : Wp xs L ((pc, .invokevirtual i, v, 440, 1, 118) :: is) lv (.ref q :: rest) (173, m, r) Q = Wp xs L kX9_computeNow_0 [(0, .ref q)] [] (173, m, r) (fun z => Wp xs L is lv (z.1.toList ++ rest) z.2 Q) := Wp_call (As := [.ref q]) (rest := rest) (Nat.le_of_ble_eq_true rfl) rfl hr (fun _ => by show decide _ = true; have hq := of_decide_eq_true hq; exact decide_eq_true hq) (Nat.le_of_ble_eq_true rfl)
set_option maxRecDepth 20000 in
theorem vX9_unlocks {q : Nat} (hq : e_okc q 9 = true) (hr : rest.length ≤ 4) : Wp xs L ((pc, .invokevirtual i, v, 441, 1, 119) :: is) lv (.ref q :: rest) (173, m, r) Q = Wp xs L kX9_unlocks_0 [(0, .ref q)] [] (173, m, r) (fun z => Wp xs L is lv (z.1.toList ++ rest) z.2 Q) := Wp_call (As := [.ref q]) (rest := rest) (Nat.le_of_ble_eq_true rfl) rfl hr (fun _ => by show decide _ = true; have hq := of_decide_eq_true hq; exact decide_eq_true hq) (Nat.le_of_ble_eq_true rfl)
set_option maxRecDepth 20000 in
theorem vX9_switches {q : Nat} (hq : e_okc q 9 = true) (hr : rest.length ≤ 4) : Wp xs L ((pc, .invokevirtual i, v, 444, 1, 120) :: is) lv (.ref q :: rest) (173, m, r) Q = Wp xs L kX9_switches_0 [(0, .ref q)] [] (173, m, r) (fun z => Wp xs L is lv (z.1.toList ++ rest) z.2 Q) := Wp_call (As := [.ref q]) (rest := rest) (Nat.le_of_ble_eq_true rfl) rfl hr (fun _ => by show decide _ = true; have hq := of_decide_eq_true hq; exact decide_eq_true hq) (Nat.le_of_ble_eq_true rfl)
set_option maxRecDepth 20000 in
theorem vX9_wants {q : Nat} {x0 : Int32} (hq : e_okc q 9 = true) (hr : rest.length ≤ 4) : Wp xs L ((pc, .invokevirtual i, v, 454, 2, 121) :: is) lv (.int x0 :: .ref q :: rest) (173, m, r) Q = Wp xs L kX9_wants_0 [(0, .ref q), (1, .int x0)] [] (173, m, r) (fun z => Wp xs L is lv (z.1.toList ++ rest) z.2 Q) := Wp_call (As := [.ref q, .int x0]) (rest := rest) (Nat.le_of_ble_eq_true rfl) rfl hr (fun _ => by show decide _ = true; have hq := of_decide_eq_true hq; exact decide_eq_true hq) (Nat.le_of_ble_eq_true rfl)
set_option maxRecDepth 20000 in
theorem vX9_goes {q : Nat} {x0 : Int32} {x1 : Int32} (hq : e_okc q 9 = true) (hr : rest.length ≤ 4) : Wp xs L ((pc, .invokevirtual i, v, 465, 3, 122) :: is) lv (.int x1 :: .int x0 :: .ref q :: rest) (173, m, r) Q = Wp xs L kX9_goes_0 [(0, .ref q), (1, .int x0), (2, .int x1)] [] (173, m, r) (fun z => Wp xs L is lv (z.1.toList ++ rest) z.2 Q) := Wp_call (As := [.ref q, .int x0, .int x1]) (rest := rest) (Nat.le_of_ble_eq_true rfl) rfl hr (fun _ => by show decide _ = true; have hq := of_decide_eq_true hq; exact decide_eq_true hq) (Nat.le_of_ble_eq_true rfl)
set_option maxRecDepth 20000 in
theorem vX9_regulates {q : Nat} {x0 : Int32} (hq : e_okc q 9 = true) (hr : rest.length ≤ 4) : Wp xs L ((pc, .invokevirtual i, v, 469, 2, 123) :: is) lv (.int x0 :: .ref q :: rest) (173, m, r) Q = Wp xs L kX9_regulates_0 [(0, .ref q), (1, .int x0)] [] (173, m, r) (fun z => Wp xs L is lv (z.1.toList ++ rest) z.2 Q) := Wp_call (As := [.ref q, .int x0]) (rest := rest) (Nat.le_of_ble_eq_true rfl) rfl hr (fun _ => by show decide _ = true; have hq := of_decide_eq_true hq; exact decide_eq_true hq) (Nat.le_of_ble_eq_true rfl)
set_option maxRecDepth 20000 in
theorem vX9_passes {q : Nat} (hq : e_okc q 9 = true) (hr : rest.length ≤ 4) : Wp xs L ((pc, .invokevirtual i, v, 476, 1, 124) :: is) lv (.ref q :: rest) (173, m, r) Q = Wp xs L kX9_passes_0 [(0, .ref q)] [] (173, m, r) (fun z => Wp xs L is lv (z.1.toList ++ rest) z.2 Q) := Wp_call (As := [.ref q]) (rest := rest) (Nat.le_of_ble_eq_true rfl) rfl hr (fun _ => by show decide _ = true; have hq := of_decide_eq_true hq; exact decide_eq_true hq) (Nat.le_of_ble_eq_true rfl)
set_option maxRecDepth 20000 in
theorem vX9_run {q : Nat} {x0 : Int32} (hq : e_okc q 9 = true) (hr : rest.length ≤ 4) : Wp xs L ((pc, .invokevirtual i, v, 488, 2, 125) :: is) lv (.int x0 :: .ref q :: rest) (173, m, r) Q = Wp xs L kX9_run_0 [(0, .ref q), (1, .int x0)] [] (173, m, r) (fun z => Wp xs L is lv (z.1.toList ++ rest) z.2 Q) := Wp_call (As := [.ref q, .int x0]) (rest := rest) (Nat.le_of_ble_eq_true rfl) rfl hr (fun _ => by show decide _ = true; have hq := of_decide_eq_true hq; exact decide_eq_true hq) (Nat.le_of_ble_eq_true rfl)
set_option maxRecDepth 20000 in
theorem vX9_minute {q : Nat} (hq : e_okc q 9 = true) (hr : rest.length ≤ 4) : Wp xs L ((pc, .invokevirtual i, v, 492, 1, 126) :: is) lv (.ref q :: rest) (173, m, r) Q = Wp xs L kX9_minute_0 [(0, .ref q)] [] (173, m, r) (fun z => Wp xs L is lv (z.1.toList ++ rest) z.2 Q) := Wp_call (As := [.ref q]) (rest := rest) (Nat.le_of_ble_eq_true rfl) rfl hr (fun _ => by show decide _ = true; have hq := of_decide_eq_true hq; exact decide_eq_true hq) (Nat.le_of_ble_eq_true rfl)
set_option maxRecDepth 20000 in
theorem vX9_voltage {q : Nat} {x0 : Int32} (hq : e_okc q 9 = true) (hr : rest.length ≤ 4) : Wp xs L ((pc, .invokevirtual i, v, 493, 2, 127) :: is) lv (.int x0 :: .ref q :: rest) (173, m, r) Q = Wp xs L kX9_voltage_0 [(0, .ref q), (1, .int x0)] [] (173, m, r) (fun z => Wp xs L is lv (z.1.toList ++ rest) z.2 Q) := Wp_call (As := [.ref q, .int x0]) (rest := rest) (Nat.le_of_ble_eq_true rfl) rfl hr (fun _ => by show decide _ = true; have hq := of_decide_eq_true hq; exact decide_eq_true hq) (Nat.le_of_ble_eq_true rfl)
set_option maxRecDepth 20000 in
theorem vX9_activeFlow {q : Nat} {x0 : Int32} (hq : e_okc q 9 = true) (hr : rest.length ≤ 4) : Wp xs L ((pc, .invokevirtual i, v, 495, 2, 128) :: is) lv (.int x0 :: .ref q :: rest) (173, m, r) Q = Wp xs L kX9_activeFlow_0 [(0, .ref q), (1, .int x0)] [] (173, m, r) (fun z => Wp xs L is lv (z.1.toList ++ rest) z.2 Q) := Wp_call (As := [.ref q, .int x0]) (rest := rest) (Nat.le_of_ble_eq_true rfl) rfl hr (fun _ => by show decide _ = true; have hq := of_decide_eq_true hq; exact decide_eq_true hq) (Nat.le_of_ble_eq_true rfl)
set_option maxRecDepth 20000 in
theorem vX9_reactiveFlow {q : Nat} {x0 : Int32} (hq : e_okc q 9 = true) (hr : rest.length ≤ 4) : Wp xs L ((pc, .invokevirtual i, v, 497, 2, 129) :: is) lv (.int x0 :: .ref q :: rest) (173, m, r) Q = Wp xs L kX9_reactiveFlow_0 [(0, .ref q), (1, .int x0)] [] (173, m, r) (fun z => Wp xs L is lv (z.1.toList ++ rest) z.2 Q) := Wp_call (As := [.ref q, .int x0]) (rest := rest) (Nat.le_of_ble_eq_true rfl) rfl hr (fun _ => by show decide _ = true; have hq := of_decide_eq_true hq; exact decide_eq_true hq) (Nat.le_of_ble_eq_true rfl)
set_option maxRecDepth 20000 in
theorem vX9_told {q : Nat} {x0 : Int32} {x1 : Int32} {x2 : Int32} {x3 : Int32} (hq : e_okc q 9 = true) (hr : rest.length ≤ 4) : Wp xs L ((pc, .invokevirtual i, v, 499, 5, 130) :: is) lv (.int x3 :: .int x2 :: .int x1 :: .int x0 :: .ref q :: rest) (173, m, r) Q = Wp xs L kX9_told_0 [(0, .ref q), (1, .int x0), (2, .int x1), (3, .int x2), (4, .int x3)] [] (173, m, r) (fun z => Wp xs L is lv (z.1.toList ++ rest) z.2 Q) := Wp_call (As := [.ref q, .int x0, .int x1, .int x2, .int x3]) (rest := rest) (Nat.le_of_ble_eq_true rfl) rfl hr (fun _ => by show decide _ = true; have hq := of_decide_eq_true hq; exact decide_eq_true hq) (Nat.le_of_ble_eq_true rfl)
set_option maxRecDepth 20000 in
theorem vX9_tap {q : Nat} {x0 : Int32} (hq : e_okc q 9 = true) (hr : rest.length ≤ 4) : Wp xs L ((pc, .invokevirtual i, v, 502, 2, 131) :: is) lv (.int x0 :: .ref q :: rest) (173, m, r) Q = Wp xs L kX9_tap_0 [(0, .ref q), (1, .int x0)] [] (173, m, r) (fun z => Wp xs L is lv (z.1.toList ++ rest) z.2 Q) := Wp_call (As := [.ref q, .int x0]) (rest := rest) (Nat.le_of_ble_eq_true rfl) rfl hr (fun _ => by show decide _ = true; have hq := of_decide_eq_true hq; exact decide_eq_true hq) (Nat.le_of_ble_eq_true rfl)
set_option maxRecDepth 20000 in
theorem vX9_timer {q : Nat} {x0 : Int32} (hq : e_okc q 9 = true) (hr : rest.length ≤ 4) : Wp xs L ((pc, .invokevirtual i, v, 503, 2, 132) :: is) lv (.int x0 :: .ref q :: rest) (173, m, r) Q = Wp xs L kX9_timer_0 [(0, .ref q), (1, .int x0)] [] (173, m, r) (fun z => Wp xs L is lv (z.1.toList ++ rest) z.2 Q) := Wp_call (As := [.ref q, .int x0]) (rest := rest) (Nat.le_of_ble_eq_true rfl) rfl hr (fun _ => by show decide _ = true; have hq := of_decide_eq_true hq; exact decide_eq_true hq) (Nat.le_of_ble_eq_true rfl)
set_option maxRecDepth 20000 in
theorem vX9_isLocked {q : Nat} {x0 : Int32} (hq : e_okc q 9 = true) (hr : rest.length ≤ 4) : Wp xs L ((pc, .invokevirtual i, v, 504, 2, 133) :: is) lv (.int x0 :: .ref q :: rest) (173, m, r) Q = Wp xs L kX9_isLocked_0 [(0, .ref q), (1, .int x0)] [] (173, m, r) (fun z => Wp xs L is lv (z.1.toList ++ rest) z.2 Q) := Wp_call (As := [.ref q, .int x0]) (rest := rest) (Nat.le_of_ble_eq_true rfl) rfl hr (fun _ => by show decide _ = true; have hq := of_decide_eq_true hq; exact decide_eq_true hq) (Nat.le_of_ble_eq_true rfl)
set_option maxRecDepth 20000 in
theorem vX9_steps {q : Nat} {x0 : Int32} (hq : e_okc q 9 = true) (hr : rest.length ≤ 4) : Wp xs L ((pc, .invokevirtual i, v, 505, 2, 134) :: is) lv (.int x0 :: .ref q :: rest) (173, m, r) Q = Wp xs L kX9_steps_0 [(0, .ref q), (1, .int x0)] [] (173, m, r) (fun z => Wp xs L is lv (z.1.toList ++ rest) z.2 Q) := Wp_call (As := [.ref q, .int x0]) (rest := rest) (Nat.le_of_ble_eq_true rfl) rfl hr (fun _ => by show decide _ = true; have hq := of_decide_eq_true hq; exact decide_eq_true hq) (Nat.le_of_ble_eq_true rfl)
set_option maxRecDepth 20000 in
theorem vX9_isOn {q : Nat} {x0 : Int32} (hq : e_okc q 9 = true) (hr : rest.length ≤ 4) : Wp xs L ((pc, .invokevirtual i, v, 506, 2, 135) :: is) lv (.int x0 :: .ref q :: rest) (173, m, r) Q = Wp xs L kX9_isOn_0 [(0, .ref q), (1, .int x0)] [] (173, m, r) (fun z => Wp xs L is lv (z.1.toList ++ rest) z.2 Q) := Wp_call (As := [.ref q, .int x0]) (rest := rest) (Nat.le_of_ble_eq_true rfl) rfl hr (fun _ => by show decide _ = true; have hq := of_decide_eq_true hq; exact decide_eq_true hq) (Nat.le_of_ble_eq_true rfl)
set_option maxRecDepth 20000 in
theorem vX9_violations {q : Nat} (hq : e_okc q 9 = true) (hr : rest.length ≤ 4) : Wp xs L ((pc, .invokevirtual i, v, 507, 1, 136) :: is) lv (.ref q :: rest) (173, m, r) Q = Wp xs L kX9_violations_0 [(0, .ref q)] [] (173, m, r) (fun z => Wp xs L is lv (z.1.toList ++ rest) z.2 Q) := Wp_call (As := [.ref q]) (rest := rest) (Nat.le_of_ble_eq_true rfl) rfl hr (fun _ => by show decide _ = true; have hq := of_decide_eq_true hq; exact decide_eq_true hq) (Nat.le_of_ble_eq_true rfl)
set_option maxRecDepth 20000 in
theorem vX9_apart {x0 : Int32} {x1 : Int32} (hr : rest.length ≤ 4) : Wp xs L ((pc, .invokestatic i, v, 508, 2, 137) :: is) lv (.int x1 :: .int x0 :: rest) (173, m, r) Q = Wp xs L kX9_apart_0 [(0, .int x0), (1, .int x1)] [] (173, m, r) (fun z => Wp xs L is lv (z.1.toList ++ rest) z.2 Q) := Wp_call (As := [.int x0, .int x1]) (rest := rest) (Nat.le_of_ble_eq_true rfl) rfl hr (fun h => by cases h) (Nat.le_of_ble_eq_true rfl)
set_option maxRecDepth 20000 in
theorem vX9_best {q : Nat} {x0 : Int32} {x1 : Int32} (hq : e_okc q 9 = true) (hr : rest.length ≤ 4) : Wp xs L ((pc, .invokevirtual i, v, 511, 3, 138) :: is) lv (.int x1 :: .int x0 :: .ref q :: rest) (173, m, r) Q = Wp xs L kX9_best_0 [(0, .ref q), (1, .int x0), (2, .int x1)] [] (173, m, r) (fun z => Wp xs L is lv (z.1.toList ++ rest) z.2 Q) := Wp_call (As := [.ref q, .int x0, .int x1]) (rest := rest) (Nat.le_of_ble_eq_true rfl) rfl hr (fun _ => by show decide _ = true; have hq := of_decide_eq_true hq; exact decide_eq_true hq) (Nat.le_of_ble_eq_true rfl)
set_option maxRecDepth 20000 in
theorem vX9_plans {q : Nat} {x0 : Int32} (hq : e_okc q 9 = true) (hr : rest.length ≤ 4) : Wp xs L ((pc, .invokevirtual i, v, 515, 2, 139) :: is) lv (.int x0 :: .ref q :: rest) (173, m, r) Q = Wp xs L kX9_plans_0 [(0, .ref q), (1, .int x0)] [] (173, m, r) (fun z => Wp xs L is lv (z.1.toList ++ rest) z.2 Q) := Wp_call (As := [.ref q, .int x0]) (rest := rest) (Nat.le_of_ble_eq_true rfl) rfl hr (fun _ => by show decide _ = true; have hq := of_decide_eq_true hq; exact decide_eq_true hq) (Nat.le_of_ble_eq_true rfl)
set_option maxRecDepth 20000 in
theorem vX9_lacksPlan {q : Nat} {x0 : Int32} (hq : e_okc q 9 = true) (hr : rest.length ≤ 4) : Wp xs L ((pc, .invokevirtual i, v, 532, 2, 140) :: is) lv (.int x0 :: .ref q :: rest) (173, m, r) Q = Wp xs L kX9_lacksPlan_0 [(0, .ref q), (1, .int x0)] [] (173, m, r) (fun z => Wp xs L is lv (z.1.toList ++ rest) z.2 Q) := Wp_call (As := [.ref q, .int x0]) (rest := rest) (Nat.le_of_ble_eq_true rfl) rfl hr (fun _ => by show decide _ = true; have hq := of_decide_eq_true hq; exact decide_eq_true hq) (Nat.le_of_ble_eq_true rfl)
set_option maxRecDepth 20000 in
theorem vX9_planSteps {q : Nat} {x0 : Int32} (hq : e_okc q 9 = true) (hr : rest.length ≤ 4) : Wp xs L ((pc, .invokevirtual i, v, 536, 2, 141) :: is) lv (.int x0 :: .ref q :: rest) (173, m, r) Q = Wp xs L kX9_planSteps_0 [(0, .ref q), (1, .int x0)] [] (173, m, r) (fun z => Wp xs L is lv (z.1.toList ++ rest) z.2 Q) := Wp_call (As := [.ref q, .int x0]) (rest := rest) (Nat.le_of_ble_eq_true rfl) rfl hr (fun _ => by show decide _ = true; have hq := of_decide_eq_true hq; exact decide_eq_true hq) (Nat.le_of_ble_eq_true rfl)
set_option maxRecDepth 20000 in
theorem vX9_planTap {q : Nat} {x0 : Int32} {x1 : Int32} (hq : e_okc q 9 = true) (hr : rest.length ≤ 4) : Wp xs L ((pc, .invokevirtual i, v, 538, 3, 142) :: is) lv (.int x1 :: .int x0 :: .ref q :: rest) (173, m, r) Q = Wp xs L kX9_planTap_0 [(0, .ref q), (1, .int x0), (2, .int x1)] [] (173, m, r) (fun z => Wp xs L is lv (z.1.toList ++ rest) z.2 Q) := Wp_call (As := [.ref q, .int x0, .int x1]) (rest := rest) (Nat.le_of_ble_eq_true rfl) rfl hr (fun _ => by show decide _ = true; have hq := of_decide_eq_true hq; exact decide_eq_true hq) (Nat.le_of_ble_eq_true rfl)
set_option maxRecDepth 20000 in
theorem vX9_undo {q : Nat} (hq : e_okc q 9 = true) (hr : rest.length ≤ 4) : Wp xs L ((pc, .invokevirtual i, v, 544, 1, 143) :: is) lv (.ref q :: rest) (173, m, r) Q = Wp xs L kX9_undo_0 [(0, .ref q)] [] (173, m, r) (fun z => Wp xs L is lv (z.1.toList ++ rest) z.2 Q) := Wp_call (As := [.ref q]) (rest := rest) (Nat.le_of_ble_eq_true rfl) rfl hr (fun _ => by show decide _ = true; have hq := of_decide_eq_true hq; exact decide_eq_true hq) (Nat.le_of_ble_eq_true rfl)
set_option maxRecDepth 20000 in
theorem vX9_errorCount {q : Nat} {x0 : Int32} (hq : e_okc q 9 = true) (hr : rest.length ≤ 4) : Wp xs L ((pc, .invokevirtual i, v, 548, 2, 144) :: is) lv (.int x0 :: .ref q :: rest) (173, m, r) Q = Wp xs L kX9_errorCount_0 [(0, .ref q), (1, .int x0)] [] (173, m, r) (fun z => Wp xs L is lv (z.1.toList ++ rest) z.2 Q) := Wp_call (As := [.ref q, .int x0]) (rest := rest) (Nat.le_of_ble_eq_true rfl) rfl hr (fun _ => by show decide _ = true; have hq := of_decide_eq_true hq; exact decide_eq_true hq) (Nat.le_of_ble_eq_true rfl)
set_option maxRecDepth 20000 in
theorem vX9_mixed {x0 : Int64} {x1 : Int64} (hr : rest.length ≤ 4) : Wp xs L ((pc, .invokestatic i, v, 551, 2, 145) :: is) lv (.long x1 :: .long x0 :: rest) (173, m, r) Q = Wp xs L kX9_mixed_0 [(0, .long x0), (2, .long x1)] [] (173, m, r) (fun z => Wp xs L is lv (z.1.toList ++ rest) z.2 Q) := Wp_call (As := [.long x0, .long x1]) (rest := rest) (Nat.le_of_ble_eq_true rfl) rfl hr (fun h => by cases h) (Nat.le_of_ble_eq_true rfl)
set_option maxRecDepth 20000 in
theorem vX9_digest {q : Nat} (hq : e_okc q 9 = true) (hr : rest.length ≤ 4) : Wp xs L ((pc, .invokevirtual i, v, 552, 1, 146) :: is) lv (.ref q :: rest) (173, m, r) Q = Wp xs L kX9_digest_0 [(0, .ref q)] [] (173, m, r) (fun z => Wp xs L is lv (z.1.toList ++ rest) z.2 Q) := Wp_call (As := [.ref q]) (rest := rest) (Nat.le_of_ble_eq_true rfl) rfl hr (fun _ => by show decide _ = true; have hq := of_decide_eq_true hq; exact decide_eq_true hq) (Nat.le_of_ble_eq_true rfl)
end CALLS
end
section
/-! the cells as the constructors leave them -/
def nd (B k : Nat) : Nat := B + 3 + 3 * k
def rg (B k : Nat) : Nat := B + 4 + 3 * k
def bk (B k : Nat) : Nat := B + 5 + 3 * k
def e_fb (B : Nat) : Prop := B = 2 ∨ B = 72 ∨ B = 102 ∨ B = 132
def e_blk (B c k : Nat) : Nat := if c = B then (if k = 4 then B + 1 else if k = 5 then B + 2 else 0) else if c = B + 1 then 0 else if c = B + 2 then (if k < 9 then B + 3 + 3 * k else 0) else if (c - B) % 3 = 0 then (if k = 4 then c + 1 else if k = 5 then c + 2 else 0) else 0
def e_rl (c : Nat) : List Nat := match c with
  | 1 => [2, 32, 36, 68, 70, 162, 163]
  | 32 => [33, 34, 35]
  | 36 => [37, 41, 66, 67, 0]
  | 37 => [38, 39, 40]
  | 41 => [42, 43, 44, 45, 46, 47, 48, 49, 50, 51, 52, 53, 54, 55, 56, 57, 58, 59, 60, 61, 62, 63, 64, 65]
  | 68 => [69]
  | 70 => [71]
  | 164 => [165, 166, 0, 167, 0, 168, 169, 170, 171, 0, 172, 173]
  | _ => []
def e_R0 (c k : Nat) : Nat := if 2 ≤ c ∧ c < 32 then e_blk 2 c k else if 72 ≤ c ∧ c < 102 then e_blk 72 c k else if 102 ≤ c ∧ c < 132 then e_blk 102 c k else if 132 ≤ c ∧ c < 162 then e_blk 132 c k else (e_rl c).getD k 0
/-- the references: all stay as they were made, but the three saved states' places -/
def e_rs (sv : Nat → Nat) (c k : Nat) : Nat := if c = 71 then (if k < 3 then sv k else 0) else e_R0 c k
theorem R_1_0 (sv : Nat → Nat) : e_rs sv 1 0 = 2 := rfl
theorem R_1_1 (sv : Nat → Nat) : e_rs sv 1 1 = 32 := rfl
theorem R_1_2 (sv : Nat → Nat) : e_rs sv 1 2 = 36 := rfl
theorem R_1_3 (sv : Nat → Nat) : e_rs sv 1 3 = 68 := rfl
theorem R_1_4 (sv : Nat → Nat) : e_rs sv 1 4 = 70 := rfl
theorem R_1_5 (sv : Nat → Nat) : e_rs sv 1 5 = 162 := rfl
theorem R_1_6 (sv : Nat → Nat) : e_rs sv 1 6 = 163 := rfl
theorem R_32_0 (sv : Nat → Nat) : e_rs sv 32 0 = 33 := rfl
theorem R_32_1 (sv : Nat → Nat) : e_rs sv 32 1 = 34 := rfl
theorem R_32_2 (sv : Nat → Nat) : e_rs sv 32 2 = 35 := rfl
theorem R_36_0 (sv : Nat → Nat) : e_rs sv 36 0 = 37 := rfl
theorem R_36_1 (sv : Nat → Nat) : e_rs sv 36 1 = 41 := rfl
theorem R_36_2 (sv : Nat → Nat) : e_rs sv 36 2 = 66 := rfl
theorem R_36_3 (sv : Nat → Nat) : e_rs sv 36 3 = 67 := rfl
theorem R_37_0 (sv : Nat → Nat) : e_rs sv 37 0 = 38 := rfl
theorem R_37_1 (sv : Nat → Nat) : e_rs sv 37 1 = 39 := rfl
theorem R_37_2 (sv : Nat → Nat) : e_rs sv 37 2 = 40 := rfl
theorem R_68_0 (sv : Nat → Nat) : e_rs sv 68 0 = 69 := rfl
theorem R_70_0 (sv : Nat → Nat) : e_rs sv 70 0 = 71 := rfl
theorem R_164_0 (sv : Nat → Nat) : e_rs sv 164 0 = 165 := rfl
theorem R_164_1 (sv : Nat → Nat) : e_rs sv 164 1 = 166 := rfl
theorem R_164_3 (sv : Nat → Nat) : e_rs sv 164 3 = 167 := rfl
theorem R_164_5 (sv : Nat → Nat) : e_rs sv 164 5 = 168 := rfl
theorem R_164_6 (sv : Nat → Nat) : e_rs sv 164 6 = 169 := rfl
theorem R_164_7 (sv : Nat → Nat) : e_rs sv 164 7 = 170 := rfl
theorem R_164_8 (sv : Nat → Nat) : e_rs sv 164 8 = 171 := rfl
theorem R_164_10 (sv : Nat → Nat) : e_rs sv 164 10 = 172 := rfl
theorem R_164_11 (sv : Nat → Nat) : e_rs sv 164 11 = 173 := rfl
theorem R_2_4 (sv : Nat → Nat) : e_rs sv 2 4 = 3 := rfl
theorem R_2_5 (sv : Nat → Nat) : e_rs sv 2 5 = 4 := rfl
theorem R_41 (sv : Nat → Nat) : ∀ k, k < 24 → e_rs sv 41 k = 42 + k := by
  intro k hk
  unfold e_rs
  rw [if_neg (by decide)]
  revert k
  decide
theorem R_4 (sv : Nat → Nat) {k : Nat} (hk : k < 9) : e_rs sv 4 k = nd 2 k := by
  unfold e_rs
  rw [if_neg (by decide)]
  revert k
  decide
theorem R_71 (sv : Nat → Nat) {k : Nat} (hk : k < 3) : e_rs sv 71 k = sv k := by
  unfold e_rs
  rw [if_pos rfl, if_pos hk]
theorem R_fb4 (sv : Nat → Nat) {B : Nat} (h : e_fb B) : e_rs sv B 4 = B + 1 := by rcases h with h | h | h | h <;> (subst h; rfl)
theorem R_fb5 (sv : Nat → Nat) {B : Nat} (h : e_fb B) : e_rs sv B 5 = B + 2 := by rcases h with h | h | h | h <;> (subst h; rfl)
theorem R_fbn (sv : Nat → Nat) {B k : Nat} (h : e_fb B) (hk : k < 9) : e_rs sv (B + 2) k = nd B k := by
  rcases h with h | h | h | h <;> (subst h; unfold e_rs; rw [if_neg (by decide)]; revert k; decide)
theorem R_nd4 (sv : Nat → Nat) {B k : Nat} (h : e_fb B) (hk : k < 9) : e_rs sv (nd B k) 4 = rg B k := by
  have e : ∀ k, k < 9 → nd B k ≠ 71 ∧ e_R0 (nd B k) 4 = rg B k := by rcases h with h | h | h | h <;> (subst h; decide)
  unfold e_rs
  rw [if_neg (e k hk).1, (e k hk).2]
theorem R_nd5 (sv : Nat → Nat) {B k : Nat} (h : e_fb B) (hk : k < 9) : e_rs sv (nd B k) 5 = bk B k := by
  have e : ∀ k, k < 9 → nd B k ≠ 71 ∧ e_R0 (nd B k) 5 = bk B k := by rcases h with h | h | h | h <;> (subst h; decide)
  unfold e_rs
  rw [if_neg (e k hk).1, (e k hk).2]
theorem e_rf_nd {B k : Nat} : e_rf (nd B k) = .ref (nd B k) := if_neg (by unfold nd; omega)
theorem e_rf_rg {B k : Nat} : e_rf (rg B k) = .ref (rg B k) := if_neg (by unfold rg; omega)
theorem e_rf_bk {B k : Nat} : e_rf (bk B k) = .ref (bk B k) := if_neg (by unfold bk; omega)
theorem e_rf_s {n : Nat} : e_rf (n + 1) = .ref (n + 1) := rfl
theorem e_rf_fb {B : Nat} (h : e_fb B) : e_rf B = .ref B := by rcases h with h | h | h | h <;> (subst h; rfl)
theorem e_rf_fb1 {B : Nat} : e_rf (B + 1) = .ref (B + 1) := rfl
theorem e_rf_fb2 {B : Nat} : e_rf (B + 2) = .ref (B + 2) := rfl
theorem ok_nd {B k : Nat} (h : e_fb B) (hk : k < 9) : e_okc (nd B k) 4 = true := by rcases h with h | h | h | h <;> (subst h; revert k; decide)
theorem ok_rg {B k : Nat} (h : e_fb B) (hk : k < 9) : e_okc (rg B k) 7 = true := by rcases h with h | h | h | h <;> (subst h; revert k; decide)
theorem ok_bk {B k : Nat} (h : e_fb B) (hk : k < 9) : e_okc (bk B k) 0 = true := by rcases h with h | h | h | h <;> (subst h; revert k; decide)
theorem ok_fb {B : Nat} (h : e_fb B) : e_okc B 1 = true := by rcases h with h | h | h | h <;> (subst h; rfl)
theorem ok_fb1 {B : Nat} (h : e_fb B) : e_okc (B + 1) 10 = true := by rcases h with h | h | h | h <;> (subst h; decide)
theorem sz_fb1 {B : Nat} (h : e_fb B) : e_sz (B + 1) = 24 := by rcases h with h | h | h | h <;> (subst h; decide)
theorem ok_fb2 {B : Nat} (h : e_fb B) : e_okc (B + 2) 13 = true := by rcases h with h | h | h | h <;> (subst h; decide)
theorem sz_fb2 {B : Nat} (h : e_fb B) : e_sz (B + 2) = 9 := by rcases h with h | h | h | h <;> (subst h; decide)
theorem e_fb2 : e_fb 2 := Or.inl rfl
theorem ok_row {k : Nat} (hk : k < 24) : e_okc (42 + k) 10 = true := by revert k; decide
theorem sz_row {k : Nat} (hk : k < 24) : e_sz (42 + k) = 33 := by revert k; decide
theorem ok_1 : e_okc 1 8 = true := by decide
theorem ok_32 : e_okc 32 2 = true := by decide
theorem ok_36 : e_okc 36 5 = true := by decide
theorem ok_37 : e_okc 37 2 = true := by decide
theorem ok_68 : e_okc 68 6 = true := by decide
theorem ok_70 : e_okc 70 3 = true := by decide
theorem ok_164 : e_okc 164 9 = true := by decide
theorem ok_2 : e_okc 2 1 = true := by decide
theorem ok_3 : e_okc 3 10 = true := by decide
theorem sz_3 : e_sz 3 = 24 := by decide
theorem ok_4 : e_okc 4 13 = true := by decide
theorem sz_4 : e_sz 4 = 9 := by decide
theorem ok_33 : e_okc 33 10 = true := by decide
theorem sz_33 : e_sz 33 = 9 := by decide
theorem ok_34 : e_okc 34 10 = true := by decide
theorem sz_34 : e_sz 34 = 9 := by decide
theorem ok_35 : e_okc 35 10 = true := by decide
theorem sz_35 : e_sz 35 = 9 := by decide
theorem ok_38 : e_okc 38 10 = true := by decide
theorem sz_38 : e_sz 38 = 9 := by decide
theorem ok_39 : e_okc 39 10 = true := by decide
theorem sz_39 : e_sz 39 = 9 := by decide
theorem ok_40 : e_okc 40 10 = true := by decide
theorem sz_40 : e_sz 40 = 9 := by decide
theorem ok_41 : e_okc 41 14 = true := by decide
theorem sz_41 : e_sz 41 = 24 := by decide
theorem ok_66 : e_okc 66 10 = true := by decide
theorem sz_66 : e_sz 66 = 33 := by decide
theorem ok_67 : e_okc 67 10 = true := by decide
theorem sz_67 : e_sz 67 = 24 := by decide
theorem ok_69 : e_okc 69 11 = true := by decide
theorem sz_69 : e_sz 69 = 120 := by decide
theorem ok_71 : e_okc 71 12 = true := by decide
theorem sz_71 : e_sz 71 = 3 := by decide
theorem ok_162 : e_okc 162 10 = true := by decide
theorem sz_162 : e_sz 162 = 24 := by decide
theorem ok_163 : e_okc 163 10 = true := by decide
theorem sz_163 : e_sz 163 = 5 := by decide
theorem ok_165 : e_okc 165 10 = true := by decide
theorem sz_165 : e_sz 165 = 220 := by decide
theorem ok_166 : e_okc 166 10 = true := by decide
theorem sz_166 : e_sz 166 = 660 := by decide
theorem ok_167 : e_okc 167 10 = true := by decide
theorem sz_167 : e_sz 167 = 120 := by decide
theorem ok_168 : e_okc 168 10 = true := by decide
theorem sz_168 : e_sz 168 = 7 := by decide
theorem ok_169 : e_okc 169 10 = true := by decide
theorem sz_169 : e_sz 169 = 9 := by decide
theorem ok_170 : e_okc 170 10 = true := by decide
theorem sz_170 : e_sz 170 = 9 := by decide
theorem ok_171 : e_okc 171 10 = true := by decide
theorem sz_171 : e_sz 171 = 9 := by decide
theorem ok_172 : e_okc 172 10 = true := by decide
theorem sz_172 : e_sz 172 = 24 := by decide
theorem ok_173 : e_okc 173 10 = true := by decide
theorem sz_173 : e_sz 173 = 792 := by decide
theorem e_in_nI {k n : Nat} (hk : k < n) (hn : n ≤ 1000) : e_in (nI k) n = true := by
  refine decide_eq_true ?_
  rw [nI_toInt (by omega)]
  omega
theorem tn_0 : (0 : Int32).toNatClampNeg = 0 := by decide
theorem tn_1 : (1 : Int32).toNatClampNeg = 1 := by decide
theorem tn_2 : (2 : Int32).toNatClampNeg = 2 := by decide
theorem tn_3 : (3 : Int32).toNatClampNeg = 3 := by decide
theorem tn_4 : (4 : Int32).toNatClampNeg = 4 := by decide
theorem tn_5 : (5 : Int32).toNatClampNeg = 5 := by decide
theorem tn_6 : (6 : Int32).toNatClampNeg = 6 := by decide
theorem tn_7 : (7 : Int32).toNatClampNeg = 7 := by decide
theorem tn_8 : (8 : Int32).toNatClampNeg = 8 := by decide
theorem tn_9 : (9 : Int32).toNatClampNeg = 9 := by decide
theorem tn_10 : (10 : Int32).toNatClampNeg = 10 := by decide
theorem tn_11 : (11 : Int32).toNatClampNeg = 11 := by decide
theorem tn_12 : (12 : Int32).toNatClampNeg = 12 := by decide
theorem tn_13 : (13 : Int32).toNatClampNeg = 13 := by decide
theorem tn_14 : (14 : Int32).toNatClampNeg = 14 := by decide
theorem tn_15 : (15 : Int32).toNatClampNeg = 15 := by decide
theorem tn_16 : (16 : Int32).toNatClampNeg = 16 := by decide
theorem tn_17 : (17 : Int32).toNatClampNeg = 17 := by decide
theorem tn_18 : (18 : Int32).toNatClampNeg = 18 := by decide
theorem tn_19 : (19 : Int32).toNatClampNeg = 19 := by decide
theorem tn_20 : (20 : Int32).toNatClampNeg = 20 := by decide
theorem tn_21 : (21 : Int32).toNatClampNeg = 21 := by decide
theorem tn_22 : (22 : Int32).toNatClampNeg = 22 := by decide
theorem tn_23 : (23 : Int32).toNatClampNeg = 23 := by decide
theorem tn_24 : (24 : Int32).toNatClampNeg = 24 := by decide
theorem tn_25 : (25 : Int32).toNatClampNeg = 25 := by decide
theorem tn_26 : (26 : Int32).toNatClampNeg = 26 := by decide
theorem tn_27 : (27 : Int32).toNatClampNeg = 27 := by decide
theorem in_0 {n : Nat} (h : 0 < n) : e_in 0 n = true := decide_eq_true ⟨by decide, by show (0 : Int) < n; omega⟩
theorem in_1 {n : Nat} (h : 1 < n) : e_in 1 n = true := decide_eq_true ⟨by decide, by show (1 : Int) < n; omega⟩
theorem in_2 {n : Nat} (h : 2 < n) : e_in 2 n = true := decide_eq_true ⟨by decide, by show (2 : Int) < n; omega⟩
theorem in_3 {n : Nat} (h : 3 < n) : e_in 3 n = true := decide_eq_true ⟨by decide, by show (3 : Int) < n; omega⟩
theorem in_4 {n : Nat} (h : 4 < n) : e_in 4 n = true := decide_eq_true ⟨by decide, by show (4 : Int) < n; omega⟩
theorem in_5 {n : Nat} (h : 5 < n) : e_in 5 n = true := decide_eq_true ⟨by decide, by show (5 : Int) < n; omega⟩
theorem in_6 {n : Nat} (h : 6 < n) : e_in 6 n = true := decide_eq_true ⟨by decide, by show (6 : Int) < n; omega⟩
theorem in_7 {n : Nat} (h : 7 < n) : e_in 7 n = true := decide_eq_true ⟨by decide, by show (7 : Int) < n; omega⟩
theorem in_8 {n : Nat} (h : 8 < n) : e_in 8 n = true := decide_eq_true ⟨by decide, by show (8 : Int) < n; omega⟩
theorem in_9 {n : Nat} (h : 9 < n) : e_in 9 n = true := decide_eq_true ⟨by decide, by show (9 : Int) < n; omega⟩
theorem in_10 {n : Nat} (h : 10 < n) : e_in 10 n = true := decide_eq_true ⟨by decide, by show (10 : Int) < n; omega⟩
theorem in_11 {n : Nat} (h : 11 < n) : e_in 11 n = true := decide_eq_true ⟨by decide, by show (11 : Int) < n; omega⟩
theorem in_12 {n : Nat} (h : 12 < n) : e_in 12 n = true := decide_eq_true ⟨by decide, by show (12 : Int) < n; omega⟩
theorem in_13 {n : Nat} (h : 13 < n) : e_in 13 n = true := decide_eq_true ⟨by decide, by show (13 : Int) < n; omega⟩
theorem in_14 {n : Nat} (h : 14 < n) : e_in 14 n = true := decide_eq_true ⟨by decide, by show (14 : Int) < n; omega⟩
theorem in_15 {n : Nat} (h : 15 < n) : e_in 15 n = true := decide_eq_true ⟨by decide, by show (15 : Int) < n; omega⟩
theorem in_16 {n : Nat} (h : 16 < n) : e_in 16 n = true := decide_eq_true ⟨by decide, by show (16 : Int) < n; omega⟩
theorem in_17 {n : Nat} (h : 17 < n) : e_in 17 n = true := decide_eq_true ⟨by decide, by show (17 : Int) < n; omega⟩
theorem in_18 {n : Nat} (h : 18 < n) : e_in 18 n = true := decide_eq_true ⟨by decide, by show (18 : Int) < n; omega⟩
theorem in_19 {n : Nat} (h : 19 < n) : e_in 19 n = true := decide_eq_true ⟨by decide, by show (19 : Int) < n; omega⟩
theorem in_20 {n : Nat} (h : 20 < n) : e_in 20 n = true := decide_eq_true ⟨by decide, by show (20 : Int) < n; omega⟩
theorem in_21 {n : Nat} (h : 21 < n) : e_in 21 n = true := decide_eq_true ⟨by decide, by show (21 : Int) < n; omega⟩
theorem in_22 {n : Nat} (h : 22 < n) : e_in 22 n = true := decide_eq_true ⟨by decide, by show (22 : Int) < n; omega⟩
theorem in_23 {n : Nat} (h : 23 < n) : e_in 23 n = true := decide_eq_true ⟨by decide, by show (23 : Int) < n; omega⟩
theorem in_24 {n : Nat} (h : 24 < n) : e_in 24 n = true := decide_eq_true ⟨by decide, by show (24 : Int) < n; omega⟩
theorem in_25 {n : Nat} (h : 25 < n) : e_in 25 n = true := decide_eq_true ⟨by decide, by show (25 : Int) < n; omega⟩
theorem in_26 {n : Nat} (h : 26 < n) : e_in 26 n = true := decide_eq_true ⟨by decide, by show (26 : Int) < n; omega⟩
theorem in_27 {n : Nat} (h : 27 < n) : e_in 27 n = true := decide_eq_true ⟨by decide, by show (27 : Int) < n; omega⟩
theorem nI_nat {k : Nat} (hk : k < 1000000000) : (nI k).toNatClampNeg = k := nI_clamp (by omega)
end
section
/-! small words; the leaves: Bank, Regulator, the checks -/
def e_b (p : Prop) [Decidable p] : Int32 := if p then 1 else 0
theorem e_b_01 (p : Prop) [Decidable p] : e_01 (e_b p) := by
  unfold e_b
  split
  · exact Or.inr rfl
  · exact Or.inl rfl
theorem e_b_0 {p : Prop} [Decidable p] : (e_b p = 0) = ¬ p := by
  unfold e_b
  by_cases h : p <;> simp [h]
theorem e_b_t {p : Prop} [Decidable p] (h : p) : e_b p = 1 := if_pos h
theorem e_b_f {p : Prop} [Decidable p] (h : ¬ p) : e_b p = 0 := if_neg h
theorem e_set_self {α : Type} {m : Nat → Nat → α} {c k : Nat} {v : α} : e_set m c k v c k = v := if_pos ⟨rfl, rfl⟩
theorem e_set_slot {α : Type} {m : Nat → Nat → α} {c k c' k' : Nat} {v : α} (h : ¬ k' = k) : e_set m c k v c' k' = m c' k' := if_neg (fun q => h q.2)
theorem e_set_cell {α : Type} {m : Nat → Nat → α} {c k c' k' : Nat} {v : α} (h : ¬ c' = c) : e_set m c k v c' k' = m c' k' := if_neg (fun q => h q.1)
theorem zero_01 : e_01 0 := Or.inl rfl
theorem one_01 : e_01 1 := Or.inr rfl
section P14
variable {xs : Nat → Int32} {L : Nat} {Q : e_Rs → Prop} {m : Nat → Nat → Int32} {r : Nat → Nat → Nat} {sv : Nat → Nat}
theorem c_X8_isWithin {a b c : Int32}  : Wp xs L kX8_isWithin_0 [(0, .int a), (1, .int b), (2, .int c)] [] (173, m, r) Q = Q (some (.int (e_b (¬ a < b ∧ ¬ c < a))), (173, m, r)) := by
  simp only [r_goto, r_ic_gt, r_ic_lt, r_iconst, r_iload_n, r_iret0, r_iret1, r_nop, kX8_isWithin_0, kX8_isWithin_14, kX8_isWithin_15, lX8_isWithin_0, lX8_isWithin_14, lX8_isWithin_15, e_wi_s, e_wr_s, e_wl_s, e_lk, e_sto, e_ok, e_no, e_isL, Option.toList_some, Option.toList_none, List.cons_append, List.nil_append, List.length_cons, List.length_nil, Bool.not_false, Bool.not_true, Bool.and_true, Bool.true_and, Bool.false_and, Bool.and_false, Bool.and_self, Nat.reduceBEq, Nat.reduceAdd, Nat.reduceEqDiff, Nat.reduceLeDiff, Nat.reduceLT, Nat.zero_le, Nat.le_refl, if_true, if_false, ite_true, ite_false, true_and, and_true, true_or, or_true, not_false_eq_true, not_true_eq_false, e_set_self, Nat.succ_ne_zero, eq_self, e_set_slot, zero_01, one_01, e_b_0, e_b_01, or_self, false_and, and_false, or_false, false_or, R_1_0, R_1_1, R_1_2, R_1_3, R_1_4, R_1_5, R_1_6, R_32_0, R_32_1, R_32_2, R_36_0, R_36_1, R_36_2, R_36_3, R_37_0, R_37_1, R_37_2, R_68_0, R_70_0, R_164_0, R_164_1, R_164_3, R_164_5, R_164_6, R_164_7, R_164_8, R_164_10, R_164_11, R_2_4, R_2_5, ok_1, ok_32, ok_36, ok_37, ok_68, ok_70, ok_164, ok_2, ok_3, sz_3, ok_4, sz_4, ok_33, sz_33, ok_34, sz_34, ok_35, sz_35, ok_38, sz_38, ok_39, sz_39, ok_40, sz_40, ok_41, sz_41, ok_66, sz_66, ok_67, sz_67, ok_69, sz_69, ok_71, sz_71, ok_162, sz_162, ok_163, sz_163, ok_165, sz_165, ok_166, sz_166, ok_167, sz_167, ok_168, sz_168, ok_169, sz_169, ok_170, sz_170, ok_171, sz_171, ok_172, sz_172, ok_173, sz_173, tn_0, tn_1, tn_2, tn_3, tn_4, tn_5, tn_6, tn_7, tn_8, tn_9, tn_10, tn_11, tn_12, tn_13, tn_14, tn_15, tn_16, tn_17, tn_18, tn_19, tn_20, tn_21, tn_22, tn_23, tn_24, tn_25, tn_26, tn_27, in_0, in_1, in_2, in_3, in_4, in_5, in_6, in_7, in_8, in_9, in_10, in_11, in_12, in_13, in_14, in_15, in_16, in_17, in_18, in_19, in_20, in_21, in_22, in_23, in_24, in_25, in_26, in_27, e_rf_s]
  (repeat' split) <;> first | rfl | (simp_all [-Int32.not_lt, -Int32.not_le, e_b]; done) | grind [e_b]
theorem c_X9_in {a b c : Int32}  : Wp xs L kX9_in_0 [(0, .int a), (1, .int b), (2, .int c)] [] (173, m, r) Q = Q (some (.int (e_b (¬ a < b ∧ ¬ c < a))), (173, m, r)) := by
  simp only [r_goto, r_ic_gt, r_ic_lt, r_iconst, r_iload_n, r_iret0, r_iret1, r_nop, kX9_in_0, kX9_in_14, kX9_in_15, lX9_in_0, lX9_in_14, lX9_in_15, e_wi_s, e_wr_s, e_wl_s, e_lk, e_sto, e_ok, e_no, e_isL, Option.toList_some, Option.toList_none, List.cons_append, List.nil_append, List.length_cons, List.length_nil, Bool.not_false, Bool.not_true, Bool.and_true, Bool.true_and, Bool.false_and, Bool.and_false, Bool.and_self, Nat.reduceBEq, Nat.reduceAdd, Nat.reduceEqDiff, Nat.reduceLeDiff, Nat.reduceLT, Nat.zero_le, Nat.le_refl, if_true, if_false, ite_true, ite_false, true_and, and_true, true_or, or_true, not_false_eq_true, not_true_eq_false, e_set_self, Nat.succ_ne_zero, eq_self, e_set_slot, zero_01, one_01, e_b_0, e_b_01, or_self, false_and, and_false, or_false, false_or, R_1_0, R_1_1, R_1_2, R_1_3, R_1_4, R_1_5, R_1_6, R_32_0, R_32_1, R_32_2, R_36_0, R_36_1, R_36_2, R_36_3, R_37_0, R_37_1, R_37_2, R_68_0, R_70_0, R_164_0, R_164_1, R_164_3, R_164_5, R_164_6, R_164_7, R_164_8, R_164_10, R_164_11, R_2_4, R_2_5, ok_1, ok_32, ok_36, ok_37, ok_68, ok_70, ok_164, ok_2, ok_3, sz_3, ok_4, sz_4, ok_33, sz_33, ok_34, sz_34, ok_35, sz_35, ok_38, sz_38, ok_39, sz_39, ok_40, sz_40, ok_41, sz_41, ok_66, sz_66, ok_67, sz_67, ok_69, sz_69, ok_71, sz_71, ok_162, sz_162, ok_163, sz_163, ok_165, sz_165, ok_166, sz_166, ok_167, sz_167, ok_168, sz_168, ok_169, sz_169, ok_170, sz_170, ok_171, sz_171, ok_172, sz_172, ok_173, sz_173, tn_0, tn_1, tn_2, tn_3, tn_4, tn_5, tn_6, tn_7, tn_8, tn_9, tn_10, tn_11, tn_12, tn_13, tn_14, tn_15, tn_16, tn_17, tn_18, tn_19, tn_20, tn_21, tn_22, tn_23, tn_24, tn_25, tn_26, tn_27, in_0, in_1, in_2, in_3, in_4, in_5, in_6, in_7, in_8, in_9, in_10, in_11, in_12, in_13, in_14, in_15, in_16, in_17, in_18, in_19, in_20, in_21, in_22, in_23, in_24, in_25, in_26, in_27, e_rf_s]
  (repeat' split) <;> first | rfl | (simp_all [-Int32.not_lt, -Int32.not_le, e_b]; done) | grind [e_b]
theorem c_X8_isHour {a : Int32}  : Wp xs L kX8_isHour_0 [(0, .int a)] [] (173, m, r) Q = Q (some (.int (e_b (¬ a < 0 ∧ ¬ 23 < a))), (173, m, r)) := by
  simp only [r_bipush, r_copy, r_fmod, r_iconst, r_iload_n, r_iret0, r_iret1, r_mabs, r_mmax, r_mmin, r_nop, kX8_isHour_0, lX8_isHour_0, vX8_isWithin, e_wi_s, e_wr_s, e_wl_s, e_lk, e_sto, e_ok, e_no, e_isL, Option.toList_some, Option.toList_none, List.cons_append, List.nil_append, List.length_cons, List.length_nil, Bool.not_false, Bool.not_true, Bool.and_true, Bool.true_and, Bool.false_and, Bool.and_false, Bool.and_self, Nat.reduceBEq, Nat.reduceAdd, Nat.reduceEqDiff, Nat.reduceLeDiff, Nat.reduceLT, Nat.zero_le, Nat.le_refl, if_true, if_false, ite_true, ite_false, true_and, and_true, true_or, or_true, not_false_eq_true, not_true_eq_false, e_set_self, Nat.succ_ne_zero, eq_self, c_X8_isWithin, e_set_slot, zero_01, one_01, e_b_0, e_b_01, or_self, false_and, and_false, or_false, false_or, R_1_0, R_1_1, R_1_2, R_1_3, R_1_4, R_1_5, R_1_6, R_32_0, R_32_1, R_32_2, R_36_0, R_36_1, R_36_2, R_36_3, R_37_0, R_37_1, R_37_2, R_68_0, R_70_0, R_164_0, R_164_1, R_164_3, R_164_5, R_164_6, R_164_7, R_164_8, R_164_10, R_164_11, R_2_4, R_2_5, ok_1, ok_32, ok_36, ok_37, ok_68, ok_70, ok_164, ok_2, ok_3, sz_3, ok_4, sz_4, ok_33, sz_33, ok_34, sz_34, ok_35, sz_35, ok_38, sz_38, ok_39, sz_39, ok_40, sz_40, ok_41, sz_41, ok_66, sz_66, ok_67, sz_67, ok_69, sz_69, ok_71, sz_71, ok_162, sz_162, ok_163, sz_163, ok_165, sz_165, ok_166, sz_166, ok_167, sz_167, ok_168, sz_168, ok_169, sz_169, ok_170, sz_170, ok_171, sz_171, ok_172, sz_172, ok_173, sz_173, tn_0, tn_1, tn_2, tn_3, tn_4, tn_5, tn_6, tn_7, tn_8, tn_9, tn_10, tn_11, tn_12, tn_13, tn_14, tn_15, tn_16, tn_17, tn_18, tn_19, tn_20, tn_21, tn_22, tn_23, tn_24, tn_25, tn_26, tn_27, in_0, in_1, in_2, in_3, in_4, in_5, in_6, in_7, in_8, in_9, in_10, in_11, in_12, in_13, in_14, in_15, in_16, in_17, in_18, in_19, in_20, in_21, in_22, in_23, in_24, in_25, in_26, in_27, e_rf_s]
theorem c_X8_isErrorCode {a : Int32}  : Wp xs L kX8_isErrorCode_0 [(0, .int a)] [] (173, m, r) Q = Q (some (.int (e_b (¬ a < -6 ∧ ¬ -2 < a))), (173, m, r)) := by
  simp only [r_bipush, r_copy, r_fmod, r_iload_n, r_iret0, r_iret1, r_mabs, r_mmax, r_mmin, r_nop, kX8_isErrorCode_0, lX8_isErrorCode_0, vX8_isWithin, e_wi_s, e_wr_s, e_wl_s, e_lk, e_sto, e_ok, e_no, e_isL, Option.toList_some, Option.toList_none, List.cons_append, List.nil_append, List.length_cons, List.length_nil, Bool.not_false, Bool.not_true, Bool.and_true, Bool.true_and, Bool.false_and, Bool.and_false, Bool.and_self, Nat.reduceBEq, Nat.reduceAdd, Nat.reduceEqDiff, Nat.reduceLeDiff, Nat.reduceLT, Nat.zero_le, Nat.le_refl, if_true, if_false, ite_true, ite_false, true_and, and_true, true_or, or_true, not_false_eq_true, not_true_eq_false, e_set_self, Nat.succ_ne_zero, eq_self, c_X8_isWithin, e_set_slot, zero_01, one_01, e_b_0, e_b_01, or_self, false_and, and_false, or_false, false_or, R_1_0, R_1_1, R_1_2, R_1_3, R_1_4, R_1_5, R_1_6, R_32_0, R_32_1, R_32_2, R_36_0, R_36_1, R_36_2, R_36_3, R_37_0, R_37_1, R_37_2, R_68_0, R_70_0, R_164_0, R_164_1, R_164_3, R_164_5, R_164_6, R_164_7, R_164_8, R_164_10, R_164_11, R_2_4, R_2_5, ok_1, ok_32, ok_36, ok_37, ok_68, ok_70, ok_164, ok_2, ok_3, sz_3, ok_4, sz_4, ok_33, sz_33, ok_34, sz_34, ok_35, sz_35, ok_38, sz_38, ok_39, sz_39, ok_40, sz_40, ok_41, sz_41, ok_66, sz_66, ok_67, sz_67, ok_69, sz_69, ok_71, sz_71, ok_162, sz_162, ok_163, sz_163, ok_165, sz_165, ok_166, sz_166, ok_167, sz_167, ok_168, sz_168, ok_169, sz_169, ok_170, sz_170, ok_171, sz_171, ok_172, sz_172, ok_173, sz_173, tn_0, tn_1, tn_2, tn_3, tn_4, tn_5, tn_6, tn_7, tn_8, tn_9, tn_10, tn_11, tn_12, tn_13, tn_14, tn_15, tn_16, tn_17, tn_18, tn_19, tn_20, tn_21, tn_22, tn_23, tn_24, tn_25, tn_26, tn_27, in_0, in_1, in_2, in_3, in_4, in_5, in_6, in_7, in_8, in_9, in_10, in_11, in_12, in_13, in_14, in_15, in_16, in_17, in_18, in_19, in_20, in_21, in_22, in_23, in_24, in_25, in_26, in_27, e_rf_s]
theorem c_X8_isLoad {p q : Int32}  : Wp xs L kX8_isLoad_0 [(0, .int p), (1, .int q)] [] (173, m, r) Q = Q (some (.int (e_b ((¬ p < -500 ∧ ¬ 500 < p) ∧ ¬ q < -300 ∧ ¬ 300 < q))), (173, m, r)) := by
  simp only [r_copy, r_fmod, r_goto, r_iconst, r_if_eq, r_iload_n, r_iret0, r_iret1, r_mabs, r_mmax, r_mmin, r_nop, r_sipush, kX8_isLoad_0, kX8_isLoad_30, kX8_isLoad_31, lX8_isLoad_0, lX8_isLoad_30, lX8_isLoad_31, vX8_isWithin, e_wi_s, e_wr_s, e_wl_s, e_lk, e_sto, e_ok, e_no, e_isL, Option.toList_some, Option.toList_none, List.cons_append, List.nil_append, List.length_cons, List.length_nil, Bool.not_false, Bool.not_true, Bool.and_true, Bool.true_and, Bool.false_and, Bool.and_false, Bool.and_self, Nat.reduceBEq, Nat.reduceAdd, Nat.reduceEqDiff, Nat.reduceLeDiff, Nat.reduceLT, Nat.zero_le, Nat.le_refl, if_true, if_false, ite_true, ite_false, true_and, and_true, true_or, or_true, not_false_eq_true, not_true_eq_false, e_set_self, Nat.succ_ne_zero, eq_self, c_X8_isWithin, e_set_slot, zero_01, one_01, e_b_0, e_b_01, or_self, false_and, and_false, or_false, false_or, R_1_0, R_1_1, R_1_2, R_1_3, R_1_4, R_1_5, R_1_6, R_32_0, R_32_1, R_32_2, R_36_0, R_36_1, R_36_2, R_36_3, R_37_0, R_37_1, R_37_2, R_68_0, R_70_0, R_164_0, R_164_1, R_164_3, R_164_5, R_164_6, R_164_7, R_164_8, R_164_10, R_164_11, R_2_4, R_2_5, ok_1, ok_32, ok_36, ok_37, ok_68, ok_70, ok_164, ok_2, ok_3, sz_3, ok_4, sz_4, ok_33, sz_33, ok_34, sz_34, ok_35, sz_35, ok_38, sz_38, ok_39, sz_39, ok_40, sz_40, ok_41, sz_41, ok_66, sz_66, ok_67, sz_67, ok_69, sz_69, ok_71, sz_71, ok_162, sz_162, ok_163, sz_163, ok_165, sz_165, ok_166, sz_166, ok_167, sz_167, ok_168, sz_168, ok_169, sz_169, ok_170, sz_170, ok_171, sz_171, ok_172, sz_172, ok_173, sz_173, tn_0, tn_1, tn_2, tn_3, tn_4, tn_5, tn_6, tn_7, tn_8, tn_9, tn_10, tn_11, tn_12, tn_13, tn_14, tn_15, tn_16, tn_17, tn_18, tn_19, tn_20, tn_21, tn_22, tn_23, tn_24, tn_25, tn_26, tn_27, in_0, in_1, in_2, in_3, in_4, in_5, in_6, in_7, in_8, in_9, in_10, in_11, in_12, in_13, in_14, in_15, in_16, in_17, in_18, in_19, in_20, in_21, in_22, in_23, in_24, in_25, in_26, in_27, e_rf_s]
  (repeat' split) <;> first | rfl | (simp_all [-Int32.not_lt, -Int32.not_le, e_b]; done) | grind [e_b]
theorem c_X9_isLoad {p q : Int32}  : Wp xs L kX9_isLoad_0 [(0, .int p), (1, .int q)] [] (173, m, r) Q = Q (some (.int (e_b ((¬ p < -500 ∧ ¬ 500 < p) ∧ ¬ q < -300 ∧ ¬ 300 < q))), (173, m, r)) := by
  simp only [r_copy, r_fmod, r_goto, r_iconst, r_if_eq, r_iload_n, r_iret0, r_iret1, r_mabs, r_mmax, r_mmin, r_nop, r_sipush, kX9_isLoad_0, kX9_isLoad_30, kX9_isLoad_31, lX9_isLoad_0, lX9_isLoad_30, lX9_isLoad_31, vX9_in, e_wi_s, e_wr_s, e_wl_s, e_lk, e_sto, e_ok, e_no, e_isL, Option.toList_some, Option.toList_none, List.cons_append, List.nil_append, List.length_cons, List.length_nil, Bool.not_false, Bool.not_true, Bool.and_true, Bool.true_and, Bool.false_and, Bool.and_false, Bool.and_self, Nat.reduceBEq, Nat.reduceAdd, Nat.reduceEqDiff, Nat.reduceLeDiff, Nat.reduceLT, Nat.zero_le, Nat.le_refl, if_true, if_false, ite_true, ite_false, true_and, and_true, true_or, or_true, not_false_eq_true, not_true_eq_false, e_set_self, Nat.succ_ne_zero, eq_self, c_X9_in, e_set_slot, zero_01, one_01, e_b_0, e_b_01, or_self, false_and, and_false, or_false, false_or, R_1_0, R_1_1, R_1_2, R_1_3, R_1_4, R_1_5, R_1_6, R_32_0, R_32_1, R_32_2, R_36_0, R_36_1, R_36_2, R_36_3, R_37_0, R_37_1, R_37_2, R_68_0, R_70_0, R_164_0, R_164_1, R_164_3, R_164_5, R_164_6, R_164_7, R_164_8, R_164_10, R_164_11, R_2_4, R_2_5, ok_1, ok_32, ok_36, ok_37, ok_68, ok_70, ok_164, ok_2, ok_3, sz_3, ok_4, sz_4, ok_33, sz_33, ok_34, sz_34, ok_35, sz_35, ok_38, sz_38, ok_39, sz_39, ok_40, sz_40, ok_41, sz_41, ok_66, sz_66, ok_67, sz_67, ok_69, sz_69, ok_71, sz_71, ok_162, sz_162, ok_163, sz_163, ok_165, sz_165, ok_166, sz_166, ok_167, sz_167, ok_168, sz_168, ok_169, sz_169, ok_170, sz_170, ok_171, sz_171, ok_172, sz_172, ok_173, sz_173, tn_0, tn_1, tn_2, tn_3, tn_4, tn_5, tn_6, tn_7, tn_8, tn_9, tn_10, tn_11, tn_12, tn_13, tn_14, tn_15, tn_16, tn_17, tn_18, tn_19, tn_20, tn_21, tn_22, tn_23, tn_24, tn_25, tn_26, tn_27, in_0, in_1, in_2, in_3, in_4, in_5, in_6, in_7, in_8, in_9, in_10, in_11, in_12, in_13, in_14, in_15, in_16, in_17, in_18, in_19, in_20, in_21, in_22, in_23, in_24, in_25, in_26, in_27, e_rf_s]
  (repeat' split) <;> first | rfl | (simp_all [-Int32.not_lt, -Int32.not_le, e_b]; done) | grind [e_b]
theorem c_X8_bit {a : Int32}  : Wp xs L kX8_bit_0 [(0, .int a)] [] (173, m, r) Q = Q (some (.int (e_b (¬ a = 0))), (173, m, r)) := by
  simp only [r_goto, r_iconst, r_if_eq, r_iload_n, r_iret0, r_iret1, r_nop, kX8_bit_0, kX8_bit_8, kX8_bit_9, lX8_bit_0, lX8_bit_8, lX8_bit_9, e_wi_s, e_wr_s, e_wl_s, e_lk, e_sto, e_ok, e_no, e_isL, Option.toList_some, Option.toList_none, List.cons_append, List.nil_append, List.length_cons, List.length_nil, Bool.not_false, Bool.not_true, Bool.and_true, Bool.true_and, Bool.false_and, Bool.and_false, Bool.and_self, Nat.reduceBEq, Nat.reduceAdd, Nat.reduceEqDiff, Nat.reduceLeDiff, Nat.reduceLT, Nat.zero_le, Nat.le_refl, if_true, if_false, ite_true, ite_false, true_and, and_true, true_or, or_true, not_false_eq_true, not_true_eq_false, e_set_self, Nat.succ_ne_zero, eq_self, e_set_slot, zero_01, one_01, e_b_0, e_b_01, or_self, false_and, and_false, or_false, false_or, R_1_0, R_1_1, R_1_2, R_1_3, R_1_4, R_1_5, R_1_6, R_32_0, R_32_1, R_32_2, R_36_0, R_36_1, R_36_2, R_36_3, R_37_0, R_37_1, R_37_2, R_68_0, R_70_0, R_164_0, R_164_1, R_164_3, R_164_5, R_164_6, R_164_7, R_164_8, R_164_10, R_164_11, R_2_4, R_2_5, ok_1, ok_32, ok_36, ok_37, ok_68, ok_70, ok_164, ok_2, ok_3, sz_3, ok_4, sz_4, ok_33, sz_33, ok_34, sz_34, ok_35, sz_35, ok_38, sz_38, ok_39, sz_39, ok_40, sz_40, ok_41, sz_41, ok_66, sz_66, ok_67, sz_67, ok_69, sz_69, ok_71, sz_71, ok_162, sz_162, ok_163, sz_163, ok_165, sz_165, ok_166, sz_166, ok_167, sz_167, ok_168, sz_168, ok_169, sz_169, ok_170, sz_170, ok_171, sz_171, ok_172, sz_172, ok_173, sz_173, tn_0, tn_1, tn_2, tn_3, tn_4, tn_5, tn_6, tn_7, tn_8, tn_9, tn_10, tn_11, tn_12, tn_13, tn_14, tn_15, tn_16, tn_17, tn_18, tn_19, tn_20, tn_21, tn_22, tn_23, tn_24, tn_25, tn_26, tn_27, in_0, in_1, in_2, in_3, in_4, in_5, in_6, in_7, in_8, in_9, in_10, in_11, in_12, in_13, in_14, in_15, in_16, in_17, in_18, in_19, in_20, in_21, in_22, in_23, in_24, in_25, in_26, in_27, e_rf_s]
  (repeat' split) <;> first | rfl | (simp_all [-Int32.not_lt, -Int32.not_le, e_b]; done) | grind [e_b]
theorem c_X8_hasNode {a : Int32}  : Wp xs L kX8_hasNode_0 [(0, .ref (1 : Nat)), (1, .int a)] [] (173, m, e_rs sv) Q = Q (some (.int (e_b (¬ a < 1 ∧ ¬ m 2 2 < a))), (173, m, e_rs sv)) := by
  simp only [r_aload_n, r_copy, r_fmod, r_getf0, r_getf1, r_getf2, r_iconst, r_iload_n, r_iret0, r_iret1, r_mabs, r_mmax, r_mmin, r_nop, kX8_hasNode_0, lX8_hasNode_0, vX8_isWithin, e_wi_s, e_wr_s, e_wl_s, e_lk, e_sto, e_ok, e_no, e_isL, Option.toList_some, Option.toList_none, List.cons_append, List.nil_append, List.length_cons, List.length_nil, Bool.not_false, Bool.not_true, Bool.and_true, Bool.true_and, Bool.false_and, Bool.and_false, Bool.and_self, Nat.reduceBEq, Nat.reduceAdd, Nat.reduceEqDiff, Nat.reduceLeDiff, Nat.reduceLT, Nat.zero_le, Nat.le_refl, if_true, if_false, ite_true, ite_false, true_and, and_true, true_or, or_true, not_false_eq_true, not_true_eq_false, e_set_self, Nat.succ_ne_zero, eq_self, c_X8_isWithin, e_set_slot, zero_01, one_01, e_b_0, e_b_01, or_self, false_and, and_false, or_false, false_or, R_1_0, R_1_1, R_1_2, R_1_3, R_1_4, R_1_5, R_1_6, R_32_0, R_32_1, R_32_2, R_36_0, R_36_1, R_36_2, R_36_3, R_37_0, R_37_1, R_37_2, R_68_0, R_70_0, R_164_0, R_164_1, R_164_3, R_164_5, R_164_6, R_164_7, R_164_8, R_164_10, R_164_11, R_2_4, R_2_5, ok_1, ok_32, ok_36, ok_37, ok_68, ok_70, ok_164, ok_2, ok_3, sz_3, ok_4, sz_4, ok_33, sz_33, ok_34, sz_34, ok_35, sz_35, ok_38, sz_38, ok_39, sz_39, ok_40, sz_40, ok_41, sz_41, ok_66, sz_66, ok_67, sz_67, ok_69, sz_69, ok_71, sz_71, ok_162, sz_162, ok_163, sz_163, ok_165, sz_165, ok_166, sz_166, ok_167, sz_167, ok_168, sz_168, ok_169, sz_169, ok_170, sz_170, ok_171, sz_171, ok_172, sz_172, ok_173, sz_173, tn_0, tn_1, tn_2, tn_3, tn_4, tn_5, tn_6, tn_7, tn_8, tn_9, tn_10, tn_11, tn_12, tn_13, tn_14, tn_15, tn_16, tn_17, tn_18, tn_19, tn_20, tn_21, tn_22, tn_23, tn_24, tn_25, tn_26, tn_27, in_0, in_1, in_2, in_3, in_4, in_5, in_6, in_7, in_8, in_9, in_10, in_11, in_12, in_13, in_14, in_15, in_16, in_17, in_18, in_19, in_20, in_21, in_22, in_23, in_24, in_25, in_26, in_27, e_rf_s]
theorem c_X9_isNode {a : Int32}  : Wp xs L kX9_isNode_0 [(0, .ref (164 : Nat)), (1, .int a)] [] (173, m, e_rs sv) Q = Q (some (.int (e_b (¬ a < 1 ∧ ¬ m 165 3 < a))), (173, m, e_rs sv)) := by
  simp only [r_aload_n, r_copy, r_fmod, r_getf0, r_getf1, r_getf2, r_iald, r_iconst, r_iload_n, r_iret0, r_iret1, r_mabs, r_mmax, r_mmin, r_nop, kX9_isNode_0, lX9_isNode_0, vX9_in, e_wi_s, e_wr_s, e_wl_s, e_lk, e_sto, e_ok, e_no, e_isL, Option.toList_some, Option.toList_none, List.cons_append, List.nil_append, List.length_cons, List.length_nil, Bool.not_false, Bool.not_true, Bool.and_true, Bool.true_and, Bool.false_and, Bool.and_false, Bool.and_self, Nat.reduceBEq, Nat.reduceAdd, Nat.reduceEqDiff, Nat.reduceLeDiff, Nat.reduceLT, Nat.zero_le, Nat.le_refl, if_true, if_false, ite_true, ite_false, true_and, and_true, true_or, or_true, not_false_eq_true, not_true_eq_false, e_set_self, Nat.succ_ne_zero, eq_self, c_X9_in, e_set_slot, zero_01, one_01, e_b_0, e_b_01, or_self, false_and, and_false, or_false, false_or, R_1_0, R_1_1, R_1_2, R_1_3, R_1_4, R_1_5, R_1_6, R_32_0, R_32_1, R_32_2, R_36_0, R_36_1, R_36_2, R_36_3, R_37_0, R_37_1, R_37_2, R_68_0, R_70_0, R_164_0, R_164_1, R_164_3, R_164_5, R_164_6, R_164_7, R_164_8, R_164_10, R_164_11, R_2_4, R_2_5, ok_1, ok_32, ok_36, ok_37, ok_68, ok_70, ok_164, ok_2, ok_3, sz_3, ok_4, sz_4, ok_33, sz_33, ok_34, sz_34, ok_35, sz_35, ok_38, sz_38, ok_39, sz_39, ok_40, sz_40, ok_41, sz_41, ok_66, sz_66, ok_67, sz_67, ok_69, sz_69, ok_71, sz_71, ok_162, sz_162, ok_163, sz_163, ok_165, sz_165, ok_166, sz_166, ok_167, sz_167, ok_168, sz_168, ok_169, sz_169, ok_170, sz_170, ok_171, sz_171, ok_172, sz_172, ok_173, sz_173, tn_0, tn_1, tn_2, tn_3, tn_4, tn_5, tn_6, tn_7, tn_8, tn_9, tn_10, tn_11, tn_12, tn_13, tn_14, tn_15, tn_16, tn_17, tn_18, tn_19, tn_20, tn_21, tn_22, tn_23, tn_24, tn_25, tn_26, tn_27, in_0, in_1, in_2, in_3, in_4, in_5, in_6, in_7, in_8, in_9, in_10, in_11, in_12, in_13, in_14, in_15, in_16, in_17, in_18, in_19, in_20, in_21, in_22, in_23, in_24, in_25, in_26, in_27, e_rf_s]
theorem c_X0_isByTime  {q : Nat} (hq : e_okc q 0 = true) : Wp xs L kX0_isByTime_0 [(0, .ref q)] [] (173, m, r) Q = Q (some (.int (e_b (¬ m q 0 = 0 ∧ m q 2 = 1))), (173, m, r)) := by
  simp only [r_aload_n, r_getf0, r_getf1, r_getf2, r_goto, r_ic_ne, r_iconst, r_if_eq, r_iret0, r_iret1, r_nop, kX0_isByTime_0, kX0_isByTime_19, kX0_isByTime_20, lX0_isByTime_0, lX0_isByTime_19, lX0_isByTime_20, e_wi_s, e_wr_s, e_wl_s, e_lk, e_sto, e_ok, e_no, e_isL, Option.toList_some, Option.toList_none, List.cons_append, List.nil_append, List.length_cons, List.length_nil, Bool.not_false, Bool.not_true, Bool.and_true, Bool.true_and, Bool.false_and, Bool.and_false, Bool.and_self, Nat.reduceBEq, Nat.reduceAdd, Nat.reduceEqDiff, Nat.reduceLeDiff, Nat.reduceLT, Nat.zero_le, Nat.le_refl, if_true, if_false, ite_true, ite_false, true_and, and_true, true_or, or_true, not_false_eq_true, not_true_eq_false, e_set_self, Nat.succ_ne_zero, eq_self, hq, e_set_slot, zero_01, one_01, e_b_0, e_b_01, or_self, false_and, and_false, or_false, false_or, R_1_0, R_1_1, R_1_2, R_1_3, R_1_4, R_1_5, R_1_6, R_32_0, R_32_1, R_32_2, R_36_0, R_36_1, R_36_2, R_36_3, R_37_0, R_37_1, R_37_2, R_68_0, R_70_0, R_164_0, R_164_1, R_164_3, R_164_5, R_164_6, R_164_7, R_164_8, R_164_10, R_164_11, R_2_4, R_2_5, ok_1, ok_32, ok_36, ok_37, ok_68, ok_70, ok_164, ok_2, ok_3, sz_3, ok_4, sz_4, ok_33, sz_33, ok_34, sz_34, ok_35, sz_35, ok_38, sz_38, ok_39, sz_39, ok_40, sz_40, ok_41, sz_41, ok_66, sz_66, ok_67, sz_67, ok_69, sz_69, ok_71, sz_71, ok_162, sz_162, ok_163, sz_163, ok_165, sz_165, ok_166, sz_166, ok_167, sz_167, ok_168, sz_168, ok_169, sz_169, ok_170, sz_170, ok_171, sz_171, ok_172, sz_172, ok_173, sz_173, tn_0, tn_1, tn_2, tn_3, tn_4, tn_5, tn_6, tn_7, tn_8, tn_9, tn_10, tn_11, tn_12, tn_13, tn_14, tn_15, tn_16, tn_17, tn_18, tn_19, tn_20, tn_21, tn_22, tn_23, tn_24, tn_25, tn_26, tn_27, in_0, in_1, in_2, in_3, in_4, in_5, in_6, in_7, in_8, in_9, in_10, in_11, in_12, in_13, in_14, in_15, in_16, in_17, in_18, in_19, in_20, in_21, in_22, in_23, in_24, in_25, in_26, in_27, e_rf_s]
  (repeat' split) <;> first | rfl | (simp_all [-Int32.not_lt, -Int32.not_le, e_b]; done) | grind [e_b]
theorem c_X0_isByFlow  {q : Nat} (hq : e_okc q 0 = true) : Wp xs L kX0_isByFlow_0 [(0, .ref q)] [] (173, m, r) Q = Q (some (.int (e_b (¬ m q 0 = 0 ∧ m q 2 = 2))), (173, m, r)) := by
  simp only [r_aload_n, r_getf0, r_getf1, r_getf2, r_goto, r_ic_ne, r_iconst, r_if_eq, r_iret0, r_iret1, r_nop, kX0_isByFlow_0, kX0_isByFlow_19, kX0_isByFlow_20, lX0_isByFlow_0, lX0_isByFlow_19, lX0_isByFlow_20, e_wi_s, e_wr_s, e_wl_s, e_lk, e_sto, e_ok, e_no, e_isL, Option.toList_some, Option.toList_none, List.cons_append, List.nil_append, List.length_cons, List.length_nil, Bool.not_false, Bool.not_true, Bool.and_true, Bool.true_and, Bool.false_and, Bool.and_false, Bool.and_self, Nat.reduceBEq, Nat.reduceAdd, Nat.reduceEqDiff, Nat.reduceLeDiff, Nat.reduceLT, Nat.zero_le, Nat.le_refl, if_true, if_false, ite_true, ite_false, true_and, and_true, true_or, or_true, not_false_eq_true, not_true_eq_false, e_set_self, Nat.succ_ne_zero, eq_self, hq, e_set_slot, zero_01, one_01, e_b_0, e_b_01, or_self, false_and, and_false, or_false, false_or, R_1_0, R_1_1, R_1_2, R_1_3, R_1_4, R_1_5, R_1_6, R_32_0, R_32_1, R_32_2, R_36_0, R_36_1, R_36_2, R_36_3, R_37_0, R_37_1, R_37_2, R_68_0, R_70_0, R_164_0, R_164_1, R_164_3, R_164_5, R_164_6, R_164_7, R_164_8, R_164_10, R_164_11, R_2_4, R_2_5, ok_1, ok_32, ok_36, ok_37, ok_68, ok_70, ok_164, ok_2, ok_3, sz_3, ok_4, sz_4, ok_33, sz_33, ok_34, sz_34, ok_35, sz_35, ok_38, sz_38, ok_39, sz_39, ok_40, sz_40, ok_41, sz_41, ok_66, sz_66, ok_67, sz_67, ok_69, sz_69, ok_71, sz_71, ok_162, sz_162, ok_163, sz_163, ok_165, sz_165, ok_166, sz_166, ok_167, sz_167, ok_168, sz_168, ok_169, sz_169, ok_170, sz_170, ok_171, sz_171, ok_172, sz_172, ok_173, sz_173, tn_0, tn_1, tn_2, tn_3, tn_4, tn_5, tn_6, tn_7, tn_8, tn_9, tn_10, tn_11, tn_12, tn_13, tn_14, tn_15, tn_16, tn_17, tn_18, tn_19, tn_20, tn_21, tn_22, tn_23, tn_24, tn_25, tn_26, tn_27, in_0, in_1, in_2, in_3, in_4, in_5, in_6, in_7, in_8, in_9, in_10, in_11, in_12, in_13, in_14, in_15, in_16, in_17, in_18, in_19, in_20, in_21, in_22, in_23, in_24, in_25, in_26, in_27, e_rf_s]
  (repeat' split) <;> first | rfl | (simp_all [-Int32.not_lt, -Int32.not_le, e_b]; done) | grind [e_b]
theorem c_X0_isOnByTime {h : Int32} {q : Nat} (hq : e_okc q 0 = true) : Wp xs L kX0_isOnByTime_0 [(0, .ref q), (1, .int h)] [] (173, m, r) Q = Q (some (.int (e_b (if m q 3 < m q 4 then ¬ h < m q 3 ∧ h < m q 4 else ¬ h < m q 3 ∨ h < m q 4))), (173, m, r)) := by
  simp only [r_aload_n, r_getf0, r_getf1, r_getf2, r_goto, r_ic_ge, r_ic_gt, r_iconst, r_iload_n, r_iret0, r_iret1, r_nop, kX0_isOnByTime_0, kX0_isOnByTime_31, kX0_isOnByTime_35, kX0_isOnByTime_51, kX0_isOnByTime_55, kX0_isOnByTime_56, lX0_isOnByTime_0, lX0_isOnByTime_31, lX0_isOnByTime_35, lX0_isOnByTime_51, lX0_isOnByTime_55, lX0_isOnByTime_56, e_wi_s, e_wr_s, e_wl_s, e_lk, e_sto, e_ok, e_no, e_isL, Option.toList_some, Option.toList_none, List.cons_append, List.nil_append, List.length_cons, List.length_nil, Bool.not_false, Bool.not_true, Bool.and_true, Bool.true_and, Bool.false_and, Bool.and_false, Bool.and_self, Nat.reduceBEq, Nat.reduceAdd, Nat.reduceEqDiff, Nat.reduceLeDiff, Nat.reduceLT, Nat.zero_le, Nat.le_refl, if_true, if_false, ite_true, ite_false, true_and, and_true, true_or, or_true, not_false_eq_true, not_true_eq_false, e_set_self, Nat.succ_ne_zero, eq_self, hq, e_set_slot, zero_01, one_01, e_b_0, e_b_01, or_self, false_and, and_false, or_false, false_or, R_1_0, R_1_1, R_1_2, R_1_3, R_1_4, R_1_5, R_1_6, R_32_0, R_32_1, R_32_2, R_36_0, R_36_1, R_36_2, R_36_3, R_37_0, R_37_1, R_37_2, R_68_0, R_70_0, R_164_0, R_164_1, R_164_3, R_164_5, R_164_6, R_164_7, R_164_8, R_164_10, R_164_11, R_2_4, R_2_5, ok_1, ok_32, ok_36, ok_37, ok_68, ok_70, ok_164, ok_2, ok_3, sz_3, ok_4, sz_4, ok_33, sz_33, ok_34, sz_34, ok_35, sz_35, ok_38, sz_38, ok_39, sz_39, ok_40, sz_40, ok_41, sz_41, ok_66, sz_66, ok_67, sz_67, ok_69, sz_69, ok_71, sz_71, ok_162, sz_162, ok_163, sz_163, ok_165, sz_165, ok_166, sz_166, ok_167, sz_167, ok_168, sz_168, ok_169, sz_169, ok_170, sz_170, ok_171, sz_171, ok_172, sz_172, ok_173, sz_173, tn_0, tn_1, tn_2, tn_3, tn_4, tn_5, tn_6, tn_7, tn_8, tn_9, tn_10, tn_11, tn_12, tn_13, tn_14, tn_15, tn_16, tn_17, tn_18, tn_19, tn_20, tn_21, tn_22, tn_23, tn_24, tn_25, tn_26, tn_27, in_0, in_1, in_2, in_3, in_4, in_5, in_6, in_7, in_8, in_9, in_10, in_11, in_12, in_13, in_14, in_15, in_16, in_17, in_18, in_19, in_20, in_21, in_22, in_23, in_24, in_25, in_26, in_27, e_rf_s]
  (repeat' split) <;> first | rfl | (simp_all [-Int32.not_lt, -Int32.not_le, e_b]; done) | grind [e_b]
theorem c_X0_supply {h pl : Int32} {q : Nat} (hq : e_okc q 0 = true) : Wp xs L kX0_supply_0 [(0, .ref q), (1, .int h), (2, .int pl)] [] (173, m, r) Q = Q (some (.int (if (if ¬ pl = 0 ∧ ¬ m q 0 = 0 ∧ m q 2 = 1 then (if m q 3 < m q 4 then ¬ h < m q 3 ∧ h < m q 4 else ¬ h < m q 3 ∨ h < m q 4) else ¬ m q 6 = 0) then m q 1 else 0)), (173, m, r)) := by
  simp only [r_aload_n, r_getf0, r_getf1, r_getf2, r_goto, r_iconst, r_if_eq, r_iload_n, r_iret0, r_iret1, r_istore_n, r_nop, kX0_supply_0, kX0_supply_19, kX0_supply_23, kX0_supply_35, kX0_supply_36, lX0_supply_0, lX0_supply_19, lX0_supply_23, lX0_supply_35, lX0_supply_36, vX0_isByTime, vX0_isOnByTime, e_wi_s, e_wr_s, e_wl_s, e_lk, e_sto, e_ok, e_no, e_isL, Option.toList_some, Option.toList_none, List.cons_append, List.nil_append, List.length_cons, List.length_nil, Bool.not_false, Bool.not_true, Bool.and_true, Bool.true_and, Bool.false_and, Bool.and_false, Bool.and_self, Nat.reduceBEq, Nat.reduceAdd, Nat.reduceEqDiff, Nat.reduceLeDiff, Nat.reduceLT, Nat.zero_le, Nat.le_refl, if_true, if_false, ite_true, ite_false, true_and, and_true, true_or, or_true, not_false_eq_true, not_true_eq_false, e_set_self, Nat.succ_ne_zero, eq_self, hq, c_X0_isByTime hq, c_X0_isOnByTime hq, e_set_slot, zero_01, one_01, e_b_0, e_b_01, or_self, false_and, and_false, or_false, false_or, R_1_0, R_1_1, R_1_2, R_1_3, R_1_4, R_1_5, R_1_6, R_32_0, R_32_1, R_32_2, R_36_0, R_36_1, R_36_2, R_36_3, R_37_0, R_37_1, R_37_2, R_68_0, R_70_0, R_164_0, R_164_1, R_164_3, R_164_5, R_164_6, R_164_7, R_164_8, R_164_10, R_164_11, R_2_4, R_2_5, ok_1, ok_32, ok_36, ok_37, ok_68, ok_70, ok_164, ok_2, ok_3, sz_3, ok_4, sz_4, ok_33, sz_33, ok_34, sz_34, ok_35, sz_35, ok_38, sz_38, ok_39, sz_39, ok_40, sz_40, ok_41, sz_41, ok_66, sz_66, ok_67, sz_67, ok_69, sz_69, ok_71, sz_71, ok_162, sz_162, ok_163, sz_163, ok_165, sz_165, ok_166, sz_166, ok_167, sz_167, ok_168, sz_168, ok_169, sz_169, ok_170, sz_170, ok_171, sz_171, ok_172, sz_172, ok_173, sz_173, tn_0, tn_1, tn_2, tn_3, tn_4, tn_5, tn_6, tn_7, tn_8, tn_9, tn_10, tn_11, tn_12, tn_13, tn_14, tn_15, tn_16, tn_17, tn_18, tn_19, tn_20, tn_21, tn_22, tn_23, tn_24, tn_25, tn_26, tn_27, in_0, in_1, in_2, in_3, in_4, in_5, in_6, in_7, in_8, in_9, in_10, in_11, in_12, in_13, in_14, in_15, in_16, in_17, in_18, in_19, in_20, in_21, in_22, in_23, in_24, in_25, in_26, in_27, e_rf_s]
  (repeat' split) <;> first | rfl | (simp_all [-Int32.not_lt, -Int32.not_le, e_b]; done) | grind [e_b]
theorem c_X0_countMinute {f : Int32} {q : Nat} (hq : e_okc q 0 = true) : Wp xs L kX0_countMinute_0 [(0, .ref q), (1, .int f)] [] (173, m, r) Q = Q (none, (173, e_set m q 7 (if (if m q 6 = 0 then m q 4 < f else f < m q 3) then m q 7 + 1 else 0), r)) := by
  simp only [r_aload_n, r_getf0, r_getf1, r_getf2, r_goto, r_iadd, r_ic_ge, r_ic_le, r_iconst, r_if_eq, r_iload_n, r_istore_n, r_nop, r_putf0, r_putf1, r_ret, kX0_countMinute_0, kX0_countMinute_19, kX0_countMinute_23, kX0_countMinute_35, kX0_countMinute_36, kX0_countMinute_51, kX0_countMinute_52, lX0_countMinute_0, lX0_countMinute_19, lX0_countMinute_23, lX0_countMinute_35, lX0_countMinute_36, lX0_countMinute_51, lX0_countMinute_52, e_wi_s, e_wr_s, e_wl_s, e_lk, e_sto, e_ok, e_no, e_isL, Option.toList_some, Option.toList_none, List.cons_append, List.nil_append, List.length_cons, List.length_nil, Bool.not_false, Bool.not_true, Bool.and_true, Bool.true_and, Bool.false_and, Bool.and_false, Bool.and_self, Nat.reduceBEq, Nat.reduceAdd, Nat.reduceEqDiff, Nat.reduceLeDiff, Nat.reduceLT, Nat.zero_le, Nat.le_refl, if_true, if_false, ite_true, ite_false, true_and, and_true, true_or, or_true, not_false_eq_true, not_true_eq_false, e_set_self, Nat.succ_ne_zero, eq_self, hq, e_set_slot, zero_01, one_01, e_b_0, e_b_01, or_self, false_and, and_false, or_false, false_or, R_1_0, R_1_1, R_1_2, R_1_3, R_1_4, R_1_5, R_1_6, R_32_0, R_32_1, R_32_2, R_36_0, R_36_1, R_36_2, R_36_3, R_37_0, R_37_1, R_37_2, R_68_0, R_70_0, R_164_0, R_164_1, R_164_3, R_164_5, R_164_6, R_164_7, R_164_8, R_164_10, R_164_11, R_2_4, R_2_5, ok_1, ok_32, ok_36, ok_37, ok_68, ok_70, ok_164, ok_2, ok_3, sz_3, ok_4, sz_4, ok_33, sz_33, ok_34, sz_34, ok_35, sz_35, ok_38, sz_38, ok_39, sz_39, ok_40, sz_40, ok_41, sz_41, ok_66, sz_66, ok_67, sz_67, ok_69, sz_69, ok_71, sz_71, ok_162, sz_162, ok_163, sz_163, ok_165, sz_165, ok_166, sz_166, ok_167, sz_167, ok_168, sz_168, ok_169, sz_169, ok_170, sz_170, ok_171, sz_171, ok_172, sz_172, ok_173, sz_173, tn_0, tn_1, tn_2, tn_3, tn_4, tn_5, tn_6, tn_7, tn_8, tn_9, tn_10, tn_11, tn_12, tn_13, tn_14, tn_15, tn_16, tn_17, tn_18, tn_19, tn_20, tn_21, tn_22, tn_23, tn_24, tn_25, tn_26, tn_27, in_0, in_1, in_2, in_3, in_4, in_5, in_6, in_7, in_8, in_9, in_10, in_11, in_12, in_13, in_14, in_15, in_16, in_17, in_18, in_19, in_20, in_21, in_22, in_23, in_24, in_25, in_26, in_27, e_rf_s]
  (repeat' split) <;> first | rfl | (simp_all [-Int32.not_lt, -Int32.not_le, e_b]; done) | grind [e_b]
theorem c_X0_isDue  {q : Nat} (hq : e_okc q 0 = true) : Wp xs L kX0_isDue_0 [(0, .ref q)] [] (173, m, r) Q = Q (some (.int (e_b (m q 5 < m q 7))), (173, m, r)) := by
  simp only [r_aload_n, r_getf0, r_getf1, r_getf2, r_goto, r_ic_le, r_iconst, r_iret0, r_iret1, r_nop, kX0_isDue_0, kX0_isDue_15, kX0_isDue_16, lX0_isDue_0, lX0_isDue_15, lX0_isDue_16, e_wi_s, e_wr_s, e_wl_s, e_lk, e_sto, e_ok, e_no, e_isL, Option.toList_some, Option.toList_none, List.cons_append, List.nil_append, List.length_cons, List.length_nil, Bool.not_false, Bool.not_true, Bool.and_true, Bool.true_and, Bool.false_and, Bool.and_false, Bool.and_self, Nat.reduceBEq, Nat.reduceAdd, Nat.reduceEqDiff, Nat.reduceLeDiff, Nat.reduceLT, Nat.zero_le, Nat.le_refl, if_true, if_false, ite_true, ite_false, true_and, and_true, true_or, or_true, not_false_eq_true, not_true_eq_false, e_set_self, Nat.succ_ne_zero, eq_self, hq, e_set_slot, zero_01, one_01, e_b_0, e_b_01, or_self, false_and, and_false, or_false, false_or, R_1_0, R_1_1, R_1_2, R_1_3, R_1_4, R_1_5, R_1_6, R_32_0, R_32_1, R_32_2, R_36_0, R_36_1, R_36_2, R_36_3, R_37_0, R_37_1, R_37_2, R_68_0, R_70_0, R_164_0, R_164_1, R_164_3, R_164_5, R_164_6, R_164_7, R_164_8, R_164_10, R_164_11, R_2_4, R_2_5, ok_1, ok_32, ok_36, ok_37, ok_68, ok_70, ok_164, ok_2, ok_3, sz_3, ok_4, sz_4, ok_33, sz_33, ok_34, sz_34, ok_35, sz_35, ok_38, sz_38, ok_39, sz_39, ok_40, sz_40, ok_41, sz_41, ok_66, sz_66, ok_67, sz_67, ok_69, sz_69, ok_71, sz_71, ok_162, sz_162, ok_163, sz_163, ok_165, sz_165, ok_166, sz_166, ok_167, sz_167, ok_168, sz_168, ok_169, sz_169, ok_170, sz_170, ok_171, sz_171, ok_172, sz_172, ok_173, sz_173, tn_0, tn_1, tn_2, tn_3, tn_4, tn_5, tn_6, tn_7, tn_8, tn_9, tn_10, tn_11, tn_12, tn_13, tn_14, tn_15, tn_16, tn_17, tn_18, tn_19, tn_20, tn_21, tn_22, tn_23, tn_24, tn_25, tn_26, tn_27, in_0, in_1, in_2, in_3, in_4, in_5, in_6, in_7, in_8, in_9, in_10, in_11, in_12, in_13, in_14, in_15, in_16, in_17, in_18, in_19, in_20, in_21, in_22, in_23, in_24, in_25, in_26, in_27, e_rf_s]
  (repeat' split) <;> first | rfl | (simp_all [-Int32.not_lt, -Int32.not_le, e_b]; done) | grind [e_b]
theorem c_X0_change  {q : Nat} (hq : e_okc q 0 = true) : Wp xs L kX0_change_0 [(0, .ref q)] [] (173, m, r) Q = Q (none, (173, e_set (e_set m q 6 (e_b (m q 6 = 0))) q 7 0, r)) := by
  simp only [r_aload_n, r_getf0, r_getf1, r_getf2, r_goto, r_iconst, r_if_ne, r_nop, r_putf0, r_putf1, r_ret, kX0_change_0, kX0_change_12, kX0_change_13, lX0_change_0, lX0_change_12, lX0_change_13, e_wi_s, e_wr_s, e_wl_s, e_lk, e_sto, e_ok, e_no, e_isL, Option.toList_some, Option.toList_none, List.cons_append, List.nil_append, List.length_cons, List.length_nil, Bool.not_false, Bool.not_true, Bool.and_true, Bool.true_and, Bool.false_and, Bool.and_false, Bool.and_self, Nat.reduceBEq, Nat.reduceAdd, Nat.reduceEqDiff, Nat.reduceLeDiff, Nat.reduceLT, Nat.zero_le, Nat.le_refl, if_true, if_false, ite_true, ite_false, true_and, and_true, true_or, or_true, not_false_eq_true, not_true_eq_false, e_set_self, Nat.succ_ne_zero, eq_self, hq, e_set_slot, zero_01, one_01, e_b_0, e_b_01, or_self, false_and, and_false, or_false, false_or, R_1_0, R_1_1, R_1_2, R_1_3, R_1_4, R_1_5, R_1_6, R_32_0, R_32_1, R_32_2, R_36_0, R_36_1, R_36_2, R_36_3, R_37_0, R_37_1, R_37_2, R_68_0, R_70_0, R_164_0, R_164_1, R_164_3, R_164_5, R_164_6, R_164_7, R_164_8, R_164_10, R_164_11, R_2_4, R_2_5, ok_1, ok_32, ok_36, ok_37, ok_68, ok_70, ok_164, ok_2, ok_3, sz_3, ok_4, sz_4, ok_33, sz_33, ok_34, sz_34, ok_35, sz_35, ok_38, sz_38, ok_39, sz_39, ok_40, sz_40, ok_41, sz_41, ok_66, sz_66, ok_67, sz_67, ok_69, sz_69, ok_71, sz_71, ok_162, sz_162, ok_163, sz_163, ok_165, sz_165, ok_166, sz_166, ok_167, sz_167, ok_168, sz_168, ok_169, sz_169, ok_170, sz_170, ok_171, sz_171, ok_172, sz_172, ok_173, sz_173, tn_0, tn_1, tn_2, tn_3, tn_4, tn_5, tn_6, tn_7, tn_8, tn_9, tn_10, tn_11, tn_12, tn_13, tn_14, tn_15, tn_16, tn_17, tn_18, tn_19, tn_20, tn_21, tn_22, tn_23, tn_24, tn_25, tn_26, tn_27, in_0, in_1, in_2, in_3, in_4, in_5, in_6, in_7, in_8, in_9, in_10, in_11, in_12, in_13, in_14, in_15, in_16, in_17, in_18, in_19, in_20, in_21, in_22, in_23, in_24, in_25, in_26, in_27, e_rf_s]
  (repeat' split) <;> first | rfl | (simp_all [-Int32.not_lt, -Int32.not_le, e_b]; done) | grind [e_b]
theorem c_X7_release  {q : Nat} (hq : e_okc q 7 = true) : Wp xs L kX7_release_0 [(0, .ref q)] [] (173, m, r) Q = Q (none, (173, e_set (e_set m q 8 0) q 11 0, r)) := by
  simp only [r_aload_n, r_iconst, r_nop, r_putf0, r_putf1, r_ret, kX7_release_0, lX7_release_0, e_wi_s, e_wr_s, e_wl_s, e_lk, e_sto, e_ok, e_no, e_isL, Option.toList_some, Option.toList_none, List.cons_append, List.nil_append, List.length_cons, List.length_nil, Bool.not_false, Bool.not_true, Bool.and_true, Bool.true_and, Bool.false_and, Bool.and_false, Bool.and_self, Nat.reduceBEq, Nat.reduceAdd, Nat.reduceEqDiff, Nat.reduceLeDiff, Nat.reduceLT, Nat.zero_le, Nat.le_refl, if_true, if_false, ite_true, ite_false, true_and, and_true, true_or, or_true, not_false_eq_true, not_true_eq_false, e_set_self, Nat.succ_ne_zero, eq_self, hq, e_set_slot, zero_01, one_01, e_b_0, e_b_01, or_self, false_and, and_false, or_false, false_or, R_1_0, R_1_1, R_1_2, R_1_3, R_1_4, R_1_5, R_1_6, R_32_0, R_32_1, R_32_2, R_36_0, R_36_1, R_36_2, R_36_3, R_37_0, R_37_1, R_37_2, R_68_0, R_70_0, R_164_0, R_164_1, R_164_3, R_164_5, R_164_6, R_164_7, R_164_8, R_164_10, R_164_11, R_2_4, R_2_5, ok_1, ok_32, ok_36, ok_37, ok_68, ok_70, ok_164, ok_2, ok_3, sz_3, ok_4, sz_4, ok_33, sz_33, ok_34, sz_34, ok_35, sz_35, ok_38, sz_38, ok_39, sz_39, ok_40, sz_40, ok_41, sz_41, ok_66, sz_66, ok_67, sz_67, ok_69, sz_69, ok_71, sz_71, ok_162, sz_162, ok_163, sz_163, ok_165, sz_165, ok_166, sz_166, ok_167, sz_167, ok_168, sz_168, ok_169, sz_169, ok_170, sz_170, ok_171, sz_171, ok_172, sz_172, ok_173, sz_173, tn_0, tn_1, tn_2, tn_3, tn_4, tn_5, tn_6, tn_7, tn_8, tn_9, tn_10, tn_11, tn_12, tn_13, tn_14, tn_15, tn_16, tn_17, tn_18, tn_19, tn_20, tn_21, tn_22, tn_23, tn_24, tn_25, tn_26, tn_27, in_0, in_1, in_2, in_3, in_4, in_5, in_6, in_7, in_8, in_9, in_10, in_11, in_12, in_13, in_14, in_15, in_16, in_17, in_18, in_19, in_20, in_21, in_22, in_23, in_24, in_25, in_26, in_27, e_rf_s]
theorem c_X7_wantedDirection {u f : Int32} {q : Nat} (hq : e_okc q 7 = true) : Wp xs L kX7_wantedDirection_0 [(0, .ref q), (1, .int u), (2, .int f)] [] (173, m, r) Q = Q (some (.int (if ¬ m q 8 = 0 ∨ (¬ m q 4 = 0 ∧ f < 0) then 0 else if u < m q 1 - m q 2 ∧ m q 5 < 16 then 1 else if m q 1 + m q 2 < u ∧ -16 < m q 5 then -1 else 0)), (173, m, r)) := by
  simp only [r_aload_n, r_bipush, r_getf0, r_getf1, r_getf2, r_goto, r_iadd, r_ic_ge, r_ic_le, r_iconst, r_if_eq, r_if_ge, r_if_ne, r_iload_n, r_iret0, r_iret1, r_isub, r_nop, kX7_wantedDirection_0, kX7_wantedDirection_18, kX7_wantedDirection_20, kX7_wantedDirection_44, kX7_wantedDirection_70, kX7_wantedDirection_71, lX7_wantedDirection_0, lX7_wantedDirection_18, lX7_wantedDirection_20, lX7_wantedDirection_44, lX7_wantedDirection_70, lX7_wantedDirection_71, e_wi_s, e_wr_s, e_wl_s, e_lk, e_sto, e_ok, e_no, e_isL, Option.toList_some, Option.toList_none, List.cons_append, List.nil_append, List.length_cons, List.length_nil, Bool.not_false, Bool.not_true, Bool.and_true, Bool.true_and, Bool.false_and, Bool.and_false, Bool.and_self, Nat.reduceBEq, Nat.reduceAdd, Nat.reduceEqDiff, Nat.reduceLeDiff, Nat.reduceLT, Nat.zero_le, Nat.le_refl, if_true, if_false, ite_true, ite_false, true_and, and_true, true_or, or_true, not_false_eq_true, not_true_eq_false, e_set_self, Nat.succ_ne_zero, eq_self, hq, e_set_slot, zero_01, one_01, e_b_0, e_b_01, or_self, false_and, and_false, or_false, false_or, R_1_0, R_1_1, R_1_2, R_1_3, R_1_4, R_1_5, R_1_6, R_32_0, R_32_1, R_32_2, R_36_0, R_36_1, R_36_2, R_36_3, R_37_0, R_37_1, R_37_2, R_68_0, R_70_0, R_164_0, R_164_1, R_164_3, R_164_5, R_164_6, R_164_7, R_164_8, R_164_10, R_164_11, R_2_4, R_2_5, ok_1, ok_32, ok_36, ok_37, ok_68, ok_70, ok_164, ok_2, ok_3, sz_3, ok_4, sz_4, ok_33, sz_33, ok_34, sz_34, ok_35, sz_35, ok_38, sz_38, ok_39, sz_39, ok_40, sz_40, ok_41, sz_41, ok_66, sz_66, ok_67, sz_67, ok_69, sz_69, ok_71, sz_71, ok_162, sz_162, ok_163, sz_163, ok_165, sz_165, ok_166, sz_166, ok_167, sz_167, ok_168, sz_168, ok_169, sz_169, ok_170, sz_170, ok_171, sz_171, ok_172, sz_172, ok_173, sz_173, tn_0, tn_1, tn_2, tn_3, tn_4, tn_5, tn_6, tn_7, tn_8, tn_9, tn_10, tn_11, tn_12, tn_13, tn_14, tn_15, tn_16, tn_17, tn_18, tn_19, tn_20, tn_21, tn_22, tn_23, tn_24, tn_25, tn_26, tn_27, in_0, in_1, in_2, in_3, in_4, in_5, in_6, in_7, in_8, in_9, in_10, in_11, in_12, in_13, in_14, in_15, in_16, in_17, in_18, in_19, in_20, in_21, in_22, in_23, in_24, in_25, in_26, in_27, e_rf_s]
  (repeat' split) <;> first | rfl | (simp_all [-Int32.not_lt, -Int32.not_le, e_b]; done) | grind [e_b]
theorem c_X7_countMinute {d : Int32} {q : Nat} (hq : e_okc q 7 = true) : Wp xs L kX7_countMinute_0 [(0, .ref q), (1, .int d)] [] (173, m, r) Q = Q (none, (173, e_set (e_set m q 6 (if d = 0 then 0 else if d = -(m q 9) then 1 else m q 6 + 1)) q 9 d, r)) := by
  simp only [r_aload_n, r_dupa, r_dupi, r_getf0, r_getf1, r_getf2, r_goto, r_iadd, r_ic_ne, r_iconst, r_if_ne, r_iload_n, r_ineg, r_nop, r_putf0, r_putf1, r_ret, kX7_countMinute_0, kX7_countMinute_12, kX7_countMinute_29, kX7_countMinute_39, lX7_countMinute_0, lX7_countMinute_12, lX7_countMinute_29, lX7_countMinute_39, e_wi_s, e_wr_s, e_wl_s, e_lk, e_sto, e_ok, e_no, e_isL, Option.toList_some, Option.toList_none, List.cons_append, List.nil_append, List.length_cons, List.length_nil, Bool.not_false, Bool.not_true, Bool.and_true, Bool.true_and, Bool.false_and, Bool.and_false, Bool.and_self, Nat.reduceBEq, Nat.reduceAdd, Nat.reduceEqDiff, Nat.reduceLeDiff, Nat.reduceLT, Nat.zero_le, Nat.le_refl, if_true, if_false, ite_true, ite_false, true_and, and_true, true_or, or_true, not_false_eq_true, not_true_eq_false, e_set_self, Nat.succ_ne_zero, eq_self, hq, e_set_slot, zero_01, one_01, e_b_0, e_b_01, or_self, false_and, and_false, or_false, false_or, R_1_0, R_1_1, R_1_2, R_1_3, R_1_4, R_1_5, R_1_6, R_32_0, R_32_1, R_32_2, R_36_0, R_36_1, R_36_2, R_36_3, R_37_0, R_37_1, R_37_2, R_68_0, R_70_0, R_164_0, R_164_1, R_164_3, R_164_5, R_164_6, R_164_7, R_164_8, R_164_10, R_164_11, R_2_4, R_2_5, ok_1, ok_32, ok_36, ok_37, ok_68, ok_70, ok_164, ok_2, ok_3, sz_3, ok_4, sz_4, ok_33, sz_33, ok_34, sz_34, ok_35, sz_35, ok_38, sz_38, ok_39, sz_39, ok_40, sz_40, ok_41, sz_41, ok_66, sz_66, ok_67, sz_67, ok_69, sz_69, ok_71, sz_71, ok_162, sz_162, ok_163, sz_163, ok_165, sz_165, ok_166, sz_166, ok_167, sz_167, ok_168, sz_168, ok_169, sz_169, ok_170, sz_170, ok_171, sz_171, ok_172, sz_172, ok_173, sz_173, tn_0, tn_1, tn_2, tn_3, tn_4, tn_5, tn_6, tn_7, tn_8, tn_9, tn_10, tn_11, tn_12, tn_13, tn_14, tn_15, tn_16, tn_17, tn_18, tn_19, tn_20, tn_21, tn_22, tn_23, tn_24, tn_25, tn_26, tn_27, in_0, in_1, in_2, in_3, in_4, in_5, in_6, in_7, in_8, in_9, in_10, in_11, in_12, in_13, in_14, in_15, in_16, in_17, in_18, in_19, in_20, in_21, in_22, in_23, in_24, in_25, in_26, in_27, e_rf_s]
  (repeat' split) <;> first | rfl | (simp_all [-Int32.not_lt, -Int32.not_le, e_b]; done) | grind [e_b]
theorem c_X7_isDue  {q : Nat} (hq : e_okc q 7 = true) : Wp xs L kX7_isDue_0 [(0, .ref q)] [] (173, m, r) Q = Q (some (.int (e_b (¬ m q 9 = 0 ∧ m q 3 < m q 6))), (173, m, r)) := by
  simp only [r_aload_n, r_getf0, r_getf1, r_getf2, r_goto, r_ic_le, r_iconst, r_if_eq, r_iret0, r_iret1, r_nop, kX7_isDue_0, kX7_isDue_22, kX7_isDue_23, lX7_isDue_0, lX7_isDue_22, lX7_isDue_23, e_wi_s, e_wr_s, e_wl_s, e_lk, e_sto, e_ok, e_no, e_isL, Option.toList_some, Option.toList_none, List.cons_append, List.nil_append, List.length_cons, List.length_nil, Bool.not_false, Bool.not_true, Bool.and_true, Bool.true_and, Bool.false_and, Bool.and_false, Bool.and_self, Nat.reduceBEq, Nat.reduceAdd, Nat.reduceEqDiff, Nat.reduceLeDiff, Nat.reduceLT, Nat.zero_le, Nat.le_refl, if_true, if_false, ite_true, ite_false, true_and, and_true, true_or, or_true, not_false_eq_true, not_true_eq_false, e_set_self, Nat.succ_ne_zero, eq_self, hq, e_set_slot, zero_01, one_01, e_b_0, e_b_01, or_self, false_and, and_false, or_false, false_or, R_1_0, R_1_1, R_1_2, R_1_3, R_1_4, R_1_5, R_1_6, R_32_0, R_32_1, R_32_2, R_36_0, R_36_1, R_36_2, R_36_3, R_37_0, R_37_1, R_37_2, R_68_0, R_70_0, R_164_0, R_164_1, R_164_3, R_164_5, R_164_6, R_164_7, R_164_8, R_164_10, R_164_11, R_2_4, R_2_5, ok_1, ok_32, ok_36, ok_37, ok_68, ok_70, ok_164, ok_2, ok_3, sz_3, ok_4, sz_4, ok_33, sz_33, ok_34, sz_34, ok_35, sz_35, ok_38, sz_38, ok_39, sz_39, ok_40, sz_40, ok_41, sz_41, ok_66, sz_66, ok_67, sz_67, ok_69, sz_69, ok_71, sz_71, ok_162, sz_162, ok_163, sz_163, ok_165, sz_165, ok_166, sz_166, ok_167, sz_167, ok_168, sz_168, ok_169, sz_169, ok_170, sz_170, ok_171, sz_171, ok_172, sz_172, ok_173, sz_173, tn_0, tn_1, tn_2, tn_3, tn_4, tn_5, tn_6, tn_7, tn_8, tn_9, tn_10, tn_11, tn_12, tn_13, tn_14, tn_15, tn_16, tn_17, tn_18, tn_19, tn_20, tn_21, tn_22, tn_23, tn_24, tn_25, tn_26, tn_27, in_0, in_1, in_2, in_3, in_4, in_5, in_6, in_7, in_8, in_9, in_10, in_11, in_12, in_13, in_14, in_15, in_16, in_17, in_18, in_19, in_20, in_21, in_22, in_23, in_24, in_25, in_26, in_27, e_rf_s]
  (repeat' split) <;> first | rfl | (simp_all [-Int32.not_lt, -Int32.not_le, e_b]; done) | grind [e_b]
theorem c_X7_makeStep  {q : Nat} (hq : e_okc q 7 = true) : Wp xs L kX7_makeStep_0 [(0, .ref q)] [] (173, m, r) Q = Q (none, (173, e_set (e_set (e_set (e_set (e_set (if m q 10 = -(m q 9) then e_set (e_set m q 11 (m q 11 + 1)) q 8 (e_b (¬ m q 11 + 1 < 3)) else m) q 10 (m q 9)) q 5 (m q 5 + m q 9)) q 7 (m q 7 + 1)) q 6 0) q 9 0, r)) := by
  simp only [r_aload_n, r_dupa, r_dupi, r_getf0, r_getf1, r_getf2, r_goto, r_iadd, r_ic_lt, r_ic_ne, r_iconst, r_ineg, r_nop, r_putf0, r_putf1, r_ret, kX7_makeStep_0, kX7_makeStep_35, kX7_makeStep_36, kX7_makeStep_39, lX7_makeStep_0, lX7_makeStep_35, lX7_makeStep_36, lX7_makeStep_39, e_wi_s, e_wr_s, e_wl_s, e_lk, e_sto, e_ok, e_no, e_isL, Option.toList_some, Option.toList_none, List.cons_append, List.nil_append, List.length_cons, List.length_nil, Bool.not_false, Bool.not_true, Bool.and_true, Bool.true_and, Bool.false_and, Bool.and_false, Bool.and_self, Nat.reduceBEq, Nat.reduceAdd, Nat.reduceEqDiff, Nat.reduceLeDiff, Nat.reduceLT, Nat.zero_le, Nat.le_refl, if_true, if_false, ite_true, ite_false, true_and, and_true, true_or, or_true, not_false_eq_true, not_true_eq_false, e_set_self, Nat.succ_ne_zero, eq_self, hq, e_set_slot, zero_01, one_01, e_b_0, e_b_01, or_self, false_and, and_false, or_false, false_or, R_1_0, R_1_1, R_1_2, R_1_3, R_1_4, R_1_5, R_1_6, R_32_0, R_32_1, R_32_2, R_36_0, R_36_1, R_36_2, R_36_3, R_37_0, R_37_1, R_37_2, R_68_0, R_70_0, R_164_0, R_164_1, R_164_3, R_164_5, R_164_6, R_164_7, R_164_8, R_164_10, R_164_11, R_2_4, R_2_5, ok_1, ok_32, ok_36, ok_37, ok_68, ok_70, ok_164, ok_2, ok_3, sz_3, ok_4, sz_4, ok_33, sz_33, ok_34, sz_34, ok_35, sz_35, ok_38, sz_38, ok_39, sz_39, ok_40, sz_40, ok_41, sz_41, ok_66, sz_66, ok_67, sz_67, ok_69, sz_69, ok_71, sz_71, ok_162, sz_162, ok_163, sz_163, ok_165, sz_165, ok_166, sz_166, ok_167, sz_167, ok_168, sz_168, ok_169, sz_169, ok_170, sz_170, ok_171, sz_171, ok_172, sz_172, ok_173, sz_173, tn_0, tn_1, tn_2, tn_3, tn_4, tn_5, tn_6, tn_7, tn_8, tn_9, tn_10, tn_11, tn_12, tn_13, tn_14, tn_15, tn_16, tn_17, tn_18, tn_19, tn_20, tn_21, tn_22, tn_23, tn_24, tn_25, tn_26, tn_27, in_0, in_1, in_2, in_3, in_4, in_5, in_6, in_7, in_8, in_9, in_10, in_11, in_12, in_13, in_14, in_15, in_16, in_17, in_18, in_19, in_20, in_21, in_22, in_23, in_24, in_25, in_26, in_27, e_rf_s]
  (repeat' split) <;> first | rfl | (simp_all [-Int32.not_lt, -Int32.not_le, e_b]; done) | grind [e_b]
end P14
end
section
/-! the feeder as a table: row 0 what is of the whole, row k what is of node k, in the order of the reference -/
def e_val (k i : Nat) : Prop := (k = 0 ∧ i < 28) ∨ (1 ≤ k ∧ k ≤ 8 ∧ i < 24)
def e_valb (k i : Nat) : Bool := decide ((k = 0 ∧ i < 28) ∨ (1 ≤ k ∧ k ≤ 8 ∧ i < 24))
theorem e_valb_iff {k i : Nat} : e_valb k i = true ↔ e_val k i := by unfold e_valb e_val; exact decide_eq_true_iff
def vl (B k i : Nat) : Nat := if k = 0 then (if i < 4 then B else B + 1) else if i < 4 then nd B k else if i < 16 then rg B k else bk B k
def vs (k i : Nat) : Nat := if k = 0 then (if i = 2 then 3 else if i = 3 then 2 else if i < 4 then i else i - 4) else match i with
  | 0 => 0
  | 1 => 1
  | 2 => 2
  | 3 => 3
  | 4 => 0
  | 5 => 1
  | 6 => 2
  | 7 => 3
  | 8 => 4
  | 9 => 6
  | 10 => 5
  | 11 => 9
  | 12 => 10
  | 13 => 11
  | 14 => 8
  | 15 => 7
  | 16 => 0
  | 17 => 1
  | 18 => 2
  | 19 => 3
  | 20 => 4
  | 21 => 5
  | 22 => 7
  | 23 => 6
  | _ => 0
def vw (B : Nat) (m : Nat → Nat → Int32) (k i : Nat) : Int32 := if e_valb k i = true then m (vl B k i) (vs k i) else 0
def vi (B c s : Nat) : Nat × Nat := if c = B then (0, if s = 2 then 3 else if s = 3 then 2 else s) else if c = B + 1 then (0, s + 4) else if (c - B) % 3 = 0 then ((c - B - 3) / 3, s) else if (c - B) % 3 = 1 then ((c - B - 4) / 3, match s with
    | 0 => 4
    | 1 => 5
    | 2 => 6
    | 3 => 7
    | 4 => 8
    | 6 => 9
    | 5 => 10
    | 9 => 11
    | 10 => 12
    | 11 => 13
    | 8 => 14
    | 7 => 15
    | _ => 0)
  else ((c - B - 5) / 3, match s with
    | 0 => 16
    | 1 => 17
    | 2 => 18
    | 3 => 19
    | 4 => 20
    | 5 => 21
    | 7 => 22
    | 6 => 23
    | _ => 0)
theorem vi_vl (B : Nat) {k i : Nat} (h : e_val k i) : vi B (vl B k i) (vs k i) = (k, i) := by
  rcases h with ⟨rfl, h⟩ | ⟨h1, h2, h⟩
  · unfold vi vl vs
    simp only [if_true]
    by_cases h4 : i < 4
    · simp only [h4, if_true]
      have : i = 0 ∨ i = 1 ∨ i = 2 ∨ i = 3 := by omega
      rcases this with rfl | rfl | rfl | rfl <;> rfl
    · simp only [h4, if_false]
      rw [if_neg (show ¬ B + 1 = B by omega), if_pos trivial, if_neg (show ¬ i = 2 by omega), if_neg (show ¬ i = 3 by omega)]
      congr 1
      omega
  · have e0 : (nd B k - B) % 3 = 0 ∧ (nd B k - B - 3) / 3 = k ∧ nd B k ≠ B ∧ nd B k ≠ B + 1 := by unfold nd; omega
    have e1 : (rg B k - B) % 3 = 1 ∧ (rg B k - B - 4) / 3 = k ∧ rg B k ≠ B ∧ rg B k ≠ B + 1 := by unfold rg; omega
    have e2 : (bk B k - B) % 3 = 2 ∧ (bk B k - B - 5) / 3 = k ∧ bk B k ≠ B ∧ bk B k ≠ B + 1 := by unfold bk; omega
    have hk : ¬ k = 0 := by omega
    unfold vl vs vi
    simp only [hk, if_false]
    match i, h with
    | 0, _ => simp [e0, e1, e2]
    | 1, _ => simp [e0, e1, e2]
    | 2, _ => simp [e0, e1, e2]
    | 3, _ => simp [e0, e1, e2]
    | 4, _ => simp [e0, e1, e2]
    | 5, _ => simp [e0, e1, e2]
    | 6, _ => simp [e0, e1, e2]
    | 7, _ => simp [e0, e1, e2]
    | 8, _ => simp [e0, e1, e2]
    | 9, _ => simp [e0, e1, e2]
    | 10, _ => simp [e0, e1, e2]
    | 11, _ => simp [e0, e1, e2]
    | 12, _ => simp [e0, e1, e2]
    | 13, _ => simp [e0, e1, e2]
    | 14, _ => simp [e0, e1, e2]
    | 15, _ => simp [e0, e1, e2]
    | 16, _ => simp [e0, e1, e2]
    | 17, _ => simp [e0, e1, e2]
    | 18, _ => simp [e0, e1, e2]
    | 19, _ => simp [e0, e1, e2]
    | 20, _ => simp [e0, e1, e2]
    | 21, _ => simp [e0, e1, e2]
    | 22, _ => simp [e0, e1, e2]
    | 23, _ => simp [e0, e1, e2]
    | i + 24, h => omega
theorem vw_set {B k i : Nat} {m : Nat → Nat → Int32} {v : Int32} (h : e_val k i) : vw B (e_set m (vl B k i) (vs k i) v) = e_set (vw B m) k i v := by
  funext k' i'
  unfold vw
  by_cases hv : e_valb k' i' = true
  · rw [if_pos hv]
    unfold e_set
    by_cases he : k' = k ∧ i' = i
    · rw [he.1, he.2, if_pos ⟨rfl, rfl⟩, if_pos ⟨rfl, rfl⟩]
    · rw [if_neg he, if_neg (fun q => he ?_)]
      · exact (if_pos hv).symm
      · have e1 := vi_vl B h
        rw [← q.1, ← q.2, vi_vl B (e_valb_iff.mp hv)] at e1
        exact Prod.mk.inj e1
  · rw [if_neg hv]
    unfold e_set
    rw [if_neg (fun q => hv (by rw [q.1, q.2]; exact e_valb_iff.mpr h))]
    exact (if_neg hv).symm
theorem vl_in (B : Nat) {k i : Nat} (h : e_val k i) : B ≤ vl B k i ∧ vl B k i < B + 30 := by
  unfold vl nd rg bk
  rcases h with ⟨rfl, h⟩ | ⟨h1, h2, h⟩
  · simp only [if_true]
    split <;> omega
  · rw [if_neg (by omega)]
    split
    · omega
    · split <;> omega
theorem vw_cong {B : Nat} {m m' : Nat → Nat → Int32} (h : ∀ c, B ≤ c → c < B + 30 → m' c = m c) : vw B m' = vw B m := by
  funext k i
  unfold vw
  by_cases hv : e_valb k i = true
  · rw [if_pos hv, if_pos hv]
    have := vl_in B (e_valb_iff.mp hv)
    rw [h _ this.1 this.2]
  · rw [if_neg hv, if_neg hv]
theorem vw_out {B c s : Nat} {m : Nat → Nat → Int32} {v : Int32} (h : c < B ∨ B + 30 ≤ c) : vw B (e_set m c s v) = vw B m := vw_cong (fun c' h1 h2 => by funext s'; exact e_set_cell (by omega))
theorem vr_nd0 {B k : Nat} {m : Nat → Nat → Int32} (h1 : 1 ≤ k) (h2 : k ≤ 8) : vw B m k 0 = m (nd B k) 0 := by
  have hk : ¬ k = 0 := by omega
  unfold vw
  rw [if_pos (e_valb_iff.mpr (Or.inr ⟨h1, h2, by decide⟩))]
  unfold vl vs
  simp only [hk, if_false]
  rfl
theorem vu_nd0 {B k : Nat} {m : Nat → Nat → Int32} {v : Int32} (h1 : 1 ≤ k) (h2 : k ≤ 8) : vw B (e_set m (nd B k) 0 v) = e_set (vw B m) k 0 v := by
  have hk : ¬ k = 0 := by omega
  have h := vw_set (B := B) (m := m) (v := v) (k := k) (i := 0) (Or.inr ⟨h1, h2, by decide⟩)
  rw [← h]
  unfold vl vs
  simp only [hk, if_false]
  rfl
theorem vr_nd1 {B k : Nat} {m : Nat → Nat → Int32} (h1 : 1 ≤ k) (h2 : k ≤ 8) : vw B m k 1 = m (nd B k) 1 := by
  have hk : ¬ k = 0 := by omega
  unfold vw
  rw [if_pos (e_valb_iff.mpr (Or.inr ⟨h1, h2, by decide⟩))]
  unfold vl vs
  simp only [hk, if_false]
  rfl
theorem vu_nd1 {B k : Nat} {m : Nat → Nat → Int32} {v : Int32} (h1 : 1 ≤ k) (h2 : k ≤ 8) : vw B (e_set m (nd B k) 1 v) = e_set (vw B m) k 1 v := by
  have hk : ¬ k = 0 := by omega
  have h := vw_set (B := B) (m := m) (v := v) (k := k) (i := 1) (Or.inr ⟨h1, h2, by decide⟩)
  rw [← h]
  unfold vl vs
  simp only [hk, if_false]
  rfl
theorem vr_nd2 {B k : Nat} {m : Nat → Nat → Int32} (h1 : 1 ≤ k) (h2 : k ≤ 8) : vw B m k 2 = m (nd B k) 2 := by
  have hk : ¬ k = 0 := by omega
  unfold vw
  rw [if_pos (e_valb_iff.mpr (Or.inr ⟨h1, h2, by decide⟩))]
  unfold vl vs
  simp only [hk, if_false]
  rfl
theorem vu_nd2 {B k : Nat} {m : Nat → Nat → Int32} {v : Int32} (h1 : 1 ≤ k) (h2 : k ≤ 8) : vw B (e_set m (nd B k) 2 v) = e_set (vw B m) k 2 v := by
  have hk : ¬ k = 0 := by omega
  have h := vw_set (B := B) (m := m) (v := v) (k := k) (i := 2) (Or.inr ⟨h1, h2, by decide⟩)
  rw [← h]
  unfold vl vs
  simp only [hk, if_false]
  rfl
theorem vr_nd3 {B k : Nat} {m : Nat → Nat → Int32} (h1 : 1 ≤ k) (h2 : k ≤ 8) : vw B m k 3 = m (nd B k) 3 := by
  have hk : ¬ k = 0 := by omega
  unfold vw
  rw [if_pos (e_valb_iff.mpr (Or.inr ⟨h1, h2, by decide⟩))]
  unfold vl vs
  simp only [hk, if_false]
  rfl
theorem vu_nd3 {B k : Nat} {m : Nat → Nat → Int32} {v : Int32} (h1 : 1 ≤ k) (h2 : k ≤ 8) : vw B (e_set m (nd B k) 3 v) = e_set (vw B m) k 3 v := by
  have hk : ¬ k = 0 := by omega
  have h := vw_set (B := B) (m := m) (v := v) (k := k) (i := 3) (Or.inr ⟨h1, h2, by decide⟩)
  rw [← h]
  unfold vl vs
  simp only [hk, if_false]
  rfl
theorem vr_rg0 {B k : Nat} {m : Nat → Nat → Int32} (h1 : 1 ≤ k) (h2 : k ≤ 8) : vw B m k 4 = m (rg B k) 0 := by
  have hk : ¬ k = 0 := by omega
  unfold vw
  rw [if_pos (e_valb_iff.mpr (Or.inr ⟨h1, h2, by decide⟩))]
  unfold vl vs
  simp only [hk, if_false]
  rfl
theorem vu_rg0 {B k : Nat} {m : Nat → Nat → Int32} {v : Int32} (h1 : 1 ≤ k) (h2 : k ≤ 8) : vw B (e_set m (rg B k) 0 v) = e_set (vw B m) k 4 v := by
  have hk : ¬ k = 0 := by omega
  have h := vw_set (B := B) (m := m) (v := v) (k := k) (i := 4) (Or.inr ⟨h1, h2, by decide⟩)
  rw [← h]
  unfold vl vs
  simp only [hk, if_false]
  rfl
theorem vr_rg1 {B k : Nat} {m : Nat → Nat → Int32} (h1 : 1 ≤ k) (h2 : k ≤ 8) : vw B m k 5 = m (rg B k) 1 := by
  have hk : ¬ k = 0 := by omega
  unfold vw
  rw [if_pos (e_valb_iff.mpr (Or.inr ⟨h1, h2, by decide⟩))]
  unfold vl vs
  simp only [hk, if_false]
  rfl
theorem vu_rg1 {B k : Nat} {m : Nat → Nat → Int32} {v : Int32} (h1 : 1 ≤ k) (h2 : k ≤ 8) : vw B (e_set m (rg B k) 1 v) = e_set (vw B m) k 5 v := by
  have hk : ¬ k = 0 := by omega
  have h := vw_set (B := B) (m := m) (v := v) (k := k) (i := 5) (Or.inr ⟨h1, h2, by decide⟩)
  rw [← h]
  unfold vl vs
  simp only [hk, if_false]
  rfl
theorem vr_rg2 {B k : Nat} {m : Nat → Nat → Int32} (h1 : 1 ≤ k) (h2 : k ≤ 8) : vw B m k 6 = m (rg B k) 2 := by
  have hk : ¬ k = 0 := by omega
  unfold vw
  rw [if_pos (e_valb_iff.mpr (Or.inr ⟨h1, h2, by decide⟩))]
  unfold vl vs
  simp only [hk, if_false]
  rfl
theorem vu_rg2 {B k : Nat} {m : Nat → Nat → Int32} {v : Int32} (h1 : 1 ≤ k) (h2 : k ≤ 8) : vw B (e_set m (rg B k) 2 v) = e_set (vw B m) k 6 v := by
  have hk : ¬ k = 0 := by omega
  have h := vw_set (B := B) (m := m) (v := v) (k := k) (i := 6) (Or.inr ⟨h1, h2, by decide⟩)
  rw [← h]
  unfold vl vs
  simp only [hk, if_false]
  rfl
theorem vr_rg3 {B k : Nat} {m : Nat → Nat → Int32} (h1 : 1 ≤ k) (h2 : k ≤ 8) : vw B m k 7 = m (rg B k) 3 := by
  have hk : ¬ k = 0 := by omega
  unfold vw
  rw [if_pos (e_valb_iff.mpr (Or.inr ⟨h1, h2, by decide⟩))]
  unfold vl vs
  simp only [hk, if_false]
  rfl
theorem vu_rg3 {B k : Nat} {m : Nat → Nat → Int32} {v : Int32} (h1 : 1 ≤ k) (h2 : k ≤ 8) : vw B (e_set m (rg B k) 3 v) = e_set (vw B m) k 7 v := by
  have hk : ¬ k = 0 := by omega
  have h := vw_set (B := B) (m := m) (v := v) (k := k) (i := 7) (Or.inr ⟨h1, h2, by decide⟩)
  rw [← h]
  unfold vl vs
  simp only [hk, if_false]
  rfl
theorem vr_rg4 {B k : Nat} {m : Nat → Nat → Int32} (h1 : 1 ≤ k) (h2 : k ≤ 8) : vw B m k 8 = m (rg B k) 4 := by
  have hk : ¬ k = 0 := by omega
  unfold vw
  rw [if_pos (e_valb_iff.mpr (Or.inr ⟨h1, h2, by decide⟩))]
  unfold vl vs
  simp only [hk, if_false]
  rfl
theorem vu_rg4 {B k : Nat} {m : Nat → Nat → Int32} {v : Int32} (h1 : 1 ≤ k) (h2 : k ≤ 8) : vw B (e_set m (rg B k) 4 v) = e_set (vw B m) k 8 v := by
  have hk : ¬ k = 0 := by omega
  have h := vw_set (B := B) (m := m) (v := v) (k := k) (i := 8) (Or.inr ⟨h1, h2, by decide⟩)
  rw [← h]
  unfold vl vs
  simp only [hk, if_false]
  rfl
theorem vr_rg6 {B k : Nat} {m : Nat → Nat → Int32} (h1 : 1 ≤ k) (h2 : k ≤ 8) : vw B m k 9 = m (rg B k) 6 := by
  have hk : ¬ k = 0 := by omega
  unfold vw
  rw [if_pos (e_valb_iff.mpr (Or.inr ⟨h1, h2, by decide⟩))]
  unfold vl vs
  simp only [hk, if_false]
  rfl
theorem vu_rg6 {B k : Nat} {m : Nat → Nat → Int32} {v : Int32} (h1 : 1 ≤ k) (h2 : k ≤ 8) : vw B (e_set m (rg B k) 6 v) = e_set (vw B m) k 9 v := by
  have hk : ¬ k = 0 := by omega
  have h := vw_set (B := B) (m := m) (v := v) (k := k) (i := 9) (Or.inr ⟨h1, h2, by decide⟩)
  rw [← h]
  unfold vl vs
  simp only [hk, if_false]
  rfl
theorem vr_rg5 {B k : Nat} {m : Nat → Nat → Int32} (h1 : 1 ≤ k) (h2 : k ≤ 8) : vw B m k 10 = m (rg B k) 5 := by
  have hk : ¬ k = 0 := by omega
  unfold vw
  rw [if_pos (e_valb_iff.mpr (Or.inr ⟨h1, h2, by decide⟩))]
  unfold vl vs
  simp only [hk, if_false]
  rfl
theorem vu_rg5 {B k : Nat} {m : Nat → Nat → Int32} {v : Int32} (h1 : 1 ≤ k) (h2 : k ≤ 8) : vw B (e_set m (rg B k) 5 v) = e_set (vw B m) k 10 v := by
  have hk : ¬ k = 0 := by omega
  have h := vw_set (B := B) (m := m) (v := v) (k := k) (i := 10) (Or.inr ⟨h1, h2, by decide⟩)
  rw [← h]
  unfold vl vs
  simp only [hk, if_false]
  rfl
theorem vr_rg9 {B k : Nat} {m : Nat → Nat → Int32} (h1 : 1 ≤ k) (h2 : k ≤ 8) : vw B m k 11 = m (rg B k) 9 := by
  have hk : ¬ k = 0 := by omega
  unfold vw
  rw [if_pos (e_valb_iff.mpr (Or.inr ⟨h1, h2, by decide⟩))]
  unfold vl vs
  simp only [hk, if_false]
  rfl
theorem vu_rg9 {B k : Nat} {m : Nat → Nat → Int32} {v : Int32} (h1 : 1 ≤ k) (h2 : k ≤ 8) : vw B (e_set m (rg B k) 9 v) = e_set (vw B m) k 11 v := by
  have hk : ¬ k = 0 := by omega
  have h := vw_set (B := B) (m := m) (v := v) (k := k) (i := 11) (Or.inr ⟨h1, h2, by decide⟩)
  rw [← h]
  unfold vl vs
  simp only [hk, if_false]
  rfl
theorem vr_rg10 {B k : Nat} {m : Nat → Nat → Int32} (h1 : 1 ≤ k) (h2 : k ≤ 8) : vw B m k 12 = m (rg B k) 10 := by
  have hk : ¬ k = 0 := by omega
  unfold vw
  rw [if_pos (e_valb_iff.mpr (Or.inr ⟨h1, h2, by decide⟩))]
  unfold vl vs
  simp only [hk, if_false]
  rfl
theorem vu_rg10 {B k : Nat} {m : Nat → Nat → Int32} {v : Int32} (h1 : 1 ≤ k) (h2 : k ≤ 8) : vw B (e_set m (rg B k) 10 v) = e_set (vw B m) k 12 v := by
  have hk : ¬ k = 0 := by omega
  have h := vw_set (B := B) (m := m) (v := v) (k := k) (i := 12) (Or.inr ⟨h1, h2, by decide⟩)
  rw [← h]
  unfold vl vs
  simp only [hk, if_false]
  rfl
theorem vr_rg11 {B k : Nat} {m : Nat → Nat → Int32} (h1 : 1 ≤ k) (h2 : k ≤ 8) : vw B m k 13 = m (rg B k) 11 := by
  have hk : ¬ k = 0 := by omega
  unfold vw
  rw [if_pos (e_valb_iff.mpr (Or.inr ⟨h1, h2, by decide⟩))]
  unfold vl vs
  simp only [hk, if_false]
  rfl
theorem vu_rg11 {B k : Nat} {m : Nat → Nat → Int32} {v : Int32} (h1 : 1 ≤ k) (h2 : k ≤ 8) : vw B (e_set m (rg B k) 11 v) = e_set (vw B m) k 13 v := by
  have hk : ¬ k = 0 := by omega
  have h := vw_set (B := B) (m := m) (v := v) (k := k) (i := 13) (Or.inr ⟨h1, h2, by decide⟩)
  rw [← h]
  unfold vl vs
  simp only [hk, if_false]
  rfl
theorem vr_rg8 {B k : Nat} {m : Nat → Nat → Int32} (h1 : 1 ≤ k) (h2 : k ≤ 8) : vw B m k 14 = m (rg B k) 8 := by
  have hk : ¬ k = 0 := by omega
  unfold vw
  rw [if_pos (e_valb_iff.mpr (Or.inr ⟨h1, h2, by decide⟩))]
  unfold vl vs
  simp only [hk, if_false]
  rfl
theorem vu_rg8 {B k : Nat} {m : Nat → Nat → Int32} {v : Int32} (h1 : 1 ≤ k) (h2 : k ≤ 8) : vw B (e_set m (rg B k) 8 v) = e_set (vw B m) k 14 v := by
  have hk : ¬ k = 0 := by omega
  have h := vw_set (B := B) (m := m) (v := v) (k := k) (i := 14) (Or.inr ⟨h1, h2, by decide⟩)
  rw [← h]
  unfold vl vs
  simp only [hk, if_false]
  rfl
theorem vr_rg7 {B k : Nat} {m : Nat → Nat → Int32} (h1 : 1 ≤ k) (h2 : k ≤ 8) : vw B m k 15 = m (rg B k) 7 := by
  have hk : ¬ k = 0 := by omega
  unfold vw
  rw [if_pos (e_valb_iff.mpr (Or.inr ⟨h1, h2, by decide⟩))]
  unfold vl vs
  simp only [hk, if_false]
  rfl
theorem vu_rg7 {B k : Nat} {m : Nat → Nat → Int32} {v : Int32} (h1 : 1 ≤ k) (h2 : k ≤ 8) : vw B (e_set m (rg B k) 7 v) = e_set (vw B m) k 15 v := by
  have hk : ¬ k = 0 := by omega
  have h := vw_set (B := B) (m := m) (v := v) (k := k) (i := 15) (Or.inr ⟨h1, h2, by decide⟩)
  rw [← h]
  unfold vl vs
  simp only [hk, if_false]
  rfl
theorem vr_bk0 {B k : Nat} {m : Nat → Nat → Int32} (h1 : 1 ≤ k) (h2 : k ≤ 8) : vw B m k 16 = m (bk B k) 0 := by
  have hk : ¬ k = 0 := by omega
  unfold vw
  rw [if_pos (e_valb_iff.mpr (Or.inr ⟨h1, h2, by decide⟩))]
  unfold vl vs
  simp only [hk, if_false]
  rfl
theorem vu_bk0 {B k : Nat} {m : Nat → Nat → Int32} {v : Int32} (h1 : 1 ≤ k) (h2 : k ≤ 8) : vw B (e_set m (bk B k) 0 v) = e_set (vw B m) k 16 v := by
  have hk : ¬ k = 0 := by omega
  have h := vw_set (B := B) (m := m) (v := v) (k := k) (i := 16) (Or.inr ⟨h1, h2, by decide⟩)
  rw [← h]
  unfold vl vs
  simp only [hk, if_false]
  rfl
theorem vr_bk1 {B k : Nat} {m : Nat → Nat → Int32} (h1 : 1 ≤ k) (h2 : k ≤ 8) : vw B m k 17 = m (bk B k) 1 := by
  have hk : ¬ k = 0 := by omega
  unfold vw
  rw [if_pos (e_valb_iff.mpr (Or.inr ⟨h1, h2, by decide⟩))]
  unfold vl vs
  simp only [hk, if_false]
  rfl
theorem vu_bk1 {B k : Nat} {m : Nat → Nat → Int32} {v : Int32} (h1 : 1 ≤ k) (h2 : k ≤ 8) : vw B (e_set m (bk B k) 1 v) = e_set (vw B m) k 17 v := by
  have hk : ¬ k = 0 := by omega
  have h := vw_set (B := B) (m := m) (v := v) (k := k) (i := 17) (Or.inr ⟨h1, h2, by decide⟩)
  rw [← h]
  unfold vl vs
  simp only [hk, if_false]
  rfl
theorem vr_bk2 {B k : Nat} {m : Nat → Nat → Int32} (h1 : 1 ≤ k) (h2 : k ≤ 8) : vw B m k 18 = m (bk B k) 2 := by
  have hk : ¬ k = 0 := by omega
  unfold vw
  rw [if_pos (e_valb_iff.mpr (Or.inr ⟨h1, h2, by decide⟩))]
  unfold vl vs
  simp only [hk, if_false]
  rfl
theorem vu_bk2 {B k : Nat} {m : Nat → Nat → Int32} {v : Int32} (h1 : 1 ≤ k) (h2 : k ≤ 8) : vw B (e_set m (bk B k) 2 v) = e_set (vw B m) k 18 v := by
  have hk : ¬ k = 0 := by omega
  have h := vw_set (B := B) (m := m) (v := v) (k := k) (i := 18) (Or.inr ⟨h1, h2, by decide⟩)
  rw [← h]
  unfold vl vs
  simp only [hk, if_false]
  rfl
theorem vr_bk3 {B k : Nat} {m : Nat → Nat → Int32} (h1 : 1 ≤ k) (h2 : k ≤ 8) : vw B m k 19 = m (bk B k) 3 := by
  have hk : ¬ k = 0 := by omega
  unfold vw
  rw [if_pos (e_valb_iff.mpr (Or.inr ⟨h1, h2, by decide⟩))]
  unfold vl vs
  simp only [hk, if_false]
  rfl
theorem vu_bk3 {B k : Nat} {m : Nat → Nat → Int32} {v : Int32} (h1 : 1 ≤ k) (h2 : k ≤ 8) : vw B (e_set m (bk B k) 3 v) = e_set (vw B m) k 19 v := by
  have hk : ¬ k = 0 := by omega
  have h := vw_set (B := B) (m := m) (v := v) (k := k) (i := 19) (Or.inr ⟨h1, h2, by decide⟩)
  rw [← h]
  unfold vl vs
  simp only [hk, if_false]
  rfl
theorem vr_bk4 {B k : Nat} {m : Nat → Nat → Int32} (h1 : 1 ≤ k) (h2 : k ≤ 8) : vw B m k 20 = m (bk B k) 4 := by
  have hk : ¬ k = 0 := by omega
  unfold vw
  rw [if_pos (e_valb_iff.mpr (Or.inr ⟨h1, h2, by decide⟩))]
  unfold vl vs
  simp only [hk, if_false]
  rfl
theorem vu_bk4 {B k : Nat} {m : Nat → Nat → Int32} {v : Int32} (h1 : 1 ≤ k) (h2 : k ≤ 8) : vw B (e_set m (bk B k) 4 v) = e_set (vw B m) k 20 v := by
  have hk : ¬ k = 0 := by omega
  have h := vw_set (B := B) (m := m) (v := v) (k := k) (i := 20) (Or.inr ⟨h1, h2, by decide⟩)
  rw [← h]
  unfold vl vs
  simp only [hk, if_false]
  rfl
theorem vr_bk5 {B k : Nat} {m : Nat → Nat → Int32} (h1 : 1 ≤ k) (h2 : k ≤ 8) : vw B m k 21 = m (bk B k) 5 := by
  have hk : ¬ k = 0 := by omega
  unfold vw
  rw [if_pos (e_valb_iff.mpr (Or.inr ⟨h1, h2, by decide⟩))]
  unfold vl vs
  simp only [hk, if_false]
  rfl
theorem vu_bk5 {B k : Nat} {m : Nat → Nat → Int32} {v : Int32} (h1 : 1 ≤ k) (h2 : k ≤ 8) : vw B (e_set m (bk B k) 5 v) = e_set (vw B m) k 21 v := by
  have hk : ¬ k = 0 := by omega
  have h := vw_set (B := B) (m := m) (v := v) (k := k) (i := 21) (Or.inr ⟨h1, h2, by decide⟩)
  rw [← h]
  unfold vl vs
  simp only [hk, if_false]
  rfl
theorem vr_bk7 {B k : Nat} {m : Nat → Nat → Int32} (h1 : 1 ≤ k) (h2 : k ≤ 8) : vw B m k 22 = m (bk B k) 7 := by
  have hk : ¬ k = 0 := by omega
  unfold vw
  rw [if_pos (e_valb_iff.mpr (Or.inr ⟨h1, h2, by decide⟩))]
  unfold vl vs
  simp only [hk, if_false]
  rfl
theorem vu_bk7 {B k : Nat} {m : Nat → Nat → Int32} {v : Int32} (h1 : 1 ≤ k) (h2 : k ≤ 8) : vw B (e_set m (bk B k) 7 v) = e_set (vw B m) k 22 v := by
  have hk : ¬ k = 0 := by omega
  have h := vw_set (B := B) (m := m) (v := v) (k := k) (i := 22) (Or.inr ⟨h1, h2, by decide⟩)
  rw [← h]
  unfold vl vs
  simp only [hk, if_false]
  rfl
theorem vr_bk6 {B k : Nat} {m : Nat → Nat → Int32} (h1 : 1 ≤ k) (h2 : k ≤ 8) : vw B m k 23 = m (bk B k) 6 := by
  have hk : ¬ k = 0 := by omega
  unfold vw
  rw [if_pos (e_valb_iff.mpr (Or.inr ⟨h1, h2, by decide⟩))]
  unfold vl vs
  simp only [hk, if_false]
  rfl
theorem vu_bk6 {B k : Nat} {m : Nat → Nat → Int32} {v : Int32} (h1 : 1 ≤ k) (h2 : k ≤ 8) : vw B (e_set m (bk B k) 6 v) = e_set (vw B m) k 23 v := by
  have hk : ¬ k = 0 := by omega
  have h := vw_set (B := B) (m := m) (v := v) (k := k) (i := 23) (Or.inr ⟨h1, h2, by decide⟩)
  rw [← h]
  unfold vl vs
  simp only [hk, if_false]
  rfl
theorem vr_g0 {B : Nat} {m : Nat → Nat → Int32} : vw B m 0 0 = m B 0 := rfl
theorem vu_g0 {B : Nat} {m : Nat → Nat → Int32} {v : Int32} : vw B (e_set m B 0 v) = e_set (vw B m) 0 0 v := vw_set (k := 0) (i := 0) (Or.inl ⟨rfl, by decide⟩)
theorem vr_g1 {B : Nat} {m : Nat → Nat → Int32} : vw B m 0 1 = m B 1 := rfl
theorem vu_g1 {B : Nat} {m : Nat → Nat → Int32} {v : Int32} : vw B (e_set m B 1 v) = e_set (vw B m) 0 1 v := vw_set (k := 0) (i := 1) (Or.inl ⟨rfl, by decide⟩)
theorem vr_g3 {B : Nat} {m : Nat → Nat → Int32} : vw B m 0 2 = m B 3 := rfl
theorem vu_g3 {B : Nat} {m : Nat → Nat → Int32} {v : Int32} : vw B (e_set m B 3 v) = e_set (vw B m) 0 2 v := vw_set (k := 0) (i := 2) (Or.inl ⟨rfl, by decide⟩)
theorem vr_g2 {B : Nat} {m : Nat → Nat → Int32} : vw B m 0 3 = m B 2 := rfl
theorem vu_g2 {B : Nat} {m : Nat → Nat → Int32} {v : Int32} : vw B (e_set m B 2 v) = e_set (vw B m) 0 3 v := vw_set (k := 0) (i := 3) (Or.inl ⟨rfl, by decide⟩)
theorem vr_f {B h : Nat} {m : Nat → Nat → Int32} (hh : h < 24) : vw B m 0 (4 + h) = m (B + 1) h := by
  unfold vw
  rw [if_pos (e_valb_iff.mpr (Or.inl ⟨rfl, by omega⟩))]
  unfold vl vs
  simp only [if_true]
  rw [if_neg (by omega), if_neg (by omega), if_neg (by omega), if_neg (by omega)]
  congr 1
  omega
theorem vu_f {B h : Nat} {m : Nat → Nat → Int32} {v : Int32} (hh : h < 24) : vw B (e_set m (B + 1) h v) = e_set (vw B m) 0 (4 + h) v := by
  rw [← vw_set (k := 0) (i := 4 + h) (Or.inl ⟨rfl, by omega⟩)]
  unfold vl vs
  simp only [if_true]
  rw [if_neg (by omega), if_neg (by omega), if_neg (by omega), if_neg (by omega)]
  congr 2
  omega
/-! the reference's table: one row of numbers -/
def ix (k i : Nat) : Nat := 4 + 24 * k + i
def mp (k i : Nat) : Nat := if k = 0 then i else ix k i
def mw (c o : Nat) (m : Nat → Nat → Int32) (k i : Nat) : Int32 := if e_valb k i = true then m c (o + mp k i) else 0
theorem mp_inj {k i k' i' : Nat} (h : e_val k i) (h' : e_val k' i') (e : mp k i = mp k' i') : k = k' ∧ i = i' := by
  unfold mp ix at e
  rcases h with ⟨rfl, h⟩ | ⟨h1, h2, h⟩ <;> rcases h' with ⟨rfl, h'⟩ | ⟨h1', h2', h'⟩
  · simp at e; exact ⟨rfl, e⟩
  · rw [if_pos rfl, if_neg (by omega)] at e; omega
  · rw [if_neg (by omega), if_pos rfl] at e; omega
  · rw [if_neg (by omega), if_neg (by omega)] at e; omega
theorem mp_lt {k i : Nat} (h : e_val k i) : mp k i < 220 := by
  unfold mp ix
  rcases h with ⟨rfl, h⟩ | ⟨h1, h2, h⟩
  · simp; omega
  · rw [if_neg (by omega)]; omega
theorem mw_set {c o k i : Nat} {m : Nat → Nat → Int32} {v : Int32} (h : e_val k i) : mw c o (e_set m c (o + mp k i) v) = e_set (mw c o m) k i v := by
  funext k' i'
  unfold mw
  by_cases hv : e_valb k' i' = true
  · rw [if_pos hv]
    unfold e_set
    by_cases he : k' = k ∧ i' = i
    · rw [he.1, he.2, if_pos ⟨rfl, rfl⟩, if_pos ⟨rfl, rfl⟩]
    · rw [if_neg he, if_neg (fun q => he (mp_inj (e_valb_iff.mp hv) h (by omega)))]
      exact (if_pos hv).symm
  · rw [if_neg hv]
    unfold e_set
    rw [if_neg (fun q => hv (by rw [q.1, q.2]; exact e_valb_iff.mpr h))]
    exact (if_neg hv).symm
theorem mw_cell {c o c' s : Nat} {m : Nat → Nat → Int32} {v : Int32} (h : ¬ c' = c) : mw c o (e_set m c' s v) = mw c o m := by
  funext k i
  unfold mw
  rw [e_set_cell (fun q => h q.symm)]
theorem mw_cong {c o : Nat} {m m' : Nat → Nat → Int32} (h : m' c = m c) : mw c o m' = mw c o m := by
  funext k i
  unfold mw
  rw [h]
theorem mr_k {k i : Nat} {m : Nat → Nat → Int32} (h1 : 1 ≤ k) (h2 : k ≤ 8) (h3 : i < 24) : mw 165 0 m k i = m 165 (ix k i) := by
  unfold mw mp
  rw [if_pos (e_valb_iff.mpr (Or.inr ⟨h1, h2, h3⟩)), if_neg (by omega), Nat.zero_add]
theorem mu_k {k i : Nat} {m : Nat → Nat → Int32} {v : Int32} (h1 : 1 ≤ k) (h2 : k ≤ 8) (h3 : i < 24) : mw 165 0 (e_set m 165 (ix k i) v) = e_set (mw 165 0 m) k i v := by
  rw [← mw_set (Or.inr ⟨h1, h2, h3⟩)]
  unfold mp
  rw [if_neg (by omega), Nat.zero_add]
theorem mr_0 {i : Nat} {m : Nat → Nat → Int32} (h3 : i < 28) : mw 165 0 m 0 i = m 165 i := by
  unfold mw mp
  rw [if_pos (e_valb_iff.mpr (Or.inl ⟨rfl, h3⟩)), if_pos rfl, Nat.zero_add]
theorem mu_0 {i : Nat} {m : Nat → Nat → Int32} {v : Int32} (h3 : i < 28) : mw 165 0 (e_set m 165 i v) = e_set (mw 165 0 m) 0 i v := by
  rw [← mw_set (Or.inl ⟨rfl, h3⟩)]
  unfold mp
  rw [if_pos rfl, Nat.zero_add]
end
section
/-! flows and voltages: what they are, of a table; and that the class computes them -/
/-- the active load of the d nodes from node k on -/
def sP (w : Nat → Nat → Int32) (f : Int32) : Nat → Nat → Int32
  | 0, _ => 0
  | d + 1, k => sP w f d (k + 1) + w k 2 * f / 100
/-- what a bank takes off -/
def sSup (w : Nat → Nat → Int32) (h pl : Int32) (k : Nat) : Int32 := if (if ¬ pl = 0 ∧ ¬ w k 16 = 0 ∧ w k 18 = 1 then (if w k 19 < w k 20 then ¬ h < w k 19 ∧ h < w k 20 else ¬ h < w k 19 ∨ h < w k 20) else ¬ w k 23 = 0) then w k 17 else 0
def sQ (w : Nat → Nat → Int32) (f h pl : Int32) : Nat → Nat → Int32
  | 0, _ => 0
  | d + 1, k => sQ w f h pl d (k + 1) + (w k 3 * f / 100 - sSup w h pl k)
/-- the voltage of node k, regulator seg having the tap tp -/
def sV (w : Nat → Nat → Int32) (A R : Nat → Int32) (seg tp : Int32) : Nat → Int32
  | 0 => w 0 1
  | k + 1 => (let x := sV w A R seg tp k * (160 + (if nI (k + 1) = seg then tp else w (k + 1) 10)) / 160 - (w (k + 1) 0 * A (k + 1) + w (k + 1) 1 * R (k + 1)) / 100; if x < 0 then 0 else x)
/-- how many of the first k voltages are bad -/
def sB (V : Nat → Int32) : Nat → Int32
  | 0 => 0
  | k + 1 => sB V k + e_b (V (k + 1) < 9500 ∨ 10500 < V (k + 1))
theorem nI_lt1 {j : Nat} (h : j < 1000) : (nI (j + 1) < 1) = False := eq_false (by
  have h1 : (1 : Int32) = nI 1 := rfl
  rw [h1]
  exact nI_nlt (by omega) (by omega))
theorem nI_0_1 : (nI 0 < 1) = True := by decide
theorem e_fl_ok {fl : Nat} (h : fl = 32 ∨ fl = 37) : e_okc fl 2 = true ∧ e_okc (fl + 1) 10 = true ∧ e_okc (fl + 2) 10 = true ∧ e_okc (fl + 3) 10 = true ∧ e_sz (fl + 1) = 9 ∧ e_sz (fl + 2) = 9 ∧ e_sz (fl + 3) = 9 ∧ (∀ sv, e_rs sv fl 0 = fl + 1) ∧ (∀ sv, e_rs sv fl 1 = fl + 2) ∧ (∀ sv, e_rs sv fl 2 = fl + 3) := by
  rcases h with rfl | rfl <;> exact ⟨by decide, by decide, by decide, by decide, by decide, by decide, by decide, fun _ => rfl, fun _ => rfl, fun _ => rfl⟩
section P16
variable {xs : Nat → Int32} {L : Nat} {Q : e_Rs → Prop} {sv : Nat → Nat}
set_option maxHeartbeats 4000000 in
theorem lp_sumLoads {fl n : Nat} (hf : fl = 32 ∨ fl = 37) (hn : n ≤ 8) {m0 : Nat → Nat → Int32} {f h pl : Int32} : ∀ (j : Nat), j ≤ n → ∀ (m : Nat → Nat → Int32) (tl : e_Lv), (tl = [] ∨ ∃ z, tl = [(8, .ref z)]) →
    (∀ c, c ≠ fl + 1 → c ≠ fl + 2 → m c = m0 c) → (∀ k, j < k → k ≤ n → m (fl + 1) k = sP (vw 2 m0) f (n + 1 - k) k ∧ m (fl + 2) k = sQ (vw 2 m0) f h pl (n + 1 - k) k) →
    (∀ m', (∀ c, c ≠ fl + 1 → c ≠ fl + 2 → m' c = m0 c) → (∀ k, 0 < k → k ≤ n → m' (fl + 1) k = sP (vw 2 m0) f (n + 1 - k) k ∧ m' (fl + 2) k = sQ (vw 2 m0) f h pl (n + 1 - k) k) → Q (none, (173, m', e_rs sv))) →
    Wp xs L kX2_sumLoads_20 ([(0, .ref fl), (1, .ref (2 : Nat)), (2, .int h), (3, .int pl), (4, .int f), (5, .int (sP (vw 2 m0) f (n - j) (j + 1))), (6, .int (sQ (vw 2 m0) f h pl (n - j) (j + 1))), (7, .int (nI j))] ++ tl) [] (173, m, e_rs sv) Q
  | 0, _, m, tl, htl, hm, hk, hQ => by
    rw [kX2_sumLoads_20]
    have e1 := nI_0_1
    rcases htl with rfl | ⟨z, rfl⟩ <;> (simp only [r_aald12, r_aald13, r_aald14, r_aload, r_aload_n, r_astore, r_bipush, r_getf0, r_getf1, r_getf2, r_goto, r_iadd, r_iald, r_iast, r_ic_lt, r_iconst, r_idiv, r_iinc, r_iload, r_iload_n, r_imul, r_istore, r_isub, r_nop, r_ret, kX2_sumLoads_0, kX2_sumLoads_102, lX2_sumLoads_0, lX2_sumLoads_20, lX2_sumLoads_102, vX0_supply, e_wi_s, e_wr_s, e_wl_s, e_lk, e_sto, e_ok, e_no, e_isL, Option.toList_some, Option.toList_none, List.cons_append, List.nil_append, List.length_cons, List.length_nil, Bool.not_false, Bool.not_true, Bool.and_true, Bool.true_and, Bool.false_and, Bool.and_false, Bool.and_self, Nat.reduceBEq, Nat.reduceAdd, Nat.reduceEqDiff, Nat.reduceLeDiff, Nat.reduceLT, Nat.zero_le, Nat.le_refl, if_true, if_false, ite_true, ite_false, true_and, and_true, true_or, or_true, not_false_eq_true, not_true_eq_false, e_set_self, Nat.succ_ne_zero, eq_self, e1, e_set_slot, zero_01, one_01, e_b_0, e_b_01, or_self, or_false, false_or, R_1_0, R_1_1, R_1_2, R_1_3, R_1_4, R_1_5, R_1_6, R_32_0, R_32_1, R_32_2, R_36_0, R_36_1, R_36_2, R_36_3, R_37_0, R_37_1, R_37_2, R_68_0, R_70_0, R_164_0, R_164_1, R_164_3, R_164_5, R_164_6, R_164_7, R_164_8, R_164_10, R_164_11, R_2_4, R_2_5, ok_1, ok_32, ok_36, ok_37, ok_68, ok_70, ok_164, ok_2, ok_3, sz_3, ok_4, sz_4, ok_33, sz_33, ok_34, sz_34, ok_35, sz_35, ok_38, sz_38, ok_39, sz_39, ok_40, sz_40, ok_41, sz_41, ok_66, sz_66, ok_67, sz_67, ok_69, sz_69, ok_71, sz_71, ok_162, sz_162, ok_163, sz_163, ok_165, sz_165, ok_166, sz_166, ok_167, sz_167, ok_168, sz_168, ok_169, sz_169, ok_170, sz_170, ok_171, sz_171, ok_172, sz_172, ok_173, sz_173, tn_0, tn_1, tn_2, tn_3, tn_4, tn_5, tn_6, tn_7, tn_8, tn_9, tn_10, tn_11, tn_12, tn_13, tn_14, tn_15, tn_16, tn_17, tn_18, tn_19, tn_20, tn_21, tn_22, tn_23, tn_24, tn_25, tn_26, tn_27, in_0, in_1, in_2, in_3, in_4, in_5, in_6, in_7, in_8, in_9, in_10, in_11, in_12, in_13, in_14, in_15, in_16, in_17, in_18, in_19, in_20, in_21, in_22, in_23, in_24, in_25, in_26, in_27, e_rf_s]; exact hQ m hm hk)
  | j + 1, hj, m, tl, htl, hm, hk, hQ => by
    have e1 := nI_lt1 (j := j) (by omega)
    obtain ⟨f1, f2, f3, f4, f5, f6, f7, f8, f9, f10⟩ := e_fl_ok hf
    have hk9 : j + 1 < 9 := by omega
    have i1 : e_in (nI (j + 1)) 9 = true := e_in_nI (by omega) (by omega)
    have i2 : (nI (j + 1)).toNatClampNeg = j + 1 := nI_nat (by omega)
    have i3 : nI (j + 1) + -1 = nI j := pk_m1 j
    have c1 : m 2 = m0 2 := hm 2 (by omega) (by omega)
    have c2 : m (nd 2 (j + 1)) = m0 (nd 2 (j + 1)) := hm _ (by unfold nd; omega) (by unfold nd; omega)
    have c3 : m (bk 2 (j + 1)) = m0 (bk 2 (j + 1)) := hm _ (by unfold bk; omega) (by unfold bk; omega)
    have r4 := R_4 sv hk9
    have r5 := R_nd5 sv e_fb2 hk9
    have o1 := ok_nd e_fb2 hk9
    have o2 := ok_bk e_fb2 hk9
    have key := fun (m' : Nat → Nat → Int32) z h1 h2 => lp_sumLoads hf hn (m0 := m0) (f := f) (h := h) (pl := pl) j (by omega) m' [(8, .ref z)] (Or.inr ⟨z, rfl⟩) h1 h2 hQ
    have n0 : ¬ (100 : Int32) = 0 := by decide
    have eP : sP (vw 2 m0) f (n - (j + 1)) (j + 1 + 1) + m0 (nd 2 (j + 1)) 2 * f / 100 = sP (vw 2 m0) f (n - j) (j + 1) := by
      rw [show n - j = n - (j + 1) + 1 by omega]
      simp only [sP, vr_nd2 (B := 2) (m := m0) (show 1 ≤ j + 1 by omega) (show j + 1 ≤ 8 by omega)]
    have eQ : sQ (vw 2 m0) f h pl (n - (j + 1)) (j + 1 + 1) + (m0 (nd 2 (j + 1)) 3 * f / 100 - (if (if ¬ pl = 0 ∧ ¬ m0 (bk 2 (j + 1)) 0 = 0 ∧ m0 (bk 2 (j + 1)) 2 = 1 then (if m0 (bk 2 (j + 1)) 3 < m0 (bk 2 (j + 1)) 4 then ¬ h < m0 (bk 2 (j + 1)) 3 ∧ h < m0 (bk 2 (j + 1)) 4 else ¬ h < m0 (bk 2 (j + 1)) 3 ∨ h < m0 (bk 2 (j + 1)) 4) else ¬ m0 (bk 2 (j + 1)) 6 = 0) then m0 (bk 2 (j + 1)) 1 else 0)) = sQ (vw 2 m0) f h pl (n - j) (j + 1) := by
      rw [show n - j = n - (j + 1) + 1 by omega]
      have g1 : 1 ≤ j + 1 := by omega
      have g2 : j + 1 ≤ 8 := by omega
      simp only [sQ, sSup, vr_nd3 (B := 2) (m := m0) g1 g2, vr_bk0 (B := 2) (m := m0) g1 g2, vr_bk1 (B := 2) (m := m0) g1 g2, vr_bk2 (B := 2) (m := m0) g1 g2, vr_bk3 (B := 2) (m := m0) g1 g2, vr_bk4 (B := 2) (m := m0) g1 g2, vr_bk6 (B := 2) (m := m0) g1 g2]
    rw [kX2_sumLoads_20]
    rcases htl with rfl | ⟨z, rfl⟩ <;> (
      simp only [r_aald12, r_aald13, r_aald14, r_aload, r_aload_n, r_astore, r_bipush, r_getf0, r_getf1, r_getf2, r_goto, r_iadd, r_iald, r_iast, r_ic_lt, r_iconst, r_idiv, r_iinc, r_iload, r_iload_n, r_imul, r_istore, r_isub, r_nop, r_ret, kX2_sumLoads_0, kX2_sumLoads_102, lX2_sumLoads_0, lX2_sumLoads_20, lX2_sumLoads_102, vX0_supply, e_wi_s, e_wr_s, e_wl_s, e_lk, e_sto, e_ok, e_no, e_isL, Option.toList_some, Option.toList_none, List.cons_append, List.nil_append, List.length_cons, List.length_nil, Bool.not_false, Bool.not_true, Bool.and_true, Bool.true_and, Bool.false_and, Bool.and_false, Bool.and_self, Nat.reduceBEq, Nat.reduceAdd, Nat.reduceEqDiff, Nat.reduceLeDiff, Nat.reduceLT, Nat.zero_le, Nat.le_refl, if_true, if_false, ite_true, ite_false, true_and, and_true, true_or, or_true, not_false_eq_true, not_true_eq_false, e_set_self, Nat.succ_ne_zero, eq_self, e1, f1, f2, f3, f4, f5, f6, f7, f8, f9, f10, i1, i2, i3, c1, c2, c3, r4, r5, o1, o2, n0, e_rf_nd, e_rf_bk, c_X0_supply o2, eP, eQ, e_set_slot, zero_01, one_01, e_b_0, e_b_01, or_self, or_false, false_or, R_1_0, R_1_1, R_1_2, R_1_3, R_1_4, R_1_5, R_1_6, R_32_0, R_32_1, R_32_2, R_36_0, R_36_1, R_36_2, R_36_3, R_37_0, R_37_1, R_37_2, R_68_0, R_70_0, R_164_0, R_164_1, R_164_3, R_164_5, R_164_6, R_164_7, R_164_8, R_164_10, R_164_11, R_2_4, R_2_5, ok_1, ok_32, ok_36, ok_37, ok_68, ok_70, ok_164, ok_2, ok_3, sz_3, ok_4, sz_4, ok_33, sz_33, ok_34, sz_34, ok_35, sz_35, ok_38, sz_38, ok_39, sz_39, ok_40, sz_40, ok_41, sz_41, ok_66, sz_66, ok_67, sz_67, ok_69, sz_69, ok_71, sz_71, ok_162, sz_162, ok_163, sz_163, ok_165, sz_165, ok_166, sz_166, ok_167, sz_167, ok_168, sz_168, ok_169, sz_169, ok_170, sz_170, ok_171, sz_171, ok_172, sz_172, ok_173, sz_173, tn_0, tn_1, tn_2, tn_3, tn_4, tn_5, tn_6, tn_7, tn_8, tn_9, tn_10, tn_11, tn_12, tn_13, tn_14, tn_15, tn_16, tn_17, tn_18, tn_19, tn_20, tn_21, tn_22, tn_23, tn_24, tn_25, tn_26, tn_27, in_0, in_1, in_2, in_3, in_4, in_5, in_6, in_7, in_8, in_9, in_10, in_11, in_12, in_13, in_14, in_15, in_16, in_17, in_18, in_19, in_20, in_21, in_22, in_23, in_24, in_25, in_26, in_27, e_rf_s]
      refine key _ _ (fun c h1 h2 => ?_) (fun k h1 h2 => ?_)
      · funext k'
        rw [e_set_cell h2, e_set_cell h1, hm c h1 h2]
      · by_cases hkj : k = j + 1
        · subst hkj
          rw [e_set_self, e_set_cell (by omega), e_set_self, show n + 1 - (j + 1) = n - j by omega]
          exact ⟨rfl, rfl⟩
        · simp only [e_set_slot hkj]
          exact hk k (by omega) h2)
set_option maxHeartbeats 4000000 in
theorem lp_findVoltages {fl n : Nat} (hf : fl = 32 ∨ fl = 37) (hn : n ≤ 8) {m1 : Nat → Nat → Int32} {seg tp : Int32} (hc : m1 2 2 = nI n) : ∀ (d i : Nat), i + d = n → ∀ (m : Nat → Nat → Int32) (tl : e_Lv), (tl = [] ∨ ∃ a b c d, tl = [(6, .ref a), (7, .int b), (8, .int c), (9, .int d)]) →
    (∀ c, c ≠ fl + 3 → m c = m1 c) → (∀ k, k ≤ i → m (fl + 3) k = sV (vw 2 m1) (m1 (fl + 1)) (m1 (fl + 2)) seg tp k) →
    (∀ m', (∀ c, c ≠ fl + 3 → m' c = m1 c) → (∀ k, k ≤ n → m' (fl + 3) k = sV (vw 2 m1) (m1 (fl + 1)) (m1 (fl + 2)) seg tp k) → Q (none, (173, m', e_rs sv))) →
    Wp xs L kX2_findVoltages_17 ([(0, .ref fl), (1, .ref (2 : Nat)), (2, .int seg), (3, .int tp), (4, .int (sV (vw 2 m1) (m1 (fl + 1)) (m1 (fl + 2)) seg tp i)), (5, .int (nI (i + 1)))] ++ tl) [] (173, m, e_rs sv) Q
  | 0, i, hi, m, tl, htl, hm, hk, hQ => by
    have c1 : m 2 = m1 2 := hm 2 (by omega)
    have e1 : (nI n < nI (i + 1)) = True := eq_true (nI_lt (by omega) (by omega))
    rw [kX2_findVoltages_17]
    have hin : i = n := by omega
    rcases htl with rfl | ⟨a, b, c, d, rfl⟩ <;> (simp only [r_aald12, r_aald13, r_aald14, r_aload, r_aload_n, r_astore, r_bipush, r_copy, r_fmod, r_getf0, r_getf1, r_getf2, r_goto, r_iadd, r_iald, r_iast, r_ic_gt, r_ic_ne, r_iconst, r_idiv, r_iinc, r_iload, r_iload_n, r_imul, r_istore, r_isub, r_mabs, r_mmax, r_mmin, r_nop, r_ret, r_sipush, kX2_findVoltages_0, kX2_findVoltages_45, kX2_findVoltages_128, lX2_findVoltages_0, lX2_findVoltages_17, lX2_findVoltages_45, lX2_findVoltages_53, lX2_findVoltages_128, e_wi_s, e_wr_s, e_wl_s, e_lk, e_sto, e_ok, e_no, e_isL, Option.toList_some, Option.toList_none, List.cons_append, List.nil_append, List.length_cons, List.length_nil, Bool.not_false, Bool.not_true, Bool.and_true, Bool.true_and, Bool.false_and, Bool.and_false, Bool.and_self, Nat.reduceBEq, Nat.reduceAdd, Nat.reduceEqDiff, Nat.reduceLeDiff, Nat.reduceLT, Nat.zero_le, Nat.le_refl, if_true, if_false, ite_true, ite_false, true_and, and_true, true_or, or_true, not_false_eq_true, not_true_eq_false, e_set_self, Nat.succ_ne_zero, eq_self, e1, c1, hc, ok_2, e_set_slot, zero_01, one_01, e_b_0, e_b_01, or_self, or_false, false_or, R_1_0, R_1_1, R_1_2, R_1_3, R_1_4, R_1_5, R_1_6, R_32_0, R_32_1, R_32_2, R_36_0, R_36_1, R_36_2, R_36_3, R_37_0, R_37_1, R_37_2, R_68_0, R_70_0, R_164_0, R_164_1, R_164_3, R_164_5, R_164_6, R_164_7, R_164_8, R_164_10, R_164_11, R_2_4, R_2_5, ok_1, ok_32, ok_36, ok_37, ok_68, ok_70, ok_164, ok_2, ok_3, sz_3, ok_4, sz_4, ok_33, sz_33, ok_34, sz_34, ok_35, sz_35, ok_38, sz_38, ok_39, sz_39, ok_40, sz_40, ok_41, sz_41, ok_66, sz_66, ok_67, sz_67, ok_69, sz_69, ok_71, sz_71, ok_162, sz_162, ok_163, sz_163, ok_165, sz_165, ok_166, sz_166, ok_167, sz_167, ok_168, sz_168, ok_169, sz_169, ok_170, sz_170, ok_171, sz_171, ok_172, sz_172, ok_173, sz_173, tn_0, tn_1, tn_2, tn_3, tn_4, tn_5, tn_6, tn_7, tn_8, tn_9, tn_10, tn_11, tn_12, tn_13, tn_14, tn_15, tn_16, tn_17, tn_18, tn_19, tn_20, tn_21, tn_22, tn_23, tn_24, tn_25, tn_26, tn_27, in_0, in_1, in_2, in_3, in_4, in_5, in_6, in_7, in_8, in_9, in_10, in_11, in_12, in_13, in_14, in_15, in_16, in_17, in_18, in_19, in_20, in_21, in_22, in_23, in_24, in_25, in_26, in_27, e_rf_s]; exact hQ m hm (fun k h => hk k (by omega)))
  | d + 1, i, hi, m, tl, htl, hm, hk, hQ => by
    have c1 : m 2 = m1 2 := hm 2 (by omega)
    have e1 : (nI n < nI (i + 1)) = False := eq_false (nI_nlt (by omega) (by omega))
    obtain ⟨f1, f2, f3, f4, f5, f6, f7, f8, f9, f10⟩ := e_fl_ok hf
    have hk9 : i + 1 < 9 := by omega
    have i1 : e_in (nI (i + 1)) 9 = true := e_in_nI (by omega) (by omega)
    have i2 : (nI (i + 1)).toNatClampNeg = i + 1 := nI_nat (by omega)
    have i3 : nI (i + 1) + 1 = nI (i + 1 + 1) := nI_1 (i + 1)
    have c2 : m (nd 2 (i + 1)) = m1 (nd 2 (i + 1)) := hm _ (by unfold nd; omega)
    have c3 : m (rg 2 (i + 1)) = m1 (rg 2 (i + 1)) := hm _ (by unfold rg; omega)
    have c4 : m (fl + 1) = m1 (fl + 1) := hm _ (by omega)
    have c5 : m (fl + 2) = m1 (fl + 2) := hm _ (by omega)
    have r4 := R_4 sv hk9
    have r5 := R_nd4 sv e_fb2 hk9
    have o1 := ok_nd e_fb2 hk9
    have o2 := ok_rg e_fb2 hk9
    have n0 : ¬ (160 : Int32) = 0 := by decide
    have n1 : ¬ (100 : Int32) = 0 := by decide
    have key := fun (m' : Nat → Nat → Int32) tl htl h1 h2 => lp_findVoltages hf hn (m1 := m1) (seg := seg) (tp := tp) hc d (i + 1) (by omega) m' tl htl h1 h2 hQ
    have g1 : 1 ≤ i + 1 := by omega
    have g2 : i + 1 ≤ 8 := by omega
    have fin : ∀ (x : Int32), x = sV (vw 2 m1) (m1 (fl + 1)) (m1 (fl + 2)) seg tp (i + 1) → ∀ a b c dd, Wp xs L kX2_findVoltages_17 [(0, .ref fl), (1, .ref (2 : Nat)), (2, .int seg), (3, .int tp), (4, .int x), (5, .int (nI (i + 1 + 1))), (6, .ref a), (7, .int b), (8, .int c), (9, .int dd)] [] (173, e_set m (fl + 3) (i + 1) x, e_rs sv) Q := by
      intro x hx a b c dd
      subst hx
      refine key _ [(6, .ref a), (7, .int b), (8, .int c), (9, .int dd)] (Or.inr ⟨a, b, c, dd, rfl⟩) (fun c h1 => ?_) (fun k h1 => ?_)
      · funext k'
        rw [e_set_cell h1, hm c h1]
      · by_cases hkj : k = i + 1
        · subst hkj
          rw [e_set_self]
        · rw [e_set_slot hkj]
          exact hk k (by omega)
    have es : sV (vw 2 m1) (m1 (fl + 1)) (m1 (fl + 2)) seg tp (i + 1) = (if sV (vw 2 m1) (m1 (fl + 1)) (m1 (fl + 2)) seg tp i * (160 + (if nI (i + 1) = seg then tp else m1 (rg 2 (i + 1)) 5)) / 160 - (m1 (nd 2 (i + 1)) 0 * m1 (fl + 1) (i + 1) + m1 (nd 2 (i + 1)) 1 * m1 (fl + 2) (i + 1)) / 100 < 0 then 0 else sV (vw 2 m1) (m1 (fl + 1)) (m1 (fl + 2)) seg tp i * (160 + (if nI (i + 1) = seg then tp else m1 (rg 2 (i + 1)) 5)) / 160 - (m1 (nd 2 (i + 1)) 0 * m1 (fl + 1) (i + 1) + m1 (nd 2 (i + 1)) 1 * m1 (fl + 2) (i + 1)) / 100) := by
      simp only [sV, vr_nd0 (B := 2) (m := m1) g1 g2, vr_nd1 (B := 2) (m := m1) g1 g2, vr_rg5 (B := 2) (m := m1) g1 g2]
    rw [kX2_findVoltages_17]
    by_cases hs : nI (i + 1) = seg
    · have hs' := eq_true hs
      simp only [hs', if_true] at es
      rcases htl with rfl | ⟨a, b, c, dd, rfl⟩ <;> (
        simp only [r_aald12, r_aald13, r_aald14, r_aload, r_aload_n, r_astore, r_bipush, r_copy, r_fmod, r_getf0, r_getf1, r_getf2, r_goto, r_iadd, r_iald, r_iast, r_ic_gt, r_ic_ne, r_iconst, r_idiv, r_iinc, r_iload, r_iload_n, r_imul, r_istore, r_isub, r_mabs, r_mmax, r_mmin, r_nop, r_ret, r_sipush, kX2_findVoltages_0, kX2_findVoltages_45, kX2_findVoltages_53, kX2_findVoltages_128, lX2_findVoltages_0, lX2_findVoltages_17, lX2_findVoltages_45, lX2_findVoltages_53, lX2_findVoltages_128, e_wi_s, e_wr_s, e_wl_s, e_lk, e_sto, e_ok, e_no, e_isL, Option.toList_some, Option.toList_none, List.cons_append, List.nil_append, List.length_cons, List.length_nil, Bool.not_false, Bool.not_true, Bool.and_true, Bool.true_and, Bool.false_and, Bool.and_false, Bool.and_self, Nat.reduceBEq, Nat.reduceAdd, Nat.reduceEqDiff, Nat.reduceLeDiff, Nat.reduceLT, Nat.zero_le, Nat.le_refl, if_true, if_false, ite_true, ite_false, true_and, and_true, true_or, or_true, not_false_eq_true, not_true_eq_false, e_set_self, Nat.succ_ne_zero, eq_self, e1, c1, hc, ok_2, hs', f1, f2, f3, f4, f5, f6, f7, f8, f9, f10, i1, i2, i3, c2, c3, c4, c5, r4, r5, o1, o2, n0, n1, e_rf_nd, e_rf_rg, e_set_slot, zero_01, one_01, e_b_0, e_b_01, or_self, or_false, false_or, R_1_0, R_1_1, R_1_2, R_1_3, R_1_4, R_1_5, R_1_6, R_32_0, R_32_1, R_32_2, R_36_0, R_36_1, R_36_2, R_36_3, R_37_0, R_37_1, R_37_2, R_68_0, R_70_0, R_164_0, R_164_1, R_164_3, R_164_5, R_164_6, R_164_7, R_164_8, R_164_10, R_164_11, R_2_4, R_2_5, ok_1, ok_32, ok_36, ok_37, ok_68, ok_70, ok_164, ok_2, ok_3, sz_3, ok_4, sz_4, ok_33, sz_33, ok_34, sz_34, ok_35, sz_35, ok_38, sz_38, ok_39, sz_39, ok_40, sz_40, ok_41, sz_41, ok_66, sz_66, ok_67, sz_67, ok_69, sz_69, ok_71, sz_71, ok_162, sz_162, ok_163, sz_163, ok_165, sz_165, ok_166, sz_166, ok_167, sz_167, ok_168, sz_168, ok_169, sz_169, ok_170, sz_170, ok_171, sz_171, ok_172, sz_172, ok_173, sz_173, tn_0, tn_1, tn_2, tn_3, tn_4, tn_5, tn_6, tn_7, tn_8, tn_9, tn_10, tn_11, tn_12, tn_13, tn_14, tn_15, tn_16, tn_17, tn_18, tn_19, tn_20, tn_21, tn_22, tn_23, tn_24, tn_25, tn_26, tn_27, in_0, in_1, in_2, in_3, in_4, in_5, in_6, in_7, in_8, in_9, in_10, in_11, in_12, in_13, in_14, in_15, in_16, in_17, in_18, in_19, in_20, in_21, in_22, in_23, in_24, in_25, in_26, in_27, e_rf_s]
        exact fin _ es.symm _ _ _ _)
    · have hs' := eq_false hs
      simp only [hs', if_false] at es
      rcases htl with rfl | ⟨a, b, c, dd, rfl⟩ <;> (
        simp only [r_aald12, r_aald13, r_aald14, r_aload, r_aload_n, r_astore, r_bipush, r_copy, r_fmod, r_getf0, r_getf1, r_getf2, r_goto, r_iadd, r_iald, r_iast, r_ic_gt, r_ic_ne, r_iconst, r_idiv, r_iinc, r_iload, r_iload_n, r_imul, r_istore, r_isub, r_mabs, r_mmax, r_mmin, r_nop, r_ret, r_sipush, kX2_findVoltages_0, kX2_findVoltages_45, kX2_findVoltages_53, kX2_findVoltages_128, lX2_findVoltages_0, lX2_findVoltages_17, lX2_findVoltages_45, lX2_findVoltages_53, lX2_findVoltages_128, e_wi_s, e_wr_s, e_wl_s, e_lk, e_sto, e_ok, e_no, e_isL, Option.toList_some, Option.toList_none, List.cons_append, List.nil_append, List.length_cons, List.length_nil, Bool.not_false, Bool.not_true, Bool.and_true, Bool.true_and, Bool.false_and, Bool.and_false, Bool.and_self, Nat.reduceBEq, Nat.reduceAdd, Nat.reduceEqDiff, Nat.reduceLeDiff, Nat.reduceLT, Nat.zero_le, Nat.le_refl, if_true, if_false, ite_true, ite_false, true_and, and_true, true_or, or_true, not_false_eq_true, not_true_eq_false, e_set_self, Nat.succ_ne_zero, eq_self, e1, c1, hc, ok_2, hs', f1, f2, f3, f4, f5, f6, f7, f8, f9, f10, i1, i2, i3, c2, c3, c4, c5, r4, r5, o1, o2, n0, n1, e_rf_nd, e_rf_rg, e_set_slot, zero_01, one_01, e_b_0, e_b_01, or_self, or_false, false_or, R_1_0, R_1_1, R_1_2, R_1_3, R_1_4, R_1_5, R_1_6, R_32_0, R_32_1, R_32_2, R_36_0, R_36_1, R_36_2, R_36_3, R_37_0, R_37_1, R_37_2, R_68_0, R_70_0, R_164_0, R_164_1, R_164_3, R_164_5, R_164_6, R_164_7, R_164_8, R_164_10, R_164_11, R_2_4, R_2_5, ok_1, ok_32, ok_36, ok_37, ok_68, ok_70, ok_164, ok_2, ok_3, sz_3, ok_4, sz_4, ok_33, sz_33, ok_34, sz_34, ok_35, sz_35, ok_38, sz_38, ok_39, sz_39, ok_40, sz_40, ok_41, sz_41, ok_66, sz_66, ok_67, sz_67, ok_69, sz_69, ok_71, sz_71, ok_162, sz_162, ok_163, sz_163, ok_165, sz_165, ok_166, sz_166, ok_167, sz_167, ok_168, sz_168, ok_169, sz_169, ok_170, sz_170, ok_171, sz_171, ok_172, sz_172, ok_173, sz_173, tn_0, tn_1, tn_2, tn_3, tn_4, tn_5, tn_6, tn_7, tn_8, tn_9, tn_10, tn_11, tn_12, tn_13, tn_14, tn_15, tn_16, tn_17, tn_18, tn_19, tn_20, tn_21, tn_22, tn_23, tn_24, tn_25, tn_26, tn_27, in_0, in_1, in_2, in_3, in_4, in_5, in_6, in_7, in_8, in_9, in_10, in_11, in_12, in_13, in_14, in_15, in_16, in_17, in_18, in_19, in_20, in_21, in_22, in_23, in_24, in_25, in_26, in_27, e_rf_s]
        exact fin _ es.symm _ _ _ _)
theorem lp_countBad {fl n : Nat} (hf : fl = 32 ∨ fl = 37) (hn : n ≤ 8) {m : Nat → Nat → Int32} : ∀ (d i : Nat), i + d = n →
    Wp xs L kX2_countBadNodes_4 [(0, .ref fl), (1, .int (nI n)), (2, .int (sB (m (fl + 3)) i)), (3, .int (nI (i + 1)))] [] (173, m, e_rs sv) Q = Q (some (.int (sB (m (fl + 3)) n)), (173, m, e_rs sv))
  | 0, i, hi => by
    have e1 : (nI n < nI (i + 1)) = True := eq_true (nI_lt (by omega) (by omega))
    have hin : i = n := by omega
    rw [kX2_countBadNodes_4]
    simp only [r_aload_n, r_bipush, r_copy, r_fmod, r_getf0, r_getf1, r_getf2, r_goto, r_iald, r_ic_gt, r_iconst, r_if_ne, r_iinc, r_iload_n, r_iret0, r_iret1, r_istore_n, r_mabs, r_mmax, r_mmin, r_nop, r_sipush, kX2_countBadNodes_0, kX2_countBadNodes_36, kX2_countBadNodes_42, lX2_countBadNodes_0, lX2_countBadNodes_4, lX2_countBadNodes_36, lX2_countBadNodes_42, vX8_isWithin, e_wi_s, e_wr_s, e_wl_s, e_lk, e_sto, e_ok, e_no, e_isL, Option.toList_some, Option.toList_none, List.cons_append, List.nil_append, List.length_cons, List.length_nil, Bool.not_false, Bool.not_true, Bool.and_true, Bool.true_and, Bool.false_and, Bool.and_false, Bool.and_self, Nat.reduceBEq, Nat.reduceAdd, Nat.reduceEqDiff, Nat.reduceLeDiff, Nat.reduceLT, Nat.zero_le, Nat.le_refl, if_true, if_false, ite_true, ite_false, true_and, and_true, true_or, or_true, not_false_eq_true, not_true_eq_false, e_set_self, Nat.succ_ne_zero, eq_self, e1, e_set_slot, zero_01, one_01, e_b_0, e_b_01, or_self, or_false, false_or, R_1_0, R_1_1, R_1_2, R_1_3, R_1_4, R_1_5, R_1_6, R_32_0, R_32_1, R_32_2, R_36_0, R_36_1, R_36_2, R_36_3, R_37_0, R_37_1, R_37_2, R_68_0, R_70_0, R_164_0, R_164_1, R_164_3, R_164_5, R_164_6, R_164_7, R_164_8, R_164_10, R_164_11, R_2_4, R_2_5, ok_1, ok_32, ok_36, ok_37, ok_68, ok_70, ok_164, ok_2, ok_3, sz_3, ok_4, sz_4, ok_33, sz_33, ok_34, sz_34, ok_35, sz_35, ok_38, sz_38, ok_39, sz_39, ok_40, sz_40, ok_41, sz_41, ok_66, sz_66, ok_67, sz_67, ok_69, sz_69, ok_71, sz_71, ok_162, sz_162, ok_163, sz_163, ok_165, sz_165, ok_166, sz_166, ok_167, sz_167, ok_168, sz_168, ok_169, sz_169, ok_170, sz_170, ok_171, sz_171, ok_172, sz_172, ok_173, sz_173, tn_0, tn_1, tn_2, tn_3, tn_4, tn_5, tn_6, tn_7, tn_8, tn_9, tn_10, tn_11, tn_12, tn_13, tn_14, tn_15, tn_16, tn_17, tn_18, tn_19, tn_20, tn_21, tn_22, tn_23, tn_24, tn_25, tn_26, tn_27, in_0, in_1, in_2, in_3, in_4, in_5, in_6, in_7, in_8, in_9, in_10, in_11, in_12, in_13, in_14, in_15, in_16, in_17, in_18, in_19, in_20, in_21, in_22, in_23, in_24, in_25, in_26, in_27, e_rf_s]
    rw [hin]
  | d + 1, i, hi => by
    have e1 : (nI n < nI (i + 1)) = False := eq_false (nI_nlt (by omega) (by omega))
    have e2 : ((8 : Int32) < nI (i + 1)) = False := eq_false (nI_nlt (a := 8) (by omega) (by omega))
    obtain ⟨f1, f2, f3, f4, f5, f6, f7, f8, f9, f10⟩ := e_fl_ok hf
    have i1 : e_in (nI (i + 1)) 9 = true := e_in_nI (by omega) (by omega)
    have i2 : (nI (i + 1)).toNatClampNeg = i + 1 := nI_nat (by omega)
    have i3 : nI (i + 1) + 1 = nI (i + 1 + 1) := nI_1 (i + 1)
    have ih := lp_countBad hf hn (m := m) d (i + 1) (by omega)
    simp only [sB] at ih
    rw [kX2_countBadNodes_4]
    by_cases hv : ¬ m (fl + 3) (i + 1) < 9500 ∧ ¬ 10500 < m (fl + 3) (i + 1)
    · have hv' := eq_true hv
      have hb : e_b (m (fl + 3) (i + 1) < 9500 ∨ 10500 < m (fl + 3) (i + 1)) = 0 := e_b_f (by rintro (h | h); exact hv.1 h; exact hv.2 h)
      rw [hb] at ih
      simp only [r_aload_n, r_bipush, r_copy, r_fmod, r_getf0, r_getf1, r_getf2, r_goto, r_iald, r_ic_gt, r_iconst, r_if_ne, r_iinc, r_iload_n, r_iret0, r_iret1, r_istore_n, r_mabs, r_mmax, r_mmin, r_nop, r_sipush, kX2_countBadNodes_0, kX2_countBadNodes_36, kX2_countBadNodes_42, lX2_countBadNodes_0, lX2_countBadNodes_4, lX2_countBadNodes_36, lX2_countBadNodes_42, vX8_isWithin, e_wi_s, e_wr_s, e_wl_s, e_lk, e_sto, e_ok, e_no, e_isL, Option.toList_some, Option.toList_none, List.cons_append, List.nil_append, List.length_cons, List.length_nil, Bool.not_false, Bool.not_true, Bool.and_true, Bool.true_and, Bool.false_and, Bool.and_false, Bool.and_self, Nat.reduceBEq, Nat.reduceAdd, Nat.reduceEqDiff, Nat.reduceLeDiff, Nat.reduceLT, Nat.zero_le, Nat.le_refl, if_true, if_false, ite_true, ite_false, true_and, and_true, true_or, or_true, not_false_eq_true, not_true_eq_false, e_set_self, Nat.succ_ne_zero, eq_self, e1, e2, f1, f2, f3, f4, f5, f6, f7, f8, f9, f10, i1, i2, i3, c_X8_isWithin, hv', e_set_slot, zero_01, one_01, e_b_0, e_b_01, or_self, or_false, false_or, R_1_0, R_1_1, R_1_2, R_1_3, R_1_4, R_1_5, R_1_6, R_32_0, R_32_1, R_32_2, R_36_0, R_36_1, R_36_2, R_36_3, R_37_0, R_37_1, R_37_2, R_68_0, R_70_0, R_164_0, R_164_1, R_164_3, R_164_5, R_164_6, R_164_7, R_164_8, R_164_10, R_164_11, R_2_4, R_2_5, ok_1, ok_32, ok_36, ok_37, ok_68, ok_70, ok_164, ok_2, ok_3, sz_3, ok_4, sz_4, ok_33, sz_33, ok_34, sz_34, ok_35, sz_35, ok_38, sz_38, ok_39, sz_39, ok_40, sz_40, ok_41, sz_41, ok_66, sz_66, ok_67, sz_67, ok_69, sz_69, ok_71, sz_71, ok_162, sz_162, ok_163, sz_163, ok_165, sz_165, ok_166, sz_166, ok_167, sz_167, ok_168, sz_168, ok_169, sz_169, ok_170, sz_170, ok_171, sz_171, ok_172, sz_172, ok_173, sz_173, tn_0, tn_1, tn_2, tn_3, tn_4, tn_5, tn_6, tn_7, tn_8, tn_9, tn_10, tn_11, tn_12, tn_13, tn_14, tn_15, tn_16, tn_17, tn_18, tn_19, tn_20, tn_21, tn_22, tn_23, tn_24, tn_25, tn_26, tn_27, in_0, in_1, in_2, in_3, in_4, in_5, in_6, in_7, in_8, in_9, in_10, in_11, in_12, in_13, in_14, in_15, in_16, in_17, in_18, in_19, in_20, in_21, in_22, in_23, in_24, in_25, in_26, in_27, e_rf_s]
      rw [← ih]
      simp
    · have hv' := eq_false hv
      have hb : e_b (m (fl + 3) (i + 1) < 9500 ∨ 10500 < m (fl + 3) (i + 1)) = 1 := e_b_t (by
        rcases Classical.em (m (fl + 3) (i + 1) < 9500) with h | h
        · exact Or.inl h
        · exact Or.inr (Classical.byContradiction fun h2 => hv ⟨h, h2⟩))
      rw [hb] at ih
      simp only [r_aload_n, r_bipush, r_copy, r_fmod, r_getf0, r_getf1, r_getf2, r_goto, r_iald, r_ic_gt, r_iconst, r_if_ne, r_iinc, r_iload_n, r_iret0, r_iret1, r_istore_n, r_mabs, r_mmax, r_mmin, r_nop, r_sipush, kX2_countBadNodes_0, kX2_countBadNodes_36, kX2_countBadNodes_42, lX2_countBadNodes_0, lX2_countBadNodes_4, lX2_countBadNodes_36, lX2_countBadNodes_42, vX8_isWithin, e_wi_s, e_wr_s, e_wl_s, e_lk, e_sto, e_ok, e_no, e_isL, Option.toList_some, Option.toList_none, List.cons_append, List.nil_append, List.length_cons, List.length_nil, Bool.not_false, Bool.not_true, Bool.and_true, Bool.true_and, Bool.false_and, Bool.and_false, Bool.and_self, Nat.reduceBEq, Nat.reduceAdd, Nat.reduceEqDiff, Nat.reduceLeDiff, Nat.reduceLT, Nat.zero_le, Nat.le_refl, if_true, if_false, ite_true, ite_false, true_and, and_true, true_or, or_true, not_false_eq_true, not_true_eq_false, e_set_self, Nat.succ_ne_zero, eq_self, e1, e2, f1, f2, f3, f4, f5, f6, f7, f8, f9, f10, i1, i2, i3, c_X8_isWithin, hv', e_set_slot, zero_01, one_01, e_b_0, e_b_01, or_self, or_false, false_or, R_1_0, R_1_1, R_1_2, R_1_3, R_1_4, R_1_5, R_1_6, R_32_0, R_32_1, R_32_2, R_36_0, R_36_1, R_36_2, R_36_3, R_37_0, R_37_1, R_37_2, R_68_0, R_70_0, R_164_0, R_164_1, R_164_3, R_164_5, R_164_6, R_164_7, R_164_8, R_164_10, R_164_11, R_2_4, R_2_5, ok_1, ok_32, ok_36, ok_37, ok_68, ok_70, ok_164, ok_2, ok_3, sz_3, ok_4, sz_4, ok_33, sz_33, ok_34, sz_34, ok_35, sz_35, ok_38, sz_38, ok_39, sz_39, ok_40, sz_40, ok_41, sz_41, ok_66, sz_66, ok_67, sz_67, ok_69, sz_69, ok_71, sz_71, ok_162, sz_162, ok_163, sz_163, ok_165, sz_165, ok_166, sz_166, ok_167, sz_167, ok_168, sz_168, ok_169, sz_169, ok_170, sz_170, ok_171, sz_171, ok_172, sz_172, ok_173, sz_173, tn_0, tn_1, tn_2, tn_3, tn_4, tn_5, tn_6, tn_7, tn_8, tn_9, tn_10, tn_11, tn_12, tn_13, tn_14, tn_15, tn_16, tn_17, tn_18, tn_19, tn_20, tn_21, tn_22, tn_23, tn_24, tn_25, tn_26, tn_27, in_0, in_1, in_2, in_3, in_4, in_5, in_6, in_7, in_8, in_9, in_10, in_11, in_12, in_13, in_14, in_15, in_16, in_17, in_18, in_19, in_20, in_21, in_22, in_23, in_24, in_25, in_26, in_27, e_rf_s]
      rw [← ih]
theorem c_X2_countBadNodes {fl n : Nat} (hf : fl = 32 ∨ fl = 37) (hn : n ≤ 8) {m : Nat → Nat → Int32} : Wp xs L kX2_countBadNodes_0 [(0, .ref fl), (1, .int (nI n))] [] (173, m, e_rs sv) Q = Q (some (.int (sB (m (fl + 3)) n)), (173, m, e_rs sv)) := by
  have h := lp_countBad (xs := xs) (L := L) (Q := Q) (sv := sv) hf hn (m := m) n 0 (by omega)
  simp only [r_aload_n, r_bipush, r_copy, r_fmod, r_getf0, r_getf1, r_getf2, r_goto, r_iald, r_ic_gt, r_iconst, r_if_ne, r_iinc, r_iload_n, r_iret0, r_iret1, r_istore_n, r_mabs, r_mmax, r_mmin, r_nop, r_sipush, kX2_countBadNodes_0, kX2_countBadNodes_36, kX2_countBadNodes_42, lX2_countBadNodes_0, lX2_countBadNodes_4, lX2_countBadNodes_36, lX2_countBadNodes_42, vX8_isWithin, e_wi_s, e_wr_s, e_wl_s, e_lk, e_sto, e_ok, e_no, e_isL, Option.toList_some, Option.toList_none, List.cons_append, List.nil_append, List.length_cons, List.length_nil, Bool.not_false, Bool.not_true, Bool.and_true, Bool.true_and, Bool.false_and, Bool.and_false, Bool.and_self, Nat.reduceBEq, Nat.reduceAdd, Nat.reduceEqDiff, Nat.reduceLeDiff, Nat.reduceLT, Nat.zero_le, Nat.le_refl, if_true, if_false, ite_true, ite_false, true_and, and_true, true_or, or_true, not_false_eq_true, not_true_eq_false, e_set_self, Nat.succ_ne_zero, eq_self, e_set_slot, zero_01, one_01, e_b_0, e_b_01, or_self, or_false, false_or, R_1_0, R_1_1, R_1_2, R_1_3, R_1_4, R_1_5, R_1_6, R_32_0, R_32_1, R_32_2, R_36_0, R_36_1, R_36_2, R_36_3, R_37_0, R_37_1, R_37_2, R_68_0, R_70_0, R_164_0, R_164_1, R_164_3, R_164_5, R_164_6, R_164_7, R_164_8, R_164_10, R_164_11, R_2_4, R_2_5, ok_1, ok_32, ok_36, ok_37, ok_68, ok_70, ok_164, ok_2, ok_3, sz_3, ok_4, sz_4, ok_33, sz_33, ok_34, sz_34, ok_35, sz_35, ok_38, sz_38, ok_39, sz_39, ok_40, sz_40, ok_41, sz_41, ok_66, sz_66, ok_67, sz_67, ok_69, sz_69, ok_71, sz_71, ok_162, sz_162, ok_163, sz_163, ok_165, sz_165, ok_166, sz_166, ok_167, sz_167, ok_168, sz_168, ok_169, sz_169, ok_170, sz_170, ok_171, sz_171, ok_172, sz_172, ok_173, sz_173, tn_0, tn_1, tn_2, tn_3, tn_4, tn_5, tn_6, tn_7, tn_8, tn_9, tn_10, tn_11, tn_12, tn_13, tn_14, tn_15, tn_16, tn_17, tn_18, tn_19, tn_20, tn_21, tn_22, tn_23, tn_24, tn_25, tn_26, tn_27, in_0, in_1, in_2, in_3, in_4, in_5, in_6, in_7, in_8, in_9, in_10, in_11, in_12, in_13, in_14, in_15, in_16, in_17, in_18, in_19, in_20, in_21, in_22, in_23, in_24, in_25, in_26, in_27, e_rf_s]
  exact h
theorem c_X1_hour {m : Nat → Nat → Int32} : Wp xs L kX1_hour_0 [(0, .ref (2 : Nat))] [] (173, m, e_rs sv) Q = Q (some (.int (Jvm.Free.MCB.fmod (m 2 0 / 60) 24)), (173, m, e_rs sv)) := by
  have n0 : ¬ (60 : Int32) = 0 := by decide
  have n1 : ¬ (24 : Int32) = 0 := by decide
  simp only [r_aload_n, r_bipush, r_copy, r_fmod, r_getf0, r_getf1, r_getf2, r_idiv, r_iret0, r_iret1, r_mabs, r_mmax, r_mmin, r_nop, kX1_hour_0, lX1_hour_0, e_wi_s, e_wr_s, e_wl_s, e_lk, e_sto, e_ok, e_no, e_isL, Option.toList_some, Option.toList_none, List.cons_append, List.nil_append, List.length_cons, List.length_nil, Bool.not_false, Bool.not_true, Bool.and_true, Bool.true_and, Bool.false_and, Bool.and_false, Bool.and_self, Nat.reduceBEq, Nat.reduceAdd, Nat.reduceEqDiff, Nat.reduceLeDiff, Nat.reduceLT, Nat.zero_le, Nat.le_refl, if_true, if_false, ite_true, ite_false, true_and, and_true, true_or, or_true, not_false_eq_true, not_true_eq_false, e_set_self, Nat.succ_ne_zero, eq_self, n0, n1, e_set_slot, zero_01, one_01, e_b_0, e_b_01, or_self, or_false, false_or, R_1_0, R_1_1, R_1_2, R_1_3, R_1_4, R_1_5, R_1_6, R_32_0, R_32_1, R_32_2, R_36_0, R_36_1, R_36_2, R_36_3, R_37_0, R_37_1, R_37_2, R_68_0, R_70_0, R_164_0, R_164_1, R_164_3, R_164_5, R_164_6, R_164_7, R_164_8, R_164_10, R_164_11, R_2_4, R_2_5, ok_1, ok_32, ok_36, ok_37, ok_68, ok_70, ok_164, ok_2, ok_3, sz_3, ok_4, sz_4, ok_33, sz_33, ok_34, sz_34, ok_35, sz_35, ok_38, sz_38, ok_39, sz_39, ok_40, sz_40, ok_41, sz_41, ok_66, sz_66, ok_67, sz_67, ok_69, sz_69, ok_71, sz_71, ok_162, sz_162, ok_163, sz_163, ok_165, sz_165, ok_166, sz_166, ok_167, sz_167, ok_168, sz_168, ok_169, sz_169, ok_170, sz_170, ok_171, sz_171, ok_172, sz_172, ok_173, sz_173, tn_0, tn_1, tn_2, tn_3, tn_4, tn_5, tn_6, tn_7, tn_8, tn_9, tn_10, tn_11, tn_12, tn_13, tn_14, tn_15, tn_16, tn_17, tn_18, tn_19, tn_20, tn_21, tn_22, tn_23, tn_24, tn_25, tn_26, tn_27, in_0, in_1, in_2, in_3, in_4, in_5, in_6, in_7, in_8, in_9, in_10, in_11, in_12, in_13, in_14, in_15, in_16, in_17, in_18, in_19, in_20, in_21, in_22, in_23, in_24, in_25, in_26, in_27, e_rf_s]
theorem fmod_hour {t : Nat} (ht : t < 1000000000) : Jvm.Free.MCB.fmod (nI t / 60) 24 = nI (t / 60 % 24) := by
  have h1 : nI t / 60 = nI (t / 60) := pk_div (a := t) (d := 60) (by omega) (by omega) (by omega)
  rw [h1]
  have h2 : (24 : Int32) = nI 24 := rfl
  rw [h2]
  unfold Jvm.Free.MCB.fmod
  have h3 : Jvm.Free.MCB.remI (nI (t / 60)) (nI 24) = nI (t / 60 % 24) := pk_rem (by omega) (by omega) (by omega)
  rw [h3]
  rw [if_pos]
  have hm : ∀ a, a < 2 ^ 31 → (nI a).toBitVec.msb = false := fun a ha => by
    have h := BitVec.msb_eq_toInt (x := (nI a).toBitVec)
    rw [h]
    have e : (nI a).toBitVec.toInt = (a : Int) := nI_toInt ha
    rw [e]
    exact decide_eq_false (by omega)
  have h4 : (nI (t / 60) ^^^ nI 24).toBitVec.msb = false := by
    rw [Int32.toBitVec_xor, BitVec.msb_xor, hm _ (by omega), hm _ (by omega)]
    rfl
  rw [BitVec.msb_eq_toInt] at h4
  have h5 := of_decide_eq_false h4
  rw [Int32.le_iff_toInt_le]
  have h6 : (nI (t / 60) ^^^ nI 24).toInt = (nI (t / 60) ^^^ nI 24).toBitVec.toInt := rfl
  rw [h6, show (0 : Int32).toInt = 0 from rfl]
  exact Int.not_lt.mp h5
/-- the sums of the loads -/
theorem c_X2_sumLoads {fl n h : Nat} (hf : fl = 32 ∨ fl = 37) (hn : n ≤ 8) (hh : h < 24) {m : Nat → Nat → Int32} (hc : m 2 2 = nI n) {pl : Int32}
    (hQ : ∀ m', (∀ c, c ≠ fl + 1 → c ≠ fl + 2 → m' c = m c) → (∀ k, 0 < k → k ≤ n → m' (fl + 1) k = sP (vw 2 m) (m 3 h) (n + 1 - k) k ∧ m' (fl + 2) k = sQ (vw 2 m) (m 3 h) (nI h) pl (n + 1 - k) k) → Q (none, (173, m', e_rs sv))) :
    Wp xs L kX2_sumLoads_0 [(0, .ref fl), (1, .ref (2 : Nat)), (2, .int (nI h)), (3, .int pl)] [] (173, m, e_rs sv) Q := by
  have i1 : e_in (nI h) 24 = true := e_in_nI hh (by omega)
  have i2 : (nI h).toNatClampNeg = h := nI_nat (by omega)
  have key := lp_sumLoads (xs := xs) (L := L) (Q := Q) (sv := sv) hf hn (m0 := m) (f := m 3 h) (h := nI h) (pl := pl) n (Nat.le_refl _) m [] (Or.inl rfl) (fun _ _ _ => rfl) (fun k h1 h2 => by omega) hQ
  rw [Nat.sub_self] at key
  simp only [r_aald12, r_aald13, r_aald14, r_aload, r_aload_n, r_astore, r_bipush, r_getf0, r_getf1, r_getf2, r_goto, r_iadd, r_iald, r_iast, r_ic_lt, r_iconst, r_idiv, r_iinc, r_iload, r_iload_n, r_imul, r_istore, r_isub, r_nop, r_ret, kX2_sumLoads_0, kX2_sumLoads_102, lX2_sumLoads_0, lX2_sumLoads_20, lX2_sumLoads_102, vX0_supply, e_wi_s, e_wr_s, e_wl_s, e_lk, e_sto, e_ok, e_no, e_isL, Option.toList_some, Option.toList_none, List.cons_append, List.nil_append, List.length_cons, List.length_nil, Bool.not_false, Bool.not_true, Bool.and_true, Bool.true_and, Bool.false_and, Bool.and_false, Bool.and_self, Nat.reduceBEq, Nat.reduceAdd, Nat.reduceEqDiff, Nat.reduceLeDiff, Nat.reduceLT, Nat.zero_le, Nat.le_refl, if_true, if_false, ite_true, ite_false, true_and, and_true, true_or, or_true, not_false_eq_true, not_true_eq_false, e_set_self, Nat.succ_ne_zero, eq_self, i1, i2, hc, e_set_slot, zero_01, one_01, e_b_0, e_b_01, or_self, or_false, false_or, R_1_0, R_1_1, R_1_2, R_1_3, R_1_4, R_1_5, R_1_6, R_32_0, R_32_1, R_32_2, R_36_0, R_36_1, R_36_2, R_36_3, R_37_0, R_37_1, R_37_2, R_68_0, R_70_0, R_164_0, R_164_1, R_164_3, R_164_5, R_164_6, R_164_7, R_164_8, R_164_10, R_164_11, R_2_4, R_2_5, ok_1, ok_32, ok_36, ok_37, ok_68, ok_70, ok_164, ok_2, ok_3, sz_3, ok_4, sz_4, ok_33, sz_33, ok_34, sz_34, ok_35, sz_35, ok_38, sz_38, ok_39, sz_39, ok_40, sz_40, ok_41, sz_41, ok_66, sz_66, ok_67, sz_67, ok_69, sz_69, ok_71, sz_71, ok_162, sz_162, ok_163, sz_163, ok_165, sz_165, ok_166, sz_166, ok_167, sz_167, ok_168, sz_168, ok_169, sz_169, ok_170, sz_170, ok_171, sz_171, ok_172, sz_172, ok_173, sz_173, tn_0, tn_1, tn_2, tn_3, tn_4, tn_5, tn_6, tn_7, tn_8, tn_9, tn_10, tn_11, tn_12, tn_13, tn_14, tn_15, tn_16, tn_17, tn_18, tn_19, tn_20, tn_21, tn_22, tn_23, tn_24, tn_25, tn_26, tn_27, in_0, in_1, in_2, in_3, in_4, in_5, in_6, in_7, in_8, in_9, in_10, in_11, in_12, in_13, in_14, in_15, in_16, in_17, in_18, in_19, in_20, in_21, in_22, in_23, in_24, in_25, in_26, in_27, e_rf_s]
  exact key
theorem sV_cong {w : Nat → Nat → Int32} {A R A' R' : Nat → Int32} {seg tp : Int32} : ∀ n, (∀ k, 0 < k → k ≤ n → A k = A' k ∧ R k = R' k) → sV w A R seg tp n = sV w A' R' seg tp n
  | 0, _ => rfl
  | n + 1, h => by
    have h1 := h (n + 1) (by omega) (by omega)
    simp only [sV, sV_cong n (fun k a b => h k a (by omega)), h1.1, h1.2]
theorem c_X2_findVoltages {fl n : Nat} (hf : fl = 32 ∨ fl = 37) (hn : n ≤ 8) {m : Nat → Nat → Int32} (hc : m 2 2 = nI n) {seg tp : Int32}
    (hQ : ∀ m', (∀ c, c ≠ fl + 3 → m' c = m c) → (∀ k, k ≤ n → m' (fl + 3) k = sV (vw 2 m) (m (fl + 1)) (m (fl + 2)) seg tp k) → Q (none, (173, m', e_rs sv))) :
    Wp xs L kX2_findVoltages_0 [(0, .ref fl), (1, .ref (2 : Nat)), (2, .int seg), (3, .int tp)] [] (173, m, e_rs sv) Q := by
  obtain ⟨f1, f2, f3, f4, f5, f6, f7, f8, f9, f10⟩ := e_fl_ok hf
  have key := lp_findVoltages (xs := xs) (L := L) (Q := Q) (sv := sv) hf hn (m1 := m) (seg := seg) (tp := tp) hc n 0 (by omega) (e_set m (fl + 3) 0 (m 2 1)) [] (Or.inl rfl) (fun c h => by funext k; exact e_set_cell h) (fun k h => by
    have : k = 0 := by omega
    subst this
    rw [e_set_self]
    rfl) hQ
  simp only [r_aald12, r_aald13, r_aald14, r_aload, r_aload_n, r_astore, r_bipush, r_copy, r_fmod, r_getf0, r_getf1, r_getf2, r_goto, r_iadd, r_iald, r_iast, r_ic_gt, r_ic_ne, r_iconst, r_idiv, r_iinc, r_iload, r_iload_n, r_imul, r_istore, r_isub, r_mabs, r_mmax, r_mmin, r_nop, r_ret, r_sipush, kX2_findVoltages_0, kX2_findVoltages_45, kX2_findVoltages_53, kX2_findVoltages_128, lX2_findVoltages_0, lX2_findVoltages_17, lX2_findVoltages_45, lX2_findVoltages_53, lX2_findVoltages_128, e_wi_s, e_wr_s, e_wl_s, e_lk, e_sto, e_ok, e_no, e_isL, Option.toList_some, Option.toList_none, List.cons_append, List.nil_append, List.length_cons, List.length_nil, Bool.not_false, Bool.not_true, Bool.and_true, Bool.true_and, Bool.false_and, Bool.and_false, Bool.and_self, Nat.reduceBEq, Nat.reduceAdd, Nat.reduceEqDiff, Nat.reduceLeDiff, Nat.reduceLT, Nat.zero_le, Nat.le_refl, if_true, if_false, ite_true, ite_false, true_and, and_true, true_or, or_true, not_false_eq_true, not_true_eq_false, e_set_self, Nat.succ_ne_zero, eq_self, f1, f2, f3, f4, f5, f6, f7, f8, f9, f10, e_set_slot, zero_01, one_01, e_b_0, e_b_01, or_self, or_false, false_or, R_1_0, R_1_1, R_1_2, R_1_3, R_1_4, R_1_5, R_1_6, R_32_0, R_32_1, R_32_2, R_36_0, R_36_1, R_36_2, R_36_3, R_37_0, R_37_1, R_37_2, R_68_0, R_70_0, R_164_0, R_164_1, R_164_3, R_164_5, R_164_6, R_164_7, R_164_8, R_164_10, R_164_11, R_2_4, R_2_5, ok_1, ok_32, ok_36, ok_37, ok_68, ok_70, ok_164, ok_2, ok_3, sz_3, ok_4, sz_4, ok_33, sz_33, ok_34, sz_34, ok_35, sz_35, ok_38, sz_38, ok_39, sz_39, ok_40, sz_40, ok_41, sz_41, ok_66, sz_66, ok_67, sz_67, ok_69, sz_69, ok_71, sz_71, ok_162, sz_162, ok_163, sz_163, ok_165, sz_165, ok_166, sz_166, ok_167, sz_167, ok_168, sz_168, ok_169, sz_169, ok_170, sz_170, ok_171, sz_171, ok_172, sz_172, ok_173, sz_173, tn_0, tn_1, tn_2, tn_3, tn_4, tn_5, tn_6, tn_7, tn_8, tn_9, tn_10, tn_11, tn_12, tn_13, tn_14, tn_15, tn_16, tn_17, tn_18, tn_19, tn_20, tn_21, tn_22, tn_23, tn_24, tn_25, tn_26, tn_27, in_0, in_1, in_2, in_3, in_4, in_5, in_6, in_7, in_8, in_9, in_10, in_11, in_12, in_13, in_14, in_15, in_16, in_17, in_18, in_19, in_20, in_21, in_22, in_23, in_24, in_25, in_26, in_27, e_rf_s]
  exact key
/-- flows and voltages of table w with n nodes in hour h -/
def fA (w : Nat → Nat → Int32) (h n k : Nat) : Int32 := sP w (w 0 (4 + h)) (n + 1 - k) k
def fR (w : Nat → Nat → Int32) (h : Nat) (pl : Int32) (n k : Nat) : Int32 := sQ w (w 0 (4 + h)) (nI h) pl (n + 1 - k) k
def fV (w : Nat → Nat → Int32) (h : Nat) (pl : Int32) (n : Nat) (seg tp : Int32) (k : Nat) : Int32 := sV w (fA w h n) (fR w h pl n) seg tp k
def hr (t : Nat) : Nat := t / 60 % 24
theorem hr_lt (t : Nat) : hr t < 24 := Nat.mod_lt _ (by decide)
/-- what solve leaves -/
def Sol (n t : Nat) (m m' : Nat → Nat → Int32) : Prop := (∀ c, c ≠ 33 → c ≠ 34 → c ≠ 35 → m' c = m c) ∧ (∀ k, 0 < k → k ≤ n → m' 33 k = fA (vw 2 m) (hr t) n k ∧ m' 34 k = fR (vw 2 m) (hr t) 0 n k) ∧ ∀ k, k ≤ n → m' 35 k = fV (vw 2 m) (hr t) 0 n 0 0 k
theorem c_X2_solve {n t : Nat} (hn : n ≤ 8) {m : Nat → Nat → Int32} (hc : m 2 2 = nI n) (ht : m 2 0 = nI t) (ht2 : t < 1000000000)
    (hQ : ∀ m', Sol n t m m' → Q (none, (173, m', e_rs sv))) :
    Wp xs L kX2_solve_0 [(0, .ref (32 : Nat)), (1, .ref (2 : Nat))] [] (173, m, e_rs sv) Q := by
  have hh := hr_lt t
  have eh : Jvm.Free.MCB.fmod (m 2 0 / 60) 24 = nI (hr t) := by rw [ht]; exact fmod_hour ht2
  simp only [r_aload_n, r_iconst, r_nop, r_ret, kX2_solve_0, lX2_solve_0, vX1_hour, vX2_findVoltages, vX2_sumLoads, e_wi_s, e_wr_s, e_wl_s, e_lk, e_sto, e_ok, e_no, e_isL, Option.toList_some, Option.toList_none, List.cons_append, List.nil_append, List.length_cons, List.length_nil, Bool.not_false, Bool.not_true, Bool.and_true, Bool.true_and, Bool.false_and, Bool.and_false, Bool.and_self, Nat.reduceBEq, Nat.reduceAdd, Nat.reduceEqDiff, Nat.reduceLeDiff, Nat.reduceLT, Nat.zero_le, Nat.le_refl, if_true, if_false, ite_true, ite_false, true_and, and_true, true_or, or_true, not_false_eq_true, not_true_eq_false, e_set_self, Nat.succ_ne_zero, eq_self, c_X1_hour, eh, e_set_slot, zero_01, one_01, e_b_0, e_b_01, or_self, or_false, false_or, R_1_0, R_1_1, R_1_2, R_1_3, R_1_4, R_1_5, R_1_6, R_32_0, R_32_1, R_32_2, R_36_0, R_36_1, R_36_2, R_36_3, R_37_0, R_37_1, R_37_2, R_68_0, R_70_0, R_164_0, R_164_1, R_164_3, R_164_5, R_164_6, R_164_7, R_164_8, R_164_10, R_164_11, R_2_4, R_2_5, ok_1, ok_32, ok_36, ok_37, ok_68, ok_70, ok_164, ok_2, ok_3, sz_3, ok_4, sz_4, ok_33, sz_33, ok_34, sz_34, ok_35, sz_35, ok_38, sz_38, ok_39, sz_39, ok_40, sz_40, ok_41, sz_41, ok_66, sz_66, ok_67, sz_67, ok_69, sz_69, ok_71, sz_71, ok_162, sz_162, ok_163, sz_163, ok_165, sz_165, ok_166, sz_166, ok_167, sz_167, ok_168, sz_168, ok_169, sz_169, ok_170, sz_170, ok_171, sz_171, ok_172, sz_172, ok_173, sz_173, tn_0, tn_1, tn_2, tn_3, tn_4, tn_5, tn_6, tn_7, tn_8, tn_9, tn_10, tn_11, tn_12, tn_13, tn_14, tn_15, tn_16, tn_17, tn_18, tn_19, tn_20, tn_21, tn_22, tn_23, tn_24, tn_25, tn_26, tn_27, in_0, in_1, in_2, in_3, in_4, in_5, in_6, in_7, in_8, in_9, in_10, in_11, in_12, in_13, in_14, in_15, in_16, in_17, in_18, in_19, in_20, in_21, in_22, in_23, in_24, in_25, in_26, in_27, e_rf_s]
  refine c_X2_sumLoads (Or.inl rfl) hn hh hc (fun m1 h1 h2 => ?_)
  simp only [r_aload_n, r_iconst, r_nop, r_ret, kX2_solve_0, lX2_solve_0, vX1_hour, vX2_findVoltages, vX2_sumLoads, e_wi_s, e_wr_s, e_wl_s, e_lk, e_sto, e_ok, e_no, e_isL, Option.toList_some, Option.toList_none, List.cons_append, List.nil_append, List.length_cons, List.length_nil, Bool.not_false, Bool.not_true, Bool.and_true, Bool.true_and, Bool.false_and, Bool.and_false, Bool.and_self, Nat.reduceBEq, Nat.reduceAdd, Nat.reduceEqDiff, Nat.reduceLeDiff, Nat.reduceLT, Nat.zero_le, Nat.le_refl, if_true, if_false, ite_true, ite_false, true_and, and_true, true_or, or_true, not_false_eq_true, not_true_eq_false, e_set_self, Nat.succ_ne_zero, eq_self, c_X1_hour, eh, e_set_slot, zero_01, one_01, e_b_0, e_b_01, or_self, or_false, false_or, R_1_0, R_1_1, R_1_2, R_1_3, R_1_4, R_1_5, R_1_6, R_32_0, R_32_1, R_32_2, R_36_0, R_36_1, R_36_2, R_36_3, R_37_0, R_37_1, R_37_2, R_68_0, R_70_0, R_164_0, R_164_1, R_164_3, R_164_5, R_164_6, R_164_7, R_164_8, R_164_10, R_164_11, R_2_4, R_2_5, ok_1, ok_32, ok_36, ok_37, ok_68, ok_70, ok_164, ok_2, ok_3, sz_3, ok_4, sz_4, ok_33, sz_33, ok_34, sz_34, ok_35, sz_35, ok_38, sz_38, ok_39, sz_39, ok_40, sz_40, ok_41, sz_41, ok_66, sz_66, ok_67, sz_67, ok_69, sz_69, ok_71, sz_71, ok_162, sz_162, ok_163, sz_163, ok_165, sz_165, ok_166, sz_166, ok_167, sz_167, ok_168, sz_168, ok_169, sz_169, ok_170, sz_170, ok_171, sz_171, ok_172, sz_172, ok_173, sz_173, tn_0, tn_1, tn_2, tn_3, tn_4, tn_5, tn_6, tn_7, tn_8, tn_9, tn_10, tn_11, tn_12, tn_13, tn_14, tn_15, tn_16, tn_17, tn_18, tn_19, tn_20, tn_21, tn_22, tn_23, tn_24, tn_25, tn_26, tn_27, in_0, in_1, in_2, in_3, in_4, in_5, in_6, in_7, in_8, in_9, in_10, in_11, in_12, in_13, in_14, in_15, in_16, in_17, in_18, in_19, in_20, in_21, in_22, in_23, in_24, in_25, in_26, in_27, e_rf_s]
  have hc1 : m1 2 2 = nI n := by rw [h1 2 (by omega) (by omega)]; exact hc
  have ew : vw 2 m1 = vw 2 m := vw_cong (fun c a b => h1 c (by omega) (by omega))
  have ef : m 3 (hr t) = vw 2 m 0 (4 + hr t) := (vr_f (B := 2) hh).symm
  refine c_X2_findVoltages (Or.inl rfl) hn hc1 (fun m2 g1 g2 => ?_)
  simp only [r_aload_n, r_iconst, r_nop, r_ret, kX2_solve_0, lX2_solve_0, vX1_hour, vX2_findVoltages, vX2_sumLoads, e_wi_s, e_wr_s, e_wl_s, e_lk, e_sto, e_ok, e_no, e_isL, Option.toList_some, Option.toList_none, List.cons_append, List.nil_append, List.length_cons, List.length_nil, Bool.not_false, Bool.not_true, Bool.and_true, Bool.true_and, Bool.false_and, Bool.and_false, Bool.and_self, Nat.reduceBEq, Nat.reduceAdd, Nat.reduceEqDiff, Nat.reduceLeDiff, Nat.reduceLT, Nat.zero_le, Nat.le_refl, if_true, if_false, ite_true, ite_false, true_and, and_true, true_or, or_true, not_false_eq_true, not_true_eq_false, e_set_self, Nat.succ_ne_zero, eq_self, c_X1_hour, eh, e_set_slot, zero_01, one_01, e_b_0, e_b_01, or_self, or_false, false_or, R_1_0, R_1_1, R_1_2, R_1_3, R_1_4, R_1_5, R_1_6, R_32_0, R_32_1, R_32_2, R_36_0, R_36_1, R_36_2, R_36_3, R_37_0, R_37_1, R_37_2, R_68_0, R_70_0, R_164_0, R_164_1, R_164_3, R_164_5, R_164_6, R_164_7, R_164_8, R_164_10, R_164_11, R_2_4, R_2_5, ok_1, ok_32, ok_36, ok_37, ok_68, ok_70, ok_164, ok_2, ok_3, sz_3, ok_4, sz_4, ok_33, sz_33, ok_34, sz_34, ok_35, sz_35, ok_38, sz_38, ok_39, sz_39, ok_40, sz_40, ok_41, sz_41, ok_66, sz_66, ok_67, sz_67, ok_69, sz_69, ok_71, sz_71, ok_162, sz_162, ok_163, sz_163, ok_165, sz_165, ok_166, sz_166, ok_167, sz_167, ok_168, sz_168, ok_169, sz_169, ok_170, sz_170, ok_171, sz_171, ok_172, sz_172, ok_173, sz_173, tn_0, tn_1, tn_2, tn_3, tn_4, tn_5, tn_6, tn_7, tn_8, tn_9, tn_10, tn_11, tn_12, tn_13, tn_14, tn_15, tn_16, tn_17, tn_18, tn_19, tn_20, tn_21, tn_22, tn_23, tn_24, tn_25, tn_26, tn_27, in_0, in_1, in_2, in_3, in_4, in_5, in_6, in_7, in_8, in_9, in_10, in_11, in_12, in_13, in_14, in_15, in_16, in_17, in_18, in_19, in_20, in_21, in_22, in_23, in_24, in_25, in_26, in_27, e_rf_s]
  refine hQ m2 ⟨fun c a b d => by rw [g1 c d, h1 c a b], fun k a b => ?_, fun k a => ?_⟩
  · rw [g1 33 (by omega), g1 34 (by omega)]
    have := h2 k a b
    rw [ef] at this
    exact this
  · have e := g2 k a
    rw [ew] at e
    refine e.trans (sV_cong k (fun k' a' b' => ?_))
    have := h2 k' a' (by omega)
    rw [ef] at this
    exact this
end P16
end
section
/-! the reference: its table, flows and voltages -/
theorem sp_k {k i : Nat} (h1 : 1 ≤ k) : 28 + 24 * (nI k - 1) + nI i = nI (ix k i) := by
  obtain ⟨j, rfl⟩ : ∃ j, k = j + 1 := ⟨k - 1, by omega⟩
  rw [nI_pred, show (24 : Int32) = nI 24 from rfl, pk_mul, show (28 : Int32) = nI 28 from rfl, nI_add, nI_add]
  unfold ix
  congr 1
  omega
theorem ix_lt {k i : Nat} (h2 : k ≤ 8) (hi : i < 24) : ix k i < 220 := by unfold ix; omega
section P17
variable {xs : Nat → Int32} {L : Nat} {Q : e_Rs → Prop} {sv : Nat → Nat} {m : Nat → Nat → Int32}
theorem c_X9_spot {k w : Int32} {r : Nat → Nat → Nat} : Wp xs L kX9_spot_0 [(0, .int k), (1, .int w)] [] (173, m, r) Q = Q (some (.int (28 + 24 * (k - 1) + w)), (173, m, r)) := by
  simp only [r_bipush, r_iadd, r_iconst, r_iload_n, r_imul, r_iret0, r_iret1, r_isub, r_nop, kX9_spot_0, lX9_spot_0, e_wi_s, e_wr_s, e_wl_s, e_lk, e_sto, e_ok, e_no, e_isL, Option.toList_some, Option.toList_none, List.cons_append, List.nil_append, List.length_cons, List.length_nil, Bool.not_false, Bool.not_true, Bool.and_true, Bool.true_and, Bool.false_and, Bool.and_false, Bool.and_self, Nat.reduceBEq, Nat.reduceAdd, Nat.reduceEqDiff, Nat.reduceLeDiff, Nat.reduceLT, Nat.zero_le, Nat.le_refl, if_true, if_false, ite_true, ite_false, true_and, and_true, true_or, or_true, not_false_eq_true, not_true_eq_false, e_set_self, Nat.succ_ne_zero, eq_self, e_set_slot, zero_01, one_01, e_b_0, e_b_01, or_self, or_false, false_or, R_1_0, R_1_1, R_1_2, R_1_3, R_1_4, R_1_5, R_1_6, R_32_0, R_32_1, R_32_2, R_36_0, R_36_1, R_36_2, R_36_3, R_37_0, R_37_1, R_37_2, R_68_0, R_70_0, R_164_0, R_164_1, R_164_3, R_164_5, R_164_6, R_164_7, R_164_8, R_164_10, R_164_11, R_2_4, R_2_5, ok_1, ok_32, ok_36, ok_37, ok_68, ok_70, ok_164, ok_2, ok_3, sz_3, ok_4, sz_4, ok_33, sz_33, ok_34, sz_34, ok_35, sz_35, ok_38, sz_38, ok_39, sz_39, ok_40, sz_40, ok_41, sz_41, ok_66, sz_66, ok_67, sz_67, ok_69, sz_69, ok_71, sz_71, ok_162, sz_162, ok_163, sz_163, ok_165, sz_165, ok_166, sz_166, ok_167, sz_167, ok_168, sz_168, ok_169, sz_169, ok_170, sz_170, ok_171, sz_171, ok_172, sz_172, ok_173, sz_173, tn_0, tn_1, tn_2, tn_3, tn_4, tn_5, tn_6, tn_7, tn_8, tn_9, tn_10, tn_11, tn_12, tn_13, tn_14, tn_15, tn_16, tn_17, tn_18, tn_19, tn_20, tn_21, tn_22, tn_23, tn_24, tn_25, tn_26, tn_27, in_0, in_1, in_2, in_3, in_4, in_5, in_6, in_7, in_8, in_9, in_10, in_11, in_12, in_13, in_14, in_15, in_16, in_17, in_18, in_19, in_20, in_21, in_22, in_23, in_24, in_25, in_26, in_27, e_rf_s]
theorem c_X9_of {k i : Nat} (h1 : 1 ≤ k) (h2 : k ≤ 8) (hi : i < 24) {w : Int32} (hw : w = nI i) : Wp xs L kX9_of_0 [(0, .ref (164 : Nat)), (1, .int (nI k)), (2, .int w)] [] (173, m, e_rs sv) Q = Q (some (.int (m 165 (ix k i))), (173, m, e_rs sv)) := by
  subst hw
  have hx := ix_lt h2 hi
  have e1 := sp_k (k := k) (i := i) h1
  have i1 : e_in (nI (ix k i)) 220 = true := e_in_nI hx (by omega)
  have i2 : (nI (ix k i)).toNatClampNeg = ix k i := nI_nat (by omega)
  simp only [r_aload_n, r_copy, r_fmod, r_getf0, r_getf1, r_getf2, r_iald, r_iload_n, r_iret0, r_iret1, r_mabs, r_mmax, r_mmin, r_nop, kX9_of_0, lX9_of_0, vX9_spot, e_wi_s, e_wr_s, e_wl_s, e_lk, e_sto, e_ok, e_no, e_isL, Option.toList_some, Option.toList_none, List.cons_append, List.nil_append, List.length_cons, List.length_nil, Bool.not_false, Bool.not_true, Bool.and_true, Bool.true_and, Bool.false_and, Bool.and_false, Bool.and_self, Nat.reduceBEq, Nat.reduceAdd, Nat.reduceEqDiff, Nat.reduceLeDiff, Nat.reduceLT, Nat.zero_le, Nat.le_refl, if_true, if_false, ite_true, ite_false, true_and, and_true, true_or, or_true, not_false_eq_true, not_true_eq_false, e_set_self, Nat.succ_ne_zero, eq_self, c_X9_spot, e1, i1, i2, e_set_slot, zero_01, one_01, e_b_0, e_b_01, or_self, or_false, false_or, R_1_0, R_1_1, R_1_2, R_1_3, R_1_4, R_1_5, R_1_6, R_32_0, R_32_1, R_32_2, R_36_0, R_36_1, R_36_2, R_36_3, R_37_0, R_37_1, R_37_2, R_68_0, R_70_0, R_164_0, R_164_1, R_164_3, R_164_5, R_164_6, R_164_7, R_164_8, R_164_10, R_164_11, R_2_4, R_2_5, ok_1, ok_32, ok_36, ok_37, ok_68, ok_70, ok_164, ok_2, ok_3, sz_3, ok_4, sz_4, ok_33, sz_33, ok_34, sz_34, ok_35, sz_35, ok_38, sz_38, ok_39, sz_39, ok_40, sz_40, ok_41, sz_41, ok_66, sz_66, ok_67, sz_67, ok_69, sz_69, ok_71, sz_71, ok_162, sz_162, ok_163, sz_163, ok_165, sz_165, ok_166, sz_166, ok_167, sz_167, ok_168, sz_168, ok_169, sz_169, ok_170, sz_170, ok_171, sz_171, ok_172, sz_172, ok_173, sz_173, tn_0, tn_1, tn_2, tn_3, tn_4, tn_5, tn_6, tn_7, tn_8, tn_9, tn_10, tn_11, tn_12, tn_13, tn_14, tn_15, tn_16, tn_17, tn_18, tn_19, tn_20, tn_21, tn_22, tn_23, tn_24, tn_25, tn_26, tn_27, in_0, in_1, in_2, in_3, in_4, in_5, in_6, in_7, in_8, in_9, in_10, in_11, in_12, in_13, in_14, in_15, in_16, in_17, in_18, in_19, in_20, in_21, in_22, in_23, in_24, in_25, in_26, in_27, e_rf_s]
theorem c_X9_put {k i : Nat} (h1 : 1 ≤ k) (h2 : k ≤ 8) (hi : i < 24) {w v : Int32} (hw : w = nI i) : Wp xs L kX9_put_0 [(0, .ref (164 : Nat)), (1, .int (nI k)), (2, .int w), (3, .int v)] [] (173, m, e_rs sv) Q = Q (none, (173, e_set m 165 (ix k i) v, e_rs sv)) := by
  subst hw
  have hx := ix_lt h2 hi
  have e1 := sp_k (k := k) (i := i) h1
  have i1 : e_in (nI (ix k i)) 220 = true := e_in_nI hx (by omega)
  have i2 : (nI (ix k i)).toNatClampNeg = ix k i := nI_nat (by omega)
  simp only [r_aload_n, r_copy, r_fmod, r_getf0, r_getf1, r_getf2, r_iast, r_iload_n, r_mabs, r_mmax, r_mmin, r_nop, r_ret, kX9_put_0, lX9_put_0, vX9_spot, e_wi_s, e_wr_s, e_wl_s, e_lk, e_sto, e_ok, e_no, e_isL, Option.toList_some, Option.toList_none, List.cons_append, List.nil_append, List.length_cons, List.length_nil, Bool.not_false, Bool.not_true, Bool.and_true, Bool.true_and, Bool.false_and, Bool.and_false, Bool.and_self, Nat.reduceBEq, Nat.reduceAdd, Nat.reduceEqDiff, Nat.reduceLeDiff, Nat.reduceLT, Nat.zero_le, Nat.le_refl, if_true, if_false, ite_true, ite_false, true_and, and_true, true_or, or_true, not_false_eq_true, not_true_eq_false, e_set_self, Nat.succ_ne_zero, eq_self, c_X9_spot, e1, i1, i2, e_set_slot, zero_01, one_01, e_b_0, e_b_01, or_self, or_false, false_or, R_1_0, R_1_1, R_1_2, R_1_3, R_1_4, R_1_5, R_1_6, R_32_0, R_32_1, R_32_2, R_36_0, R_36_1, R_36_2, R_36_3, R_37_0, R_37_1, R_37_2, R_68_0, R_70_0, R_164_0, R_164_1, R_164_3, R_164_5, R_164_6, R_164_7, R_164_8, R_164_10, R_164_11, R_2_4, R_2_5, ok_1, ok_32, ok_36, ok_37, ok_68, ok_70, ok_164, ok_2, ok_3, sz_3, ok_4, sz_4, ok_33, sz_33, ok_34, sz_34, ok_35, sz_35, ok_38, sz_38, ok_39, sz_39, ok_40, sz_40, ok_41, sz_41, ok_66, sz_66, ok_67, sz_67, ok_69, sz_69, ok_71, sz_71, ok_162, sz_162, ok_163, sz_163, ok_165, sz_165, ok_166, sz_166, ok_167, sz_167, ok_168, sz_168, ok_169, sz_169, ok_170, sz_170, ok_171, sz_171, ok_172, sz_172, ok_173, sz_173, tn_0, tn_1, tn_2, tn_3, tn_4, tn_5, tn_6, tn_7, tn_8, tn_9, tn_10, tn_11, tn_12, tn_13, tn_14, tn_15, tn_16, tn_17, tn_18, tn_19, tn_20, tn_21, tn_22, tn_23, tn_24, tn_25, tn_26, tn_27, in_0, in_1, in_2, in_3, in_4, in_5, in_6, in_7, in_8, in_9, in_10, in_11, in_12, in_13, in_14, in_15, in_16, in_17, in_18, in_19, in_20, in_21, in_22, in_23, in_24, in_25, in_26, in_27, e_rf_s]
theorem c_of_0 {k : Nat} (h1 : 1 ≤ k) (h2 : k ≤ 8) : Wp xs L kX9_of_0 [(0, .ref (164 : Nat)), (1, .int (nI k)), (2, .int 0)] [] (173, m, e_rs sv) Q = Q (some (.int (m 165 (ix k 0))), (173, m, e_rs sv)) := c_X9_of h1 h2 (by decide) rfl
theorem c_put_0 {k : Nat} {v : Int32} (h1 : 1 ≤ k) (h2 : k ≤ 8) : Wp xs L kX9_put_0 [(0, .ref (164 : Nat)), (1, .int (nI k)), (2, .int 0), (3, .int v)] [] (173, m, e_rs sv) Q = Q (none, (173, e_set m 165 (ix k 0) v, e_rs sv)) := c_X9_put h1 h2 (by decide) rfl
theorem mr_k0 {k : Nat} (h1 : 1 ≤ k) (h2 : k ≤ 8) : mw 165 0 m k 0 = m 165 (ix k 0) := mr_k h1 h2 (by decide)
theorem c_of_1 {k : Nat} (h1 : 1 ≤ k) (h2 : k ≤ 8) : Wp xs L kX9_of_0 [(0, .ref (164 : Nat)), (1, .int (nI k)), (2, .int 1)] [] (173, m, e_rs sv) Q = Q (some (.int (m 165 (ix k 1))), (173, m, e_rs sv)) := c_X9_of h1 h2 (by decide) rfl
theorem c_put_1 {k : Nat} {v : Int32} (h1 : 1 ≤ k) (h2 : k ≤ 8) : Wp xs L kX9_put_0 [(0, .ref (164 : Nat)), (1, .int (nI k)), (2, .int 1), (3, .int v)] [] (173, m, e_rs sv) Q = Q (none, (173, e_set m 165 (ix k 1) v, e_rs sv)) := c_X9_put h1 h2 (by decide) rfl
theorem mr_k1 {k : Nat} (h1 : 1 ≤ k) (h2 : k ≤ 8) : mw 165 0 m k 1 = m 165 (ix k 1) := mr_k h1 h2 (by decide)
theorem c_of_2 {k : Nat} (h1 : 1 ≤ k) (h2 : k ≤ 8) : Wp xs L kX9_of_0 [(0, .ref (164 : Nat)), (1, .int (nI k)), (2, .int 2)] [] (173, m, e_rs sv) Q = Q (some (.int (m 165 (ix k 2))), (173, m, e_rs sv)) := c_X9_of h1 h2 (by decide) rfl
theorem c_put_2 {k : Nat} {v : Int32} (h1 : 1 ≤ k) (h2 : k ≤ 8) : Wp xs L kX9_put_0 [(0, .ref (164 : Nat)), (1, .int (nI k)), (2, .int 2), (3, .int v)] [] (173, m, e_rs sv) Q = Q (none, (173, e_set m 165 (ix k 2) v, e_rs sv)) := c_X9_put h1 h2 (by decide) rfl
theorem mr_k2 {k : Nat} (h1 : 1 ≤ k) (h2 : k ≤ 8) : mw 165 0 m k 2 = m 165 (ix k 2) := mr_k h1 h2 (by decide)
theorem c_of_3 {k : Nat} (h1 : 1 ≤ k) (h2 : k ≤ 8) : Wp xs L kX9_of_0 [(0, .ref (164 : Nat)), (1, .int (nI k)), (2, .int 3)] [] (173, m, e_rs sv) Q = Q (some (.int (m 165 (ix k 3))), (173, m, e_rs sv)) := c_X9_of h1 h2 (by decide) rfl
theorem c_put_3 {k : Nat} {v : Int32} (h1 : 1 ≤ k) (h2 : k ≤ 8) : Wp xs L kX9_put_0 [(0, .ref (164 : Nat)), (1, .int (nI k)), (2, .int 3), (3, .int v)] [] (173, m, e_rs sv) Q = Q (none, (173, e_set m 165 (ix k 3) v, e_rs sv)) := c_X9_put h1 h2 (by decide) rfl
theorem mr_k3 {k : Nat} (h1 : 1 ≤ k) (h2 : k ≤ 8) : mw 165 0 m k 3 = m 165 (ix k 3) := mr_k h1 h2 (by decide)
theorem c_of_4 {k : Nat} (h1 : 1 ≤ k) (h2 : k ≤ 8) : Wp xs L kX9_of_0 [(0, .ref (164 : Nat)), (1, .int (nI k)), (2, .int 4)] [] (173, m, e_rs sv) Q = Q (some (.int (m 165 (ix k 4))), (173, m, e_rs sv)) := c_X9_of h1 h2 (by decide) rfl
theorem c_put_4 {k : Nat} {v : Int32} (h1 : 1 ≤ k) (h2 : k ≤ 8) : Wp xs L kX9_put_0 [(0, .ref (164 : Nat)), (1, .int (nI k)), (2, .int 4), (3, .int v)] [] (173, m, e_rs sv) Q = Q (none, (173, e_set m 165 (ix k 4) v, e_rs sv)) := c_X9_put h1 h2 (by decide) rfl
theorem mr_k4 {k : Nat} (h1 : 1 ≤ k) (h2 : k ≤ 8) : mw 165 0 m k 4 = m 165 (ix k 4) := mr_k h1 h2 (by decide)
theorem c_of_5 {k : Nat} (h1 : 1 ≤ k) (h2 : k ≤ 8) : Wp xs L kX9_of_0 [(0, .ref (164 : Nat)), (1, .int (nI k)), (2, .int 5)] [] (173, m, e_rs sv) Q = Q (some (.int (m 165 (ix k 5))), (173, m, e_rs sv)) := c_X9_of h1 h2 (by decide) rfl
theorem c_put_5 {k : Nat} {v : Int32} (h1 : 1 ≤ k) (h2 : k ≤ 8) : Wp xs L kX9_put_0 [(0, .ref (164 : Nat)), (1, .int (nI k)), (2, .int 5), (3, .int v)] [] (173, m, e_rs sv) Q = Q (none, (173, e_set m 165 (ix k 5) v, e_rs sv)) := c_X9_put h1 h2 (by decide) rfl
theorem mr_k5 {k : Nat} (h1 : 1 ≤ k) (h2 : k ≤ 8) : mw 165 0 m k 5 = m 165 (ix k 5) := mr_k h1 h2 (by decide)
theorem c_of_6 {k : Nat} (h1 : 1 ≤ k) (h2 : k ≤ 8) : Wp xs L kX9_of_0 [(0, .ref (164 : Nat)), (1, .int (nI k)), (2, .int 6)] [] (173, m, e_rs sv) Q = Q (some (.int (m 165 (ix k 6))), (173, m, e_rs sv)) := c_X9_of h1 h2 (by decide) rfl
theorem c_put_6 {k : Nat} {v : Int32} (h1 : 1 ≤ k) (h2 : k ≤ 8) : Wp xs L kX9_put_0 [(0, .ref (164 : Nat)), (1, .int (nI k)), (2, .int 6), (3, .int v)] [] (173, m, e_rs sv) Q = Q (none, (173, e_set m 165 (ix k 6) v, e_rs sv)) := c_X9_put h1 h2 (by decide) rfl
theorem mr_k6 {k : Nat} (h1 : 1 ≤ k) (h2 : k ≤ 8) : mw 165 0 m k 6 = m 165 (ix k 6) := mr_k h1 h2 (by decide)
theorem c_of_7 {k : Nat} (h1 : 1 ≤ k) (h2 : k ≤ 8) : Wp xs L kX9_of_0 [(0, .ref (164 : Nat)), (1, .int (nI k)), (2, .int 7)] [] (173, m, e_rs sv) Q = Q (some (.int (m 165 (ix k 7))), (173, m, e_rs sv)) := c_X9_of h1 h2 (by decide) rfl
theorem c_put_7 {k : Nat} {v : Int32} (h1 : 1 ≤ k) (h2 : k ≤ 8) : Wp xs L kX9_put_0 [(0, .ref (164 : Nat)), (1, .int (nI k)), (2, .int 7), (3, .int v)] [] (173, m, e_rs sv) Q = Q (none, (173, e_set m 165 (ix k 7) v, e_rs sv)) := c_X9_put h1 h2 (by decide) rfl
theorem mr_k7 {k : Nat} (h1 : 1 ≤ k) (h2 : k ≤ 8) : mw 165 0 m k 7 = m 165 (ix k 7) := mr_k h1 h2 (by decide)
theorem c_of_8 {k : Nat} (h1 : 1 ≤ k) (h2 : k ≤ 8) : Wp xs L kX9_of_0 [(0, .ref (164 : Nat)), (1, .int (nI k)), (2, .int 8)] [] (173, m, e_rs sv) Q = Q (some (.int (m 165 (ix k 8))), (173, m, e_rs sv)) := c_X9_of h1 h2 (by decide) rfl
theorem c_put_8 {k : Nat} {v : Int32} (h1 : 1 ≤ k) (h2 : k ≤ 8) : Wp xs L kX9_put_0 [(0, .ref (164 : Nat)), (1, .int (nI k)), (2, .int 8), (3, .int v)] [] (173, m, e_rs sv) Q = Q (none, (173, e_set m 165 (ix k 8) v, e_rs sv)) := c_X9_put h1 h2 (by decide) rfl
theorem mr_k8 {k : Nat} (h1 : 1 ≤ k) (h2 : k ≤ 8) : mw 165 0 m k 8 = m 165 (ix k 8) := mr_k h1 h2 (by decide)
theorem c_of_9 {k : Nat} (h1 : 1 ≤ k) (h2 : k ≤ 8) : Wp xs L kX9_of_0 [(0, .ref (164 : Nat)), (1, .int (nI k)), (2, .int 9)] [] (173, m, e_rs sv) Q = Q (some (.int (m 165 (ix k 9))), (173, m, e_rs sv)) := c_X9_of h1 h2 (by decide) rfl
theorem c_put_9 {k : Nat} {v : Int32} (h1 : 1 ≤ k) (h2 : k ≤ 8) : Wp xs L kX9_put_0 [(0, .ref (164 : Nat)), (1, .int (nI k)), (2, .int 9), (3, .int v)] [] (173, m, e_rs sv) Q = Q (none, (173, e_set m 165 (ix k 9) v, e_rs sv)) := c_X9_put h1 h2 (by decide) rfl
theorem mr_k9 {k : Nat} (h1 : 1 ≤ k) (h2 : k ≤ 8) : mw 165 0 m k 9 = m 165 (ix k 9) := mr_k h1 h2 (by decide)
theorem c_of_10 {k : Nat} (h1 : 1 ≤ k) (h2 : k ≤ 8) : Wp xs L kX9_of_0 [(0, .ref (164 : Nat)), (1, .int (nI k)), (2, .int 10)] [] (173, m, e_rs sv) Q = Q (some (.int (m 165 (ix k 10))), (173, m, e_rs sv)) := c_X9_of h1 h2 (by decide) rfl
theorem c_put_10 {k : Nat} {v : Int32} (h1 : 1 ≤ k) (h2 : k ≤ 8) : Wp xs L kX9_put_0 [(0, .ref (164 : Nat)), (1, .int (nI k)), (2, .int 10), (3, .int v)] [] (173, m, e_rs sv) Q = Q (none, (173, e_set m 165 (ix k 10) v, e_rs sv)) := c_X9_put h1 h2 (by decide) rfl
theorem mr_k10 {k : Nat} (h1 : 1 ≤ k) (h2 : k ≤ 8) : mw 165 0 m k 10 = m 165 (ix k 10) := mr_k h1 h2 (by decide)
theorem c_of_11 {k : Nat} (h1 : 1 ≤ k) (h2 : k ≤ 8) : Wp xs L kX9_of_0 [(0, .ref (164 : Nat)), (1, .int (nI k)), (2, .int 11)] [] (173, m, e_rs sv) Q = Q (some (.int (m 165 (ix k 11))), (173, m, e_rs sv)) := c_X9_of h1 h2 (by decide) rfl
theorem c_put_11 {k : Nat} {v : Int32} (h1 : 1 ≤ k) (h2 : k ≤ 8) : Wp xs L kX9_put_0 [(0, .ref (164 : Nat)), (1, .int (nI k)), (2, .int 11), (3, .int v)] [] (173, m, e_rs sv) Q = Q (none, (173, e_set m 165 (ix k 11) v, e_rs sv)) := c_X9_put h1 h2 (by decide) rfl
theorem mr_k11 {k : Nat} (h1 : 1 ≤ k) (h2 : k ≤ 8) : mw 165 0 m k 11 = m 165 (ix k 11) := mr_k h1 h2 (by decide)
theorem c_of_12 {k : Nat} (h1 : 1 ≤ k) (h2 : k ≤ 8) : Wp xs L kX9_of_0 [(0, .ref (164 : Nat)), (1, .int (nI k)), (2, .int 12)] [] (173, m, e_rs sv) Q = Q (some (.int (m 165 (ix k 12))), (173, m, e_rs sv)) := c_X9_of h1 h2 (by decide) rfl
theorem c_put_12 {k : Nat} {v : Int32} (h1 : 1 ≤ k) (h2 : k ≤ 8) : Wp xs L kX9_put_0 [(0, .ref (164 : Nat)), (1, .int (nI k)), (2, .int 12), (3, .int v)] [] (173, m, e_rs sv) Q = Q (none, (173, e_set m 165 (ix k 12) v, e_rs sv)) := c_X9_put h1 h2 (by decide) rfl
theorem mr_k12 {k : Nat} (h1 : 1 ≤ k) (h2 : k ≤ 8) : mw 165 0 m k 12 = m 165 (ix k 12) := mr_k h1 h2 (by decide)
theorem c_of_13 {k : Nat} (h1 : 1 ≤ k) (h2 : k ≤ 8) : Wp xs L kX9_of_0 [(0, .ref (164 : Nat)), (1, .int (nI k)), (2, .int 13)] [] (173, m, e_rs sv) Q = Q (some (.int (m 165 (ix k 13))), (173, m, e_rs sv)) := c_X9_of h1 h2 (by decide) rfl
theorem c_put_13 {k : Nat} {v : Int32} (h1 : 1 ≤ k) (h2 : k ≤ 8) : Wp xs L kX9_put_0 [(0, .ref (164 : Nat)), (1, .int (nI k)), (2, .int 13), (3, .int v)] [] (173, m, e_rs sv) Q = Q (none, (173, e_set m 165 (ix k 13) v, e_rs sv)) := c_X9_put h1 h2 (by decide) rfl
theorem mr_k13 {k : Nat} (h1 : 1 ≤ k) (h2 : k ≤ 8) : mw 165 0 m k 13 = m 165 (ix k 13) := mr_k h1 h2 (by decide)
theorem c_of_14 {k : Nat} (h1 : 1 ≤ k) (h2 : k ≤ 8) : Wp xs L kX9_of_0 [(0, .ref (164 : Nat)), (1, .int (nI k)), (2, .int 14)] [] (173, m, e_rs sv) Q = Q (some (.int (m 165 (ix k 14))), (173, m, e_rs sv)) := c_X9_of h1 h2 (by decide) rfl
theorem c_put_14 {k : Nat} {v : Int32} (h1 : 1 ≤ k) (h2 : k ≤ 8) : Wp xs L kX9_put_0 [(0, .ref (164 : Nat)), (1, .int (nI k)), (2, .int 14), (3, .int v)] [] (173, m, e_rs sv) Q = Q (none, (173, e_set m 165 (ix k 14) v, e_rs sv)) := c_X9_put h1 h2 (by decide) rfl
theorem mr_k14 {k : Nat} (h1 : 1 ≤ k) (h2 : k ≤ 8) : mw 165 0 m k 14 = m 165 (ix k 14) := mr_k h1 h2 (by decide)
theorem c_of_15 {k : Nat} (h1 : 1 ≤ k) (h2 : k ≤ 8) : Wp xs L kX9_of_0 [(0, .ref (164 : Nat)), (1, .int (nI k)), (2, .int 15)] [] (173, m, e_rs sv) Q = Q (some (.int (m 165 (ix k 15))), (173, m, e_rs sv)) := c_X9_of h1 h2 (by decide) rfl
theorem c_put_15 {k : Nat} {v : Int32} (h1 : 1 ≤ k) (h2 : k ≤ 8) : Wp xs L kX9_put_0 [(0, .ref (164 : Nat)), (1, .int (nI k)), (2, .int 15), (3, .int v)] [] (173, m, e_rs sv) Q = Q (none, (173, e_set m 165 (ix k 15) v, e_rs sv)) := c_X9_put h1 h2 (by decide) rfl
theorem mr_k15 {k : Nat} (h1 : 1 ≤ k) (h2 : k ≤ 8) : mw 165 0 m k 15 = m 165 (ix k 15) := mr_k h1 h2 (by decide)
theorem c_of_16 {k : Nat} (h1 : 1 ≤ k) (h2 : k ≤ 8) : Wp xs L kX9_of_0 [(0, .ref (164 : Nat)), (1, .int (nI k)), (2, .int 16)] [] (173, m, e_rs sv) Q = Q (some (.int (m 165 (ix k 16))), (173, m, e_rs sv)) := c_X9_of h1 h2 (by decide) rfl
theorem c_put_16 {k : Nat} {v : Int32} (h1 : 1 ≤ k) (h2 : k ≤ 8) : Wp xs L kX9_put_0 [(0, .ref (164 : Nat)), (1, .int (nI k)), (2, .int 16), (3, .int v)] [] (173, m, e_rs sv) Q = Q (none, (173, e_set m 165 (ix k 16) v, e_rs sv)) := c_X9_put h1 h2 (by decide) rfl
theorem mr_k16 {k : Nat} (h1 : 1 ≤ k) (h2 : k ≤ 8) : mw 165 0 m k 16 = m 165 (ix k 16) := mr_k h1 h2 (by decide)
theorem c_of_17 {k : Nat} (h1 : 1 ≤ k) (h2 : k ≤ 8) : Wp xs L kX9_of_0 [(0, .ref (164 : Nat)), (1, .int (nI k)), (2, .int 17)] [] (173, m, e_rs sv) Q = Q (some (.int (m 165 (ix k 17))), (173, m, e_rs sv)) := c_X9_of h1 h2 (by decide) rfl
theorem c_put_17 {k : Nat} {v : Int32} (h1 : 1 ≤ k) (h2 : k ≤ 8) : Wp xs L kX9_put_0 [(0, .ref (164 : Nat)), (1, .int (nI k)), (2, .int 17), (3, .int v)] [] (173, m, e_rs sv) Q = Q (none, (173, e_set m 165 (ix k 17) v, e_rs sv)) := c_X9_put h1 h2 (by decide) rfl
theorem mr_k17 {k : Nat} (h1 : 1 ≤ k) (h2 : k ≤ 8) : mw 165 0 m k 17 = m 165 (ix k 17) := mr_k h1 h2 (by decide)
theorem c_of_18 {k : Nat} (h1 : 1 ≤ k) (h2 : k ≤ 8) : Wp xs L kX9_of_0 [(0, .ref (164 : Nat)), (1, .int (nI k)), (2, .int 18)] [] (173, m, e_rs sv) Q = Q (some (.int (m 165 (ix k 18))), (173, m, e_rs sv)) := c_X9_of h1 h2 (by decide) rfl
theorem c_put_18 {k : Nat} {v : Int32} (h1 : 1 ≤ k) (h2 : k ≤ 8) : Wp xs L kX9_put_0 [(0, .ref (164 : Nat)), (1, .int (nI k)), (2, .int 18), (3, .int v)] [] (173, m, e_rs sv) Q = Q (none, (173, e_set m 165 (ix k 18) v, e_rs sv)) := c_X9_put h1 h2 (by decide) rfl
theorem mr_k18 {k : Nat} (h1 : 1 ≤ k) (h2 : k ≤ 8) : mw 165 0 m k 18 = m 165 (ix k 18) := mr_k h1 h2 (by decide)
theorem c_of_19 {k : Nat} (h1 : 1 ≤ k) (h2 : k ≤ 8) : Wp xs L kX9_of_0 [(0, .ref (164 : Nat)), (1, .int (nI k)), (2, .int 19)] [] (173, m, e_rs sv) Q = Q (some (.int (m 165 (ix k 19))), (173, m, e_rs sv)) := c_X9_of h1 h2 (by decide) rfl
theorem c_put_19 {k : Nat} {v : Int32} (h1 : 1 ≤ k) (h2 : k ≤ 8) : Wp xs L kX9_put_0 [(0, .ref (164 : Nat)), (1, .int (nI k)), (2, .int 19), (3, .int v)] [] (173, m, e_rs sv) Q = Q (none, (173, e_set m 165 (ix k 19) v, e_rs sv)) := c_X9_put h1 h2 (by decide) rfl
theorem mr_k19 {k : Nat} (h1 : 1 ≤ k) (h2 : k ≤ 8) : mw 165 0 m k 19 = m 165 (ix k 19) := mr_k h1 h2 (by decide)
theorem c_of_20 {k : Nat} (h1 : 1 ≤ k) (h2 : k ≤ 8) : Wp xs L kX9_of_0 [(0, .ref (164 : Nat)), (1, .int (nI k)), (2, .int 20)] [] (173, m, e_rs sv) Q = Q (some (.int (m 165 (ix k 20))), (173, m, e_rs sv)) := c_X9_of h1 h2 (by decide) rfl
theorem c_put_20 {k : Nat} {v : Int32} (h1 : 1 ≤ k) (h2 : k ≤ 8) : Wp xs L kX9_put_0 [(0, .ref (164 : Nat)), (1, .int (nI k)), (2, .int 20), (3, .int v)] [] (173, m, e_rs sv) Q = Q (none, (173, e_set m 165 (ix k 20) v, e_rs sv)) := c_X9_put h1 h2 (by decide) rfl
theorem mr_k20 {k : Nat} (h1 : 1 ≤ k) (h2 : k ≤ 8) : mw 165 0 m k 20 = m 165 (ix k 20) := mr_k h1 h2 (by decide)
theorem c_of_21 {k : Nat} (h1 : 1 ≤ k) (h2 : k ≤ 8) : Wp xs L kX9_of_0 [(0, .ref (164 : Nat)), (1, .int (nI k)), (2, .int 21)] [] (173, m, e_rs sv) Q = Q (some (.int (m 165 (ix k 21))), (173, m, e_rs sv)) := c_X9_of h1 h2 (by decide) rfl
theorem c_put_21 {k : Nat} {v : Int32} (h1 : 1 ≤ k) (h2 : k ≤ 8) : Wp xs L kX9_put_0 [(0, .ref (164 : Nat)), (1, .int (nI k)), (2, .int 21), (3, .int v)] [] (173, m, e_rs sv) Q = Q (none, (173, e_set m 165 (ix k 21) v, e_rs sv)) := c_X9_put h1 h2 (by decide) rfl
theorem mr_k21 {k : Nat} (h1 : 1 ≤ k) (h2 : k ≤ 8) : mw 165 0 m k 21 = m 165 (ix k 21) := mr_k h1 h2 (by decide)
theorem c_of_22 {k : Nat} (h1 : 1 ≤ k) (h2 : k ≤ 8) : Wp xs L kX9_of_0 [(0, .ref (164 : Nat)), (1, .int (nI k)), (2, .int 22)] [] (173, m, e_rs sv) Q = Q (some (.int (m 165 (ix k 22))), (173, m, e_rs sv)) := c_X9_of h1 h2 (by decide) rfl
theorem c_put_22 {k : Nat} {v : Int32} (h1 : 1 ≤ k) (h2 : k ≤ 8) : Wp xs L kX9_put_0 [(0, .ref (164 : Nat)), (1, .int (nI k)), (2, .int 22), (3, .int v)] [] (173, m, e_rs sv) Q = Q (none, (173, e_set m 165 (ix k 22) v, e_rs sv)) := c_X9_put h1 h2 (by decide) rfl
theorem mr_k22 {k : Nat} (h1 : 1 ≤ k) (h2 : k ≤ 8) : mw 165 0 m k 22 = m 165 (ix k 22) := mr_k h1 h2 (by decide)
theorem c_of_23 {k : Nat} (h1 : 1 ≤ k) (h2 : k ≤ 8) : Wp xs L kX9_of_0 [(0, .ref (164 : Nat)), (1, .int (nI k)), (2, .int 23)] [] (173, m, e_rs sv) Q = Q (some (.int (m 165 (ix k 23))), (173, m, e_rs sv)) := c_X9_of h1 h2 (by decide) rfl
theorem c_put_23 {k : Nat} {v : Int32} (h1 : 1 ≤ k) (h2 : k ≤ 8) : Wp xs L kX9_put_0 [(0, .ref (164 : Nat)), (1, .int (nI k)), (2, .int 23), (3, .int v)] [] (173, m, e_rs sv) Q = Q (none, (173, e_set m 165 (ix k 23) v, e_rs sv)) := c_X9_put h1 h2 (by decide) rfl
theorem mr_k23 {k : Nat} (h1 : 1 ≤ k) (h2 : k ≤ 8) : mw 165 0 m k 23 = m 165 (ix k 23) := mr_k h1 h2 (by decide)
theorem c_X9_hour {t : Nat} (ht : m 165 0 = nI t) (ht2 : t < 1000000000) : Wp xs L kX9_hour_0 [(0, .ref (164 : Nat))] [] (173, m, e_rs sv) Q = Q (some (.int (nI (hr t))), (173, m, e_rs sv)) := by
  have n0 : ¬ (60 : Int32) = 0 := by decide
  have n1 : ¬ (24 : Int32) = 0 := by decide
  have h1 : nI t / 60 = nI (t / 60) := pk_div (a := t) (d := 60) (by omega) (by omega) (by omega)
  have h2 : nI (t / 60) - nI (t / 60) / 24 * 24 = nI (hr t) := pk_rem (a := t / 60) (d := 24) (by omega) (by omega) (by omega)
  simp only [r_aload_n, r_bipush, r_getf0, r_getf1, r_getf2, r_iald, r_iconst, r_idiv, r_irem, r_iret0, r_iret1, r_nop, kX9_hour_0, lX9_hour_0, e_wi_s, e_wr_s, e_wl_s, e_lk, e_sto, e_ok, e_no, e_isL, Option.toList_some, Option.toList_none, List.cons_append, List.nil_append, List.length_cons, List.length_nil, Bool.not_false, Bool.not_true, Bool.and_true, Bool.true_and, Bool.false_and, Bool.and_false, Bool.and_self, Nat.reduceBEq, Nat.reduceAdd, Nat.reduceEqDiff, Nat.reduceLeDiff, Nat.reduceLT, Nat.zero_le, Nat.le_refl, if_true, if_false, ite_true, ite_false, true_and, and_true, true_or, or_true, not_false_eq_true, not_true_eq_false, e_set_self, Nat.succ_ne_zero, eq_self, n0, n1, ht, h1, h2, e_set_slot, zero_01, one_01, e_b_0, e_b_01, or_self, or_false, false_or, R_1_0, R_1_1, R_1_2, R_1_3, R_1_4, R_1_5, R_1_6, R_32_0, R_32_1, R_32_2, R_36_0, R_36_1, R_36_2, R_36_3, R_37_0, R_37_1, R_37_2, R_68_0, R_70_0, R_164_0, R_164_1, R_164_3, R_164_5, R_164_6, R_164_7, R_164_8, R_164_10, R_164_11, R_2_4, R_2_5, ok_1, ok_32, ok_36, ok_37, ok_68, ok_70, ok_164, ok_2, ok_3, sz_3, ok_4, sz_4, ok_33, sz_33, ok_34, sz_34, ok_35, sz_35, ok_38, sz_38, ok_39, sz_39, ok_40, sz_40, ok_41, sz_41, ok_66, sz_66, ok_67, sz_67, ok_69, sz_69, ok_71, sz_71, ok_162, sz_162, ok_163, sz_163, ok_165, sz_165, ok_166, sz_166, ok_167, sz_167, ok_168, sz_168, ok_169, sz_169, ok_170, sz_170, ok_171, sz_171, ok_172, sz_172, ok_173, sz_173, tn_0, tn_1, tn_2, tn_3, tn_4, tn_5, tn_6, tn_7, tn_8, tn_9, tn_10, tn_11, tn_12, tn_13, tn_14, tn_15, tn_16, tn_17, tn_18, tn_19, tn_20, tn_21, tn_22, tn_23, tn_24, tn_25, tn_26, tn_27, in_0, in_1, in_2, in_3, in_4, in_5, in_6, in_7, in_8, in_9, in_10, in_11, in_12, in_13, in_14, in_15, in_16, in_17, in_18, in_19, in_20, in_21, in_22, in_23, in_24, in_25, in_26, in_27, e_rf_s]
def isT (w : Nat → Nat → Int32) (k : Nat) (h : Int32) : Prop := if w k 19 < w k 20 then ¬ h < w k 19 ∧ h < w k 20 else ¬ h < w k 19 ∨ h < w k 20
theorem c_X9_isTime {k : Nat} (h1 : 1 ≤ k) (h2 : k ≤ 8) {h : Int32} : Wp xs L kX9_isTime_0 [(0, .ref (164 : Nat)), (1, .int (nI k)), (2, .int h)] [] (173, m, e_rs sv) Q = Q (some (.int (e_b (if m 165 (ix k 19) < m 165 (ix k 20) then ¬ h < m 165 (ix k 19) ∧ h < m 165 (ix k 20) else ¬ h < m 165 (ix k 19) ∨ h < m 165 (ix k 20)))), (173, m, e_rs sv)) := by
  simp only [r_aload_n, r_bipush, r_goto, r_ic_ge, r_ic_lt, r_iconst, r_iload, r_iload_n, r_iret0, r_iret1, r_istore, r_istore_n, r_nop, kX9_isTime_0, kX9_isTime_38, kX9_isTime_42, kX9_isTime_53, kX9_isTime_57, kX9_isTime_58, lX9_isTime_0, lX9_isTime_38, lX9_isTime_42, lX9_isTime_53, lX9_isTime_57, lX9_isTime_58, vX9_of, e_wi_s, e_wr_s, e_wl_s, e_lk, e_sto, e_ok, e_no, e_isL, Option.toList_some, Option.toList_none, List.cons_append, List.nil_append, List.length_cons, List.length_nil, Bool.not_false, Bool.not_true, Bool.and_true, Bool.true_and, Bool.false_and, Bool.and_false, Bool.and_self, Nat.reduceBEq, Nat.reduceAdd, Nat.reduceEqDiff, Nat.reduceLeDiff, Nat.reduceLT, Nat.zero_le, Nat.le_refl, if_true, if_false, ite_true, ite_false, true_and, and_true, true_or, or_true, not_false_eq_true, not_true_eq_false, e_set_self, Nat.succ_ne_zero, eq_self, c_of_0 h1 h2, c_of_1 h1 h2, c_of_2 h1 h2, c_of_3 h1 h2, c_of_4 h1 h2, c_of_5 h1 h2, c_of_6 h1 h2, c_of_7 h1 h2, c_of_8 h1 h2, c_of_9 h1 h2, c_of_10 h1 h2, c_of_11 h1 h2, c_of_12 h1 h2, c_of_13 h1 h2, c_of_14 h1 h2, c_of_15 h1 h2, c_of_16 h1 h2, c_of_17 h1 h2, c_of_18 h1 h2, c_of_19 h1 h2, c_of_20 h1 h2, c_of_21 h1 h2, c_of_22 h1 h2, c_of_23 h1 h2, e_set_slot, zero_01, one_01, e_b_0, e_b_01, or_self, or_false, false_or, R_1_0, R_1_1, R_1_2, R_1_3, R_1_4, R_1_5, R_1_6, R_32_0, R_32_1, R_32_2, R_36_0, R_36_1, R_36_2, R_36_3, R_37_0, R_37_1, R_37_2, R_68_0, R_70_0, R_164_0, R_164_1, R_164_3, R_164_5, R_164_6, R_164_7, R_164_8, R_164_10, R_164_11, R_2_4, R_2_5, ok_1, ok_32, ok_36, ok_37, ok_68, ok_70, ok_164, ok_2, ok_3, sz_3, ok_4, sz_4, ok_33, sz_33, ok_34, sz_34, ok_35, sz_35, ok_38, sz_38, ok_39, sz_39, ok_40, sz_40, ok_41, sz_41, ok_66, sz_66, ok_67, sz_67, ok_69, sz_69, ok_71, sz_71, ok_162, sz_162, ok_163, sz_163, ok_165, sz_165, ok_166, sz_166, ok_167, sz_167, ok_168, sz_168, ok_169, sz_169, ok_170, sz_170, ok_171, sz_171, ok_172, sz_172, ok_173, sz_173, tn_0, tn_1, tn_2, tn_3, tn_4, tn_5, tn_6, tn_7, tn_8, tn_9, tn_10, tn_11, tn_12, tn_13, tn_14, tn_15, tn_16, tn_17, tn_18, tn_19, tn_20, tn_21, tn_22, tn_23, tn_24, tn_25, tn_26, tn_27, in_0, in_1, in_2, in_3, in_4, in_5, in_6, in_7, in_8, in_9, in_10, in_11, in_12, in_13, in_14, in_15, in_16, in_17, in_18, in_19, in_20, in_21, in_22, in_23, in_24, in_25, in_26, in_27, e_rf_s]
  (repeat' split) <;> first | rfl | (simp_all [-Int32.not_lt, -Int32.not_le, e_b]; done) | grind [e_b]
theorem add_sub_sw (a b c : Int32) : a + (b - c) = a + b - c := by
  rw [Int32.sub_eq_add_neg, Int32.sub_eq_add_neg, Int32.add_assoc]
set_option maxHeartbeats 4000000 in
theorem lp_compute1 {n h : Nat} (hn : n ≤ 8) (hh : h < 24) {m0 : Nat → Nat → Int32} {pl seg tp : Int32} (hb : ∀ k, 1 ≤ k → k ≤ n → e_01 (m0 165 (ix k 16)) ∧ e_01 (m0 165 (ix k 23)) ∧ (m0 165 (ix k 16) = 0 → m0 165 (ix k 23) = 0 ∧ m0 165 (ix k 18) = 0)) : ∀ (j : Nat), j ≤ n → ∀ (m : Nat → Nat → Int32) (tl : e_Lv), (tl = [] ∨ ∃ z, tl = [(8, .int z)]) →
    (∀ c, c ≠ 169 → c ≠ 170 → m c = m0 c) → (∀ k, j < k → k ≤ n → m 169 k = sP (mw 165 0 m0) (m0 165 (4 + h)) (n + 1 - k) k ∧ m 170 k = sQ (mw 165 0 m0) (m0 165 (4 + h)) (nI h) pl (n + 1 - k) k) →
    (∀ m' tl p q, (tl = [] ∨ ∃ z, tl = [(8, .int z)]) → (∀ c, c ≠ 169 → c ≠ 170 → m' c = m0 c) → (∀ k, 0 < k → k ≤ n → m' 169 k = sP (mw 165 0 m0) (m0 165 (4 + h)) (n + 1 - k) k ∧ m' 170 k = sQ (mw 165 0 m0) (m0 165 (4 + h)) (nI h) pl (n + 1 - k) k) → Wp xs L kX9_compute_170 ([(0, .ref (164 : Nat)), (1, .int (nI h)), (2, .int pl), (3, .int seg), (4, .int tp), (5, .int p), (6, .int q), (7, .int (nI 0))] ++ tl) [] (173, m', e_rs sv) Q) →
    Wp xs L kX9_compute_14 ([(0, .ref (164 : Nat)), (1, .int (nI h)), (2, .int pl), (3, .int seg), (4, .int tp), (5, .int (sP (mw 165 0 m0) (m0 165 (4 + h)) (n - j) (j + 1))), (6, .int (sQ (mw 165 0 m0) (m0 165 (4 + h)) (nI h) pl (n - j) (j + 1))), (7, .int (nI j))] ++ tl) [] (173, m, e_rs sv) Q
  | 0, _, m, tl, htl, hm, hk, hQ => by
    have e1 : (0 < nI 0) = False := by decide
    have key := fun p q => hQ m tl p q htl hm hk
    rw [kX9_compute_14]
    rcases htl with rfl | ⟨z, rfl⟩ <;> (simp only [r_aload_n, r_bipush, r_getf0, r_getf1, r_getf2, r_goto, r_iadd, r_iald, r_iast, r_ic_gt, r_ic_ne, r_iconst, r_idiv, r_if_eq, r_if_ge, r_if_le, r_iinc, r_iload, r_iload_n, r_imul, r_istore, r_isub, r_nop, r_ret, r_sipush, kX9_compute_0, kX9_compute_93, kX9_compute_109, kX9_compute_110, kX9_compute_142, kX9_compute_143, kX9_compute_185, kX9_compute_207, kX9_compute_215, kX9_compute_251, kX9_compute_260, kX9_compute_316, kX9_compute_318, kX9_compute_325, lX9_compute_0, lX9_compute_14, lX9_compute_93, lX9_compute_109, lX9_compute_110, lX9_compute_142, lX9_compute_143, lX9_compute_170, lX9_compute_185, lX9_compute_207, lX9_compute_215, lX9_compute_251, lX9_compute_260, lX9_compute_316, lX9_compute_318, lX9_compute_325, vX9_isTime, vX9_of, e_wi_s, e_wr_s, e_wl_s, e_lk, e_sto, e_ok, e_no, e_isL, Option.toList_some, Option.toList_none, List.cons_append, List.nil_append, List.length_cons, List.length_nil, Bool.not_false, Bool.not_true, Bool.and_true, Bool.true_and, Bool.false_and, Bool.and_false, Bool.and_self, Nat.reduceBEq, Nat.reduceAdd, Nat.reduceEqDiff, Nat.reduceLeDiff, Nat.reduceLT, Nat.zero_le, Nat.le_refl, if_true, if_false, ite_true, ite_false, true_and, and_true, true_or, or_true, not_false_eq_true, not_true_eq_false, e_set_self, Nat.succ_ne_zero, eq_self, e1, e_set_slot, zero_01, one_01, e_b_0, e_b_01, or_self, or_false, false_or, R_1_0, R_1_1, R_1_2, R_1_3, R_1_4, R_1_5, R_1_6, R_32_0, R_32_1, R_32_2, R_36_0, R_36_1, R_36_2, R_36_3, R_37_0, R_37_1, R_37_2, R_68_0, R_70_0, R_164_0, R_164_1, R_164_3, R_164_5, R_164_6, R_164_7, R_164_8, R_164_10, R_164_11, R_2_4, R_2_5, ok_1, ok_32, ok_36, ok_37, ok_68, ok_70, ok_164, ok_2, ok_3, sz_3, ok_4, sz_4, ok_33, sz_33, ok_34, sz_34, ok_35, sz_35, ok_38, sz_38, ok_39, sz_39, ok_40, sz_40, ok_41, sz_41, ok_66, sz_66, ok_67, sz_67, ok_69, sz_69, ok_71, sz_71, ok_162, sz_162, ok_163, sz_163, ok_165, sz_165, ok_166, sz_166, ok_167, sz_167, ok_168, sz_168, ok_169, sz_169, ok_170, sz_170, ok_171, sz_171, ok_172, sz_172, ok_173, sz_173, tn_0, tn_1, tn_2, tn_3, tn_4, tn_5, tn_6, tn_7, tn_8, tn_9, tn_10, tn_11, tn_12, tn_13, tn_14, tn_15, tn_16, tn_17, tn_18, tn_19, tn_20, tn_21, tn_22, tn_23, tn_24, tn_25, tn_26, tn_27, in_0, in_1, in_2, in_3, in_4, in_5, in_6, in_7, in_8, in_9, in_10, in_11, in_12, in_13, in_14, in_15, in_16, in_17, in_18, in_19, in_20, in_21, in_22, in_23, in_24, in_25, in_26, in_27, e_rf_s]; exact key _ _)
  | j + 1, hj, m, tl, htl, hm, hk, hQ => by
    have e1 : (0 < nI (j + 1)) = True := eq_true (nI_lt (a := 0) (by omega) (by omega))
    have i1 : e_in (nI (j + 1)) 9 = true := e_in_nI (by omega) (by omega)
    have i2 : (nI (j + 1)).toNatClampNeg = j + 1 := nI_nat (by omega)
    have i3 : nI (j + 1) + -1 = nI j := pk_m1 j
    have i4 : 4 + nI h = nI (4 + h) := nI_add 4 h
    have i5 : e_in (nI (4 + h)) 220 = true := e_in_nI (by omega) (by omega)
    have i6 : (nI (4 + h)).toNatClampNeg = 4 + h := nI_nat (by omega)
    have g1 : 1 ≤ j + 1 := by omega
    have g2 : j + 1 ≤ 8 := by omega
    have c1 : m 165 = m0 165 := hm 165 (by omega) (by omega)
    have n0 : ¬ (100 : Int32) = 0 := by decide
    have key := fun (m' : Nat → Nat → Int32) z h1 h2 => lp_compute1 hn hh (m0 := m0) (pl := pl) (seg := seg) (tp := tp) hb j (by omega) m' [(8, .int z)] (Or.inr ⟨z, rfl⟩) h1 h2 hQ
    obtain ⟨b1, b2, b3⟩ := hb (j + 1) g1 (by omega)
    have stage : ∀ (x : Int32) (tl' : e_Lv), (tl' = [] ∨ ∃ z, tl' = [(8, .int z)]) → (if m0 165 (ix (j + 1) 16) = 1 ∧ ¬ x = 0 then m0 165 (ix (j + 1) 17) else 0) = sSup (mw 165 0 m0) (nI h) pl (j + 1) →
        Wp xs L kX9_compute_110 ([(0, .ref (164 : Nat)), (1, .int (nI h)), (2, .int pl), (3, .int seg), (4, .int tp), (5, .int (sP (mw 165 0 m0) (m0 165 (4 + h)) (n - j) (j + 1))), (6, .int (sQ (mw 165 0 m0) (m0 165 (4 + h)) (nI h) pl (n - (j + 1)) (j + 1 + 1) + m0 165 (ix (j + 1) 3) * m0 165 (4 + h) / 100)), (7, .int (nI (j + 1)))] ++ tl') [.int x] (173, m, e_rs sv) Q := by
      intro x tl' htl' hx
      have fin : ∀ v, v = sSup (mw 165 0 m0) (nI h) pl (j + 1) → Wp xs L kX9_compute_143 [(0, .ref (164 : Nat)), (1, .int (nI h)), (2, .int pl), (3, .int seg), (4, .int tp), (5, .int (sP (mw 165 0 m0) (m0 165 (4 + h)) (n - j) (j + 1))), (6, .int (sQ (mw 165 0 m0) (m0 165 (4 + h)) (nI h) pl (n - (j + 1)) (j + 1 + 1) + m0 165 (ix (j + 1) 3) * m0 165 (4 + h) / 100)), (7, .int (nI (j + 1))), (8, .int x)] [.int v, .int (sQ (mw 165 0 m0) (m0 165 (4 + h)) (nI h) pl (n - (j + 1)) (j + 1 + 1) + m0 165 (ix (j + 1) 3) * m0 165 (4 + h) / 100)] (173, m, e_rs sv) Q := by
        intro v hv
        subst hv
        have eQ : sQ (mw 165 0 m0) (m0 165 (4 + h)) (nI h) pl (n - (j + 1)) (j + 1 + 1) + m0 165 (ix (j + 1) 3) * m0 165 (4 + h) / 100 - sSup (mw 165 0 m0) (nI h) pl (j + 1) = sQ (mw 165 0 m0) (m0 165 (4 + h)) (nI h) pl (n - j) (j + 1) := by
          rw [show n - j = n - (j + 1) + 1 by omega]
          simp only [sQ, mr_k3 (m := m0) g1 g2]
          rw [add_sub_sw]
        simp only [r_aload_n, r_bipush, r_getf0, r_getf1, r_getf2, r_goto, r_iadd, r_iald, r_iast, r_ic_gt, r_ic_ne, r_iconst, r_idiv, r_if_eq, r_if_ge, r_if_le, r_iinc, r_iload, r_iload_n, r_imul, r_istore, r_isub, r_nop, r_ret, r_sipush, kX9_compute_0, kX9_compute_93, kX9_compute_109, kX9_compute_110, kX9_compute_142, kX9_compute_143, kX9_compute_185, kX9_compute_207, kX9_compute_215, kX9_compute_251, kX9_compute_260, kX9_compute_316, kX9_compute_318, kX9_compute_325, lX9_compute_0, lX9_compute_14, lX9_compute_93, lX9_compute_109, lX9_compute_110, lX9_compute_142, lX9_compute_143, lX9_compute_170, lX9_compute_185, lX9_compute_207, lX9_compute_215, lX9_compute_251, lX9_compute_260, lX9_compute_316, lX9_compute_318, lX9_compute_325, vX9_isTime, vX9_of, e_wi_s, e_wr_s, e_wl_s, e_lk, e_sto, e_ok, e_no, e_isL, Option.toList_some, Option.toList_none, List.cons_append, List.nil_append, List.length_cons, List.length_nil, Bool.not_false, Bool.not_true, Bool.and_true, Bool.true_and, Bool.false_and, Bool.and_false, Bool.and_self, Nat.reduceBEq, Nat.reduceAdd, Nat.reduceEqDiff, Nat.reduceLeDiff, Nat.reduceLT, Nat.zero_le, Nat.le_refl, if_true, if_false, ite_true, ite_false, true_and, and_true, true_or, or_true, not_false_eq_true, not_true_eq_false, e_set_self, Nat.succ_ne_zero, eq_self, i1, i2, i3, eQ, e_set_slot, zero_01, one_01, e_b_0, e_b_01, or_self, or_false, false_or, R_1_0, R_1_1, R_1_2, R_1_3, R_1_4, R_1_5, R_1_6, R_32_0, R_32_1, R_32_2, R_36_0, R_36_1, R_36_2, R_36_3, R_37_0, R_37_1, R_37_2, R_68_0, R_70_0, R_164_0, R_164_1, R_164_3, R_164_5, R_164_6, R_164_7, R_164_8, R_164_10, R_164_11, R_2_4, R_2_5, ok_1, ok_32, ok_36, ok_37, ok_68, ok_70, ok_164, ok_2, ok_3, sz_3, ok_4, sz_4, ok_33, sz_33, ok_34, sz_34, ok_35, sz_35, ok_38, sz_38, ok_39, sz_39, ok_40, sz_40, ok_41, sz_41, ok_66, sz_66, ok_67, sz_67, ok_69, sz_69, ok_71, sz_71, ok_162, sz_162, ok_163, sz_163, ok_165, sz_165, ok_166, sz_166, ok_167, sz_167, ok_168, sz_168, ok_169, sz_169, ok_170, sz_170, ok_171, sz_171, ok_172, sz_172, ok_173, sz_173, tn_0, tn_1, tn_2, tn_3, tn_4, tn_5, tn_6, tn_7, tn_8, tn_9, tn_10, tn_11, tn_12, tn_13, tn_14, tn_15, tn_16, tn_17, tn_18, tn_19, tn_20, tn_21, tn_22, tn_23, tn_24, tn_25, tn_26, tn_27, in_0, in_1, in_2, in_3, in_4, in_5, in_6, in_7, in_8, in_9, in_10, in_11, in_12, in_13, in_14, in_15, in_16, in_17, in_18, in_19, in_20, in_21, in_22, in_23, in_24, in_25, in_26, in_27, e_rf_s]
        refine key _ _ (fun c h1 h2 => ?_) (fun k h1 h2 => ?_)
        · funext k'
          rw [e_set_cell h2, e_set_cell h1, hm c h1 h2]
        · by_cases hkj : k = j + 1
          · subst hkj
            rw [e_set_self, e_set_cell (by omega), e_set_self, show n + 1 - (j + 1) = n - j by omega]
            exact ⟨rfl, rfl⟩
          · simp only [e_set_slot hkj]
            exact hk k (by omega) h2
      by_cases q1 : m0 165 (ix (j + 1) 16) = 1
      · by_cases q2 : x = 0
        · rw [if_neg (fun q => q.2 q2)] at hx
          have q1' := eq_true q1
          have q2' := eq_true q2
          rcases htl' with rfl | ⟨z, rfl⟩ <;> (simp only [r_aload_n, r_bipush, r_getf0, r_getf1, r_getf2, r_goto, r_iadd, r_iald, r_iast, r_ic_gt, r_ic_ne, r_iconst, r_idiv, r_if_eq, r_if_ge, r_if_le, r_iinc, r_iload, r_iload_n, r_imul, r_istore, r_isub, r_nop, r_ret, r_sipush, kX9_compute_0, kX9_compute_93, kX9_compute_109, kX9_compute_110, kX9_compute_142, kX9_compute_185, kX9_compute_207, kX9_compute_215, kX9_compute_251, kX9_compute_260, kX9_compute_316, kX9_compute_318, kX9_compute_325, lX9_compute_0, lX9_compute_14, lX9_compute_93, lX9_compute_109, lX9_compute_110, lX9_compute_142, lX9_compute_143, lX9_compute_170, lX9_compute_185, lX9_compute_207, lX9_compute_215, lX9_compute_251, lX9_compute_260, lX9_compute_316, lX9_compute_318, lX9_compute_325, vX9_isTime, vX9_of, e_wi_s, e_wr_s, e_wl_s, e_lk, e_sto, e_ok, e_no, e_isL, Option.toList_some, Option.toList_none, List.cons_append, List.nil_append, List.length_cons, List.length_nil, Bool.not_false, Bool.not_true, Bool.and_true, Bool.true_and, Bool.false_and, Bool.and_false, Bool.and_self, Nat.reduceBEq, Nat.reduceAdd, Nat.reduceEqDiff, Nat.reduceLeDiff, Nat.reduceLT, Nat.zero_le, Nat.le_refl, if_true, if_false, ite_true, ite_false, true_and, and_true, true_or, or_true, not_false_eq_true, not_true_eq_false, e_set_self, Nat.succ_ne_zero, eq_self, c1, q1', q2', c_of_0 g1 g2, c_of_1 g1 g2, c_of_2 g1 g2, c_of_3 g1 g2, c_of_4 g1 g2, c_of_5 g1 g2, c_of_6 g1 g2, c_of_7 g1 g2, c_of_8 g1 g2, c_of_9 g1 g2, c_of_10 g1 g2, c_of_11 g1 g2, c_of_12 g1 g2, c_of_13 g1 g2, c_of_14 g1 g2, c_of_15 g1 g2, c_of_16 g1 g2, c_of_17 g1 g2, c_of_18 g1 g2, c_of_19 g1 g2, c_of_20 g1 g2, c_of_21 g1 g2, c_of_22 g1 g2, c_of_23 g1 g2, e_set_slot, zero_01, one_01, e_b_0, e_b_01, or_self, or_false, false_or, R_1_0, R_1_1, R_1_2, R_1_3, R_1_4, R_1_5, R_1_6, R_32_0, R_32_1, R_32_2, R_36_0, R_36_1, R_36_2, R_36_3, R_37_0, R_37_1, R_37_2, R_68_0, R_70_0, R_164_0, R_164_1, R_164_3, R_164_5, R_164_6, R_164_7, R_164_8, R_164_10, R_164_11, R_2_4, R_2_5, ok_1, ok_32, ok_36, ok_37, ok_68, ok_70, ok_164, ok_2, ok_3, sz_3, ok_4, sz_4, ok_33, sz_33, ok_34, sz_34, ok_35, sz_35, ok_38, sz_38, ok_39, sz_39, ok_40, sz_40, ok_41, sz_41, ok_66, sz_66, ok_67, sz_67, ok_69, sz_69, ok_71, sz_71, ok_162, sz_162, ok_163, sz_163, ok_165, sz_165, ok_166, sz_166, ok_167, sz_167, ok_168, sz_168, ok_169, sz_169, ok_170, sz_170, ok_171, sz_171, ok_172, sz_172, ok_173, sz_173, tn_0, tn_1, tn_2, tn_3, tn_4, tn_5, tn_6, tn_7, tn_8, tn_9, tn_10, tn_11, tn_12, tn_13, tn_14, tn_15, tn_16, tn_17, tn_18, tn_19, tn_20, tn_21, tn_22, tn_23, tn_24, tn_25, tn_26, tn_27, in_0, in_1, in_2, in_3, in_4, in_5, in_6, in_7, in_8, in_9, in_10, in_11, in_12, in_13, in_14, in_15, in_16, in_17, in_18, in_19, in_20, in_21, in_22, in_23, in_24, in_25, in_26, in_27, e_rf_s]; exact fin _ hx)
        · rw [if_pos ⟨q1, q2⟩] at hx
          have q1' := eq_true q1
          have q2' := eq_false q2
          rcases htl' with rfl | ⟨z, rfl⟩ <;> (simp only [r_aload_n, r_bipush, r_getf0, r_getf1, r_getf2, r_goto, r_iadd, r_iald, r_iast, r_ic_gt, r_ic_ne, r_iconst, r_idiv, r_if_eq, r_if_ge, r_if_le, r_iinc, r_iload, r_iload_n, r_imul, r_istore, r_isub, r_nop, r_ret, r_sipush, kX9_compute_0, kX9_compute_93, kX9_compute_109, kX9_compute_110, kX9_compute_142, kX9_compute_185, kX9_compute_207, kX9_compute_215, kX9_compute_251, kX9_compute_260, kX9_compute_316, kX9_compute_318, kX9_compute_325, lX9_compute_0, lX9_compute_14, lX9_compute_93, lX9_compute_109, lX9_compute_110, lX9_compute_142, lX9_compute_143, lX9_compute_170, lX9_compute_185, lX9_compute_207, lX9_compute_215, lX9_compute_251, lX9_compute_260, lX9_compute_316, lX9_compute_318, lX9_compute_325, vX9_isTime, vX9_of, e_wi_s, e_wr_s, e_wl_s, e_lk, e_sto, e_ok, e_no, e_isL, Option.toList_some, Option.toList_none, List.cons_append, List.nil_append, List.length_cons, List.length_nil, Bool.not_false, Bool.not_true, Bool.and_true, Bool.true_and, Bool.false_and, Bool.and_false, Bool.and_self, Nat.reduceBEq, Nat.reduceAdd, Nat.reduceEqDiff, Nat.reduceLeDiff, Nat.reduceLT, Nat.zero_le, Nat.le_refl, if_true, if_false, ite_true, ite_false, true_and, and_true, true_or, or_true, not_false_eq_true, not_true_eq_false, e_set_self, Nat.succ_ne_zero, eq_self, c1, q1', q2', c_of_0 g1 g2, c_of_1 g1 g2, c_of_2 g1 g2, c_of_3 g1 g2, c_of_4 g1 g2, c_of_5 g1 g2, c_of_6 g1 g2, c_of_7 g1 g2, c_of_8 g1 g2, c_of_9 g1 g2, c_of_10 g1 g2, c_of_11 g1 g2, c_of_12 g1 g2, c_of_13 g1 g2, c_of_14 g1 g2, c_of_15 g1 g2, c_of_16 g1 g2, c_of_17 g1 g2, c_of_18 g1 g2, c_of_19 g1 g2, c_of_20 g1 g2, c_of_21 g1 g2, c_of_22 g1 g2, c_of_23 g1 g2, e_set_slot, zero_01, one_01, e_b_0, e_b_01, or_self, or_false, false_or, R_1_0, R_1_1, R_1_2, R_1_3, R_1_4, R_1_5, R_1_6, R_32_0, R_32_1, R_32_2, R_36_0, R_36_1, R_36_2, R_36_3, R_37_0, R_37_1, R_37_2, R_68_0, R_70_0, R_164_0, R_164_1, R_164_3, R_164_5, R_164_6, R_164_7, R_164_8, R_164_10, R_164_11, R_2_4, R_2_5, ok_1, ok_32, ok_36, ok_37, ok_68, ok_70, ok_164, ok_2, ok_3, sz_3, ok_4, sz_4, ok_33, sz_33, ok_34, sz_34, ok_35, sz_35, ok_38, sz_38, ok_39, sz_39, ok_40, sz_40, ok_41, sz_41, ok_66, sz_66, ok_67, sz_67, ok_69, sz_69, ok_71, sz_71, ok_162, sz_162, ok_163, sz_163, ok_165, sz_165, ok_166, sz_166, ok_167, sz_167, ok_168, sz_168, ok_169, sz_169, ok_170, sz_170, ok_171, sz_171, ok_172, sz_172, ok_173, sz_173, tn_0, tn_1, tn_2, tn_3, tn_4, tn_5, tn_6, tn_7, tn_8, tn_9, tn_10, tn_11, tn_12, tn_13, tn_14, tn_15, tn_16, tn_17, tn_18, tn_19, tn_20, tn_21, tn_22, tn_23, tn_24, tn_25, tn_26, tn_27, in_0, in_1, in_2, in_3, in_4, in_5, in_6, in_7, in_8, in_9, in_10, in_11, in_12, in_13, in_14, in_15, in_16, in_17, in_18, in_19, in_20, in_21, in_22, in_23, in_24, in_25, in_26, in_27, e_rf_s]; exact fin _ hx)
      · rw [if_neg (fun q => q1 q.1)] at hx
        have q1' := eq_false q1
        rcases htl' with rfl | ⟨z, rfl⟩ <;> (simp only [r_aload_n, r_bipush, r_getf0, r_getf1, r_getf2, r_goto, r_iadd, r_iald, r_iast, r_ic_gt, r_ic_ne, r_iconst, r_idiv, r_if_eq, r_if_ge, r_if_le, r_iinc, r_iload, r_iload_n, r_imul, r_istore, r_isub, r_nop, r_ret, r_sipush, kX9_compute_0, kX9_compute_93, kX9_compute_109, kX9_compute_110, kX9_compute_142, kX9_compute_185, kX9_compute_207, kX9_compute_215, kX9_compute_251, kX9_compute_260, kX9_compute_316, kX9_compute_318, kX9_compute_325, lX9_compute_0, lX9_compute_14, lX9_compute_93, lX9_compute_109, lX9_compute_110, lX9_compute_142, lX9_compute_143, lX9_compute_170, lX9_compute_185, lX9_compute_207, lX9_compute_215, lX9_compute_251, lX9_compute_260, lX9_compute_316, lX9_compute_318, lX9_compute_325, vX9_isTime, vX9_of, e_wi_s, e_wr_s, e_wl_s, e_lk, e_sto, e_ok, e_no, e_isL, Option.toList_some, Option.toList_none, List.cons_append, List.nil_append, List.length_cons, List.length_nil, Bool.not_false, Bool.not_true, Bool.and_true, Bool.true_and, Bool.false_and, Bool.and_false, Bool.and_self, Nat.reduceBEq, Nat.reduceAdd, Nat.reduceEqDiff, Nat.reduceLeDiff, Nat.reduceLT, Nat.zero_le, Nat.le_refl, if_true, if_false, ite_true, ite_false, true_and, and_true, true_or, or_true, not_false_eq_true, not_true_eq_false, e_set_self, Nat.succ_ne_zero, eq_self, c1, q1', c_of_0 g1 g2, c_of_1 g1 g2, c_of_2 g1 g2, c_of_3 g1 g2, c_of_4 g1 g2, c_of_5 g1 g2, c_of_6 g1 g2, c_of_7 g1 g2, c_of_8 g1 g2, c_of_9 g1 g2, c_of_10 g1 g2, c_of_11 g1 g2, c_of_12 g1 g2, c_of_13 g1 g2, c_of_14 g1 g2, c_of_15 g1 g2, c_of_16 g1 g2, c_of_17 g1 g2, c_of_18 g1 g2, c_of_19 g1 g2, c_of_20 g1 g2, c_of_21 g1 g2, c_of_22 g1 g2, c_of_23 g1 g2, e_set_slot, zero_01, one_01, e_b_0, e_b_01, or_self, or_false, false_or, R_1_0, R_1_1, R_1_2, R_1_3, R_1_4, R_1_5, R_1_6, R_32_0, R_32_1, R_32_2, R_36_0, R_36_1, R_36_2, R_36_3, R_37_0, R_37_1, R_37_2, R_68_0, R_70_0, R_164_0, R_164_1, R_164_3, R_164_5, R_164_6, R_164_7, R_164_8, R_164_10, R_164_11, R_2_4, R_2_5, ok_1, ok_32, ok_36, ok_37, ok_68, ok_70, ok_164, ok_2, ok_3, sz_3, ok_4, sz_4, ok_33, sz_33, ok_34, sz_34, ok_35, sz_35, ok_38, sz_38, ok_39, sz_39, ok_40, sz_40, ok_41, sz_41, ok_66, sz_66, ok_67, sz_67, ok_69, sz_69, ok_71, sz_71, ok_162, sz_162, ok_163, sz_163, ok_165, sz_165, ok_166, sz_166, ok_167, sz_167, ok_168, sz_168, ok_169, sz_169, ok_170, sz_170, ok_171, sz_171, ok_172, sz_172, ok_173, sz_173, tn_0, tn_1, tn_2, tn_3, tn_4, tn_5, tn_6, tn_7, tn_8, tn_9, tn_10, tn_11, tn_12, tn_13, tn_14, tn_15, tn_16, tn_17, tn_18, tn_19, tn_20, tn_21, tn_22, tn_23, tn_24, tn_25, tn_26, tn_27, in_0, in_1, in_2, in_3, in_4, in_5, in_6, in_7, in_8, in_9, in_10, in_11, in_12, in_13, in_14, in_15, in_16, in_17, in_18, in_19, in_20, in_21, in_22, in_23, in_24, in_25, in_26, in_27, e_rf_s]; exact fin _ hx)
    have eP : sP (mw 165 0 m0) (m0 165 (4 + h)) (n - (j + 1)) (j + 1 + 1) + m0 165 (ix (j + 1) 2) * m0 165 (4 + h) / 100 = sP (mw 165 0 m0) (m0 165 (4 + h)) (n - j) (j + 1) := by
      rw [show n - j = n - (j + 1) + 1 by omega]
      simp only [sP, mr_k2 (m := m0) g1 g2]
    have sup0 : sSup (mw 165 0 m0) (nI h) pl (j + 1) = if (if ¬ pl = 0 ∧ ¬ m0 165 (ix (j + 1) 16) = 0 ∧ m0 165 (ix (j + 1) 18) = 1 then (if m0 165 (ix (j + 1) 19) < m0 165 (ix (j + 1) 20) then ¬ nI h < m0 165 (ix (j + 1) 19) ∧ nI h < m0 165 (ix (j + 1) 20) else ¬ nI h < m0 165 (ix (j + 1) 19) ∨ nI h < m0 165 (ix (j + 1) 20)) else ¬ m0 165 (ix (j + 1) 23) = 0) then m0 165 (ix (j + 1) 17) else 0 := by
      simp only [sSup, mr_k16 (m := m0) g1 g2, mr_k17 (m := m0) g1 g2, mr_k18 (m := m0) g1 g2, mr_k19 (m := m0) g1 g2, mr_k20 (m := m0) g1 g2, mr_k23 (m := m0) g1 g2]
    rw [sup0] at stage
    have t01 : ¬ (1 : Int32) = 0 := by decide
    have t10 : ¬ (0 : Int32) = 1 := by decide
    rw [kX9_compute_14]
    rcases htl with rfl | ⟨z, rfl⟩ <;> (
      simp only [r_aload_n, r_bipush, r_getf0, r_getf1, r_getf2, r_goto, r_iadd, r_iald, r_iast, r_ic_gt, r_ic_ne, r_iconst, r_idiv, r_if_eq, r_if_ge, r_if_le, r_iinc, r_iload, r_iload_n, r_imul, r_istore, r_isub, r_nop, r_ret, r_sipush, kX9_compute_0, kX9_compute_93, kX9_compute_109, kX9_compute_142, kX9_compute_143, kX9_compute_185, kX9_compute_207, kX9_compute_215, kX9_compute_251, kX9_compute_260, kX9_compute_316, kX9_compute_318, kX9_compute_325, lX9_compute_0, lX9_compute_14, lX9_compute_93, lX9_compute_109, lX9_compute_110, lX9_compute_142, lX9_compute_143, lX9_compute_170, lX9_compute_185, lX9_compute_207, lX9_compute_215, lX9_compute_251, lX9_compute_260, lX9_compute_316, lX9_compute_318, lX9_compute_325, vX9_isTime, vX9_of, e_wi_s, e_wr_s, e_wl_s, e_lk, e_sto, e_ok, e_no, e_isL, Option.toList_some, Option.toList_none, List.cons_append, List.nil_append, List.length_cons, List.length_nil, Bool.not_false, Bool.not_true, Bool.and_true, Bool.true_and, Bool.false_and, Bool.and_false, Bool.and_self, Nat.reduceBEq, Nat.reduceAdd, Nat.reduceEqDiff, Nat.reduceLeDiff, Nat.reduceLT, Nat.zero_le, Nat.le_refl, if_true, if_false, ite_true, ite_false, true_and, and_true, true_or, or_true, not_false_eq_true, not_true_eq_false, e_set_self, Nat.succ_ne_zero, eq_self, e1, i1, i2, i3, i4, i5, i6, c1, n0, eP, c_X9_isTime g1 g2, c_of_0 g1 g2, c_of_1 g1 g2, c_of_2 g1 g2, c_of_3 g1 g2, c_of_4 g1 g2, c_of_5 g1 g2, c_of_6 g1 g2, c_of_7 g1 g2, c_of_8 g1 g2, c_of_9 g1 g2, c_of_10 g1 g2, c_of_11 g1 g2, c_of_12 g1 g2, c_of_13 g1 g2, c_of_14 g1 g2, c_of_15 g1 g2, c_of_16 g1 g2, c_of_17 g1 g2, c_of_18 g1 g2, c_of_19 g1 g2, c_of_20 g1 g2, c_of_21 g1 g2, c_of_22 g1 g2, c_of_23 g1 g2, e_set_slot, zero_01, one_01, e_b_0, e_b_01, or_self, or_false, false_or, R_1_0, R_1_1, R_1_2, R_1_3, R_1_4, R_1_5, R_1_6, R_32_0, R_32_1, R_32_2, R_36_0, R_36_1, R_36_2, R_36_3, R_37_0, R_37_1, R_37_2, R_68_0, R_70_0, R_164_0, R_164_1, R_164_3, R_164_5, R_164_6, R_164_7, R_164_8, R_164_10, R_164_11, R_2_4, R_2_5, ok_1, ok_32, ok_36, ok_37, ok_68, ok_70, ok_164, ok_2, ok_3, sz_3, ok_4, sz_4, ok_33, sz_33, ok_34, sz_34, ok_35, sz_35, ok_38, sz_38, ok_39, sz_39, ok_40, sz_40, ok_41, sz_41, ok_66, sz_66, ok_67, sz_67, ok_69, sz_69, ok_71, sz_71, ok_162, sz_162, ok_163, sz_163, ok_165, sz_165, ok_166, sz_166, ok_167, sz_167, ok_168, sz_168, ok_169, sz_169, ok_170, sz_170, ok_171, sz_171, ok_172, sz_172, ok_173, sz_173, tn_0, tn_1, tn_2, tn_3, tn_4, tn_5, tn_6, tn_7, tn_8, tn_9, tn_10, tn_11, tn_12, tn_13, tn_14, tn_15, tn_16, tn_17, tn_18, tn_19, tn_20, tn_21, tn_22, tn_23, tn_24, tn_25, tn_26, tn_27, in_0, in_1, in_2, in_3, in_4, in_5, in_6, in_7, in_8, in_9, in_10, in_11, in_12, in_13, in_14, in_15, in_16, in_17, in_18, in_19, in_20, in_21, in_22, in_23, in_24, in_25, in_26, in_27, e_rf_s]
      have st0 := fun x => stage x [] (Or.inl rfl)
      have st1 := fun x zz => stage x [(8, .int zz)] (Or.inr ⟨zz, rfl⟩)
      by_cases p1 : pl = 0
      · rw [if_pos p1]
        by_cases p2 : m0 165 (ix (j + 1) 23) = 1
        · rw [if_pos p2]
          first | refine st0 1 ?_ | refine st1 1 _ ?_
          have h16 : m0 165 (ix (j + 1) 16) = 1 := by
            rcases b1 with h | h
            · rw [(b3 h).1] at p2; exact absurd p2 t10
            · exact h
          simp [p1, p2, h16]
        · rw [if_neg p2]
          first | refine st0 0 ?_ | refine st1 0 _ ?_
          have h23 : m0 165 (ix (j + 1) 23) = 0 := b2.resolve_right p2
          simp [p1, h23]
      · rw [if_neg p1]
        by_cases p3 : m0 165 (ix (j + 1) 18) = 1
        · rw [if_pos p3]
          first | refine st0 _ ?_ | refine st1 _ _ ?_
          have h16 : m0 165 (ix (j + 1) 16) = 1 := by
            rcases b1 with h | h
            · rw [(b3 h).2] at p3; exact absurd p3 t10
            · exact h
          simp only [p1, p3, h16, t01, not_false_eq_true, true_and, and_self, if_true, e_b_0, Classical.not_not]
        · rw [if_neg p3]
          by_cases p2 : m0 165 (ix (j + 1) 23) = 1
          · rw [if_pos p2]
            first | refine st0 1 ?_ | refine st1 1 _ ?_
            have h16 : m0 165 (ix (j + 1) 16) = 1 := by
              rcases b1 with h | h
              · rw [(b3 h).1] at p2; exact absurd p2 t10
              · exact h
            simp [p1, p2, p3, h16]
          · rw [if_neg p2]
            first | refine st0 0 ?_ | refine st1 0 _ ?_
            have h23 : m0 165 (ix (j + 1) 23) = 0 := b2.resolve_right p2
            simp [p1, p3, h23])
/-- the voltages, the reference's way: where there is no regulator, nothing is multiplied -/
def sW (w : Nat → Nat → Int32) (A R : Nat → Int32) (seg tp : Int32) : Nat → Int32
  | 0 => w 0 1
  | k + 1 => (let x := (if w (k + 1) 4 = 1 then sW w A R seg tp k * (160 + (if nI (k + 1) = seg then tp else w (k + 1) 10)) / 160 else sW w A R seg tp k) - (w (k + 1) 0 * A (k + 1) + w (k + 1) 1 * R (k + 1)) / 100; if x < 0 then 0 else x)
set_option maxHeartbeats 4000000 in
theorem lp_compute2 {n : Nat} (hn : n ≤ 8) {m1 : Nat → Nat → Int32} {h pl seg tp p q : Int32} (hc : m1 165 3 = nI n) : ∀ (d i : Nat), i + d = n → ∀ (m : Nat → Nat → Int32) (tl : e_Lv), (tl = [] ∨ (∃ a, tl = [(8, .int a)]) ∨ ∃ a b c, tl = [(8, .int a), (9, .int b), (10, .int c)]) →
    (∀ c, c ≠ 171 → m c = m1 c) → (∀ k, k ≤ i → m 171 k = sW (mw 165 0 m1) (m1 169) (m1 170) seg tp k) →
    (∀ m', (∀ c, c ≠ 171 → m' c = m1 c) → (∀ k, k ≤ n → m' 171 k = sW (mw 165 0 m1) (m1 169) (m1 170) seg tp k) → Q (none, (173, m', e_rs sv))) →
    Wp xs L kX9_compute_185 ([(0, .ref (164 : Nat)), (1, .int h), (2, .int pl), (3, .int seg), (4, .int tp), (5, .int p), (6, .int q), (7, .int (nI (i + 1)))] ++ tl) [] (173, m, e_rs sv) Q
  | 0, i, hi, m, tl, htl, hm, hk, hQ => by
    have c1 : m 165 = m1 165 := hm 165 (by omega)
    have e1 : (nI n < nI (i + 1)) = True := eq_true (nI_lt (by omega) (by omega))
    rw [kX9_compute_185]
    have hin : i = n := by omega
    have fin := hQ m hm (fun k h => hk k (by omega))
    rcases htl with rfl | ⟨a, rfl⟩ | ⟨a, b, c, rfl⟩ <;> (simp only [r_aload_n, r_bipush, r_getf0, r_getf1, r_getf2, r_goto, r_iadd, r_iald, r_iast, r_ic_gt, r_ic_ne, r_iconst, r_idiv, r_if_eq, r_if_ge, r_if_le, r_iinc, r_iload, r_iload_n, r_imul, r_istore, r_isub, r_nop, r_ret, r_sipush, kX9_compute_0, kX9_compute_14, kX9_compute_93, kX9_compute_109, kX9_compute_110, kX9_compute_142, kX9_compute_143, kX9_compute_170, kX9_compute_207, kX9_compute_251, kX9_compute_260, kX9_compute_316, kX9_compute_318, kX9_compute_325, lX9_compute_0, lX9_compute_14, lX9_compute_93, lX9_compute_109, lX9_compute_110, lX9_compute_142, lX9_compute_143, lX9_compute_170, lX9_compute_185, lX9_compute_207, lX9_compute_215, lX9_compute_251, lX9_compute_260, lX9_compute_316, lX9_compute_318, lX9_compute_325, vX9_isTime, vX9_of, e_wi_s, e_wr_s, e_wl_s, e_lk, e_sto, e_ok, e_no, e_isL, Option.toList_some, Option.toList_none, List.cons_append, List.nil_append, List.length_cons, List.length_nil, Bool.not_false, Bool.not_true, Bool.and_true, Bool.true_and, Bool.false_and, Bool.and_false, Bool.and_self, Nat.reduceBEq, Nat.reduceAdd, Nat.reduceEqDiff, Nat.reduceLeDiff, Nat.reduceLT, Nat.zero_le, Nat.le_refl, if_true, if_false, ite_true, ite_false, true_and, and_true, true_or, or_true, not_false_eq_true, not_true_eq_false, e_set_self, Nat.succ_ne_zero, eq_self, e1, c1, hc, e_set_slot, zero_01, one_01, e_b_0, e_b_01, or_self, or_false, false_or, R_1_0, R_1_1, R_1_2, R_1_3, R_1_4, R_1_5, R_1_6, R_32_0, R_32_1, R_32_2, R_36_0, R_36_1, R_36_2, R_36_3, R_37_0, R_37_1, R_37_2, R_68_0, R_70_0, R_164_0, R_164_1, R_164_3, R_164_5, R_164_6, R_164_7, R_164_8, R_164_10, R_164_11, R_2_4, R_2_5, ok_1, ok_32, ok_36, ok_37, ok_68, ok_70, ok_164, ok_2, ok_3, sz_3, ok_4, sz_4, ok_33, sz_33, ok_34, sz_34, ok_35, sz_35, ok_38, sz_38, ok_39, sz_39, ok_40, sz_40, ok_41, sz_41, ok_66, sz_66, ok_67, sz_67, ok_69, sz_69, ok_71, sz_71, ok_162, sz_162, ok_163, sz_163, ok_165, sz_165, ok_166, sz_166, ok_167, sz_167, ok_168, sz_168, ok_169, sz_169, ok_170, sz_170, ok_171, sz_171, ok_172, sz_172, ok_173, sz_173, tn_0, tn_1, tn_2, tn_3, tn_4, tn_5, tn_6, tn_7, tn_8, tn_9, tn_10, tn_11, tn_12, tn_13, tn_14, tn_15, tn_16, tn_17, tn_18, tn_19, tn_20, tn_21, tn_22, tn_23, tn_24, tn_25, tn_26, tn_27, in_0, in_1, in_2, in_3, in_4, in_5, in_6, in_7, in_8, in_9, in_10, in_11, in_12, in_13, in_14, in_15, in_16, in_17, in_18, in_19, in_20, in_21, in_22, in_23, in_24, in_25, in_26, in_27, e_rf_s]; exact fin)
  | d + 1, i, hi, m, tl, htl, hm, hk, hQ => by
    have c1 : m 165 = m1 165 := hm 165 (by omega)
    have c2 : m 169 = m1 169 := hm 169 (by omega)
    have c3 : m 170 = m1 170 := hm 170 (by omega)
    have c4 : m 171 i = sW (mw 165 0 m1) (m1 169) (m1 170) seg tp i := hk i (Nat.le_refl _)
    have e1 : (nI n < nI (i + 1)) = False := eq_false (nI_nlt (by omega) (by omega))
    have i1 : e_in (nI (i + 1)) 9 = true := e_in_nI (by omega) (by omega)
    have i2 : (nI (i + 1)).toNatClampNeg = i + 1 := nI_nat (by omega)
    have i3 : nI (i + 1) + 1 = nI (i + 1 + 1) := nI_1 (i + 1)
    have i4 : nI (i + 1) - 1 = nI i := nI_pred i
    have i5 : e_in (nI i) 9 = true := e_in_nI (by omega) (by omega)
    have i6 : (nI i).toNatClampNeg = i := nI_nat (by omega)
    have g1 : 1 ≤ i + 1 := by omega
    have g2 : i + 1 ≤ 8 := by omega
    have n0 : ¬ (160 : Int32) = 0 := by decide
    have n1 : ¬ (100 : Int32) = 0 := by decide
    have key := fun (m' : Nat → Nat → Int32) tl htl h1 h2 => lp_compute2 hn (m1 := m1) (h := h) (pl := pl) (p := p) (q := q) (seg := seg) (tp := tp) hc d (i + 1) (by omega) m' tl htl h1 h2 hQ
    have es : sW (mw 165 0 m1) (m1 169) (m1 170) seg tp (i + 1) = (if (if m1 165 (ix (i + 1) 4) = 1 then sW (mw 165 0 m1) (m1 169) (m1 170) seg tp i * (160 + (if nI (i + 1) = seg then tp else m1 165 (ix (i + 1) 10))) / 160 else sW (mw 165 0 m1) (m1 169) (m1 170) seg tp i) - (m1 165 (ix (i + 1) 0) * m1 169 (i + 1) + m1 165 (ix (i + 1) 1) * m1 170 (i + 1)) / 100 < 0 then 0 else (if m1 165 (ix (i + 1) 4) = 1 then sW (mw 165 0 m1) (m1 169) (m1 170) seg tp i * (160 + (if nI (i + 1) = seg then tp else m1 165 (ix (i + 1) 10))) / 160 else sW (mw 165 0 m1) (m1 169) (m1 170) seg tp i) - (m1 165 (ix (i + 1) 0) * m1 169 (i + 1) + m1 165 (ix (i + 1) 1) * m1 170 (i + 1)) / 100) := by
      simp only [sW, mr_k0 (m := m1) g1 g2, mr_k1 (m := m1) g1 g2, mr_k4 (m := m1) g1 g2, mr_k10 (m := m1) g1 g2]
    have fin : ∀ (x : Int32), x = sW (mw 165 0 m1) (m1 169) (m1 170) seg tp (i + 1) → ∀ a b c, Wp xs L kX9_compute_185 [(0, .ref (164 : Nat)), (1, .int h), (2, .int pl), (3, .int seg), (4, .int tp), (5, .int p), (6, .int q), (7, .int (nI (i + 1 + 1))), (8, .int a), (9, .int b), (10, .int c)] [] (173, e_set m 171 (i + 1) x, e_rs sv) Q := by
      intro x hx a b c
      subst hx
      refine key _ [(8, .int a), (9, .int b), (10, .int c)] (Or.inr (Or.inr ⟨a, b, c, rfl⟩)) (fun c h1 => ?_) (fun k h1 => ?_)
      · funext k'
        rw [e_set_cell h1, hm c h1]
      · by_cases hkj : k = i + 1
        · subst hkj
          rw [e_set_self]
        · rw [e_set_slot hkj]
          exact hk k (by omega)
    have st2 : ∀ (t : Int32) (tl' : e_Lv), (tl' = [] ∨ (∃ a, tl' = [(8, .int a)]) ∨ ∃ a b c, tl' = [(8, .int a), (9, .int b), (10, .int c)]) → t = (if nI (i + 1) = seg then tp else m1 165 (ix (i + 1) 10)) → Wp xs L kX9_compute_215 ([(0, .ref (164 : Nat)), (1, .int h), (2, .int pl), (3, .int seg), (4, .int tp), (5, .int p), (6, .int q), (7, .int (nI (i + 1)))] ++ tl') [.int t] (173, m, e_rs sv) Q := by
      intro t tl' htl' ht
      rw [← ht] at es
      by_cases q1 : m1 165 (ix (i + 1) 4) = 1
      · have q1' := eq_true q1
        simp only [q1', if_true] at es
        by_cases q2 : sW (mw 165 0 m1) (m1 169) (m1 170) seg tp i * (160 + t) / 160 - (m1 165 (ix (i + 1) 0) * m1 169 (i + 1) + m1 165 (ix (i + 1) 1) * m1 170 (i + 1)) / 100 < 0
        · have q2' := eq_true q2
          simp only [q2', if_true] at es
          rcases htl' with rfl | ⟨a, rfl⟩ | ⟨a, b, c, rfl⟩ <;> (simp only [r_aload_n, r_bipush, r_getf0, r_getf1, r_getf2, r_goto, r_iadd, r_iald, r_iast, r_ic_gt, r_ic_ne, r_iconst, r_idiv, r_if_eq, r_if_ge, r_if_le, r_iinc, r_iload, r_iload_n, r_imul, r_istore, r_isub, r_nop, r_ret, r_sipush, kX9_compute_0, kX9_compute_14, kX9_compute_93, kX9_compute_109, kX9_compute_110, kX9_compute_142, kX9_compute_143, kX9_compute_170, kX9_compute_207, kX9_compute_215, kX9_compute_251, kX9_compute_260, kX9_compute_316, kX9_compute_318, kX9_compute_325, lX9_compute_0, lX9_compute_14, lX9_compute_93, lX9_compute_109, lX9_compute_110, lX9_compute_142, lX9_compute_143, lX9_compute_170, lX9_compute_185, lX9_compute_207, lX9_compute_215, lX9_compute_251, lX9_compute_260, lX9_compute_316, lX9_compute_318, lX9_compute_325, vX9_isTime, vX9_of, e_wi_s, e_wr_s, e_wl_s, e_lk, e_sto, e_ok, e_no, e_isL, Option.toList_some, Option.toList_none, List.cons_append, List.nil_append, List.length_cons, List.length_nil, Bool.not_false, Bool.not_true, Bool.and_true, Bool.true_and, Bool.false_and, Bool.and_false, Bool.and_self, Nat.reduceBEq, Nat.reduceAdd, Nat.reduceEqDiff, Nat.reduceLeDiff, Nat.reduceLT, Nat.zero_le, Nat.le_refl, if_true, if_false, ite_true, ite_false, true_and, and_true, true_or, or_true, not_false_eq_true, not_true_eq_false, e_set_self, Nat.succ_ne_zero, eq_self, c1, c2, c3, c4, i1, i2, i3, i4, i5, i6, n0, n1, q1', q2', c_of_0 g1 g2, c_of_1 g1 g2, c_of_2 g1 g2, c_of_3 g1 g2, c_of_4 g1 g2, c_of_5 g1 g2, c_of_6 g1 g2, c_of_7 g1 g2, c_of_8 g1 g2, c_of_9 g1 g2, c_of_10 g1 g2, c_of_11 g1 g2, c_of_12 g1 g2, c_of_13 g1 g2, c_of_14 g1 g2, c_of_15 g1 g2, c_of_16 g1 g2, c_of_17 g1 g2, c_of_18 g1 g2, c_of_19 g1 g2, c_of_20 g1 g2, c_of_21 g1 g2, c_of_22 g1 g2, c_of_23 g1 g2, e_set_slot, zero_01, one_01, e_b_0, e_b_01, or_self, or_false, false_or, R_1_0, R_1_1, R_1_2, R_1_3, R_1_4, R_1_5, R_1_6, R_32_0, R_32_1, R_32_2, R_36_0, R_36_1, R_36_2, R_36_3, R_37_0, R_37_1, R_37_2, R_68_0, R_70_0, R_164_0, R_164_1, R_164_3, R_164_5, R_164_6, R_164_7, R_164_8, R_164_10, R_164_11, R_2_4, R_2_5, ok_1, ok_32, ok_36, ok_37, ok_68, ok_70, ok_164, ok_2, ok_3, sz_3, ok_4, sz_4, ok_33, sz_33, ok_34, sz_34, ok_35, sz_35, ok_38, sz_38, ok_39, sz_39, ok_40, sz_40, ok_41, sz_41, ok_66, sz_66, ok_67, sz_67, ok_69, sz_69, ok_71, sz_71, ok_162, sz_162, ok_163, sz_163, ok_165, sz_165, ok_166, sz_166, ok_167, sz_167, ok_168, sz_168, ok_169, sz_169, ok_170, sz_170, ok_171, sz_171, ok_172, sz_172, ok_173, sz_173, tn_0, tn_1, tn_2, tn_3, tn_4, tn_5, tn_6, tn_7, tn_8, tn_9, tn_10, tn_11, tn_12, tn_13, tn_14, tn_15, tn_16, tn_17, tn_18, tn_19, tn_20, tn_21, tn_22, tn_23, tn_24, tn_25, tn_26, tn_27, in_0, in_1, in_2, in_3, in_4, in_5, in_6, in_7, in_8, in_9, in_10, in_11, in_12, in_13, in_14, in_15, in_16, in_17, in_18, in_19, in_20, in_21, in_22, in_23, in_24, in_25, in_26, in_27, e_rf_s]; exact fin _ es.symm _ _ _)
        · have q2' := eq_false q2
          simp only [q2', if_false] at es
          rcases htl' with rfl | ⟨a, rfl⟩ | ⟨a, b, c, rfl⟩ <;> (simp only [r_aload_n, r_bipush, r_getf0, r_getf1, r_getf2, r_goto, r_iadd, r_iald, r_iast, r_ic_gt, r_ic_ne, r_iconst, r_idiv, r_if_eq, r_if_ge, r_if_le, r_iinc, r_iload, r_iload_n, r_imul, r_istore, r_isub, r_nop, r_ret, r_sipush, kX9_compute_0, kX9_compute_14, kX9_compute_93, kX9_compute_109, kX9_compute_110, kX9_compute_142, kX9_compute_143, kX9_compute_170, kX9_compute_207, kX9_compute_215, kX9_compute_251, kX9_compute_260, kX9_compute_316, kX9_compute_318, kX9_compute_325, lX9_compute_0, lX9_compute_14, lX9_compute_93, lX9_compute_109, lX9_compute_110, lX9_compute_142, lX9_compute_143, lX9_compute_170, lX9_compute_185, lX9_compute_207, lX9_compute_215, lX9_compute_251, lX9_compute_260, lX9_compute_316, lX9_compute_318, lX9_compute_325, vX9_isTime, vX9_of, e_wi_s, e_wr_s, e_wl_s, e_lk, e_sto, e_ok, e_no, e_isL, Option.toList_some, Option.toList_none, List.cons_append, List.nil_append, List.length_cons, List.length_nil, Bool.not_false, Bool.not_true, Bool.and_true, Bool.true_and, Bool.false_and, Bool.and_false, Bool.and_self, Nat.reduceBEq, Nat.reduceAdd, Nat.reduceEqDiff, Nat.reduceLeDiff, Nat.reduceLT, Nat.zero_le, Nat.le_refl, if_true, if_false, ite_true, ite_false, true_and, and_true, true_or, or_true, not_false_eq_true, not_true_eq_false, e_set_self, Nat.succ_ne_zero, eq_self, c1, c2, c3, c4, i1, i2, i3, i4, i5, i6, n0, n1, q1', q2', c_of_0 g1 g2, c_of_1 g1 g2, c_of_2 g1 g2, c_of_3 g1 g2, c_of_4 g1 g2, c_of_5 g1 g2, c_of_6 g1 g2, c_of_7 g1 g2, c_of_8 g1 g2, c_of_9 g1 g2, c_of_10 g1 g2, c_of_11 g1 g2, c_of_12 g1 g2, c_of_13 g1 g2, c_of_14 g1 g2, c_of_15 g1 g2, c_of_16 g1 g2, c_of_17 g1 g2, c_of_18 g1 g2, c_of_19 g1 g2, c_of_20 g1 g2, c_of_21 g1 g2, c_of_22 g1 g2, c_of_23 g1 g2, e_set_slot, zero_01, one_01, e_b_0, e_b_01, or_self, or_false, false_or, R_1_0, R_1_1, R_1_2, R_1_3, R_1_4, R_1_5, R_1_6, R_32_0, R_32_1, R_32_2, R_36_0, R_36_1, R_36_2, R_36_3, R_37_0, R_37_1, R_37_2, R_68_0, R_70_0, R_164_0, R_164_1, R_164_3, R_164_5, R_164_6, R_164_7, R_164_8, R_164_10, R_164_11, R_2_4, R_2_5, ok_1, ok_32, ok_36, ok_37, ok_68, ok_70, ok_164, ok_2, ok_3, sz_3, ok_4, sz_4, ok_33, sz_33, ok_34, sz_34, ok_35, sz_35, ok_38, sz_38, ok_39, sz_39, ok_40, sz_40, ok_41, sz_41, ok_66, sz_66, ok_67, sz_67, ok_69, sz_69, ok_71, sz_71, ok_162, sz_162, ok_163, sz_163, ok_165, sz_165, ok_166, sz_166, ok_167, sz_167, ok_168, sz_168, ok_169, sz_169, ok_170, sz_170, ok_171, sz_171, ok_172, sz_172, ok_173, sz_173, tn_0, tn_1, tn_2, tn_3, tn_4, tn_5, tn_6, tn_7, tn_8, tn_9, tn_10, tn_11, tn_12, tn_13, tn_14, tn_15, tn_16, tn_17, tn_18, tn_19, tn_20, tn_21, tn_22, tn_23, tn_24, tn_25, tn_26, tn_27, in_0, in_1, in_2, in_3, in_4, in_5, in_6, in_7, in_8, in_9, in_10, in_11, in_12, in_13, in_14, in_15, in_16, in_17, in_18, in_19, in_20, in_21, in_22, in_23, in_24, in_25, in_26, in_27, e_rf_s]; exact fin _ es.symm _ _ _)
      · have q1' := eq_false q1
        simp only [q1', if_false] at es
        by_cases q2 : sW (mw 165 0 m1) (m1 169) (m1 170) seg tp i - (m1 165 (ix (i + 1) 0) * m1 169 (i + 1) + m1 165 (ix (i + 1) 1) * m1 170 (i + 1)) / 100 < 0
        · have q2' := eq_true q2
          simp only [q2', if_true] at es
          rcases htl' with rfl | ⟨a, rfl⟩ | ⟨a, b, c, rfl⟩ <;> (simp only [r_aload_n, r_bipush, r_getf0, r_getf1, r_getf2, r_goto, r_iadd, r_iald, r_iast, r_ic_gt, r_ic_ne, r_iconst, r_idiv, r_if_eq, r_if_ge, r_if_le, r_iinc, r_iload, r_iload_n, r_imul, r_istore, r_isub, r_nop, r_ret, r_sipush, kX9_compute_0, kX9_compute_14, kX9_compute_93, kX9_compute_109, kX9_compute_110, kX9_compute_142, kX9_compute_143, kX9_compute_170, kX9_compute_207, kX9_compute_215, kX9_compute_251, kX9_compute_260, kX9_compute_316, kX9_compute_318, kX9_compute_325, lX9_compute_0, lX9_compute_14, lX9_compute_93, lX9_compute_109, lX9_compute_110, lX9_compute_142, lX9_compute_143, lX9_compute_170, lX9_compute_185, lX9_compute_207, lX9_compute_215, lX9_compute_251, lX9_compute_260, lX9_compute_316, lX9_compute_318, lX9_compute_325, vX9_isTime, vX9_of, e_wi_s, e_wr_s, e_wl_s, e_lk, e_sto, e_ok, e_no, e_isL, Option.toList_some, Option.toList_none, List.cons_append, List.nil_append, List.length_cons, List.length_nil, Bool.not_false, Bool.not_true, Bool.and_true, Bool.true_and, Bool.false_and, Bool.and_false, Bool.and_self, Nat.reduceBEq, Nat.reduceAdd, Nat.reduceEqDiff, Nat.reduceLeDiff, Nat.reduceLT, Nat.zero_le, Nat.le_refl, if_true, if_false, ite_true, ite_false, true_and, and_true, true_or, or_true, not_false_eq_true, not_true_eq_false, e_set_self, Nat.succ_ne_zero, eq_self, c1, c2, c3, c4, i1, i2, i3, i4, i5, i6, n0, n1, q1', q2', c_of_0 g1 g2, c_of_1 g1 g2, c_of_2 g1 g2, c_of_3 g1 g2, c_of_4 g1 g2, c_of_5 g1 g2, c_of_6 g1 g2, c_of_7 g1 g2, c_of_8 g1 g2, c_of_9 g1 g2, c_of_10 g1 g2, c_of_11 g1 g2, c_of_12 g1 g2, c_of_13 g1 g2, c_of_14 g1 g2, c_of_15 g1 g2, c_of_16 g1 g2, c_of_17 g1 g2, c_of_18 g1 g2, c_of_19 g1 g2, c_of_20 g1 g2, c_of_21 g1 g2, c_of_22 g1 g2, c_of_23 g1 g2, e_set_slot, zero_01, one_01, e_b_0, e_b_01, or_self, or_false, false_or, R_1_0, R_1_1, R_1_2, R_1_3, R_1_4, R_1_5, R_1_6, R_32_0, R_32_1, R_32_2, R_36_0, R_36_1, R_36_2, R_36_3, R_37_0, R_37_1, R_37_2, R_68_0, R_70_0, R_164_0, R_164_1, R_164_3, R_164_5, R_164_6, R_164_7, R_164_8, R_164_10, R_164_11, R_2_4, R_2_5, ok_1, ok_32, ok_36, ok_37, ok_68, ok_70, ok_164, ok_2, ok_3, sz_3, ok_4, sz_4, ok_33, sz_33, ok_34, sz_34, ok_35, sz_35, ok_38, sz_38, ok_39, sz_39, ok_40, sz_40, ok_41, sz_41, ok_66, sz_66, ok_67, sz_67, ok_69, sz_69, ok_71, sz_71, ok_162, sz_162, ok_163, sz_163, ok_165, sz_165, ok_166, sz_166, ok_167, sz_167, ok_168, sz_168, ok_169, sz_169, ok_170, sz_170, ok_171, sz_171, ok_172, sz_172, ok_173, sz_173, tn_0, tn_1, tn_2, tn_3, tn_4, tn_5, tn_6, tn_7, tn_8, tn_9, tn_10, tn_11, tn_12, tn_13, tn_14, tn_15, tn_16, tn_17, tn_18, tn_19, tn_20, tn_21, tn_22, tn_23, tn_24, tn_25, tn_26, tn_27, in_0, in_1, in_2, in_3, in_4, in_5, in_6, in_7, in_8, in_9, in_10, in_11, in_12, in_13, in_14, in_15, in_16, in_17, in_18, in_19, in_20, in_21, in_22, in_23, in_24, in_25, in_26, in_27, e_rf_s]; exact fin _ es.symm _ _ _)
        · have q2' := eq_false q2
          simp only [q2', if_false] at es
          rcases htl' with rfl | ⟨a, rfl⟩ | ⟨a, b, c, rfl⟩ <;> (simp only [r_aload_n, r_bipush, r_getf0, r_getf1, r_getf2, r_goto, r_iadd, r_iald, r_iast, r_ic_gt, r_ic_ne, r_iconst, r_idiv, r_if_eq, r_if_ge, r_if_le, r_iinc, r_iload, r_iload_n, r_imul, r_istore, r_isub, r_nop, r_ret, r_sipush, kX9_compute_0, kX9_compute_14, kX9_compute_93, kX9_compute_109, kX9_compute_110, kX9_compute_142, kX9_compute_143, kX9_compute_170, kX9_compute_207, kX9_compute_215, kX9_compute_251, kX9_compute_260, kX9_compute_316, kX9_compute_318, kX9_compute_325, lX9_compute_0, lX9_compute_14, lX9_compute_93, lX9_compute_109, lX9_compute_110, lX9_compute_142, lX9_compute_143, lX9_compute_170, lX9_compute_185, lX9_compute_207, lX9_compute_215, lX9_compute_251, lX9_compute_260, lX9_compute_316, lX9_compute_318, lX9_compute_325, vX9_isTime, vX9_of, e_wi_s, e_wr_s, e_wl_s, e_lk, e_sto, e_ok, e_no, e_isL, Option.toList_some, Option.toList_none, List.cons_append, List.nil_append, List.length_cons, List.length_nil, Bool.not_false, Bool.not_true, Bool.and_true, Bool.true_and, Bool.false_and, Bool.and_false, Bool.and_self, Nat.reduceBEq, Nat.reduceAdd, Nat.reduceEqDiff, Nat.reduceLeDiff, Nat.reduceLT, Nat.zero_le, Nat.le_refl, if_true, if_false, ite_true, ite_false, true_and, and_true, true_or, or_true, not_false_eq_true, not_true_eq_false, e_set_self, Nat.succ_ne_zero, eq_self, c1, c2, c3, c4, i1, i2, i3, i4, i5, i6, n0, n1, q1', q2', c_of_0 g1 g2, c_of_1 g1 g2, c_of_2 g1 g2, c_of_3 g1 g2, c_of_4 g1 g2, c_of_5 g1 g2, c_of_6 g1 g2, c_of_7 g1 g2, c_of_8 g1 g2, c_of_9 g1 g2, c_of_10 g1 g2, c_of_11 g1 g2, c_of_12 g1 g2, c_of_13 g1 g2, c_of_14 g1 g2, c_of_15 g1 g2, c_of_16 g1 g2, c_of_17 g1 g2, c_of_18 g1 g2, c_of_19 g1 g2, c_of_20 g1 g2, c_of_21 g1 g2, c_of_22 g1 g2, c_of_23 g1 g2, e_set_slot, zero_01, one_01, e_b_0, e_b_01, or_self, or_false, false_or, R_1_0, R_1_1, R_1_2, R_1_3, R_1_4, R_1_5, R_1_6, R_32_0, R_32_1, R_32_2, R_36_0, R_36_1, R_36_2, R_36_3, R_37_0, R_37_1, R_37_2, R_68_0, R_70_0, R_164_0, R_164_1, R_164_3, R_164_5, R_164_6, R_164_7, R_164_8, R_164_10, R_164_11, R_2_4, R_2_5, ok_1, ok_32, ok_36, ok_37, ok_68, ok_70, ok_164, ok_2, ok_3, sz_3, ok_4, sz_4, ok_33, sz_33, ok_34, sz_34, ok_35, sz_35, ok_38, sz_38, ok_39, sz_39, ok_40, sz_40, ok_41, sz_41, ok_66, sz_66, ok_67, sz_67, ok_69, sz_69, ok_71, sz_71, ok_162, sz_162, ok_163, sz_163, ok_165, sz_165, ok_166, sz_166, ok_167, sz_167, ok_168, sz_168, ok_169, sz_169, ok_170, sz_170, ok_171, sz_171, ok_172, sz_172, ok_173, sz_173, tn_0, tn_1, tn_2, tn_3, tn_4, tn_5, tn_6, tn_7, tn_8, tn_9, tn_10, tn_11, tn_12, tn_13, tn_14, tn_15, tn_16, tn_17, tn_18, tn_19, tn_20, tn_21, tn_22, tn_23, tn_24, tn_25, tn_26, tn_27, in_0, in_1, in_2, in_3, in_4, in_5, in_6, in_7, in_8, in_9, in_10, in_11, in_12, in_13, in_14, in_15, in_16, in_17, in_18, in_19, in_20, in_21, in_22, in_23, in_24, in_25, in_26, in_27, e_rf_s]; exact fin _ es.symm _ _ _)
    rw [kX9_compute_185]
    by_cases hs : nI (i + 1) = seg
    · have hs' := eq_true hs
      simp only [hs', if_true] at st2
      rcases htl with rfl | ⟨a, rfl⟩ | ⟨a, b, c, rfl⟩ <;> (simp only [r_aload_n, r_bipush, r_getf0, r_getf1, r_getf2, r_goto, r_iadd, r_iald, r_iast, r_ic_gt, r_ic_ne, r_iconst, r_idiv, r_if_eq, r_if_ge, r_if_le, r_iinc, r_iload, r_iload_n, r_imul, r_istore, r_isub, r_nop, r_ret, r_sipush, kX9_compute_0, kX9_compute_14, kX9_compute_93, kX9_compute_109, kX9_compute_110, kX9_compute_142, kX9_compute_143, kX9_compute_170, kX9_compute_207, kX9_compute_251, kX9_compute_260, kX9_compute_316, kX9_compute_318, kX9_compute_325, lX9_compute_0, lX9_compute_14, lX9_compute_93, lX9_compute_109, lX9_compute_110, lX9_compute_142, lX9_compute_143, lX9_compute_170, lX9_compute_185, lX9_compute_207, lX9_compute_215, lX9_compute_251, lX9_compute_260, lX9_compute_316, lX9_compute_318, lX9_compute_325, vX9_isTime, vX9_of, e_wi_s, e_wr_s, e_wl_s, e_lk, e_sto, e_ok, e_no, e_isL, Option.toList_some, Option.toList_none, List.cons_append, List.nil_append, List.length_cons, List.length_nil, Bool.not_false, Bool.not_true, Bool.and_true, Bool.true_and, Bool.false_and, Bool.and_false, Bool.and_self, Nat.reduceBEq, Nat.reduceAdd, Nat.reduceEqDiff, Nat.reduceLeDiff, Nat.reduceLT, Nat.zero_le, Nat.le_refl, if_true, if_false, ite_true, ite_false, true_and, and_true, true_or, or_true, not_false_eq_true, not_true_eq_false, e_set_self, Nat.succ_ne_zero, eq_self, e1, c1, hc, hs', e_set_slot, zero_01, one_01, e_b_0, e_b_01, or_self, or_false, false_or, R_1_0, R_1_1, R_1_2, R_1_3, R_1_4, R_1_5, R_1_6, R_32_0, R_32_1, R_32_2, R_36_0, R_36_1, R_36_2, R_36_3, R_37_0, R_37_1, R_37_2, R_68_0, R_70_0, R_164_0, R_164_1, R_164_3, R_164_5, R_164_6, R_164_7, R_164_8, R_164_10, R_164_11, R_2_4, R_2_5, ok_1, ok_32, ok_36, ok_37, ok_68, ok_70, ok_164, ok_2, ok_3, sz_3, ok_4, sz_4, ok_33, sz_33, ok_34, sz_34, ok_35, sz_35, ok_38, sz_38, ok_39, sz_39, ok_40, sz_40, ok_41, sz_41, ok_66, sz_66, ok_67, sz_67, ok_69, sz_69, ok_71, sz_71, ok_162, sz_162, ok_163, sz_163, ok_165, sz_165, ok_166, sz_166, ok_167, sz_167, ok_168, sz_168, ok_169, sz_169, ok_170, sz_170, ok_171, sz_171, ok_172, sz_172, ok_173, sz_173, tn_0, tn_1, tn_2, tn_3, tn_4, tn_5, tn_6, tn_7, tn_8, tn_9, tn_10, tn_11, tn_12, tn_13, tn_14, tn_15, tn_16, tn_17, tn_18, tn_19, tn_20, tn_21, tn_22, tn_23, tn_24, tn_25, tn_26, tn_27, in_0, in_1, in_2, in_3, in_4, in_5, in_6, in_7, in_8, in_9, in_10, in_11, in_12, in_13, in_14, in_15, in_16, in_17, in_18, in_19, in_20, in_21, in_22, in_23, in_24, in_25, in_26, in_27, e_rf_s]; first | exact st2 _ [] (Or.inl rfl) rfl | exact st2 _ [(8, .int _)] (Or.inr (Or.inl ⟨_, rfl⟩)) rfl | exact st2 _ [(8, .int _), (9, .int _), (10, .int _)] (Or.inr (Or.inr ⟨_, _, _, rfl⟩)) rfl)
    · have hs' := eq_false hs
      simp only [hs', if_false] at st2
      rcases htl with rfl | ⟨a, rfl⟩ | ⟨a, b, c, rfl⟩ <;> (simp only [r_aload_n, r_bipush, r_getf0, r_getf1, r_getf2, r_goto, r_iadd, r_iald, r_iast, r_ic_gt, r_ic_ne, r_iconst, r_idiv, r_if_eq, r_if_ge, r_if_le, r_iinc, r_iload, r_iload_n, r_imul, r_istore, r_isub, r_nop, r_ret, r_sipush, kX9_compute_0, kX9_compute_14, kX9_compute_93, kX9_compute_109, kX9_compute_110, kX9_compute_142, kX9_compute_143, kX9_compute_170, kX9_compute_207, kX9_compute_251, kX9_compute_260, kX9_compute_316, kX9_compute_318, kX9_compute_325, lX9_compute_0, lX9_compute_14, lX9_compute_93, lX9_compute_109, lX9_compute_110, lX9_compute_142, lX9_compute_143, lX9_compute_170, lX9_compute_185, lX9_compute_207, lX9_compute_215, lX9_compute_251, lX9_compute_260, lX9_compute_316, lX9_compute_318, lX9_compute_325, vX9_isTime, vX9_of, e_wi_s, e_wr_s, e_wl_s, e_lk, e_sto, e_ok, e_no, e_isL, Option.toList_some, Option.toList_none, List.cons_append, List.nil_append, List.length_cons, List.length_nil, Bool.not_false, Bool.not_true, Bool.and_true, Bool.true_and, Bool.false_and, Bool.and_false, Bool.and_self, Nat.reduceBEq, Nat.reduceAdd, Nat.reduceEqDiff, Nat.reduceLeDiff, Nat.reduceLT, Nat.zero_le, Nat.le_refl, if_true, if_false, ite_true, ite_false, true_and, and_true, true_or, or_true, not_false_eq_true, not_true_eq_false, e_set_self, Nat.succ_ne_zero, eq_self, e1, c1, hc, hs', c_of_0 g1 g2, c_of_1 g1 g2, c_of_2 g1 g2, c_of_3 g1 g2, c_of_4 g1 g2, c_of_5 g1 g2, c_of_6 g1 g2, c_of_7 g1 g2, c_of_8 g1 g2, c_of_9 g1 g2, c_of_10 g1 g2, c_of_11 g1 g2, c_of_12 g1 g2, c_of_13 g1 g2, c_of_14 g1 g2, c_of_15 g1 g2, c_of_16 g1 g2, c_of_17 g1 g2, c_of_18 g1 g2, c_of_19 g1 g2, c_of_20 g1 g2, c_of_21 g1 g2, c_of_22 g1 g2, c_of_23 g1 g2, e_set_slot, zero_01, one_01, e_b_0, e_b_01, or_self, or_false, false_or, R_1_0, R_1_1, R_1_2, R_1_3, R_1_4, R_1_5, R_1_6, R_32_0, R_32_1, R_32_2, R_36_0, R_36_1, R_36_2, R_36_3, R_37_0, R_37_1, R_37_2, R_68_0, R_70_0, R_164_0, R_164_1, R_164_3, R_164_5, R_164_6, R_164_7, R_164_8, R_164_10, R_164_11, R_2_4, R_2_5, ok_1, ok_32, ok_36, ok_37, ok_68, ok_70, ok_164, ok_2, ok_3, sz_3, ok_4, sz_4, ok_33, sz_33, ok_34, sz_34, ok_35, sz_35, ok_38, sz_38, ok_39, sz_39, ok_40, sz_40, ok_41, sz_41, ok_66, sz_66, ok_67, sz_67, ok_69, sz_69, ok_71, sz_71, ok_162, sz_162, ok_163, sz_163, ok_165, sz_165, ok_166, sz_166, ok_167, sz_167, ok_168, sz_168, ok_169, sz_169, ok_170, sz_170, ok_171, sz_171, ok_172, sz_172, ok_173, sz_173, tn_0, tn_1, tn_2, tn_3, tn_4, tn_5, tn_6, tn_7, tn_8, tn_9, tn_10, tn_11, tn_12, tn_13, tn_14, tn_15, tn_16, tn_17, tn_18, tn_19, tn_20, tn_21, tn_22, tn_23, tn_24, tn_25, tn_26, tn_27, in_0, in_1, in_2, in_3, in_4, in_5, in_6, in_7, in_8, in_9, in_10, in_11, in_12, in_13, in_14, in_15, in_16, in_17, in_18, in_19, in_20, in_21, in_22, in_23, in_24, in_25, in_26, in_27, e_rf_s]; first | exact st2 _ [] (Or.inl rfl) rfl | exact st2 _ [(8, .int _)] (Or.inr (Or.inl ⟨_, rfl⟩)) rfl | exact st2 _ [(8, .int _), (9, .int _), (10, .int _)] (Or.inr (Or.inr ⟨_, _, _, rfl⟩)) rfl)
def fW (w : Nat → Nat → Int32) (h : Nat) (pl : Int32) (n : Nat) (seg tp : Int32) (k : Nat) : Int32 := sW w (fA w h n) (fR w h pl n) seg tp k
theorem sW_cong {w : Nat → Nat → Int32} {A R A' R' : Nat → Int32} {seg tp : Int32} : ∀ n, (∀ k, 0 < k → k ≤ n → A k = A' k ∧ R k = R' k) → sW w A R seg tp n = sW w A' R' seg tp n
  | 0, _ => rfl
  | n + 1, h => by
    have h1 := h (n + 1) (by omega) (by omega)
    simp only [sW, sW_cong n (fun k a b => h k a (by omega)), h1.1, h1.2]
/-- what compute leaves -/
def Com (n h : Nat) (pl seg tp : Int32) (m m' : Nat → Nat → Int32) : Prop := (∀ c, c ≠ 169 → c ≠ 170 → c ≠ 171 → m' c = m c) ∧ (∀ k, 0 < k → k ≤ n → m' 169 k = fA (mw 165 0 m) h n k ∧ m' 170 k = fR (mw 165 0 m) h pl n k) ∧ ∀ k, k ≤ n → m' 171 k = fW (mw 165 0 m) h pl n seg tp k
theorem c_X9_compute {n h : Nat} (hn : n ≤ 8) (hh : h < 24) {pl seg tp : Int32} (hc : m 165 3 = nI n) (hb : ∀ k, 1 ≤ k → k ≤ n → e_01 (m 165 (ix k 16)) ∧ e_01 (m 165 (ix k 23)) ∧ (m 165 (ix k 16) = 0 → m 165 (ix k 23) = 0 ∧ m 165 (ix k 18) = 0))
    (hQ : ∀ m', Com n h pl seg tp m m' → Q (none, (173, m', e_rs sv))) :
    Wp xs L kX9_compute_0 [(0, .ref (164 : Nat)), (1, .int (nI h)), (2, .int pl), (3, .int seg), (4, .int tp)] [] (173, m, e_rs sv) Q := by
  have key := lp_compute1 (xs := xs) (L := L) (Q := Q) (sv := sv) hn hh (m0 := m) (pl := pl) (seg := seg) (tp := tp) hb n (Nat.le_refl _) m [] (Or.inl rfl) (fun _ _ _ => rfl) (fun k h1 h2 => by omega) (fun m1 tl p q htl h1 h2 => by
    have hc1 : m1 165 3 = nI n := by rw [h1 165 (by omega) (by omega)]; exact hc
    have ew : mw 165 0 m1 = mw 165 0 m := mw_cong (h1 165 (by omega) (by omega))
    have ef : m 165 (4 + h) = mw 165 0 m 0 (4 + h) := (mr_0 (by omega)).symm
    have k2 := fun tl htl => lp_compute2 (xs := xs) (L := L) (Q := Q) (sv := sv) hn (m1 := m1) (h := nI h) (pl := pl) (p := p) (q := q) (seg := seg) (tp := tp) hc1 n 0 (by omega) (e_set m1 171 0 (m1 165 1)) tl htl (fun c h => by funext k; exact e_set_cell h) (fun k h => by
      have : k = 0 := by omega
      subst this
      rw [e_set_self]
      exact (mr_0 (m := m1) (by decide)).symm) (fun m2 g1 g2 => hQ m2 ⟨fun c a b d => by rw [g1 c d, h1 c a b], fun k a b => by
        rw [g1 169 (by omega), g1 170 (by omega)]
        have := h2 k a b
        rw [ef] at this
        exact this, fun k a => by
        have e := g2 k a
        rw [ew] at e
        refine e.trans (sW_cong k (fun k' a' b' => ?_))
        have := h2 k' a' (by omega)
        rw [ef] at this
        exact this⟩)
    rw [kX9_compute_170]
    rcases htl with rfl | ⟨z, rfl⟩ <;> (simp only [r_aload_n, r_bipush, r_getf0, r_getf1, r_getf2, r_goto, r_iadd, r_iald, r_iast, r_ic_gt, r_ic_ne, r_iconst, r_idiv, r_if_eq, r_if_ge, r_if_le, r_iinc, r_iload, r_iload_n, r_imul, r_istore, r_isub, r_nop, r_ret, r_sipush, kX9_compute_0, kX9_compute_93, kX9_compute_109, kX9_compute_110, kX9_compute_142, kX9_compute_143, kX9_compute_207, kX9_compute_215, kX9_compute_251, kX9_compute_260, kX9_compute_316, kX9_compute_318, kX9_compute_325, lX9_compute_0, lX9_compute_14, lX9_compute_93, lX9_compute_109, lX9_compute_110, lX9_compute_142, lX9_compute_143, lX9_compute_170, lX9_compute_185, lX9_compute_207, lX9_compute_215, lX9_compute_251, lX9_compute_260, lX9_compute_316, lX9_compute_318, lX9_compute_325, vX9_isTime, vX9_of, e_wi_s, e_wr_s, e_wl_s, e_lk, e_sto, e_ok, e_no, e_isL, Option.toList_some, Option.toList_none, List.cons_append, List.nil_append, List.length_cons, List.length_nil, Bool.not_false, Bool.not_true, Bool.and_true, Bool.true_and, Bool.false_and, Bool.and_false, Bool.and_self, Nat.reduceBEq, Nat.reduceAdd, Nat.reduceEqDiff, Nat.reduceLeDiff, Nat.reduceLT, Nat.zero_le, Nat.le_refl, if_true, if_false, ite_true, ite_false, true_and, and_true, true_or, or_true, not_false_eq_true, not_true_eq_false, e_set_self, Nat.succ_ne_zero, eq_self, e_set_slot, zero_01, one_01, e_b_0, e_b_01, or_self, or_false, false_or, R_1_0, R_1_1, R_1_2, R_1_3, R_1_4, R_1_5, R_1_6, R_32_0, R_32_1, R_32_2, R_36_0, R_36_1, R_36_2, R_36_3, R_37_0, R_37_1, R_37_2, R_68_0, R_70_0, R_164_0, R_164_1, R_164_3, R_164_5, R_164_6, R_164_7, R_164_8, R_164_10, R_164_11, R_2_4, R_2_5, ok_1, ok_32, ok_36, ok_37, ok_68, ok_70, ok_164, ok_2, ok_3, sz_3, ok_4, sz_4, ok_33, sz_33, ok_34, sz_34, ok_35, sz_35, ok_38, sz_38, ok_39, sz_39, ok_40, sz_40, ok_41, sz_41, ok_66, sz_66, ok_67, sz_67, ok_69, sz_69, ok_71, sz_71, ok_162, sz_162, ok_163, sz_163, ok_165, sz_165, ok_166, sz_166, ok_167, sz_167, ok_168, sz_168, ok_169, sz_169, ok_170, sz_170, ok_171, sz_171, ok_172, sz_172, ok_173, sz_173, tn_0, tn_1, tn_2, tn_3, tn_4, tn_5, tn_6, tn_7, tn_8, tn_9, tn_10, tn_11, tn_12, tn_13, tn_14, tn_15, tn_16, tn_17, tn_18, tn_19, tn_20, tn_21, tn_22, tn_23, tn_24, tn_25, tn_26, tn_27, in_0, in_1, in_2, in_3, in_4, in_5, in_6, in_7, in_8, in_9, in_10, in_11, in_12, in_13, in_14, in_15, in_16, in_17, in_18, in_19, in_20, in_21, in_22, in_23, in_24, in_25, in_26, in_27, e_rf_s]; first | exact k2 [] (Or.inl rfl) | exact k2 [(8, .int z)] (Or.inr (Or.inl ⟨z, rfl⟩))))
  rw [Nat.sub_self] at key
  simp only [r_aload_n, r_bipush, r_getf0, r_getf1, r_getf2, r_goto, r_iadd, r_iald, r_iast, r_ic_gt, r_ic_ne, r_iconst, r_idiv, r_if_eq, r_if_ge, r_if_le, r_iinc, r_iload, r_iload_n, r_imul, r_istore, r_isub, r_nop, r_ret, r_sipush, kX9_compute_0, kX9_compute_93, kX9_compute_109, kX9_compute_110, kX9_compute_142, kX9_compute_143, kX9_compute_207, kX9_compute_215, kX9_compute_251, kX9_compute_260, kX9_compute_316, kX9_compute_318, kX9_compute_325, lX9_compute_0, lX9_compute_14, lX9_compute_93, lX9_compute_109, lX9_compute_110, lX9_compute_142, lX9_compute_143, lX9_compute_170, lX9_compute_185, lX9_compute_207, lX9_compute_215, lX9_compute_251, lX9_compute_260, lX9_compute_316, lX9_compute_318, lX9_compute_325, vX9_isTime, vX9_of, e_wi_s, e_wr_s, e_wl_s, e_lk, e_sto, e_ok, e_no, e_isL, Option.toList_some, Option.toList_none, List.cons_append, List.nil_append, List.length_cons, List.length_nil, Bool.not_false, Bool.not_true, Bool.and_true, Bool.true_and, Bool.false_and, Bool.and_false, Bool.and_self, Nat.reduceBEq, Nat.reduceAdd, Nat.reduceEqDiff, Nat.reduceLeDiff, Nat.reduceLT, Nat.zero_le, Nat.le_refl, if_true, if_false, ite_true, ite_false, true_and, and_true, true_or, or_true, not_false_eq_true, not_true_eq_false, e_set_self, Nat.succ_ne_zero, eq_self, hc, e_set_slot, zero_01, one_01, e_b_0, e_b_01, or_self, or_false, false_or, R_1_0, R_1_1, R_1_2, R_1_3, R_1_4, R_1_5, R_1_6, R_32_0, R_32_1, R_32_2, R_36_0, R_36_1, R_36_2, R_36_3, R_37_0, R_37_1, R_37_2, R_68_0, R_70_0, R_164_0, R_164_1, R_164_3, R_164_5, R_164_6, R_164_7, R_164_8, R_164_10, R_164_11, R_2_4, R_2_5, ok_1, ok_32, ok_36, ok_37, ok_68, ok_70, ok_164, ok_2, ok_3, sz_3, ok_4, sz_4, ok_33, sz_33, ok_34, sz_34, ok_35, sz_35, ok_38, sz_38, ok_39, sz_39, ok_40, sz_40, ok_41, sz_41, ok_66, sz_66, ok_67, sz_67, ok_69, sz_69, ok_71, sz_71, ok_162, sz_162, ok_163, sz_163, ok_165, sz_165, ok_166, sz_166, ok_167, sz_167, ok_168, sz_168, ok_169, sz_169, ok_170, sz_170, ok_171, sz_171, ok_172, sz_172, ok_173, sz_173, tn_0, tn_1, tn_2, tn_3, tn_4, tn_5, tn_6, tn_7, tn_8, tn_9, tn_10, tn_11, tn_12, tn_13, tn_14, tn_15, tn_16, tn_17, tn_18, tn_19, tn_20, tn_21, tn_22, tn_23, tn_24, tn_25, tn_26, tn_27, in_0, in_1, in_2, in_3, in_4, in_5, in_6, in_7, in_8, in_9, in_10, in_11, in_12, in_13, in_14, in_15, in_16, in_17, in_18, in_19, in_20, in_21, in_22, in_23, in_24, in_25, in_26, in_27, e_rf_s]
  exact key
theorem c_X9_computeNow {n t : Nat} (hn : n ≤ 8) (hc : m 165 3 = nI n) (ht : m 165 0 = nI t) (ht2 : t < 1000000000) (hb : ∀ k, 1 ≤ k → k ≤ n → e_01 (m 165 (ix k 16)) ∧ e_01 (m 165 (ix k 23)) ∧ (m 165 (ix k 16) = 0 → m 165 (ix k 23) = 0 ∧ m 165 (ix k 18) = 0))
    (hQ : ∀ m', Com n (hr t) 0 0 0 m m' → Q (none, (173, m', e_rs sv))) :
    Wp xs L kX9_computeNow_0 [(0, .ref (164 : Nat))] [] (173, m, e_rs sv) Q := by
  simp only [r_aload_n, r_iconst, r_nop, r_ret, kX9_computeNow_0, lX9_computeNow_0, vX9_compute, vX9_hour, e_wi_s, e_wr_s, e_wl_s, e_lk, e_sto, e_ok, e_no, e_isL, Option.toList_some, Option.toList_none, List.cons_append, List.nil_append, List.length_cons, List.length_nil, Bool.not_false, Bool.not_true, Bool.and_true, Bool.true_and, Bool.false_and, Bool.and_false, Bool.and_self, Nat.reduceBEq, Nat.reduceAdd, Nat.reduceEqDiff, Nat.reduceLeDiff, Nat.reduceLT, Nat.zero_le, Nat.le_refl, if_true, if_false, ite_true, ite_false, true_and, and_true, true_or, or_true, not_false_eq_true, not_true_eq_false, e_set_self, Nat.succ_ne_zero, eq_self, c_X9_hour ht ht2, e_set_slot, zero_01, one_01, e_b_0, e_b_01, or_self, or_false, false_or, R_1_0, R_1_1, R_1_2, R_1_3, R_1_4, R_1_5, R_1_6, R_32_0, R_32_1, R_32_2, R_36_0, R_36_1, R_36_2, R_36_3, R_37_0, R_37_1, R_37_2, R_68_0, R_70_0, R_164_0, R_164_1, R_164_3, R_164_5, R_164_6, R_164_7, R_164_8, R_164_10, R_164_11, R_2_4, R_2_5, ok_1, ok_32, ok_36, ok_37, ok_68, ok_70, ok_164, ok_2, ok_3, sz_3, ok_4, sz_4, ok_33, sz_33, ok_34, sz_34, ok_35, sz_35, ok_38, sz_38, ok_39, sz_39, ok_40, sz_40, ok_41, sz_41, ok_66, sz_66, ok_67, sz_67, ok_69, sz_69, ok_71, sz_71, ok_162, sz_162, ok_163, sz_163, ok_165, sz_165, ok_166, sz_166, ok_167, sz_167, ok_168, sz_168, ok_169, sz_169, ok_170, sz_170, ok_171, sz_171, ok_172, sz_172, ok_173, sz_173, tn_0, tn_1, tn_2, tn_3, tn_4, tn_5, tn_6, tn_7, tn_8, tn_9, tn_10, tn_11, tn_12, tn_13, tn_14, tn_15, tn_16, tn_17, tn_18, tn_19, tn_20, tn_21, tn_22, tn_23, tn_24, tn_25, tn_26, tn_27, in_0, in_1, in_2, in_3, in_4, in_5, in_6, in_7, in_8, in_9, in_10, in_11, in_12, in_13, in_14, in_15, in_16, in_17, in_18, in_19, in_20, in_21, in_22, in_23, in_24, in_25, in_26, in_27, e_rf_s]
  refine c_X9_compute hn (hr_lt t) hc hb (fun m' h => ?_)
  simp only [r_aload_n, r_iconst, r_nop, r_ret, kX9_computeNow_0, lX9_computeNow_0, vX9_compute, vX9_hour, e_wi_s, e_wr_s, e_wl_s, e_lk, e_sto, e_ok, e_no, e_isL, Option.toList_some, Option.toList_none, List.cons_append, List.nil_append, List.length_cons, List.length_nil, Bool.not_false, Bool.not_true, Bool.and_true, Bool.true_and, Bool.false_and, Bool.and_false, Bool.and_self, Nat.reduceBEq, Nat.reduceAdd, Nat.reduceEqDiff, Nat.reduceLeDiff, Nat.reduceLT, Nat.zero_le, Nat.le_refl, if_true, if_false, ite_true, ite_false, true_and, and_true, true_or, or_true, not_false_eq_true, not_true_eq_false, e_set_self, Nat.succ_ne_zero, eq_self, e_set_slot, zero_01, one_01, e_b_0, e_b_01, or_self, or_false, false_or, R_1_0, R_1_1, R_1_2, R_1_3, R_1_4, R_1_5, R_1_6, R_32_0, R_32_1, R_32_2, R_36_0, R_36_1, R_36_2, R_36_3, R_37_0, R_37_1, R_37_2, R_68_0, R_70_0, R_164_0, R_164_1, R_164_3, R_164_5, R_164_6, R_164_7, R_164_8, R_164_10, R_164_11, R_2_4, R_2_5, ok_1, ok_32, ok_36, ok_37, ok_68, ok_70, ok_164, ok_2, ok_3, sz_3, ok_4, sz_4, ok_33, sz_33, ok_34, sz_34, ok_35, sz_35, ok_38, sz_38, ok_39, sz_39, ok_40, sz_40, ok_41, sz_41, ok_66, sz_66, ok_67, sz_67, ok_69, sz_69, ok_71, sz_71, ok_162, sz_162, ok_163, sz_163, ok_165, sz_165, ok_166, sz_166, ok_167, sz_167, ok_168, sz_168, ok_169, sz_169, ok_170, sz_170, ok_171, sz_171, ok_172, sz_172, ok_173, sz_173, tn_0, tn_1, tn_2, tn_3, tn_4, tn_5, tn_6, tn_7, tn_8, tn_9, tn_10, tn_11, tn_12, tn_13, tn_14, tn_15, tn_16, tn_17, tn_18, tn_19, tn_20, tn_21, tn_22, tn_23, tn_24, tn_25, tn_26, tn_27, in_0, in_1, in_2, in_3, in_4, in_5, in_6, in_7, in_8, in_9, in_10, in_11, in_12, in_13, in_14, in_15, in_16, in_17, in_18, in_19, in_20, in_21, in_22, in_23, in_24, in_25, in_26, in_27, e_rf_s]
  exact hQ m' h
theorem lp_outside {n : Nat} (hn : n ≤ 8) (hc : m 165 3 = nI n) : ∀ (d i : Nat), i + d = n →
    Wp xs L kX9_outside_4 [(0, .ref (164 : Nat)), (1, .int (sB (m 171) i)), (2, .int (nI (i + 1)))] [] (173, m, e_rs sv) Q = Q (some (.int (sB (m 171) n)), (173, m, e_rs sv))
  | 0, i, hi => by
    have e1 : (nI n < nI (i + 1)) = True := eq_true (nI_lt (by omega) (by omega))
    have hin : i = n := by omega
    rw [kX9_outside_4]
    simp only [r_aload_n, r_copy, r_fmod, r_getf0, r_getf1, r_getf2, r_goto, r_iadd, r_iald, r_ic_gt, r_iconst, r_if_eq, r_iinc, r_iload_n, r_iret0, r_iret1, r_istore_n, r_mabs, r_mmax, r_mmin, r_nop, r_sipush, kX9_outside_0, kX9_outside_37, kX9_outside_38, kX9_outside_46, lX9_outside_0, lX9_outside_4, lX9_outside_37, lX9_outside_38, lX9_outside_46, vX9_in, e_wi_s, e_wr_s, e_wl_s, e_lk, e_sto, e_ok, e_no, e_isL, Option.toList_some, Option.toList_none, List.cons_append, List.nil_append, List.length_cons, List.length_nil, Bool.not_false, Bool.not_true, Bool.and_true, Bool.true_and, Bool.false_and, Bool.and_false, Bool.and_self, Nat.reduceBEq, Nat.reduceAdd, Nat.reduceEqDiff, Nat.reduceLeDiff, Nat.reduceLT, Nat.zero_le, Nat.le_refl, if_true, if_false, ite_true, ite_false, true_and, and_true, true_or, or_true, not_false_eq_true, not_true_eq_false, e_set_self, Nat.succ_ne_zero, eq_self, e1, hc, e_set_slot, zero_01, one_01, e_b_0, e_b_01, or_self, or_false, false_or, R_1_0, R_1_1, R_1_2, R_1_3, R_1_4, R_1_5, R_1_6, R_32_0, R_32_1, R_32_2, R_36_0, R_36_1, R_36_2, R_36_3, R_37_0, R_37_1, R_37_2, R_68_0, R_70_0, R_164_0, R_164_1, R_164_3, R_164_5, R_164_6, R_164_7, R_164_8, R_164_10, R_164_11, R_2_4, R_2_5, ok_1, ok_32, ok_36, ok_37, ok_68, ok_70, ok_164, ok_2, ok_3, sz_3, ok_4, sz_4, ok_33, sz_33, ok_34, sz_34, ok_35, sz_35, ok_38, sz_38, ok_39, sz_39, ok_40, sz_40, ok_41, sz_41, ok_66, sz_66, ok_67, sz_67, ok_69, sz_69, ok_71, sz_71, ok_162, sz_162, ok_163, sz_163, ok_165, sz_165, ok_166, sz_166, ok_167, sz_167, ok_168, sz_168, ok_169, sz_169, ok_170, sz_170, ok_171, sz_171, ok_172, sz_172, ok_173, sz_173, tn_0, tn_1, tn_2, tn_3, tn_4, tn_5, tn_6, tn_7, tn_8, tn_9, tn_10, tn_11, tn_12, tn_13, tn_14, tn_15, tn_16, tn_17, tn_18, tn_19, tn_20, tn_21, tn_22, tn_23, tn_24, tn_25, tn_26, tn_27, in_0, in_1, in_2, in_3, in_4, in_5, in_6, in_7, in_8, in_9, in_10, in_11, in_12, in_13, in_14, in_15, in_16, in_17, in_18, in_19, in_20, in_21, in_22, in_23, in_24, in_25, in_26, in_27, e_rf_s]
    rw [hin]
  | d + 1, i, hi => by
    have e1 : (nI n < nI (i + 1)) = False := eq_false (nI_nlt (by omega) (by omega))
    have i1 : e_in (nI (i + 1)) 9 = true := e_in_nI (by omega) (by omega)
    have i2 : (nI (i + 1)).toNatClampNeg = i + 1 := nI_nat (by omega)
    have i3 : nI (i + 1) + 1 = nI (i + 1 + 1) := nI_1 (i + 1)
    have ih := lp_outside hn hc d (i + 1) (by omega)
    simp only [sB] at ih
    rw [kX9_outside_4]
    by_cases hv : ¬ m 171 (i + 1) < 9500 ∧ ¬ 10500 < m 171 (i + 1)
    · have hv' := eq_true hv
      have hb : e_b (m 171 (i + 1) < 9500 ∨ 10500 < m 171 (i + 1)) = 0 := e_b_f (by rintro (h | h); exact hv.1 h; exact hv.2 h)
      rw [hb] at ih
      simp only [r_aload_n, r_copy, r_fmod, r_getf0, r_getf1, r_getf2, r_goto, r_iadd, r_iald, r_ic_gt, r_iconst, r_if_eq, r_iinc, r_iload_n, r_iret0, r_iret1, r_istore_n, r_mabs, r_mmax, r_mmin, r_nop, r_sipush, kX9_outside_0, kX9_outside_37, kX9_outside_38, kX9_outside_46, lX9_outside_0, lX9_outside_4, lX9_outside_37, lX9_outside_38, lX9_outside_46, vX9_in, e_wi_s, e_wr_s, e_wl_s, e_lk, e_sto, e_ok, e_no, e_isL, Option.toList_some, Option.toList_none, List.cons_append, List.nil_append, List.length_cons, List.length_nil, Bool.not_false, Bool.not_true, Bool.and_true, Bool.true_and, Bool.false_and, Bool.and_false, Bool.and_self, Nat.reduceBEq, Nat.reduceAdd, Nat.reduceEqDiff, Nat.reduceLeDiff, Nat.reduceLT, Nat.zero_le, Nat.le_refl, if_true, if_false, ite_true, ite_false, true_and, and_true, true_or, or_true, not_false_eq_true, not_true_eq_false, e_set_self, Nat.succ_ne_zero, eq_self, e1, hc, i1, i2, i3, c_X9_in, hv', e_set_slot, zero_01, one_01, e_b_0, e_b_01, or_self, or_false, false_or, R_1_0, R_1_1, R_1_2, R_1_3, R_1_4, R_1_5, R_1_6, R_32_0, R_32_1, R_32_2, R_36_0, R_36_1, R_36_2, R_36_3, R_37_0, R_37_1, R_37_2, R_68_0, R_70_0, R_164_0, R_164_1, R_164_3, R_164_5, R_164_6, R_164_7, R_164_8, R_164_10, R_164_11, R_2_4, R_2_5, ok_1, ok_32, ok_36, ok_37, ok_68, ok_70, ok_164, ok_2, ok_3, sz_3, ok_4, sz_4, ok_33, sz_33, ok_34, sz_34, ok_35, sz_35, ok_38, sz_38, ok_39, sz_39, ok_40, sz_40, ok_41, sz_41, ok_66, sz_66, ok_67, sz_67, ok_69, sz_69, ok_71, sz_71, ok_162, sz_162, ok_163, sz_163, ok_165, sz_165, ok_166, sz_166, ok_167, sz_167, ok_168, sz_168, ok_169, sz_169, ok_170, sz_170, ok_171, sz_171, ok_172, sz_172, ok_173, sz_173, tn_0, tn_1, tn_2, tn_3, tn_4, tn_5, tn_6, tn_7, tn_8, tn_9, tn_10, tn_11, tn_12, tn_13, tn_14, tn_15, tn_16, tn_17, tn_18, tn_19, tn_20, tn_21, tn_22, tn_23, tn_24, tn_25, tn_26, tn_27, in_0, in_1, in_2, in_3, in_4, in_5, in_6, in_7, in_8, in_9, in_10, in_11, in_12, in_13, in_14, in_15, in_16, in_17, in_18, in_19, in_20, in_21, in_22, in_23, in_24, in_25, in_26, in_27, e_rf_s]
      exact ih
    · have hv' := eq_false hv
      have hb : e_b (m 171 (i + 1) < 9500 ∨ 10500 < m 171 (i + 1)) = 1 := e_b_t (by
        rcases Classical.em (m 171 (i + 1) < 9500) with h | h
        · exact Or.inl h
        · exact Or.inr (Classical.byContradiction fun h2 => hv ⟨h, h2⟩))
      rw [hb] at ih
      simp only [r_aload_n, r_copy, r_fmod, r_getf0, r_getf1, r_getf2, r_goto, r_iadd, r_iald, r_ic_gt, r_iconst, r_if_eq, r_iinc, r_iload_n, r_iret0, r_iret1, r_istore_n, r_mabs, r_mmax, r_mmin, r_nop, r_sipush, kX9_outside_0, kX9_outside_37, kX9_outside_38, kX9_outside_46, lX9_outside_0, lX9_outside_4, lX9_outside_37, lX9_outside_38, lX9_outside_46, vX9_in, e_wi_s, e_wr_s, e_wl_s, e_lk, e_sto, e_ok, e_no, e_isL, Option.toList_some, Option.toList_none, List.cons_append, List.nil_append, List.length_cons, List.length_nil, Bool.not_false, Bool.not_true, Bool.and_true, Bool.true_and, Bool.false_and, Bool.and_false, Bool.and_self, Nat.reduceBEq, Nat.reduceAdd, Nat.reduceEqDiff, Nat.reduceLeDiff, Nat.reduceLT, Nat.zero_le, Nat.le_refl, if_true, if_false, ite_true, ite_false, true_and, and_true, true_or, or_true, not_false_eq_true, not_true_eq_false, e_set_self, Nat.succ_ne_zero, eq_self, e1, hc, i1, i2, i3, c_X9_in, hv', e_set_slot, zero_01, one_01, e_b_0, e_b_01, or_self, or_false, false_or, R_1_0, R_1_1, R_1_2, R_1_3, R_1_4, R_1_5, R_1_6, R_32_0, R_32_1, R_32_2, R_36_0, R_36_1, R_36_2, R_36_3, R_37_0, R_37_1, R_37_2, R_68_0, R_70_0, R_164_0, R_164_1, R_164_3, R_164_5, R_164_6, R_164_7, R_164_8, R_164_10, R_164_11, R_2_4, R_2_5, ok_1, ok_32, ok_36, ok_37, ok_68, ok_70, ok_164, ok_2, ok_3, sz_3, ok_4, sz_4, ok_33, sz_33, ok_34, sz_34, ok_35, sz_35, ok_38, sz_38, ok_39, sz_39, ok_40, sz_40, ok_41, sz_41, ok_66, sz_66, ok_67, sz_67, ok_69, sz_69, ok_71, sz_71, ok_162, sz_162, ok_163, sz_163, ok_165, sz_165, ok_166, sz_166, ok_167, sz_167, ok_168, sz_168, ok_169, sz_169, ok_170, sz_170, ok_171, sz_171, ok_172, sz_172, ok_173, sz_173, tn_0, tn_1, tn_2, tn_3, tn_4, tn_5, tn_6, tn_7, tn_8, tn_9, tn_10, tn_11, tn_12, tn_13, tn_14, tn_15, tn_16, tn_17, tn_18, tn_19, tn_20, tn_21, tn_22, tn_23, tn_24, tn_25, tn_26, tn_27, in_0, in_1, in_2, in_3, in_4, in_5, in_6, in_7, in_8, in_9, in_10, in_11, in_12, in_13, in_14, in_15, in_16, in_17, in_18, in_19, in_20, in_21, in_22, in_23, in_24, in_25, in_26, in_27, e_rf_s]
      exact ih
theorem c_X9_outside {n : Nat} (hn : n ≤ 8) (hc : m 165 3 = nI n) : Wp xs L kX9_outside_0 [(0, .ref (164 : Nat))] [] (173, m, e_rs sv) Q = Q (some (.int (sB (m 171) n)), (173, m, e_rs sv)) := by
  have h := lp_outside (xs := xs) (L := L) (Q := Q) (sv := sv) hn hc n 0 (by omega)
  simp only [r_aload_n, r_copy, r_fmod, r_getf0, r_getf1, r_getf2, r_goto, r_iadd, r_iald, r_ic_gt, r_iconst, r_if_eq, r_iinc, r_iload_n, r_iret0, r_iret1, r_istore_n, r_mabs, r_mmax, r_mmin, r_nop, r_sipush, kX9_outside_0, kX9_outside_37, kX9_outside_38, kX9_outside_46, lX9_outside_0, lX9_outside_4, lX9_outside_37, lX9_outside_38, lX9_outside_46, vX9_in, e_wi_s, e_wr_s, e_wl_s, e_lk, e_sto, e_ok, e_no, e_isL, Option.toList_some, Option.toList_none, List.cons_append, List.nil_append, List.length_cons, List.length_nil, Bool.not_false, Bool.not_true, Bool.and_true, Bool.true_and, Bool.false_and, Bool.and_false, Bool.and_self, Nat.reduceBEq, Nat.reduceAdd, Nat.reduceEqDiff, Nat.reduceLeDiff, Nat.reduceLT, Nat.zero_le, Nat.le_refl, if_true, if_false, ite_true, ite_false, true_and, and_true, true_or, or_true, not_false_eq_true, not_true_eq_false, e_set_self, Nat.succ_ne_zero, eq_self, e_set_slot, zero_01, one_01, e_b_0, e_b_01, or_self, or_false, false_or, R_1_0, R_1_1, R_1_2, R_1_3, R_1_4, R_1_5, R_1_6, R_32_0, R_32_1, R_32_2, R_36_0, R_36_1, R_36_2, R_36_3, R_37_0, R_37_1, R_37_2, R_68_0, R_70_0, R_164_0, R_164_1, R_164_3, R_164_5, R_164_6, R_164_7, R_164_8, R_164_10, R_164_11, R_2_4, R_2_5, ok_1, ok_32, ok_36, ok_37, ok_68, ok_70, ok_164, ok_2, ok_3, sz_3, ok_4, sz_4, ok_33, sz_33, ok_34, sz_34, ok_35, sz_35, ok_38, sz_38, ok_39, sz_39, ok_40, sz_40, ok_41, sz_41, ok_66, sz_66, ok_67, sz_67, ok_69, sz_69, ok_71, sz_71, ok_162, sz_162, ok_163, sz_163, ok_165, sz_165, ok_166, sz_166, ok_167, sz_167, ok_168, sz_168, ok_169, sz_169, ok_170, sz_170, ok_171, sz_171, ok_172, sz_172, ok_173, sz_173, tn_0, tn_1, tn_2, tn_3, tn_4, tn_5, tn_6, tn_7, tn_8, tn_9, tn_10, tn_11, tn_12, tn_13, tn_14, tn_15, tn_16, tn_17, tn_18, tn_19, tn_20, tn_21, tn_22, tn_23, tn_24, tn_25, tn_26, tn_27, in_0, in_1, in_2, in_3, in_4, in_5, in_6, in_7, in_8, in_9, in_10, in_11, in_12, in_13, in_14, in_15, in_16, in_17, in_18, in_19, in_20, in_21, in_22, in_23, in_24, in_25, in_26, in_27, e_rf_s]
  exact h
end P17
end
