-- ===== PART A: goes FIRST, ahead of the names: the tables' words, and 'selects' of the private methods out of them =====
/-- a private method of a class that the tables say can be made, by its rows of tables_1 -/
def lw_okq (q : MethodName × Nat) : Prop := (q.1.cls ≠ "java/lang/invoke/MethodHandle" ∧ q.1.cls ≠ "java/lang/invoke/VarHandle") ∧ Cond.instantiable q.1.cls q.2 ∈ tables_1 ∧ Cond.privateMethod q.1 ∈ tables_1 ∧ Cond.instanceMethod q.1 ∈ tables_1
theorem lw_p0 : lw_okq (⟨"FeederControl", "refuse", "(I)I"⟩, 7) := ⟨⟨by decide +kernel, by decide +kernel⟩, List.mem_of_getElem? (i := 14) (by decide +kernel), List.mem_of_getElem? (i := 315) (by decide +kernel), List.mem_of_getElem? (i := 316) (by decide +kernel)⟩
theorem lw_p1 : lw_okq (⟨"FeederControl$History", "dropOldest", "()V"⟩, 2) := ⟨⟨by decide +kernel, by decide +kernel⟩, List.mem_of_getElem? (i := 269) (by decide +kernel), List.mem_of_getElem? (i := 326) (by decide +kernel), List.mem_of_getElem? (i := 327) (by decide +kernel)⟩
theorem lw_p2 : lw_okq (⟨"FeederControl", "hasNode", "(I)Z"⟩, 7) := ⟨⟨by decide +kernel, by decide +kernel⟩, List.mem_of_getElem? (i := 14) (by decide +kernel), List.mem_of_getElem? (i := 360) (by decide +kernel), List.mem_of_getElem? (i := 361) (by decide +kernel)⟩
theorem lw_p3 : lw_okq (⟨"FeederControl$ProfileText", "skipSpaces", "()V"⟩, 4) := ⟨⟨by decide +kernel, by decide +kernel⟩, List.mem_of_getElem? (i := 246) (by decide +kernel), List.mem_of_getElem? (i := 388) (by decide +kernel), List.mem_of_getElem? (i := 389) (by decide +kernel)⟩
theorem lw_p4 : lw_okq (⟨"FeederControl$ProfileText", "readItem", "([I)V"⟩, 4) := ⟨⟨by decide +kernel, by decide +kernel⟩, List.mem_of_getElem? (i := 246) (by decide +kernel), List.mem_of_getElem? (i := 392) (by decide +kernel), List.mem_of_getElem? (i := 393) (by decide +kernel)⟩
theorem lw_p5 : lw_okq (⟨"FeederControl$ProfileText", "readNumber", "(II)I"⟩, 4) := ⟨⟨by decide +kernel, by decide +kernel⟩, List.mem_of_getElem? (i := 246) (by decide +kernel), List.mem_of_getElem? (i := 396) (by decide +kernel), List.mem_of_getElem? (i := 397) (by decide +kernel)⟩
theorem lw_p6 : lw_okq (⟨"FeederControl$ProfileText", "isNext", "(C)Z"⟩, 4) := ⟨⟨by decide +kernel, by decide +kernel⟩, List.mem_of_getElem? (i := 246) (by decide +kernel), List.mem_of_getElem? (i := 401) (by decide +kernel), List.mem_of_getElem? (i := 402) (by decide +kernel)⟩
theorem lw_p7 : lw_okq (⟨"FeederControl$ProfileText", "expect", "(C)V"⟩, 4) := ⟨⟨by decide +kernel, by decide +kernel⟩, List.mem_of_getElem? (i := 246) (by decide +kernel), List.mem_of_getElem? (i := 405) (by decide +kernel), List.mem_of_getElem? (i := 406) (by decide +kernel)⟩
theorem lw_p8 : lw_okq (⟨"FeederControl", "regulatorFault", "(I)I"⟩, 7) := ⟨⟨by decide +kernel, by decide +kernel⟩, List.mem_of_getElem? (i := 14) (by decide +kernel), List.mem_of_getElem? (i := 417) (by decide +kernel), List.mem_of_getElem? (i := 418) (by decide +kernel)⟩
theorem lw_p9 : lw_okq (⟨"FeederControl", "bankFault", "(I)I"⟩, 7) := ⟨⟨by decide +kernel, by decide +kernel⟩, List.mem_of_getElem? (i := 14) (by decide +kernel), List.mem_of_getElem? (i := 432) (by decide +kernel), List.mem_of_getElem? (i := 433) (by decide +kernel)⟩
theorem lw_p10 : lw_okq (⟨"FeederControl", "passMinute", "()Z"⟩, 7) := ⟨⟨by decide +kernel, by decide +kernel⟩, List.mem_of_getElem? (i := 14) (by decide +kernel), List.mem_of_getElem? (i := 443) (by decide +kernel), List.mem_of_getElem? (i := 444) (by decide +kernel)⟩
theorem lw_p11 : lw_okq (⟨"FeederControl$Planner", "countStepsAfter", "(LFeederControl$Feeder;II)V"⟩, 5) := ⟨⟨by decide +kernel, by decide +kernel⟩, List.mem_of_getElem? (i := 218) (by decide +kernel), List.mem_of_getElem? (i := 589) (by decide +kernel), List.mem_of_getElem? (i := 590) (by decide +kernel)⟩
theorem lw_p12 : lw_okq (⟨"FeederControl$Planner", "countStepsFrom", "(I)V"⟩, 5) := ⟨⟨by decide +kernel, by decide +kernel⟩, List.mem_of_getElem? (i := 218) (by decide +kernel), List.mem_of_getElem? (i := 597) (by decide +kernel), List.mem_of_getElem? (i := 598) (by decide +kernel)⟩
theorem lw_p13 : lw_okq (⟨"FeederControl$Planner", "chooseTaps", "(I)Z"⟩, 5) := ⟨⟨by decide +kernel, by decide +kernel⟩, List.mem_of_getElem? (i := 218) (by decide +kernel), List.mem_of_getElem? (i := 604) (by decide +kernel), List.mem_of_getElem? (i := 605) (by decide +kernel)⟩
theorem lw_p14 : lw_okq (⟨"FeederControl$Planner", "bestPlace", "(II)I"⟩, 5) := ⟨⟨by decide +kernel, by decide +kernel⟩, List.mem_of_getElem? (i := 218) (by decide +kernel), List.mem_of_getElem? (i := 608) (by decide +kernel), List.mem_of_getElem? (i := 609) (by decide +kernel)⟩
theorem lw_p15 : lw_okq (⟨"FeederControlModel", "error", "(I)I"⟩, 12) := ⟨⟨by decide +kernel, by decide +kernel⟩, List.mem_of_getElem? (i := 646) (by decide +kernel), List.mem_of_getElem? (i := 696) (by decide +kernel), List.mem_of_getElem? (i := 697) (by decide +kernel)⟩
def lw_privs_1 : List (MethodName × Nat) := [(⟨"FeederControl", "refuse", "(I)I"⟩, 7), (⟨"FeederControl$History", "dropOldest", "()V"⟩, 2), (⟨"FeederControl", "hasNode", "(I)Z"⟩, 7), (⟨"FeederControl$ProfileText", "skipSpaces", "()V"⟩, 4), (⟨"FeederControl$ProfileText", "readItem", "([I)V"⟩, 4), (⟨"FeederControl$ProfileText", "readNumber", "(II)I"⟩, 4), (⟨"FeederControl$ProfileText", "isNext", "(C)Z"⟩, 4), (⟨"FeederControl$ProfileText", "expect", "(C)V"⟩, 4), (⟨"FeederControl", "regulatorFault", "(I)I"⟩, 7), (⟨"FeederControl", "bankFault", "(I)I"⟩, 7), (⟨"FeederControl", "passMinute", "()Z"⟩, 7), (⟨"FeederControl$Planner", "countStepsAfter", "(LFeederControl$Feeder;II)V"⟩, 5), (⟨"FeederControl$Planner", "countStepsFrom", "(I)V"⟩, 5), (⟨"FeederControl$Planner", "chooseTaps", "(I)Z"⟩, 5), (⟨"FeederControl$Planner", "bestPlace", "(II)I"⟩, 5), (⟨"FeederControlModel", "error", "(I)I"⟩, 12)]
theorem lw_r1 : ∀ q ∈ lw_privs_1, lw_okq q := List.forall_mem_cons.mpr ⟨lw_p0, List.forall_mem_cons.mpr ⟨lw_p1, List.forall_mem_cons.mpr ⟨lw_p2, List.forall_mem_cons.mpr ⟨lw_p3, List.forall_mem_cons.mpr ⟨lw_p4, List.forall_mem_cons.mpr ⟨lw_p5, List.forall_mem_cons.mpr ⟨lw_p6, List.forall_mem_cons.mpr ⟨lw_p7, List.forall_mem_cons.mpr ⟨lw_p8, List.forall_mem_cons.mpr ⟨lw_p9, List.forall_mem_cons.mpr ⟨lw_p10, List.forall_mem_cons.mpr ⟨lw_p11, List.forall_mem_cons.mpr ⟨lw_p12, List.forall_mem_cons.mpr ⟨lw_p13, List.forall_mem_cons.mpr ⟨lw_p14, List.forall_mem_cons.mpr ⟨lw_p15, fun _ h => absurd h List.not_mem_nil⟩⟩⟩⟩⟩⟩⟩⟩⟩⟩⟩⟩⟩⟩⟩⟩
theorem lw_p16 : lw_okq (⟨"FeederControlModel", "save", "()V"⟩, 12) := ⟨⟨by decide +kernel, by decide +kernel⟩, List.mem_of_getElem? (i := 646) (by decide +kernel), List.mem_of_getElem? (i := 700) (by decide +kernel), List.mem_of_getElem? (i := 701) (by decide +kernel)⟩
theorem lw_p17 : lw_okq (⟨"FeederControlModel", "put", "(III)V"⟩, 12) := ⟨⟨by decide +kernel, by decide +kernel⟩, List.mem_of_getElem? (i := 646) (by decide +kernel), List.mem_of_getElem? (i := 711) (by decide +kernel), List.mem_of_getElem? (i := 712) (by decide +kernel)⟩
theorem lw_p18 : lw_okq (⟨"FeederControlModel", "isNode", "(I)Z"⟩, 12) := ⟨⟨by decide +kernel, by decide +kernel⟩, List.mem_of_getElem? (i := 646) (by decide +kernel), List.mem_of_getElem? (i := 722) (by decide +kernel), List.mem_of_getElem? (i := 723) (by decide +kernel)⟩
theorem lw_p19 : lw_okq (⟨"FeederControlModel", "next", "()I"⟩, 12) := ⟨⟨by decide +kernel, by decide +kernel⟩, List.mem_of_getElem? (i := 646) (by decide +kernel), List.mem_of_getElem? (i := 742) (by decide +kernel), List.mem_of_getElem? (i := 743) (by decide +kernel)⟩
theorem lw_p20 : lw_okq (⟨"FeederControlModel", "readsItem", "()Z"⟩, 12) := ⟨⟨by decide +kernel, by decide +kernel⟩, List.mem_of_getElem? (i := 646) (by decide +kernel), List.mem_of_getElem? (i := 746) (by decide +kernel), List.mem_of_getElem? (i := 747) (by decide +kernel)⟩
theorem lw_p21 : lw_okq (⟨"FeederControlModel", "number", "(II)I"⟩, 12) := ⟨⟨by decide +kernel, by decide +kernel⟩, List.mem_of_getElem? (i := 646) (by decide +kernel), List.mem_of_getElem? (i := 750) (by decide +kernel), List.mem_of_getElem? (i := 751) (by decide +kernel)⟩
theorem lw_p22 : lw_okq (⟨"FeederControlModel", "takes", "(I)Z"⟩, 12) := ⟨⟨by decide +kernel, by decide +kernel⟩, List.mem_of_getElem? (i := 646) (by decide +kernel), List.mem_of_getElem? (i := 754) (by decide +kernel), List.mem_of_getElem? (i := 755) (by decide +kernel)⟩
theorem lw_p23 : lw_okq (⟨"FeederControlModel", "of", "(II)I"⟩, 12) := ⟨⟨by decide +kernel, by decide +kernel⟩, List.mem_of_getElem? (i := 646) (by decide +kernel), List.mem_of_getElem? (i := 762) (by decide +kernel), List.mem_of_getElem? (i := 763) (by decide +kernel)⟩
theorem lw_p24 : lw_okq (⟨"FeederControlModel", "lacks", "(II)I"⟩, 12) := ⟨⟨by decide +kernel, by decide +kernel⟩, List.mem_of_getElem? (i := 646) (by decide +kernel), List.mem_of_getElem? (i := 770) (by decide +kernel), List.mem_of_getElem? (i := 771) (by decide +kernel)⟩
theorem lw_p25 : lw_okq (⟨"FeederControlModel", "passes", "()I"⟩, 12) := ⟨⟨by decide +kernel, by decide +kernel⟩, List.mem_of_getElem? (i := 646) (by decide +kernel), List.mem_of_getElem? (i := 786) (by decide +kernel), List.mem_of_getElem? (i := 787) (by decide +kernel)⟩
theorem lw_p26 : lw_okq (⟨"FeederControlModel", "unlocks", "()V"⟩, 12) := ⟨⟨by decide +kernel, by decide +kernel⟩, List.mem_of_getElem? (i := 646) (by decide +kernel), List.mem_of_getElem? (i := 790) (by decide +kernel), List.mem_of_getElem? (i := 791) (by decide +kernel)⟩
theorem lw_p27 : lw_okq (⟨"FeederControlModel", "hour", "()I"⟩, 12) := ⟨⟨by decide +kernel, by decide +kernel⟩, List.mem_of_getElem? (i := 646) (by decide +kernel), List.mem_of_getElem? (i := 794) (by decide +kernel), List.mem_of_getElem? (i := 795) (by decide +kernel)⟩
theorem lw_p28 : lw_okq (⟨"FeederControlModel", "isTime", "(II)Z"⟩, 12) := ⟨⟨by decide +kernel, by decide +kernel⟩, List.mem_of_getElem? (i := 646) (by decide +kernel), List.mem_of_getElem? (i := 798) (by decide +kernel), List.mem_of_getElem? (i := 799) (by decide +kernel)⟩
theorem lw_p29 : lw_okq (⟨"FeederControlModel", "computeNow", "()V"⟩, 12) := ⟨⟨by decide +kernel, by decide +kernel⟩, List.mem_of_getElem? (i := 646) (by decide +kernel), List.mem_of_getElem? (i := 802) (by decide +kernel), List.mem_of_getElem? (i := 803) (by decide +kernel)⟩
theorem lw_p30 : lw_okq (⟨"FeederControlModel", "compute", "(IZII)V"⟩, 12) := ⟨⟨by decide +kernel, by decide +kernel⟩, List.mem_of_getElem? (i := 646) (by decide +kernel), List.mem_of_getElem? (i := 806) (by decide +kernel), List.mem_of_getElem? (i := 807) (by decide +kernel)⟩
theorem lw_p31 : lw_okq (⟨"FeederControlModel", "switches", "()Z"⟩, 12) := ⟨⟨by decide +kernel, by decide +kernel⟩, List.mem_of_getElem? (i := 646) (by decide +kernel), List.mem_of_getElem? (i := 810) (by decide +kernel), List.mem_of_getElem? (i := 811) (by decide +kernel)⟩
def lw_privs_2 : List (MethodName × Nat) := [(⟨"FeederControlModel", "save", "()V"⟩, 12), (⟨"FeederControlModel", "put", "(III)V"⟩, 12), (⟨"FeederControlModel", "isNode", "(I)Z"⟩, 12), (⟨"FeederControlModel", "next", "()I"⟩, 12), (⟨"FeederControlModel", "readsItem", "()Z"⟩, 12), (⟨"FeederControlModel", "number", "(II)I"⟩, 12), (⟨"FeederControlModel", "takes", "(I)Z"⟩, 12), (⟨"FeederControlModel", "of", "(II)I"⟩, 12), (⟨"FeederControlModel", "lacks", "(II)I"⟩, 12), (⟨"FeederControlModel", "passes", "()I"⟩, 12), (⟨"FeederControlModel", "unlocks", "()V"⟩, 12), (⟨"FeederControlModel", "hour", "()I"⟩, 12), (⟨"FeederControlModel", "isTime", "(II)Z"⟩, 12), (⟨"FeederControlModel", "computeNow", "()V"⟩, 12), (⟨"FeederControlModel", "compute", "(IZII)V"⟩, 12), (⟨"FeederControlModel", "switches", "()Z"⟩, 12)]
theorem lw_r2 : ∀ q ∈ lw_privs_2, lw_okq q := List.forall_mem_cons.mpr ⟨lw_p16, List.forall_mem_cons.mpr ⟨lw_p17, List.forall_mem_cons.mpr ⟨lw_p18, List.forall_mem_cons.mpr ⟨lw_p19, List.forall_mem_cons.mpr ⟨lw_p20, List.forall_mem_cons.mpr ⟨lw_p21, List.forall_mem_cons.mpr ⟨lw_p22, List.forall_mem_cons.mpr ⟨lw_p23, List.forall_mem_cons.mpr ⟨lw_p24, List.forall_mem_cons.mpr ⟨lw_p25, List.forall_mem_cons.mpr ⟨lw_p26, List.forall_mem_cons.mpr ⟨lw_p27, List.forall_mem_cons.mpr ⟨lw_p28, List.forall_mem_cons.mpr ⟨lw_p29, List.forall_mem_cons.mpr ⟨lw_p30, List.forall_mem_cons.mpr ⟨lw_p31, fun _ h => absurd h List.not_mem_nil⟩⟩⟩⟩⟩⟩⟩⟩⟩⟩⟩⟩⟩⟩⟩⟩
theorem lw_p32 : lw_okq (⟨"FeederControlModel", "regulates", "(Z)Z"⟩, 12) := ⟨⟨by decide +kernel, by decide +kernel⟩, List.mem_of_getElem? (i := 646) (by decide +kernel), List.mem_of_getElem? (i := 814) (by decide +kernel), List.mem_of_getElem? (i := 815) (by decide +kernel)⟩
theorem lw_p33 : lw_okq (⟨"FeederControlModel", "wants", "(I)I"⟩, 12) := ⟨⟨by decide +kernel, by decide +kernel⟩, List.mem_of_getElem? (i := 646) (by decide +kernel), List.mem_of_getElem? (i := 818) (by decide +kernel), List.mem_of_getElem? (i := 819) (by decide +kernel)⟩
theorem lw_p34 : lw_okq (⟨"FeederControlModel", "goes", "(II)V"⟩, 12) := ⟨⟨by decide +kernel, by decide +kernel⟩, List.mem_of_getElem? (i := 646) (by decide +kernel), List.mem_of_getElem? (i := 822) (by decide +kernel), List.mem_of_getElem? (i := 823) (by decide +kernel)⟩
theorem lw_p35 : lw_okq (⟨"FeederControlModel", "outside", "()I"⟩, 12) := ⟨⟨by decide +kernel, by decide +kernel⟩, List.mem_of_getElem? (i := 646) (by decide +kernel), List.mem_of_getElem? (i := 826) (by decide +kernel), List.mem_of_getElem? (i := 827) (by decide +kernel)⟩
theorem lw_p36 : lw_okq (⟨"FeederControlModel", "told", "(IIII)I"⟩, 12) := ⟨⟨by decide +kernel, by decide +kernel⟩, List.mem_of_getElem? (i := 646) (by decide +kernel), List.mem_of_getElem? (i := 850) (by decide +kernel), List.mem_of_getElem? (i := 851) (by decide +kernel)⟩
theorem lw_p37 : lw_okq (⟨"FeederControlModel", "lacksPlan", "(I)I"⟩, 12) := ⟨⟨by decide +kernel, by decide +kernel⟩, List.mem_of_getElem? (i := 646) (by decide +kernel), List.mem_of_getElem? (i := 878) (by decide +kernel), List.mem_of_getElem? (i := 879) (by decide +kernel)⟩
theorem lw_p38 : lw_okq (⟨"FeederControlModel", "plans", "(I)Z"⟩, 12) := ⟨⟨by decide +kernel, by decide +kernel⟩, List.mem_of_getElem? (i := 646) (by decide +kernel), List.mem_of_getElem? (i := 882) (by decide +kernel), List.mem_of_getElem? (i := 883) (by decide +kernel)⟩
theorem lw_p39 : lw_okq (⟨"FeederControlModel", "best", "(II)I"⟩, 12) := ⟨⟨by decide +kernel, by decide +kernel⟩, List.mem_of_getElem? (i := 646) (by decide +kernel), List.mem_of_getElem? (i := 886) (by decide +kernel), List.mem_of_getElem? (i := 887) (by decide +kernel)⟩
def lw_privs_3 : List (MethodName × Nat) := [(⟨"FeederControlModel", "regulates", "(Z)Z"⟩, 12), (⟨"FeederControlModel", "wants", "(I)I"⟩, 12), (⟨"FeederControlModel", "goes", "(II)V"⟩, 12), (⟨"FeederControlModel", "outside", "()I"⟩, 12), (⟨"FeederControlModel", "told", "(IIII)I"⟩, 12), (⟨"FeederControlModel", "lacksPlan", "(I)I"⟩, 12), (⟨"FeederControlModel", "plans", "(I)Z"⟩, 12), (⟨"FeederControlModel", "best", "(II)I"⟩, 12)]
theorem lw_r3 : ∀ q ∈ lw_privs_3, lw_okq q := List.forall_mem_cons.mpr ⟨lw_p32, List.forall_mem_cons.mpr ⟨lw_p33, List.forall_mem_cons.mpr ⟨lw_p34, List.forall_mem_cons.mpr ⟨lw_p35, List.forall_mem_cons.mpr ⟨lw_p36, List.forall_mem_cons.mpr ⟨lw_p37, List.forall_mem_cons.mpr ⟨lw_p38, List.forall_mem_cons.mpr ⟨lw_p39, fun _ h => absurd h List.not_mem_nil⟩⟩⟩⟩⟩⟩⟩⟩
def lw_privs : List (MethodName × Nat) := lw_privs_1 ++ (lw_privs_2 ++ (lw_privs_3))
def lw_tbl : List Cond := k2_sels lw_privs ++ tables_1
theorem lw_privs_ok : ∀ q ∈ lw_privs, lw_okq q := by
  show ∀ q ∈ lw_privs_1 ++ (lw_privs_2 ++ (lw_privs_3)), lw_okq q
  exact List.forall_mem_append.mpr ⟨lw_r1, List.forall_mem_append.mpr ⟨lw_r2, lw_r3⟩⟩
def RX0 : String := "FeederControl$Bank"
def TX0 : u_T := fun k => match k with
  | 0 => ("FeederControl$Bank", "present", "Z", false)
  | 1 => ("FeederControl$Bank", "size", "I", false)
  | 2 => ("FeederControl$Bank", "mode", "I", false)
  | 3 => ("FeederControl$Bank", "a", "I", false)
  | 4 => ("FeederControl$Bank", "b", "I", false)
  | 5 => ("FeederControl$Bank", "delay", "I", false)
  | 6 => ("FeederControl$Bank", "on", "Z", false)
  | _ => ("FeederControl$Bank", "timer", "I", false)
def tyX0 : Nat → FieldType := fun k => match k with
  | 0 => .boolean
  | 1 => .int
  | 2 => .int
  | 3 => .int
  | 4 => .int
  | 5 => .int
  | 6 => .boolean
  | _ => .int
abbrev wsX00 : List Cond := u_ws RX0 TX0 8
theorem nmX0 : ∀ a, a < 8 → ∀ b, b < 8 → a ≠ b → (TX0 a).2.1 ≠ (TX0 b).2.1 := by decide +kernel
theorem tyX0_ok : ∀ k, k < 8 → parseFieldDescriptor (TX0 k).2.2.1 = some (tyX0 k) := by decide +kernel
abbrev cX0_init : ByteArray := prog_2_method_1_code
def yX0_init : MethodName := ⟨RX0, "<init>", "()V"⟩
abbrev cX0_copyFrom : ByteArray := prog_2_method_2_code
def yX0_copyFrom : MethodName := ⟨RX0, "copyFrom", "(LFeederControl$Bank;)V"⟩
abbrev cX0_isByTime : ByteArray := prog_2_method_3_code
def yX0_isByTime : MethodName := ⟨RX0, "isByTime", "()Z"⟩
abbrev cX0_isByFlow : ByteArray := prog_2_method_4_code
def yX0_isByFlow : MethodName := ⟨RX0, "isByFlow", "()Z"⟩
abbrev cX0_isOnByTime : ByteArray := prog_2_method_5_code
def yX0_isOnByTime : MethodName := ⟨RX0, "isOnByTime", "(I)Z"⟩
abbrev cX0_supply : ByteArray := prog_2_method_6_code
def yX0_supply : MethodName := ⟨RX0, "supply", "(IZ)I"⟩
abbrev cX0_countMinute : ByteArray := prog_2_method_7_code
def yX0_countMinute : MethodName := ⟨RX0, "countMinute", "(I)V"⟩
abbrev cX0_isDue : ByteArray := prog_2_method_8_code
def yX0_isDue : MethodName := ⟨RX0, "isDue", "()Z"⟩
abbrev cX0_change : ByteArray := prog_2_method_9_code
def yX0_change : MethodName := ⟨RX0, "change", "()V"⟩
def RX1 : String := "FeederControl$Feeder"
def TX1 : u_T := fun k => match k with
  | 0 => ("FeederControl$Feeder", "minutes", "I", false)
  | 1 => ("FeederControl$Feeder", "source", "I", false)
  | 2 => ("FeederControl$Feeder", "count", "I", false)
  | 3 => ("FeederControl$Feeder", "violations", "I", false)
  | 4 => ("FeederControl$Feeder", "factors", "[I", true)
  | _ => ("FeederControl$Feeder", "nodes", "[LFeederControl$Node;", true)
def tyX1 : Nat → FieldType := fun k => match k with
  | 0 => .int
  | 1 => .int
  | 2 => .int
  | 3 => .int
  | 4 => .array .int
  | _ => .array (.object "FeederControl$Node")
abbrev wsX10 : List Cond := u_ws RX1 TX1 6
theorem nmX1 : ∀ a, a < 6 → ∀ b, b < 6 → a ≠ b → (TX1 a).2.1 ≠ (TX1 b).2.1 := by decide +kernel
theorem tyX1_ok : ∀ k, k < 6 → parseFieldDescriptor (TX1 k).2.2.1 = some (tyX1 k) := by decide +kernel
abbrev cX1_init : ByteArray := prog_3_method_1_code
def yX1_init : MethodName := ⟨RX1, "<init>", "()V"⟩
abbrev cX1_copyFrom : ByteArray := prog_3_method_2_code
def yX1_copyFrom : MethodName := ⟨RX1, "copyFrom", "(LFeederControl$Feeder;)V"⟩
abbrev cX1_hour : ByteArray := prog_3_method_3_code
def yX1_hour : MethodName := ⟨RX1, "hour", "()I"⟩
abbrev cX1_releaseLocks : ByteArray := prog_3_method_4_code
def yX1_releaseLocks : MethodName := ⟨RX1, "releaseLocks", "()V"⟩
abbrev cX1_switchBanksByTime : ByteArray := prog_3_method_5_code
def yX1_switchBanksByTime : MethodName := ⟨RX1, "switchBanksByTime", "()V"⟩
abbrev cX1_switchBankByFlow : ByteArray := prog_3_method_6_code
def yX1_switchBankByFlow : MethodName := ⟨RX1, "switchBankByFlow", "(LFeederControl$Flows;)Z"⟩
abbrev cX1_moveRegulators : ByteArray := prog_3_method_7_code
def yX1_moveRegulators : MethodName := ⟨RX1, "moveRegulators", "(LFeederControl$Flows;Z)Z"⟩
def RX2 : String := "FeederControl$Flows"
def TX2 : u_T := fun k => match k with
  | 0 => ("FeederControl$Flows", "active", "[I", true)
  | 1 => ("FeederControl$Flows", "reactive", "[I", true)
  | _ => ("FeederControl$Flows", "voltage", "[I", true)
def tyX2 : Nat → FieldType := fun k => match k with
  | 0 => .array .int
  | 1 => .array .int
  | _ => .array .int
abbrev wsX20 : List Cond := u_ws RX2 TX2 3
theorem nmX2 : ∀ a, a < 3 → ∀ b, b < 3 → a ≠ b → (TX2 a).2.1 ≠ (TX2 b).2.1 := by decide +kernel
theorem tyX2_ok : ∀ k, k < 3 → parseFieldDescriptor (TX2 k).2.2.1 = some (tyX2 k) := by decide +kernel
abbrev cX2_init : ByteArray := prog_4_method_1_code
def yX2_init : MethodName := ⟨RX2, "<init>", "()V"⟩
abbrev cX2_solve : ByteArray := prog_4_method_2_code
def yX2_solve : MethodName := ⟨RX2, "solve", "(LFeederControl$Feeder;)V"⟩
abbrev cX2_sumLoads : ByteArray := prog_4_method_3_code
def yX2_sumLoads : MethodName := ⟨RX2, "sumLoads", "(LFeederControl$Feeder;IZ)V"⟩
abbrev cX2_findVoltages : ByteArray := prog_4_method_4_code
def yX2_findVoltages : MethodName := ⟨RX2, "findVoltages", "(LFeederControl$Feeder;II)V"⟩
abbrev cX2_countBadNodes : ByteArray := prog_4_method_5_code
def yX2_countBadNodes : MethodName := ⟨RX2, "countBadNodes", "(I)I"⟩
def RX3 : String := "FeederControl$History"
def TX3 : u_T := fun k => match k with
  | 0 => ("FeederControl$History", "saved", "[LFeederControl$Feeder;", true)
  | _ => ("FeederControl$History", "count", "I", false)
def tyX3 : Nat → FieldType := fun k => match k with
  | 0 => .array (.object "FeederControl$Feeder")
  | _ => .int
abbrev wsX30 : List Cond := u_ws RX3 TX3 2
theorem nmX3 : ∀ a, a < 2 → ∀ b, b < 2 → a ≠ b → (TX3 a).2.1 ≠ (TX3 b).2.1 := by decide +kernel
theorem tyX3_ok : ∀ k, k < 2 → parseFieldDescriptor (TX3 k).2.2.1 = some (tyX3 k) := by decide +kernel
abbrev cX3_init : ByteArray := prog_5_method_1_code
def yX3_init : MethodName := ⟨RX3, "<init>", "()V"⟩
abbrev cX3_save : ByteArray := prog_5_method_2_code
def yX3_save : MethodName := ⟨RX3, "save", "(LFeederControl$Feeder;)V"⟩
abbrev cX3_dropOldest : ByteArray := prog_5_method_3_code
def yX3_dropOldest : MethodName := ⟨RX3, "dropOldest", "()V"⟩
abbrev cX3_restore : ByteArray := prog_5_method_4_code
def yX3_restore : MethodName := ⟨RX3, "restore", "(LFeederControl$Feeder;)V"⟩
def RX4 : String := "FeederControl$Node"
def TX4 : u_T := fun k => match k with
  | 0 => ("FeederControl$Node", "r", "I", false)
  | 1 => ("FeederControl$Node", "x", "I", false)
  | 2 => ("FeederControl$Node", "p", "I", false)
  | 3 => ("FeederControl$Node", "q", "I", false)
  | 4 => ("FeederControl$Node", "regulator", "LFeederControl$Regulator;", true)
  | _ => ("FeederControl$Node", "bank", "LFeederControl$Bank;", true)
def tyX4 : Nat → FieldType := fun k => match k with
  | 0 => .int
  | 1 => .int
  | 2 => .int
  | 3 => .int
  | 4 => .object "FeederControl$Regulator"
  | _ => .object "FeederControl$Bank"
abbrev wsX40 : List Cond := u_ws RX4 TX4 6
theorem nmX4 : ∀ a, a < 6 → ∀ b, b < 6 → a ≠ b → (TX4 a).2.1 ≠ (TX4 b).2.1 := by decide +kernel
theorem tyX4_ok : ∀ k, k < 6 → parseFieldDescriptor (TX4 k).2.2.1 = some (tyX4 k) := by decide +kernel
abbrev cX4_init : ByteArray := prog_6_method_1_code
def yX4_init : MethodName := ⟨RX4, "<init>", "()V"⟩
abbrev cX4_copyFrom : ByteArray := prog_6_method_2_code
def yX4_copyFrom : MethodName := ⟨RX4, "copyFrom", "(LFeederControl$Node;)V"⟩
def RX5 : String := "FeederControl$Planner"
def TX5 : u_T := fun k => match k with
  | 0 => ("FeederControl$Planner", "flows", "LFeederControl$Flows;", true)
  | 1 => ("FeederControl$Planner", "stepsAfter", "[[I", true)
  | 2 => ("FeederControl$Planner", "stepsFrom", "[I", true)
  | 3 => ("FeederControl$Planner", "taps", "[I", true)
  | _ => ("FeederControl$Planner", "steps", "I", false)
def tyX5 : Nat → FieldType := fun k => match k with
  | 0 => .object "FeederControl$Flows"
  | 1 => .array (.array .int)
  | 2 => .array .int
  | 3 => .array .int
  | _ => .int
abbrev wsX50 : List Cond := u_ws RX5 TX5 5
theorem nmX5 : ∀ a, a < 5 → ∀ b, b < 5 → a ≠ b → (TX5 a).2.1 ≠ (TX5 b).2.1 := by decide +kernel
theorem tyX5_ok : ∀ k, k < 5 → parseFieldDescriptor (TX5 k).2.2.1 = some (tyX5 k) := by decide +kernel
abbrev cX5_init : ByteArray := prog_7_method_1_code
def yX5_init : MethodName := ⟨RX5, "<init>", "()V"⟩
abbrev cX5_makePlan : ByteArray := prog_7_method_2_code
def yX5_makePlan : MethodName := ⟨RX5, "makePlan", "(LFeederControl$Feeder;I)Z"⟩
abbrev cX5_countStepsAfter : ByteArray := prog_7_method_3_code
def yX5_countStepsAfter : MethodName := ⟨RX5, "countStepsAfter", "(LFeederControl$Feeder;II)V"⟩
abbrev cX5_countStepsFrom : ByteArray := prog_7_method_4_code
def yX5_countStepsFrom : MethodName := ⟨RX5, "countStepsFrom", "(I)V"⟩
abbrev cX5_chooseTaps : ByteArray := prog_7_method_5_code
def yX5_chooseTaps : MethodName := ⟨RX5, "chooseTaps", "(I)Z"⟩
abbrev cX5_bestPlace : ByteArray := prog_7_method_6_code
def yX5_bestPlace : MethodName := ⟨RX5, "bestPlace", "(II)I"⟩
def RX6 : String := "FeederControl$ProfileText"
def TX6 : u_T := fun k => match k with
  | 0 => ("FeederControl$ProfileText", "bytes", "[B", true)
  | 1 => ("FeederControl$ProfileText", "length", "I", false)
  | 2 => ("FeederControl$ProfileText", "at", "I", false)
  | _ => ("FeederControl$ProfileText", "fault", "I", false)
def tyX6 : Nat → FieldType := fun k => match k with
  | 0 => .array .byte
  | 1 => .int
  | 2 => .int
  | _ => .int
abbrev wsX60 : List Cond := u_ws RX6 TX6 4
theorem nmX6 : ∀ a, a < 4 → ∀ b, b < 4 → a ≠ b → (TX6 a).2.1 ≠ (TX6 b).2.1 := by decide +kernel
theorem tyX6_ok : ∀ k, k < 4 → parseFieldDescriptor (TX6 k).2.2.1 = some (tyX6 k) := by decide +kernel
abbrev cX6_init : ByteArray := prog_8_method_1_code
def yX6_init : MethodName := ⟨RX6, "<init>", "()V"⟩
abbrev cX6_readItems : ByteArray := prog_8_method_2_code
def yX6_readItems : MethodName := ⟨RX6, "readItems", "([I)I"⟩
abbrev cX6_readItem : ByteArray := prog_8_method_3_code
def yX6_readItem : MethodName := ⟨RX6, "readItem", "([I)V"⟩
abbrev cX6_readNumber : ByteArray := prog_8_method_4_code
def yX6_readNumber : MethodName := ⟨RX6, "readNumber", "(II)I"⟩
abbrev cX6_isNext : ByteArray := prog_8_method_5_code
def yX6_isNext : MethodName := ⟨RX6, "isNext", "(C)Z"⟩
abbrev cX6_expect : ByteArray := prog_8_method_6_code
def yX6_expect : MethodName := ⟨RX6, "expect", "(C)V"⟩
abbrev cX6_skipSpaces : ByteArray := prog_8_method_7_code
def yX6_skipSpaces : MethodName := ⟨RX6, "skipSpaces", "()V"⟩
def RX7 : String := "FeederControl$Regulator"
def TX7 : u_T := fun k => match k with
  | 0 => ("FeederControl$Regulator", "present", "Z", false)
  | 1 => ("FeederControl$Regulator", "center", "I", false)
  | 2 => ("FeederControl$Regulator", "band", "I", false)
  | 3 => ("FeederControl$Regulator", "delay", "I", false)
  | 4 => ("FeederControl$Regulator", "stopsOnReverse", "Z", false)
  | 5 => ("FeederControl$Regulator", "tap", "I", false)
  | 6 => ("FeederControl$Regulator", "timer", "I", false)
  | 7 => ("FeederControl$Regulator", "steps", "I", false)
  | 8 => ("FeederControl$Regulator", "locked", "Z", false)
  | 9 => ("FeederControl$Regulator", "wanted", "I", false)
  | 10 => ("FeederControl$Regulator", "latest", "I", false)
  | _ => ("FeederControl$Regulator", "oppositeSteps", "I", false)
def tyX7 : Nat → FieldType := fun k => match k with
  | 0 => .boolean
  | 1 => .int
  | 2 => .int
  | 3 => .int
  | 4 => .boolean
  | 5 => .int
  | 6 => .int
  | 7 => .int
  | 8 => .boolean
  | 9 => .int
  | 10 => .int
  | _ => .int
abbrev wsX70 : List Cond := u_ws RX7 TX7 12
theorem nmX7 : ∀ a, a < 12 → ∀ b, b < 12 → a ≠ b → (TX7 a).2.1 ≠ (TX7 b).2.1 := by decide +kernel
theorem tyX7_ok : ∀ k, k < 12 → parseFieldDescriptor (TX7 k).2.2.1 = some (tyX7 k) := by decide +kernel
abbrev cX7_init : ByteArray := prog_9_method_1_code
def yX7_init : MethodName := ⟨RX7, "<init>", "()V"⟩
abbrev cX7_copyFrom : ByteArray := prog_9_method_2_code
def yX7_copyFrom : MethodName := ⟨RX7, "copyFrom", "(LFeederControl$Regulator;)V"⟩
abbrev cX7_release : ByteArray := prog_9_method_3_code
def yX7_release : MethodName := ⟨RX7, "release", "()V"⟩
abbrev cX7_wantedDirection : ByteArray := prog_9_method_4_code
def yX7_wantedDirection : MethodName := ⟨RX7, "wantedDirection", "(II)I"⟩
abbrev cX7_countMinute : ByteArray := prog_9_method_5_code
def yX7_countMinute : MethodName := ⟨RX7, "countMinute", "(I)V"⟩
abbrev cX7_isDue : ByteArray := prog_9_method_6_code
def yX7_isDue : MethodName := ⟨RX7, "isDue", "()Z"⟩
abbrev cX7_makeStep : ByteArray := prog_9_method_7_code
def yX7_makeStep : MethodName := ⟨RX7, "makeStep", "()V"⟩
def RX8 : String := "FeederControl"
def TX8 : u_T := fun k => match k with
  | 0 => ("FeederControl", "feeder", "LFeederControl$Feeder;", true)
  | 1 => ("FeederControl", "flows", "LFeederControl$Flows;", true)
  | 2 => ("FeederControl", "planner", "LFeederControl$Planner;", true)
  | 3 => ("FeederControl", "text", "LFeederControl$ProfileText;", true)
  | 4 => ("FeederControl", "history", "LFeederControl$History;", true)
  | 5 => ("FeederControl", "newFactors", "[I", true)
  | _ => ("FeederControl", "errorCounts", "[I", true)
def tyX8 : Nat → FieldType := fun k => match k with
  | 0 => .object "FeederControl$Feeder"
  | 1 => .object "FeederControl$Flows"
  | 2 => .object "FeederControl$Planner"
  | 3 => .object "FeederControl$ProfileText"
  | 4 => .object "FeederControl$History"
  | 5 => .array .int
  | _ => .array .int
abbrev wsX80 : List Cond := u_ws RX8 TX8 7
theorem nmX8 : ∀ a, a < 7 → ∀ b, b < 7 → a ≠ b → (TX8 a).2.1 ≠ (TX8 b).2.1 := by decide +kernel
theorem tyX8_ok : ∀ k, k < 7 → parseFieldDescriptor (TX8 k).2.2.1 = some (tyX8 k) := by decide +kernel
abbrev cX8_init : ByteArray := prog_1_method_1_code
def yX8_init : MethodName := ⟨RX8, "<init>", "()V"⟩
abbrev cX8_setSource : ByteArray := prog_1_method_2_code
def yX8_setSource : MethodName := ⟨RX8, "setSource", "(I)I"⟩
abbrev cX8_addNode : ByteArray := prog_1_method_3_code
def yX8_addNode : MethodName := ⟨RX8, "addNode", "(IIII)I"⟩
abbrev cX8_setLoad : ByteArray := prog_1_method_4_code
def yX8_setLoad : MethodName := ⟨RX8, "setLoad", "(III)I"⟩
abbrev cX8_setFactor : ByteArray := prog_1_method_5_code
def yX8_setFactor : MethodName := ⟨RX8, "setFactor", "(II)I"⟩
abbrev cX8_append : ByteArray := prog_1_method_6_code
def yX8_append : MethodName := ⟨RX8, "append", "(I)I"⟩
abbrev cX8_clearText : ByteArray := prog_1_method_7_code
def yX8_clearText : MethodName := ⟨RX8, "clearText", "()I"⟩
abbrev cX8_parseProfile : ByteArray := prog_1_method_8_code
def yX8_parseProfile : MethodName := ⟨RX8, "parseProfile", "()I"⟩
abbrev cX8_addRegulator : ByteArray := prog_1_method_9_code
def yX8_addRegulator : MethodName := ⟨RX8, "addRegulator", "(IIIII)I"⟩
abbrev cX8_setTap : ByteArray := prog_1_method_10_code
def yX8_setTap : MethodName := ⟨RX8, "setTap", "(II)I"⟩
abbrev cX8_addBank : ByteArray := prog_1_method_11_code
def yX8_addBank : MethodName := ⟨RX8, "addBank", "(IIIIII)I"⟩
abbrev cX8_switchBank : ByteArray := prog_1_method_12_code
def yX8_switchBank : MethodName := ⟨RX8, "switchBank", "(II)I"⟩
abbrev cX8_run : ByteArray := prog_1_method_13_code
def yX8_run : MethodName := ⟨RX8, "run", "(I)I"⟩
abbrev cX8_minute : ByteArray := prog_1_method_14_code
def yX8_minute : MethodName := ⟨RX8, "minute", "()I"⟩
abbrev cX8_passMinute : ByteArray := prog_1_method_15_code
def yX8_passMinute : MethodName := ⟨RX8, "passMinute", "()Z"⟩
abbrev cX8_voltage : ByteArray := prog_1_method_16_code
def yX8_voltage : MethodName := ⟨RX8, "voltage", "(I)I"⟩
abbrev cX8_activeFlow : ByteArray := prog_1_method_17_code
def yX8_activeFlow : MethodName := ⟨RX8, "activeFlow", "(I)I"⟩
abbrev cX8_reactiveFlow : ByteArray := prog_1_method_18_code
def yX8_reactiveFlow : MethodName := ⟨RX8, "reactiveFlow", "(I)I"⟩
abbrev cX8_tap : ByteArray := prog_1_method_19_code
def yX8_tap : MethodName := ⟨RX8, "tap", "(I)I"⟩
abbrev cX8_timer : ByteArray := prog_1_method_20_code
def yX8_timer : MethodName := ⟨RX8, "timer", "(I)I"⟩
abbrev cX8_isLocked : ByteArray := prog_1_method_21_code
def yX8_isLocked : MethodName := ⟨RX8, "isLocked", "(I)I"⟩
abbrev cX8_steps : ByteArray := prog_1_method_22_code
def yX8_steps : MethodName := ⟨RX8, "steps", "(I)I"⟩
abbrev cX8_isOn : ByteArray := prog_1_method_23_code
def yX8_isOn : MethodName := ⟨RX8, "isOn", "(I)I"⟩
abbrev cX8_violations : ByteArray := prog_1_method_24_code
def yX8_violations : MethodName := ⟨RX8, "violations", "()I"⟩
abbrev cX8_planSteps : ByteArray := prog_1_method_25_code
def yX8_planSteps : MethodName := ⟨RX8, "planSteps", "(I)I"⟩
abbrev cX8_planTap : ByteArray := prog_1_method_26_code
def yX8_planTap : MethodName := ⟨RX8, "planTap", "(II)I"⟩
abbrev cX8_undo : ByteArray := prog_1_method_27_code
def yX8_undo : MethodName := ⟨RX8, "undo", "()I"⟩
abbrev cX8_errorCount : ByteArray := prog_1_method_28_code
def yX8_errorCount : MethodName := ⟨RX8, "errorCount", "(I)I"⟩
abbrev cX8_digest : ByteArray := prog_1_method_29_code
def yX8_digest : MethodName := ⟨RX8, "digest", "()J"⟩
abbrev cX8_mixRegulator : ByteArray := prog_1_method_30_code
def yX8_mixRegulator : MethodName := ⟨RX8, "mixRegulator", "(JLFeederControl$Regulator;)J"⟩
abbrev cX8_mixBank : ByteArray := prog_1_method_31_code
def yX8_mixBank : MethodName := ⟨RX8, "mixBank", "(JLFeederControl$Bank;)J"⟩
abbrev cX8_mix : ByteArray := prog_1_method_32_code
def yX8_mix : MethodName := ⟨RX8, "mix", "(JI)J"⟩
abbrev cX8_isWithin : ByteArray := prog_1_method_33_code
def yX8_isWithin : MethodName := ⟨RX8, "isWithin", "(III)Z"⟩
abbrev cX8_isHour : ByteArray := prog_1_method_34_code
def yX8_isHour : MethodName := ⟨RX8, "isHour", "(I)Z"⟩
abbrev cX8_isLoad : ByteArray := prog_1_method_35_code
def yX8_isLoad : MethodName := ⟨RX8, "isLoad", "(II)Z"⟩
abbrev cX8_areBankSettings : ByteArray := prog_1_method_36_code
def yX8_areBankSettings : MethodName := ⟨RX8, "areBankSettings", "(III)Z"⟩
abbrev cX8_bit : ByteArray := prog_1_method_37_code
def yX8_bit : MethodName := ⟨RX8, "bit", "(Z)I"⟩
abbrev cX8_hasNode : ByteArray := prog_1_method_38_code
def yX8_hasNode : MethodName := ⟨RX8, "hasNode", "(I)Z"⟩
abbrev cX8_regulatorFault : ByteArray := prog_1_method_39_code
def yX8_regulatorFault : MethodName := ⟨RX8, "regulatorFault", "(I)I"⟩
abbrev cX8_bankFault : ByteArray := prog_1_method_40_code
def yX8_bankFault : MethodName := ⟨RX8, "bankFault", "(I)I"⟩
abbrev cX8_isErrorCode : ByteArray := prog_1_method_41_code
def yX8_isErrorCode : MethodName := ⟨RX8, "isErrorCode", "(I)Z"⟩
abbrev cX8_refuse : ByteArray := prog_1_method_42_code
def yX8_refuse : MethodName := ⟨RX8, "refuse", "(I)I"⟩
def RX9 : String := "FeederControlModel"
def TX9 : u_T := fun k => match k with
  | 0 => ("FeederControlModel", "w", "[I", true)
  | 1 => ("FeederControlModel", "past", "[I", true)
  | 2 => ("FeederControlModel", "saved", "I", false)
  | 3 => ("FeederControlModel", "text", "[I", true)
  | 4 => ("FeederControlModel", "length", "I", false)
  | 5 => ("FeederControlModel", "errors", "[I", true)
  | 6 => ("FeederControlModel", "active", "[I", true)
  | 7 => ("FeederControlModel", "reactive", "[I", true)
  | 8 => ("FeederControlModel", "volts", "[I", true)
  | 9 => ("FeederControlModel", "at", "I", false)
  | 10 => ("FeederControlModel", "read", "[I", true)
  | _ => ("FeederControlModel", "fewest", "[I", true)
def tyX9 : Nat → FieldType := fun k => match k with
  | 0 => .array .int
  | 1 => .array .int
  | 2 => .int
  | 3 => .array .int
  | 4 => .int
  | 5 => .array .int
  | 6 => .array .int
  | 7 => .array .int
  | 8 => .array .int
  | 9 => .int
  | 10 => .array .int
  | _ => .array .int
abbrev wsX90 : List Cond := u_ws RX9 TX9 12
theorem nmX9 : ∀ a, a < 12 → ∀ b, b < 12 → a ≠ b → (TX9 a).2.1 ≠ (TX9 b).2.1 := by decide +kernel
theorem tyX9_ok : ∀ k, k < 12 → parseFieldDescriptor (TX9 k).2.2.1 = some (tyX9 k) := by decide +kernel
abbrev cX9_init : ByteArray := prog_11_method_1_code
def yX9_init : MethodName := ⟨RX9, "<init>", "()V"⟩
abbrev cX9_in : ByteArray := prog_11_method_3_code
def yX9_in : MethodName := ⟨RX9, "in", "(III)Z"⟩
abbrev cX9_error : ByteArray := prog_11_method_4_code
def yX9_error : MethodName := ⟨RX9, "error", "(I)I"⟩
abbrev cX9_isNode : ByteArray := prog_11_method_5_code
def yX9_isNode : MethodName := ⟨RX9, "isNode", "(I)Z"⟩
abbrev cX9_spot : ByteArray := prog_11_method_6_code
def yX9_spot : MethodName := ⟨RX9, "spot", "(II)I"⟩
abbrev cX9_of : ByteArray := prog_11_method_7_code
def yX9_of : MethodName := ⟨RX9, "of", "(II)I"⟩
abbrev cX9_put : ByteArray := prog_11_method_8_code
def yX9_put : MethodName := ⟨RX9, "put", "(III)V"⟩
abbrev cX9_save : ByteArray := prog_11_method_9_code
def yX9_save : MethodName := ⟨RX9, "save", "()V"⟩
abbrev cX9_setSource : ByteArray := prog_11_method_10_code
def yX9_setSource : MethodName := ⟨RX9, "setSource", "(I)I"⟩
abbrev cX9_isLoad : ByteArray := prog_11_method_11_code
def yX9_isLoad : MethodName := ⟨RX9, "isLoad", "(II)Z"⟩
abbrev cX9_addNode : ByteArray := prog_11_method_12_code
def yX9_addNode : MethodName := ⟨RX9, "addNode", "(IIII)I"⟩
abbrev cX9_setLoad : ByteArray := prog_11_method_13_code
def yX9_setLoad : MethodName := ⟨RX9, "setLoad", "(III)I"⟩
abbrev cX9_setFactor : ByteArray := prog_11_method_14_code
def yX9_setFactor : MethodName := ⟨RX9, "setFactor", "(II)I"⟩
abbrev cX9_append : ByteArray := prog_11_method_15_code
def yX9_append : MethodName := ⟨RX9, "append", "(I)I"⟩
abbrev cX9_clearText : ByteArray := prog_11_method_16_code
def yX9_clearText : MethodName := ⟨RX9, "clearText", "()I"⟩
abbrev cX9_next : ByteArray := prog_11_method_17_code
def yX9_next : MethodName := ⟨RX9, "next", "()I"⟩
abbrev cX9_takes : ByteArray := prog_11_method_18_code
def yX9_takes : MethodName := ⟨RX9, "takes", "(I)Z"⟩
abbrev cX9_number : ByteArray := prog_11_method_19_code
def yX9_number : MethodName := ⟨RX9, "number", "(II)I"⟩
abbrev cX9_readsItem : ByteArray := prog_11_method_20_code
def yX9_readsItem : MethodName := ⟨RX9, "readsItem", "()Z"⟩
abbrev cX9_parseProfile : ByteArray := prog_11_method_21_code
def yX9_parseProfile : MethodName := ⟨RX9, "parseProfile", "()I"⟩
abbrev cX9_addRegulator : ByteArray := prog_11_method_22_code
def yX9_addRegulator : MethodName := ⟨RX9, "addRegulator", "(IIIII)I"⟩
abbrev cX9_lacks : ByteArray := prog_11_method_23_code
def yX9_lacks : MethodName := ⟨RX9, "lacks", "(II)I"⟩
abbrev cX9_setTap : ByteArray := prog_11_method_24_code
def yX9_setTap : MethodName := ⟨RX9, "setTap", "(II)I"⟩
abbrev cX9_addBank : ByteArray := prog_11_method_25_code
def yX9_addBank : MethodName := ⟨RX9, "addBank", "(IIIIII)I"⟩
abbrev cX9_switchBank : ByteArray := prog_11_method_26_code
def yX9_switchBank : MethodName := ⟨RX9, "switchBank", "(II)I"⟩
abbrev cX9_hour : ByteArray := prog_11_method_27_code
def yX9_hour : MethodName := ⟨RX9, "hour", "()I"⟩
abbrev cX9_isTime : ByteArray := prog_11_method_28_code
def yX9_isTime : MethodName := ⟨RX9, "isTime", "(II)Z"⟩
abbrev cX9_compute : ByteArray := prog_11_method_29_code
def yX9_compute : MethodName := ⟨RX9, "compute", "(IZII)V"⟩
abbrev cX9_outside : ByteArray := prog_11_method_30_code
def yX9_outside : MethodName := ⟨RX9, "outside", "()I"⟩
abbrev cX9_computeNow : ByteArray := prog_11_method_31_code
def yX9_computeNow : MethodName := ⟨RX9, "computeNow", "()V"⟩
abbrev cX9_unlocks : ByteArray := prog_11_method_32_code
def yX9_unlocks : MethodName := ⟨RX9, "unlocks", "()V"⟩
abbrev cX9_switches : ByteArray := prog_11_method_33_code
def yX9_switches : MethodName := ⟨RX9, "switches", "()Z"⟩
abbrev cX9_wants : ByteArray := prog_11_method_34_code
def yX9_wants : MethodName := ⟨RX9, "wants", "(I)I"⟩
abbrev cX9_goes : ByteArray := prog_11_method_35_code
def yX9_goes : MethodName := ⟨RX9, "goes", "(II)V"⟩
abbrev cX9_regulates : ByteArray := prog_11_method_36_code
def yX9_regulates : MethodName := ⟨RX9, "regulates", "(Z)Z"⟩
abbrev cX9_passes : ByteArray := prog_11_method_37_code
def yX9_passes : MethodName := ⟨RX9, "passes", "()I"⟩
abbrev cX9_run : ByteArray := prog_11_method_38_code
def yX9_run : MethodName := ⟨RX9, "run", "(I)I"⟩
abbrev cX9_minute : ByteArray := prog_11_method_39_code
def yX9_minute : MethodName := ⟨RX9, "minute", "()I"⟩
abbrev cX9_voltage : ByteArray := prog_11_method_40_code
def yX9_voltage : MethodName := ⟨RX9, "voltage", "(I)I"⟩
abbrev cX9_activeFlow : ByteArray := prog_11_method_41_code
def yX9_activeFlow : MethodName := ⟨RX9, "activeFlow", "(I)I"⟩
abbrev cX9_reactiveFlow : ByteArray := prog_11_method_42_code
def yX9_reactiveFlow : MethodName := ⟨RX9, "reactiveFlow", "(I)I"⟩
abbrev cX9_told : ByteArray := prog_11_method_43_code
def yX9_told : MethodName := ⟨RX9, "told", "(IIII)I"⟩
abbrev cX9_tap : ByteArray := prog_11_method_44_code
def yX9_tap : MethodName := ⟨RX9, "tap", "(I)I"⟩
abbrev cX9_timer : ByteArray := prog_11_method_45_code
def yX9_timer : MethodName := ⟨RX9, "timer", "(I)I"⟩
abbrev cX9_isLocked : ByteArray := prog_11_method_46_code
def yX9_isLocked : MethodName := ⟨RX9, "isLocked", "(I)I"⟩
abbrev cX9_steps : ByteArray := prog_11_method_47_code
def yX9_steps : MethodName := ⟨RX9, "steps", "(I)I"⟩
abbrev cX9_isOn : ByteArray := prog_11_method_48_code
def yX9_isOn : MethodName := ⟨RX9, "isOn", "(I)I"⟩
abbrev cX9_violations : ByteArray := prog_11_method_49_code
def yX9_violations : MethodName := ⟨RX9, "violations", "()I"⟩
abbrev cX9_apart : ByteArray := prog_11_method_50_code
def yX9_apart : MethodName := ⟨RX9, "apart", "(II)I"⟩
abbrev cX9_best : ByteArray := prog_11_method_51_code
def yX9_best : MethodName := ⟨RX9, "best", "(II)I"⟩
abbrev cX9_plans : ByteArray := prog_11_method_52_code
def yX9_plans : MethodName := ⟨RX9, "plans", "(I)Z"⟩
abbrev cX9_lacksPlan : ByteArray := prog_11_method_53_code
def yX9_lacksPlan : MethodName := ⟨RX9, "lacksPlan", "(I)I"⟩
abbrev cX9_planSteps : ByteArray := prog_11_method_54_code
def yX9_planSteps : MethodName := ⟨RX9, "planSteps", "(I)I"⟩
abbrev cX9_planTap : ByteArray := prog_11_method_55_code
def yX9_planTap : MethodName := ⟨RX9, "planTap", "(II)I"⟩
abbrev cX9_undo : ByteArray := prog_11_method_56_code
def yX9_undo : MethodName := ⟨RX9, "undo", "()I"⟩
abbrev cX9_errorCount : ByteArray := prog_11_method_57_code
def yX9_errorCount : MethodName := ⟨RX9, "errorCount", "(I)I"⟩
abbrev cX9_mixed : ByteArray := prog_11_method_58_code
def yX9_mixed : MethodName := ⟨RX9, "mixed", "(JJ)J"⟩
abbrev cX9_digest : ByteArray := prog_11_method_59_code
def yX9_digest : MethodName := ⟨RX9, "digest", "()J"⟩
def RJ9 : String := "java/lang/Math"
abbrev cJ9_floorMod_7cf53 : ByteArray := prog_12_method_50_code
def yJ9_floorMod_7cf53 : MethodName := ⟨RJ9, "floorMod", "(II)I"⟩
abbrev cJ9_abs_0f7a4 : ByteArray := prog_12_method_59_code
def yJ9_abs_0f7a4 : MethodName := ⟨RJ9, "abs", "(I)I"⟩
abbrev cJ9_max_7cf53 : ByteArray := prog_12_method_65_code
def yJ9_max_7cf53 : MethodName := ⟨RJ9, "max", "(II)I"⟩
abbrev cJ9_min_7cf53 : ByteArray := prog_12_method_69_code
def yJ9_min_7cf53 : MethodName := ⟨RJ9, "min", "(II)I"⟩
abbrev vwCl : List vw_C := [(RX0, TX0, 8), (RX1, TX1, 6), (RX2, TX2, 3), (RX3, TX3, 2), (RX4, TX4, 6), (RX5, TX5, 5), (RX6, TX6, 4), (RX7, TX7, 12), (RX8, TX8, 7), (RX9, TX9, 12)]
set_option maxRecDepth 20000 in
theorem inX0 : ∀ w ∈ u_ws RX0 TX0 8, w ∈ lw_tbl := by decide +kernel
set_option maxRecDepth 20000 in
theorem inX1 : ∀ w ∈ u_ws RX1 TX1 6, w ∈ lw_tbl := by decide +kernel
set_option maxRecDepth 20000 in
theorem inX2 : ∀ w ∈ u_ws RX2 TX2 3, w ∈ lw_tbl := by decide +kernel
set_option maxRecDepth 20000 in
theorem inX3 : ∀ w ∈ u_ws RX3 TX3 2, w ∈ lw_tbl := by decide +kernel
set_option maxRecDepth 20000 in
theorem inX4 : ∀ w ∈ u_ws RX4 TX4 6, w ∈ lw_tbl := by decide +kernel
set_option maxRecDepth 20000 in
theorem inX5 : ∀ w ∈ u_ws RX5 TX5 5, w ∈ lw_tbl := by decide +kernel
set_option maxRecDepth 20000 in
theorem inX6 : ∀ w ∈ u_ws RX6 TX6 4, w ∈ lw_tbl := by decide +kernel
set_option maxRecDepth 20000 in
theorem inX7 : ∀ w ∈ u_ws RX7 TX7 12, w ∈ lw_tbl := by decide +kernel
set_option maxRecDepth 20000 in
theorem inX8 : ∀ w ∈ u_ws RX8 TX8 7, w ∈ lw_tbl := by decide +kernel
set_option maxRecDepth 20000 in
theorem inX9 : ∀ w ∈ u_ws RX9 TX9 12, w ∈ lw_tbl := by decide +kernel
