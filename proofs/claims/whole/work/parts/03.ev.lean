/-! the plain machine: op lists over locals, a stack and a memory of numbered cells; cell 0 is the script -/
abbrev e_Lv : Type := List (Nat × Value)
abbrev e_Mem : Type := Nat × (Nat → Nat → Int32) × (Nat → Nat → Nat)
def e_lk (a : Nat) : e_Lv → Option Value
  | [] => none
  | (i, v) :: t => if i = a then some v else e_lk a t
def e_sto (a : Nat) (v : Value) : e_Lv → e_Lv
  | [] => [(a, v)]
  | (i, w) :: t => if i = a then (a, v) :: t else (i, w) :: e_sto a v t
def e_isL : Value → Bool
  | .long _ => true
  | .double _ => true
  | _ => false
/-- no long stands just below place a -/
def e_ok (a : Nat) : e_Lv → Bool
  | [] => true
  | (i, w) :: t => !(i + 1 == a && e_isL w) && e_ok a t
/-- nothing stands at place a -/
def e_no (a : Nat) : e_Lv → Bool
  | [] => true
  | (i, _) :: t => !(i == a) && e_no a t
def e_rf (x : Nat) : Value := if x = 0 then .null else .ref x
def e_set {α : Type} (m : Nat → Nat → α) (c k : Nat) (v : α) : Nat → Nat → α := fun c' k' => if c' = c ∧ k' = k then v else m c' k'
def e_cpy (m : Nat → Nat → Int32) (q sp d dp n : Nat) : Nat → Nat → Int32 := fun c' k' => if c' = d ∧ dp ≤ k' ∧ k' < dp + n then m q (sp + (k' - dp)) else m c' k'
def e_clr {α : Type} (z : α) (m : Nat → Nat → α) (lo n : Nat) : Nat → Nat → α := fun c' k' => if lo ≤ c' ∧ c' < lo + n then z else m c' k'
def e_in (i : Int32) (n : Nat) : Bool := decide (0 ≤ i.toInt ∧ i.toInt < n)
def e_c1 (cd : ClassFile.Cond) (x : Int32) : Bool := match cd with
  | .eq => decide (x = 0)
  | .ne => decide (¬ x = 0)
  | .lt => decide (x < 0)
  | .ge => decide (0 ≤ x)
  | .gt => decide (0 < x)
  | .le => decide (x ≤ 0)
def e_c2 (cd : ClassFile.Cond) (x y : Int32) : Bool := match cd with
  | .eq => decide (x = y)
  | .ne => decide (¬ x = y)
  | .lt => decide (x < y)
  | .ge => decide (y ≤ x)
  | .gt => decide (y < x)
  | .le => decide (x ≤ y)
abbrev e_St : Type := Option Nat × e_Lv × List Value × e_Mem
/-- one op that is neither a call nor a return -/
def e_one (xs : Nat → Int32) (L : Nat) (op : e_Op) (lv : e_Lv) (st : List Value) (M : e_Mem) : Option e_St := match op with
  | (_, ins, v, a, b, c) => match ins with
    | .nop => some (some a, lv, st, M)
    | .iconst _ => some (none, lv, .int v :: st, M)
    | .bipush _ => some (none, lv, .int v :: st, M)
    | .sipush _ => some (none, lv, .int v :: st, M)
    | .ldc _ => some (none, lv, .int v :: st, M)
    | .ldc2_w _ => some (none, lv, .long v.toInt64 :: st, M)
    | .iload_n _ => match e_lk a lv with
      | some (.int x) => some (none, lv, .int x :: st, M)
      | _ => none
    | .iload _ => match e_lk a lv with
      | some (.int x) => some (none, lv, .int x :: st, M)
      | _ => none
    | .lload_n _ => match e_lk a lv with
      | some (.long x) => some (none, lv, .long x :: st, M)
      | _ => none
    | .aload_n _ => match e_lk a lv with
      | some (.ref x) => some (none, lv, .ref x :: st, M)
      | _ => none
    | .aload _ => match e_lk a lv with
      | some (.ref x) => some (none, lv, .ref x :: st, M)
      | _ => none
    | .istore_n _ => match st with
      | .int x :: r => if e_ok a lv = true then some (none, e_sto a (.int x) lv, r, M) else none
      | _ => none
    | .istore _ => match st with
      | .int x :: r => if e_ok a lv = true then some (none, e_sto a (.int x) lv, r, M) else none
      | _ => none
    | .lstore_n _ => match st with
      | .long x :: r => if (e_ok a lv && e_no (a + 1) lv) = true then some (none, e_sto a (.long x) lv, r, M) else none
      | _ => none
    | .astore_n _ => match st with
      | .ref x :: r => if e_ok a lv = true then some (none, e_sto a (.ref x) lv, r, M) else none
      | _ => none
    | .astore _ => match st with
      | .ref x :: r => if e_ok a lv = true then some (none, e_sto a (.ref x) lv, r, M) else none
      | _ => none
    | .iinc _ _ => match e_lk a lv with
      | some (.int x) => if e_ok a lv = true then some (none, e_sto a (.int (x + v)) lv, st, M) else none
      | _ => none
    | .iadd => match st with
      | .int y :: .int x :: r => some (none, lv, .int (x + y) :: r, M)
      | _ => none
    | .isub => match st with
      | .int y :: .int x :: r => some (none, lv, .int (x - y) :: r, M)
      | _ => none
    | .imul => match st with
      | .int y :: .int x :: r => some (none, lv, .int (x * y) :: r, M)
      | _ => none
    | .iand => match st with
      | .int y :: .int x :: r => some (none, lv, .int (x &&& y) :: r, M)
      | _ => none
    | .ixor => match st with
      | .int y :: .int x :: r => some (none, lv, .int (x ^^^ y) :: r, M)
      | _ => none
    | .idiv => match st with
      | .int y :: .int x :: r => if y = 0 then none else some (none, lv, .int (x / y) :: r, M)
      | _ => none
    | .irem => match st with
      | .int y :: .int x :: r => if y = 0 then none else some (none, lv, .int (x - x / y * y) :: r, M)
      | _ => none
    | .ineg => match st with
      | .int x :: r => some (none, lv, .int (-x) :: r, M)
      | _ => none
    | .i2l => match st with
      | .int x :: r => some (none, lv, .long x.toInt64 :: r, M)
      | _ => none
    | .i2b => match st with
      | .int x :: r => some (none, lv, .int x.toInt8.toInt32 :: r, M)
      | _ => none
    | .ladd => match st with
      | .long y :: .long x :: r => some (none, lv, .long (x + y) :: r, M)
      | _ => none
    | .lmul => match st with
      | .long y :: .long x :: r => some (none, lv, .long (x * y) :: r, M)
      | _ => none
    | .lcmp => match st with
      | .long y :: .long x :: r => some (none, lv, .int (lg_cmp x y) :: r, M)
      | _ => none
    | .dup => match st with
      | .int x :: r => some (none, lv, .int x :: .int x :: r, M)
      | .ref x :: r => some (none, lv, .ref x :: .ref x :: r, M)
      | _ => none
    | .dup2 => match st with
      | .int x :: .ref y :: r => some (none, lv, .int x :: .ref y :: .int x :: .ref y :: r, M)
      | _ => none
    | .pop => match st with
      | .int _ :: r => some (none, lv, r, M)
      | _ => none
    | .goto _ => some (some a, lv, st, M)
    | .ifCond cd _ => match st with
      | .int x :: r => some (if e_c1 cd x = true then some a else none, lv, r, M)
      | _ => none
    | .if_icmp cd _ => match st with
      | .int y :: .int x :: r => some (if e_c2 cd x y = true then some a else none, lv, r, M)
      | _ => none
    | .tableswitch _ lo hi _ => match st with
      | .int x :: r => some (some (if x.toInt < lo ∨ hi < x.toInt then b else a + (x.toInt - lo).toNat), lv, r, M)
      | _ => none
    | .getfield _ => match st with
      | .ref q :: r => if 1 ≤ q ∧ q ≤ M.1 ∧ (e_kd q).1 = a then some (none, lv, (if c = 2 then e_rf (M.2.2 q b) else .int (M.2.1 q b)) :: r, M) else none
      | _ => none
    | .putfield _ => match st with
      | .int x :: .ref q :: r => if (1 ≤ q ∧ q ≤ M.1 ∧ (e_kd q).1 = a) ∧ c < 2 ∧ (c = 1 → x = 0 ∨ x = 1) then some (none, lv, r, (M.1, e_set M.2.1 q b x, M.2.2)) else none
      | .ref z :: .ref q :: r => if (1 ≤ q ∧ q ≤ M.1 ∧ (e_kd q).1 = a) ∧ c = 2 ∧ 1 ≤ z then some (none, lv, r, (M.1, M.2.1, e_set M.2.2 q b z)) else none
      | _ => none
    | .iaload => match st with
      | .int i :: .ref q :: r => if q = 0 then (if e_in i L = true then some (none, lv, .int (xs i.toNatClampNeg) :: r, M) else none)
          else if q ≤ M.1 ∧ (e_kd q).1 = 10 ∧ e_in i (e_kd q).2 = true then some (none, lv, .int (M.2.1 q i.toNatClampNeg) :: r, M) else none
      | _ => none
    | .baload => match st with
      | .int i :: .ref q :: r => if 1 ≤ q ∧ q ≤ M.1 ∧ (e_kd q).1 = 11 ∧ e_in i (e_kd q).2 = true then some (none, lv, .int (M.2.1 q i.toNatClampNeg) :: r, M) else none
      | _ => none
    | .aaload => match st with
      | .int i :: .ref q :: r => if 1 ≤ q ∧ q ≤ M.1 ∧ (12 ≤ (e_kd q).1 ∧ (e_kd q).1 ≤ 14) ∧ e_in i (e_kd q).2 = true then some (none, lv, e_rf (M.2.2 q i.toNatClampNeg) :: r, M) else none
      | _ => none
    | .iastore => match st with
      | .int x :: .int i :: .ref q :: r => if 1 ≤ q ∧ q ≤ M.1 ∧ (e_kd q).1 = 10 ∧ e_in i (e_kd q).2 = true then some (none, lv, r, (M.1, e_set M.2.1 q i.toNatClampNeg x, M.2.2)) else none
      | _ => none
    | .bastore => match st with
      | .int x :: .int i :: .ref q :: r => if 1 ≤ q ∧ q ≤ M.1 ∧ (e_kd q).1 = 11 ∧ e_in i (e_kd q).2 = true then some (none, lv, r, (M.1, e_set M.2.1 q i.toNatClampNeg x.toInt8.toInt32, M.2.2)) else none
      | _ => none
    | .aastore => match st with
      | .ref z :: .int i :: .ref q :: r => if 1 ≤ q ∧ q ≤ M.1 ∧ (1 ≤ z ∧ z ≤ M.1) ∧ ((e_kd q).1 = 12 ∧ (e_kd z).1 = 1 ∨ (e_kd q).1 = 13 ∧ (e_kd z).1 = 4) ∧ e_in i (e_kd q).2 = true then some (none, lv, r, (M.1, M.2.1, e_set M.2.2 q i.toNatClampNeg z)) else none
      | _ => none
    | .arraylength => match st with
      | .ref q :: r => if q = 0 then some (none, lv, .int (Int32.ofNat L) :: r, M) else none
      | _ => none
    | .new _ => if M.1 + 1 ≤ 173 ∧ e_kd (M.1 + 1) = (a, b) then some (none, lv, .ref (M.1 + 1) :: st, (M.1 + 1, e_clr 0 M.2.1 (M.1 + 1) 1, e_clr 0 M.2.2 (M.1 + 1) 1)) else none
    | .newarray _ => match st with
      | .int n :: r => if M.1 + 1 ≤ 173 ∧ e_kd (M.1 + 1) = (a, n.toNatClampNeg) ∧ ¬ n < 0 ∧ n.toNatClampNeg ≤ 1000 then some (none, lv, .ref (M.1 + 1) :: r, (M.1 + 1, e_clr 0 M.2.1 (M.1 + 1) 1, e_clr 0 M.2.2 (M.1 + 1) 1)) else none
      | _ => none
    | .anewarray _ => match st with
      | .int n :: r => if M.1 + 1 ≤ 173 ∧ e_kd (M.1 + 1) = (a, n.toNatClampNeg) ∧ ¬ n < 0 ∧ n.toNatClampNeg ≤ 1000 then some (none, lv, .ref (M.1 + 1) :: r, (M.1 + 1, e_clr 0 M.2.1 (M.1 + 1) 1, e_clr 0 M.2.2 (M.1 + 1) 1)) else none
      | _ => none
    | .multianewarray _ _ => match st with
      | .int k :: .int n :: r => if M.1 + 25 ≤ 173 ∧ e_kd (M.1 + 1) = (14, 24) ∧ n = 24 ∧ k = 33 ∧ ((List.range 24).all fun i => e_kd (M.1 + 2 + i) == (10, 33)) = true then
          some (none, lv, .ref (M.1 + 1) :: r, (M.1 + 25, e_clr 0 M.2.1 (M.1 + 1) 25, fun c' k' => if c' = M.1 + 1 ∧ k' < 24 then M.1 + 2 + k' else e_clr 0 M.2.2 (M.1 + 1) 25 c' k')) else none
      | _ => none
    | .invokespecial _ => match st with
      | [.ref _] => if c = 999 then some (none, lv, [], M) else none
      | _ => none
    | .invokestatic _ => if c = 998 then (match st with
        | [.int n, .int dp, .ref d, .int sp, .ref q] => if (1 ≤ q ∧ q ≤ M.1 ∧ (e_kd q).1 = 10) ∧ (1 ≤ d ∧ d ≤ M.1 ∧ (e_kd d).1 = 10) ∧ (¬ sp < 0 ∧ ¬ dp < 0 ∧ ¬ n < 0) ∧ sp.toNatClampNeg + n.toNatClampNeg ≤ (e_kd q).2 ∧ dp.toNatClampNeg + n.toNatClampNeg ≤ (e_kd d).2 then
            some (none, lv, [], (M.1, e_cpy M.2.1 q sp.toNatClampNeg d dp.toNatClampNeg n.toNatClampNeg, M.2.2)) else none
        | _ => none)
      else if c = 991 then (match st with
        | .int z :: .int x :: r => if r.length ≤ 4 then some (none, lv, .int (if x < z then z else x) :: r, M) else none
        | _ => none)
      else if c = 992 then (match st with
        | .int z :: .int x :: r => if r.length ≤ 4 then some (none, lv, .int (if z < x then z else x) :: r, M) else none
        | _ => none)
      else if c = 993 then (match st with
        | .int x :: r => if r.length ≤ 4 then some (none, lv, .int (if 0 ≤ x then x else 0 - x) :: r, M) else none
        | _ => none)
      else if c = 994 then (match st with
        | .int z :: .int x :: r => if r.length ≤ 4 ∧ ¬ z = 0 then some (none, lv, .int (Jvm.Free.MCB.fmod x z) :: r, M) else none
        | _ => none)
      else none
    | _ => none
/-- what a return gives: nothing, or a number -/
def e_ret (op : e_Op) (st : List Value) : Option (Option Value) := match op with
  | (_, ins, _, a, _, _) => match ins with
    | .ireturn => match st with
      | [.int x] => if a = 0 ∨ x = 0 ∨ x = 1 then some (some (.int x)) else none
      | _ => none
    | .lreturn => match st with
      | [.long x] => some (some (.long x))
      | _ => none
    | .return_ => match st with
      | [] => some none
      | _ => none
    | _ => none
/-- is the op a return (1), a call (2), or neither (0) -/
def e_kind (op : e_Op) : Nat := match op with
  | (_, ins, _, _, _, c) => match ins with
    | .ireturn => 1
    | .lreturn => 1
    | .return_ => 1
    | .invokestatic _ => if c < 900 then 2 else 0
    | .invokespecial _ => if c < 900 then 3 else 0
    | .invokevirtual _ => if c < 900 then 3 else 0
    | _ => 0
/-- is a call's receiver (the last of the arguments on the stack) an object of class C, a cell that is there -/
def e_recv (v : Option Value) (n C : Nat) : Bool := match v with
  | some (.ref q) => decide (1 ≤ q ∧ q ≤ n ∧ (e_kd q).1 = C)
  | _ => false
/-- the places that a list of arguments takes -/
def e_slw : List Value → Nat
  | [] => 0
  | v :: t => (if e_isL v = true then 2 else 1) + e_slw t
abbrev e_Rs : Type := Option Value × e_Mem
def e_ev (xs : Nat → Int32) (L : Nat) : Nat → List e_Op → e_Lv → List Value → e_Mem → Option e_Rs
  | 0, _, _, _, _ => none
  | _ + 1, [], _, _, _ => none
  | f + 1, op :: is, lv, st, M => match e_kind op with
    | 0 => match e_one xs L op lv st M with
      | none => none
      | some (none, lv', st', M') => e_ev xs L f is lv' st' M'
      | some (some t, lv', st', M') => e_ev xs L f (e_lbl t) lv' st' M'
    | 1 => (e_ret op st).map fun r => (r, M)
    | k => if op.2.2.2.2.1 ≤ st.length ∧ e_slw (st.drop op.2.2.2.2.1) ≤ 8 ∧ (k = 3 → e_recv ((st.take op.2.2.2.2.1).getLast?) M.1 (e_mC op.2.2.2.2.2) = true) ∧ e_slw (st.take op.2.2.2.2.1) ≤ e_mL op.2.2.2.2.2 then
        match e_ev xs L f (e_lbl op.2.2.2.1) (lv_args 0 (st.take op.2.2.2.2.1).reverse) [] M with
        | none => none
        | some (r, M') => e_ev xs L f is lv (r.toList ++ st.drop op.2.2.2.2.1) M'
      else none
