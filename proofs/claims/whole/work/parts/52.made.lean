/-! what the constructors make -/
def bD (x : Option e_Rd) : e_Dm := match x with
  | some (_, D) => D
  | none => (0, [], [])
def vD (x : Option e_Rd) : Bool := match x with
  | some (none, _) => true
  | _ => false
def c8D : Option e_Rd := e_evD 2000 kX8_init_0 [(0, .ref (1 : Nat))] [] (1, [], [])
def c9D : Option e_Rd := e_evD 2000 kX9_init_0 [(0, .ref (164 : Nat))] [] (164, (bD c8D).2.1, (bD c8D).2.2)
theorem mk8 : (vD c8D && (bD c8D).1 == 163) = true := by decide +kernel
