/-! the types of the small machine -/
abbrev xk_V : Type := Int32 ⊕ Option Nat
abbrev xk_M : Type := Nat → Nat → Int32
abbrev xk_P : Type := Nat → Nat → Option Nat
/-- class numbers and slots; array classes; base; the script's address, cell, length, ints -/
abbrev xk_E : Type := va_G × (Nat → ClassId) × Nat × Nat × Cell × Nat × (Nat → Int32)
abbrev xk_Q : Type := Option xk_V → Nat → xk_M → xk_P → Prop
/-- a method: whether it is the law; name, code, locals, what it returns, room -/
abbrev xk_Y : Type := Bool × MethodName × ByteArray × Nat × Option FieldType × Room
def xk_N (y : xk_Y) : MethodName := y.2.1
def xk_B (y : xk_Y) : ByteArray := y.2.2.1
def xk_L (y : xk_Y) : Nat := y.2.2.2.1
def xk_ret (y : xk_Y) : Option FieldType := y.2.2.2.2.1
def xk_Rm (y : xk_Y) : Room := y.2.2.2.2.2
def xk_ad (E : xk_E) (a : Nat) : Nat := if a = 0 then E.2.2.2.1 else E.2.2.1 + a
def xk_v (E : xk_E) (v : xk_V) : Value := match v with
  | .inl x => .int x
  | .inr none => .null
  | .inr (some a) => .ref (xk_ad E a)
def xk_isN (w : Cond) : Bool := match w with
  | .fieldLinkNest .. => true
  | .methodLinkNest .. => true
  | _ => false
