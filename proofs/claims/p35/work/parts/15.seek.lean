def xm_la (fl : Int32) (la : Nat) : Value := if fl = 0 then .null else .ref la
theorem xm_la0 {fl : Int32} {la : Nat} (h : fl = 0) : xm_la fl la = .null := if_pos h
theorem xm_la1 {fl : Int32} {la : Nat} (h : ¬ fl = 0) : xm_la fl la = .ref la := if_neg h
theorem xm_rf {fl : Int32} {la : Nat} {r : Option Nat} (h : r = if fl = 0 then none else some la) : va_rf r = xm_la fl la := by
  subst h
  unfold xm_la
  split <;> rfl
