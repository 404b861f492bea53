/-! the linked code's words -/
abbrev LI : Type := Instr × Nat × Nat × Nat × Int × List Nat
def cT (ci : Nat) : u_T := fun k => match (cfl ci)[k]? with
  | some (n, d, f) => (cnm ci, n, d, f)
  | none => ("", "", "", false)
def cN (ci : Nat) : Nat := (cfl ci).length
def mm (mi : Nat) : MethodName × ByteArray × Nat × Option FieldType × Nat × Nat := (mtab[mi]?).getD (⟨"", "", ""⟩, ⟨#[]⟩, 0, none, 0, 0)
def tcode (d : String) : Nat := if d = "I" then 0 else if d = "Z" then 1 else if d = "J" then 2 else 3
