/-! A small machine of my own over an abstract heap: shapes, ints, longs, references of the cells by their numbers. Its runs are told by ab_wp; a later part shows that the machine itself does what ab_wp says. -/
abbrev ab_Sh : Type := Nat ⊕ (FieldType × Nat)
/-- how many cells, their shapes, their ints, their longs, their references -/
abbrev ab_H : Type := Nat × (Nat → ab_Sh) × (Nat → Nat → Int32) × (Nat → Nat → Int64) × (Nat → Nat → Option Nat)
/-- a row of a code table: pc, instruction, its length, two numbers, a list of numbers -/
abbrev ab_I : Type := Nat × Instr × Nat × Nat × Nat × List Nat
/-- a method: name, bytes, locals, the answer's type, cells and slots that it makes, its kind, its code -/
abbrev ab_M : Type := MethodName × ByteArray × Nat × Option FieldType × Nat × Nat × Nat × List ab_I
abbrev ab_my (M : ab_M) : MethodName := M.1
abbrev ab_mb (M : ab_M) : ByteArray := M.2.1
abbrev ab_ml (M : ab_M) : Nat := M.2.2.1
abbrev ab_mr (M : ab_M) : Option FieldType := M.2.2.2.1
abbrev ab_mc (M : ab_M) : Nat := M.2.2.2.2.1
abbrev ab_ms (M : ab_M) : Nat := M.2.2.2.2.2.1
abbrev ab_mk (M : ab_M) : Nat := M.2.2.2.2.2.2.1
abbrev ab_mo (M : ab_M) : List ab_I := M.2.2.2.2.2.2.2
