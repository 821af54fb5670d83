/-! A SMALL MACHINE that computes: the methods as data (rows: pc, instruction, length, what its constant-pool numbers mean), a heap that is a list of cells (a reference is a place in that list), big steps at calls. Part 05 shows that what it answers, the machine of the Statement answers. -/
abbrev ME : Type := (Nat × (List Int32 ⊕ List (Option Nat))) ⊕ (Nat × List Value)
abbrev MH : Type := List ME
abbrev ML : Type := List (Option Value)
abbrev MR : Type := Nat × Instr × Nat × List Int
/-- name, bytes, locals, what it returns, frames and words that it needs below it, its rows -/
abbrev MM : Type := MethodName × ByteArray × Nat × Option FieldType × Nat × Nat × List MR
/-- goes on; calls; returns -/
abbrev MO : Type := (Nat × ML × List Value × MH) ⊕ ((Nat × List Value × List Value) ⊕ Option Value)
abbrev mn (M : MM) : MethodName := M.1
abbrev mb (M : MM) : ByteArray := M.2.1
abbrev mx (M : MM) : Nat := M.2.2.1
abbrev mt (M : MM) : Option FieldType := M.2.2.2.1
abbrev mf (M : MM) : Nat := M.2.2.2.2.1
abbrev mw (M : MM) : Nat := M.2.2.2.2.2.1
abbrev mc (M : MM) : List MR := M.2.2.2.2.2.2
def m_n (ops : List Int) (k : Nat) : Nat := (ops.getD k 0).toNat
