section
/-! THE UNCHECKED MACHINE: runs over the ints of a heap alone (cell, place), every reference being known; what the small machine comes to, it comes to -/
abbrev SG : Type := Nat → Nat → Int32
abbrev UO : Type := (Nat × ML × List Value × SG) ⊕ ((Nat × List Value × List Value) ⊕ Option Value)
def cI (h : MH) : SG := fun a j => match h[a]? with
  | some (.inr (_, vs)) => (match vs[j]? with | some (.int x) => x | _ => 0)
  | some (.inl (_, .inl l)) => l.getD j 0
  | _ => 0
def uset (s : SG) (a j : Nat) (x : Int32) : SG := fun b k => if b = a ∧ k = j then x else s b k
def mvs (s : SG) (a0 i a1 j n : Nat) : SG := fun b k => if b = a1 ∧ j ≤ k ∧ k < j + n then s a0 (i + (k - j)) else s b k
def HU : AH := [.inr (.inr (6, [.inl 1, .inl 2, .inl 6, .inl 9, .inr (-2147483648, 2147483647, false), .inl 10, .inl 15, .inl 53, .inl 58, .inl 96, .inl 97, .inl 108, .inr (-2147483648, 2147483647, false), .inr (-2147483648, 2147483647, false)])), .inr (.inl (2, [109, 111, 113])), .inr (.inr (1, [.inl 3, .inl 4, .inl 5, .inr (-2147483648, 2147483647, false)])), .inl (0, 8, -2147483648, 2147483647, false), .inl (0, 8, -2147483648, 2147483647, false), .inl (0, 8, -2147483648, 2147483647, false), .inr (.inr (2, [.inl 7, .inl 8, .inr (-2147483648, 2147483647, false)])), .inl (0, 8, -2147483648, 2147483647, false), .inl (0, 8, -2147483648, 2147483647, false), .inr (.inl (3, [115, 117, 119, 121])), .inr (.inr (0, [.inr (-2147483648, 2147483647, false), .inl 11, .inl 12, .inl 13, .inl 14, .inr (-2147483648, 2147483647, false), .inr (-2147483648, 2147483647, false)])), .inl (0, 8, -2147483648, 2147483647, false), .inl (0, 8, -2147483648, 2147483647, false), .inl (0, 24, -2147483648, 2147483647, false), .inl (0, 24, -2147483648, 2147483647, false), .inr (.inr (5, [.inl 16, .inl 17, .inl 18, .inl 19, .inl 20, .inl 21, .inl 46, .inl 47, .inr (-2147483648, 2147483647, false), .inl 48, .inl 49, .inl 50, .inl 51, .inl 52])), .inl (0, 24, -2147483648, 2147483647, false), .inl (0, 24, -2147483648, 2147483647, false), .inl (0, 24, -2147483648, 2147483647, false), .inl (0, 24, -2147483648, 2147483647, false), .inl (0, 24, -2147483648, 2147483647, false), .inr (.inl (4, [22, 23, 24, 25, 26, 27, 28, 29, 30, 31, 32, 33, 34, 35, 36, 37, 38, 39, 40, 41, 42, 43, 44, 45])), .inl (0, 8, -2147483648, 2147483647, false), .inl (0, 8, -2147483648, 2147483647, false), .inl (0, 8, -2147483648, 2147483647, false), .inl (0, 8, -2147483648, 2147483647, false), .inl (0, 8, -2147483648, 2147483647, false), .inl (0, 8, -2147483648, 2147483647, false), .inl (0, 8, -2147483648, 2147483647, false), .inl (0, 8, -2147483648, 2147483647, false), .inl (0, 8, -2147483648, 2147483647, false), .inl (0, 8, -2147483648, 2147483647, false), .inl (0, 8, -2147483648, 2147483647, false), .inl (0, 8, -2147483648, 2147483647, false), .inl (0, 8, -2147483648, 2147483647, false), .inl (0, 8, -2147483648, 2147483647, false), .inl (0, 8, -2147483648, 2147483647, false), .inl (0, 8, -2147483648, 2147483647, false), .inl (0, 8, -2147483648, 2147483647, false), .inl (0, 8, -2147483648, 2147483647, false), .inl (0, 8, -2147483648, 2147483647, false), .inl (0, 8, -2147483648, 2147483647, false), .inl (0, 8, -2147483648, 2147483647, false), .inl (0, 8, -2147483648, 2147483647, false), .inl (0, 8, -2147483648, 2147483647, false), .inl (0, 8, -2147483648, 2147483647, false), .inl (0, 8, -2147483648, 2147483647, false), .inl (0, 8, -2147483648, 2147483647, false), .inl (0, 8, -2147483648, 2147483647, false), .inl (0, 8, -2147483648, 2147483647, false), .inl (0, 24, -2147483648, 2147483647, false), .inl (0, 24, -2147483648, 2147483647, false), .inl (0, 24, -2147483648, 2147483647, false), .inr (.inr (0, [.inr (-2147483648, 2147483647, false), .inl 54, .inl 55, .inl 56, .inl 57, .inr (-2147483648, 2147483647, false), .inr (-2147483648, 2147483647, false)])), .inl (0, 8, -2147483648, 2147483647, false), .inl (0, 8, -2147483648, 2147483647, false), .inl (0, 24, -2147483648, 2147483647, false), .inl (0, 24, -2147483648, 2147483647, false), .inr (.inr (5, [.inl 59, .inl 60, .inl 61, .inl 62, .inl 63, .inl 64, .inl 89, .inl 90, .inr (-2147483648, 2147483647, false), .inl 91, .inl 92, .inl 93, .inl 94, .inl 95])), .inl (0, 24, -2147483648, 2147483647, false), .inl (0, 24, -2147483648, 2147483647, false), .inl (0, 24, -2147483648, 2147483647, false), .inl (0, 24, -2147483648, 2147483647, false), .inl (0, 24, -2147483648, 2147483647, false), .inr (.inl (4, [65, 66, 67, 68, 69, 70, 71, 72, 73, 74, 75, 76, 77, 78, 79, 80, 81, 82, 83, 84, 85, 86, 87, 88])), .inl (0, 8, -2147483648, 2147483647, false), .inl (0, 8, -2147483648, 2147483647, false), .inl (0, 8, -2147483648, 2147483647, false), .inl (0, 8, -2147483648, 2147483647, false), .inl (0, 8, -2147483648, 2147483647, false), .inl (0, 8, -2147483648, 2147483647, false), .inl (0, 8, -2147483648, 2147483647, false), .inl (0, 8, -2147483648, 2147483647, false), .inl (0, 8, -2147483648, 2147483647, false), .inl (0, 8, -2147483648, 2147483647, false), .inl (0, 8, -2147483648, 2147483647, false), .inl (0, 8, -2147483648, 2147483647, false), .inl (0, 8, -2147483648, 2147483647, false), .inl (0, 8, -2147483648, 2147483647, false), .inl (0, 8, -2147483648, 2147483647, false), .inl (0, 8, -2147483648, 2147483647, false), .inl (0, 8, -2147483648, 2147483647, false), .inl (0, 8, -2147483648, 2147483647, false), .inl (0, 8, -2147483648, 2147483647, false), .inl (0, 8, -2147483648, 2147483647, false), .inl (0, 8, -2147483648, 2147483647, false), .inl (0, 8, -2147483648, 2147483647, false), .inl (0, 8, -2147483648, 2147483647, false), .inl (0, 8, -2147483648, 2147483647, false), .inl (0, 8, -2147483648, 2147483647, false), .inl (0, 8, -2147483648, 2147483647, false), .inl (0, 8, -2147483648, 2147483647, false), .inl (0, 8, -2147483648, 2147483647, false), .inl (0, 24, -2147483648, 2147483647, false), .inl (0, 24, -2147483648, 2147483647, false), .inl (0, 24, -2147483648, 2147483647, false), .inl (0, 256, -2147483648, 2147483647, false), .inr (.inl (4, [98, 99, 100, 101, 102, 103, 104, 105, 106, 107])), .inl (0, 24, -2147483648, 2147483647, false), .inl (0, 24, -2147483648, 2147483647, false), .inl (0, 24, -2147483648, 2147483647, false), .inl (0, 24, -2147483648, 2147483647, false), .inl (0, 24, -2147483648, 2147483647, false), .inl (0, 24, -2147483648, 2147483647, false), .inl (0, 24, -2147483648, 2147483647, false), .inl (0, 24, -2147483648, 2147483647, false), .inl (0, 24, -2147483648, 2147483647, false), .inl (0, 24, -2147483648, 2147483647, false), .inl (0, 21, -2147483648, 2147483647, false), .inr (.inr (4, [.inl 110, .inr (-2147483648, 2147483647, false)])), .inl (0, 23, -2147483648, 2147483647, false), .inr (.inr (4, [.inl 112, .inr (-2147483648, 2147483647, false)])), .inl (0, 24, -2147483648, 2147483647, false), .inr (.inr (4, [.inl 114, .inr (-2147483648, 2147483647, false)])), .inl (0, 24, -2147483648, 2147483647, false), .inr (.inr (3, [.inl 116, .inr (-2147483648, 2147483647, false), .inr (-2147483648, 2147483647, false), .inr (-2147483648, 2147483647, false)])), .inl (0, 60, -2147483648, 2147483647, false), .inr (.inr (3, [.inl 118, .inr (-2147483648, 2147483647, false), .inr (-2147483648, 2147483647, false), .inr (-2147483648, 2147483647, false)])), .inl (0, 60, -2147483648, 2147483647, false), .inr (.inr (3, [.inl 120, .inr (-2147483648, 2147483647, false), .inr (-2147483648, 2147483647, false), .inr (-2147483648, 2147483647, false)])), .inl (0, 60, -2147483648, 2147483647, false), .inr (.inr (3, [.inl 122, .inr (-2147483648, 2147483647, false), .inr (-2147483648, 2147483647, false), .inr (-2147483648, 2147483647, false)])), .inl (0, 60, -2147483648, 2147483647, false), .inr (.inr (7, [.inl 124, .inl 125, .inr (-2147483648, 2147483647, false), .inl 126, .inl 127, .inr (-2147483648, 2147483647, false), .inl 128, .inr (-2147483648, 2147483647, false), .inl 129, .inr (-2147483648, 2147483647, false), .inr (-2147483648, 2147483647, false), .inr (-2147483648, 2147483647, false), .inl 130, .inl 131, .inl 132, .inl 133, .inl 134, .inr (-2147483648, 2147483647, false), .inl 135, .inr (-2147483648, 2147483647, false), .inr (-2147483648, 2147483647, false), .inr (-2147483648, 2147483647, false), .inr (-2147483648, 2147483647, false), .inr (-2147483648, 2147483647, false), .inr (-2147483648, 2147483647, false), .inr (-2147483648, 2147483647, false), .inr (-2147483648, 2147483647, false), .inr (-2147483648, 2147483647, false), .inl 136, .inl 137, .inl 138, .inl 139, .inl 140, .inl 141, .inl 142, .inl 143, .inl 144, .inr (-2147483648, 2147483647, false), .inl 145, .inl 146, .inl 147, .inl 148, .inl 149, .inl 150, .inl 151, .inl 152, .inr (-2147483648, 2147483647, false)])), .inl (0, 3, -2147483648, 2147483647, false), .inl (0, 72, -2147483648, 2147483647, false), .inl (0, 9, -2147483648, 2147483647, false), .inl (0, 9, -2147483648, 2147483647, false), .inl (0, 24, -2147483648, 2147483647, false), .inl (0, 24, -2147483648, 2147483647, false), .inl (0, 8, -2147483648, 2147483647, false), .inl (0, 8, -2147483648, 2147483647, false), .inl (0, 8, -2147483648, 2147483647, false), .inl (0, 24, -2147483648, 2147483647, false), .inl (0, 24, -2147483648, 2147483647, false), .inl (0, 8, -2147483648, 2147483647, false), .inl (0, 2, -2147483648, 2147483647, false), .inl (0, 8, -2147483648, 2147483647, false), .inl (0, 8, -2147483648, 2147483647, false), .inl (0, 24, -2147483648, 2147483647, false), .inl (0, 24, -2147483648, 2147483647, false), .inl (0, 48, -2147483648, 2147483647, false), .inl (0, 24, -2147483648, 2147483647, false), .inl (0, 192, -2147483648, 2147483647, false), .inl (0, 2, -2147483648, 2147483647, false), .inl (0, 8, -2147483648, 2147483647, false), .inl (0, 8, -2147483648, 2147483647, false), .inl (0, 240, -2147483648, 2147483647, false), .inl (1, 4, -2147483648, 2147483647, false), .inl (0, 4, -2147483648, 2147483647, false), .inl (0, 4, -2147483648, 2147483647, false), .inl (0, 240, -2147483648, 2147483647, false), .inl (0, 60, -2147483648, 2147483647, false)]
def fdo : List (List (Option Nat)) := [[none, some 1, some 2, some 3, some 4, none, none], [some 1, some 2, some 3, none], [some 1, some 2, none], [some 1, none, none, none], [some 1, none], [some 1, some 2, some 3, some 4, some 5, some 6, some 31, some 32, none, some 33, some 34, some 35, some 36, some 37], [some 1, some 2, some 6, some 9, none, some 10, some 15, some 53, some 58, some 96, some 97, some 108, none, none], [some 1, some 2, none, some 3, some 4, none, some 5, none, some 6, none, none, none, some 7, some 8, some 9, some 10, some 11, none, some 12, none, none, none, none, none, none, none, none, none, some 13, some 14, some 15, some 16, some 17, some 18, some 19, some 20, some 21, none, some 22, some 23, some 24, some 25, some 26, some 27, some 28, some 29, none]]
def uar (a j : Nat) : Nat := if a = 1 then 109 + 2 * j else if a = 9 then 115 + 2 * j else a + 1 + j
def uln (a : Nat) : Nat := match HU[a]? with
  | some (.inl (_, n, _)) => n
  | _ => 0
def ufd (ci k : Nat) : Option Nat := (fdo.getD ci []).getD k none
def uy_get (ci k i : Nat) (L : ML) (st : List Value) (s : SG) : Option UO := match st with
  | .ref a :: r => (match ufd ci k with
    | some d => some (.inl (i + 1, L, .ref (a + d) :: r, s))
    | none => some (.inl (i + 1, L, .int (s a k) :: r, s)))
  | _ => none
def uy_put (k i : Nat) (L : ML) (st : List Value) (s : SG) : Option UO := match st with
  | .int x :: .ref a :: r => some (.inl (i + 1, L, r, uset s a k x))
  | _ => none
def uy_ald (i : Nat) (L : ML) (st : List Value) (s : SG) : Option UO := match st with
  | .int j :: .ref a :: r => some (.inl (i + 1, L, .int (s a j.toNatClampNeg) :: r, s))
  | _ => none
def uy_ast (i : Nat) (L : ML) (st : List Value) (s : SG) : Option UO := match st with
  | .int x :: .int j :: .ref a :: r => some (.inl (i + 1, L, r, uset s a j.toNatClampNeg x))
  | _ => none
def uy_aald (i : Nat) (L : ML) (st : List Value) (s : SG) : Option UO := match st with
  | .int j :: .ref a :: r => some (.inl (i + 1, L, .ref (uar a j.toNatClampNeg) :: r, s))
  | _ => none
def uy_len (i : Nat) (L : ML) (st : List Value) (s : SG) : Option UO := match st with
  | .ref a :: r => some (.inl (i + 1, L, .int (Int32.ofNat (uln a)) :: r, s))
  | _ => none
def uy_cv (y n : Nat) (st : List Value) : Option UO := match (st.take (n + 1)).reverse with
  | .ref a :: as => some (.inr (.inl (y, .ref a :: as, st.drop (n + 1))))
  | _ => none
def uy_cpy (i : Nat) (L : ML) (st : List Value) (s : SG) : Option UO := match st with
  | .int n :: .int dp :: .ref a1 :: .int sp :: .ref a0 :: r => some (.inl (i + 1, L, r, mvs s a0 sp.toNatClampNeg a1 dp.toNatClampNeg n.toNatClampNeg))
  | _ => none
def uo (L : ML) (s : SG) (o : MO) : UO := match o with
  | .inl (i, _, st, _) => .inl (i, L, st, s)
  | .inr x => .inr x
def uy_ild (k i : Nat) (L : ML) (st : List Value) (s : SG) : Option UO := match L[k]? with
  | some (some v) => some (.inl (i + 1, L, v :: st, s))
  | _ => none
def uy_ist (k i : Nat) (L : ML) (st : List Value) (s : SG) : Option UO := match st with
  | v :: r => some (.inl (i + 1, L.set k (some v), r, s))
  | _ => none
def uy_inc (k : Nat) (n : Int) (i : Nat) (L : ML) (st : List Value) (s : SG) : Option UO := match L[k]? with
  | some (some (.int x)) => some (.inl (i + 1, L.set k (some (.int (x + Int32.ofInt n))), st, s))
  | _ => none
def uy_ret (st : List Value) : Option UO := match st with
  | [v] => some (.inr (.inr (some v)))
  | _ => none
def uexec (ins : Instr) (ops : List Int) (i : Nat) (L : ML) (st : List Value) (s : SG) : Option UO := match ins with
  | .getfield _ => uy_get (m_n ops 0) (m_n ops 1) i L st s
  | .putfield _ => uy_put (m_n ops 1) i L st s
  | .iaload => uy_ald i L st s
  | .baload => uy_ald i L st s
  | .iastore => uy_ast i L st s
  | .bastore => uy_ast i L st s
  | .aaload => uy_aald i L st s
  | .arraylength => uy_len i L st s
  | .invokevirtual _ => uy_cv (m_n ops 0) (m_n ops 1) st
  | .iload k => uy_ild k i L st s
  | .iload_n k => uy_ild k i L st s
  | .lload k => uy_ild k i L st s
  | .lload_n k => uy_ild k i L st s
  | .aload k => uy_ild k i L st s
  | .aload_n k => uy_ild k i L st s
  | .istore k => uy_ist k i L st s
  | .istore_n k => uy_ist k i L st s
  | .lstore k => uy_ist k i L st s
  | .lstore_n k => uy_ist k i L st s
  | .astore k => uy_ist k i L st s
  | .astore_n k => uy_ist k i L st s
  | .iinc k n => uy_inc k n i L st s
  | .ireturn => uy_ret st
  | .invokestatic k => if m_n ops 0 = 2 then uy_cpy i L st s else (mexec false [] (.invokestatic k) ops i [] st []).map (uo L s)
  | x => (mexec false [] x ops i [] st []).map (uo L s)
def okU (ins : Instr) (ops : List Int) : Bool := match ins with
  | .new _ => false
  | .newarray _ => false
  | .anewarray _ => false
  | .multianewarray _ _ => false
  | .aastore => false
  | .invokespecial _ => false
  | .putfield _ => (m_n ops 3 == 0 || m_n ops 3 == 1) && (ufd (m_n ops 0) (m_n ops 1)).isNone
  | _ => true
/-- a run on another heap -/
def hp (L : ML) (h : MH) (o : MO) : MO := match o with
  | .inl (i, _, st, _) => .inl (i, L, st, h)
  | .inr x => .inr x
section HPS
variable {i : Nat} {L : ML} {st : List Value} {h : MH}
theorem hp_ii (f : Int32 → Int32 → Int32) : o_ii f i L st h = (o_ii f i [] st []).map (hp L h) := by unfold o_ii; split <;> rfl
theorem hp_id (f : Int32 → Int32 → Int32) : o_id f i L st h = (o_id f i [] st []).map (hp L h) := by
  unfold o_id
  split
  · split <;> rfl
  · rfl
theorem hp_jj (f : Int64 → Int64 → Int64) : o_jj f i L st h = (o_jj f i [] st []).map (hp L h) := by unfold o_jj; split <;> rfl
theorem hp_jd (f : Int64 → Int64 → Int64) : o_jd f i L st h = (o_jd f i [] st []).map (hp L h) := by
  unfold o_jd
  split
  · split <;> rfl
  · rfl
theorem hp_i1 (f : Int32 → Value) : o_i1 f i L st h = (o_i1 f i [] st []).map (hp L h) := by unfold o_i1; split <;> rfl
theorem hp_lshl : o_lshl i L st h = (o_lshl i [] st []).map (hp L h) := by unfold o_lshl; split <;> rfl
theorem hp_lcmp : o_lcmp i L st h = (o_lcmp i [] st []).map (hp L h) := by unfold o_lcmp; split <;> rfl
theorem hp_dup : o_dup i L st h = (o_dup i [] st []).map (hp L h) := by
  unfold o_dup
  split
  · split <;> rfl
  · rfl
theorem hp_dup2 : o_dup2 i L st h = (o_dup2 i [] st []).map (hp L h) := by
  unfold o_dup2
  split
  · split <;> rfl
  · rfl
theorem hp_pop : o_pop i L st h = (o_pop i [] st []).map (hp L h) := by
  unfold o_pop
  split
  · split <;> rfl
  · rfl
theorem hp_pop2 : o_pop2 i L st h = (o_pop2 i [] st []).map (hp L h) := by
  unfold o_pop2
  split
  · split <;> rfl
  · rfl
theorem hp_if (c : Jvm.ClassFile.Cond) (t : Nat) : o_if c t i L st h = (o_if c t i [] st []).map (hp L h) := by
  unfold o_if
  split
  · rename_i x r
    cases m_cmp c x 0 <;> rfl
  · rfl
theorem hp_icmp (c : Jvm.ClassFile.Cond) (t : Nat) : o_icmp c t i L st h = (o_icmp c t i [] st []).map (hp L h) := by
  unfold o_icmp
  split
  · rename_i y x r
    cases m_cmp c x y <;> rfl
  · rfl
theorem hp_sw (lo hi : Int) (ops : List Int) : o_sw lo hi ops L st h = (o_sw lo hi ops [] st []).map (hp L h) := by
  unfold o_sw
  split
  · split <;> rfl
  · rfl
theorem hp_mm (f : Int32 → Int32 → Int32) : o_mm f i L st h = (o_mm f i [] st []).map (hp L h) := by
  unfold o_mm
  split
  · rename_i y x r
    cases m_small r <;> rfl
  · rfl
theorem hp_ma : o_ma i L st h = (o_ma i [] st []).map (hp L h) := by
  unfold o_ma
  split
  · rename_i x r
    cases m_small r <;> rfl
  · rfl
theorem hp_cs (y n : Nat) : o_cs y n st = (o_cs y n st).map (hp L h) := by
  unfold o_cs
  cases (decide ((st.take n).length = n) && m_small (st.drop n)) <;> rfl
theorem hp_lret : o_lret st = (o_lret st).map (hp L h) := by unfold o_lret; split <;> rfl
theorem hp_aret : o_aret st = (o_aret st).map (hp L h) := by unfold o_aret; split <;> rfl
theorem hp_vret : o_vret st = (o_vret st).map (hp L h) := by unfold o_vret; split <;> rfl
end HPS
def lqL (L U : ML) : Prop := L.length = U.length ∧ ∀ (k : Nat) (v : Value), L[k]? = some (some v) → U[k]? = some (some v)
theorem lqL.rf (L : ML) : lqL L L := ⟨rfl, fun _ _ h => h⟩
theorem lqL.set {L U : ML} (g : lqL L U) (k : Nat) (v : Value) : lqL (L.set k (some v)) (U.set k (some v)) := by
  refine ⟨by rw [List.length_set, List.length_set]; exact g.1, fun j w hj => ?_⟩
  by_cases e : k = j
  · subst e
    by_cases hk : k < L.length
    · rw [List.getElem?_set_self hk] at hj
      rw [List.getElem?_set_self (by rw [← g.1]; exact hk)]
      exact hj
    · rw [List.getElem?_eq_none (by rw [List.length_set]; omega)] at hj
      cases hj
  · rw [List.getElem?_set_ne e] at hj ⊢
    exact g.2 j w hj
theorem lqL.non {L U : ML} (g : lqL L U) (k : Nat) : lqL (L.set k none) U := by
  refine ⟨by rw [List.length_set]; exact g.1, fun j w hj => ?_⟩
  by_cases e : k = j
  · subst e
    by_cases hk : k < L.length
    · rw [List.getElem?_set_self hk] at hj
      cases hj
    · rw [List.getElem?_eq_none (by rw [List.length_set]; omega)] at hj
      cases hj
  · rw [List.getElem?_set_ne e] at hj
    exact g.2 j w hj
theorem lqL.inv {L U : ML} (g : lqL L U) (k : Nat) : lqL (m_inv L k) U := by
  cases k with
  | zero => exact g
  | succ k =>
    show lqL (match L[k]? with | some (some w) => if w.category = 2 then L.set k none else L | _ => L) U
    split
    · split
      · exact g.non k
      · exact g
    · exact g
def rU (o : MO) (p : UO) : Prop := match o, p with
  | .inl (i, L, st, h), .inl (j, U, st2, s) => j = i ∧ st2 = st ∧ s = cI h ∧ lqL L U ∧ gH HU h
  | .inr x, .inr y => x = y
  | _, _ => False
theorem hp_sim {q : Option MO} {L U : ML} {h : MH} {o : MO} (g : gH HU h) (l : lqL L U) (e : q.map (hp L h) = some o) : ∃ p, q.map (uo U (cI h)) = some p ∧ rU o p := by
  cases q with
  | none => cases e
  | some p =>
    have e : hp L h p = o := Option.some.inj e
    subst e
    rcases p with ⟨i, L2, st, h2⟩ | x
    · exact ⟨_, rfl, rfl, rfl, rfl, l, g⟩
    · exact ⟨_, rfl, rfl⟩
def ukF (a ci k : Nat) (f : AF) : Bool := match f with
  | .inl q => (match ufd ci k with | some d => q == a + d | none => false)
  | .inr (lo, hi, fz) => (ufd ci k).isNone && (decide (lo = -2147483648) && (decide (hi = 2147483647) && !fz))
def ukC (a : Nat) (c : AC) : Bool := match c with
  | .inl (_, n, lo, hi, fz) => decide (lo = -2147483648) && (decide (hi = 2147483647) && (!fz && uln a == n))
  | .inr (.inl (t, rs)) => !(t == 99) && (List.range rs.length).all (fun j => match rs[j]? with | some q => q == uar a j | none => false)
  | .inr (.inr (ci, fs)) => (List.range fs.length).all (fun k => match fs[k]? with | some f => ukF a ci k f | none => false)
theorem uk_all : (List.range 153).all (fun a => match HU[a]? with | some c => ukC a c | none => false) = true := by decide +kernel
theorem HU_len : HU.length = 153 := by decide +kernel
theorem hu_at {h : MH} {a : Nat} {x : ME} (g : gH HU h) (hx : h[a]? = some x) : ∃ c, HU[a]? = some c ∧ gC c x ∧ ukC a c = true := by
  have hl : a < h.length := (List.getElem?_eq_some_iff.mp hx).1
  have hl : a < 153 := by rw [← g.1, HU_len] at hl; exact hl
  have q := List.all_eq_true.mp uk_all a (List.mem_range.mpr hl)
  have q : (match HU[a]? with | some c => ukC a c | none => false) = true := q
  split at q
  · rename_i c hc
    obtain ⟨y, hy, gy⟩ := g.2 a c hc
    rw [hx] at hy
    cases hy
    exact ⟨c, hc, gy, q⟩
  · cases q
theorem hu_obj {h : MH} {a ci k : Nat} {vs : List Value} {v : Value} (g : gH HU h) (hx : h[a]? = some (.inr (ci, vs))) (hv : vs[k]? = some v) : ∃ fs f, HU[a]? = some (.inr (.inr (ci, fs))) ∧ vs.length = fs.length ∧ fs[k]? = some f ∧ gF f v ∧ ukF a ci k f = true ∧ ∀ (k : Nat) (f : AF), fs[k]? = some f → ∃ v, vs[k]? = some v ∧ gF f v := by
  obtain ⟨c, hc, gc, kc⟩ := hu_at g hx
  rcases c with ⟨t, n, lo, hi, fz⟩ | ⟨t, rs⟩ | ⟨cj, fs⟩
  · obtain ⟨l, e, -⟩ := gc
    cases e
  · rcases gc with e | e
    · have kc := (b_and kc).1
      rw [e] at kc
      cases kc
    · cases e
  · obtain ⟨ws, e, hl, hb⟩ := gc
    cases e
    have hk : k < fs.length := by rw [← hl]; exact (List.getElem?_eq_some_iff.mp hv).1
    have q := List.all_eq_true.mp kc k (List.mem_range.mpr hk)
    have hf : fs[k]? = some fs[k] := List.getElem?_eq_getElem hk
    have q : (match fs[k]? with | some f => ukF a ci k f | none => false) = true := q
    rw [hf] at q
    obtain ⟨v2, hv2, gv⟩ := hb k _ hf
    rw [hv] at hv2
    cases hv2
    exact ⟨fs, fs[k], hc, hl, hf, gv, q, hb⟩
theorem hu_arr {h : MH} {a t : Nat} {l : List Int32} (g : gH HU h) (hx : h[a]? = some (.inl (t, .inl l))) : HU[a]? = some (.inl (t, l.length, -2147483648, 2147483647, false)) ∧ uln a = l.length := by
  obtain ⟨c, hc, gc, kc⟩ := hu_at g hx
  rcases c with ⟨t2, n, lo, hi, fz⟩ | ⟨t2, rs⟩ | ⟨cj, fs⟩
  · obtain ⟨l2, e, hl, -⟩ := gc
    cases e
    obtain ⟨k1, kc⟩ := b_and kc
    obtain ⟨k2, kc⟩ := b_and kc
    obtain ⟨k3, k4⟩ := b_and kc
    have k1 := of_decide_eq_true k1
    have k2 := of_decide_eq_true k2
    have k3 : fz = false := by cases fz with
      | true => cases k3
      | false => rfl
    have k4 : uln a = n := by simpa using k4
    subst k1 k2 k3 hl
    exact ⟨hc, k4⟩
  · rcases gc with e | e
    · have kc := (b_and kc).1
      rw [e] at kc
      cases kc
    · cases e
  · obtain ⟨ws, e, -⟩ := gc
    cases e
theorem hu_ref {h : MH} {a t j : Nat} {l : List (Option Nat)} (g : gH HU h) (hx : h[a]? = some (.inl (t, .inr l))) (hj : j < l.length) : l.getD j none = some (uar a j) := by
  obtain ⟨c, hc, gc, kc⟩ := hu_at g hx
  rcases c with ⟨t2, n, lo, hi, fz⟩ | ⟨t2, rs⟩ | ⟨cj, fs⟩
  · obtain ⟨l2, e, -⟩ := gc
    cases e
  · obtain ⟨k1, k2⟩ := b_and kc
    rcases gc with e | e
    · rw [e] at k1
      cases k1
    · cases e
      rw [List.length_map] at hj
      have q := List.all_eq_true.mp k2 j (List.mem_range.mpr hj)
      have hf : rs[j]? = some rs[j] := List.getElem?_eq_getElem hj
      have q : (match rs[j]? with | some q => q == uar a j | none => false) = true := q
      rw [hf] at q
      have q : rs[j] = uar a j := by simpa using q
      rw [List.getD_eq_getElem?_getD, List.getElem?_map, hf, q]
      rfl
  · obtain ⟨ws, e, -⟩ := gc
    cases e
theorem cI_arr {h : MH} {a t : Nat} {l : List Int32} (hx : h[a]? = some (.inl (t, .inl l))) (j : Nat) : cI h a j = l.getD j 0 := by unfold cI; rw [hx]
theorem cI_cell {h h1 : MH} {a : Nat} (e : h1[a]? = h[a]?) (j : Nat) : cI h1 a j = cI h a j := by unfold cI; rw [e]
theorem cI_setA {h : MH} {a t j : Nat} {x : Int32} {l : List Int32} (hx : h[a]? = some (.inl (t, .inl l))) (hj : j < l.length) : cI (h.set a (.inl (t, .inl (l.set j x)))) = uset (cI h) a j x := by
  have ha : a < h.length := (List.getElem?_eq_some_iff.mp hx).1
  funext b k
  unfold uset
  by_cases e : b = a
  · subst e
    rw [cI_arr (List.getElem?_set_self ha), cI_arr hx]
    by_cases e2 : k = j
    · subst e2
      rw [if_pos ⟨rfl, rfl⟩, List.getD_eq_getElem?_getD, List.getElem?_set_self hj]
      rfl
    · rw [if_neg (fun q => e2 q.2), List.getD_eq_getElem?_getD, List.getElem?_set_ne (fun q => e2 q.symm), List.getD_eq_getElem?_getD]
  · rw [if_neg (fun q => e q.1)]
    exact cI_cell (List.getElem?_set_ne (fun q => e q.symm)) k
theorem cI_setF {h : MH} {a ci k : Nat} {x : Int32} {vs : List Value} (hx : h[a]? = some (.inr (ci, vs))) (hk : k < vs.length) : cI (h.set a (.inr (ci, vs.set k (.int x)))) = uset (cI h) a k x := by
  have ha : a < h.length := (List.getElem?_eq_some_iff.mp hx).1
  funext b j
  unfold uset
  by_cases e : b = a
  · subst e
    by_cases e2 : j = k
    · subst e2
      rw [if_pos ⟨rfl, rfl⟩]
      unfold cI
      rw [List.getElem?_set_self ha]
      dsimp only
      rw [List.getElem?_set_self hk]
    · rw [if_neg (fun q => e2 q.2)]
      unfold cI
      rw [List.getElem?_set_self ha, hx]
      dsimp only
      rw [List.getElem?_set_ne (fun q => e2 q.symm)]
  · rw [if_neg (fun q => e q.1)]
    exact cI_cell (List.getElem?_set_ne (fun q => e q.symm)) j
theorem cI_cpy {h : MH} {a0 a1 t0 t1 sp dp n : Nat} {f g : List Int32} (h0 : h[a0]? = some (.inl (t0, .inl f))) (h1 : h[a1]? = some (.inl (t1, .inl g))) (l0 : sp + n ≤ f.length) (l1 : dp + n ≤ g.length) : cI (h.set a1 (.inl (t1, .inl (m_cpy f g sp dp n)))) = mvs (cI h) a0 sp a1 dp n := by
  have ha : a1 < h.length := (List.getElem?_eq_some_iff.mp h1).1
  funext b k
  unfold mvs
  by_cases e : b = a1
  · subst e
    rw [cI_arr (List.getElem?_set_self ha), cI_arr h1, List.getD_eq_getElem?_getD, List.getD_eq_getElem?_getD, cI_arr h0, List.getD_eq_getElem?_getD]
    unfold m_cpy
    by_cases e2 : dp ≤ k ∧ k < dp + n
    · rw [if_pos ⟨rfl, e2⟩, List.getElem?_append_right (by rw [List.length_take]; omega), List.length_take, List.getElem?_append_left (by rw [List.length_take, List.length_drop]; omega), List.getElem?_take_of_lt (by omega), List.getElem?_drop]
      rw [show min dp g.length = dp by omega]
    · rw [if_neg (fun q => e2 q.2)]
      by_cases e3 : k < dp
      · rw [List.getElem?_append_left (by rw [List.length_take]; omega), List.getElem?_take_of_lt e3]
      · rw [List.getElem?_append_right (by rw [List.length_take]; omega), List.length_take, List.getElem?_append_right (by rw [List.length_take, List.length_drop]; omega), List.length_take, List.length_drop, List.getElem?_drop]
        rw [show dp + n + (k - min dp g.length - min n (f.length - sp)) = k by omega]
  · rw [if_neg (fun q => e q.1)]
    exact cI_cell (List.getElem?_set_ne (fun q => e q.symm)) k
section SIM
variable {i : Nat} {L U : ML} {st : List Value} {h : MH} {o : MO}
theorem uy_get_ok {ci k : Nat} (g : gH HU h) (l : lqL L U) (hm : o_get ci k i L st h = some o) : ∃ p, uy_get ci k i U st (cI h) = some p ∧ rU o p := by
  unfold o_get at hm
  split at hm
  · rename_i a r
    split at hm
    · rename_i c fs hx
      obtain ⟨hc, hm2⟩ := b_if hm
      clear hm
      have hc : c = ci := by simpa using hc
      subst hc
      split at hm2
      · rename_i v hv
        cases hm2
        refine ⟨.inl (i + 1, U, v :: r, cI h), ?_, rfl, rfl, rfl, l, g⟩
        obtain ⟨gs, f, -, -, -, gv, kf, -⟩ := hu_obj g hx hv
        unfold uy_get
        rcases f with q | ⟨lo, hi, fz⟩
        · have gv : v = .ref q := gv
          subst gv
          have kf : (match ufd c k with | some d => q == a + d | none => false) = true := kf
          split at kf
          · rename_i d hd
            have kf : q = a + d := by simpa using kf
            dsimp only
            rw [kf]
          · cases kf
        · obtain ⟨x, rfl, -, -⟩ := gv
          obtain ⟨kf, -⟩ := b_and kf
          dsimp only
          rw [Option.isNone_iff_eq_none.mp kf]
          have e : cI h a k = x := by unfold cI; rw [hx]; dsimp only; rw [hv]
          rw [e]
      · cases hm2
    · cases hm
  · cases hm
theorem uy_put_ok {ci k tc : Nat} (g : gH HU h) (l : lqL L U) (hok : ((tc == 0 || tc == 1) && (ufd ci k).isNone) = true) (hm : o_put ci k tc i L st h = some o) : ∃ p, uy_put k i U st (cI h) = some p ∧ rU o p := by
  obtain ⟨ht, hn⟩ := b_and hok
  unfold o_put at hm
  split at hm
  · rename_i v a r
    split at hm
    · rename_i c fs hx
      obtain ⟨hc, hm2⟩ := b_if hm
      clear hm
      obtain ⟨hc, hb⟩ := b_and hc
      obtain ⟨hf, hk⟩ := b_and hb
      have hc : c = ci := by simpa using hc
      subst hc
      have hk := of_decide_eq_true hk
      cases hm2
      have hv : ∃ x, v = .int x := by
        cases v
        case int x => exact ⟨x, rfl⟩
        case ref q =>
          have hf : (tc == 2) = true := hf
          have hf : tc = 2 := by simpa using hf
          subst hf
          cases ht
        all_goals cases hf
      obtain ⟨x, rfl⟩ := hv
      obtain ⟨gs, f, hc, hl, hfk, -, kf, hb⟩ := hu_obj g hx (List.getElem?_eq_getElem hk)
      rcases f with q | ⟨lo, hi, fz⟩
      · have kf : (match ufd c k with | some d => q == a + d | none => false) = true := kf
        rw [Option.isNone_iff_eq_none.mp hn] at kf
        cases kf
      · obtain ⟨-, kf⟩ := b_and kf
        obtain ⟨k1, kf⟩ := b_and kf
        obtain ⟨k2, -⟩ := b_and kf
        have k1 := of_decide_eq_true k1
        have k2 := of_decide_eq_true k2
        refine ⟨.inl (i + 1, U, r, uset (cI h) a k x), rfl, rfl, rfl, ?_, l, ?_⟩
        · rw [cI_setF hx hk]
        · refine g.put hc hx ⟨_, rfl, by simp [hl], fun j f hj => ?_⟩
          by_cases e : k = j
          · subst e
            rw [hfk] at hj
            cases hj
            exact ⟨.int x, List.getElem?_set_self hk, x, rfl, by rw [k1]; exact i32_ge x, by rw [k2]; exact i32_le x⟩
          · rw [List.getElem?_set_ne e]
            exact hb j f hj
    · cases hm
  · cases hm
theorem uy_ald_ok {t : Nat} (g : gH HU h) (l : lqL L U) (hm : o_ald false [] t i L st h = some o) : ∃ p, uy_ald i U st (cI h) = some p ∧ rU o p := by
  unfold o_ald at hm
  split at hm
  · rename_i j a r
    split at hm
    · rename_i u lx hx
      obtain ⟨-, hm⟩ := b_if hm
      cases hm
      refine ⟨.inl (i + 1, U, .int (cI h a j.toNatClampNeg) :: r, cI h), rfl, rfl, ?_, rfl, l, g⟩
      rw [cI_arr hx]
    · cases hm
  · cases hm
  · cases hm
theorem uy_ast_ok {t : Nat} (g : gH HU h) (l : lqL L U) (hm : o_ast t i L st h = some o) : ∃ p, uy_ast i U st (cI h) = some p ∧ rU o p := by
  unfold o_ast at hm
  split at hm
  · rename_i x j a r
    split at hm
    · rename_i u lx hx
      obtain ⟨hb, hm⟩ := b_if hm
      obtain ⟨-, hb⟩ := b_and hb
      have hj := m_ok_lt (b_and hb).1
      cases hm
      obtain ⟨hc, -⟩ := hu_arr g hx
      refine ⟨.inl (i + 1, U, r, uset (cI h) a j.toNatClampNeg x), rfl, rfl, rfl, ?_, l, ?_⟩
      · rw [cI_setA hx hj]
      · exact g.put hc hx ⟨_, rfl, by simp, fun z _ => ⟨i32_ge z, i32_le z⟩⟩
    · cases hm
  · cases hm
theorem uy_aald_ok (g : gH HU h) (l : lqL L U) (hm : o_aald i L st h = some o) : ∃ p, uy_aald i U st (cI h) = some p ∧ rU o p := by
  unfold o_aald at hm
  split at hm
  · rename_i j a r
    split at hm
    · rename_i u lx hx
      obtain ⟨hb, hm⟩ := b_if hm
      have hj := m_ok_lt (b_and hb).2
      cases hm
      refine ⟨.inl (i + 1, U, .ref (uar a j.toNatClampNeg) :: r, cI h), rfl, rfl, ?_, rfl, l, g⟩
      rw [hu_ref g hx hj]
      rfl
    · cases hm
  · cases hm
theorem uy_len_ok (g : gH HU h) (l : lqL L U) (hm : o_len false [] i L st h = some o) : ∃ p, uy_len i U st (cI h) = some p ∧ rU o p := by
  unfold o_len at hm
  split at hm
  · rename_i a r
    split at hm
    · rename_i lx hx
      cases hm
      refine ⟨.inl (i + 1, U, .int (Int32.ofNat (uln a)) :: r, cI h), rfl, rfl, ?_, rfl, l, g⟩
      rw [(hu_arr g hx).2]
    · cases hm
  · cases hm
  · cases hm
theorem uy_cv_ok {y n ci : Nat} (hm : o_cv y n ci st h = some o) : ∃ p, uy_cv y n st = some p ∧ rU o p := by
  unfold o_cv at hm
  unfold uy_cv
  split at hm
  · rename_i a as he
    split at hm
    · obtain ⟨-, hm⟩ := b_if hm
      cases hm
      rw [he]
      exact ⟨_, rfl, rfl⟩
    · cases hm
  · cases hm
theorem uy_cpy_ok (g : gH HU h) (l : lqL L U) (hm : o_cpy i L st h = some o) : ∃ p, uy_cpy i U st (cI h) = some p ∧ rU o p := by
  unfold o_cpy at hm
  split at hm
  · rename_i n dp a1 sp a0 r
    split at hm
    · rename_i f q h0 h1
      obtain ⟨hb, hm⟩ := b_if hm
      obtain ⟨-, hb⟩ := b_and hb
      obtain ⟨b1, hb⟩ := b_and hb
      obtain ⟨b2, -⟩ := b_and hb
      have b1 := of_decide_eq_true b1
      have b2 := of_decide_eq_true b2
      cases hm
      obtain ⟨hc, -⟩ := hu_arr g h1
      refine ⟨.inl (i + 1, U, r, mvs (cI h) a0 sp.toNatClampNeg a1 dp.toNatClampNeg n.toNatClampNeg), rfl, rfl, rfl, ?_, l, ?_⟩
      · rw [cI_cpy h0 h1 b1 b2]
      · refine g.put hc h1 ⟨_, rfl, ?_, fun z _ => ⟨i32_ge z, i32_le z⟩⟩
        unfold m_cpy
        simp only [List.length_append, List.length_take, List.length_drop]
        omega
    · cases hm
  · cases hm
theorem uy_il_ok {k : Nat} (g : gH HU h) (l : lqL L U) (hm : o_il k i L st h = some o) : ∃ p, uy_ild k i U st (cI h) = some p ∧ rU o p := by
  unfold o_il at hm
  split at hm
  · rename_i x hx
    cases hm
    refine ⟨.inl (i + 1, U, .int x :: st, cI h), ?_, rfl, rfl, rfl, l, g⟩
    unfold uy_ild
    rw [l.2 k _ hx]
  · cases hm
theorem uy_jl_ok {k : Nat} (g : gH HU h) (l : lqL L U) (hm : o_jl k i L st h = some o) : ∃ p, uy_ild k i U st (cI h) = some p ∧ rU o p := by
  unfold o_jl at hm
  split at hm
  · rename_i x hx
    cases hm
    refine ⟨.inl (i + 1, U, .long x :: st, cI h), ?_, rfl, rfl, rfl, l, g⟩
    unfold uy_ild
    rw [l.2 k _ hx]
  · cases hm
theorem uy_al_ok {k : Nat} (g : gH HU h) (l : lqL L U) (hm : o_al k i L st h = some o) : ∃ p, uy_ild k i U st (cI h) = some p ∧ rU o p := by
  unfold o_al at hm
  split at hm
  · rename_i x hx
    cases hm
    refine ⟨.inl (i + 1, U, .ref x :: st, cI h), ?_, rfl, rfl, rfl, l, g⟩
    unfold uy_ild
    rw [l.2 k _ hx]
  · rename_i x hx
    cases hm
    refine ⟨.inl (i + 1, U, .float x :: st, cI h), ?_, rfl, rfl, rfl, l, g⟩
    unfold uy_ild
    rw [l.2 k _ hx]
  · cases hm
theorem uy_is_ok {k : Nat} (g : gH HU h) (l : lqL L U) (hm : o_is k i L st h = some o) : ∃ p, uy_ist k i U st (cI h) = some p ∧ rU o p := by
  unfold o_is at hm
  split at hm
  · rename_i x r
    split at hm
    · cases hm
      exact ⟨_, rfl, rfl, rfl, rfl, (l.inv k).set k _, g⟩
    · cases hm
  · cases hm
theorem uy_as_ok {k : Nat} (g : gH HU h) (l : lqL L U) (hm : o_as k i L st h = some o) : ∃ p, uy_ist k i U st (cI h) = some p ∧ rU o p := by
  unfold o_as at hm
  split at hm
  · rename_i x r
    split at hm
    · cases hm
      exact ⟨_, rfl, rfl, rfl, rfl, (l.inv k).set k _, g⟩
    · cases hm
  · cases hm
theorem uy_js_ok {k : Nat} (g : gH HU h) (l : lqL L U) (hm : o_js k i L st h = some o) : ∃ p, uy_ist k i U st (cI h) = some p ∧ rU o p := by
  unfold o_js at hm
  split at hm
  · rename_i x r
    split at hm
    · cases hm
      exact ⟨_, rfl, rfl, rfl, rfl, ((l.inv k).non (k + 1)).set k _, g⟩
    · cases hm
  · cases hm
theorem uy_inc_ok {k : Nat} {n : Int} (g : gH HU h) (l : lqL L U) (hm : o_inc k n i L st h = some o) : ∃ p, uy_inc k n i U st (cI h) = some p ∧ rU o p := by
  unfold o_inc at hm
  split at hm
  · rename_i x hx
    cases hm
    refine ⟨.inl (i + 1, U.set k (some (.int (x + Int32.ofInt n))), st, cI h), ?_, rfl, rfl, rfl, (l.inv k).set k _, g⟩
    unfold uy_inc
    rw [l.2 k _ hx]
  · cases hm
theorem uy_ret_ok {z : Nat} (hm : o_ret z st = some o) : ∃ p, uy_ret st = some p ∧ rU o p := by
  unfold o_ret at hm
  split at hm
  · obtain ⟨-, hm⟩ := b_if hm
    cases hm
    exact ⟨_, rfl, rfl⟩
  · cases hm
theorem uexec_ok {ins : Instr} {ops : List Int} (g : gH HU h) (l : lqL L U) (hok : okU ins ops = true) (hm : mexec false [] ins ops i L st h = some o) : ∃ p, uexec ins ops i U st (cI h) = some p ∧ rU o p := by
  cases ins
  case iconst n => exact hp_sim (q := o_nx i [] _ []) g l hm
  case bipush n => exact hp_sim (q := o_nx i [] _ []) g l hm
  case sipush n => exact hp_sim (q := o_nx i [] _ []) g l hm
  case ldc n => exact hp_sim (q := o_nx i [] _ []) g l hm
  case ldc_w n => exact hp_sim (q := o_nx i [] _ []) g l hm
  case ldc2_w n => exact hp_sim (q := o_nx i [] _ []) g l hm
  case lconst n => exact hp_sim (q := o_nx i [] _ []) g l hm
  case iload k => exact uy_il_ok g l hm
  case iload_n k => exact uy_il_ok g l hm
  case lload k => exact uy_jl_ok g l hm
  case lload_n k => exact uy_jl_ok g l hm
  case aload k => exact uy_al_ok g l hm
  case aload_n k => exact uy_al_ok g l hm
  case istore k => exact uy_is_ok g l hm
  case istore_n k => exact uy_is_ok g l hm
  case lstore k => exact uy_js_ok g l hm
  case lstore_n k => exact uy_js_ok g l hm
  case astore k => exact uy_as_ok g l hm
  case astore_n k => exact uy_as_ok g l hm
  case iinc k n => exact uy_inc_ok g l hm
  case dup => exact hp_sim g l (hp_dup.symm.trans hm)
  case dup2 => exact hp_sim g l (hp_dup2.symm.trans hm)
  case pop => exact hp_sim g l (hp_pop.symm.trans hm)
  case pop2 => exact hp_sim g l (hp_pop2.symm.trans hm)
  case iadd => exact hp_sim g l ((hp_ii _).symm.trans hm)
  case isub => exact hp_sim g l ((hp_ii _).symm.trans hm)
  case imul => exact hp_sim g l ((hp_ii _).symm.trans hm)
  case iand => exact hp_sim g l ((hp_ii _).symm.trans hm)
  case ior => exact hp_sim g l ((hp_ii _).symm.trans hm)
  case ixor => exact hp_sim g l ((hp_ii _).symm.trans hm)
  case ishl => exact hp_sim g l ((hp_ii _).symm.trans hm)
  case ishr => exact hp_sim g l ((hp_ii _).symm.trans hm)
  case iushr => exact hp_sim g l ((hp_ii _).symm.trans hm)
  case idiv => exact hp_sim g l ((hp_id _).symm.trans hm)
  case irem => exact hp_sim g l ((hp_id _).symm.trans hm)
  case ineg => exact hp_sim g l ((hp_i1 _).symm.trans hm)
  case i2l => exact hp_sim g l ((hp_i1 _).symm.trans hm)
  case i2b => exact hp_sim g l ((hp_i1 _).symm.trans hm)
  case i2s => exact hp_sim g l ((hp_i1 _).symm.trans hm)
  case ladd => exact hp_sim g l ((hp_jj _).symm.trans hm)
  case lsub => exact hp_sim g l ((hp_jj _).symm.trans hm)
  case lmul => exact hp_sim g l ((hp_jj _).symm.trans hm)
  case ldiv => exact hp_sim g l ((hp_jd _).symm.trans hm)
  case lrem => exact hp_sim g l ((hp_jd _).symm.trans hm)
  case lshl => exact hp_sim g l (hp_lshl.symm.trans hm)
  case lcmp => exact hp_sim g l (hp_lcmp.symm.trans hm)
  case ifCond c off => exact hp_sim g l ((hp_if c _).symm.trans hm)
  case if_icmp c off => exact hp_sim g l ((hp_icmp c _).symm.trans hm)
  case goto off => exact hp_sim (q := some (.inl (m_n ops 0, [], st, []))) g l hm
  case tableswitch d lo hi offs => exact hp_sim g l ((hp_sw lo hi ops).symm.trans hm)
  case iaload => exact uy_ald_ok g l hm
  case baload => exact uy_ald_ok g l hm
  case iastore => exact uy_ast_ok g l hm
  case bastore => exact uy_ast_ok g l hm
  case aaload => exact uy_aald_ok g l hm
  case arraylength => exact uy_len_ok g l hm
  case getfield k => exact uy_get_ok g l hm
  case putfield k => exact uy_put_ok g l hok hm
  case invokevirtual k => exact uy_cv_ok hm
  case invokestatic k =>
    show ∃ p, (if m_n ops 0 = 2 then uy_cpy i U st (cI h) else (mexec false [] (.invokestatic k) ops i [] st []).map (uo U (cI h))) = some p ∧ _
    by_cases e : m_n ops 0 = 2
    · rw [if_pos e]
      simp only [mexec, e] at hm
      exact uy_cpy_ok g l hm
    · rw [if_neg e]
      refine hp_sim g l (Eq.trans ?_ hm)
      simp only [mexec]
      split
      · exact absurd (by assumption) e
      · exact (hp_mm _).symm
      · exact (hp_mm _).symm
      · exact hp_ma.symm
      · exact (hp_cs _ _).symm
  case ireturn => exact uy_ret_ok hm
  case lreturn => exact hp_sim g l (hp_lret.symm.trans hm)
  case areturn => exact hp_sim g l (hp_aret.symm.trans hm)
  case return_ => exact hp_sim g l (hp_vret.symm.trans hm)
  case aastore => cases hok
  case newarray t => cases hok
  case anewarray k => cases hok
  case multianewarray k d => cases hok
  case new k => cases hok
  case invokespecial k => cases hok
  all_goals exact nomatch (show (none : Option MO) = some _ from hm)
end SIM
def ustep (M : MM) (i : Nat) (L : ML) (st : List Value) (s : SG) : Option UO := match (mc M)[i]? with
  | some (_, ins, _, ops) => uexec ins ops i L st s
  | none => none
def ubody (ih : MM → Nat → ML → List Value → SG → Option (Option Value × SG)) (M : MM) (i : Nat) (L : ML) (st : List Value) (s : SG) : Option (Option Value × SG) := match ustep M i L st s with
  | none => none
  | some (.inl (i1, L1, st1, s1)) => ih M i1 L1 st1 s1
  | some (.inr (.inl (y, as, rest))) => (match m_tab[y]? with
    | none => none
    | some M1 => (match ih M1 0 (m_ent (mx M1) as) [] s with
      | none => none
      | some (r, s1) => ih M (i + 1) L (r.toList ++ rest) s1))
  | some (.inr (.inr r)) => some (r, s)
noncomputable def urun (n : Nat) : MM → Nat → ML → List Value → SG → Option (Option Value × SG) := Nat.rec (fun _ _ _ _ _ => none) (fun _ ih => ubody ih) n
theorem urun_s (n : Nat) (M : MM) (i : Nat) (L : ML) (st : List Value) (s : SG) : urun (n + 1) M i L st s = ubody (urun n) M i L st s := rfl
/-- the methods that make nothing, and call none that does -/
def msU : List Nat := (List.range 188).filter (fun y => !([0, 5, 7, 10, 15, 19, 30, 91].contains y))
def okUs : Bool := msU.all (fun y => match m_tab[y]? with | some M => (mc M).all (fun r => okU r.2.1 r.2.2.2 && okCall msU r.2.1 r.2.2.2) | none => false)
theorem ok_us : okUs = true := by decide +kernel
theorem okU_sp {y : Nat} {M : MM} (hy : y ∈ msU) (hM : m_tab[y]? = some M) {i : Nat} {row : MR} (hr : (mc M)[i]? = some row) : okU row.2.1 row.2.2.2 = true ∧ okCall msU row.2.1 row.2.2.2 = true := by
  have q := List.all_eq_true.mp ok_us y hy
  rw [hM] at q
  exact b_and (List.all_eq_true.mp q row (List.mem_of_getElem? hr))
theorem usim : ∀ (n : Nat) (y : Nat) (M : MM) (i : Nat) (L U : ML) (st : List Value) (h : MH) (r : Option Value) (h1 : MH), y ∈ msU → m_tab[y]? = some M → gH HU h → lqL L U → mrun m_tab [] n false M i L st h = some (r, h1) → urun n M i U st (cI h) = some (r, cI h1) ∧ gH HU h1 := by
  intro n
  induction n with
  | zero => intro y M i L U st h r h1 _ _ _ _ hm; cases hm
  | succ n ih =>
    intro y M i L U st h r h1 hy hM g l hm
    rw [mrun_s] at hm
    rw [urun_s]
    unfold mbody at hm
    unfold ubody
    have key : ∀ o, mstep false [] M i L st h = some o → (∃ p, ustep M i U st (cI h) = some p ∧ rU o p) ∧ ∀ y2 as rest, o = .inr (.inl (y2, as, rest)) → y2 ∈ msU := by
      intro o hs
      unfold mstep at hs
      unfold ustep
      split at hs
      · rename_i pc ins len ops hr
        rw [hr]
        obtain ⟨k1, k2⟩ := okU_sp hy hM hr
        exact ⟨uexec_ok g l k1 hs, fun y2 as rest e => by subst e; exact call_in k2 hs⟩
      · cases hs
    split at hm
    · cases hm
    · rename_i i2 L2 st2 h2 hs
      obtain ⟨⟨p, k1, k2⟩, -⟩ := key _ hs
      rcases p with ⟨j2, U2, st3, s2⟩ | x
      · obtain ⟨rfl, rfl, rfl, l2, g2⟩ := k2
        rw [k1]
        exact ih y _ _ _ _ _ _ _ _ hy hM g2 l2 hm
      · exact k2.elim
    · rename_i y2 as rest hs
      obtain ⟨⟨p, k1, k2⟩, k3⟩ := key _ hs
      have hy2 := k3 y2 as rest rfl
      rcases p with x | x
      · exact k2.elim
      · have k2 : Sum.inl (y2, as, rest) = x := k2
        subst k2
        rw [k1]
        split at hm
        · cases hm
        · rename_i M2 hM2
          have hm := (b_if hm).2
          split at hm
          · cases hm
          · rename_i r2 h2 hc
            obtain ⟨e1, g1⟩ := ih y2 _ _ _ _ _ _ _ _ hy2 hM2 g (lqL.rf _) hc
            obtain ⟨e2, g2⟩ := ih y _ _ _ _ _ _ _ _ hy hM g1 l hm
            refine ⟨?_, g2⟩
            show (match m_tab[y2]? with | none => none | some M1 => _) = _
            rw [hM2]
            dsimp only
            rw [e1]
            exact e2
    · rename_i r2 hs
      obtain ⟨⟨p, k1, k2⟩, -⟩ := key _ hs
      rcases p with x | x
      · exact k2.elim
      · have k2 : Sum.inr r2 = x := k2
        subst k2
        cases hm
        rw [k1]
        exact ⟨rfl, g⟩
/-- what holds behind a run of the unchecked machine, if it ends -/
def UP (M : MM) (i : Nat) (L : ML) (st : List Value) (s : SG) (P : Option Value → SG → Prop) : Prop := ∀ n q, urun n M i L st s = some q → P q.1 q.2
def ustp : Nat → MM → Nat × ML × List Value × SG → Option (Nat × ML × List Value × SG)
  | 0, _, x => some x
  | n + 1, M, (i, L, st, s) => match ustep M i L st s with
    | some (.inl y) => ustp n M y
    | _ => none
section UPS
variable {M M1 : MM} {i y : Nat} {L : ML} {st : List Value} {s : SG} {P : Option Value → SG → Prop} {c : Jvm.ClassFile.Cond} {pc len : Nat} {off : Int} {ops : List Int}
theorem UP.one {i1 : Nat} {L1 : ML} {st1 : List Value} {s1 : SG} (hs : ustep M i L st s = some (.inl (i1, L1, st1, s1))) (k : UP M i1 L1 st1 s1 P) : UP M i L st s P := by
  intro n q hq
  cases n with
  | zero => cases hq
  | succ n =>
    rw [urun_s] at hq
    unfold ubody at hq
    rw [hs] at hq
    exact k n q hq
theorem UP.stp : ∀ (n : Nat) {i i1 : Nat} {L L1 : ML} {st st1 : List Value} {s s1 : SG}, ustp n M (i, L, st, s) = some (i1, L1, st1, s1) → UP M i1 L1 st1 s1 P → UP M i L st s P
  | 0, i, i1, L, L1, st, st1, s, s1, hs, k => by cases hs; exact k
  | n + 1, i, i1, L, L1, st, st1, s, s1, hs, k => by
    have hs : (match ustep M i L st s with | some (.inl y) => ustp n M y | _ => none) = some (i1, L1, st1, s1) := hs
    split at hs
    · rename_i y he
      obtain ⟨i2, L2, st2, s2⟩ := y
      exact UP.one he (UP.stp n hs k)
    · cases hs
theorem UP.ret {r : Option Value} (hs : ustep M i L st s = some (.inr (.inr r))) (hp : P r s) : UP M i L st s P := by
  intro n q hq
  cases n with
  | zero => cases hq
  | succ n =>
    rw [urun_s] at hq
    unfold ubody at hq
    rw [hs] at hq
    cases hq
    exact hp
theorem UP.mono {P1 : Option Value → SG → Prop} (k : UP M i L st s P1) (hp : ∀ r s1, P1 r s1 → P r s1) : UP M i L st s P := fun n q hq => hp _ _ (k n q hq)
theorem UP.call {as rest : List Value} {P1 : Option Value → SG → Prop} (hs : ustep M i L st s = some (.inr (.inl (y, as, rest)))) (hy : m_tab[y]? = some M1) (kc : UP M1 0 (m_ent (mx M1) as) [] s P1) (k : ∀ r s1, P1 r s1 → UP M (i + 1) L (r.toList ++ rest) s1 P) : UP M i L st s P := by
  intro n q hq
  cases n with
  | zero => cases hq
  | succ n =>
    rw [urun_s] at hq
    unfold ubody at hq
    rw [hs] at hq
    dsimp only at hq
    rw [hy] at hq
    dsimp only at hq
    split at hq
    · cases hq
    · rename_i r s1 hc
      exact k r s1 (kc n _ hc) n q hq
theorem UP.cV {as rest : List Value} {T : SG} (hs : ustep M i L st s = some (.inr (.inl (y, as, rest)))) (hy : m_tab[y]? = some M1) (kc : UP M1 0 (m_ent (mx M1) as) [] s (fun r s1 => r = none ∧ s1 = T)) (k : ∀ z, T = z → UP M (i + 1) L rest z P) : UP M i L st s P := UP.call hs hy kc (fun r s1 q => by obtain ⟨rfl, q⟩ := q; exact k s1 q.symm)
theorem UP.cI {as rest : List Value} {T : Int32} (hs : ustep M i L st s = some (.inr (.inl (y, as, rest)))) (hy : m_tab[y]? = some M1) (kc : UP M1 0 (m_ent (mx M1) as) [] s (fun r s1 => r = some (.int T) ∧ s1 = s)) (k : UP M (i + 1) L (.int T :: rest) s P) : UP M i L st s P := UP.call hs hy kc (fun r s1 q => by obtain ⟨rfl, q⟩ := q; rw [q]; exact k)
theorem UP.cJ {as rest : List Value} {T : Int64} (hs : ustep M i L st s = some (.inr (.inl (y, as, rest)))) (hy : m_tab[y]? = some M1) (kc : UP M1 0 (m_ent (mx M1) as) [] s (fun r s1 => r = some (.long T) ∧ s1 = s)) (k : UP M (i + 1) L (.long T :: rest) s P) : UP M i L st s P := UP.call hs hy kc (fun r s1 q => by obtain ⟨rfl, q⟩ := q; rw [q]; exact k)
theorem UP.cB {as rest : List Value} {T : Int32 × SG} (hs : ustep M i L st s = some (.inr (.inl (y, as, rest)))) (hy : m_tab[y]? = some M1) (kc : UP M1 0 (m_ent (mx M1) as) [] s (fun r s1 => r = some (.int T.1) ∧ s1 = T.2)) (k : ∀ z, T = z → UP M (i + 1) L (.int z.1 :: rest) z.2 P) : UP M i L st s P := UP.call hs hy kc (fun r s1 q => by obtain ⟨rfl, q⟩ := q; rw [q]; exact k T rfl)
theorem UP.cL {as rest : List Value} {T : Int64 × SG} (hs : ustep M i L st s = some (.inr (.inl (y, as, rest)))) (hy : m_tab[y]? = some M1) (kc : UP M1 0 (m_ent (mx M1) as) [] s (fun r s1 => r = some (.long T.1) ∧ s1 = T.2)) (k : ∀ z, T = z → UP M (i + 1) L (.long z.1 :: rest) z.2 P) : UP M i L st s P := UP.call hs hy kc (fun r s1 q => by obtain ⟨rfl, q⟩ := q; rw [q]; exact k T rfl)
theorem UP.cR {as rest : List Value} {T : SG} {a : Nat} (hs : ustep M i L st s = some (.inr (.inl (y, as, rest)))) (hy : m_tab[y]? = some M1) (kc : UP M1 0 (m_ent (mx M1) as) [] s (fun r s1 => r = some (.ref a) ∧ s1 = T)) (k : ∀ z, T = z → UP M (i + 1) L (.ref a :: rest) z P) : UP M i L st s P := UP.call hs hy kc (fun r s1 q => by obtain ⟨rfl, q⟩ := q; exact k s1 q.symm)
theorem UP.icT {x y : Int32} (hrow : (mc M)[i]? = some (pc, .if_icmp c off, len, ops)) (hc : m_cmp c x y = true) (k : UP M (m_n ops 0) L st s P) : UP M i L (.int y :: .int x :: st) s P := by
  refine UP.one ?_ k
  unfold ustep
  rw [hrow]
  show (bif m_cmp c x y then some (Sum.inl (m_n ops 0, [], st, [])) else o_nx i [] st []).map (uo L s) = _
  rw [hc]
  rfl
theorem UP.icF {x y : Int32} (hrow : (mc M)[i]? = some (pc, .if_icmp c off, len, ops)) (hc : m_cmp c x y = false) (k : UP M (i + 1) L st s P) : UP M i L (.int y :: .int x :: st) s P := by
  refine UP.one ?_ k
  unfold ustep
  rw [hrow]
  show (bif m_cmp c x y then some (Sum.inl (m_n ops 0, [], st, [])) else o_nx i [] st []).map (uo L s) = _
  rw [hc]
  rfl
theorem UP.ifT {x : Int32} (hrow : (mc M)[i]? = some (pc, .ifCond c off, len, ops)) (hc : m_cmp c x 0 = true) (k : UP M (m_n ops 0) L st s P) : UP M i L (.int x :: st) s P := by
  refine UP.one ?_ k
  unfold ustep
  rw [hrow]
  show (bif m_cmp c x 0 then some (Sum.inl (m_n ops 0, [], st, [])) else o_nx i [] st []).map (uo L s) = _
  rw [hc]
  rfl
theorem UP.ifF {x : Int32} (hrow : (mc M)[i]? = some (pc, .ifCond c off, len, ops)) (hc : m_cmp c x 0 = false) (k : UP M (i + 1) L st s P) : UP M i L (.int x :: st) s P := by
  refine UP.one ?_ k
  unfold ustep
  rw [hrow]
  show (bif m_cmp c x 0 then some (Sum.inl (m_n ops 0, [], st, [])) else o_nx i [] st []).map (uo L s) = _
  rw [hc]
  rfl
theorem UP.ald {a e : Nat} {j : Int32} (hrow : (mc M)[i]? = some (pc, .iaload, len, ops)) (hj : j = Int32.ofNat e) (he : e < 2147483648) (k : UP M (i + 1) L (.int (s a e) :: st) s P) : UP M i L (.int j :: .ref a :: st) s P := by
  have e1 : j.toNatClampNeg = e := by
    rw [hj]
    exact Int32.toNatClampNeg_ofNat_of_lt he
  refine UP.one (i1 := i + 1) (L1 := L) (st1 := .int (s a e) :: st) (s1 := s) ?_ k
  unfold ustep
  rw [hrow]
  show some (Sum.inl (i + 1, L, Value.int (s a j.toNatClampNeg) :: st, s)) = _
  rw [e1]
theorem UP.ast {a e : Nat} {j x : Int32} (hrow : (mc M)[i]? = some (pc, .iastore, len, ops)) (hj : j = Int32.ofNat e) (he : e < 2147483648) (k : UP M (i + 1) L st (uset s a e x) P) : UP M i L (.int x :: .int j :: .ref a :: st) s P := by
  have e1 : j.toNatClampNeg = e := by
    rw [hj]
    exact Int32.toNatClampNeg_ofNat_of_lt he
  refine UP.one (i1 := i + 1) (L1 := L) (st1 := st) (s1 := uset s a e x) ?_ k
  unfold ustep
  rw [hrow]
  show some (Sum.inl (i + 1, L, st, uset s a j.toNatClampNeg x)) = _
  rw [e1]
theorem UP.aald {a e r : Nat} {j : Int32} (hrow : (mc M)[i]? = some (pc, .aaload, len, ops)) (hj : j = Int32.ofNat e) (he : e < 2147483648) (hr : uar a e = r) (k : UP M (i + 1) L (.ref r :: st) s P) : UP M i L (.int j :: .ref a :: st) s P := by
  have e1 : j.toNatClampNeg = e := by
    rw [hj]
    exact Int32.toNatClampNeg_ofNat_of_lt he
  refine UP.one (i1 := i + 1) (L1 := L) (st1 := .ref r :: st) (s1 := s) ?_ k
  unfold ustep
  rw [hrow]
  show some (Sum.inl (i + 1, L, Value.ref (uar a j.toNatClampNeg) :: st, s)) = _
  rw [e1, hr]
/-- the ways part: what comes of it is told of each -/
theorem UP.spl {β : Type} {Q : β → Option Value → SG → Prop} {T : β} (b : Bool) (X Y : β) (hT : T = (bif b then X else Y)) (kt : b = true → UP M i L st s (Q X)) (kf : b = false → UP M i L st s (Q Y)) : UP M i L st s (Q T) := by
  subst hT
  cases b with
  | true => exact kt rfl
  | false => exact kf rfl
end UPS
/-- two ways that meet again -/
theorem mrg {α : Type} {G : Prop} (b : Bool) (x y : α) (K : α → Prop) (ht : b = true → K x → G) (hf : b = false → K y → G) (k : ∀ v, (bif b then x else y) = v → K v) : G := by
  cases b with
  | true => exact ht rfl (k x rfl)
  | false => exact hf rfl (k y rfl)
theorem spl {G : Prop} (b : Bool) (ht : b = true → G) (hf : b = false → G) : G := by
  cases b with
  | true => exact ht rfl
  | false => exact hf rfl
theorem nm {α : Type} {G : α → Prop} (x : α) (k : ∀ v, x = v → G v) : G x := k x rfl
def Qv (T : SG) (r : Option Value) (s1 : SG) : Prop := r = none ∧ s1 = T
def Qi (s0 : SG) (T : Int32) (r : Option Value) (s1 : SG) : Prop := r = some (.int T) ∧ s1 = s0
def Qb (T : Int32 × SG) (r : Option Value) (s1 : SG) : Prop := r = some (.int T.1) ∧ s1 = T.2
def Qj (s0 : SG) (T : Int64) (r : Option Value) (s1 : SG) : Prop := r = some (.long T) ∧ s1 = s0
def Ql (T : Int64 × SG) (r : Option Value) (s1 : SG) : Prop := r = some (.long T.1) ∧ s1 = T.2
def Qr (a : Nat) (T : SG) (r : Option Value) (s1 : SG) : Prop := r = some (.ref a) ∧ s1 = T
def itr {α : Type} (f : Nat → α → α) : Nat → Nat → α → α
  | _, 0, a => a
  | lo, n + 1, a => itr f (lo + 1) n (f lo a)
theorem lp {α : Type} (G : Nat → α → Prop) (I : Nat → α → Prop) (f : Nat → α → α) (hi : Nat) (inv : ∀ i a, i < hi → I i a → I (i + 1) (f i a)) (stp : ∀ i a, i < hi → I i a → G (i + 1) (f i a) → G i a) : ∀ (n lo : Nat) (a : α), lo + n = hi → I lo a → (∀ z, itr f lo n a = z → I hi z → G hi z) → G lo a
  | 0, lo, a, hn, hI, k => by
    have e : lo = hi := by omega
    subst e
    exact k a rfl hI
  | n + 1, lo, a, hn, hI, k => by
    have hlt : lo < hi := by omega
    exact stp lo a hlt hI (lp G I f hi inv stp n (lo + 1) (f lo a) (by omega) (inv lo a hlt hI) k)
theorem ofn_add {x y : Int32} {a b : Nat} (hx : x = Int32.ofNat a) (hy : y = Int32.ofNat b) : x + y = Int32.ofNat (a + b) := by rw [hx, hy, Int32.ofNat_add]
theorem ofn_mul {x y : Int32} {a b : Nat} (hx : x = Int32.ofNat a) (hy : y = Int32.ofNat b) : x * y = Int32.ofNat (a * b) := by rw [hx, hy, Int32.ofNat_mul]
theorem ofn_s (i : Nat) : Int32.ofNat i + 1 = Int32.ofNat (i + 1) := (ofn_add rfl rfl)
theorem ofn_int {i : Nat} (h : i < 2147483648) : (Int32.ofNat i).toInt = i := Int32.toInt_ofNat_of_lt h
theorem cl_lt (x : Int32) : x.toNatClampNeg < 2147483648 := by
  have h1 := i32_le x
  show x.toInt.toNat < _
  omega
theorem ge_T (v : Int32) : m_cmp .ge (Int32.ofNat v.toNatClampNeg) v = true := m_ge_iff.mpr (by
  rw [ofn_int (cl_lt v)]
  show v.toInt ≤ (v.toInt.toNat : Int)
  omega)
theorem ge_F {i : Nat} {v : Int32} (h : i < v.toNatClampNeg) : m_cmp .ge (Int32.ofNat i) v = false := by
  cases hc : m_cmp .ge (Int32.ofNat i) v with
  | false => rfl
  | true =>
    have h0 := cl_lt v
    have h1 := m_ge_iff.mp hc
    rw [ofn_int (by omega)] at h1
    have h : i < v.toInt.toNat := h
    omega
/-- where a memory may differ: cells lo to hi, at one place or at any -/
def inW (W : List (Nat × Nat × Option Nat)) (a j : Nat) : Bool := W.any (fun w => Nat.ble w.1 a && (Nat.ble a w.2.1 && (match w.2.2 with | none => true | some k => k == j)))
def Fr (W : List (Nat × Nat × Option Nat)) (s s1 : SG) : Prop := ∀ a j, inW W a j = false → s1 a j = s a j
theorem Fr.rf (W : List (Nat × Nat × Option Nat)) (s : SG) : Fr W s s := fun _ _ _ => rfl
theorem Fr.tr {W : List (Nat × Nat × Option Nat)} {s s1 s2 : SG} (a : Fr W s s1) (b : Fr W s1 s2) : Fr W s s2 := fun x j h => (b x j h).trans (a x j h)
theorem Fr.uset {W : List (Nat × Nat × Option Nat)} {s s1 : SG} {a j : Nat} {x : Int32} (h : inW W a j = true) (k : Fr W s s1) : Fr W s (uset s1 a j x) := fun b i hb => by
  show (if b = a ∧ i = j then x else s1 b i) = s b i
  by_cases e : b = a ∧ i = j
  · rw [e.1, e.2, h] at hb
    cases hb
  · rw [if_neg e]
    exact k b i hb
theorem Fr.bif {W : List (Nat × Nat × Option Nat)} {s s1 s2 : SG} {b : Bool} (k1 : Fr W s s1) (k2 : Fr W s s2) : Fr W s (bif b then s1 else s2) := by
  cases b
  · exact k2
  · exact k1
theorem Fr.bifp {α : Type} {W : List (Nat × Nat × Option Nat)} {s : SG} {b : Bool} {x y : α} (m : α → SG) (k1 : Fr W s (m x)) (k2 : Fr W s (m y)) : Fr W s (m (bif b then x else y)) := by
  cases b
  · exact k2
  · exact k1
theorem Fr.mvs {W : List (Nat × Nat × Option Nat)} {s s1 : SG} {a0 i a1 j n : Nat} (h : W.any (fun w => Nat.ble w.1 a1 && (Nat.ble a1 w.2.1 && w.2.2.isNone)) = true) (k : Fr W s s1) : Fr W s (mvs s1 a0 i a1 j n) := fun b q hb => by
  show (if b = a1 ∧ j ≤ q ∧ q < j + n then s1 a0 (i + (q - j)) else s1 b q) = s b q
  by_cases e : b = a1 ∧ j ≤ q ∧ q < j + n
  · obtain ⟨w, w1, w2⟩ := List.any_eq_true.mp h
    obtain ⟨a, c⟩ := b_and w2
    obtain ⟨c, d⟩ := b_and c
    have q2 : inW W b q = true := by
      refine List.any_eq_true.mpr ⟨w, w1, ?_⟩
      rw [e.1, a, c, Option.isNone_iff_eq_none.mp d]
      rfl
    rw [q2] at hb
    cases hb
  · rw [if_neg e]
    exact k b q hb
theorem Fr.itr {α : Type} {W : List (Nat × Nat × Option Nat)} {s : SG} {m : α → SG} {f : Nat → α → α} (hf : ∀ i a, Fr W (m a) (m (f i a))) : ∀ (n lo : Nat) (a : α), Fr W s (m a) → Fr W s (m (itr f lo n a))
  | 0, _, _, k => k
  | n + 1, lo, a, k => Fr.itr hf n (lo + 1) (f lo a) (k.tr (hf lo a))
def subW (W W2 : List (Nat × Nat × Option Nat)) : Bool := W.all (fun w => W2.any (fun v => Nat.ble v.1 w.1 && (Nat.ble w.2.1 v.2.1 && (match v.2.2 with | none => true | some k => w.2.2 == some k))))
theorem Fr.wk {W W2 : List (Nat × Nat × Option Nat)} {s s1 : SG} (k : Fr W s s1) (h : subW W W2 = true) : Fr W2 s s1 := fun a j hj => k a j (by
  cases hw : inW W a j with
  | false => rfl
  | true =>
    obtain ⟨w, w1, w2⟩ := List.any_eq_true.mp hw
    obtain ⟨v, v1, v2⟩ := List.any_eq_true.mp (List.all_eq_true.mp h w w1)
    obtain ⟨a1, a2⟩ := b_and w2
    obtain ⟨a2, a3⟩ := b_and a2
    obtain ⟨c1, c2⟩ := b_and v2
    obtain ⟨c2, c3⟩ := b_and c2
    have q : inW W2 a j = true := by
      refine List.any_eq_true.mpr ⟨v, v1, ?_⟩
      have e1 : Nat.ble v.1 a = true := Nat.ble_eq.mpr (Nat.le_trans (Nat.ble_eq.mp c1) (Nat.ble_eq.mp a1))
      have e2 : Nat.ble a v.2.1 = true := Nat.ble_eq.mpr (Nat.le_trans (Nat.ble_eq.mp a2) (Nat.ble_eq.mp c2))
      rw [e1, e2]
      show (match v.2.2 with | none => true | some k => k == j) = true
      split at c3
      · rfl
      · rename_i k hv
        have c3 : w.2.2 = some k := by simpa using c3
        rw [c3] at a3
        exact a3
    rw [q] at hj
    cases hj)
end
section
/-! fills; frames of bounded loops -/
def fil (s : SG) (a n : Nat) (v : Int32) : SG := fun b k => if b = a ∧ k < n then v else s b k
theorem Fr.fil {W : List (Nat × Nat × Option Nat)} {s s1 : SG} {a n : Nat} {v : Int32} (h : W.any (fun w => Nat.ble w.1 a && (Nat.ble a w.2.1 && w.2.2.isNone)) = true) (k : Fr W s s1) : Fr W s (fil s1 a n v) := fun b q hb => by
  show (if b = a ∧ q < n then v else s1 b q) = s b q
  by_cases e : b = a ∧ q < n
  · obtain ⟨w, w1, w2⟩ := List.any_eq_true.mp h
    obtain ⟨a1, c⟩ := b_and w2
    obtain ⟨c, d⟩ := b_and c
    have q2 : inW W b q = true := by
      refine List.any_eq_true.mpr ⟨w, w1, ?_⟩
      rw [e.1, a1, c, Option.isNone_iff_eq_none.mp d]
      rfl
    rw [q2] at hb
    cases hb
  · rw [if_neg e]
    exact k b q hb
theorem frItrB {α : Type} {W : List (Nat × Nat × Option Nat)} {s : SG} {m : α → SG} {f : Nat → α → α} (hi : Nat) (hf : ∀ i a, i < hi → Fr W (m a) (m (f i a))) : ∀ (n lo : Nat) (a : α), lo + n ≤ hi → Fr W s (m a) → Fr W s (m (itr f lo n a))
  | 0, _, _, _, k => k
  | n + 1, lo, a, h, k => frItrB hi hf n (lo + 1) (f lo a) (by omega) (k.tr (hf lo a (by omega)))
theorem inW_r {W : List (Nat × Nat × Option Nat)} {a j : Nat} (lo hi : Nat) (h1 : lo ≤ a) (h2 : a ≤ hi) (hm : W.any (fun w => w.1 == lo && (w.2.1 == hi && w.2.2.isNone)) = true) : inW W a j = true := by
  obtain ⟨w, w1, w2⟩ := List.any_eq_true.mp hm
  obtain ⟨a1, c⟩ := b_and w2
  obtain ⟨c, d⟩ := b_and c
  have a1 : w.1 = lo := by simpa using a1
  have c : w.2.1 = hi := by simpa using c
  refine List.any_eq_true.mpr ⟨w, w1, ?_⟩
  rw [a1, c, Option.isNone_iff_eq_none.mp d, Nat.ble_eq.mpr h1, Nat.ble_eq.mpr h2]
  rfl
theorem fil_s (s : SG) (a n : Nat) (v : Int32) : uset (fil s a n v) a n v = fil s a (n + 1) v := by
  funext b k
  show (if b = a ∧ k = n then v else if b = a ∧ k < n then v else s b k) = if b = a ∧ k < n + 1 then v else s b k
  by_cases e : b = a
  · by_cases h1 : k = n
    · rw [if_pos ⟨e, h1⟩, if_pos ⟨e, by omega⟩]
    · rw [if_neg (fun q => h1 q.2)]
      by_cases h2 : k < n
      · rw [if_pos ⟨e, h2⟩, if_pos ⟨e, by omega⟩]
      · rw [if_neg (fun q => h2 q.2), if_neg (fun q => h2 (by omega))]
  · rw [if_neg (fun q => e q.1), if_neg (fun q => e q.1), if_neg (fun q => e q.1)]
theorem fil_0 (s : SG) (a : Nat) (v : Int32) : fil s a 0 v = s := by
  funext b k
  exact if_neg (fun q => by omega)
theorem ux_fill (s : SG) (a : Nat) (v : Int32) (n : Nat) (hn : uln a = n) (h : n < 2147483648) : UP m_J7_fill_53178 0 (m_ent 4 [.ref a, .int v]) [] s (Qv (fil s a n v)) := by
  have key : ∀ (m i : Nat), i + m = n → UP m_J7_fill_53178 5 [some (.ref a), some (.int v), some (.int (Int32.ofNat i)), some (.int (Int32.ofNat n))] [] (fil s a i v) (Qv (fil s a n v)) := by
    intro m
    have e0 : (Int32.ofNat n).toNatClampNeg = n := Int32.toNatClampNeg_ofNat_of_lt h
    induction m with
    | zero =>
      intro i hi
      have e : i = n := by omega
      subst e
      refine UP.stp 2 (i1 := 7) (L1 := [some (.ref a), some (.int v), some (.int (Int32.ofNat i)), some (.int (Int32.ofNat i))]) (st1 := [.int (Int32.ofNat i), .int (Int32.ofNat i)]) (s1 := fil s a i v) rfl ?_
      refine UP.icT rfl (by have := ge_T (Int32.ofNat i); rw [e0] at this; exact this) ?_
      exact UP.ret (r := none) rfl ⟨rfl, rfl⟩
    | succ m ih =>
      intro i hi
      refine UP.stp 2 (i1 := 7) (L1 := [some (.ref a), some (.int v), some (.int (Int32.ofNat i)), some (.int (Int32.ofNat n))]) (st1 := [.int (Int32.ofNat n), .int (Int32.ofNat i)]) (s1 := fil s a i v) rfl ?_
      refine UP.icF rfl (ge_F (by rw [e0]; omega)) ?_
      refine UP.stp 3 (i1 := 11) (L1 := [some (.ref a), some (.int v), some (.int (Int32.ofNat i)), some (.int (Int32.ofNat n))]) (st1 := [.int v, .int (Int32.ofNat i), .ref a]) (s1 := fil s a i v) rfl ?_
      refine UP.ast (e := i) rfl rfl (by omega) ?_
      rw [fil_s]
      refine UP.stp 2 (i1 := 5) (L1 := [some (.ref a), some (.int v), some (.int (Int32.ofNat i + 1)), some (.int (Int32.ofNat n))]) (st1 := []) (s1 := fil s a (i + 1) v) rfl ?_
      rw [ofn_s]
      exact ih (i + 1) (by omega)
  refine UP.stp 5 (i1 := 5) (L1 := [some (.ref a), some (.int v), some (.int 0), some (.int (Int32.ofNat (uln a)))]) (st1 := []) (s1 := s) rfl ?_
  rw [hn]
  have k := key n 0 (by omega)
  rw [fil_0] at k
  exact k
/-! loops that may be left -/
def itx {α β : Type} (f : Nat → α → α ⊕ β) : Nat → Nat → α → α ⊕ (Nat × β)
  | _, 0, a => .inl a
  | lo, n + 1, a => match f lo a with
    | .inl x => itx f (lo + 1) n x
    | .inr b => .inr (lo, b)
def Kx {α β : Type} (G : Nat → α → Prop) (E : Nat → β → Prop) (i : Nat) (v : α ⊕ β) : Prop := match v with
  | .inl a => G (i + 1) a
  | .inr b => E i b
theorem lpx {α β : Type} (G : Nat → α → Prop) (E : Nat → β → Prop) (I : Nat → α → Prop) (f : Nat → α → α ⊕ β) (hi : Nat) (inv : ∀ i a x, i < hi → I i a → f i a = .inl x → I (i + 1) x) (stp : ∀ i a, i < hi → I i a → Kx G E i (f i a) → G i a) : ∀ (n lo : Nat) (a : α), lo + n = hi → I lo a → (∀ z, itx f lo n a = .inl z → I hi z → G hi z) → (∀ i a2 b, itx f lo n a = .inr (i, b) → i < hi → I i a2 → f i a2 = .inr b → E i b) → G lo a
  | 0, lo, a, hn, hI, k, _ => by
    have e : lo = hi := by omega
    subst e
    exact k a rfl hI
  | n + 1, lo, a, hn, hI, k, kx => by
    have hlt : lo < hi := by omega
    refine stp lo a hlt hI ?_
    cases hf : f lo a with
    | inl x =>
      have e : itx f lo (n + 1) a = itx f (lo + 1) n x := by
        show (match f lo a with | .inl x => itx f (lo + 1) n x | .inr b => .inr (lo, b)) = _
        rw [hf]
      rw [e] at k kx
      exact lpx G E I f hi inv stp n (lo + 1) x (by omega) (inv lo a x hlt hI hf) k kx
    | inr b =>
      have e : itx f lo (n + 1) a = .inr (lo, b) := by
        show (match f lo a with | .inl x => itx f (lo + 1) n x | .inr b => .inr (lo, b)) = _
        rw [hf]
      exact kx lo a b e hlt hI hf
theorem brk {γ : Type} {K : γ → Prop} {G : Prop} (b : Bool) (X Y : γ) (k : K (bif b then X else Y)) (ht : b = true → K X → G) (hf : b = false → K Y → G) : G := by
  cases b with
  | true => exact ht rfl k
  | false => exact hf rfl k
theorem UP.eqT {M : MM} {i : Nat} {L : ML} {st : List Value} {s : SG} {β : Type} {Q : β → Option Value → SG → Prop} {T : β} (X : β) (hT : T = X) (k : UP M i L st s (Q X)) : UP M i L st s (Q T) := by
  subst hT
  exact k
theorem gt_F {i : Nat} {v : Int32} (h : i ≤ v.toNatClampNeg) (hv : 0 ≤ v.toInt) : m_cmp .gt (Int32.ofNat i) v = false := by
  cases hc : m_cmp .gt (Int32.ofNat i) v with
  | false => rfl
  | true =>
    have h0 := cl_lt v
    have h1 := m_gt_iff.mp hc
    rw [ofn_int (by omega)] at h1
    have h : i ≤ v.toInt.toNat := h
    omega
theorem gt_T {i : Nat} {v : Int32} (h : v.toNatClampNeg < i) (hi : i < 2147483648) : m_cmp .gt (Int32.ofNat i) v = true := m_gt_iff.mpr (by
  rw [ofn_int hi]
  have h : v.toInt.toNat < i := h
  omega)
/-- one cell's ints, looked at -/
theorem uset_eq (s : SG) (a j : Nat) (x : Int32) : uset s a j x a j = x := if_pos ⟨rfl, rfl⟩
theorem uset_ne {s : SG} {a j b k : Nat} {x : Int32} (h : ¬ (b = a ∧ k = j)) : uset s a j x b k = s b k := if_neg h
theorem uset_na {s : SG} {a j b k : Nat} {x : Int32} (h : ¬ b = a) : uset s a j x b k = s b k := if_neg (fun q => h q.1)
theorem uset_nj {s : SG} {a j b k : Nat} {x : Int32} (h : ¬ k = j) : uset s a j x b k = s b k := if_neg (fun q => h q.2)
theorem ne_int {x c : Int32} (h : m_cmp .eq x c = false) : x.toInt ≠ c.toInt := fun e => by
  have := m_ff m_eq_iff h
  exact this (Int32.toInt_inj.mp e)
theorem UP.swT {M : MM} {i : Nat} {L : ML} {st : List Value} {s : SG} {P : Option Value → SG → Prop} {pc len : Nat} {ops : List Int} {d lo hi : Int} {offs : Array Int} {x : Int32} (c : Int32) (hrow : (mc M)[i]? = some (pc, .tableswitch d lo hi offs, len, ops)) (hx : m_cmp .eq x c = true) (h1 : lo ≤ c.toInt) (h2 : c.toInt ≤ hi) (k : UP M (m_n ops ((c.toInt - lo).toNat + 1)) L st s P) : UP M i L (.int x :: st) s P := by
  have e := m_eq_iff.mp hx
  subst e
  refine UP.one ?_ k
  unfold ustep
  rw [hrow]
  show (if x.toInt < lo ∨ hi < x.toInt then some (Sum.inl (m_n ops 0, [], st, [])) else some (Sum.inl (m_n ops ((x.toInt - lo).toNat + 1), [], st, []))).map (uo L s) = _
  rw [if_neg (by omega)]
  rfl
theorem UP.swD {M : MM} {i : Nat} {L : ML} {st : List Value} {s : SG} {P : Option Value → SG → Prop} {pc len : Nat} {ops : List Int} {d lo hi : Int} {offs : Array Int} {x : Int32} (hrow : (mc M)[i]? = some (pc, .tableswitch d lo hi offs, len, ops)) (h : x.toInt < lo ∨ hi < x.toInt) (k : UP M (m_n ops 0) L st s P) : UP M i L (.int x :: st) s P := by
  refine UP.one ?_ k
  unfold ustep
  rw [hrow]
  show (if x.toInt < lo ∨ hi < x.toInt then some (Sum.inl (m_n ops 0, [], st, [])) else some (Sum.inl (m_n ops ((x.toInt - lo).toNat + 1), [], st, []))).map (uo L s) = _
  rw [if_pos h]
  rfl
theorem itx_last {α β : Type} (f : Nat → α → α ⊕ β) : ∀ (n lo : Nat) (a z : α), itx f lo (n + 1) a = .inl z → ∃ x, f (lo + n) x = .inl z
  | 0, lo, a, z, h => by
    have h : (match f lo a with | .inl x => itx f (lo + 1) 0 x | .inr b => .inr (lo, b)) = .inl z := h
    split at h
    · rename_i x hx
      have h : (Sum.inl x : α ⊕ (Nat × β)) = .inl z := h
      cases h
      exact ⟨a, hx⟩
    · cases h
  | n + 1, lo, a, z, h => by
    have h : (match f lo a with | .inl x => itx f (lo + 1) (n + 1) x | .inr b => .inr (lo, b)) = .inl z := h
    split at h
    · rename_i x hx
      obtain ⟨y, hy⟩ := itx_last f n (lo + 1) x z h
      exact ⟨y, by rw [show lo + (n + 1) = lo + 1 + n by omega]; exact hy⟩
    · cases h
theorem frItx {α β : Type} {W : List (Nat × Nat × Option Nat)} {s : SG} {m1 : α → SG} {m2 : β → SG} {f : Nat → α → α ⊕ β} (hi : Nat) (hf : ∀ i a, i < hi → Fr W (m1 a) (Sum.elim m1 m2 (f i a))) : ∀ (n lo : Nat) (a : α), lo + n ≤ hi → Fr W s (m1 a) → Fr W s (Sum.elim m1 (fun x : Nat × β => m2 x.2) (itx f lo n a))
  | 0, _, _, _, k => k
  | n + 1, lo, a, h, k => by
    have q := hf lo a (by omega)
    show Fr W s (Sum.elim m1 (fun x : Nat × β => m2 x.2) (match f lo a with | .inl x => itx f (lo + 1) n x | .inr b => .inr (lo, b)))
    cases hfa : f lo a with
    | inl x =>
      rw [hfa] at q
      exact frItx hi hf n (lo + 1) x (by omega) (k.tr q)
    | inr b =>
      rw [hfa] at q
      exact k.tr q
theorem frElim {α β γ : Type} {W : List (Nat × Nat × Option Nat)} {s : SG} {m : γ → SG} {X : α → γ} {Y : β → γ} {x : α ⊕ β} (h1 : ∀ a, x = .inl a → Fr W s (m (X a))) (h2 : ∀ b, x = .inr b → Fr W s (m (Y b))) : Fr W s (m (Sum.elim X Y x)) := by
  cases x with
  | inl a => exact h1 a rfl
  | inr b => exact h2 b rfl
end
section
/-! the model: a trip, as a function (printed by wip/u/mk_m1.py) -/
def W_isIn : List (Nat × Nat × Option Nat) := []
def F_isIn (s : SG) (b : Int32) (k : Int32) : Int32 := let v1 := bif m_cmp .ne ((b >>> (k &&& 31)) &&& (1 : Int32)) 1 then (0 : Int32) else (1 : Int32); v1
theorem ux_isIn (s : SG) (b : Int32) (k : Int32)  : UP m_X7_isIn 0 (m_ent 2 [.int b, .int k]) [] s (Qi s (F_isIn s b k)) := by
  refine UP.stp 6 (i1 := 6) (L1 := [some (.int b), some (.int k)]) (st1 := [.int 1, .int ((b >>> (k &&& 31)) &&& (1 : Int32))]) (s1 := s) rfl ?_
  refine mrg (m_cmp .ne ((b >>> (k &&& 31)) &&& (1 : Int32)) 1) (0 : Int32) (1 : Int32) (fun v1 : Int32 => UP m_X7_isIn 10 [some (.int b), some (.int k)] [.int v1] s (Qi s (F_isIn s b k))) (fun cc kk => ?_) (fun cc kk => ?_) (fun v1 e1 => ?_)
  · skip
    refine UP.icT rfl cc ?_
    refine UP.stp 1 (i1 := 10) (L1 := [some (.int b), some (.int k)]) (st1 := [.int 0]) (s1 := s) rfl ?_
    exact kk
  · skip
    refine UP.icF rfl cc ?_
    refine UP.stp 2 (i1 := 10) (L1 := [some (.int b), some (.int k)]) (st1 := [.int 1]) (s1 := s) rfl ?_
    exact kk
  exact UP.ret (r := some (.int v1)) rfl ⟨by subst e1; first | (dsimp only [F_isIn]; done) | (dsimp only; done) | rfl, by subst e1; first | (dsimp only [F_isIn]; done) | (dsimp only; done) | rfl⟩
def W_befalls : List (Nat × Nat × Option Nat) := [(123, 123, some 25), (123, 123, some 26), (123, 123, some 27)]
def B_befalls_11 (t : Nat) (i1 : Nat) (a1 : SG) : SG := let v11 := bif m_cmp .ne (a1 131 i1) (Int32.ofNat t) then a1 else (bif m_cmp .ne (F_isIn a1 (a1 123 17) (Int32.ofNat i1)) 0 then a1 else (uset (uset (uset a1 123 25 ((a1 123 25) ||| (bif m_cmp .ne (a1 130 i1) 0 then (0 : Int32) else 1 <<< ((a1 132 i1) &&& 31)))) 123 26 ((a1 123 26) + (bif m_cmp .ne (a1 130 i1) 1 then (0 : Int32) else (bif m_cmp .ne ((a1 132 i1) - (a1 132 i1) / 2 * 2) 1 then (-2 : Int32) else (2 : Int32))))) 123 27 ((a1 123 27) + (bif m_cmp .ne (a1 130 i1) 2 then (0 : Int32) else (3 : Int32))))); v11
theorem fr_B_befalls_11 (t : Nat) (i1 : Nat) (a1 : SG)   : Fr W_befalls a1 ((B_befalls_11 t) i1 a1) := by dsimp only [B_befalls_11]; exact (Fr.bif (b := m_cmp .ne (a1 131 i1) (Int32.ofNat t)) (s1 := a1) (s2 := (bif m_cmp .ne (F_isIn a1 (a1 123 17) (Int32.ofNat i1)) 0 then a1 else (uset (uset (uset a1 123 25 ((a1 123 25) ||| (bif m_cmp .ne (a1 130 i1) 0 then (0 : Int32) else 1 <<< ((a1 132 i1) &&& 31)))) 123 26 ((a1 123 26) + (bif m_cmp .ne (a1 130 i1) 1 then (0 : Int32) else (bif m_cmp .ne ((a1 132 i1) - (a1 132 i1) / 2 * 2) 1 then (-2 : Int32) else (2 : Int32))))) 123 27 ((a1 123 27) + (bif m_cmp .ne (a1 130 i1) 2 then (0 : Int32) else (3 : Int32)))))) (Fr.rf _ _) (Fr.bif (b := m_cmp .ne (F_isIn a1 (a1 123 17) (Int32.ofNat i1)) 0) (s1 := a1) (s2 := (uset (uset (uset a1 123 25 ((a1 123 25) ||| (bif m_cmp .ne (a1 130 i1) 0 then (0 : Int32) else 1 <<< ((a1 132 i1) &&& 31)))) 123 26 ((a1 123 26) + (bif m_cmp .ne (a1 130 i1) 1 then (0 : Int32) else (bif m_cmp .ne ((a1 132 i1) - (a1 132 i1) / 2 * 2) 1 then (-2 : Int32) else (2 : Int32))))) 123 27 ((a1 123 27) + (bif m_cmp .ne (a1 130 i1) 2 then (0 : Int32) else (3 : Int32))))) (Fr.rf _ _) (Fr.uset (s1 := (uset (uset a1 123 25 ((a1 123 25) ||| (bif m_cmp .ne (a1 130 i1) 0 then (0 : Int32) else 1 <<< ((a1 132 i1) &&& 31)))) 123 26 ((a1 123 26) + (bif m_cmp .ne (a1 130 i1) 1 then (0 : Int32) else (bif m_cmp .ne ((a1 132 i1) - (a1 132 i1) / 2 * 2) 1 then (-2 : Int32) else (2 : Int32)))))) (a := 123) (j := 27) (x := ((a1 123 27) + (bif m_cmp .ne (a1 130 i1) 2 then (0 : Int32) else (3 : Int32)))) (by rfl) (Fr.uset (s1 := (uset a1 123 25 ((a1 123 25) ||| (bif m_cmp .ne (a1 130 i1) 0 then (0 : Int32) else 1 <<< ((a1 132 i1) &&& 31))))) (a := 123) (j := 26) (x := ((a1 123 26) + (bif m_cmp .ne (a1 130 i1) 1 then (0 : Int32) else (bif m_cmp .ne ((a1 132 i1) - (a1 132 i1) / 2 * 2) 1 then (-2 : Int32) else (2 : Int32))))) (by rfl) (Fr.uset (s1 := a1) (a := 123) (j := 25) (x := ((a1 123 25) ||| (bif m_cmp .ne (a1 130 i1) 0 then (0 : Int32) else 1 <<< ((a1 132 i1) &&& 31)))) (by rfl) (Fr.rf _ _))))))
def F_befalls (s : SG) (t : Nat) : SG := let z1 := itr (B_befalls_11 t) 0 (((uset (uset (uset s 123 25 0) 123 26 0) 123 27 0) 123 11).toNatClampNeg) (uset (uset (uset s 123 25 0) 123 26 0) 123 27 0); z1
theorem fr_befalls (s : SG) (t : Nat)  : Fr W_befalls s (F_befalls s t) := by dsimp only [F_befalls]; exact (Fr.itr (W := W_befalls) (m := (fun x : SG => x)) (f := (B_befalls_11 t)) (fun ii aa => Fr.wk (W2 := W_befalls) (fr_B_befalls_11 t ii aa ) (by rfl)) (((uset (uset (uset s 123 25 0) 123 26 0) 123 27 0) 123 11).toNatClampNeg) 0 (uset (uset (uset s 123 25 0) 123 26 0) 123 27 0) (Fr.uset (s1 := (uset (uset s 123 25 0) 123 26 0)) (a := 123) (j := 27) (x := 0) (by rfl) (Fr.uset (s1 := (uset s 123 25 0)) (a := 123) (j := 26) (x := 0) (by rfl) (Fr.uset (s1 := s) (a := 123) (j := 25) (x := 0) (by rfl) (Fr.rf _ _)))))
theorem ux_befalls (s : SG) (t : Nat)  : UP m_X7_befalls 0 (m_ent 3 [.ref 123, .int (Int32.ofNat t)]) [] s (Qv (F_befalls s t)) := by
  refine UP.stp 11 (i1 := 11) (L1 := [some (.ref 123), some (.int (Int32.ofNat t)), some (.int 0)]) (st1 := []) (s1 := (uset (uset (uset s 123 25 0) 123 26 0) 123 27 0)) rfl ?_
  refine lp (fun (i1 : Nat) (a1 : SG) => UP m_X7_befalls 11 [some (.ref 123), some (.int (Int32.ofNat t)), some (.int (Int32.ofNat i1))] [] a1 (Qv (F_befalls s t))) (fun (_ : Nat) (a1 : SG) => Fr W_befalls (uset (uset (uset s 123 25 0) 123 26 0) 123 27 0) a1) (B_befalls_11 t) (((uset (uset (uset s 123 25 0) 123 26 0) 123 27 0) 123 11).toNatClampNeg) (fun i1 a1 hi1 g1 => g1.tr (fr_B_befalls_11 t i1 a1 )) (fun i1 a1 hi1 g1 kk => ?_) (((uset (uset (uset s 123 25 0) 123 26 0) 123 27 0) 123 11).toNatClampNeg) (0) (uset (uset (uset s 123 25 0) 123 26 0) 123 27 0) (by  omega) (Fr.rf _ _) (fun z1 e1 g1 => ?_)
  · skip
    have hbi1 := cl_lt ((uset (uset (uset s 123 25 0) 123 26 0) 123 27 0) 123 11)
    refine UP.stp 3 (i1 := 14) (L1 := [some (.ref 123), some (.int (Int32.ofNat t)), some (.int (Int32.ofNat i1))]) (st1 := [.int (a1 123 11), .int (Int32.ofNat i1)]) (s1 := a1) rfl ?_
    refine UP.icF rfl (by rw [(g1 123 11 rfl)]; exact ge_F hi1) ?_
    refine UP.stp 3 (i1 := 18) (L1 := [some (.ref 123), some (.int (Int32.ofNat t)), some (.int (Int32.ofNat i1))]) (st1 := [.int (Int32.ofNat i1), .ref 131]) (s1 := a1) rfl ?_
    refine UP.ald (e := i1) rfl rfl (by omega) ?_
    show UP m_X7_befalls 19 [some (.ref 123), some (.int (Int32.ofNat t)), some (.int (Int32.ofNat i1))] [.int (a1 131 i1)] a1 (Qv (F_befalls s t))
    refine UP.stp 1 (i1 := 20) (L1 := [some (.ref 123), some (.int (Int32.ofNat t)), some (.int (Int32.ofNat i1))]) (st1 := [.int (Int32.ofNat t), .int (a1 131 i1)]) (s1 := a1) rfl ?_
    refine mrg (m_cmp .ne (a1 131 i1) (Int32.ofNat t)) a1 (bif m_cmp .ne (F_isIn a1 (a1 123 17) (Int32.ofNat i1)) 0 then a1 else (uset (uset (uset a1 123 25 ((a1 123 25) ||| (bif m_cmp .ne (a1 130 i1) 0 then (0 : Int32) else 1 <<< ((a1 132 i1) &&& 31)))) 123 26 ((a1 123 26) + (bif m_cmp .ne (a1 130 i1) 1 then (0 : Int32) else (bif m_cmp .ne ((a1 132 i1) - (a1 132 i1) / 2 * 2) 1 then (-2 : Int32) else (2 : Int32))))) 123 27 ((a1 123 27) + (bif m_cmp .ne (a1 130 i1) 2 then (0 : Int32) else (3 : Int32))))) (fun v11 : SG => UP m_X7_befalls 82 [some (.ref 123), some (.int (Int32.ofNat t)), some (.int (Int32.ofNat i1))] [] v11 (Qv (F_befalls s t))) (fun cc kk => ?_) (fun cc kk => ?_) (fun v11 e11 => ?_)
    · skip
      refine UP.icT rfl cc ?_
      exact kk
    · skip
      refine UP.icF rfl cc ?_
      refine UP.stp 3 (i1 := 24) (L1 := [some (.ref 123), some (.int (Int32.ofNat t)), some (.int (Int32.ofNat i1))]) (st1 := [.int (Int32.ofNat i1), .int (a1 123 17)]) (s1 := a1) rfl ?_
      refine UP.cI (M1 := m_X7_isIn) (as := [.int (a1 123 17), .int (Int32.ofNat i1)]) (rest := []) (T := F_isIn a1 (a1 123 17) (Int32.ofNat i1)) rfl rfl (ux_isIn a1 (a1 123 17) (Int32.ofNat i1)) ?_
      refine mrg (m_cmp .ne (F_isIn a1 (a1 123 17) (Int32.ofNat i1)) 0) a1 (uset (uset (uset a1 123 25 ((a1 123 25) ||| (bif m_cmp .ne (a1 130 i1) 0 then (0 : Int32) else 1 <<< ((a1 132 i1) &&& 31)))) 123 26 ((a1 123 26) + (bif m_cmp .ne (a1 130 i1) 1 then (0 : Int32) else (bif m_cmp .ne ((a1 132 i1) - (a1 132 i1) / 2 * 2) 1 then (-2 : Int32) else (2 : Int32))))) 123 27 ((a1 123 27) + (bif m_cmp .ne (a1 130 i1) 2 then (0 : Int32) else (3 : Int32)))) (fun v10 : SG => UP m_X7_befalls 82 [some (.ref 123), some (.int (Int32.ofNat t)), some (.int (Int32.ofNat i1))] [] v10 (Qv (F_befalls s t))) (fun cc kk => ?_) (fun cc kk => ?_) (fun v10 e10 => ?_)
      · skip
        refine UP.ifT rfl cc ?_
        exact kk
      · skip
        refine UP.ifF rfl cc ?_
        refine UP.stp 6 (i1 := 32) (L1 := [some (.ref 123), some (.int (Int32.ofNat t)), some (.int (Int32.ofNat i1))]) (st1 := [.int (Int32.ofNat i1), .ref 130, .int (a1 123 25), .ref 123]) (s1 := a1) rfl ?_
        refine UP.ald (e := i1) rfl rfl (by omega) ?_
        show UP m_X7_befalls 33 [some (.ref 123), some (.int (Int32.ofNat t)), some (.int (Int32.ofNat i1))] [.int (a1 130 i1), .int (a1 123 25), .ref 123] a1 (Qv (F_befalls s t))
        refine mrg (m_cmp .ne (a1 130 i1) 0) (0 : Int32) (1 <<< ((a1 132 i1) &&& 31)) (fun v3 : Int32 => UP m_X7_befalls 42 [some (.ref 123), some (.int (Int32.ofNat t)), some (.int (Int32.ofNat i1))] [.int v3, .int (a1 123 25), .ref 123] a1 (Qv (F_befalls s t))) (fun cc kk => ?_) (fun cc kk => ?_) (fun v3 e3 => ?_)
        · skip
          refine UP.ifT rfl cc ?_
          refine UP.stp 1 (i1 := 42) (L1 := [some (.ref 123), some (.int (Int32.ofNat t)), some (.int (Int32.ofNat i1))]) (st1 := [.int 0, .int (a1 123 25), .ref 123]) (s1 := a1) rfl ?_
          exact kk
        · skip
          refine UP.ifF rfl cc ?_
          refine UP.stp 4 (i1 := 38) (L1 := [some (.ref 123), some (.int (Int32.ofNat t)), some (.int (Int32.ofNat i1))]) (st1 := [.int (Int32.ofNat i1), .ref 132, .int 1, .int (a1 123 25), .ref 123]) (s1 := a1) rfl ?_
          refine UP.ald (e := i1) rfl rfl (by omega) ?_
          show UP m_X7_befalls 39 [some (.ref 123), some (.int (Int32.ofNat t)), some (.int (Int32.ofNat i1))] [.int (a1 132 i1), .int 1, .int (a1 123 25), .ref 123] a1 (Qv (F_befalls s t))
          refine UP.stp 2 (i1 := 42) (L1 := [some (.ref 123), some (.int (Int32.ofNat t)), some (.int (Int32.ofNat i1))]) (st1 := [.int (1 <<< ((a1 132 i1) &&& 31)), .int (a1 123 25), .ref 123]) (s1 := a1) rfl ?_
          exact kk
        refine UP.stp 1 (i1 := 43) (L1 := [some (.ref 123), some (.int (Int32.ofNat t)), some (.int (Int32.ofNat i1))]) (st1 := [.int ((a1 123 25) ||| v3), .ref 123]) (s1 := a1) rfl ?_
        refine nm (G := fun v4 => UP m_X7_befalls 43 [some (.ref 123), some (.int (Int32.ofNat t)), some (.int (Int32.ofNat i1))] [.int v4, .ref 123] a1 (Qv (F_befalls s t))) ((a1 123 25) ||| v3) (fun v4 e4 => ?_)
        refine UP.stp 7 (i1 := 50) (L1 := [some (.ref 123), some (.int (Int32.ofNat t)), some (.int (Int32.ofNat i1))]) (st1 := [.int (Int32.ofNat i1), .ref 130, .int (a1 123 26), .ref 123]) (s1 := (uset a1 123 25 v4)) rfl ?_
        refine UP.ald (e := i1) rfl rfl (by omega) ?_
        show UP m_X7_befalls 51 [some (.ref 123), some (.int (Int32.ofNat t)), some (.int (Int32.ofNat i1))] [.int (a1 130 i1), .int (a1 123 26), .ref 123] (uset a1 123 25 v4) (Qv (F_befalls s t))
        refine UP.stp 1 (i1 := 52) (L1 := [some (.ref 123), some (.int (Int32.ofNat t)), some (.int (Int32.ofNat i1))]) (st1 := [.int 1, .int (a1 130 i1), .int (a1 123 26), .ref 123]) (s1 := (uset a1 123 25 v4)) rfl ?_
        refine mrg (m_cmp .ne (a1 130 i1) 1) (0 : Int32) (bif m_cmp .ne ((a1 132 i1) - (a1 132 i1) / 2 * 2) 1 then (-2 : Int32) else (2 : Int32)) (fun v6 : Int32 => UP m_X7_befalls 66 [some (.ref 123), some (.int (Int32.ofNat t)), some (.int (Int32.ofNat i1))] [.int v6, .int (a1 123 26), .ref 123] (uset a1 123 25 v4) (Qv (F_befalls s t))) (fun cc kk => ?_) (fun cc kk => ?_) (fun v6 e6 => ?_)
        · skip
          refine UP.icT rfl cc ?_
          refine UP.stp 1 (i1 := 66) (L1 := [some (.ref 123), some (.int (Int32.ofNat t)), some (.int (Int32.ofNat i1))]) (st1 := [.int 0, .int (a1 123 26), .ref 123]) (s1 := (uset a1 123 25 v4)) rfl ?_
          exact kk
        · skip
          refine UP.icF rfl cc ?_
          refine UP.stp 3 (i1 := 56) (L1 := [some (.ref 123), some (.int (Int32.ofNat t)), some (.int (Int32.ofNat i1))]) (st1 := [.int (Int32.ofNat i1), .ref 132, .int (a1 123 26), .ref 123]) (s1 := (uset a1 123 25 v4)) rfl ?_
          refine UP.ald (e := i1) rfl rfl (by omega) ?_
          show UP m_X7_befalls 57 [some (.ref 123), some (.int (Int32.ofNat t)), some (.int (Int32.ofNat i1))] [.int (a1 132 i1), .int (a1 123 26), .ref 123] (uset a1 123 25 v4) (Qv (F_befalls s t))
          refine UP.stp 3 (i1 := 60) (L1 := [some (.ref 123), some (.int (Int32.ofNat t)), some (.int (Int32.ofNat i1))]) (st1 := [.int 1, .int ((a1 132 i1) - (a1 132 i1) / 2 * 2), .int (a1 123 26), .ref 123]) (s1 := (uset a1 123 25 v4)) rfl ?_
          refine mrg (m_cmp .ne ((a1 132 i1) - (a1 132 i1) / 2 * 2) 1) (-2 : Int32) (2 : Int32) (fun v5 : Int32 => UP m_X7_befalls 66 [some (.ref 123), some (.int (Int32.ofNat t)), some (.int (Int32.ofNat i1))] [.int v5, .int (a1 123 26), .ref 123] (uset a1 123 25 v4) (Qv (F_befalls s t))) (fun cc kk => ?_) (fun cc kk => ?_) (fun v5 e5 => ?_)
          · skip
            refine UP.icT rfl cc ?_
            refine UP.stp 2 (i1 := 66) (L1 := [some (.ref 123), some (.int (Int32.ofNat t)), some (.int (Int32.ofNat i1))]) (st1 := [.int (-2), .int (a1 123 26), .ref 123]) (s1 := (uset a1 123 25 v4)) rfl ?_
            exact kk
          · skip
            refine UP.icF rfl cc ?_
            refine UP.stp 2 (i1 := 66) (L1 := [some (.ref 123), some (.int (Int32.ofNat t)), some (.int (Int32.ofNat i1))]) (st1 := [.int 2, .int (a1 123 26), .ref 123]) (s1 := (uset a1 123 25 v4)) rfl ?_
            exact kk
          subst e5
          exact kk
        refine UP.stp 1 (i1 := 67) (L1 := [some (.ref 123), some (.int (Int32.ofNat t)), some (.int (Int32.ofNat i1))]) (st1 := [.int ((a1 123 26) + v6), .ref 123]) (s1 := (uset a1 123 25 v4)) rfl ?_
        refine nm (G := fun v7 => UP m_X7_befalls 67 [some (.ref 123), some (.int (Int32.ofNat t)), some (.int (Int32.ofNat i1))] [.int v7, .ref 123] (uset a1 123 25 v4) (Qv (F_befalls s t))) ((a1 123 26) + v6) (fun v7 e7 => ?_)
        refine UP.stp 7 (i1 := 74) (L1 := [some (.ref 123), some (.int (Int32.ofNat t)), some (.int (Int32.ofNat i1))]) (st1 := [.int (Int32.ofNat i1), .ref 130, .int (a1 123 27), .ref 123]) (s1 := (uset (uset a1 123 25 v4) 123 26 v7)) rfl ?_
        refine UP.ald (e := i1) rfl rfl (by omega) ?_
        show UP m_X7_befalls 75 [some (.ref 123), some (.int (Int32.ofNat t)), some (.int (Int32.ofNat i1))] [.int (a1 130 i1), .int (a1 123 27), .ref 123] (uset (uset a1 123 25 v4) 123 26 v7) (Qv (F_befalls s t))
        refine UP.stp 1 (i1 := 76) (L1 := [some (.ref 123), some (.int (Int32.ofNat t)), some (.int (Int32.ofNat i1))]) (st1 := [.int 2, .int (a1 130 i1), .int (a1 123 27), .ref 123]) (s1 := (uset (uset a1 123 25 v4) 123 26 v7)) rfl ?_
        refine mrg (m_cmp .ne (a1 130 i1) 2) (0 : Int32) (3 : Int32) (fun v8 : Int32 => UP m_X7_befalls 80 [some (.ref 123), some (.int (Int32.ofNat t)), some (.int (Int32.ofNat i1))] [.int v8, .int (a1 123 27), .ref 123] (uset (uset a1 123 25 v4) 123 26 v7) (Qv (F_befalls s t))) (fun cc kk => ?_) (fun cc kk => ?_) (fun v8 e8 => ?_)
        · skip
          refine UP.icT rfl cc ?_
          refine UP.stp 1 (i1 := 80) (L1 := [some (.ref 123), some (.int (Int32.ofNat t)), some (.int (Int32.ofNat i1))]) (st1 := [.int 0, .int (a1 123 27), .ref 123]) (s1 := (uset (uset a1 123 25 v4) 123 26 v7)) rfl ?_
          exact kk
        · skip
          refine UP.icF rfl cc ?_
          refine UP.stp 2 (i1 := 80) (L1 := [some (.ref 123), some (.int (Int32.ofNat t)), some (.int (Int32.ofNat i1))]) (st1 := [.int 3, .int (a1 123 27), .ref 123]) (s1 := (uset (uset a1 123 25 v4) 123 26 v7)) rfl ?_
          exact kk
        refine UP.stp 1 (i1 := 81) (L1 := [some (.ref 123), some (.int (Int32.ofNat t)), some (.int (Int32.ofNat i1))]) (st1 := [.int ((a1 123 27) + v8), .ref 123]) (s1 := (uset (uset a1 123 25 v4) 123 26 v7)) rfl ?_
        refine nm (G := fun v9 => UP m_X7_befalls 81 [some (.ref 123), some (.int (Int32.ofNat t)), some (.int (Int32.ofNat i1))] [.int v9, .ref 123] (uset (uset a1 123 25 v4) 123 26 v7) (Qv (F_befalls s t))) ((a1 123 27) + v8) (fun v9 e9 => ?_)
        refine UP.stp 1 (i1 := 82) (L1 := [some (.ref 123), some (.int (Int32.ofNat t)), some (.int (Int32.ofNat i1))]) (st1 := []) (s1 := (uset (uset (uset a1 123 25 v4) 123 26 v7) 123 27 v9)) rfl ?_
        subst e9 e8 e7 e6 e4 e3
        exact kk
      subst e10
      exact kk
    refine UP.stp 2 (i1 := 11) (L1 := [some (.ref 123), some (.int (Int32.ofNat t)), some (.int ((Int32.ofNat i1) + 1))]) (st1 := []) (s1 := v11) rfl ?_
    subst e11
    rw [ofn_s]
    try dsimp only [B_befalls_11] at kk
    exact kk
  refine UP.stp 3 (i1 := 14) (L1 := [some (.ref 123), some (.int (Int32.ofNat t)), some (.int (Int32.ofNat (((uset (uset (uset s 123 25 0) 123 26 0) 123 27 0) 123 11).toNatClampNeg)))]) (st1 := [.int (z1 123 11), .int (Int32.ofNat (((uset (uset (uset s 123 25 0) 123 26 0) 123 27 0) 123 11).toNatClampNeg))]) (s1 := z1) rfl ?_
  refine UP.icT rfl (by rw [(g1 123 11 rfl)]; exact ge_T _) ?_
  exact UP.ret (r := none) rfl ⟨by subst e1; first | (dsimp only [F_befalls]; done) | (dsimp only; done) | rfl, by subst e1; first | (dsimp only [F_befalls]; done) | (dsimp only; done) | rfl⟩
def W_pullsOne : List (Nat × Nat × Option Nat) := [(136, 138, none), (143, 143, none)]
def F_pullsOne (s : SG) (t : Nat) (k : Nat) : SG := let v1 := bif m_cmp .ge (s 137 k) 6 then (0 : Int32) else (1 : Int32); let v2 := s 127 k; let v6 := bif m_cmp .ne (s 126 k) 1 then (bif m_cmp .ne (s 126 k) 2 then (0 : Int32) else (bif m_cmp .eq v1 0 then (1 : Int32) else (-1 : Int32))) else (bif m_cmp .eq v1 0 then (-1 : Int32) else (2 : Int32)); let v7 := v2 + v6; let v8 := (s 137 k) + 1; let v9 := (s 138 k) + v7; let v10 := (s 136 (((s 135 k) - (s 135 k) / 2 * 2).toNatClampNeg)) + v7; (uset (uset (uset (uset s 143 (((8 * (Int32.ofNat t)) + (Int32.ofNat k)).toNatClampNeg) v7) 137 k v8) 138 k v9) 136 (((s 135 k) - (s 135 k) / 2 * 2).toNatClampNeg) v10)
theorem fr_pullsOne (s : SG) (t : Nat) (k : Nat)  : Fr W_pullsOne s (F_pullsOne s t k) := by dsimp only [F_pullsOne]; exact (let v1 : Int32 := bif m_cmp .ge (s 137 k) 6 then (0 : Int32) else (1 : Int32); (let v2 : Int32 := s 127 k; (let v6 : Int32 := bif m_cmp .ne (s 126 k) 1 then (bif m_cmp .ne (s 126 k) 2 then (0 : Int32) else (bif m_cmp .eq v1 0 then (1 : Int32) else (-1 : Int32))) else (bif m_cmp .eq v1 0 then (-1 : Int32) else (2 : Int32)); (let v7 : Int32 := v2 + v6; (let v8 : Int32 := (s 137 k) + 1; (let v9 : Int32 := (s 138 k) + v7; (let v10 : Int32 := (s 136 (((s 135 k) - (s 135 k) / 2 * 2).toNatClampNeg)) + v7; (Fr.uset (s1 := (uset (uset (uset s 143 (((8 * (Int32.ofNat t)) + (Int32.ofNat k)).toNatClampNeg) v7) 137 k v8) 138 k v9)) (a := 136) (j := ((s 135 k) - (s 135 k) / 2 * 2).toNatClampNeg) (x := v10) (by rfl) (Fr.uset (s1 := (uset (uset s 143 (((8 * (Int32.ofNat t)) + (Int32.ofNat k)).toNatClampNeg) v7) 137 k v8)) (a := 138) (j := k) (x := v9) (by rfl) (Fr.uset (s1 := (uset s 143 (((8 * (Int32.ofNat t)) + (Int32.ofNat k)).toNatClampNeg) v7)) (a := 137) (j := k) (x := v8) (by rfl) (Fr.uset (s1 := s) (a := 143) (j := ((8 * (Int32.ofNat t)) + (Int32.ofNat k)).toNatClampNeg) (x := v7) (by rfl) (Fr.rf _ _))))))))))))
theorem ux_pullsOne (s : SG) (t : Nat) (k : Nat) (hk : k < 2147483648) : UP m_X7_pullsOne 0 (m_ent 5 [.ref 123, .int (Int32.ofNat t), .int (Int32.ofNat k)]) [] s (Qv (F_pullsOne s t k)) := by
  refine UP.stp 3 (i1 := 3) (L1 := [some (.ref 123), some (.int (Int32.ofNat t)), some (.int (Int32.ofNat k)), none, none]) (st1 := [.int (Int32.ofNat k), .ref 137]) (s1 := s) rfl ?_
  refine UP.ald (e := k) rfl rfl (by omega) ?_
  show UP m_X7_pullsOne 4 [some (.ref 123), some (.int (Int32.ofNat t)), some (.int (Int32.ofNat k)), none, none] [.int (s 137 k)] s (Qv (F_pullsOne s t k))
  refine UP.stp 1 (i1 := 5) (L1 := [some (.ref 123), some (.int (Int32.ofNat t)), some (.int (Int32.ofNat k)), none, none]) (st1 := [.int 6, .int (s 137 k)]) (s1 := s) rfl ?_
  refine mrg (m_cmp .ge (s 137 k) 6) (0 : Int32) (1 : Int32) (fun v1 : Int32 => UP m_X7_pullsOne 9 [some (.ref 123), some (.int (Int32.ofNat t)), some (.int (Int32.ofNat k)), none, none] [.int v1] s (Qv (F_pullsOne s t k))) (fun cc kk => ?_) (fun cc kk => ?_) (fun v1 e1 => ?_)
  · skip
    refine UP.icT rfl cc ?_
    refine UP.stp 1 (i1 := 9) (L1 := [some (.ref 123), some (.int (Int32.ofNat t)), some (.int (Int32.ofNat k)), none, none]) (st1 := [.int 0]) (s1 := s) rfl ?_
    exact kk
  · skip
    refine UP.icF rfl cc ?_
    refine UP.stp 2 (i1 := 9) (L1 := [some (.ref 123), some (.int (Int32.ofNat t)), some (.int (Int32.ofNat k)), none, none]) (st1 := [.int 1]) (s1 := s) rfl ?_
    exact kk
  refine UP.stp 4 (i1 := 13) (L1 := [some (.ref 123), some (.int (Int32.ofNat t)), some (.int (Int32.ofNat k)), some (.int v1), none]) (st1 := [.int (Int32.ofNat k), .ref 127]) (s1 := s) rfl ?_
  refine UP.ald (e := k) rfl rfl (by omega) ?_
  show UP m_X7_pullsOne 14 [some (.ref 123), some (.int (Int32.ofNat t)), some (.int (Int32.ofNat k)), some (.int v1), none] [.int (s 127 k)] s (Qv (F_pullsOne s t k))
  refine nm (G := fun v2 => UP m_X7_pullsOne 14 [some (.ref 123), some (.int (Int32.ofNat t)), some (.int (Int32.ofNat k)), some (.int v1), none] [.int v2] s (Qv (F_pullsOne s t k))) (s 127 k) (fun v2 e2 => ?_)
  refine UP.stp 5 (i1 := 19) (L1 := [some (.ref 123), some (.int (Int32.ofNat t)), some (.int (Int32.ofNat k)), some (.int v1), some (.int v2)]) (st1 := [.int (Int32.ofNat k), .ref 126, .int v2]) (s1 := s) rfl ?_
  refine UP.ald (e := k) rfl rfl (by omega) ?_
  show UP m_X7_pullsOne 20 [some (.ref 123), some (.int (Int32.ofNat t)), some (.int (Int32.ofNat k)), some (.int v1), some (.int v2)] [.int (s 126 k), .int v2] s (Qv (F_pullsOne s t k))
  refine UP.stp 1 (i1 := 21) (L1 := [some (.ref 123), some (.int (Int32.ofNat t)), some (.int (Int32.ofNat k)), some (.int v1), some (.int v2)]) (st1 := [.int 1, .int (s 126 k), .int v2]) (s1 := s) rfl ?_
  refine mrg (m_cmp .ne (s 126 k) 1) (bif m_cmp .ne (s 126 k) 2 then (0 : Int32) else (bif m_cmp .eq v1 0 then (1 : Int32) else (-1 : Int32))) (bif m_cmp .eq v1 0 then (-1 : Int32) else (2 : Int32)) (fun v6 : Int32 => UP m_X7_pullsOne 41 [some (.ref 123), some (.int (Int32.ofNat t)), some (.int (Int32.ofNat k)), some (.int v1), some (.int v2)] [.int v6, .int v2] s (Qv (F_pullsOne s t k))) (fun cc kk => ?_) (fun cc kk => ?_) (fun v6 e6 => ?_)
  · skip
    refine UP.icT rfl cc ?_
    refine UP.stp 3 (i1 := 31) (L1 := [some (.ref 123), some (.int (Int32.ofNat t)), some (.int (Int32.ofNat k)), some (.int v1), some (.int v2)]) (st1 := [.int (Int32.ofNat k), .ref 126, .int v2]) (s1 := s) rfl ?_
    refine UP.ald (e := k) rfl rfl (by omega) ?_
    show UP m_X7_pullsOne 32 [some (.ref 123), some (.int (Int32.ofNat t)), some (.int (Int32.ofNat k)), some (.int v1), some (.int v2)] [.int (s 126 k), .int v2] s (Qv (F_pullsOne s t k))
    refine UP.stp 1 (i1 := 33) (L1 := [some (.ref 123), some (.int (Int32.ofNat t)), some (.int (Int32.ofNat k)), some (.int v1), some (.int v2)]) (st1 := [.int 2, .int (s 126 k), .int v2]) (s1 := s) rfl ?_
    refine mrg (m_cmp .ne (s 126 k) 2) (0 : Int32) (bif m_cmp .eq v1 0 then (1 : Int32) else (-1 : Int32)) (fun v4 : Int32 => UP m_X7_pullsOne 41 [some (.ref 123), some (.int (Int32.ofNat t)), some (.int (Int32.ofNat k)), some (.int v1), some (.int v2)] [.int v4, .int v2] s (Qv (F_pullsOne s t k))) (fun cc kk => ?_) (fun cc kk => ?_) (fun v4 e4 => ?_)
    · skip
      refine UP.icT rfl cc ?_
      refine UP.stp 1 (i1 := 41) (L1 := [some (.ref 123), some (.int (Int32.ofNat t)), some (.int (Int32.ofNat k)), some (.int v1), some (.int v2)]) (st1 := [.int 0, .int v2]) (s1 := s) rfl ?_
      exact kk
    · skip
      refine UP.icF rfl cc ?_
      refine UP.stp 1 (i1 := 35) (L1 := [some (.ref 123), some (.int (Int32.ofNat t)), some (.int (Int32.ofNat k)), some (.int v1), some (.int v2)]) (st1 := [.int v1, .int v2]) (s1 := s) rfl ?_
      refine mrg (m_cmp .eq v1 0) (1 : Int32) (-1 : Int32) (fun v3 : Int32 => UP m_X7_pullsOne 41 [some (.ref 123), some (.int (Int32.ofNat t)), some (.int (Int32.ofNat k)), some (.int v1), some (.int v2)] [.int v3, .int v2] s (Qv (F_pullsOne s t k))) (fun cc kk => ?_) (fun cc kk => ?_) (fun v3 e3 => ?_)
      · skip
        refine UP.ifT rfl cc ?_
        refine UP.stp 2 (i1 := 41) (L1 := [some (.ref 123), some (.int (Int32.ofNat t)), some (.int (Int32.ofNat k)), some (.int v1), some (.int v2)]) (st1 := [.int 1, .int v2]) (s1 := s) rfl ?_
        exact kk
      · skip
        refine UP.ifF rfl cc ?_
        refine UP.stp 2 (i1 := 41) (L1 := [some (.ref 123), some (.int (Int32.ofNat t)), some (.int (Int32.ofNat k)), some (.int v1), some (.int v2)]) (st1 := [.int (-1), .int v2]) (s1 := s) rfl ?_
        exact kk
      subst e3
      exact kk
    subst e4
    exact kk
  · skip
    refine UP.icF rfl cc ?_
    refine UP.stp 1 (i1 := 23) (L1 := [some (.ref 123), some (.int (Int32.ofNat t)), some (.int (Int32.ofNat k)), some (.int v1), some (.int v2)]) (st1 := [.int v1, .int v2]) (s1 := s) rfl ?_
    refine mrg (m_cmp .eq v1 0) (-1 : Int32) (2 : Int32) (fun v5 : Int32 => UP m_X7_pullsOne 41 [some (.ref 123), some (.int (Int32.ofNat t)), some (.int (Int32.ofNat k)), some (.int v1), some (.int v2)] [.int v5, .int v2] s (Qv (F_pullsOne s t k))) (fun cc kk => ?_) (fun cc kk => ?_) (fun v5 e5 => ?_)
    · skip
      refine UP.ifT rfl cc ?_
      refine UP.stp 2 (i1 := 41) (L1 := [some (.ref 123), some (.int (Int32.ofNat t)), some (.int (Int32.ofNat k)), some (.int v1), some (.int v2)]) (st1 := [.int (-1), .int v2]) (s1 := s) rfl ?_
      exact kk
    · skip
      refine UP.ifF rfl cc ?_
      refine UP.stp 2 (i1 := 41) (L1 := [some (.ref 123), some (.int (Int32.ofNat t)), some (.int (Int32.ofNat k)), some (.int v1), some (.int v2)]) (st1 := [.int 2, .int v2]) (s1 := s) rfl ?_
      exact kk
    subst e5
    exact kk
  refine UP.stp 1 (i1 := 42) (L1 := [some (.ref 123), some (.int (Int32.ofNat t)), some (.int (Int32.ofNat k)), some (.int v1), some (.int v2)]) (st1 := [.int (v2 + v6)]) (s1 := s) rfl ?_
  refine nm (G := fun v7 => UP m_X7_pullsOne 42 [some (.ref 123), some (.int (Int32.ofNat t)), some (.int (Int32.ofNat k)), some (.int v1), some (.int v2)] [.int v7] s (Qv (F_pullsOne s t k))) (v2 + v6) (fun v7 e7 => ?_)
  refine UP.stp 14 (i1 := 56) (L1 := [some (.ref 123), some (.int (Int32.ofNat t)), some (.int (Int32.ofNat k)), some (.int v1), some (.int v7)]) (st1 := [.int (Int32.ofNat k), .ref 137, .int (Int32.ofNat k), .ref 137]) (s1 := (uset s 143 (((8 * (Int32.ofNat t)) + (Int32.ofNat k)).toNatClampNeg) v7)) rfl ?_
  refine UP.ald (e := k) rfl rfl (by omega) ?_
  show UP m_X7_pullsOne 57 [some (.ref 123), some (.int (Int32.ofNat t)), some (.int (Int32.ofNat k)), some (.int v1), some (.int v7)] [.int (s 137 k), .int (Int32.ofNat k), .ref 137] (uset s 143 (((8 * (Int32.ofNat t)) + (Int32.ofNat k)).toNatClampNeg) v7) (Qv (F_pullsOne s t k))
  refine UP.stp 2 (i1 := 59) (L1 := [some (.ref 123), some (.int (Int32.ofNat t)), some (.int (Int32.ofNat k)), some (.int v1), some (.int v7)]) (st1 := [.int ((s 137 k) + 1), .int (Int32.ofNat k), .ref 137]) (s1 := (uset s 143 (((8 * (Int32.ofNat t)) + (Int32.ofNat k)).toNatClampNeg) v7)) rfl ?_
  refine nm (G := fun v8 => UP m_X7_pullsOne 59 [some (.ref 123), some (.int (Int32.ofNat t)), some (.int (Int32.ofNat k)), some (.int v1), some (.int v7)] [.int v8, .int (Int32.ofNat k), .ref 137] (uset s 143 (((8 * (Int32.ofNat t)) + (Int32.ofNat k)).toNatClampNeg) v7) (Qv (F_pullsOne s t k))) ((s 137 k) + 1) (fun v8 e8 => ?_)
  refine UP.ast (e := k) rfl rfl (by omega) ?_
  show UP m_X7_pullsOne 60 [some (.ref 123), some (.int (Int32.ofNat t)), some (.int (Int32.ofNat k)), some (.int v1), some (.int v7)] [] (uset (uset s 143 (((8 * (Int32.ofNat t)) + (Int32.ofNat k)).toNatClampNeg) v7) 137 k v8) (Qv (F_pullsOne s t k))
  refine UP.stp 4 (i1 := 64) (L1 := [some (.ref 123), some (.int (Int32.ofNat t)), some (.int (Int32.ofNat k)), some (.int v1), some (.int v7)]) (st1 := [.int (Int32.ofNat k), .ref 138, .int (Int32.ofNat k), .ref 138]) (s1 := (uset (uset s 143 (((8 * (Int32.ofNat t)) + (Int32.ofNat k)).toNatClampNeg) v7) 137 k v8)) rfl ?_
  refine UP.ald (e := k) rfl rfl (by omega) ?_
  show UP m_X7_pullsOne 65 [some (.ref 123), some (.int (Int32.ofNat t)), some (.int (Int32.ofNat k)), some (.int v1), some (.int v7)] [.int (s 138 k), .int (Int32.ofNat k), .ref 138] (uset (uset s 143 (((8 * (Int32.ofNat t)) + (Int32.ofNat k)).toNatClampNeg) v7) 137 k v8) (Qv (F_pullsOne s t k))
  refine UP.stp 2 (i1 := 67) (L1 := [some (.ref 123), some (.int (Int32.ofNat t)), some (.int (Int32.ofNat k)), some (.int v1), some (.int v7)]) (st1 := [.int ((s 138 k) + v7), .int (Int32.ofNat k), .ref 138]) (s1 := (uset (uset s 143 (((8 * (Int32.ofNat t)) + (Int32.ofNat k)).toNatClampNeg) v7) 137 k v8)) rfl ?_
  refine nm (G := fun v9 => UP m_X7_pullsOne 67 [some (.ref 123), some (.int (Int32.ofNat t)), some (.int (Int32.ofNat k)), some (.int v1), some (.int v7)] [.int v9, .int (Int32.ofNat k), .ref 138] (uset (uset s 143 (((8 * (Int32.ofNat t)) + (Int32.ofNat k)).toNatClampNeg) v7) 137 k v8) (Qv (F_pullsOne s t k))) ((s 138 k) + v7) (fun v9 e9 => ?_)
  refine UP.ast (e := k) rfl rfl (by omega) ?_
  show UP m_X7_pullsOne 68 [some (.ref 123), some (.int (Int32.ofNat t)), some (.int (Int32.ofNat k)), some (.int v1), some (.int v7)] [] (uset (uset (uset s 143 (((8 * (Int32.ofNat t)) + (Int32.ofNat k)).toNatClampNeg) v7) 137 k v8) 138 k v9) (Qv (F_pullsOne s t k))
  refine UP.stp 5 (i1 := 73) (L1 := [some (.ref 123), some (.int (Int32.ofNat t)), some (.int (Int32.ofNat k)), some (.int v1), some (.int v7)]) (st1 := [.int (Int32.ofNat k), .ref 135, .ref 136]) (s1 := (uset (uset (uset s 143 (((8 * (Int32.ofNat t)) + (Int32.ofNat k)).toNatClampNeg) v7) 137 k v8) 138 k v9)) rfl ?_
  refine UP.ald (e := k) rfl rfl (by omega) ?_
  show UP m_X7_pullsOne 74 [some (.ref 123), some (.int (Int32.ofNat t)), some (.int (Int32.ofNat k)), some (.int v1), some (.int v7)] [.int (s 135 k), .ref 136] (uset (uset (uset s 143 (((8 * (Int32.ofNat t)) + (Int32.ofNat k)).toNatClampNeg) v7) 137 k v8) 138 k v9) (Qv (F_pullsOne s t k))
  refine UP.stp 6 (i1 := 80) (L1 := [some (.ref 123), some (.int (Int32.ofNat t)), some (.int (Int32.ofNat k)), some (.int v1), some (.int v7)]) (st1 := [.int ((s 136 (((s 135 k) - (s 135 k) / 2 * 2).toNatClampNeg)) + v7), .int ((s 135 k) - (s 135 k) / 2 * 2), .ref 136]) (s1 := (uset (uset (uset s 143 (((8 * (Int32.ofNat t)) + (Int32.ofNat k)).toNatClampNeg) v7) 137 k v8) 138 k v9)) rfl ?_
  refine nm (G := fun v10 => UP m_X7_pullsOne 80 [some (.ref 123), some (.int (Int32.ofNat t)), some (.int (Int32.ofNat k)), some (.int v1), some (.int v7)] [.int v10, .int ((s 135 k) - (s 135 k) / 2 * 2), .ref 136] (uset (uset (uset s 143 (((8 * (Int32.ofNat t)) + (Int32.ofNat k)).toNatClampNeg) v7) 137 k v8) 138 k v9) (Qv (F_pullsOne s t k))) ((s 136 (((s 135 k) - (s 135 k) / 2 * 2).toNatClampNeg)) + v7) (fun v10 e10 => ?_)
  refine UP.stp 1 (i1 := 81) (L1 := [some (.ref 123), some (.int (Int32.ofNat t)), some (.int (Int32.ofNat k)), some (.int v1), some (.int v7)]) (st1 := []) (s1 := (uset (uset (uset (uset s 143 (((8 * (Int32.ofNat t)) + (Int32.ofNat k)).toNatClampNeg) v7) 137 k v8) 138 k v9) 136 (((s 135 k) - (s 135 k) / 2 * 2).toNatClampNeg) v10)) rfl ?_
  exact UP.ret (r := none) rfl ⟨by subst e10 e9 e8 e7 e6 e2 e1; first | (dsimp only [F_pullsOne]; done) | (dsimp only; done) | rfl, by subst e10 e9 e8 e7 e6 e2 e1; first | (dsimp only [F_pullsOne]; done) | (dsimp only; done) | rfl⟩
def W_goes : List (Nat × Nat × Option Nat) := [(136, 138, none), (142, 143, none), (123, 123, some 19), (123, 123, some 20), (123, 123, some 21), (123, 123, some 22), (123, 123, some 23)]
def B_goes_7 (t : Nat) (v1 : Int32) (i2 : Nat) (a2 : SG) : SG := let v6 := bif m_cmp .le v1 0 then a2 else (bif m_cmp .ne (F_isIn a2 (a2 123 25) (a2 135 i2)) 0 then a2 else (F_pullsOne a2 t i2)); v6
theorem fr_B_goes_7 (t : Nat) (v1 : Int32) (i2 : Nat) (a2 : SG)   : Fr W_goes a2 ((B_goes_7 t v1) i2 a2) := by dsimp only [B_goes_7]; exact (Fr.bif (b := m_cmp .le v1 0) (s1 := a2) (s2 := (bif m_cmp .ne (F_isIn a2 (a2 123 25) (a2 135 i2)) 0 then a2 else (F_pullsOne a2 t i2))) (Fr.rf _ _) (Fr.bif (b := m_cmp .ne (F_isIn a2 (a2 123 25) (a2 135 i2)) 0) (s1 := a2) (s2 := (F_pullsOne a2 t i2)) (Fr.rf _ _) (Fr.tr (s1 := a2) (Fr.rf _ _) (Fr.wk (W2 := W_goes) (fr_pullsOne a2 t i2) (by rfl)))))
def F_goes (s : SG) (t : Nat) : SG := let v1 := s 133 t; let z2 := itr (B_goes_7 t v1) 0 ((s 123 2).toNatClampNeg) s; let v7 := ((v1 * (((z2 136 0) + (z2 136 1)) / 2)) + (z2 123 9)) + (z2 123 27); let v8 := (z2 136 0) - (z2 136 1); let v9 := bif m_cmp .le v8 0 then -((v1 * (-v8)) / 6) else (v1 * v8) / 6; let v10 := (z2 123 20) + v9; let v12 := bif m_cmp .ne (z2 134 t) 2 then (bif m_cmp .ne (z2 134 t) 1 then (0 : Int32) else (-1 : Int32)) else (1 : Int32); let v13 := v10 + v12; let v14 := v13 + (z2 123 26); let v16 := bif m_cmp .le v14 0 then (1 : Int32) else (bif m_cmp .lt v14 20 then (0 : Int32) else (1 : Int32)); let v18 := bif m_cmp .ge v14 0 then (bif m_cmp .le v14 20 then v14 else (20 : Int32)) else (0 : Int32); let v19 := bif m_cmp .eq v16 0 then v7 else v7 / 2; let v20 := (z2 123 19) + v19; let v21 := bif m_cmp .eq v16 0 then (0 : Int32) else (1 : Int32); let v22 := (z2 123 22) + ((uset (uset (uset (uset (uset (uset z2 123 20 v10) 123 20 v13) 123 20 v14) 123 20 v18) 123 19 v20) 142 t v21) 142 t); let v24 := bif m_cmp .eq v16 0 then z2 123 23 else (bif m_cmp .ne (z2 123 23) (-1) then z2 123 23 else Int32.ofNat t); let v25 := bif m_cmp .lt v20 (z2 123 10) then (-1 : Int32) else Int32.ofNat t; (uset (uset (uset (uset (uset (uset (uset (uset (uset z2 123 20 v10) 123 20 v13) 123 20 v14) 123 20 v18) 123 19 v20) 142 t v21) 123 22 v22) 123 23 v24) 123 21 v25)
theorem fr_goes (s : SG) (t : Nat)  : Fr W_goes s (F_goes s t) := by dsimp only [F_goes]; exact (let v1 : Int32 := s 133 t; (let z2 : SG := itr (B_goes_7 t v1) 0 ((s 123 2).toNatClampNeg) s; (let v7 : Int32 := ((v1 * (((z2 136 0) + (z2 136 1)) / 2)) + (z2 123 9)) + (z2 123 27); (let v8 : Int32 := (z2 136 0) - (z2 136 1); (let v9 : Int32 := bif m_cmp .le v8 0 then -((v1 * (-v8)) / 6) else (v1 * v8) / 6; (let v10 : Int32 := (z2 123 20) + v9; (let v12 : Int32 := bif m_cmp .ne (z2 134 t) 2 then (bif m_cmp .ne (z2 134 t) 1 then (0 : Int32) else (-1 : Int32)) else (1 : Int32); (let v13 : Int32 := v10 + v12; (let v14 : Int32 := v13 + (z2 123 26); (let v16 : Int32 := bif m_cmp .le v14 0 then (1 : Int32) else (bif m_cmp .lt v14 20 then (0 : Int32) else (1 : Int32)); (let v18 : Int32 := bif m_cmp .ge v14 0 then (bif m_cmp .le v14 20 then v14 else (20 : Int32)) else (0 : Int32); (let v19 : Int32 := bif m_cmp .eq v16 0 then v7 else v7 / 2; (let v20 : Int32 := (z2 123 19) + v19; (let v21 : Int32 := bif m_cmp .eq v16 0 then (0 : Int32) else (1 : Int32); (let v22 : Int32 := (z2 123 22) + ((uset (uset (uset (uset (uset (uset z2 123 20 v10) 123 20 v13) 123 20 v14) 123 20 v18) 123 19 v20) 142 t v21) 142 t); (let v24 : Int32 := bif m_cmp .eq v16 0 then z2 123 23 else (bif m_cmp .ne (z2 123 23) (-1) then z2 123 23 else Int32.ofNat t); (let v25 : Int32 := bif m_cmp .lt v20 (z2 123 10) then (-1 : Int32) else Int32.ofNat t; (Fr.uset (s1 := (uset (uset (uset (uset (uset (uset (uset (uset z2 123 20 v10) 123 20 v13) 123 20 v14) 123 20 v18) 123 19 v20) 142 t v21) 123 22 v22) 123 23 v24)) (a := 123) (j := 21) (x := v25) (by rfl) (Fr.uset (s1 := (uset (uset (uset (uset (uset (uset (uset z2 123 20 v10) 123 20 v13) 123 20 v14) 123 20 v18) 123 19 v20) 142 t v21) 123 22 v22)) (a := 123) (j := 23) (x := v24) (by rfl) (Fr.uset (s1 := (uset (uset (uset (uset (uset (uset z2 123 20 v10) 123 20 v13) 123 20 v14) 123 20 v18) 123 19 v20) 142 t v21)) (a := 123) (j := 22) (x := v22) (by rfl) (Fr.uset (s1 := (uset (uset (uset (uset (uset z2 123 20 v10) 123 20 v13) 123 20 v14) 123 20 v18) 123 19 v20)) (a := 142) (j := t) (x := v21) (by rfl) (Fr.uset (s1 := (uset (uset (uset (uset z2 123 20 v10) 123 20 v13) 123 20 v14) 123 20 v18)) (a := 123) (j := 19) (x := v20) (by rfl) (Fr.uset (s1 := (uset (uset (uset z2 123 20 v10) 123 20 v13) 123 20 v14)) (a := 123) (j := 20) (x := v18) (by rfl) (Fr.uset (s1 := (uset (uset z2 123 20 v10) 123 20 v13)) (a := 123) (j := 20) (x := v14) (by rfl) (Fr.uset (s1 := (uset z2 123 20 v10)) (a := 123) (j := 20) (x := v13) (by rfl) (Fr.uset (s1 := z2) (a := 123) (j := 20) (x := v10) (by rfl) (Fr.itr (W := W_goes) (m := (fun x : SG => x)) (f := (B_goes_7 t v1)) (fun ii aa => Fr.wk (W2 := W_goes) (fr_B_goes_7 t v1 ii aa ) (by rfl)) ((s 123 2).toNatClampNeg) 0 s (Fr.rf _ _))))))))))))))))))))))))))))
theorem ux_goes (s : SG) (t : Nat) (ht : t < 24) : UP m_X7_goes 0 (m_ent 6 [.ref 123, .int (Int32.ofNat t)]) [] s (Qv (F_goes s t)) := by
  refine UP.stp 3 (i1 := 3) (L1 := [some (.ref 123), some (.int (Int32.ofNat t)), none, none, none, none]) (st1 := [.int (Int32.ofNat t), .ref 133]) (s1 := s) rfl ?_
  refine UP.ald (e := t) rfl rfl (by omega) ?_
  show UP m_X7_goes 4 [some (.ref 123), some (.int (Int32.ofNat t)), none, none, none, none] [.int (s 133 t)] s (Qv (F_goes s t))
  refine nm (G := fun v1 => UP m_X7_goes 4 [some (.ref 123), some (.int (Int32.ofNat t)), none, none, none, none] [.int v1] s (Qv (F_goes s t))) (s 133 t) (fun v1 e1 => ?_)
  refine UP.stp 3 (i1 := 7) (L1 := [some (.ref 123), some (.int (Int32.ofNat t)), some (.int v1), some (.int 0), none, none]) (st1 := []) (s1 := s) rfl ?_
  refine lp (fun (i2 : Nat) (a2 : SG) => ∀ (u2_4 : Option Value) (u2_5 : Option Value), UP m_X7_goes 7 [some (.ref 123), some (.int (Int32.ofNat t)), some (.int v1), some (.int (Int32.ofNat i2)), u2_4, u2_5] [] a2 (Qv (F_goes s t))) (fun (_ : Nat) (a2 : SG) => Fr W_goes s a2) (B_goes_7 t v1) ((s 123 2).toNatClampNeg) (fun i2 a2 hi2 g2 => g2.tr (fr_B_goes_7 t v1 i2 a2 )) (fun i2 a2 hi2 g2 kk => ?_) ((s 123 2).toNatClampNeg) (0) s (by  omega) (Fr.rf _ _) (fun z2 e2 g2 => ?_) none none
  · skip
    intro u2_4 u2_5
    have hbi2 := cl_lt (s 123 2)
    refine UP.stp 3 (i1 := 10) (L1 := [some (.ref 123), some (.int (Int32.ofNat t)), some (.int v1), some (.int (Int32.ofNat i2)), u2_4, u2_5]) (st1 := [.int (a2 123 2), .int (Int32.ofNat i2)]) (s1 := a2) rfl ?_
    refine UP.icF rfl (by rw [(g2 123 2 rfl)]; exact ge_F hi2) ?_
    refine UP.stp 1 (i1 := 12) (L1 := [some (.ref 123), some (.int (Int32.ofNat t)), some (.int v1), some (.int (Int32.ofNat i2)), u2_4, u2_5]) (st1 := [.int v1]) (s1 := a2) rfl ?_
    refine mrg (m_cmp .le v1 0) a2 (bif m_cmp .ne (F_isIn a2 (a2 123 25) (a2 135 i2)) 0 then a2 else (F_pullsOne a2 t i2)) (fun v6 : SG => UP m_X7_goes 25 [some (.ref 123), some (.int (Int32.ofNat t)), some (.int v1), some (.int (Int32.ofNat i2)), u2_4, u2_5] [] v6 (Qv (F_goes s t))) (fun cc kk => ?_) (fun cc kk => ?_) (fun v6 e6 => ?_)
    · skip
      refine UP.ifT rfl cc ?_
      exact kk
    · skip
      refine UP.ifF rfl cc ?_
      refine UP.stp 5 (i1 := 18) (L1 := [some (.ref 123), some (.int (Int32.ofNat t)), some (.int v1), some (.int (Int32.ofNat i2)), u2_4, u2_5]) (st1 := [.int (Int32.ofNat i2), .ref 135, .int (a2 123 25)]) (s1 := a2) rfl ?_
      refine UP.ald (e := i2) rfl rfl (by omega) ?_
      show UP m_X7_goes 19 [some (.ref 123), some (.int (Int32.ofNat t)), some (.int v1), some (.int (Int32.ofNat i2)), u2_4, u2_5] [.int (a2 135 i2), .int (a2 123 25)] a2 (Qv (F_goes s t))
      refine UP.cI (M1 := m_X7_isIn) (as := [.int (a2 123 25), .int (a2 135 i2)]) (rest := []) (T := F_isIn a2 (a2 123 25) (a2 135 i2)) rfl rfl (ux_isIn a2 (a2 123 25) (a2 135 i2)) ?_
      refine mrg (m_cmp .ne (F_isIn a2 (a2 123 25) (a2 135 i2)) 0) a2 (F_pullsOne a2 t i2) (fun v5 : SG => UP m_X7_goes 25 [some (.ref 123), some (.int (Int32.ofNat t)), some (.int v1), some (.int (Int32.ofNat i2)), u2_4, u2_5] [] v5 (Qv (F_goes s t))) (fun cc kk => ?_) (fun cc kk => ?_) (fun v5 e5 => ?_)
      · skip
        refine UP.ifT rfl cc ?_
        exact kk
      · skip
        refine UP.ifF rfl cc ?_
        refine UP.stp 3 (i1 := 24) (L1 := [some (.ref 123), some (.int (Int32.ofNat t)), some (.int v1), some (.int (Int32.ofNat i2)), u2_4, u2_5]) (st1 := [.int (Int32.ofNat i2), .int (Int32.ofNat t), .ref 123]) (s1 := a2) rfl ?_
        refine UP.cV (M1 := m_X7_pullsOne) (as := [.ref 123, .int (Int32.ofNat t), .int (Int32.ofNat i2)]) (rest := []) (T := F_pullsOne a2 t i2) rfl rfl (ux_pullsOne a2 t i2 (by omega)) (fun z4 e4 => ?_)
        subst e4
        exact kk
      subst e5
      exact kk
    refine UP.stp 2 (i1 := 7) (L1 := [some (.ref 123), some (.int (Int32.ofNat t)), some (.int v1), some (.int ((Int32.ofNat i2) + 1)), u2_4, u2_5]) (st1 := []) (s1 := v6) rfl ?_
    subst e6
    rw [ofn_s]
    try dsimp only [B_goes_7] at kk
    exact kk _ _
  intro u2_4 u2_5
  refine UP.stp 3 (i1 := 10) (L1 := [some (.ref 123), some (.int (Int32.ofNat t)), some (.int v1), some (.int (Int32.ofNat ((s 123 2).toNatClampNeg))), u2_4, u2_5]) (st1 := [.int (z2 123 2), .int (Int32.ofNat ((s 123 2).toNatClampNeg))]) (s1 := z2) rfl ?_
  refine UP.icT rfl (by rw [(g2 123 2 rfl)]; exact ge_T _) ?_
  refine UP.stp 19 (i1 := 46) (L1 := [some (.ref 123), some (.int (Int32.ofNat t)), some (.int v1), some (.int (Int32.ofNat ((s 123 2).toNatClampNeg))), u2_4, u2_5]) (st1 := [.int (((v1 * (((z2 136 0) + (z2 136 1)) / 2)) + (z2 123 9)) + (z2 123 27))]) (s1 := z2) rfl ?_
  refine nm (G := fun v7 => UP m_X7_goes 46 [some (.ref 123), some (.int (Int32.ofNat t)), some (.int v1), some (.int (Int32.ofNat ((s 123 2).toNatClampNeg))), u2_4, u2_5] [.int v7] z2 (Qv (F_goes s t))) (((v1 * (((z2 136 0) + (z2 136 1)) / 2)) + (z2 123 9)) + (z2 123 27)) (fun v7 e7 => ?_)
  refine UP.stp 10 (i1 := 56) (L1 := [some (.ref 123), some (.int (Int32.ofNat t)), some (.int v1), some (.int v7), u2_4, u2_5]) (st1 := [.int ((z2 136 0) - (z2 136 1))]) (s1 := z2) rfl ?_
  refine nm (G := fun v8 => UP m_X7_goes 56 [some (.ref 123), some (.int (Int32.ofNat t)), some (.int v1), some (.int v7), u2_4, u2_5] [.int v8] z2 (Qv (F_goes s t))) ((z2 136 0) - (z2 136 1)) (fun v8 e8 => ?_)
  refine UP.stp 5 (i1 := 61) (L1 := [some (.ref 123), some (.int (Int32.ofNat t)), some (.int v1), some (.int v7), some (.int v8), u2_5]) (st1 := [.int v8, .int (z2 123 20), .ref 123]) (s1 := z2) rfl ?_
  refine mrg (m_cmp .le v8 0) (-((v1 * (-v8)) / 6)) ((v1 * v8) / 6) (fun v9 : Int32 => UP m_X7_goes 75 [some (.ref 123), some (.int (Int32.ofNat t)), some (.int v1), some (.int v7), some (.int v8), u2_5] [.int v9, .int (z2 123 20), .ref 123] z2 (Qv (F_goes s t))) (fun cc kk => ?_) (fun cc kk => ?_) (fun v9 e9 => ?_)
  · skip
    refine UP.ifT rfl cc ?_
    refine UP.stp 7 (i1 := 75) (L1 := [some (.ref 123), some (.int (Int32.ofNat t)), some (.int v1), some (.int v7), some (.int v8), u2_5]) (st1 := [.int (-((v1 * (-v8)) / 6)), .int (z2 123 20), .ref 123]) (s1 := z2) rfl ?_
    exact kk
  · skip
    refine UP.ifF rfl cc ?_
    refine UP.stp 6 (i1 := 75) (L1 := [some (.ref 123), some (.int (Int32.ofNat t)), some (.int v1), some (.int v7), some (.int v8), u2_5]) (st1 := [.int ((v1 * v8) / 6), .int (z2 123 20), .ref 123]) (s1 := z2) rfl ?_
    exact kk
  refine UP.stp 1 (i1 := 76) (L1 := [some (.ref 123), some (.int (Int32.ofNat t)), some (.int v1), some (.int v7), some (.int v8), u2_5]) (st1 := [.int ((z2 123 20) + v9), .ref 123]) (s1 := z2) rfl ?_
  refine nm (G := fun v10 => UP m_X7_goes 76 [some (.ref 123), some (.int (Int32.ofNat t)), some (.int v1), some (.int v7), some (.int v8), u2_5] [.int v10, .ref 123] z2 (Qv (F_goes s t))) ((z2 123 20) + v9) (fun v10 e10 => ?_)
  refine UP.stp 7 (i1 := 83) (L1 := [some (.ref 123), some (.int (Int32.ofNat t)), some (.int v1), some (.int v7), some (.int v8), u2_5]) (st1 := [.int (Int32.ofNat t), .ref 134, .int v10, .ref 123]) (s1 := (uset z2 123 20 v10)) rfl ?_
  refine UP.ald (e := t) rfl rfl (by omega) ?_
  show UP m_X7_goes 84 [some (.ref 123), some (.int (Int32.ofNat t)), some (.int v1), some (.int v7), some (.int v8), u2_5] [.int (z2 134 t), .int v10, .ref 123] (uset z2 123 20 v10) (Qv (F_goes s t))
  refine UP.stp 1 (i1 := 85) (L1 := [some (.ref 123), some (.int (Int32.ofNat t)), some (.int v1), some (.int v7), some (.int v8), u2_5]) (st1 := [.int 2, .int (z2 134 t), .int v10, .ref 123]) (s1 := (uset z2 123 20 v10)) rfl ?_
  refine mrg (m_cmp .ne (z2 134 t) 2) (bif m_cmp .ne (z2 134 t) 1 then (0 : Int32) else (-1 : Int32)) (1 : Int32) (fun v12 : Int32 => UP m_X7_goes 97 [some (.ref 123), some (.int (Int32.ofNat t)), some (.int v1), some (.int v7), some (.int v8), u2_5] [.int v12, .int v10, .ref 123] (uset z2 123 20 v10) (Qv (F_goes s t))) (fun cc kk => ?_) (fun cc kk => ?_) (fun v12 e12 => ?_)
  · skip
    refine UP.icT rfl cc ?_
    refine UP.stp 3 (i1 := 91) (L1 := [some (.ref 123), some (.int (Int32.ofNat t)), some (.int v1), some (.int v7), some (.int v8), u2_5]) (st1 := [.int (Int32.ofNat t), .ref 134, .int v10, .ref 123]) (s1 := (uset z2 123 20 v10)) rfl ?_
    refine UP.ald (e := t) rfl rfl (by omega) ?_
    show UP m_X7_goes 92 [some (.ref 123), some (.int (Int32.ofNat t)), some (.int v1), some (.int v7), some (.int v8), u2_5] [.int (z2 134 t), .int v10, .ref 123] (uset z2 123 20 v10) (Qv (F_goes s t))
    refine UP.stp 1 (i1 := 93) (L1 := [some (.ref 123), some (.int (Int32.ofNat t)), some (.int v1), some (.int v7), some (.int v8), u2_5]) (st1 := [.int 1, .int (z2 134 t), .int v10, .ref 123]) (s1 := (uset z2 123 20 v10)) rfl ?_
    refine mrg (m_cmp .ne (z2 134 t) 1) (0 : Int32) (-1 : Int32) (fun v11 : Int32 => UP m_X7_goes 97 [some (.ref 123), some (.int (Int32.ofNat t)), some (.int v1), some (.int v7), some (.int v8), u2_5] [.int v11, .int v10, .ref 123] (uset z2 123 20 v10) (Qv (F_goes s t))) (fun cc kk => ?_) (fun cc kk => ?_) (fun v11 e11 => ?_)
    · skip
      refine UP.icT rfl cc ?_
      refine UP.stp 1 (i1 := 97) (L1 := [some (.ref 123), some (.int (Int32.ofNat t)), some (.int v1), some (.int v7), some (.int v8), u2_5]) (st1 := [.int 0, .int v10, .ref 123]) (s1 := (uset z2 123 20 v10)) rfl ?_
      exact kk
    · skip
      refine UP.icF rfl cc ?_
      refine UP.stp 2 (i1 := 97) (L1 := [some (.ref 123), some (.int (Int32.ofNat t)), some (.int v1), some (.int v7), some (.int v8), u2_5]) (st1 := [.int (-1), .int v10, .ref 123]) (s1 := (uset z2 123 20 v10)) rfl ?_
      exact kk
    subst e11
    exact kk
  · skip
    refine UP.icF rfl cc ?_
    refine UP.stp 2 (i1 := 97) (L1 := [some (.ref 123), some (.int (Int32.ofNat t)), some (.int v1), some (.int v7), some (.int v8), u2_5]) (st1 := [.int 1, .int v10, .ref 123]) (s1 := (uset z2 123 20 v10)) rfl ?_
    exact kk
  refine UP.stp 1 (i1 := 98) (L1 := [some (.ref 123), some (.int (Int32.ofNat t)), some (.int v1), some (.int v7), some (.int v8), u2_5]) (st1 := [.int (v10 + v12), .ref 123]) (s1 := (uset z2 123 20 v10)) rfl ?_
  refine nm (G := fun v13 => UP m_X7_goes 98 [some (.ref 123), some (.int (Int32.ofNat t)), some (.int v1), some (.int v7), some (.int v8), u2_5] [.int v13, .ref 123] (uset z2 123 20 v10) (Qv (F_goes s t))) (v10 + v12) (fun v13 e13 => ?_)
  refine UP.stp 7 (i1 := 105) (L1 := [some (.ref 123), some (.int (Int32.ofNat t)), some (.int v1), some (.int v7), some (.int v8), u2_5]) (st1 := [.int (v13 + (z2 123 26)), .ref 123]) (s1 := (uset (uset z2 123 20 v10) 123 20 v13)) rfl ?_
  refine nm (G := fun v14 => UP m_X7_goes 105 [some (.ref 123), some (.int (Int32.ofNat t)), some (.int v1), some (.int v7), some (.int v8), u2_5] [.int v14, .ref 123] (uset (uset z2 123 20 v10) 123 20 v13) (Qv (F_goes s t))) (v13 + (z2 123 26)) (fun v14 e14 => ?_)
  refine UP.stp 3 (i1 := 108) (L1 := [some (.ref 123), some (.int (Int32.ofNat t)), some (.int v1), some (.int v7), some (.int v8), u2_5]) (st1 := [.int v14]) (s1 := (uset (uset (uset z2 123 20 v10) 123 20 v13) 123 20 v14)) rfl ?_
  refine mrg (m_cmp .le v14 0) (1 : Int32) (bif m_cmp .lt v14 20 then (0 : Int32) else (1 : Int32)) (fun v16 : Int32 => UP m_X7_goes 116 [some (.ref 123), some (.int (Int32.ofNat t)), some (.int v1), some (.int v7), some (.int v8), u2_5] [.int v16] (uset (uset (uset z2 123 20 v10) 123 20 v13) 123 20 v14) (Qv (F_goes s t))) (fun cc kk => ?_) (fun cc kk => ?_) (fun v16 e16 => ?_)
  · skip
    refine UP.ifT rfl cc ?_
    refine UP.stp 2 (i1 := 116) (L1 := [some (.ref 123), some (.int (Int32.ofNat t)), some (.int v1), some (.int v7), some (.int v8), u2_5]) (st1 := [.int 1]) (s1 := (uset (uset (uset z2 123 20 v10) 123 20 v13) 123 20 v14)) rfl ?_
    exact kk
  · skip
    refine UP.ifF rfl cc ?_
    refine UP.stp 3 (i1 := 112) (L1 := [some (.ref 123), some (.int (Int32.ofNat t)), some (.int v1), some (.int v7), some (.int v8), u2_5]) (st1 := [.int 20, .int v14]) (s1 := (uset (uset (uset z2 123 20 v10) 123 20 v13) 123 20 v14)) rfl ?_
    refine mrg (m_cmp .lt v14 20) (0 : Int32) (1 : Int32) (fun v15 : Int32 => UP m_X7_goes 116 [some (.ref 123), some (.int (Int32.ofNat t)), some (.int v1), some (.int v7), some (.int v8), u2_5] [.int v15] (uset (uset (uset z2 123 20 v10) 123 20 v13) 123 20 v14) (Qv (F_goes s t))) (fun cc kk => ?_) (fun cc kk => ?_) (fun v15 e15 => ?_)
    · skip
      refine UP.icT rfl cc ?_
      refine UP.stp 1 (i1 := 116) (L1 := [some (.ref 123), some (.int (Int32.ofNat t)), some (.int v1), some (.int v7), some (.int v8), u2_5]) (st1 := [.int 0]) (s1 := (uset (uset (uset z2 123 20 v10) 123 20 v13) 123 20 v14)) rfl ?_
      exact kk
    · skip
      refine UP.icF rfl cc ?_
      refine UP.stp 2 (i1 := 116) (L1 := [some (.ref 123), some (.int (Int32.ofNat t)), some (.int v1), some (.int v7), some (.int v8), u2_5]) (st1 := [.int 1]) (s1 := (uset (uset (uset z2 123 20 v10) 123 20 v13) 123 20 v14)) rfl ?_
      exact kk
    subst e15
    exact kk
  refine UP.stp 4 (i1 := 120) (L1 := [some (.ref 123), some (.int (Int32.ofNat t)), some (.int v1), some (.int v7), some (.int v8), some (.int v16)]) (st1 := [.int v14, .ref 123]) (s1 := (uset (uset (uset z2 123 20 v10) 123 20 v13) 123 20 v14)) rfl ?_
  refine mrg (m_cmp .ge v14 0) (bif m_cmp .le v14 20 then v14 else (20 : Int32)) (0 : Int32) (fun v18 : Int32 => UP m_X7_goes 131 [some (.ref 123), some (.int (Int32.ofNat t)), some (.int v1), some (.int v7), some (.int v8), some (.int v16)] [.int v18, .ref 123] (uset (uset (uset z2 123 20 v10) 123 20 v13) 123 20 v14) (Qv (F_goes s t))) (fun cc kk => ?_) (fun cc kk => ?_) (fun v18 e18 => ?_)
  · skip
    refine UP.ifT rfl cc ?_
    refine UP.stp 3 (i1 := 126) (L1 := [some (.ref 123), some (.int (Int32.ofNat t)), some (.int v1), some (.int v7), some (.int v8), some (.int v16)]) (st1 := [.int 20, .int v14, .ref 123]) (s1 := (uset (uset (uset z2 123 20 v10) 123 20 v13) 123 20 v14)) rfl ?_
    refine mrg (m_cmp .le v14 20) v14 (20 : Int32) (fun v17 : Int32 => UP m_X7_goes 131 [some (.ref 123), some (.int (Int32.ofNat t)), some (.int v1), some (.int v7), some (.int v8), some (.int v16)] [.int v17, .ref 123] (uset (uset (uset z2 123 20 v10) 123 20 v13) 123 20 v14) (Qv (F_goes s t))) (fun cc kk => ?_) (fun cc kk => ?_) (fun v17 e17 => ?_)
    · skip
      refine UP.icT rfl cc ?_
      refine UP.stp 2 (i1 := 131) (L1 := [some (.ref 123), some (.int (Int32.ofNat t)), some (.int v1), some (.int v7), some (.int v8), some (.int v16)]) (st1 := [.int v14, .ref 123]) (s1 := (uset (uset (uset z2 123 20 v10) 123 20 v13) 123 20 v14)) rfl ?_
      exact kk
    · skip
      refine UP.icF rfl cc ?_
      refine UP.stp 2 (i1 := 131) (L1 := [some (.ref 123), some (.int (Int32.ofNat t)), some (.int v1), some (.int v7), some (.int v8), some (.int v16)]) (st1 := [.int 20, .ref 123]) (s1 := (uset (uset (uset z2 123 20 v10) 123 20 v13) 123 20 v14)) rfl ?_
      exact kk
    subst e17
    exact kk
  · skip
    refine UP.ifF rfl cc ?_
    refine UP.stp 2 (i1 := 131) (L1 := [some (.ref 123), some (.int (Int32.ofNat t)), some (.int v1), some (.int v7), some (.int v8), some (.int v16)]) (st1 := [.int 0, .ref 123]) (s1 := (uset (uset (uset z2 123 20 v10) 123 20 v13) 123 20 v14)) rfl ?_
    exact kk
  refine UP.stp 5 (i1 := 136) (L1 := [some (.ref 123), some (.int (Int32.ofNat t)), some (.int v1), some (.int v7), some (.int v8), some (.int v16)]) (st1 := [.int v16, .int (z2 123 19), .ref 123]) (s1 := (uset (uset (uset (uset z2 123 20 v10) 123 20 v13) 123 20 v14) 123 20 v18)) rfl ?_
  refine mrg (m_cmp .eq v16 0) v7 (v7 / 2) (fun v19 : Int32 => UP m_X7_goes 142 [some (.ref 123), some (.int (Int32.ofNat t)), some (.int v1), some (.int v7), some (.int v8), some (.int v16)] [.int v19, .int (z2 123 19), .ref 123] (uset (uset (uset (uset z2 123 20 v10) 123 20 v13) 123 20 v14) 123 20 v18) (Qv (F_goes s t))) (fun cc kk => ?_) (fun cc kk => ?_) (fun v19 e19 => ?_)
  · skip
    refine UP.ifT rfl cc ?_
    refine UP.stp 1 (i1 := 142) (L1 := [some (.ref 123), some (.int (Int32.ofNat t)), some (.int v1), some (.int v7), some (.int v8), some (.int v16)]) (st1 := [.int v7, .int (z2 123 19), .ref 123]) (s1 := (uset (uset (uset (uset z2 123 20 v10) 123 20 v13) 123 20 v14) 123 20 v18)) rfl ?_
    exact kk
  · skip
    refine UP.ifF rfl cc ?_
    refine UP.stp 4 (i1 := 142) (L1 := [some (.ref 123), some (.int (Int32.ofNat t)), some (.int v1), some (.int v7), some (.int v8), some (.int v16)]) (st1 := [.int (v7 / 2), .int (z2 123 19), .ref 123]) (s1 := (uset (uset (uset (uset z2 123 20 v10) 123 20 v13) 123 20 v14) 123 20 v18)) rfl ?_
    exact kk
  refine UP.stp 1 (i1 := 143) (L1 := [some (.ref 123), some (.int (Int32.ofNat t)), some (.int v1), some (.int v7), some (.int v8), some (.int v16)]) (st1 := [.int ((z2 123 19) + v19), .ref 123]) (s1 := (uset (uset (uset (uset z2 123 20 v10) 123 20 v13) 123 20 v14) 123 20 v18)) rfl ?_
  refine nm (G := fun v20 => UP m_X7_goes 143 [some (.ref 123), some (.int (Int32.ofNat t)), some (.int v1), some (.int v7), some (.int v8), some (.int v16)] [.int v20, .ref 123] (uset (uset (uset (uset z2 123 20 v10) 123 20 v13) 123 20 v14) 123 20 v18) (Qv (F_goes s t))) ((z2 123 19) + v19) (fun v20 e20 => ?_)
  refine UP.stp 5 (i1 := 148) (L1 := [some (.ref 123), some (.int (Int32.ofNat t)), some (.int v1), some (.int v7), some (.int v8), some (.int v16)]) (st1 := [.int v16, .int (Int32.ofNat t), .ref 142]) (s1 := (uset (uset (uset (uset (uset z2 123 20 v10) 123 20 v13) 123 20 v14) 123 20 v18) 123 19 v20)) rfl ?_
  refine mrg (m_cmp .eq v16 0) (0 : Int32) (1 : Int32) (fun v21 : Int32 => UP m_X7_goes 152 [some (.ref 123), some (.int (Int32.ofNat t)), some (.int v1), some (.int v7), some (.int v8), some (.int v16)] [.int v21, .int (Int32.ofNat t), .ref 142] (uset (uset (uset (uset (uset z2 123 20 v10) 123 20 v13) 123 20 v14) 123 20 v18) 123 19 v20) (Qv (F_goes s t))) (fun cc kk => ?_) (fun cc kk => ?_) (fun v21 e21 => ?_)
  · skip
    refine UP.ifT rfl cc ?_
    refine UP.stp 1 (i1 := 152) (L1 := [some (.ref 123), some (.int (Int32.ofNat t)), some (.int v1), some (.int v7), some (.int v8), some (.int v16)]) (st1 := [.int 0, .int (Int32.ofNat t), .ref 142]) (s1 := (uset (uset (uset (uset (uset z2 123 20 v10) 123 20 v13) 123 20 v14) 123 20 v18) 123 19 v20)) rfl ?_
    exact kk
  · skip
    refine UP.ifF rfl cc ?_
    refine UP.stp 2 (i1 := 152) (L1 := [some (.ref 123), some (.int (Int32.ofNat t)), some (.int v1), some (.int v7), some (.int v8), some (.int v16)]) (st1 := [.int 1, .int (Int32.ofNat t), .ref 142]) (s1 := (uset (uset (uset (uset (uset z2 123 20 v10) 123 20 v13) 123 20 v14) 123 20 v18) 123 19 v20)) rfl ?_
    exact kk
  refine UP.ast (e := t) rfl rfl (by omega) ?_
  show UP m_X7_goes 153 [some (.ref 123), some (.int (Int32.ofNat t)), some (.int v1), some (.int v7), some (.int v8), some (.int v16)] [] (uset (uset (uset (uset (uset (uset z2 123 20 v10) 123 20 v13) 123 20 v14) 123 20 v18) 123 19 v20) 142 t v21) (Qv (F_goes s t))
  refine UP.stp 6 (i1 := 159) (L1 := [some (.ref 123), some (.int (Int32.ofNat t)), some (.int v1), some (.int v7), some (.int v8), some (.int v16)]) (st1 := [.int (Int32.ofNat t), .ref 142, .int (z2 123 22), .ref 123]) (s1 := (uset (uset (uset (uset (uset (uset z2 123 20 v10) 123 20 v13) 123 20 v14) 123 20 v18) 123 19 v20) 142 t v21)) rfl ?_
  refine UP.ald (e := t) rfl rfl (by omega) ?_
  show UP m_X7_goes 160 [some (.ref 123), some (.int (Int32.ofNat t)), some (.int v1), some (.int v7), some (.int v8), some (.int v16)] [.int ((uset (uset (uset (uset (uset (uset z2 123 20 v10) 123 20 v13) 123 20 v14) 123 20 v18) 123 19 v20) 142 t v21) 142 t), .int (z2 123 22), .ref 123] (uset (uset (uset (uset (uset (uset z2 123 20 v10) 123 20 v13) 123 20 v14) 123 20 v18) 123 19 v20) 142 t v21) (Qv (F_goes s t))
  refine UP.stp 1 (i1 := 161) (L1 := [some (.ref 123), some (.int (Int32.ofNat t)), some (.int v1), some (.int v7), some (.int v8), some (.int v16)]) (st1 := [.int ((z2 123 22) + ((uset (uset (uset (uset (uset (uset z2 123 20 v10) 123 20 v13) 123 20 v14) 123 20 v18) 123 19 v20) 142 t v21) 142 t)), .ref 123]) (s1 := (uset (uset (uset (uset (uset (uset z2 123 20 v10) 123 20 v13) 123 20 v14) 123 20 v18) 123 19 v20) 142 t v21)) rfl ?_
  refine nm (G := fun v22 => UP m_X7_goes 161 [some (.ref 123), some (.int (Int32.ofNat t)), some (.int v1), some (.int v7), some (.int v8), some (.int v16)] [.int v22, .ref 123] (uset (uset (uset (uset (uset (uset z2 123 20 v10) 123 20 v13) 123 20 v14) 123 20 v18) 123 19 v20) 142 t v21) (Qv (F_goes s t))) ((z2 123 22) + ((uset (uset (uset (uset (uset (uset z2 123 20 v10) 123 20 v13) 123 20 v14) 123 20 v18) 123 19 v20) 142 t v21) 142 t)) (fun v22 e22 => ?_)
  refine UP.stp 3 (i1 := 164) (L1 := [some (.ref 123), some (.int (Int32.ofNat t)), some (.int v1), some (.int v7), some (.int v8), some (.int v16)]) (st1 := [.int v16, .ref 123]) (s1 := (uset (uset (uset (uset (uset (uset (uset z2 123 20 v10) 123 20 v13) 123 20 v14) 123 20 v18) 123 19 v20) 142 t v21) 123 22 v22)) rfl ?_
  refine mrg (m_cmp .eq v16 0) (z2 123 23) (bif m_cmp .ne (z2 123 23) (-1) then z2 123 23 else Int32.ofNat t) (fun v24 : Int32 => UP m_X7_goes 173 [some (.ref 123), some (.int (Int32.ofNat t)), some (.int v1), some (.int v7), some (.int v8), some (.int v16)] [.int v24, .ref 123] (uset (uset (uset (uset (uset (uset (uset z2 123 20 v10) 123 20 v13) 123 20 v14) 123 20 v18) 123 19 v20) 142 t v21) 123 22 v22) (Qv (F_goes s t))) (fun cc kk => ?_) (fun cc kk => ?_) (fun v24 e24 => ?_)
  · skip
    refine UP.ifT rfl cc ?_
    refine UP.stp 2 (i1 := 173) (L1 := [some (.ref 123), some (.int (Int32.ofNat t)), some (.int v1), some (.int v7), some (.int v8), some (.int v16)]) (st1 := [.int (z2 123 23), .ref 123]) (s1 := (uset (uset (uset (uset (uset (uset (uset z2 123 20 v10) 123 20 v13) 123 20 v14) 123 20 v18) 123 19 v20) 142 t v21) 123 22 v22)) rfl ?_
    exact kk
  · skip
    refine UP.ifF rfl cc ?_
    refine UP.stp 3 (i1 := 168) (L1 := [some (.ref 123), some (.int (Int32.ofNat t)), some (.int v1), some (.int v7), some (.int v8), some (.int v16)]) (st1 := [.int (-1), .int (z2 123 23), .ref 123]) (s1 := (uset (uset (uset (uset (uset (uset (uset z2 123 20 v10) 123 20 v13) 123 20 v14) 123 20 v18) 123 19 v20) 142 t v21) 123 22 v22)) rfl ?_
    refine mrg (m_cmp .ne (z2 123 23) (-1)) (z2 123 23) (Int32.ofNat t) (fun v23 : Int32 => UP m_X7_goes 173 [some (.ref 123), some (.int (Int32.ofNat t)), some (.int v1), some (.int v7), some (.int v8), some (.int v16)] [.int v23, .ref 123] (uset (uset (uset (uset (uset (uset (uset z2 123 20 v10) 123 20 v13) 123 20 v14) 123 20 v18) 123 19 v20) 142 t v21) 123 22 v22) (Qv (F_goes s t))) (fun cc kk => ?_) (fun cc kk => ?_) (fun v23 e23 => ?_)
    · skip
      refine UP.icT rfl cc ?_
      refine UP.stp 2 (i1 := 173) (L1 := [some (.ref 123), some (.int (Int32.ofNat t)), some (.int v1), some (.int v7), some (.int v8), some (.int v16)]) (st1 := [.int (z2 123 23), .ref 123]) (s1 := (uset (uset (uset (uset (uset (uset (uset z2 123 20 v10) 123 20 v13) 123 20 v14) 123 20 v18) 123 19 v20) 142 t v21) 123 22 v22)) rfl ?_
      exact kk
    · skip
      refine UP.icF rfl cc ?_
      refine UP.stp 2 (i1 := 173) (L1 := [some (.ref 123), some (.int (Int32.ofNat t)), some (.int v1), some (.int v7), some (.int v8), some (.int v16)]) (st1 := [.int (Int32.ofNat t), .ref 123]) (s1 := (uset (uset (uset (uset (uset (uset (uset z2 123 20 v10) 123 20 v13) 123 20 v14) 123 20 v18) 123 19 v20) 142 t v21) 123 22 v22)) rfl ?_
      exact kk
    subst e23
    exact kk
  refine UP.stp 6 (i1 := 179) (L1 := [some (.ref 123), some (.int (Int32.ofNat t)), some (.int v1), some (.int v7), some (.int v8), some (.int v16)]) (st1 := [.int (z2 123 10), .int v20, .ref 123]) (s1 := (uset (uset (uset (uset (uset (uset (uset (uset z2 123 20 v10) 123 20 v13) 123 20 v14) 123 20 v18) 123 19 v20) 142 t v21) 123 22 v22) 123 23 v24)) rfl ?_
  refine mrg (m_cmp .lt v20 (z2 123 10)) (-1 : Int32) (Int32.ofNat t) (fun v25 : Int32 => UP m_X7_goes 183 [some (.ref 123), some (.int (Int32.ofNat t)), some (.int v1), some (.int v7), some (.int v8), some (.int v16)] [.int v25, .ref 123] (uset (uset (uset (uset (uset (uset (uset (uset z2 123 20 v10) 123 20 v13) 123 20 v14) 123 20 v18) 123 19 v20) 142 t v21) 123 22 v22) 123 23 v24) (Qv (F_goes s t))) (fun cc kk => ?_) (fun cc kk => ?_) (fun v25 e25 => ?_)
  · skip
    refine UP.icT rfl cc ?_
    refine UP.stp 1 (i1 := 183) (L1 := [some (.ref 123), some (.int (Int32.ofNat t)), some (.int v1), some (.int v7), some (.int v8), some (.int v16)]) (st1 := [.int (-1), .ref 123]) (s1 := (uset (uset (uset (uset (uset (uset (uset (uset z2 123 20 v10) 123 20 v13) 123 20 v14) 123 20 v18) 123 19 v20) 142 t v21) 123 22 v22) 123 23 v24)) rfl ?_
    exact kk
  · skip
    refine UP.icF rfl cc ?_
    refine UP.stp 2 (i1 := 183) (L1 := [some (.ref 123), some (.int (Int32.ofNat t)), some (.int v1), some (.int v7), some (.int v8), some (.int v16)]) (st1 := [.int (Int32.ofNat t), .ref 123]) (s1 := (uset (uset (uset (uset (uset (uset (uset (uset z2 123 20 v10) 123 20 v13) 123 20 v14) 123 20 v18) 123 19 v20) 142 t v21) 123 22 v22) 123 23 v24)) rfl ?_
    exact kk
  refine UP.stp 1 (i1 := 184) (L1 := [some (.ref 123), some (.int (Int32.ofNat t)), some (.int v1), some (.int v7), some (.int v8), some (.int v16)]) (st1 := []) (s1 := (uset (uset (uset (uset (uset (uset (uset (uset (uset z2 123 20 v10) 123 20 v13) 123 20 v14) 123 20 v18) 123 19 v20) 142 t v21) 123 22 v22) 123 23 v24) 123 21 v25)) rfl ?_
  exact UP.ret (r := none) rfl ⟨by subst e25 e24 e22 e21 e20 e19 e18 e16 e14 e13 e12 e10 e9 e8 e7 e2 e1; first | (dsimp only [F_goes]; done) | (dsimp only; done) | rfl, by subst e25 e24 e22 e21 e20 e19 e18 e16 e14 e13 e12 e10 e9 e8 e7 e2 e1; first | (dsimp only [F_goes]; done) | (dsimp only; done) | rfl⟩
def W_goesBy : List (Nat × Nat × Option Nat) := [(136, 143, none), (123, 123, some 19), (123, 123, some 20), (123, 123, some 21), (123, 123, some 22), (123, 123, some 23), (123, 123, some 24), (123, 123, some 25), (123, 123, some 26), (123, 123, some 27)]
def B_goesBy_20 (t : Nat) (i2 : Nat) (a2 : SG) : SG := (uset a2 143 (8 * t + i2) 0)
theorem fr_B_goesBy_20 (t : Nat) (i2 : Nat) (a2 : SG)  (hi2 : i2 < 8) : Fr W_goesBy a2 ((B_goesBy_20 t) i2 a2) := by dsimp only [B_goesBy_20]; exact (Fr.uset (s1 := a2) (a := 143) (j := 8 * t + i2) (x := 0) (by rfl) (Fr.rf _ _))
def F_goesBy (s : SG) (t : Nat) : SG := let z1 := F_befalls s t; let z2 := itr (B_goesBy_20 t) 0 8 (uset (uset (uset z1 136 0 0) 136 1 0) 142 t 0); let v4 := bif m_cmp .ne (z2 123 21) (-1) then z2 else (F_goes z2 t); let v5 := v4 123 19; let v6 := v4 123 20; let v7 := v4 136 0; let v8 := v4 136 1; let v9 := bif m_cmp .ge (v4 123 20) 10 then (v4 123 20) - 10 else 10 - (v4 123 20); let v10 := bif m_cmp .le v9 (v4 123 24) then v4 123 24 else v9; (uset (uset (uset (uset (uset v4 139 t v5) 140 t v6) 141 (2 * t) v7) 141 (2 * t + 1) v8) 123 24 v10)
theorem fr_goesBy (s : SG) (t : Nat)  : Fr W_goesBy s (F_goesBy s t) := by dsimp only [F_goesBy]; exact (let z1 : SG := F_befalls s t; (let z2 : SG := itr (B_goesBy_20 t) 0 8 (uset (uset (uset z1 136 0 0) 136 1 0) 142 t 0); (let v4 : SG := bif m_cmp .ne (z2 123 21) (-1) then z2 else (F_goes z2 t); (let v5 : Int32 := v4 123 19; (let v6 : Int32 := v4 123 20; (let v7 : Int32 := v4 136 0; (let v8 : Int32 := v4 136 1; (let v9 : Int32 := bif m_cmp .ge (v4 123 20) 10 then (v4 123 20) - 10 else 10 - (v4 123 20); (let v10 : Int32 := bif m_cmp .le v9 (v4 123 24) then v4 123 24 else v9; (Fr.uset (s1 := (uset (uset (uset (uset v4 139 t v5) 140 t v6) 141 (2 * t) v7) 141 (2 * t + 1) v8)) (a := 123) (j := 24) (x := v10) (by rfl) (Fr.uset (s1 := (uset (uset (uset v4 139 t v5) 140 t v6) 141 (2 * t) v7)) (a := 141) (j := 2 * t + 1) (x := v8) (by rfl) (Fr.uset (s1 := (uset (uset v4 139 t v5) 140 t v6)) (a := 141) (j := 2 * t) (x := v7) (by rfl) (Fr.uset (s1 := (uset v4 139 t v5)) (a := 140) (j := t) (x := v6) (by rfl) (Fr.uset (s1 := v4) (a := 139) (j := t) (x := v5) (by rfl) (Fr.bif (b := m_cmp .ne (z2 123 21) (-1)) (s1 := z2) (s2 := (F_goes z2 t)) (frItrB (W := W_goesBy) (m := (fun x : SG => x)) (f := (B_goesBy_20 t)) 8 (fun ii aa hh => Fr.wk (W2 := W_goesBy) (fr_B_goesBy_20 t ii aa  hh) (by rfl)) 8 0 (uset (uset (uset z1 136 0 0) 136 1 0) 142 t 0) (by omega) (Fr.uset (s1 := (uset (uset z1 136 0 0) 136 1 0)) (a := 142) (j := t) (x := 0) (by rfl) (Fr.uset (s1 := (uset z1 136 0 0)) (a := 136) (j := 1) (x := 0) (by rfl) (Fr.uset (s1 := z1) (a := 136) (j := 0) (x := 0) (by rfl) (Fr.tr (s1 := s) (Fr.rf _ _) (Fr.wk (W2 := W_goesBy) (fr_befalls s t) (by rfl))))))) (Fr.tr (s1 := z2) (frItrB (W := W_goesBy) (m := (fun x : SG => x)) (f := (B_goesBy_20 t)) 8 (fun ii aa hh => Fr.wk (W2 := W_goesBy) (fr_B_goesBy_20 t ii aa  hh) (by rfl)) 8 0 (uset (uset (uset z1 136 0 0) 136 1 0) 142 t 0) (by omega) (Fr.uset (s1 := (uset (uset z1 136 0 0) 136 1 0)) (a := 142) (j := t) (x := 0) (by rfl) (Fr.uset (s1 := (uset z1 136 0 0)) (a := 136) (j := 1) (x := 0) (by rfl) (Fr.uset (s1 := z1) (a := 136) (j := 0) (x := 0) (by rfl) (Fr.tr (s1 := s) (Fr.rf _ _) (Fr.wk (W2 := W_goesBy) (fr_befalls s t) (by rfl))))))) (Fr.wk (W2 := W_goesBy) (fr_goes z2 t) (by rfl))))))))))))))))))
theorem ux_goesBy (s : SG) (t : Nat) (ht : t < 24) : UP m_X7_goesBy 0 (m_ent 3 [.ref 123, .int (Int32.ofNat t)]) [] s (Qv (F_goesBy s t)) := by
  refine UP.stp 2 (i1 := 2) (L1 := [some (.ref 123), some (.int (Int32.ofNat t)), none]) (st1 := [.int (Int32.ofNat t), .ref 123]) (s1 := s) rfl ?_
  refine UP.cV (M1 := m_X7_befalls) (as := [.ref 123, .int (Int32.ofNat t)]) (rest := []) (T := F_befalls s t) rfl rfl (ux_befalls s t) (fun z1 e1 => ?_)
  refine UP.stp 14 (i1 := 17) (L1 := [some (.ref 123), some (.int (Int32.ofNat t)), none]) (st1 := [.int 0, .int (Int32.ofNat t), .ref 142]) (s1 := (uset (uset z1 136 0 0) 136 1 0)) rfl ?_
  refine UP.ast (e := t) rfl rfl (by omega) ?_
  show UP m_X7_goesBy 18 [some (.ref 123), some (.int (Int32.ofNat t)), none] [] (uset (uset (uset z1 136 0 0) 136 1 0) 142 t 0) (Qv (F_goesBy s t))
  refine UP.stp 2 (i1 := 20) (L1 := [some (.ref 123), some (.int (Int32.ofNat t)), some (.int 0)]) (st1 := []) (s1 := (uset (uset (uset z1 136 0 0) 136 1 0) 142 t 0)) rfl ?_
  refine lp (fun (i2 : Nat) (a2 : SG) => UP m_X7_goesBy 20 [some (.ref 123), some (.int (Int32.ofNat t)), some (.int (Int32.ofNat i2))] [] a2 (Qv (F_goesBy s t))) (fun (_ : Nat) (a2 : SG) => Fr W_goesBy (uset (uset (uset z1 136 0 0) 136 1 0) 142 t 0) a2) (B_goesBy_20 t) (8) (fun i2 a2 hi2 g2 => g2.tr (fr_B_goesBy_20 t i2 a2 hi2)) (fun i2 a2 hi2 g2 kk => ?_) 8 (0) (uset (uset (uset z1 136 0 0) 136 1 0) 142 t 0) (by  omega) (Fr.rf _ _) (fun z2 e2 g2 => ?_)
  · skip
    refine UP.stp 2 (i1 := 22) (L1 := [some (.ref 123), some (.int (Int32.ofNat t)), some (.int (Int32.ofNat i2))]) (st1 := [.int 8, .int (Int32.ofNat i2)]) (s1 := a2) rfl ?_
    refine UP.icF rfl (ge_F (show i2 < (8 : Int32).toNatClampNeg from hi2)) ?_
    refine UP.stp 8 (i1 := 31) (L1 := [some (.ref 123), some (.int (Int32.ofNat t)), some (.int (Int32.ofNat i2))]) (st1 := [.int 0, .int ((8 * (Int32.ofNat t)) + (Int32.ofNat i2)), .ref 143]) (s1 := a2) rfl ?_
    refine UP.ast (e := 8 * t + i2) rfl (ofn_add (ofn_mul rfl rfl) rfl) (by omega) ?_
    show UP m_X7_goesBy 32 [some (.ref 123), some (.int (Int32.ofNat t)), some (.int (Int32.ofNat i2))] [] (uset a2 143 (8 * t + i2) 0) (Qv (F_goesBy s t))
    refine UP.stp 2 (i1 := 20) (L1 := [some (.ref 123), some (.int (Int32.ofNat t)), some (.int ((Int32.ofNat i2) + 1))]) (st1 := []) (s1 := (uset a2 143 (8 * t + i2) 0)) rfl ?_
    rw [ofn_s]
    try dsimp only [B_goesBy_20] at kk
    exact kk
  refine UP.stp 2 (i1 := 22) (L1 := [some (.ref 123), some (.int (Int32.ofNat t)), some (.int (Int32.ofNat 8))]) (st1 := [.int 8, .int (Int32.ofNat 8)]) (s1 := z2) rfl ?_
  refine UP.icT rfl (ge_T (8 : Int32)) ?_
  refine UP.stp 3 (i1 := 37) (L1 := [some (.ref 123), some (.int (Int32.ofNat t)), some (.int (Int32.ofNat 8))]) (st1 := [.int (-1), .int (z2 123 21)]) (s1 := z2) rfl ?_
  refine mrg (m_cmp .ne (z2 123 21) (-1)) z2 (F_goes z2 t) (fun v4 : SG => UP m_X7_goesBy 41 [some (.ref 123), some (.int (Int32.ofNat t)), some (.int (Int32.ofNat 8))] [] v4 (Qv (F_goesBy s t))) (fun cc kk => ?_) (fun cc kk => ?_) (fun v4 e4 => ?_)
  · skip
    refine UP.icT rfl cc ?_
    exact kk
  · skip
    refine UP.icF rfl cc ?_
    refine UP.stp 2 (i1 := 40) (L1 := [some (.ref 123), some (.int (Int32.ofNat t)), some (.int (Int32.ofNat 8))]) (st1 := [.int (Int32.ofNat t), .ref 123]) (s1 := z2) rfl ?_
    refine UP.cV (M1 := m_X7_goes) (as := [.ref 123, .int (Int32.ofNat t)]) (rest := []) (T := F_goes z2 t) rfl rfl (ux_goes z2 t ht) (fun z3 e3 => ?_)
    subst e3
    exact kk
  refine UP.stp 5 (i1 := 46) (L1 := [some (.ref 123), some (.int (Int32.ofNat t)), some (.int (Int32.ofNat 8))]) (st1 := [.int (v4 123 19), .int (Int32.ofNat t), .ref 139]) (s1 := v4) rfl ?_
  refine nm (G := fun v5 => UP m_X7_goesBy 46 [some (.ref 123), some (.int (Int32.ofNat t)), some (.int (Int32.ofNat 8))] [.int v5, .int (Int32.ofNat t), .ref 139] v4 (Qv (F_goesBy s t))) (v4 123 19) (fun v5 e5 => ?_)
  refine UP.ast (e := t) rfl rfl (by omega) ?_
  show UP m_X7_goesBy 47 [some (.ref 123), some (.int (Int32.ofNat t)), some (.int (Int32.ofNat 8))] [] (uset v4 139 t v5) (Qv (F_goesBy s t))
  refine UP.stp 5 (i1 := 52) (L1 := [some (.ref 123), some (.int (Int32.ofNat t)), some (.int (Int32.ofNat 8))]) (st1 := [.int (v4 123 20), .int (Int32.ofNat t), .ref 140]) (s1 := (uset v4 139 t v5)) rfl ?_
  refine nm (G := fun v6 => UP m_X7_goesBy 52 [some (.ref 123), some (.int (Int32.ofNat t)), some (.int (Int32.ofNat 8))] [.int v6, .int (Int32.ofNat t), .ref 140] (uset v4 139 t v5) (Qv (F_goesBy s t))) (v4 123 20) (fun v6 e6 => ?_)
  refine UP.ast (e := t) rfl rfl (by omega) ?_
  show UP m_X7_goesBy 53 [some (.ref 123), some (.int (Int32.ofNat t)), some (.int (Int32.ofNat 8))] [] (uset (uset v4 139 t v5) 140 t v6) (Qv (F_goesBy s t))
  refine UP.stp 9 (i1 := 62) (L1 := [some (.ref 123), some (.int (Int32.ofNat t)), some (.int (Int32.ofNat 8))]) (st1 := [.int (v4 136 0), .int (2 * (Int32.ofNat t)), .ref 141]) (s1 := (uset (uset v4 139 t v5) 140 t v6)) rfl ?_
  refine nm (G := fun v7 => UP m_X7_goesBy 62 [some (.ref 123), some (.int (Int32.ofNat t)), some (.int (Int32.ofNat 8))] [.int v7, .int (2 * (Int32.ofNat t)), .ref 141] (uset (uset v4 139 t v5) 140 t v6) (Qv (F_goesBy s t))) (v4 136 0) (fun v7 e7 => ?_)
  refine UP.ast (e := 2 * t) rfl (ofn_mul rfl rfl) (by omega) ?_
  show UP m_X7_goesBy 63 [some (.ref 123), some (.int (Int32.ofNat t)), some (.int (Int32.ofNat 8))] [] (uset (uset (uset v4 139 t v5) 140 t v6) 141 (2 * t) v7) (Qv (F_goesBy s t))
  refine UP.stp 11 (i1 := 74) (L1 := [some (.ref 123), some (.int (Int32.ofNat t)), some (.int (Int32.ofNat 8))]) (st1 := [.int (v4 136 1), .int ((2 * (Int32.ofNat t)) + 1), .ref 141]) (s1 := (uset (uset (uset v4 139 t v5) 140 t v6) 141 (2 * t) v7)) rfl ?_
  refine nm (G := fun v8 => UP m_X7_goesBy 74 [some (.ref 123), some (.int (Int32.ofNat t)), some (.int (Int32.ofNat 8))] [.int v8, .int ((2 * (Int32.ofNat t)) + 1), .ref 141] (uset (uset (uset v4 139 t v5) 140 t v6) 141 (2 * t) v7) (Qv (F_goesBy s t))) (v4 136 1) (fun v8 e8 => ?_)
  refine UP.ast (e := 2 * t + 1) rfl (ofn_add (ofn_mul rfl rfl) rfl) (by omega) ?_
  show UP m_X7_goesBy 75 [some (.ref 123), some (.int (Int32.ofNat t)), some (.int (Int32.ofNat 8))] [] (uset (uset (uset (uset v4 139 t v5) 140 t v6) 141 (2 * t) v7) 141 (2 * t + 1) v8) (Qv (F_goesBy s t))
  refine UP.stp 3 (i1 := 78) (L1 := [some (.ref 123), some (.int (Int32.ofNat t)), some (.int (Int32.ofNat 8))]) (st1 := [.int 10, .int (v4 123 20)]) (s1 := (uset (uset (uset (uset v4 139 t v5) 140 t v6) 141 (2 * t) v7) 141 (2 * t + 1) v8)) rfl ?_
  refine mrg (m_cmp .ge (v4 123 20) 10) ((v4 123 20) - 10) (10 - (v4 123 20)) (fun v9 : Int32 => UP m_X7_goesBy 88 [some (.ref 123), some (.int (Int32.ofNat t)), some (.int (Int32.ofNat 8))] [.int v9] (uset (uset (uset (uset v4 139 t v5) 140 t v6) 141 (2 * t) v7) 141 (2 * t + 1) v8) (Qv (F_goesBy s t))) (fun cc kk => ?_) (fun cc kk => ?_) (fun v9 e9 => ?_)
  · skip
    refine UP.icT rfl cc ?_
    refine UP.stp 4 (i1 := 88) (L1 := [some (.ref 123), some (.int (Int32.ofNat t)), some (.int (Int32.ofNat 8))]) (st1 := [.int ((v4 123 20) - 10)]) (s1 := (uset (uset (uset (uset v4 139 t v5) 140 t v6) 141 (2 * t) v7) 141 (2 * t + 1) v8)) rfl ?_
    exact kk
  · skip
    refine UP.icF rfl cc ?_
    refine UP.stp 5 (i1 := 88) (L1 := [some (.ref 123), some (.int (Int32.ofNat t)), some (.int (Int32.ofNat 8))]) (st1 := [.int (10 - (v4 123 20))]) (s1 := (uset (uset (uset (uset v4 139 t v5) 140 t v6) 141 (2 * t) v7) 141 (2 * t + 1) v8)) rfl ?_
    exact kk
  refine UP.stp 5 (i1 := 93) (L1 := [some (.ref 123), some (.int (Int32.ofNat t)), some (.int v9)]) (st1 := [.int (v4 123 24), .int v9, .ref 123]) (s1 := (uset (uset (uset (uset v4 139 t v5) 140 t v6) 141 (2 * t) v7) 141 (2 * t + 1) v8)) rfl ?_
  refine mrg (m_cmp .le v9 (v4 123 24)) (v4 123 24) v9 (fun v10 : Int32 => UP m_X7_goesBy 98 [some (.ref 123), some (.int (Int32.ofNat t)), some (.int v9)] [.int v10, .ref 123] (uset (uset (uset (uset v4 139 t v5) 140 t v6) 141 (2 * t) v7) 141 (2 * t + 1) v8) (Qv (F_goesBy s t))) (fun cc kk => ?_) (fun cc kk => ?_) (fun v10 e10 => ?_)
  · skip
    refine UP.icT rfl cc ?_
    refine UP.stp 2 (i1 := 98) (L1 := [some (.ref 123), some (.int (Int32.ofNat t)), some (.int v9)]) (st1 := [.int (v4 123 24), .ref 123]) (s1 := (uset (uset (uset (uset v4 139 t v5) 140 t v6) 141 (2 * t) v7) 141 (2 * t + 1) v8)) rfl ?_
    exact kk
  · skip
    refine UP.icF rfl cc ?_
    refine UP.stp 2 (i1 := 98) (L1 := [some (.ref 123), some (.int (Int32.ofNat t)), some (.int v9)]) (st1 := [.int v9, .ref 123]) (s1 := (uset (uset (uset (uset v4 139 t v5) 140 t v6) 141 (2 * t) v7) 141 (2 * t + 1) v8)) rfl ?_
    exact kk
  refine UP.stp 1 (i1 := 99) (L1 := [some (.ref 123), some (.int (Int32.ofNat t)), some (.int v9)]) (st1 := []) (s1 := (uset (uset (uset (uset (uset v4 139 t v5) 140 t v6) 141 (2 * t) v7) 141 (2 * t + 1) v8) 123 24 v10)) rfl ?_
  exact UP.ret (r := none) rfl ⟨by subst e10 e9 e8 e7 e6 e5 e4 e2 e1; first | (dsimp only [F_goesBy]; done) | (dsimp only; done) | rfl, by subst e10 e9 e8 e7 e6 e5 e4 e2 e1; first | (dsimp only [F_goesBy]; done) | (dsimp only; done) | rfl⟩
def W_runs : List (Nat × Nat × Option Nat) := [(136, 143, none), (123, 123, some 19), (123, 123, some 20), (123, 123, some 21), (123, 123, some 22), (123, 123, some 23), (123, 123, some 24), (123, 123, some 25), (123, 123, some 26), (123, 123, some 27)]
def B_runs_20  (i1 : Nat) (a1 : SG) : SG := (uset (uset a1 137 i1 0) 138 i1 0)
theorem fr_B_runs_20  (i1 : Nat) (a1 : SG)  (hi1 : i1 < 8) : Fr W_runs a1 ((B_runs_20) i1 a1) := by dsimp only [B_runs_20]; exact (Fr.uset (s1 := (uset a1 137 i1 0)) (a := 138) (j := i1) (x := 0) (by rfl) (Fr.uset (s1 := a1) (a := 137) (j := i1) (x := 0) (by rfl) (Fr.rf _ _)))
def B_runs_37  (i2 : Nat) (a2 : SG) : SG := let z3 := F_goesBy a2 i2; z3
theorem fr_B_runs_37  (i2 : Nat) (a2 : SG)  (hi2 : i2 < 24) : Fr W_runs a2 ((B_runs_37) i2 a2) := by dsimp only [B_runs_37]; exact (Fr.tr (s1 := a2) (Fr.rf _ _) (Fr.wk (W2 := W_runs) (fr_goesBy a2 i2) (by rfl)))
def F_runs (s : SG)  : SG := let z1 := itr (B_runs_20) 0 8 (uset (uset (uset (uset (uset (uset s 123 19 0) 123 20 10) 123 21 (-1)) 123 22 0) 123 23 (-1)) 123 24 0); let z2 := itr (B_runs_37) 0 24 z1; z2
theorem fr_runs (s : SG)   : Fr W_runs s (F_runs s) := by dsimp only [F_runs]; exact (let z1 : SG := itr (B_runs_20) 0 8 (uset (uset (uset (uset (uset (uset s 123 19 0) 123 20 10) 123 21 (-1)) 123 22 0) 123 23 (-1)) 123 24 0); (frItrB (W := W_runs) (m := (fun x : SG => x)) (f := (B_runs_37)) 24 (fun ii aa hh => Fr.wk (W2 := W_runs) (fr_B_runs_37  ii aa  hh) (by rfl)) 24 0 z1 (by omega) (frItrB (W := W_runs) (m := (fun x : SG => x)) (f := (B_runs_20)) 8 (fun ii aa hh => Fr.wk (W2 := W_runs) (fr_B_runs_20  ii aa  hh) (by rfl)) 8 0 (uset (uset (uset (uset (uset (uset s 123 19 0) 123 20 10) 123 21 (-1)) 123 22 0) 123 23 (-1)) 123 24 0) (by omega) (Fr.uset (s1 := (uset (uset (uset (uset (uset s 123 19 0) 123 20 10) 123 21 (-1)) 123 22 0) 123 23 (-1))) (a := 123) (j := 24) (x := 0) (by rfl) (Fr.uset (s1 := (uset (uset (uset (uset s 123 19 0) 123 20 10) 123 21 (-1)) 123 22 0)) (a := 123) (j := 23) (x := (-1)) (by rfl) (Fr.uset (s1 := (uset (uset (uset s 123 19 0) 123 20 10) 123 21 (-1))) (a := 123) (j := 22) (x := 0) (by rfl) (Fr.uset (s1 := (uset (uset s 123 19 0) 123 20 10)) (a := 123) (j := 21) (x := (-1)) (by rfl) (Fr.uset (s1 := (uset s 123 19 0)) (a := 123) (j := 20) (x := 10) (by rfl) (Fr.uset (s1 := s) (a := 123) (j := 19) (x := 0) (by rfl) (Fr.rf _ _))))))))))
theorem ux_runs (s : SG)   : UP m_X7_runs 0 (m_ent 2 [.ref 123]) [] s (Qv (F_runs s)) := by
  refine UP.stp 20 (i1 := 20) (L1 := [some (.ref 123), some (.int 0)]) (st1 := []) (s1 := (uset (uset (uset (uset (uset (uset s 123 19 0) 123 20 10) 123 21 (-1)) 123 22 0) 123 23 (-1)) 123 24 0)) rfl ?_
  refine lp (fun (i1 : Nat) (a1 : SG) => UP m_X7_runs 20 [some (.ref 123), some (.int (Int32.ofNat i1))] [] a1 (Qv (F_runs s))) (fun (_ : Nat) (a1 : SG) => Fr W_runs (uset (uset (uset (uset (uset (uset s 123 19 0) 123 20 10) 123 21 (-1)) 123 22 0) 123 23 (-1)) 123 24 0) a1) (B_runs_20) (8) (fun i1 a1 hi1 g1 => g1.tr (fr_B_runs_20  i1 a1 hi1)) (fun i1 a1 hi1 g1 kk => ?_) 8 (0) (uset (uset (uset (uset (uset (uset s 123 19 0) 123 20 10) 123 21 (-1)) 123 22 0) 123 23 (-1)) 123 24 0) (by  omega) (Fr.rf _ _) (fun z1 e1 g1 => ?_)
  · skip
    refine UP.stp 2 (i1 := 22) (L1 := [some (.ref 123), some (.int (Int32.ofNat i1))]) (st1 := [.int 8, .int (Int32.ofNat i1)]) (s1 := a1) rfl ?_
    refine UP.icF rfl (ge_F (show i1 < (8 : Int32).toNatClampNeg from hi1)) ?_
    refine UP.stp 4 (i1 := 27) (L1 := [some (.ref 123), some (.int (Int32.ofNat i1))]) (st1 := [.int 0, .int (Int32.ofNat i1), .ref 137]) (s1 := a1) rfl ?_
    refine UP.ast (e := i1) rfl rfl (by omega) ?_
    show UP m_X7_runs 28 [some (.ref 123), some (.int (Int32.ofNat i1))] [] (uset a1 137 i1 0) (Qv (F_runs s))
    refine UP.stp 4 (i1 := 32) (L1 := [some (.ref 123), some (.int (Int32.ofNat i1))]) (st1 := [.int 0, .int (Int32.ofNat i1), .ref 138]) (s1 := (uset a1 137 i1 0)) rfl ?_
    refine UP.ast (e := i1) rfl rfl (by omega) ?_
    show UP m_X7_runs 33 [some (.ref 123), some (.int (Int32.ofNat i1))] [] (uset (uset a1 137 i1 0) 138 i1 0) (Qv (F_runs s))
    refine UP.stp 2 (i1 := 20) (L1 := [some (.ref 123), some (.int ((Int32.ofNat i1) + 1))]) (st1 := []) (s1 := (uset (uset a1 137 i1 0) 138 i1 0)) rfl ?_
    rw [ofn_s]
    try dsimp only [B_runs_20] at kk
    exact kk
  refine UP.stp 2 (i1 := 22) (L1 := [some (.ref 123), some (.int (Int32.ofNat 8))]) (st1 := [.int 8, .int (Int32.ofNat 8)]) (s1 := z1) rfl ?_
  refine UP.icT rfl (ge_T (8 : Int32)) ?_
  refine UP.stp 2 (i1 := 37) (L1 := [some (.ref 123), some (.int 0)]) (st1 := []) (s1 := z1) rfl ?_
  refine lp (fun (i2 : Nat) (a2 : SG) => UP m_X7_runs 37 [some (.ref 123), some (.int (Int32.ofNat i2))] [] a2 (Qv (F_runs s))) (fun (_ : Nat) (a2 : SG) => Fr W_runs z1 a2) (B_runs_37) (24) (fun i2 a2 hi2 g2 => g2.tr (fr_B_runs_37  i2 a2 hi2)) (fun i2 a2 hi2 g2 kk => ?_) 24 (0) z1 (by  omega) (Fr.rf _ _) (fun z2 e2 g2 => ?_)
  · skip
    refine UP.stp 2 (i1 := 39) (L1 := [some (.ref 123), some (.int (Int32.ofNat i2))]) (st1 := [.int 24, .int (Int32.ofNat i2)]) (s1 := a2) rfl ?_
    refine UP.icF rfl (ge_F (show i2 < (24 : Int32).toNatClampNeg from hi2)) ?_
    refine UP.stp 2 (i1 := 42) (L1 := [some (.ref 123), some (.int (Int32.ofNat i2))]) (st1 := [.int (Int32.ofNat i2), .ref 123]) (s1 := a2) rfl ?_
    refine UP.cV (M1 := m_X7_goesBy) (as := [.ref 123, .int (Int32.ofNat i2)]) (rest := []) (T := F_goesBy a2 i2) rfl rfl (ux_goesBy a2 i2 hi2) (fun z3 e3 => ?_)
    refine UP.stp 2 (i1 := 37) (L1 := [some (.ref 123), some (.int ((Int32.ofNat i2) + 1))]) (st1 := []) (s1 := z3) rfl ?_
    subst e3
    rw [ofn_s]
    try dsimp only [B_runs_37] at kk
    exact kk
  refine UP.stp 2 (i1 := 39) (L1 := [some (.ref 123), some (.int (Int32.ofNat 24))]) (st1 := [.int 24, .int (Int32.ofNat 24)]) (s1 := z2) rfl ?_
  refine UP.icT rfl (ge_T (24 : Int32)) ?_
  exact UP.ret (r := none) rfl ⟨by subst e2 e1; first | (dsimp only [F_runs]; done) | (dsimp only; done) | rfl, by subst e2 e1; first | (dsimp only [F_runs]; done) | (dsimp only; done) | rfl⟩
end
