/-! THE UNCHECKED MACHINE: runs over the ints of a heap alone (cell, place), every reference being known; what the small machine comes to, it comes to -/
abbrev SG : Type := Nat → Nat → Int32
abbrev UO : Type := (Nat × ML × List Value × SG) ⊕ ((Nat × List Value × List Value) ⊕ Option Value)
def cI (h : MH) : SG := fun a j => match h[a]? with
  | some (.inr (_, vs)) => (match vs[j]? with | some (.int x) => x | _ => 0)
  | some (.inl (_, .inl l)) => l.getD j 0
  | _ => 0
def uset (s : SG) (a j : Nat) (x : Int32) : SG := fun b k => if b = a ∧ k = j then x else s b k
def mvs (s : SG) (a0 i a1 j n : Nat) : SG := fun b k => if b = a1 ∧ j ≤ k ∧ k < j + n then s a0 (i + (k - j)) else s b k
def HU : AH := [.inr (.inr (6, [.inl 1, .inl 2, .inl 6, .inl 9, .inr (-2147483648, 2147483647, false), .inl 10, .inl 15, .inl 53, .inl 58, .inl 96, .inl 97, .inl 108, .inr (-2147483648, 2147483647, false), .inr (-2147483648, 2147483647, false)])), .inr (.inl (2, [109, 111, 113])), .inr (.inr (1, [.inl 3, .inl 4, .inl 5, .inr (-2147483648, 2147483647, false)])), .inl (0, 8, -2147483648, 2147483647, false), .inl (0, 8, -2147483648, 2147483647, false), .inl (0, 8, -2147483648, 2147483647, false), .inr (.inr (2, [.inl 7, .inl 8, .inr (-2147483648, 2147483647, false)])), .inl (0, 8, -2147483648, 2147483647, false), .inl (0, 8, -2147483648, 2147483647, false), .inr (.inl (3, [115, 117, 119, 121])), .inr (.inr (0, [.inr (-2147483648, 2147483647, false), .inl 11, .inl 12, .inl 13, .inl 14, .inr (-2147483648, 2147483647, false), .inr (-2147483648, 2147483647, false)])), .inl (0, 8, -2147483648, 2147483647, false), .inl (0, 8, -2147483648, 2147483647, false), .inl (0, 24, -2147483648, 2147483647, false), .inl (0, 24, -2147483648, 2147483647, false), .inr (.inr (5, [.inl 16, .inl 17, .inl 18, .inl 19, .inl 20, .inl 21, .inl 46, .inl 47, .inr (-2147483648, 2147483647, false), .inl 48, .inl 49, .inl 50, .inl 51, .inl 52])), .inl (0, 24, -2147483648, 2147483647, false), .inl (0, 24, -2147483648, 2147483647, false), .inl (0, 24, -2147483648, 2147483647, false), .inl (0, 24, -2147483648, 2147483647, false), .inl (0, 24, -2147483648, 2147483647, false), .inr (.inl (4, [22, 23, 24, 25, 26, 27, 28, 29, 30, 31, 32, 33, 34, 35, 36, 37, 38, 39, 40, 41, 42, 43, 44, 45])), .inl (0, 8, -2147483648, 2147483647, false), .inl (0, 8, -2147483648, 2147483647, false), .inl (0, 8, -2147483648, 2147483647, false), .inl (0, 8, -2147483648, 2147483647, false), .inl (0, 8, -2147483648, 2147483647, false), .inl (0, 8, -2147483648, 2147483647, false), .inl (0, 8, -2147483648, 2147483647, false), .inl (0, 8, -2147483648, 2147483647, false), .inl (0, 8, -2147483648, 2147483647, false), .inl (0, 8, -2147483648, 2147483647, false), .inl (0, 8, -2147483648, 2147483647, false), .inl (0, 8, -2147483648, 2147483647, false), .inl (0, 8, -2147483648, 2147483647, false), .inl (0, 8, -2147483648, 2147483647, false), .inl (0, 8, -2147483648, 2147483647, false), .inl (0, 8, -2147483648, 2147483647, false), .inl (0, 8, -2147483648, 2147483647, false), .inl (0, 8, -2147483648, 2147483647, false), .inl (0, 8, -2147483648, 2147483647, false), .inl (0, 8, -2147483648, 2147483647, false), .inl (0, 8, -2147483648, 2147483647, false), .inl (0, 8, -2147483648, 2147483647, false), .inl (0, 8, -2147483648, 2147483647, false), .inl (0, 8, -2147483648, 2147483647, false), .inl (0, 8, -2147483648, 2147483647, false), .inl (0, 8, -2147483648, 2147483647, false), .inl (0, 8, -2147483648, 2147483647, false), .inl (0, 8, -2147483648, 2147483647, false), .inl (0, 24, -2147483648, 2147483647, false), .inl (0, 24, -2147483648, 2147483647, false), .inl (0, 24, -2147483648, 2147483647, false), .inr (.inr (0, [.inr (-2147483648, 2147483647, false), .inl 54, .inl 55, .inl 56, .inl 57, .inr (-2147483648, 2147483647, false), .inr (-2147483648, 2147483647, false)])), .inl (0, 8, -2147483648, 2147483647, false), .inl (0, 8, -2147483648, 2147483647, false), .inl (0, 24, -2147483648, 2147483647, false), .inl (0, 24, -2147483648, 2147483647, false), .inr (.inr (5, [.inl 59, .inl 60, .inl 61, .inl 62, .inl 63, .inl 64, .inl 89, .inl 90, .inr (-2147483648, 2147483647, false), .inl 91, .inl 92, .inl 93, .inl 94, .inl 95])), .inl (0, 24, -2147483648, 2147483647, false), .inl (0, 24, -2147483648, 2147483647, false), .inl (0, 24, -2147483648, 2147483647, false), .inl (0, 24, -2147483648, 2147483647, false), .inl (0, 24, -2147483648, 2147483647, false), .inr (.inl (4, [65, 66, 67, 68, 69, 70, 71, 72, 73, 74, 75, 76, 77, 78, 79, 80, 81, 82, 83, 84, 85, 86, 87, 88])), .inl (0, 8, -2147483648, 2147483647, false), .inl (0, 8, -2147483648, 2147483647, false), .inl (0, 8, -2147483648, 2147483647, false), .inl (0, 8, -2147483648, 2147483647, false), .inl (0, 8, -2147483648, 2147483647, false), .inl (0, 8, -2147483648, 2147483647, false), .inl (0, 8, -2147483648, 2147483647, false), .inl (0, 8, -2147483648, 2147483647, false), .inl (0, 8, -2147483648, 2147483647, false), .inl (0, 8, -2147483648, 2147483647, false), .inl (0, 8, -2147483648, 2147483647, false), .inl (0, 8, -2147483648, 2147483647, false), .inl (0, 8, -2147483648, 2147483647, false), .inl (0, 8, -2147483648, 2147483647, false), .inl (0, 8, -2147483648, 2147483647, false), .inl (0, 8, -2147483648, 2147483647, false), .inl (0, 8, -2147483648, 2147483647, false), .inl (0, 8, -2147483648, 2147483647, false), .inl (0, 8, -2147483648, 2147483647, false), .inl (0, 8, -2147483648, 2147483647, false), .inl (0, 8, -2147483648, 2147483647, false), .inl (0, 8, -2147483648, 2147483647, false), .inl (0, 8, -2147483648, 2147483647, false), .inl (0, 8, -2147483648, 2147483647, false), .inl (0, 8, -2147483648, 2147483647, false), .inl (0, 8, -2147483648, 2147483647, false), .inl (0, 8, -2147483648, 2147483647, false), .inl (0, 8, -2147483648, 2147483647, false), .inl (0, 24, -2147483648, 2147483647, false), .inl (0, 24, -2147483648, 2147483647, false), .inl (0, 24, -2147483648, 2147483647, false), .inl (0, 256, -2147483648, 2147483647, false), .inr (.inl (4, [98, 99, 100, 101, 102, 103, 104, 105, 106, 107])), .inl (0, 24, -2147483648, 2147483647, false), .inl (0, 24, -2147483648, 2147483647, false), .inl (0, 24, -2147483648, 2147483647, false), .inl (0, 24, -2147483648, 2147483647, false), .inl (0, 24, -2147483648, 2147483647, false), .inl (0, 24, -2147483648, 2147483647, false), .inl (0, 24, -2147483648, 2147483647, false), .inl (0, 24, -2147483648, 2147483647, false), .inl (0, 24, -2147483648, 2147483647, false), .inl (0, 24, -2147483648, 2147483647, false), .inl (0, 21, -2147483648, 2147483647, false), .inr (.inr (4, [.inl 110, .inr (-2147483648, 2147483647, false)])), .inl (0, 23, -2147483648, 2147483647, false), .inr (.inr (4, [.inl 112, .inr (-2147483648, 2147483647, false)])), .inl (0, 24, -2147483648, 2147483647, false), .inr (.inr (4, [.inl 114, .inr (-2147483648, 2147483647, false)])), .inl (0, 24, -2147483648, 2147483647, false), .inr (.inr (3, [.inl 116, .inr (-2147483648, 2147483647, false), .inr (-2147483648, 2147483647, false), .inr (-2147483648, 2147483647, false)])), .inl (0, 60, -2147483648, 2147483647, false), .inr (.inr (3, [.inl 118, .inr (-2147483648, 2147483647, false), .inr (-2147483648, 2147483647, false), .inr (-2147483648, 2147483647, false)])), .inl (0, 60, -2147483648, 2147483647, false), .inr (.inr (3, [.inl 120, .inr (-2147483648, 2147483647, false), .inr (-2147483648, 2147483647, false), .inr (-2147483648, 2147483647, false)])), .inl (0, 60, -2147483648, 2147483647, false), .inr (.inr (3, [.inl 122, .inr (-2147483648, 2147483647, false), .inr (-2147483648, 2147483647, false), .inr (-2147483648, 2147483647, false)])), .inl (0, 60, -2147483648, 2147483647, false), .inr (.inr (7, [.inl 124, .inl 125, .inr (-2147483648, 2147483647, false), .inl 126, .inl 127, .inr (-2147483648, 2147483647, false), .inl 128, .inr (-2147483648, 2147483647, false), .inl 129, .inr (-2147483648, 2147483647, false), .inr (-2147483648, 2147483647, false), .inr (-2147483648, 2147483647, false), .inl 130, .inl 131, .inl 132, .inl 133, .inl 134, .inr (-2147483648, 2147483647, false), .inl 135, .inr (-2147483648, 2147483647, false), .inr (-2147483648, 2147483647, false), .inr (-2147483648, 2147483647, false), .inr (-2147483648, 2147483647, false), .inr (-2147483648, 2147483647, false), .inr (-2147483648, 2147483647, false), .inr (-2147483648, 2147483647, false), .inr (-2147483648, 2147483647, false), .inr (-2147483648, 2147483647, false), .inl 136, .inl 137, .inl 138, .inl 139, .inl 140, .inl 141, .inl 142, .inl 143, .inl 144, .inr (-2147483648, 2147483647, false), .inl 145, .inl 146, .inl 147, .inl 148, .inl 149, .inl 150, .inl 151, .inl 152, .inr (-2147483648, 2147483647, false)])), .inl (0, 3, -2147483648, 2147483647, false), .inl (0, 72, -2147483648, 2147483647, false), .inl (0, 9, -2147483648, 2147483647, false), .inl (0, 9, -2147483648, 2147483647, false), .inl (0, 24, -2147483648, 2147483647, false), .inl (0, 24, -2147483648, 2147483647, false), .inl (0, 8, -2147483648, 2147483647, false), .inl (0, 8, -2147483648, 2147483647, false), .inl (0, 8, -2147483648, 2147483647, false), .inl (0, 24, -2147483648, 2147483647, false), .inl (0, 24, -2147483648, 2147483647, false), .inl (0, 8, -2147483648, 2147483647, false), .inl (0, 2, -2147483648, 2147483647, false), .inl (0, 8, -2147483648, 2147483647, false), .inl (0, 8, -2147483648, 2147483647, false), .inl (0, 24, -2147483648, 2147483647, false), .inl (0, 24, -2147483648, 2147483647, false), .inl (0, 48, -2147483648, 2147483647, false), .inl (0, 24, -2147483648, 2147483647, false), .inl (0, 192, -2147483648, 2147483647, false), .inl (0, 2, -2147483648, 2147483647, false), .inl (0, 8, -2147483648, 2147483647, false), .inl (0, 8, -2147483648, 2147483647, false), .inl (0, 240, -2147483648, 2147483647, false), .inl (1, 4, -2147483648, 2147483647, false), .inl (0, 4, -2147483648, 2147483647, false), .inl (0, 4, -2147483648, 2147483647, false), .inl (0, 240, -2147483648, 2147483647, false), .inl (0, 60, -2147483648, 2147483647, false)]
def fdo : List (List (Option Nat)) := [[none, some 1, some 2, some 3, some 4, none, none], [some 1, some 2, some 3, none], [some 1, some 2, none], [some 1, none, none, none], [some 1, none], [some 1, some 2, some 3, some 4, some 5, some 6, some 31, some 32, none, some 33, some 34, some 35, some 36, some 37], [some 1, some 2, some 6, some 9, none, some 10, some 15, some 53, some 58, some 96, some 97, some 108, none, none], [some 1, some 2, none, some 3, some 4, none, some 5, none, some 6, none, none, none, some 7, some 8, some 9, some 10, some 11, none, some 12, none, none, none, none, none, none, none, none, none, some 13, some 14, some 15, some 16, some 17, some 18, some 19, some 20, some 21, none, some 22, some 23, some 24, some 25, some 26, some 27, some 28, some 29, none]]
def uar (a j : Nat) : Nat := if a = 1 then 109 + 2 * j else if a = 9 then 115 + 2 * j else a + 1 + j
def uln (a : Nat) : Nat := match HU[a]? with
  | some (.inl (_, n, _)) => n
  | _ => 0
def ufd (ci k : Nat) : Option Nat := (fdo.getD ci []).getD k none
def uy_get (ci k i : Nat) (L : ML) (st : List Value) (s : SG) : Option UO := match st with
  | .ref a :: r => (match ufd ci k with
    | some d => some (.inl (i + 1, L, .ref (a + d) :: r, s))
    | none => some (.inl (i + 1, L, .int (s a k) :: r, s)))
  | _ => none
def uy_put (k i : Nat) (L : ML) (st : List Value) (s : SG) : Option UO := match st with
  | .int x :: .ref a :: r => some (.inl (i + 1, L, r, uset s a k x))
  | _ => none
def uy_ald (i : Nat) (L : ML) (st : List Value) (s : SG) : Option UO := match st with
  | .int j :: .ref a :: r => some (.inl (i + 1, L, .int (s a j.toNatClampNeg) :: r, s))
  | _ => none
def uy_ast (i : Nat) (L : ML) (st : List Value) (s : SG) : Option UO := match st with
  | .int x :: .int j :: .ref a :: r => some (.inl (i + 1, L, r, uset s a j.toNatClampNeg x))
  | _ => none
def uy_aald (i : Nat) (L : ML) (st : List Value) (s : SG) : Option UO := match st with
  | .int j :: .ref a :: r => some (.inl (i + 1, L, .ref (uar a j.toNatClampNeg) :: r, s))
  | _ => none
def uy_len (i : Nat) (L : ML) (st : List Value) (s : SG) : Option UO := match st with
  | .ref a :: r => some (.inl (i + 1, L, .int (Int32.ofNat (uln a)) :: r, s))
  | _ => none
def uy_cv (y n : Nat) (st : List Value) : Option UO := match (st.take (n + 1)).reverse with
  | .ref a :: as => some (.inr (.inl (y, .ref a :: as, st.drop (n + 1))))
  | _ => none
def uy_cpy (i : Nat) (L : ML) (st : List Value) (s : SG) : Option UO := match st with
  | .int n :: .int dp :: .ref a1 :: .int sp :: .ref a0 :: r => some (.inl (i + 1, L, r, mvs s a0 sp.toNatClampNeg a1 dp.toNatClampNeg n.toNatClampNeg))
  | _ => none
def uo (L : ML) (s : SG) (o : MO) : UO := match o with
  | .inl (i, _, st, _) => .inl (i, L, st, s)
  | .inr x => .inr x
def uy_ild (k i : Nat) (L : ML) (st : List Value) (s : SG) : Option UO := match L[k]? with
  | some (some v) => some (.inl (i + 1, L, v :: st, s))
  | _ => none
def uy_ist (k i : Nat) (L : ML) (st : List Value) (s : SG) : Option UO := match st with
  | v :: r => some (.inl (i + 1, L.set k (some v), r, s))
  | _ => none
def uy_inc (k : Nat) (n : Int) (i : Nat) (L : ML) (st : List Value) (s : SG) : Option UO := match L[k]? with
  | some (some (.int x)) => some (.inl (i + 1, L.set k (some (.int (x + Int32.ofInt n))), st, s))
  | _ => none
def uy_ret (st : List Value) : Option UO := match st with
  | [v] => some (.inr (.inr (some v)))
  | _ => none
def uexec (ins : Instr) (ops : List Int) (i : Nat) (L : ML) (st : List Value) (s : SG) : Option UO := match ins with
  | .getfield _ => uy_get (m_n ops 0) (m_n ops 1) i L st s
  | .putfield _ => uy_put (m_n ops 1) i L st s
  | .iaload => uy_ald i L st s
  | .baload => uy_ald i L st s
  | .iastore => uy_ast i L st s
  | .bastore => uy_ast i L st s
  | .aaload => uy_aald i L st s
  | .arraylength => uy_len i L st s
  | .invokevirtual _ => uy_cv (m_n ops 0) (m_n ops 1) st
  | .iload k => uy_ild k i L st s
  | .iload_n k => uy_ild k i L st s
  | .lload k => uy_ild k i L st s
  | .lload_n k => uy_ild k i L st s
  | .aload k => uy_ild k i L st s
  | .aload_n k => uy_ild k i L st s
  | .istore k => uy_ist k i L st s
  | .istore_n k => uy_ist k i L st s
  | .lstore k => uy_ist k i L st s
  | .lstore_n k => uy_ist k i L st s
  | .astore k => uy_ist k i L st s
  | .astore_n k => uy_ist k i L st s
  | .iinc k n => uy_inc k n i L st s
  | .ireturn => uy_ret st
  | .invokestatic k => if m_n ops 0 = 2 then uy_cpy i L st s else (mexec false [] (.invokestatic k) ops i [] st []).map (uo L s)
  | x => (mexec false [] x ops i [] st []).map (uo L s)
def okU (ins : Instr) (ops : List Int) : Bool := match ins with
  | .new _ => false
  | .newarray _ => false
  | .anewarray _ => false
  | .multianewarray _ _ => false
  | .aastore => false
  | .invokespecial _ => false
  | .putfield _ => (m_n ops 3 == 0 || m_n ops 3 == 1) && (ufd (m_n ops 0) (m_n ops 1)).isNone
  | _ => true
/-- a run on another heap -/
def hp (L : ML) (h : MH) (o : MO) : MO := match o with
  | .inl (i, _, st, _) => .inl (i, L, st, h)
  | .inr x => .inr x
section HPS
variable {i : Nat} {L : ML} {st : List Value} {h : MH}
theorem hp_ii (f : Int32 → Int32 → Int32) : o_ii f i L st h = (o_ii f i [] st []).map (hp L h) := by unfold o_ii; split <;> rfl
theorem hp_id (f : Int32 → Int32 → Int32) : o_id f i L st h = (o_id f i [] st []).map (hp L h) := by
  unfold o_id
  split
  · split <;> rfl
  · rfl
theorem hp_jj (f : Int64 → Int64 → Int64) : o_jj f i L st h = (o_jj f i [] st []).map (hp L h) := by unfold o_jj; split <;> rfl
theorem hp_jd (f : Int64 → Int64 → Int64) : o_jd f i L st h = (o_jd f i [] st []).map (hp L h) := by
  unfold o_jd
  split
  · split <;> rfl
  · rfl
theorem hp_i1 (f : Int32 → Value) : o_i1 f i L st h = (o_i1 f i [] st []).map (hp L h) := by unfold o_i1; split <;> rfl
theorem hp_lshl : o_lshl i L st h = (o_lshl i [] st []).map (hp L h) := by unfold o_lshl; split <;> rfl
theorem hp_lcmp : o_lcmp i L st h = (o_lcmp i [] st []).map (hp L h) := by unfold o_lcmp; split <;> rfl
theorem hp_dup : o_dup i L st h = (o_dup i [] st []).map (hp L h) := by
  unfold o_dup
  split
  · split <;> rfl
  · rfl
theorem hp_dup2 : o_dup2 i L st h = (o_dup2 i [] st []).map (hp L h) := by
  unfold o_dup2
  split
  · split <;> rfl
  · rfl
theorem hp_pop : o_pop i L st h = (o_pop i [] st []).map (hp L h) := by
  unfold o_pop
  split
  · split <;> rfl
  · rfl
theorem hp_pop2 : o_pop2 i L st h = (o_pop2 i [] st []).map (hp L h) := by
  unfold o_pop2
  split
  · split <;> rfl
  · rfl
theorem hp_if (c : Jvm.ClassFile.Cond) (t : Nat) : o_if c t i L st h = (o_if c t i [] st []).map (hp L h) := by
  unfold o_if
  split
  · rename_i x r
    cases m_cmp c x 0 <;> rfl
  · rfl
theorem hp_icmp (c : Jvm.ClassFile.Cond) (t : Nat) : o_icmp c t i L st h = (o_icmp c t i [] st []).map (hp L h) := by
  unfold o_icmp
  split
  · rename_i y x r
    cases m_cmp c x y <;> rfl
  · rfl
theorem hp_sw (lo hi : Int) (ops : List Int) : o_sw lo hi ops L st h = (o_sw lo hi ops [] st []).map (hp L h) := by
  unfold o_sw
  split
  · split <;> rfl
  · rfl
theorem hp_mm (f : Int32 → Int32 → Int32) : o_mm f i L st h = (o_mm f i [] st []).map (hp L h) := by
  unfold o_mm
  split
  · rename_i y x r
    cases m_small r <;> rfl
  · rfl
theorem hp_ma : o_ma i L st h = (o_ma i [] st []).map (hp L h) := by
  unfold o_ma
  split
  · rename_i x r
    cases m_small r <;> rfl
  · rfl
theorem hp_cs (y n : Nat) : o_cs y n st = (o_cs y n st).map (hp L h) := by
  unfold o_cs
  cases (decide ((st.take n).length = n) && m_small (st.drop n)) <;> rfl
theorem hp_lret : o_lret st = (o_lret st).map (hp L h) := by unfold o_lret; split <;> rfl
theorem hp_aret : o_aret st = (o_aret st).map (hp L h) := by unfold o_aret; split <;> rfl
theorem hp_vret : o_vret st = (o_vret st).map (hp L h) := by unfold o_vret; split <;> rfl
end HPS
def lqL (L U : ML) : Prop := L.length = U.length ∧ ∀ (k : Nat) (v : Value), L[k]? = some (some v) → U[k]? = some (some v)
theorem lqL.rf (L : ML) : lqL L L := ⟨rfl, fun _ _ h => h⟩
theorem lqL.set {L U : ML} (g : lqL L U) (k : Nat) (v : Value) : lqL (L.set k (some v)) (U.set k (some v)) := by
  refine ⟨by rw [List.length_set, List.length_set]; exact g.1, fun j w hj => ?_⟩
  by_cases e : k = j
  · subst e
    by_cases hk : k < L.length
    · rw [List.getElem?_set_self hk] at hj
      rw [List.getElem?_set_self (by rw [← g.1]; exact hk)]
      exact hj
    · rw [List.getElem?_eq_none (by rw [List.length_set]; omega)] at hj
      cases hj
  · rw [List.getElem?_set_ne e] at hj ⊢
    exact g.2 j w hj
theorem lqL.non {L U : ML} (g : lqL L U) (k : Nat) : lqL (L.set k none) U := by
  refine ⟨by rw [List.length_set]; exact g.1, fun j w hj => ?_⟩
  by_cases e : k = j
  · subst e
    by_cases hk : k < L.length
    · rw [List.getElem?_set_self hk] at hj
      cases hj
    · rw [List.getElem?_eq_none (by rw [List.length_set]; omega)] at hj
      cases hj
  · rw [List.getElem?_set_ne e] at hj
    exact g.2 j w hj
theorem lqL.inv {L U : ML} (g : lqL L U) (k : Nat) : lqL (m_inv L k) U := by
  cases k with
  | zero => exact g
  | succ k =>
    show lqL (match L[k]? with | some (some w) => if w.category = 2 then L.set k none else L | _ => L) U
    split
    · split
      · exact g.non k
      · exact g
    · exact g
def rU (o : MO) (p : UO) : Prop := match o, p with
  | .inl (i, L, st, h), .inl (j, U, st2, s) => j = i ∧ st2 = st ∧ s = cI h ∧ lqL L U ∧ gH HU h
  | .inr x, .inr y => x = y
  | _, _ => False
theorem hp_sim {q : Option MO} {L U : ML} {h : MH} {o : MO} (g : gH HU h) (l : lqL L U) (e : q.map (hp L h) = some o) : ∃ p, q.map (uo U (cI h)) = some p ∧ rU o p := by
  cases q with
  | none => cases e
  | some p =>
    have e : hp L h p = o := Option.some.inj e
    subst e
    rcases p with ⟨i, L2, st, h2⟩ | x
    · exact ⟨_, rfl, rfl, rfl, rfl, l, g⟩
    · exact ⟨_, rfl, rfl⟩
def ukF (a ci k : Nat) (f : AF) : Bool := match f with
  | .inl q => (match ufd ci k with | some d => q == a + d | none => false)
  | .inr (lo, hi, fz) => (ufd ci k).isNone && (decide (lo = -2147483648) && (decide (hi = 2147483647) && !fz))
def ukC (a : Nat) (c : AC) : Bool := match c with
  | .inl (_, n, lo, hi, fz) => decide (lo = -2147483648) && (decide (hi = 2147483647) && (!fz && uln a == n))
  | .inr (.inl (t, rs)) => !(t == 99) && (List.range rs.length).all (fun j => match rs[j]? with | some q => q == uar a j | none => false)
  | .inr (.inr (ci, fs)) => (List.range fs.length).all (fun k => match fs[k]? with | some f => ukF a ci k f | none => false)
theorem uk_all : (List.range 153).all (fun a => match HU[a]? with | some c => ukC a c | none => false) = true := by decide +kernel
theorem HU_len : HU.length = 153 := by decide +kernel
theorem hu_at {h : MH} {a : Nat} {x : ME} (g : gH HU h) (hx : h[a]? = some x) : ∃ c, HU[a]? = some c ∧ gC c x ∧ ukC a c = true := by
  have hl : a < h.length := (List.getElem?_eq_some_iff.mp hx).1
  have hl : a < 153 := by rw [← g.1, HU_len] at hl; exact hl
  have q := List.all_eq_true.mp uk_all a (List.mem_range.mpr hl)
  have q : (match HU[a]? with | some c => ukC a c | none => false) = true := q
  split at q
  · rename_i c hc
    obtain ⟨y, hy, gy⟩ := g.2 a c hc
    rw [hx] at hy
    cases hy
    exact ⟨c, hc, gy, q⟩
  · cases q
theorem hu_obj {h : MH} {a ci k : Nat} {vs : List Value} {v : Value} (g : gH HU h) (hx : h[a]? = some (.inr (ci, vs))) (hv : vs[k]? = some v) : ∃ fs f, HU[a]? = some (.inr (.inr (ci, fs))) ∧ vs.length = fs.length ∧ fs[k]? = some f ∧ gF f v ∧ ukF a ci k f = true ∧ ∀ (k : Nat) (f : AF), fs[k]? = some f → ∃ v, vs[k]? = some v ∧ gF f v := by
  obtain ⟨c, hc, gc, kc⟩ := hu_at g hx
  rcases c with ⟨t, n, lo, hi, fz⟩ | ⟨t, rs⟩ | ⟨cj, fs⟩
  · obtain ⟨l, e, -⟩ := gc
    cases e
  · rcases gc with e | e
    · have kc := (b_and kc).1
      rw [e] at kc
      cases kc
    · cases e
  · obtain ⟨ws, e, hl, hb⟩ := gc
    cases e
    have hk : k < fs.length := by rw [← hl]; exact (List.getElem?_eq_some_iff.mp hv).1
    have q := List.all_eq_true.mp kc k (List.mem_range.mpr hk)
    have hf : fs[k]? = some fs[k] := List.getElem?_eq_getElem hk
    have q : (match fs[k]? with | some f => ukF a ci k f | none => false) = true := q
    rw [hf] at q
    obtain ⟨v2, hv2, gv⟩ := hb k _ hf
    rw [hv] at hv2
    cases hv2
    exact ⟨fs, fs[k], hc, hl, hf, gv, q, hb⟩
theorem hu_arr {h : MH} {a t : Nat} {l : List Int32} (g : gH HU h) (hx : h[a]? = some (.inl (t, .inl l))) : HU[a]? = some (.inl (t, l.length, -2147483648, 2147483647, false)) ∧ uln a = l.length := by
  obtain ⟨c, hc, gc, kc⟩ := hu_at g hx
  rcases c with ⟨t2, n, lo, hi, fz⟩ | ⟨t2, rs⟩ | ⟨cj, fs⟩
  · obtain ⟨l2, e, hl, -⟩ := gc
    cases e
    obtain ⟨k1, kc⟩ := b_and kc
    obtain ⟨k2, kc⟩ := b_and kc
    obtain ⟨k3, k4⟩ := b_and kc
    have k1 := of_decide_eq_true k1
    have k2 := of_decide_eq_true k2
    have k3 : fz = false := by cases fz with
      | true => cases k3
      | false => rfl
    have k4 : uln a = n := by simpa using k4
    subst k1 k2 k3 hl
    exact ⟨hc, k4⟩
  · rcases gc with e | e
    · have kc := (b_and kc).1
      rw [e] at kc
      cases kc
    · cases e
  · obtain ⟨ws, e, -⟩ := gc
    cases e
theorem hu_ref {h : MH} {a t j : Nat} {l : List (Option Nat)} (g : gH HU h) (hx : h[a]? = some (.inl (t, .inr l))) (hj : j < l.length) : l.getD j none = some (uar a j) := by
  obtain ⟨c, hc, gc, kc⟩ := hu_at g hx
  rcases c with ⟨t2, n, lo, hi, fz⟩ | ⟨t2, rs⟩ | ⟨cj, fs⟩
  · obtain ⟨l2, e, -⟩ := gc
    cases e
  · obtain ⟨k1, k2⟩ := b_and kc
    rcases gc with e | e
    · rw [e] at k1
      cases k1
    · cases e
      rw [List.length_map] at hj
      have q := List.all_eq_true.mp k2 j (List.mem_range.mpr hj)
      have hf : rs[j]? = some rs[j] := List.getElem?_eq_getElem hj
      have q : (match rs[j]? with | some q => q == uar a j | none => false) = true := q
      rw [hf] at q
      have q : rs[j] = uar a j := by simpa using q
      rw [List.getD_eq_getElem?_getD, List.getElem?_map, hf, q]
      rfl
  · obtain ⟨ws, e, -⟩ := gc
    cases e
theorem cI_arr {h : MH} {a t : Nat} {l : List Int32} (hx : h[a]? = some (.inl (t, .inl l))) (j : Nat) : cI h a j = l.getD j 0 := by unfold cI; rw [hx]
theorem cI_cell {h h1 : MH} {a : Nat} (e : h1[a]? = h[a]?) (j : Nat) : cI h1 a j = cI h a j := by unfold cI; rw [e]
theorem cI_setA {h : MH} {a t j : Nat} {x : Int32} {l : List Int32} (hx : h[a]? = some (.inl (t, .inl l))) (hj : j < l.length) : cI (h.set a (.inl (t, .inl (l.set j x)))) = uset (cI h) a j x := by
  have ha : a < h.length := (List.getElem?_eq_some_iff.mp hx).1
  funext b k
  unfold uset
  by_cases e : b = a
  · subst e
    rw [cI_arr (List.getElem?_set_self ha), cI_arr hx]
    by_cases e2 : k = j
    · subst e2
      rw [if_pos ⟨rfl, rfl⟩, List.getD_eq_getElem?_getD, List.getElem?_set_self hj]
      rfl
    · rw [if_neg (fun q => e2 q.2), List.getD_eq_getElem?_getD, List.getElem?_set_ne (fun q => e2 q.symm), List.getD_eq_getElem?_getD]
  · rw [if_neg (fun q => e q.1)]
    exact cI_cell (List.getElem?_set_ne (fun q => e q.symm)) k
theorem cI_setF {h : MH} {a ci k : Nat} {x : Int32} {vs : List Value} (hx : h[a]? = some (.inr (ci, vs))) (hk : k < vs.length) : cI (h.set a (.inr (ci, vs.set k (.int x)))) = uset (cI h) a k x := by
  have ha : a < h.length := (List.getElem?_eq_some_iff.mp hx).1
  funext b j
  unfold uset
  by_cases e : b = a
  · subst e
    by_cases e2 : j = k
    · subst e2
      rw [if_pos ⟨rfl, rfl⟩]
      unfold cI
      rw [List.getElem?_set_self ha]
      dsimp only
      rw [List.getElem?_set_self hk]
    · rw [if_neg (fun q => e2 q.2)]
      unfold cI
      rw [List.getElem?_set_self ha, hx]
      dsimp only
      rw [List.getElem?_set_ne (fun q => e2 q.symm)]
  · rw [if_neg (fun q => e q.1)]
    exact cI_cell (List.getElem?_set_ne (fun q => e q.symm)) j
theorem cI_cpy {h : MH} {a0 a1 t0 t1 sp dp n : Nat} {f g : List Int32} (h0 : h[a0]? = some (.inl (t0, .inl f))) (h1 : h[a1]? = some (.inl (t1, .inl g))) (l0 : sp + n ≤ f.length) (l1 : dp + n ≤ g.length) : cI (h.set a1 (.inl (t1, .inl (m_cpy f g sp dp n)))) = mvs (cI h) a0 sp a1 dp n := by
  have ha : a1 < h.length := (List.getElem?_eq_some_iff.mp h1).1
  funext b k
  unfold mvs
  by_cases e : b = a1
  · subst e
    rw [cI_arr (List.getElem?_set_self ha), cI_arr h1, List.getD_eq_getElem?_getD, List.getD_eq_getElem?_getD, cI_arr h0, List.getD_eq_getElem?_getD]
    unfold m_cpy
    by_cases e2 : dp ≤ k ∧ k < dp + n
    · rw [if_pos ⟨rfl, e2⟩, List.getElem?_append_right (by rw [List.length_take]; omega), List.length_take, List.getElem?_append_left (by rw [List.length_take, List.length_drop]; omega), List.getElem?_take_of_lt (by omega), List.getElem?_drop]
      rw [show min dp g.length = dp by omega]
    · rw [if_neg (fun q => e2 q.2)]
      by_cases e3 : k < dp
      · rw [List.getElem?_append_left (by rw [List.length_take]; omega), List.getElem?_take_of_lt e3]
      · rw [List.getElem?_append_right (by rw [List.length_take]; omega), List.length_take, List.getElem?_append_right (by rw [List.length_take, List.length_drop]; omega), List.length_take, List.length_drop, List.getElem?_drop]
        rw [show dp + n + (k - min dp g.length - min n (f.length - sp)) = k by omega]
  · rw [if_neg (fun q => e q.1)]
    exact cI_cell (List.getElem?_set_ne (fun q => e q.symm)) k
section SIM
variable {i : Nat} {L U : ML} {st : List Value} {h : MH} {o : MO}
theorem uy_get_ok {ci k : Nat} (g : gH HU h) (l : lqL L U) (hm : o_get ci k i L st h = some o) : ∃ p, uy_get ci k i U st (cI h) = some p ∧ rU o p := by
  unfold o_get at hm
  split at hm
  · rename_i a r
    split at hm
    · rename_i c fs hx
      obtain ⟨hc, hm2⟩ := b_if hm
      clear hm
      have hc : c = ci := by simpa using hc
      subst hc
      split at hm2
      · rename_i v hv
        cases hm2
        refine ⟨.inl (i + 1, U, v :: r, cI h), ?_, rfl, rfl, rfl, l, g⟩
        obtain ⟨gs, f, -, -, -, gv, kf, -⟩ := hu_obj g hx hv
        unfold uy_get
        rcases f with q | ⟨lo, hi, fz⟩
        · have gv : v = .ref q := gv
          subst gv
          have kf : (match ufd c k with | some d => q == a + d | none => false) = true := kf
          split at kf
          · rename_i d hd
            have kf : q = a + d := by simpa using kf
            dsimp only
            rw [kf]
          · cases kf
        · obtain ⟨x, rfl, -, -⟩ := gv
          obtain ⟨kf, -⟩ := b_and kf
          dsimp only
          rw [Option.isNone_iff_eq_none.mp kf]
          have e : cI h a k = x := by unfold cI; rw [hx]; dsimp only; rw [hv]
          rw [e]
      · cases hm2
    · cases hm
  · cases hm
theorem uy_put_ok {ci k tc : Nat} (g : gH HU h) (l : lqL L U) (hok : ((tc == 0 || tc == 1) && (ufd ci k).isNone) = true) (hm : o_put ci k tc i L st h = some o) : ∃ p, uy_put k i U st (cI h) = some p ∧ rU o p := by
  obtain ⟨ht, hn⟩ := b_and hok
  unfold o_put at hm
  split at hm
  · rename_i v a r
    split at hm
    · rename_i c fs hx
      obtain ⟨hc, hm2⟩ := b_if hm
      clear hm
      obtain ⟨hc, hb⟩ := b_and hc
      obtain ⟨hf, hk⟩ := b_and hb
      have hc : c = ci := by simpa using hc
      subst hc
      have hk := of_decide_eq_true hk
      cases hm2
      have hv : ∃ x, v = .int x := by
        cases v
        case int x => exact ⟨x, rfl⟩
        case ref q =>
          have hf : (tc == 2) = true := hf
          have hf : tc = 2 := by simpa using hf
          subst hf
          cases ht
        all_goals cases hf
      obtain ⟨x, rfl⟩ := hv
      obtain ⟨gs, f, hc, hl, hfk, -, kf, hb⟩ := hu_obj g hx (List.getElem?_eq_getElem hk)
      rcases f with q | ⟨lo, hi, fz⟩
      · have kf : (match ufd c k with | some d => q == a + d | none => false) = true := kf
        rw [Option.isNone_iff_eq_none.mp hn] at kf
        cases kf
      · obtain ⟨-, kf⟩ := b_and kf
        obtain ⟨k1, kf⟩ := b_and kf
        obtain ⟨k2, -⟩ := b_and kf
        have k1 := of_decide_eq_true k1
        have k2 := of_decide_eq_true k2
        refine ⟨.inl (i + 1, U, r, uset (cI h) a k x), rfl, rfl, rfl, ?_, l, ?_⟩
        · rw [cI_setF hx hk]
        · refine g.put hc hx ⟨_, rfl, by simp [hl], fun j f hj => ?_⟩
          by_cases e : k = j
          · subst e
            rw [hfk] at hj
            cases hj
            exact ⟨.int x, List.getElem?_set_self hk, x, rfl, by rw [k1]; exact i32_ge x, by rw [k2]; exact i32_le x⟩
          · rw [List.getElem?_set_ne e]
            exact hb j f hj
    · cases hm
  · cases hm
theorem uy_ald_ok {t : Nat} (g : gH HU h) (l : lqL L U) (hm : o_ald false [] t i L st h = some o) : ∃ p, uy_ald i U st (cI h) = some p ∧ rU o p := by
  unfold o_ald at hm
  split at hm
  · rename_i j a r
    split at hm
    · rename_i u lx hx
      obtain ⟨-, hm⟩ := b_if hm
      cases hm
      refine ⟨.inl (i + 1, U, .int (cI h a j.toNatClampNeg) :: r, cI h), rfl, rfl, ?_, rfl, l, g⟩
      rw [cI_arr hx]
    · cases hm
  · cases hm
  · cases hm
theorem uy_ast_ok {t : Nat} (g : gH HU h) (l : lqL L U) (hm : o_ast t i L st h = some o) : ∃ p, uy_ast i U st (cI h) = some p ∧ rU o p := by
  unfold o_ast at hm
  split at hm
  · rename_i x j a r
    split at hm
    · rename_i u lx hx
      obtain ⟨hb, hm⟩ := b_if hm
      obtain ⟨-, hb⟩ := b_and hb
      have hj := m_ok_lt (b_and hb).1
      cases hm
      obtain ⟨hc, -⟩ := hu_arr g hx
      refine ⟨.inl (i + 1, U, r, uset (cI h) a j.toNatClampNeg x), rfl, rfl, rfl, ?_, l, ?_⟩
      · rw [cI_setA hx hj]
      · exact g.put hc hx ⟨_, rfl, by simp, fun z _ => ⟨i32_ge z, i32_le z⟩⟩
    · cases hm
  · cases hm
theorem uy_aald_ok (g : gH HU h) (l : lqL L U) (hm : o_aald i L st h = some o) : ∃ p, uy_aald i U st (cI h) = some p ∧ rU o p := by
  unfold o_aald at hm
  split at hm
  · rename_i j a r
    split at hm
    · rename_i u lx hx
      obtain ⟨hb, hm⟩ := b_if hm
      have hj := m_ok_lt (b_and hb).2
      cases hm
      refine ⟨.inl (i + 1, U, .ref (uar a j.toNatClampNeg) :: r, cI h), rfl, rfl, ?_, rfl, l, g⟩
      rw [hu_ref g hx hj]
      rfl
    · cases hm
  · cases hm
theorem uy_len_ok (g : gH HU h) (l : lqL L U) (hm : o_len false [] i L st h = some o) : ∃ p, uy_len i U st (cI h) = some p ∧ rU o p := by
  unfold o_len at hm
  split at hm
  · rename_i a r
    split at hm
    · rename_i lx hx
      cases hm
      refine ⟨.inl (i + 1, U, .int (Int32.ofNat (uln a)) :: r, cI h), rfl, rfl, ?_, rfl, l, g⟩
      rw [(hu_arr g hx).2]
    · cases hm
  · cases hm
  · cases hm
theorem uy_cv_ok {y n ci : Nat} (hm : o_cv y n ci st h = some o) : ∃ p, uy_cv y n st = some p ∧ rU o p := by
  unfold o_cv at hm
  unfold uy_cv
  split at hm
  · rename_i a as he
    split at hm
    · obtain ⟨-, hm⟩ := b_if hm
      cases hm
      rw [he]
      exact ⟨_, rfl, rfl⟩
    · cases hm
  · cases hm
theorem uy_cpy_ok (g : gH HU h) (l : lqL L U) (hm : o_cpy i L st h = some o) : ∃ p, uy_cpy i U st (cI h) = some p ∧ rU o p := by
  unfold o_cpy at hm
  split at hm
  · rename_i n dp a1 sp a0 r
    split at hm
    · rename_i f q h0 h1
      obtain ⟨hb, hm⟩ := b_if hm
      obtain ⟨-, hb⟩ := b_and hb
      obtain ⟨b1, hb⟩ := b_and hb
      obtain ⟨b2, -⟩ := b_and hb
      have b1 := of_decide_eq_true b1
      have b2 := of_decide_eq_true b2
      cases hm
      obtain ⟨hc, -⟩ := hu_arr g h1
      refine ⟨.inl (i + 1, U, r, mvs (cI h) a0 sp.toNatClampNeg a1 dp.toNatClampNeg n.toNatClampNeg), rfl, rfl, rfl, ?_, l, ?_⟩
      · rw [cI_cpy h0 h1 b1 b2]
      · refine g.put hc h1 ⟨_, rfl, ?_, fun z _ => ⟨i32_ge z, i32_le z⟩⟩
        unfold m_cpy
        simp only [List.length_append, List.length_take, List.length_drop]
        omega
    · cases hm
  · cases hm
theorem uy_il_ok {k : Nat} (g : gH HU h) (l : lqL L U) (hm : o_il k i L st h = some o) : ∃ p, uy_ild k i U st (cI h) = some p ∧ rU o p := by
  unfold o_il at hm
  split at hm
  · rename_i x hx
    cases hm
    refine ⟨.inl (i + 1, U, .int x :: st, cI h), ?_, rfl, rfl, rfl, l, g⟩
    unfold uy_ild
    rw [l.2 k _ hx]
  · cases hm
theorem uy_jl_ok {k : Nat} (g : gH HU h) (l : lqL L U) (hm : o_jl k i L st h = some o) : ∃ p, uy_ild k i U st (cI h) = some p ∧ rU o p := by
  unfold o_jl at hm
  split at hm
  · rename_i x hx
    cases hm
    refine ⟨.inl (i + 1, U, .long x :: st, cI h), ?_, rfl, rfl, rfl, l, g⟩
    unfold uy_ild
    rw [l.2 k _ hx]
  · cases hm
theorem uy_al_ok {k : Nat} (g : gH HU h) (l : lqL L U) (hm : o_al k i L st h = some o) : ∃ p, uy_ild k i U st (cI h) = some p ∧ rU o p := by
  unfold o_al at hm
  split at hm
  · rename_i x hx
    cases hm
    refine ⟨.inl (i + 1, U, .ref x :: st, cI h), ?_, rfl, rfl, rfl, l, g⟩
    unfold uy_ild
    rw [l.2 k _ hx]
  · rename_i x hx
    cases hm
    refine ⟨.inl (i + 1, U, .float x :: st, cI h), ?_, rfl, rfl, rfl, l, g⟩
    unfold uy_ild
    rw [l.2 k _ hx]
  · cases hm
theorem uy_is_ok {k : Nat} (g : gH HU h) (l : lqL L U) (hm : o_is k i L st h = some o) : ∃ p, uy_ist k i U st (cI h) = some p ∧ rU o p := by
  unfold o_is at hm
  split at hm
  · rename_i x r
    split at hm
    · cases hm
      exact ⟨_, rfl, rfl, rfl, rfl, (l.inv k).set k _, g⟩
    · cases hm
  · cases hm
theorem uy_as_ok {k : Nat} (g : gH HU h) (l : lqL L U) (hm : o_as k i L st h = some o) : ∃ p, uy_ist k i U st (cI h) = some p ∧ rU o p := by
  unfold o_as at hm
  split at hm
  · rename_i x r
    split at hm
    · cases hm
      exact ⟨_, rfl, rfl, rfl, rfl, (l.inv k).set k _, g⟩
    · cases hm
  · cases hm
theorem uy_js_ok {k : Nat} (g : gH HU h) (l : lqL L U) (hm : o_js k i L st h = some o) : ∃ p, uy_ist k i U st (cI h) = some p ∧ rU o p := by
  unfold o_js at hm
  split at hm
  · rename_i x r
    split at hm
    · cases hm
      exact ⟨_, rfl, rfl, rfl, rfl, ((l.inv k).non (k + 1)).set k _, g⟩
    · cases hm
  · cases hm
theorem uy_inc_ok {k : Nat} {n : Int} (g : gH HU h) (l : lqL L U) (hm : o_inc k n i L st h = some o) : ∃ p, uy_inc k n i U st (cI h) = some p ∧ rU o p := by
  unfold o_inc at hm
  split at hm
  · rename_i x hx
    cases hm
    refine ⟨.inl (i + 1, U.set k (some (.int (x + Int32.ofInt n))), st, cI h), ?_, rfl, rfl, rfl, (l.inv k).set k _, g⟩
    unfold uy_inc
    rw [l.2 k _ hx]
  · cases hm
theorem uy_ret_ok {z : Nat} (hm : o_ret z st = some o) : ∃ p, uy_ret st = some p ∧ rU o p := by
  unfold o_ret at hm
  split at hm
  · obtain ⟨-, hm⟩ := b_if hm
    cases hm
    exact ⟨_, rfl, rfl⟩
  · cases hm
theorem uexec_ok {ins : Instr} {ops : List Int} (g : gH HU h) (l : lqL L U) (hok : okU ins ops = true) (hm : mexec false [] ins ops i L st h = some o) : ∃ p, uexec ins ops i U st (cI h) = some p ∧ rU o p := by
  cases ins
  case iconst n => exact hp_sim (q := o_nx i [] _ []) g l hm
  case bipush n => exact hp_sim (q := o_nx i [] _ []) g l hm
  case sipush n => exact hp_sim (q := o_nx i [] _ []) g l hm
  case ldc n => exact hp_sim (q := o_nx i [] _ []) g l hm
  case ldc_w n => exact hp_sim (q := o_nx i [] _ []) g l hm
  case ldc2_w n => exact hp_sim (q := o_nx i [] _ []) g l hm
  case lconst n => exact hp_sim (q := o_nx i [] _ []) g l hm
  case iload k => exact uy_il_ok g l hm
  case iload_n k => exact uy_il_ok g l hm
  case lload k => exact uy_jl_ok g l hm
  case lload_n k => exact uy_jl_ok g l hm
  case aload k => exact uy_al_ok g l hm
  case aload_n k => exact uy_al_ok g l hm
  case istore k => exact uy_is_ok g l hm
  case istore_n k => exact uy_is_ok g l hm
  case lstore k => exact uy_js_ok g l hm
  case lstore_n k => exact uy_js_ok g l hm
  case astore k => exact uy_as_ok g l hm
  case astore_n k => exact uy_as_ok g l hm
  case iinc k n => exact uy_inc_ok g l hm
  case dup => exact hp_sim g l (hp_dup.symm.trans hm)
  case dup2 => exact hp_sim g l (hp_dup2.symm.trans hm)
  case pop => exact hp_sim g l (hp_pop.symm.trans hm)
  case pop2 => exact hp_sim g l (hp_pop2.symm.trans hm)
  case iadd => exact hp_sim g l ((hp_ii _).symm.trans hm)
  case isub => exact hp_sim g l ((hp_ii _).symm.trans hm)
  case imul => exact hp_sim g l ((hp_ii _).symm.trans hm)
  case iand => exact hp_sim g l ((hp_ii _).symm.trans hm)
  case ior => exact hp_sim g l ((hp_ii _).symm.trans hm)
  case ixor => exact hp_sim g l ((hp_ii _).symm.trans hm)
  case ishl => exact hp_sim g l ((hp_ii _).symm.trans hm)
  case ishr => exact hp_sim g l ((hp_ii _).symm.trans hm)
  case iushr => exact hp_sim g l ((hp_ii _).symm.trans hm)
  case idiv => exact hp_sim g l ((hp_id _).symm.trans hm)
  case irem => exact hp_sim g l ((hp_id _).symm.trans hm)
  case ineg => exact hp_sim g l ((hp_i1 _).symm.trans hm)
  case i2l => exact hp_sim g l ((hp_i1 _).symm.trans hm)
  case i2b => exact hp_sim g l ((hp_i1 _).symm.trans hm)
  case i2s => exact hp_sim g l ((hp_i1 _).symm.trans hm)
  case ladd => exact hp_sim g l ((hp_jj _).symm.trans hm)
  case lsub => exact hp_sim g l ((hp_jj _).symm.trans hm)
  case lmul => exact hp_sim g l ((hp_jj _).symm.trans hm)
  case ldiv => exact hp_sim g l ((hp_jd _).symm.trans hm)
  case lrem => exact hp_sim g l ((hp_jd _).symm.trans hm)
  case lshl => exact hp_sim g l (hp_lshl.symm.trans hm)
  case lcmp => exact hp_sim g l (hp_lcmp.symm.trans hm)
  case ifCond c off => exact hp_sim g l ((hp_if c _).symm.trans hm)
  case if_icmp c off => exact hp_sim g l ((hp_icmp c _).symm.trans hm)
  case goto off => exact hp_sim (q := some (.inl (m_n ops 0, [], st, []))) g l hm
  case tableswitch d lo hi offs => exact hp_sim g l ((hp_sw lo hi ops).symm.trans hm)
  case iaload => exact uy_ald_ok g l hm
  case baload => exact uy_ald_ok g l hm
  case iastore => exact uy_ast_ok g l hm
  case bastore => exact uy_ast_ok g l hm
  case aaload => exact uy_aald_ok g l hm
  case arraylength => exact uy_len_ok g l hm
  case getfield k => exact uy_get_ok g l hm
  case putfield k => exact uy_put_ok g l hok hm
  case invokevirtual k => exact uy_cv_ok hm
  case invokestatic k =>
    show ∃ p, (if m_n ops 0 = 2 then uy_cpy i U st (cI h) else (mexec false [] (.invokestatic k) ops i [] st []).map (uo U (cI h))) = some p ∧ _
    by_cases e : m_n ops 0 = 2
    · rw [if_pos e]
      simp only [mexec, e] at hm
      exact uy_cpy_ok g l hm
    · rw [if_neg e]
      refine hp_sim g l (Eq.trans ?_ hm)
      simp only [mexec]
      split
      · exact absurd (by assumption) e
      · exact (hp_mm _).symm
      · exact (hp_mm _).symm
      · exact hp_ma.symm
      · exact (hp_cs _ _).symm
  case ireturn => exact uy_ret_ok hm
  case lreturn => exact hp_sim g l (hp_lret.symm.trans hm)
  case areturn => exact hp_sim g l (hp_aret.symm.trans hm)
  case return_ => exact hp_sim g l (hp_vret.symm.trans hm)
  case aastore => cases hok
  case newarray t => cases hok
  case anewarray k => cases hok
  case multianewarray k d => cases hok
  case new k => cases hok
  case invokespecial k => cases hok
  all_goals exact nomatch (show (none : Option MO) = some _ from hm)
end SIM
def ustep (M : MM) (i : Nat) (L : ML) (st : List Value) (s : SG) : Option UO := match (mc M)[i]? with
  | some (_, ins, _, ops) => uexec ins ops i L st s
  | none => none
def ubody (ih : MM → Nat → ML → List Value → SG → Option (Option Value × SG)) (M : MM) (i : Nat) (L : ML) (st : List Value) (s : SG) : Option (Option Value × SG) := match ustep M i L st s with
  | none => none
  | some (.inl (i1, L1, st1, s1)) => ih M i1 L1 st1 s1
  | some (.inr (.inl (y, as, rest))) => (match m_tab[y]? with
    | none => none
    | some M1 => (match ih M1 0 (m_ent (mx M1) as) [] s with
      | none => none
      | some (r, s1) => ih M (i + 1) L (r.toList ++ rest) s1))
  | some (.inr (.inr r)) => some (r, s)
noncomputable def urun (n : Nat) : MM → Nat → ML → List Value → SG → Option (Option Value × SG) := Nat.rec (fun _ _ _ _ _ => none) (fun _ ih => ubody ih) n
theorem urun_s (n : Nat) (M : MM) (i : Nat) (L : ML) (st : List Value) (s : SG) : urun (n + 1) M i L st s = ubody (urun n) M i L st s := rfl
/-- the methods that make nothing, and call none that does -/
def msU : List Nat := (List.range 188).filter (fun y => !([0, 5, 7, 10, 15, 19, 30, 91].contains y))
def okUs : Bool := msU.all (fun y => match m_tab[y]? with | some M => (mc M).all (fun r => okU r.2.1 r.2.2.2 && okCall msU r.2.1 r.2.2.2) | none => false)
theorem ok_us : okUs = true := by decide +kernel
theorem okU_sp {y : Nat} {M : MM} (hy : y ∈ msU) (hM : m_tab[y]? = some M) {i : Nat} {row : MR} (hr : (mc M)[i]? = some row) : okU row.2.1 row.2.2.2 = true ∧ okCall msU row.2.1 row.2.2.2 = true := by
  have q := List.all_eq_true.mp ok_us y hy
  rw [hM] at q
  exact b_and (List.all_eq_true.mp q row (List.mem_of_getElem? hr))
theorem usim : ∀ (n : Nat) (y : Nat) (M : MM) (i : Nat) (L U : ML) (st : List Value) (h : MH) (r : Option Value) (h1 : MH), y ∈ msU → m_tab[y]? = some M → gH HU h → lqL L U → mrun m_tab [] n false M i L st h = some (r, h1) → urun n M i U st (cI h) = some (r, cI h1) ∧ gH HU h1 := by
  intro n
  induction n with
  | zero => intro y M i L U st h r h1 _ _ _ _ hm; cases hm
  | succ n ih =>
    intro y M i L U st h r h1 hy hM g l hm
    rw [mrun_s] at hm
    rw [urun_s]
    unfold mbody at hm
    unfold ubody
    have key : ∀ o, mstep false [] M i L st h = some o → (∃ p, ustep M i U st (cI h) = some p ∧ rU o p) ∧ ∀ y2 as rest, o = .inr (.inl (y2, as, rest)) → y2 ∈ msU := by
      intro o hs
      unfold mstep at hs
      unfold ustep
      split at hs
      · rename_i pc ins len ops hr
        rw [hr]
        obtain ⟨k1, k2⟩ := okU_sp hy hM hr
        exact ⟨uexec_ok g l k1 hs, fun y2 as rest e => by subst e; exact call_in k2 hs⟩
      · cases hs
    split at hm
    · cases hm
    · rename_i i2 L2 st2 h2 hs
      obtain ⟨⟨p, k1, k2⟩, -⟩ := key _ hs
      rcases p with ⟨j2, U2, st3, s2⟩ | x
      · obtain ⟨rfl, rfl, rfl, l2, g2⟩ := k2
        rw [k1]
        exact ih y _ _ _ _ _ _ _ _ hy hM g2 l2 hm
      · exact k2.elim
    · rename_i y2 as rest hs
      obtain ⟨⟨p, k1, k2⟩, k3⟩ := key _ hs
      have hy2 := k3 y2 as rest rfl
      rcases p with x | x
      · exact k2.elim
      · have k2 : Sum.inl (y2, as, rest) = x := k2
        subst k2
        rw [k1]
        split at hm
        · cases hm
        · rename_i M2 hM2
          have hm := (b_if hm).2
          split at hm
          · cases hm
          · rename_i r2 h2 hc
            obtain ⟨e1, g1⟩ := ih y2 _ _ _ _ _ _ _ _ hy2 hM2 g (lqL.rf _) hc
            obtain ⟨e2, g2⟩ := ih y _ _ _ _ _ _ _ _ hy hM g1 l hm
            refine ⟨?_, g2⟩
            show (match m_tab[y2]? with | none => none | some M1 => _) = _
            rw [hM2]
            dsimp only
            rw [e1]
            exact e2
    · rename_i r2 hs
      obtain ⟨⟨p, k1, k2⟩, -⟩ := key _ hs
      rcases p with x | x
      · exact k2.elim
      · have k2 : Sum.inr r2 = x := k2
        subst k2
        cases hm
        rw [k1]
        exact ⟨rfl, g⟩
/-- what holds behind a run of the unchecked machine, if it ends -/
def UP (M : MM) (i : Nat) (L : ML) (st : List Value) (s : SG) (P : Option Value → SG → Prop) : Prop := ∀ n q, urun n M i L st s = some q → P q.1 q.2
def ustp : Nat → MM → Nat × ML × List Value × SG → Option (Nat × ML × List Value × SG)
  | 0, _, x => some x
  | n + 1, M, (i, L, st, s) => match ustep M i L st s with
    | some (.inl y) => ustp n M y
    | _ => none
section UPS
variable {M M1 : MM} {i y : Nat} {L : ML} {st : List Value} {s : SG} {P : Option Value → SG → Prop} {c : Jvm.ClassFile.Cond} {pc len : Nat} {off : Int} {ops : List Int}
theorem UP.one {i1 : Nat} {L1 : ML} {st1 : List Value} {s1 : SG} (hs : ustep M i L st s = some (.inl (i1, L1, st1, s1))) (k : UP M i1 L1 st1 s1 P) : UP M i L st s P := by
  intro n q hq
  cases n with
  | zero => cases hq
  | succ n =>
    rw [urun_s] at hq
    unfold ubody at hq
    rw [hs] at hq
    exact k n q hq
theorem UP.stp : ∀ (n : Nat) {i i1 : Nat} {L L1 : ML} {st st1 : List Value} {s s1 : SG}, ustp n M (i, L, st, s) = some (i1, L1, st1, s1) → UP M i1 L1 st1 s1 P → UP M i L st s P
  | 0, i, i1, L, L1, st, st1, s, s1, hs, k => by cases hs; exact k
  | n + 1, i, i1, L, L1, st, st1, s, s1, hs, k => by
    have hs : (match ustep M i L st s with | some (.inl y) => ustp n M y | _ => none) = some (i1, L1, st1, s1) := hs
    split at hs
    · rename_i y he
      obtain ⟨i2, L2, st2, s2⟩ := y
      exact UP.one he (UP.stp n hs k)
    · cases hs
theorem UP.ret {r : Option Value} (hs : ustep M i L st s = some (.inr (.inr r))) (hp : P r s) : UP M i L st s P := by
  intro n q hq
  cases n with
  | zero => cases hq
  | succ n =>
    rw [urun_s] at hq
    unfold ubody at hq
    rw [hs] at hq
    cases hq
    exact hp
theorem UP.mono {P1 : Option Value → SG → Prop} (k : UP M i L st s P1) (hp : ∀ r s1, P1 r s1 → P r s1) : UP M i L st s P := fun n q hq => hp _ _ (k n q hq)
theorem UP.call {as rest : List Value} {P1 : Option Value → SG → Prop} (hs : ustep M i L st s = some (.inr (.inl (y, as, rest)))) (hy : m_tab[y]? = some M1) (kc : UP M1 0 (m_ent (mx M1) as) [] s P1) (k : ∀ r s1, P1 r s1 → UP M (i + 1) L (r.toList ++ rest) s1 P) : UP M i L st s P := by
  intro n q hq
  cases n with
  | zero => cases hq
  | succ n =>
    rw [urun_s] at hq
    unfold ubody at hq
    rw [hs] at hq
    dsimp only at hq
    rw [hy] at hq
    dsimp only at hq
    split at hq
    · cases hq
    · rename_i r s1 hc
      exact k r s1 (kc n _ hc) n q hq
theorem UP.cV {as rest : List Value} {T : SG} (hs : ustep M i L st s = some (.inr (.inl (y, as, rest)))) (hy : m_tab[y]? = some M1) (kc : UP M1 0 (m_ent (mx M1) as) [] s (fun r s1 => r = none ∧ s1 = T)) (k : ∀ z, T = z → UP M (i + 1) L rest z P) : UP M i L st s P := UP.call hs hy kc (fun r s1 q => by obtain ⟨rfl, q⟩ := q; exact k s1 q.symm)
theorem UP.cI {as rest : List Value} {T : Int32} (hs : ustep M i L st s = some (.inr (.inl (y, as, rest)))) (hy : m_tab[y]? = some M1) (kc : UP M1 0 (m_ent (mx M1) as) [] s (fun r s1 => r = some (.int T) ∧ s1 = s)) (k : UP M (i + 1) L (.int T :: rest) s P) : UP M i L st s P := UP.call hs hy kc (fun r s1 q => by obtain ⟨rfl, q⟩ := q; rw [q]; exact k)
theorem UP.cJ {as rest : List Value} {T : Int64} (hs : ustep M i L st s = some (.inr (.inl (y, as, rest)))) (hy : m_tab[y]? = some M1) (kc : UP M1 0 (m_ent (mx M1) as) [] s (fun r s1 => r = some (.long T) ∧ s1 = s)) (k : UP M (i + 1) L (.long T :: rest) s P) : UP M i L st s P := UP.call hs hy kc (fun r s1 q => by obtain ⟨rfl, q⟩ := q; rw [q]; exact k)
theorem UP.cB {as rest : List Value} {T : Int32 × SG} (hs : ustep M i L st s = some (.inr (.inl (y, as, rest)))) (hy : m_tab[y]? = some M1) (kc : UP M1 0 (m_ent (mx M1) as) [] s (fun r s1 => r = some (.int T.1) ∧ s1 = T.2)) (k : ∀ z, T = z → UP M (i + 1) L (.int z.1 :: rest) z.2 P) : UP M i L st s P := UP.call hs hy kc (fun r s1 q => by obtain ⟨rfl, q⟩ := q; rw [q]; exact k T rfl)
theorem UP.cL {as rest : List Value} {T : Int64 × SG} (hs : ustep M i L st s = some (.inr (.inl (y, as, rest)))) (hy : m_tab[y]? = some M1) (kc : UP M1 0 (m_ent (mx M1) as) [] s (fun r s1 => r = some (.long T.1) ∧ s1 = T.2)) (k : ∀ z, T = z → UP M (i + 1) L (.long z.1 :: rest) z.2 P) : UP M i L st s P := UP.call hs hy kc (fun r s1 q => by obtain ⟨rfl, q⟩ := q; rw [q]; exact k T rfl)
theorem UP.cR {as rest : List Value} {T : SG} {a : Nat} (hs : ustep M i L st s = some (.inr (.inl (y, as, rest)))) (hy : m_tab[y]? = some M1) (kc : UP M1 0 (m_ent (mx M1) as) [] s (fun r s1 => r = some (.ref a) ∧ s1 = T)) (k : ∀ z, T = z → UP M (i + 1) L (.ref a :: rest) z P) : UP M i L st s P := UP.call hs hy kc (fun r s1 q => by obtain ⟨rfl, q⟩ := q; exact k s1 q.symm)
theorem UP.icT {x y : Int32} (hrow : (mc M)[i]? = some (pc, .if_icmp c off, len, ops)) (hc : m_cmp c x y = true) (k : UP M (m_n ops 0) L st s P) : UP M i L (.int y :: .int x :: st) s P := by
  refine UP.one ?_ k
  unfold ustep
  rw [hrow]
  show (bif m_cmp c x y then some (Sum.inl (m_n ops 0, [], st, [])) else o_nx i [] st []).map (uo L s) = _
  rw [hc]
  rfl
theorem UP.icF {x y : Int32} (hrow : (mc M)[i]? = some (pc, .if_icmp c off, len, ops)) (hc : m_cmp c x y = false) (k : UP M (i + 1) L st s P) : UP M i L (.int y :: .int x :: st) s P := by
  refine UP.one ?_ k
  unfold ustep
  rw [hrow]
  show (bif m_cmp c x y then some (Sum.inl (m_n ops 0, [], st, [])) else o_nx i [] st []).map (uo L s) = _
  rw [hc]
  rfl
theorem UP.ifT {x : Int32} (hrow : (mc M)[i]? = some (pc, .ifCond c off, len, ops)) (hc : m_cmp c x 0 = true) (k : UP M (m_n ops 0) L st s P) : UP M i L (.int x :: st) s P := by
  refine UP.one ?_ k
  unfold ustep
  rw [hrow]
  show (bif m_cmp c x 0 then some (Sum.inl (m_n ops 0, [], st, [])) else o_nx i [] st []).map (uo L s) = _
  rw [hc]
  rfl
theorem UP.ifF {x : Int32} (hrow : (mc M)[i]? = some (pc, .ifCond c off, len, ops)) (hc : m_cmp c x 0 = false) (k : UP M (i + 1) L st s P) : UP M i L (.int x :: st) s P := by
  refine UP.one ?_ k
  unfold ustep
  rw [hrow]
  show (bif m_cmp c x 0 then some (Sum.inl (m_n ops 0, [], st, [])) else o_nx i [] st []).map (uo L s) = _
  rw [hc]
  rfl
theorem UP.ald {a e : Nat} {j : Int32} (hrow : (mc M)[i]? = some (pc, .iaload, len, ops)) (hj : j = Int32.ofNat e) (he : e < 2147483648) (k : UP M (i + 1) L (.int (s a e) :: st) s P) : UP M i L (.int j :: .ref a :: st) s P := by
  have e1 : j.toNatClampNeg = e := by
    rw [hj]
    exact Int32.toNatClampNeg_ofNat_of_lt he
  refine UP.one (i1 := i + 1) (L1 := L) (st1 := .int (s a e) :: st) (s1 := s) ?_ k
  unfold ustep
  rw [hrow]
  show some (Sum.inl (i + 1, L, Value.int (s a j.toNatClampNeg) :: st, s)) = _
  rw [e1]
theorem UP.ast {a e : Nat} {j x : Int32} (hrow : (mc M)[i]? = some (pc, .iastore, len, ops)) (hj : j = Int32.ofNat e) (he : e < 2147483648) (k : UP M (i + 1) L st (uset s a e x) P) : UP M i L (.int x :: .int j :: .ref a :: st) s P := by
  have e1 : j.toNatClampNeg = e := by
    rw [hj]
    exact Int32.toNatClampNeg_ofNat_of_lt he
  refine UP.one (i1 := i + 1) (L1 := L) (st1 := st) (s1 := uset s a e x) ?_ k
  unfold ustep
  rw [hrow]
  show some (Sum.inl (i + 1, L, st, uset s a j.toNatClampNeg x)) = _
  rw [e1]
theorem UP.aald {a e r : Nat} {j : Int32} (hrow : (mc M)[i]? = some (pc, .aaload, len, ops)) (hj : j = Int32.ofNat e) (he : e < 2147483648) (hr : uar a e = r) (k : UP M (i + 1) L (.ref r :: st) s P) : UP M i L (.int j :: .ref a :: st) s P := by
  have e1 : j.toNatClampNeg = e := by
    rw [hj]
    exact Int32.toNatClampNeg_ofNat_of_lt he
  refine UP.one (i1 := i + 1) (L1 := L) (st1 := .ref r :: st) (s1 := s) ?_ k
  unfold ustep
  rw [hrow]
  show some (Sum.inl (i + 1, L, Value.ref (uar a j.toNatClampNeg) :: st, s)) = _
  rw [e1, hr]
/-- the ways part: what comes of it is told of each -/
theorem UP.spl {β : Type} {Q : β → Option Value → SG → Prop} {T : β} (b : Bool) (X Y : β) (hT : T = (bif b then X else Y)) (kt : b = true → UP M i L st s (Q X)) (kf : b = false → UP M i L st s (Q Y)) : UP M i L st s (Q T) := by
  subst hT
  cases b with
  | true => exact kt rfl
  | false => exact kf rfl
end UPS
/-- two ways that meet again -/
theorem mrg {α : Type} {G : Prop} (b : Bool) (x y : α) (K : α → Prop) (ht : b = true → K x → G) (hf : b = false → K y → G) (k : ∀ v, (bif b then x else y) = v → K v) : G := by
  cases b with
  | true => exact ht rfl (k x rfl)
  | false => exact hf rfl (k y rfl)
theorem spl {G : Prop} (b : Bool) (ht : b = true → G) (hf : b = false → G) : G := by
  cases b with
  | true => exact ht rfl
  | false => exact hf rfl
theorem nm {α : Type} {G : α → Prop} (x : α) (k : ∀ v, x = v → G v) : G x := k x rfl
def Qv (T : SG) (r : Option Value) (s1 : SG) : Prop := r = none ∧ s1 = T
def Qi (s0 : SG) (T : Int32) (r : Option Value) (s1 : SG) : Prop := r = some (.int T) ∧ s1 = s0
def Qb (T : Int32 × SG) (r : Option Value) (s1 : SG) : Prop := r = some (.int T.1) ∧ s1 = T.2
def Qj (s0 : SG) (T : Int64) (r : Option Value) (s1 : SG) : Prop := r = some (.long T) ∧ s1 = s0
def Ql (T : Int64 × SG) (r : Option Value) (s1 : SG) : Prop := r = some (.long T.1) ∧ s1 = T.2
def Qr (a : Nat) (T : SG) (r : Option Value) (s1 : SG) : Prop := r = some (.ref a) ∧ s1 = T
def itr {α : Type} (f : Nat → α → α) : Nat → Nat → α → α
  | _, 0, a => a
  | lo, n + 1, a => itr f (lo + 1) n (f lo a)
theorem lp {α : Type} (G : Nat → α → Prop) (I : Nat → α → Prop) (f : Nat → α → α) (hi : Nat) (inv : ∀ i a, i < hi → I i a → I (i + 1) (f i a)) (stp : ∀ i a, i < hi → I i a → G (i + 1) (f i a) → G i a) : ∀ (n lo : Nat) (a : α), lo + n = hi → I lo a → (∀ z, itr f lo n a = z → I hi z → G hi z) → G lo a
  | 0, lo, a, hn, hI, k => by
    have e : lo = hi := by omega
    subst e
    exact k a rfl hI
  | n + 1, lo, a, hn, hI, k => by
    have hlt : lo < hi := by omega
    exact stp lo a hlt hI (lp G I f hi inv stp n (lo + 1) (f lo a) (by omega) (inv lo a hlt hI) k)
theorem ofn_add {x y : Int32} {a b : Nat} (hx : x = Int32.ofNat a) (hy : y = Int32.ofNat b) : x + y = Int32.ofNat (a + b) := by rw [hx, hy, Int32.ofNat_add]
theorem ofn_mul {x y : Int32} {a b : Nat} (hx : x = Int32.ofNat a) (hy : y = Int32.ofNat b) : x * y = Int32.ofNat (a * b) := by rw [hx, hy, Int32.ofNat_mul]
theorem ofn_s (i : Nat) : Int32.ofNat i + 1 = Int32.ofNat (i + 1) := (ofn_add rfl rfl)
theorem ofn_int {i : Nat} (h : i < 2147483648) : (Int32.ofNat i).toInt = i := Int32.toInt_ofNat_of_lt h
theorem cl_lt (x : Int32) : x.toNatClampNeg < 2147483648 := by
  have h1 := i32_le x
  show x.toInt.toNat < _
  omega
theorem ge_T (v : Int32) : m_cmp .ge (Int32.ofNat v.toNatClampNeg) v = true := m_ge_iff.mpr (by
  rw [ofn_int (cl_lt v)]
  show v.toInt ≤ (v.toInt.toNat : Int)
  omega)
theorem ge_F {i : Nat} {v : Int32} (h : i < v.toNatClampNeg) : m_cmp .ge (Int32.ofNat i) v = false := by
  cases hc : m_cmp .ge (Int32.ofNat i) v with
  | false => rfl
  | true =>
    have h0 := cl_lt v
    have h1 := m_ge_iff.mp hc
    rw [ofn_int (by omega)] at h1
    have h : i < v.toInt.toNat := h
    omega
/-- where a memory may differ: cells lo to hi, at one place or at any -/
def inW (W : List (Nat × Nat × Option Nat)) (a j : Nat) : Bool := W.any (fun w => Nat.ble w.1 a && (Nat.ble a w.2.1 && (match w.2.2 with | none => true | some k => k == j)))
def Fr (W : List (Nat × Nat × Option Nat)) (s s1 : SG) : Prop := ∀ a j, inW W a j = false → s1 a j = s a j
theorem Fr.rf (W : List (Nat × Nat × Option Nat)) (s : SG) : Fr W s s := fun _ _ _ => rfl
theorem Fr.tr {W : List (Nat × Nat × Option Nat)} {s s1 s2 : SG} (a : Fr W s s1) (b : Fr W s1 s2) : Fr W s s2 := fun x j h => (b x j h).trans (a x j h)
theorem Fr.uset {W : List (Nat × Nat × Option Nat)} {s s1 : SG} {a j : Nat} {x : Int32} (h : inW W a j = true) (k : Fr W s s1) : Fr W s (uset s1 a j x) := fun b i hb => by
  show (if b = a ∧ i = j then x else s1 b i) = s b i
  by_cases e : b = a ∧ i = j
  · rw [e.1, e.2, h] at hb
    cases hb
  · rw [if_neg e]
    exact k b i hb
theorem Fr.bif {W : List (Nat × Nat × Option Nat)} {s s1 s2 : SG} {b : Bool} (k1 : Fr W s s1) (k2 : Fr W s s2) : Fr W s (bif b then s1 else s2) := by
  cases b
  · exact k2
  · exact k1
theorem Fr.bifp {α : Type} {W : List (Nat × Nat × Option Nat)} {s : SG} {b : Bool} {x y : α} (m : α → SG) (k1 : Fr W s (m x)) (k2 : Fr W s (m y)) : Fr W s (m (bif b then x else y)) := by
  cases b
  · exact k2
  · exact k1
theorem Fr.mvs {W : List (Nat × Nat × Option Nat)} {s s1 : SG} {a0 i a1 j n : Nat} (h : W.any (fun w => Nat.ble w.1 a1 && (Nat.ble a1 w.2.1 && w.2.2.isNone)) = true) (k : Fr W s s1) : Fr W s (mvs s1 a0 i a1 j n) := fun b q hb => by
  show (if b = a1 ∧ j ≤ q ∧ q < j + n then s1 a0 (i + (q - j)) else s1 b q) = s b q
  by_cases e : b = a1 ∧ j ≤ q ∧ q < j + n
  · obtain ⟨w, w1, w2⟩ := List.any_eq_true.mp h
    obtain ⟨a, c⟩ := b_and w2
    obtain ⟨c, d⟩ := b_and c
    have q2 : inW W b q = true := by
      refine List.any_eq_true.mpr ⟨w, w1, ?_⟩
      rw [e.1, a, c, Option.isNone_iff_eq_none.mp d]
      rfl
    rw [q2] at hb
    cases hb
  · rw [if_neg e]
    exact k b q hb
theorem Fr.itr {α : Type} {W : List (Nat × Nat × Option Nat)} {s : SG} {m : α → SG} {f : Nat → α → α} (hf : ∀ i a, Fr W (m a) (m (f i a))) : ∀ (n lo : Nat) (a : α), Fr W s (m a) → Fr W s (m (itr f lo n a))
  | 0, _, _, k => k
  | n + 1, lo, a, k => Fr.itr hf n (lo + 1) (f lo a) (k.tr (hf lo a))
def subW (W W2 : List (Nat × Nat × Option Nat)) : Bool := W.all (fun w => W2.any (fun v => Nat.ble v.1 w.1 && (Nat.ble w.2.1 v.2.1 && (match v.2.2 with | none => true | some k => w.2.2 == some k))))
theorem Fr.wk {W W2 : List (Nat × Nat × Option Nat)} {s s1 : SG} (k : Fr W s s1) (h : subW W W2 = true) : Fr W2 s s1 := fun a j hj => k a j (by
  cases hw : inW W a j with
  | false => rfl
  | true =>
    obtain ⟨w, w1, w2⟩ := List.any_eq_true.mp hw
    obtain ⟨v, v1, v2⟩ := List.any_eq_true.mp (List.all_eq_true.mp h w w1)
    obtain ⟨a1, a2⟩ := b_and w2
    obtain ⟨a2, a3⟩ := b_and a2
    obtain ⟨c1, c2⟩ := b_and v2
    obtain ⟨c2, c3⟩ := b_and c2
    have q : inW W2 a j = true := by
      refine List.any_eq_true.mpr ⟨v, v1, ?_⟩
      have e1 : Nat.ble v.1 a = true := Nat.ble_eq.mpr (Nat.le_trans (Nat.ble_eq.mp c1) (Nat.ble_eq.mp a1))
      have e2 : Nat.ble a v.2.1 = true := Nat.ble_eq.mpr (Nat.le_trans (Nat.ble_eq.mp a2) (Nat.ble_eq.mp c2))
      rw [e1, e2]
      show (match v.2.2 with | none => true | some k => k == j) = true
      split at c3
      · rfl
      · rename_i k hv
        have c3 : w.2.2 = some k := by simpa using c3
        rw [c3] at a3
        exact a3
    rw [q] at hj
    cases hj)
