/-! spare: what had better not have been -/
def bcF (b : Int32) : Int32 := (((((((b - (((Int32.toUInt32 b >>> (Int32.toUInt32 1 &&& Int32.toUInt32 31)).toInt32) &&& (1431655765 : Int32))) &&& (858993459 : Int32)) + (((Int32.toUInt32 (b - (((Int32.toUInt32 b >>> (Int32.toUInt32 1 &&& Int32.toUInt32 31)).toInt32) &&& (1431655765 : Int32))) >>> (Int32.toUInt32 2 &&& Int32.toUInt32 31)).toInt32) &&& (858993459 : Int32))) + ((Int32.toUInt32 (((b - (((Int32.toUInt32 b >>> (Int32.toUInt32 1 &&& Int32.toUInt32 31)).toInt32) &&& (1431655765 : Int32))) &&& (858993459 : Int32)) + (((Int32.toUInt32 (b - (((Int32.toUInt32 b >>> (Int32.toUInt32 1 &&& Int32.toUInt32 31)).toInt32) &&& (1431655765 : Int32))) >>> (Int32.toUInt32 2 &&& Int32.toUInt32 31)).toInt32) &&& (858993459 : Int32))) >>> (Int32.toUInt32 4 &&& Int32.toUInt32 31)).toInt32)) &&& (252645135 : Int32)) + ((Int32.toUInt32 (((((b - (((Int32.toUInt32 b >>> (Int32.toUInt32 1 &&& Int32.toUInt32 31)).toInt32) &&& (1431655765 : Int32))) &&& (858993459 : Int32)) + (((Int32.toUInt32 (b - (((Int32.toUInt32 b >>> (Int32.toUInt32 1 &&& Int32.toUInt32 31)).toInt32) &&& (1431655765 : Int32))) >>> (Int32.toUInt32 2 &&& Int32.toUInt32 31)).toInt32) &&& (858993459 : Int32))) + ((Int32.toUInt32 (((b - (((Int32.toUInt32 b >>> (Int32.toUInt32 1 &&& Int32.toUInt32 31)).toInt32) &&& (1431655765 : Int32))) &&& (858993459 : Int32)) + (((Int32.toUInt32 (b - (((Int32.toUInt32 b >>> (Int32.toUInt32 1 &&& Int32.toUInt32 31)).toInt32) &&& (1431655765 : Int32))) >>> (Int32.toUInt32 2 &&& Int32.toUInt32 31)).toInt32) &&& (858993459 : Int32))) >>> (Int32.toUInt32 4 &&& Int32.toUInt32 31)).toInt32)) &&& (252645135 : Int32)) >>> (Int32.toUInt32 8 &&& Int32.toUInt32 31)).toInt32)) + ((Int32.toUInt32 ((((((b - (((Int32.toUInt32 b >>> (Int32.toUInt32 1 &&& Int32.toUInt32 31)).toInt32) &&& (1431655765 : Int32))) &&& (858993459 : Int32)) + (((Int32.toUInt32 (b - (((Int32.toUInt32 b >>> (Int32.toUInt32 1 &&& Int32.toUInt32 31)).toInt32) &&& (1431655765 : Int32))) >>> (Int32.toUInt32 2 &&& Int32.toUInt32 31)).toInt32) &&& (858993459 : Int32))) + ((Int32.toUInt32 (((b - (((Int32.toUInt32 b >>> (Int32.toUInt32 1 &&& Int32.toUInt32 31)).toInt32) &&& (1431655765 : Int32))) &&& (858993459 : Int32)) + (((Int32.toUInt32 (b - (((Int32.toUInt32 b >>> (Int32.toUInt32 1 &&& Int32.toUInt32 31)).toInt32) &&& (1431655765 : Int32))) >>> (Int32.toUInt32 2 &&& Int32.toUInt32 31)).toInt32) &&& (858993459 : Int32))) >>> (Int32.toUInt32 4 &&& Int32.toUInt32 31)).toInt32)) &&& (252645135 : Int32)) + ((Int32.toUInt32 (((((b - (((Int32.toUInt32 b >>> (Int32.toUInt32 1 &&& Int32.toUInt32 31)).toInt32) &&& (1431655765 : Int32))) &&& (858993459 : Int32)) + (((Int32.toUInt32 (b - (((Int32.toUInt32 b >>> (Int32.toUInt32 1 &&& Int32.toUInt32 31)).toInt32) &&& (1431655765 : Int32))) >>> (Int32.toUInt32 2 &&& Int32.toUInt32 31)).toInt32) &&& (858993459 : Int32))) + ((Int32.toUInt32 (((b - (((Int32.toUInt32 b >>> (Int32.toUInt32 1 &&& Int32.toUInt32 31)).toInt32) &&& (1431655765 : Int32))) &&& (858993459 : Int32)) + (((Int32.toUInt32 (b - (((Int32.toUInt32 b >>> (Int32.toUInt32 1 &&& Int32.toUInt32 31)).toInt32) &&& (1431655765 : Int32))) >>> (Int32.toUInt32 2 &&& Int32.toUInt32 31)).toInt32) &&& (858993459 : Int32))) >>> (Int32.toUInt32 4 &&& Int32.toUInt32 31)).toInt32)) &&& (252645135 : Int32)) >>> (Int32.toUInt32 8 &&& Int32.toUInt32 31)).toInt32)) >>> (Int32.toUInt32 16 &&& Int32.toUInt32 31)).toInt32)) &&& (63 : Int32)
theorem ux_bitCount (s : SG) (b : Int32) : UP m_J6_bitCount_0f7a4 0 (m_ent 1 [.int b]) [] s (Qi s (bcF b)) := by
  refine UP.of_b (fun n => ?_)
  refine UPB.stp 41 (i1 := 41) (L1 := [some (.int (((((((b - (((Int32.toUInt32 b >>> (Int32.toUInt32 1 &&& Int32.toUInt32 31)).toInt32) &&& (1431655765 : Int32))) &&& (858993459 : Int32)) + (((Int32.toUInt32 (b - (((Int32.toUInt32 b >>> (Int32.toUInt32 1 &&& Int32.toUInt32 31)).toInt32) &&& (1431655765 : Int32))) >>> (Int32.toUInt32 2 &&& Int32.toUInt32 31)).toInt32) &&& (858993459 : Int32))) + ((Int32.toUInt32 (((b - (((Int32.toUInt32 b >>> (Int32.toUInt32 1 &&& Int32.toUInt32 31)).toInt32) &&& (1431655765 : Int32))) &&& (858993459 : Int32)) + (((Int32.toUInt32 (b - (((Int32.toUInt32 b >>> (Int32.toUInt32 1 &&& Int32.toUInt32 31)).toInt32) &&& (1431655765 : Int32))) >>> (Int32.toUInt32 2 &&& Int32.toUInt32 31)).toInt32) &&& (858993459 : Int32))) >>> (Int32.toUInt32 4 &&& Int32.toUInt32 31)).toInt32)) &&& (252645135 : Int32)) + ((Int32.toUInt32 (((((b - (((Int32.toUInt32 b >>> (Int32.toUInt32 1 &&& Int32.toUInt32 31)).toInt32) &&& (1431655765 : Int32))) &&& (858993459 : Int32)) + (((Int32.toUInt32 (b - (((Int32.toUInt32 b >>> (Int32.toUInt32 1 &&& Int32.toUInt32 31)).toInt32) &&& (1431655765 : Int32))) >>> (Int32.toUInt32 2 &&& Int32.toUInt32 31)).toInt32) &&& (858993459 : Int32))) + ((Int32.toUInt32 (((b - (((Int32.toUInt32 b >>> (Int32.toUInt32 1 &&& Int32.toUInt32 31)).toInt32) &&& (1431655765 : Int32))) &&& (858993459 : Int32)) + (((Int32.toUInt32 (b - (((Int32.toUInt32 b >>> (Int32.toUInt32 1 &&& Int32.toUInt32 31)).toInt32) &&& (1431655765 : Int32))) >>> (Int32.toUInt32 2 &&& Int32.toUInt32 31)).toInt32) &&& (858993459 : Int32))) >>> (Int32.toUInt32 4 &&& Int32.toUInt32 31)).toInt32)) &&& (252645135 : Int32)) >>> (Int32.toUInt32 8 &&& Int32.toUInt32 31)).toInt32)) + ((Int32.toUInt32 ((((((b - (((Int32.toUInt32 b >>> (Int32.toUInt32 1 &&& Int32.toUInt32 31)).toInt32) &&& (1431655765 : Int32))) &&& (858993459 : Int32)) + (((Int32.toUInt32 (b - (((Int32.toUInt32 b >>> (Int32.toUInt32 1 &&& Int32.toUInt32 31)).toInt32) &&& (1431655765 : Int32))) >>> (Int32.toUInt32 2 &&& Int32.toUInt32 31)).toInt32) &&& (858993459 : Int32))) + ((Int32.toUInt32 (((b - (((Int32.toUInt32 b >>> (Int32.toUInt32 1 &&& Int32.toUInt32 31)).toInt32) &&& (1431655765 : Int32))) &&& (858993459 : Int32)) + (((Int32.toUInt32 (b - (((Int32.toUInt32 b >>> (Int32.toUInt32 1 &&& Int32.toUInt32 31)).toInt32) &&& (1431655765 : Int32))) >>> (Int32.toUInt32 2 &&& Int32.toUInt32 31)).toInt32) &&& (858993459 : Int32))) >>> (Int32.toUInt32 4 &&& Int32.toUInt32 31)).toInt32)) &&& (252645135 : Int32)) + ((Int32.toUInt32 (((((b - (((Int32.toUInt32 b >>> (Int32.toUInt32 1 &&& Int32.toUInt32 31)).toInt32) &&& (1431655765 : Int32))) &&& (858993459 : Int32)) + (((Int32.toUInt32 (b - (((Int32.toUInt32 b >>> (Int32.toUInt32 1 &&& Int32.toUInt32 31)).toInt32) &&& (1431655765 : Int32))) >>> (Int32.toUInt32 2 &&& Int32.toUInt32 31)).toInt32) &&& (858993459 : Int32))) + ((Int32.toUInt32 (((b - (((Int32.toUInt32 b >>> (Int32.toUInt32 1 &&& Int32.toUInt32 31)).toInt32) &&& (1431655765 : Int32))) &&& (858993459 : Int32)) + (((Int32.toUInt32 (b - (((Int32.toUInt32 b >>> (Int32.toUInt32 1 &&& Int32.toUInt32 31)).toInt32) &&& (1431655765 : Int32))) >>> (Int32.toUInt32 2 &&& Int32.toUInt32 31)).toInt32) &&& (858993459 : Int32))) >>> (Int32.toUInt32 4 &&& Int32.toUInt32 31)).toInt32)) &&& (252645135 : Int32)) >>> (Int32.toUInt32 8 &&& Int32.toUInt32 31)).toInt32)) >>> (Int32.toUInt32 16 &&& Int32.toUInt32 31)).toInt32)))]) (st1 := [.int ((((((((b - (((Int32.toUInt32 b >>> (Int32.toUInt32 1 &&& Int32.toUInt32 31)).toInt32) &&& (1431655765 : Int32))) &&& (858993459 : Int32)) + (((Int32.toUInt32 (b - (((Int32.toUInt32 b >>> (Int32.toUInt32 1 &&& Int32.toUInt32 31)).toInt32) &&& (1431655765 : Int32))) >>> (Int32.toUInt32 2 &&& Int32.toUInt32 31)).toInt32) &&& (858993459 : Int32))) + ((Int32.toUInt32 (((b - (((Int32.toUInt32 b >>> (Int32.toUInt32 1 &&& Int32.toUInt32 31)).toInt32) &&& (1431655765 : Int32))) &&& (858993459 : Int32)) + (((Int32.toUInt32 (b - (((Int32.toUInt32 b >>> (Int32.toUInt32 1 &&& Int32.toUInt32 31)).toInt32) &&& (1431655765 : Int32))) >>> (Int32.toUInt32 2 &&& Int32.toUInt32 31)).toInt32) &&& (858993459 : Int32))) >>> (Int32.toUInt32 4 &&& Int32.toUInt32 31)).toInt32)) &&& (252645135 : Int32)) + ((Int32.toUInt32 (((((b - (((Int32.toUInt32 b >>> (Int32.toUInt32 1 &&& Int32.toUInt32 31)).toInt32) &&& (1431655765 : Int32))) &&& (858993459 : Int32)) + (((Int32.toUInt32 (b - (((Int32.toUInt32 b >>> (Int32.toUInt32 1 &&& Int32.toUInt32 31)).toInt32) &&& (1431655765 : Int32))) >>> (Int32.toUInt32 2 &&& Int32.toUInt32 31)).toInt32) &&& (858993459 : Int32))) + ((Int32.toUInt32 (((b - (((Int32.toUInt32 b >>> (Int32.toUInt32 1 &&& Int32.toUInt32 31)).toInt32) &&& (1431655765 : Int32))) &&& (858993459 : Int32)) + (((Int32.toUInt32 (b - (((Int32.toUInt32 b >>> (Int32.toUInt32 1 &&& Int32.toUInt32 31)).toInt32) &&& (1431655765 : Int32))) >>> (Int32.toUInt32 2 &&& Int32.toUInt32 31)).toInt32) &&& (858993459 : Int32))) >>> (Int32.toUInt32 4 &&& Int32.toUInt32 31)).toInt32)) &&& (252645135 : Int32)) >>> (Int32.toUInt32 8 &&& Int32.toUInt32 31)).toInt32)) + ((Int32.toUInt32 ((((((b - (((Int32.toUInt32 b >>> (Int32.toUInt32 1 &&& Int32.toUInt32 31)).toInt32) &&& (1431655765 : Int32))) &&& (858993459 : Int32)) + (((Int32.toUInt32 (b - (((Int32.toUInt32 b >>> (Int32.toUInt32 1 &&& Int32.toUInt32 31)).toInt32) &&& (1431655765 : Int32))) >>> (Int32.toUInt32 2 &&& Int32.toUInt32 31)).toInt32) &&& (858993459 : Int32))) + ((Int32.toUInt32 (((b - (((Int32.toUInt32 b >>> (Int32.toUInt32 1 &&& Int32.toUInt32 31)).toInt32) &&& (1431655765 : Int32))) &&& (858993459 : Int32)) + (((Int32.toUInt32 (b - (((Int32.toUInt32 b >>> (Int32.toUInt32 1 &&& Int32.toUInt32 31)).toInt32) &&& (1431655765 : Int32))) >>> (Int32.toUInt32 2 &&& Int32.toUInt32 31)).toInt32) &&& (858993459 : Int32))) >>> (Int32.toUInt32 4 &&& Int32.toUInt32 31)).toInt32)) &&& (252645135 : Int32)) + ((Int32.toUInt32 (((((b - (((Int32.toUInt32 b >>> (Int32.toUInt32 1 &&& Int32.toUInt32 31)).toInt32) &&& (1431655765 : Int32))) &&& (858993459 : Int32)) + (((Int32.toUInt32 (b - (((Int32.toUInt32 b >>> (Int32.toUInt32 1 &&& Int32.toUInt32 31)).toInt32) &&& (1431655765 : Int32))) >>> (Int32.toUInt32 2 &&& Int32.toUInt32 31)).toInt32) &&& (858993459 : Int32))) + ((Int32.toUInt32 (((b - (((Int32.toUInt32 b >>> (Int32.toUInt32 1 &&& Int32.toUInt32 31)).toInt32) &&& (1431655765 : Int32))) &&& (858993459 : Int32)) + (((Int32.toUInt32 (b - (((Int32.toUInt32 b >>> (Int32.toUInt32 1 &&& Int32.toUInt32 31)).toInt32) &&& (1431655765 : Int32))) >>> (Int32.toUInt32 2 &&& Int32.toUInt32 31)).toInt32) &&& (858993459 : Int32))) >>> (Int32.toUInt32 4 &&& Int32.toUInt32 31)).toInt32)) &&& (252645135 : Int32)) >>> (Int32.toUInt32 8 &&& Int32.toUInt32 31)).toInt32)) >>> (Int32.toUInt32 16 &&& Int32.toUInt32 31)).toInt32)) &&& (63 : Int32))]) (s1 := s) rfl ?_
  exact UPB.ret (r := some (.int ((((((((b - (((Int32.toUInt32 b >>> (Int32.toUInt32 1 &&& Int32.toUInt32 31)).toInt32) &&& (1431655765 : Int32))) &&& (858993459 : Int32)) + (((Int32.toUInt32 (b - (((Int32.toUInt32 b >>> (Int32.toUInt32 1 &&& Int32.toUInt32 31)).toInt32) &&& (1431655765 : Int32))) >>> (Int32.toUInt32 2 &&& Int32.toUInt32 31)).toInt32) &&& (858993459 : Int32))) + ((Int32.toUInt32 (((b - (((Int32.toUInt32 b >>> (Int32.toUInt32 1 &&& Int32.toUInt32 31)).toInt32) &&& (1431655765 : Int32))) &&& (858993459 : Int32)) + (((Int32.toUInt32 (b - (((Int32.toUInt32 b >>> (Int32.toUInt32 1 &&& Int32.toUInt32 31)).toInt32) &&& (1431655765 : Int32))) >>> (Int32.toUInt32 2 &&& Int32.toUInt32 31)).toInt32) &&& (858993459 : Int32))) >>> (Int32.toUInt32 4 &&& Int32.toUInt32 31)).toInt32)) &&& (252645135 : Int32)) + ((Int32.toUInt32 (((((b - (((Int32.toUInt32 b >>> (Int32.toUInt32 1 &&& Int32.toUInt32 31)).toInt32) &&& (1431655765 : Int32))) &&& (858993459 : Int32)) + (((Int32.toUInt32 (b - (((Int32.toUInt32 b >>> (Int32.toUInt32 1 &&& Int32.toUInt32 31)).toInt32) &&& (1431655765 : Int32))) >>> (Int32.toUInt32 2 &&& Int32.toUInt32 31)).toInt32) &&& (858993459 : Int32))) + ((Int32.toUInt32 (((b - (((Int32.toUInt32 b >>> (Int32.toUInt32 1 &&& Int32.toUInt32 31)).toInt32) &&& (1431655765 : Int32))) &&& (858993459 : Int32)) + (((Int32.toUInt32 (b - (((Int32.toUInt32 b >>> (Int32.toUInt32 1 &&& Int32.toUInt32 31)).toInt32) &&& (1431655765 : Int32))) >>> (Int32.toUInt32 2 &&& Int32.toUInt32 31)).toInt32) &&& (858993459 : Int32))) >>> (Int32.toUInt32 4 &&& Int32.toUInt32 31)).toInt32)) &&& (252645135 : Int32)) >>> (Int32.toUInt32 8 &&& Int32.toUInt32 31)).toInt32)) + ((Int32.toUInt32 ((((((b - (((Int32.toUInt32 b >>> (Int32.toUInt32 1 &&& Int32.toUInt32 31)).toInt32) &&& (1431655765 : Int32))) &&& (858993459 : Int32)) + (((Int32.toUInt32 (b - (((Int32.toUInt32 b >>> (Int32.toUInt32 1 &&& Int32.toUInt32 31)).toInt32) &&& (1431655765 : Int32))) >>> (Int32.toUInt32 2 &&& Int32.toUInt32 31)).toInt32) &&& (858993459 : Int32))) + ((Int32.toUInt32 (((b - (((Int32.toUInt32 b >>> (Int32.toUInt32 1 &&& Int32.toUInt32 31)).toInt32) &&& (1431655765 : Int32))) &&& (858993459 : Int32)) + (((Int32.toUInt32 (b - (((Int32.toUInt32 b >>> (Int32.toUInt32 1 &&& Int32.toUInt32 31)).toInt32) &&& (1431655765 : Int32))) >>> (Int32.toUInt32 2 &&& Int32.toUInt32 31)).toInt32) &&& (858993459 : Int32))) >>> (Int32.toUInt32 4 &&& Int32.toUInt32 31)).toInt32)) &&& (252645135 : Int32)) + ((Int32.toUInt32 (((((b - (((Int32.toUInt32 b >>> (Int32.toUInt32 1 &&& Int32.toUInt32 31)).toInt32) &&& (1431655765 : Int32))) &&& (858993459 : Int32)) + (((Int32.toUInt32 (b - (((Int32.toUInt32 b >>> (Int32.toUInt32 1 &&& Int32.toUInt32 31)).toInt32) &&& (1431655765 : Int32))) >>> (Int32.toUInt32 2 &&& Int32.toUInt32 31)).toInt32) &&& (858993459 : Int32))) + ((Int32.toUInt32 (((b - (((Int32.toUInt32 b >>> (Int32.toUInt32 1 &&& Int32.toUInt32 31)).toInt32) &&& (1431655765 : Int32))) &&& (858993459 : Int32)) + (((Int32.toUInt32 (b - (((Int32.toUInt32 b >>> (Int32.toUInt32 1 &&& Int32.toUInt32 31)).toInt32) &&& (1431655765 : Int32))) >>> (Int32.toUInt32 2 &&& Int32.toUInt32 31)).toInt32) &&& (858993459 : Int32))) >>> (Int32.toUInt32 4 &&& Int32.toUInt32 31)).toInt32)) &&& (252645135 : Int32)) >>> (Int32.toUInt32 8 &&& Int32.toUInt32 31)).toInt32)) >>> (Int32.toUInt32 16 &&& Int32.toUInt32 31)).toInt32)) &&& (63 : Int32)))) rfl ⟨rfl, rfl⟩
/-! found or not -/
def sfi (Q : Nat → Bool) : Nat → Nat → Option Nat
  | 0, _ => none
  | n + 1, b => bif Q b then sfi Q n (b + 1) else some b
def sff (Q : Nat → Nat → Bool) (N : Nat) : Nat → Nat → Option (Nat × Option Nat)
  | 0, _ => none
  | n + 1, a => (sfi (Q a) (N - (a + 1)) (a + 1)).elim (sff Q N n (a + 1)) (fun b => some (a, some b))
abbrev SPR : Type := Option (Option (Nat × Option Nat))
def spR (q0 : Bool) (q1 : Nat → Bool) (q2 : Nat → Nat → Bool) (N : Nat) : SPR := bif q0 then (sfi q1 N 0).elim ((sff q2 N N 0).map some) (fun a => some (some (a, none))) else some none
theorem sfi_s (Q : Nat → Bool) (n b : Nat) : sfi Q (n + 1) b = bif Q b then sfi Q n (b + 1) else some b := rfl
theorem sff_s (Q : Nat → Nat → Bool) (N n a : Nat) : (sff Q N (n + 1) a).map some = (sfi (Q a) (N - (a + 1)) (a + 1)).elim ((sff Q N n (a + 1)).map some) (fun b => some (some (a, some b))) := by
  show ((sfi (Q a) (N - (a + 1)) (a + 1)).elim (sff Q N n (a + 1)) (fun b => some (a, some b))).map some = _
  cases sfi (Q a) (N - (a + 1)) (a + 1) <;> rfl
theorem sfi_lt {Q : Nat → Bool} : ∀ {n b x : Nat}, sfi Q n b = some x → b ≤ x ∧ x < b + n := by
  intro n
  induction n with
  | zero => intro b x h; cases h
  | succ n ih =>
    intro b x h
    rw [sfi_s] at h
    cases q : Q b with
    | true =>
      rw [q, kT] at h
      have := ih h
      omega
    | false =>
      rw [q, kF] at h
      cases h
      omega
theorem sff_lt {Q : Nat → Nat → Bool} {N : Nat} : ∀ {n a : Nat} {p : Nat × Option Nat}, sff Q N n a = some p → a + n ≤ N → ∃ x y, p = (x, some y) ∧ x < y ∧ y < N := by
  intro n
  induction n with
  | zero => intro a p h; cases h
  | succ n ih =>
    intro a p h hn
    have h : (sfi (Q a) (N - (a + 1)) (a + 1)).elim (sff Q N n (a + 1)) (fun b => some (a, some b)) = some p := h
    cases q : sfi (Q a) (N - (a + 1)) (a + 1) with
    | none =>
      rw [q] at h
      exact ih (show sff Q N n (a + 1) = some p from h) (by omega)
    | some b =>
      rw [q] at h
      have h : some (a, some b) = some p := h
      cases h
      have := sfi_lt q
      exact ⟨a, b, rfl, by omega, by omega⟩
def okR (N : Nat) (r : SPR) : Prop := (∀ a, r = some (some (a, none)) → a < N) ∧ ∀ a b, r = some (some (a, some b)) → a < b ∧ b < N
theorem spR_ok (q0 : Bool) (q1 : Nat → Bool) (q2 : Nat → Nat → Bool) (N : Nat) : okR N (spR q0 q1 q2 N) := by
  unfold spR
  cases q0 with
  | false => exact ⟨fun a e => (by cases e), fun a b e => (by cases e)⟩
  | true =>
    rw [kT]
    cases h : sfi q1 N 0 with
    | some a =>
      have := sfi_lt h
      exact ⟨fun c e => (by cases e; omega), fun c d e => (by cases e)⟩
    | none =>
      show okR N ((sff q2 N N 0).map some)
      cases g : sff q2 N N 0 with
      | none => exact ⟨fun a e => (by cases e), fun a b e => (by cases e)⟩
      | some p =>
        obtain ⟨x, y, rfl, h1, h2⟩ := sff_lt g (by omega)
        exact ⟨fun c e => (by cases e), fun c d e => (by cases e; exact ⟨h1, h2⟩)⟩
def enB (a : Nat) : Int32 := 1 <<< ((Int32.ofNat a) &&& 31)
def enCs (r : SPR) : Int32 := match r with
  | none => -1
  | some none => 0
  | some (some (a, none)) => enB a
  | some (some (a, some b)) => enB a ||| enB b
def enMs (r : SPR) : Int32 := match r with
  | none => -1
  | some none => 0
  | some (some (_, none)) => 1
  | some (some (_, some _)) => 2
def plnR (r : SPR) (s : SG) : Prop := (∀ a, r = some (some (a, none)) → s 144 0 = Int32.ofNat a) ∧ ∀ a b, r = some (some (a, some b)) → s 144 0 = Int32.ofNat a ∧ s 144 1 = Int32.ofNat b
def allM (N : Nat) : Int32 := (1 <<< ((Int32.ofNat N) &&& 31)) - 1
def mk1 (N a : Nat) : Int32 := allM N &&& (enB a ^^^ (-1 : Int32))
def mk2 (N a b : Nat) : Int32 := allM N &&& ((enB a ||| enB b) ^^^ (-1 : Int32))
theorem al_b : ∀ N, N < 9 → bl (allM N) 256 = true := by decide
theorem m1_b : ∀ N, N < 9 → ∀ a, a < 8 → bl (mk1 N a) 256 = true := by decide
theorem m2_b : ∀ N, N < 9 → ∀ a, a < 8 → ∀ b, b < 8 → bl (mk2 N a b) 256 = true := by decide +kernel
def bitK (N : Nat) (set mask : Int32) : Prop := ∀ e, e < N → m_cmp .ne ((set >>> ((Int32.ofNat e) &&& 31)) &&& 1) 0 = !(m_cmp .ne ((mask >>> ((Int32.ofNat e) &&& 31)) &&& 1) 0)
theorem al_k : ∀ N, N < 9 → ∀ e, e < N → m_cmp .ne (((0 : Int32) >>> ((Int32.ofNat e) &&& 31)) &&& 1) 0 = !(m_cmp .ne ((allM N >>> ((Int32.ofNat e) &&& 31)) &&& 1) 0) := by decide
theorem m1_k : ∀ N, N < 9 → ∀ a, a < 8 → ∀ e, e < N → m_cmp .ne ((enB a >>> ((Int32.ofNat e) &&& 31)) &&& 1) 0 = !(m_cmp .ne ((mk1 N a >>> ((Int32.ofNat e) &&& 31)) &&& 1) 0) := by decide +kernel
theorem m2_k : ∀ N, N < 9 → ∀ a, a < 8 → ∀ b, b < 8 → ∀ e, e < N → m_cmp .ne (((enB a ||| enB b) >>> ((Int32.ofNat e) &&& 31)) &&& 1) 0 = !(m_cmp .ne ((mk2 N a b >>> ((Int32.ofNat e) &&& 31)) &&& 1) 0) := by decide +kernel
/-- aground some time -/
def agN (s : SG) (mask : Int32) : Bool := m_cmp .ne (gfi (inC_a s mask) 24) (-1)
/-! the class -/
def CPs (s : SG) (r : SPR) (v : Option Value) (s1 : SG) : Prop := v = some (.int (enCs r)) ∧ KF s1 ∧ Ag DG s s1
theorem fawN {s w : SG} (k : KF w) (a : Ag DG s w) {mask : Int32} (hb : bl mask 256 = true) {z : Int32 × SG} (e : F_firstAgroundWith w mask = z) : KF z.2 ∧ Ag DG s z.2 ∧ m_cmp .ne z.1 (-1) = agN s mask := by
  obtain ⟨f1, f2, f3⟩ := faw k mask
  rw [e] at f1 f2 f3
  refine ⟨f1, a.tr f2, ?_⟩
  rw [f3 hb]
  unfold agN
  rw [inC_ag (a.sub rfl)]
section SPC
variable {s : SG} {N : Nat} (hN : N ≤ 8) (eN : s 2 3 = Int32.ofNat N)
theorem n23 {s w : SG} {N : Nat} (eN : s 2 3 = Int32.ofNat N) (a : Ag DG s w) : w 2 3 = Int32.ofNat N := (a 2 3 rfl).trans eN
theorem geT' {N : Nat} : m_cmp .ge (Int32.ofNat N) (Int32.ofNat N) = true := m_ge_iff.mpr (Int.le_refl _)
theorem geF' {a N : Nat} (h : a < N) (hN : N < 1000) : m_cmp .ge (Int32.ofNat a) (Int32.ofNat N) = false := ge_F (by rw [ofn_c hN]; exact h)
theorem spI {s : SG} {N : Nat} (hN : N ≤ 8) (eN : s 2 3 = Int32.ofNat N) (a : Nat) (ha : a < N) (K : SPR) (hout : ∀ (w : SG) (v3 v4 : Option Value), KF w → Ag DG s w → UP m_X6_sparedEvents 76 [some (.ref 0), some (.int (allM N)), some (.int (Int32.ofNat a)), v3, v4] [] w (CPs s K)) : ∀ (m b : Nat) (w : SG) (u4 : Option Value), b + m = N → KF w → Ag DG s w → UP m_X6_sparedEvents 50 [some (.ref 0), some (.int (allM N)), some (.int (Int32.ofNat a)), some (.int (Int32.ofNat b)), u4] [] w (CPs s ((sfi (fun b => agN s (mk2 N a b)) m b).elim K (fun b => some (some (a, some b))))) := by
  intro m
  induction m with
  | zero =>
    intro b w u4 hb hk hw
    have e : b = N := by omega
    subst e
    refine UP.stp 4 (i1 := 54) (L1 := [some (.ref 0), some (.int (allM b)), some (.int (Int32.ofNat a)), some (.int (Int32.ofNat b)), u4]) (st1 := [.int (w 2 3), .int (Int32.ofNat b)]) (s1 := w) rfl ?_
    rw [n23 eN hw]
    refine UP.icT rfl geT' ?_
    exact hout w _ _ hk hw
  | succ m ih =>
    intro b w u4 hb hk hw
    refine UP.stp 4 (i1 := 54) (L1 := [some (.ref 0), some (.int (allM N)), some (.int (Int32.ofNat a)), some (.int (Int32.ofNat b)), u4]) (st1 := [.int (w 2 3), .int (Int32.ofNat b)]) (s1 := w) rfl ?_
    rw [n23 eN hw]
    refine UP.icF rfl (geF' (by omega) (by omega)) ?_
    refine UP.stp 14 (i1 := 69) (L1 := [some (.ref 0), some (.int (allM N)), some (.int (Int32.ofNat a)), some (.int (Int32.ofNat b)), some (.int (enB a ||| enB b))]) (st1 := [.int (mk2 N a b), .ref 0]) (s1 := w) rfl ?_
    refine UP.cB (M1 := m_X6_firstAgroundWith) (as := [.ref 0, .int (mk2 N a b)]) (rest := []) (T := F_firstAgroundWith w (mk2 N a b)) rfl rfl (ux_firstAgroundWith w (mk2 N a b)) (fun z e => ?_)
    obtain ⟨z1, z2, z3⟩ := fawN hk hw (m2_b N (by omega) a (by omega) b (by omega)) e
    refine UP.stp 1 (i1 := 71) (L1 := [some (.ref 0), some (.int (allM N)), some (.int (Int32.ofNat a)), some (.int (Int32.ofNat b)), some (.int (enB a ||| enB b))]) (st1 := [.int (-1), .int z.1]) (s1 := z.2) rfl ?_
    rw [sfi_s]
    cases q : agN s (mk2 N a b) with
    | true =>
      rw [q] at z3
      refine UP.icT rfl z3 ?_
      refine UP.stp 2 (i1 := 50) (L1 := [some (.ref 0), some (.int (allM N)), some (.int (Int32.ofNat a)), some (.int (Int32.ofNat b + 1)), some (.int (enB a ||| enB b))]) (st1 := []) (s1 := z.2) rfl ?_
      rw [ofn_s, kT]
      exact ih (b + 1) z.2 _ (by omega) z1 z2
    | false =>
      rw [q] at z3
      refine UP.icF rfl z3 ?_
      refine UP.stp 1 (i1 := 73) (L1 := [some (.ref 0), some (.int (allM N)), some (.int (Int32.ofNat a)), some (.int (Int32.ofNat b)), some (.int (enB a ||| enB b))]) (st1 := [.int (enB a ||| enB b)]) (s1 := z.2) rfl ?_
      rw [kF]
      exact UP.ret (r := some (.int (enB a ||| enB b))) rfl ⟨rfl, z1, z2⟩
theorem spO {s : SG} {N : Nat} (hN : N ≤ 8) (eN : s 2 3 = Int32.ofNat N) : ∀ (n a : Nat) (w : SG) (v3 v4 : Option Value), a + n = N → KF w → Ag DG s w → UP m_X6_sparedEvents 41 [some (.ref 0), some (.int (allM N)), some (.int (Int32.ofNat a)), v3, v4] [] w (CPs s ((sff (fun a b => agN s (mk2 N a b)) N n a).map some)) := by
  intro n
  induction n with
  | zero =>
    intro a w v3 v4 ha hk hw
    have e : a = N := by omega
    subst e
    refine UP.stp 4 (i1 := 45) (L1 := [some (.ref 0), some (.int (allM a)), some (.int (Int32.ofNat a)), v3, v4]) (st1 := [.int (w 2 3), .int (Int32.ofNat a)]) (s1 := w) rfl ?_
    rw [n23 eN hw]
    refine UP.icT rfl geT' ?_
    refine UP.stp 1 (i1 := 79) (L1 := [some (.ref 0), some (.int (allM a)), some (.int (Int32.ofNat a)), v3, v4]) (st1 := [.int (-1)]) (s1 := w) rfl ?_
    exact UP.ret (r := some (.int (-1))) rfl ⟨rfl, hk, hw⟩
  | succ n ih =>
    intro a w v3 v4 ha hk hw
    refine UP.stp 4 (i1 := 45) (L1 := [some (.ref 0), some (.int (allM N)), some (.int (Int32.ofNat a)), v3, v4]) (st1 := [.int (w 2 3), .int (Int32.ofNat a)]) (s1 := w) rfl ?_
    rw [n23 eN hw]
    refine UP.icF rfl (geF' (by omega) (by omega)) ?_
    refine UP.stp 4 (i1 := 50) (L1 := [some (.ref 0), some (.int (allM N)), some (.int (Int32.ofNat a)), some (.int (Int32.ofNat a + 1)), v4]) (st1 := []) (s1 := w) rfl ?_
    rw [ofn_s, sff_s]
    exact spI hN eN a (by omega) _ (fun w2 x3 x4 k2 a2 => by
      refine UP.stp 2 (i1 := 41) (L1 := [some (.ref 0), some (.int (allM N)), some (.int (Int32.ofNat a + 1)), x3, x4]) (st1 := []) (s1 := w2) rfl ?_
      rw [ofn_s]
      exact ih (a + 1) w2 _ _ (by omega) k2 a2) (N - (a + 1)) (a + 1) w _ (by omega) hk hw
theorem sp1 {s : SG} {N : Nat} (hN : N ≤ 8) (eN : s 2 3 = Int32.ofNat N) : ∀ (n a : Nat) (w : SG) (v3 v4 : Option Value), a + n = N → KF w → Ag DG s w → UP m_X6_sparedEvents 17 [some (.ref 0), some (.int (allM N)), some (.int (Int32.ofNat a)), v3, v4] [] w (CPs s ((sfi (fun a => agN s (mk1 N a)) n a).elim ((sff (fun a b => agN s (mk2 N a b)) N N 0).map some) (fun a => some (some (a, none))))) := by
  intro n
  induction n with
  | zero =>
    intro a w v3 v4 ha hk hw
    have e : a = N := by omega
    subst e
    refine UP.stp 4 (i1 := 21) (L1 := [some (.ref 0), some (.int (allM a)), some (.int (Int32.ofNat a)), v3, v4]) (st1 := [.int (w 2 3), .int (Int32.ofNat a)]) (s1 := w) rfl ?_
    rw [n23 eN hw]
    refine UP.icT rfl geT' ?_
    refine UP.stp 2 (i1 := 41) (L1 := [some (.ref 0), some (.int (allM a)), some (.int (Int32.ofNat 0)), v3, v4]) (st1 := []) (s1 := w) rfl ?_
    exact spO hN eN a 0 w _ _ (by omega) hk hw
  | succ n ih =>
    intro a w v3 v4 ha hk hw
    refine UP.stp 4 (i1 := 21) (L1 := [some (.ref 0), some (.int (allM N)), some (.int (Int32.ofNat a)), v3, v4]) (st1 := [.int (w 2 3), .int (Int32.ofNat a)]) (s1 := w) rfl ?_
    rw [n23 eN hw]
    refine UP.icF rfl (geF' (by omega) (by omega)) ?_
    refine UP.stp 8 (i1 := 30) (L1 := [some (.ref 0), some (.int (allM N)), some (.int (Int32.ofNat a)), v3, v4]) (st1 := [.int (mk1 N a), .ref 0]) (s1 := w) rfl ?_
    refine UP.cB (M1 := m_X6_firstAgroundWith) (as := [.ref 0, .int (mk1 N a)]) (rest := []) (T := F_firstAgroundWith w (mk1 N a)) rfl rfl (ux_firstAgroundWith w (mk1 N a)) (fun z e => ?_)
    obtain ⟨z1, z2, z3⟩ := fawN hk hw (m1_b N (by omega) a (by omega)) e
    refine UP.stp 1 (i1 := 32) (L1 := [some (.ref 0), some (.int (allM N)), some (.int (Int32.ofNat a)), v3, v4]) (st1 := [.int (-1), .int z.1]) (s1 := z.2) rfl ?_
    rw [sfi_s]
    cases q : agN s (mk1 N a) with
    | true =>
      rw [q] at z3
      refine UP.icT rfl z3 ?_
      refine UP.stp 2 (i1 := 17) (L1 := [some (.ref 0), some (.int (allM N)), some (.int (Int32.ofNat a + 1)), v3, v4]) (st1 := []) (s1 := z.2) rfl ?_
      rw [ofn_s, kT]
      exact ih (a + 1) z.2 _ _ (by omega) z1 z2
    | false =>
      rw [q] at z3
      refine UP.icF rfl z3 ?_
      refine UP.stp 3 (i1 := 36) (L1 := [some (.ref 0), some (.int (allM N)), some (.int (Int32.ofNat a)), v3, v4]) (st1 := [.int (enB a)]) (s1 := z.2) rfl ?_
      rw [kF]
      exact UP.ret (r := some (.int (enB a))) rfl ⟨rfl, z1, z2⟩
end SPC
def rS (s : SG) (N : Nat) : SPR := spR (agN s (allM N)) (fun a => agN s (mk1 N a)) (fun a b => agN s (mk2 N a b)) N
theorem ux_spared {s : SG} {N : Nat} (h : KF s) (hN : N ≤ 8) (eN : s 2 3 = Int32.ofNat N) : UP m_X6_sparedEvents 0 (m_ent 5 [.ref 0]) [] s (CPs s (rS s N)) := by
  unfold rS spR
  refine UP.stp 8 (i1 := 8) (L1 := [some (.ref 0), some (.int ((1 <<< (s 2 3 &&& 31)) - 1)), none, none, none]) (st1 := []) (s1 := s) rfl ?_
  rw [eN]
  refine UP.stp 2 (i1 := 10) (L1 := [some (.ref 0), some (.int (allM N)), none, none, none]) (st1 := [.int (allM N), .ref 0]) (s1 := s) rfl ?_
  refine UP.cB (M1 := m_X6_firstAgroundWith) (as := [.ref 0, .int (allM N)]) (rest := []) (T := F_firstAgroundWith s (allM N)) rfl rfl (ux_firstAgroundWith s (allM N)) (fun z e => ?_)
  obtain ⟨z1, z2, z3⟩ := fawN h (Ag.rf _ _) (al_b N (by omega)) e
  refine UP.stp 1 (i1 := 12) (L1 := [some (.ref 0), some (.int (allM N)), none, none, none]) (st1 := [.int (-1), .int z.1]) (s1 := z.2) rfl ?_
  cases q : agN s (allM N) with
  | true =>
    rw [q] at z3
    refine UP.icT rfl z3 ?_
    refine UP.stp 2 (i1 := 17) (L1 := [some (.ref 0), some (.int (allM N)), some (.int (Int32.ofNat 0)), none, none]) (st1 := []) (s1 := z.2) rfl ?_
    rw [kT]
    exact sp1 hN eN N 0 z.2 _ _ (by omega) z1 z2
  | false =>
    rw [q] at z3
    refine UP.icF rfl z3 ?_
    refine UP.stp 1 (i1 := 14) (L1 := [some (.ref 0), some (.int (allM N)), none, none, none]) (st1 := [.int 0]) (s1 := z.2) rfl ?_
    rw [kF]
    exact UP.ret (r := some (.int 0)) rfl ⟨rfl, z1, z2⟩
/-! the model -/
theorem befT2 {s z : SG} (h : KE s) (f : Fr W_asTold s z) {set mask : Int32} (h17 : z 123 17 = set) (hb : bitK (s 2 3).toNatClampNeg set mask) (t : Nat) : befM z t = befC s mask t := by
  obtain ⟨h1, -, h3, h4, -, -, -⟩ := h
  unfold befM befC
  rw [f 123 11 rfl, ← h1]
  refine bef_c (fun e he => ?_)
  obtain ⟨a1, a2, a3⟩ := h4 e (by omega)
  refine ⟨(f 130 e rfl).trans a1.symm, (f 131 e rfl).trans a2.symm, (f 132 e rfl).trans a3.symm, ?_⟩
  unfold offM offC
  rw [isIn_bit, h17]
  exact hb e he
theorem runT2 {s z : SG} {so po ra ru : NI} {set mask : Int32} (hE : KE s) (h8 : (s 10 0).toNatClampNeg ≤ 8) (o : MtC s z so po ra ru set) (hb : bitK (s 2 3).toNatClampNeg set mask) (ov : ovJ (tJ s so po ra ru mask)) : MOu (tJ s so po ra ru mask) (F_runs z) ∧ MtC s (F_runs z) so po ra ru set := by
  obtain ⟨o1, o2, o3, o4, o5, f⟩ := o
  have E : eqJ (inM z) (tJ s so po ra ru mask) := by
    have en : jn (inM z) = (s 10 0).toNatClampNeg := by show (z 123 2).toNatClampNeg = _; rw [o1]
    refine ⟨en, fun k hk => ?_, fun t ht => ?_, ?_, ?_⟩
    · rw [en] at hk
      exact ⟨(o2 k hk).1, (o2 k hk).2, o4 k (by omega)⟩
    · exact ⟨(o3 t ht).1, (o3 t ht).2, befT2 hE f o5 hb t⟩
    · show z 123 9 = s 10 5
      rw [f 123 9 rfl]
      exact hE.2.2.2.2.2.1.symm
    · show z 123 10 = s 10 6
      rw [f 123 10 rfl]
      exact hE.2.2.2.2.2.2.symm
  obtain ⟨r, g⟩ := runMO (z := z) (by rw [o1]; exact h8) (fun k hk => ⟨k, hk, o4 k hk⟩) E ov
  exact ⟨r, (g 123 2 rfl).trans o1, fun k hk => ⟨(g 126 k rfl).trans (o2 k hk).1, (g 127 k rfl).trans (o2 k hk).2⟩, fun t ht => ⟨(g 133 t rfl).trans (o3 t ht).1, (g 134 t rfl).trans (o3 t ht).2⟩, fun k hk => (g 135 k rfl).trans (o4 k hk), (g 123 17 rfl).trans o5, f.tr (g.wk rfl)⟩
theorem gma_gfi (J : TI) (i : Nat) : i ≤ 24 → ∃ c, c ≤ i ∧ gma J i = Int32.ofNat c ∧ (c = 0 ↔ gfi J i = -1) := by
  induction i with
  | zero => exact fun _ => ⟨0, Nat.le_refl 0, gma_0 J, ⟨fun _ => gfi_0 J, fun _ => rfl⟩⟩
  | succ i ih =>
    intro hi
    obtain ⟨c, c1, c2, c3⟩ := ih (by omega)
    rw [gma_s, gfi_s, c2]
    rcases gr01 J i (trip J i) with e | e
    · rw [e]
      refine ⟨c, by omega, Int32.add_zero _, ?_⟩
      show c = 0 ↔ gfi J i = -1
      exact c3
    · rw [e]
      refine ⟨c + 1, by omega, ofn_s c, ⟨fun h => absurd h (by omega), fun h => ?_⟩⟩
      exfalso
      have h : (bif m_cmp .ne (gfi J i) (-1) then gfi J i else Int32.ofNat i) = -1 := h
      cases q : m_cmp .ne (gfi J i) (-1) with
      | true =>
        rw [q, kT] at h
        exact m_ne_iff.mp q h
      | false =>
        rw [q, kF] at h
        exact ofn_ne (by omega) h
theorem gmN (J : TI) : m_cmp .ne (gma J 24) 0 = m_cmp .ne (gfi J 24) (-1) := by
  obtain ⟨c, c1, c2, c3⟩ := gma_gfi J 24 (Nat.le_refl _)
  rw [c2]
  by_cases w : c = 0
  · rw [w, c3.mp w]
    rfl
  · rw [m_ne_iff.mpr (fun q => w (c3.mpr q))]
    refine m_ne_iff.mpr (fun q => w ?_)
    have q := congrArg Int32.toInt q
    rw [ofn_int (by omega)] at q
    have e0 : (0 : Int32).toInt = 0 := by decide
    omega
def MtE (c z : SG) : Prop := ∃ x, MtC c z (c 11) (c 12) (c 13) (c 14) x
def MPs (c : SG) (r : SPR) (v : Option Value) (s1 : SG) : Prop := v = some (.int (enMs r)) ∧ plnR r s1 ∧ MtE c s1
theorem isp {c w : SG} (g : KG c) {N : Nat} (eN : c 2 3 = Int32.ofNat N) (hN : N ≤ 8) (m : MtE c w) {set mask : Int32} (hb : bitK N set mask) {z : Int32 × SG} (e : F_isSpared w set = z) : MtE c z.2 ∧ m_cmp .eq z.1 0 = agN c mask ∧ ∀ j, z.2 144 j = w 144 j := by
  have h8 := row8 g.1.1 g.2.1.1
  obtain ⟨x, o⟩ := m
  have cN : (c 2 3).toNatClampNeg = N := by rw [eN]; exact ofn_c (by omega)
  obtain ⟨r1, r2⟩ := runT2 (mask := mask) g.2.2.1 h8 (o.wset set) (by rw [cN]; exact hb) (ovC g.1.1 g.2.1 mask)
  have eF : F_isSpared w set = (bif m_cmp .ne (F_runs (uset w 123 17 set) 123 22) 0 then (0 : Int32) else (1 : Int32), F_runs (uset w 123 17 set)) := rfl
  have fr := fr_runs (uset w 123 17 set)
  rw [eF] at e
  generalize F_runs (uset w 123 17 set) = y at *
  subst e
  refine ⟨⟨_, r2⟩, ?_, fun j => (fr 144 j rfl).trans (uset_na (by decide))⟩
  rw [mkF, r1.2.2.2.1, gmN]
  unfold agN
  have e1 : inC_a c mask = tJ c (c 11) (c 12) (c 13) (c 14) mask := rfl
  rw [e1]
  cases m_cmp .ne (gfi (tJ c (c 11) (c 12) (c 13) (c 14) mask) 24) (-1) <;> rfl
theorem n11 {c w : SG} {N : Nat} (hE : KE c) (eN : c 2 3 = Int32.ofNat N) (m : MtE c w) : w 123 11 = Int32.ofNat N := by
  obtain ⟨x, o⟩ := m
  rw [o.2.2.2.2.2 123 11 rfl, ← hE.1, eN]
theorem MtE.pl {c w : SG} (m : MtE c w) (j : Nat) (v : Int32) : MtE c (uset w 144 j v) := by
  obtain ⟨x, o1, o2, o3, o4, o5, o6⟩ := m
  exact ⟨x, (uset_na (by decide)).trans o1, fun k hk => ⟨(uset_na (by decide)).trans (o2 k hk).1, (uset_na (by decide)).trans (o2 k hk).2⟩, fun t ht => ⟨(uset_na (by decide)).trans (o3 t ht).1, (uset_na (by decide)).trans (o3 t ht).2⟩, fun k hk => (uset_na (by decide)).trans (o4 k hk), (uset_na (by decide)).trans o5, Fr.uset rfl o6⟩
theorem mpI {c : SG} {N : Nat} (g : KG c) (hN : N ≤ 8) (eN : c 2 3 = Int32.ofNat N) (a : Nat) (ha : a < N) (K : SPR) (hout : ∀ (w : SG) (v2 : Option Value), MtE c w → UP m_X7_spareBy 67 [some (.ref 123), some (.int (Int32.ofNat a)), v2] [] w (MPs c K)) : ∀ (m b : Nat) (w : SG), b + m = N → MtE c w → UP m_X7_spareBy 39 [some (.ref 123), some (.int (Int32.ofNat a)), some (.int (Int32.ofNat b))] [] w (MPs c ((sfi (fun b => agN c (mk2 N a b)) m b).elim K (fun b => some (some (a, some b))))) := by
  intro m
  induction m with
  | zero =>
    intro b w hb hm
    have e : b = N := by omega
    subst e
    refine UP.stp 3 (i1 := 42) (L1 := [some (.ref 123), some (.int (Int32.ofNat a)), some (.int (Int32.ofNat b))]) (st1 := [.int (w 123 11), .int (Int32.ofNat b)]) (s1 := w) rfl ?_
    rw [n11 g.2.2.1 eN hm]
    refine UP.icT rfl geT' ?_
    exact hout w _ hm
  | succ m ih =>
    intro b w hb hm
    refine UP.stp 3 (i1 := 42) (L1 := [some (.ref 123), some (.int (Int32.ofNat a)), some (.int (Int32.ofNat b))]) (st1 := [.int (w 123 11), .int (Int32.ofNat b)]) (s1 := w) rfl ?_
    rw [n11 g.2.2.1 eN hm]
    refine UP.icF rfl (geF' (by omega) (by omega)) ?_
    refine UP.stp 18 (i1 := 61) (L1 := [some (.ref 123), some (.int (Int32.ofNat a)), some (.int (Int32.ofNat b))]) (st1 := [.int (enB a ||| enB b), .ref 123]) (s1 := uset (uset w 144 0 (Int32.ofNat a)) 144 1 (Int32.ofNat b)) rfl ?_
    have p0 : uset (uset w 144 0 (Int32.ofNat a)) 144 1 (Int32.ofNat b) 144 0 = Int32.ofNat a := (uset_nj (by decide)).trans (uset_eq _ _ _ _)
    have p1 : uset (uset w 144 0 (Int32.ofNat a)) 144 1 (Int32.ofNat b) 144 1 = Int32.ofNat b := uset_eq _ _ _ _
    have hm2 := (hm.pl 0 (Int32.ofNat a)).pl 1 (Int32.ofNat b)
    generalize uset (uset w 144 0 (Int32.ofNat a)) 144 1 (Int32.ofNat b) = w2 at *
    refine UP.cB (M1 := m_X7_isSpared) (as := [.ref 123, .int (enB a ||| enB b)]) (rest := []) (T := F_isSpared w2 (enB a ||| enB b)) rfl rfl (ux_isSpared w2 (enB a ||| enB b)) (fun z e => ?_)
    obtain ⟨z1, z2, z3⟩ := isp g eN hN hm2 (mask := mk2 N a b) (m2_k N (by omega) a (by omega) b (by omega)) e
    rw [sfi_s]
    cases q : agN c (mk2 N a b) with
    | true =>
      rw [q] at z2
      refine UP.ifT rfl z2 ?_
      refine UP.stp 2 (i1 := 39) (L1 := [some (.ref 123), some (.int (Int32.ofNat a)), some (.int (Int32.ofNat b + 1))]) (st1 := []) (s1 := z.2) rfl ?_
      rw [ofn_s, kT]
      exact ih (b + 1) z.2 (by omega) z1
    | false =>
      rw [q] at z2
      refine UP.ifF rfl z2 ?_
      refine UP.stp 1 (i1 := 64) (L1 := [some (.ref 123), some (.int (Int32.ofNat a)), some (.int (Int32.ofNat b))]) (st1 := [.int 2]) (s1 := z.2) rfl ?_
      rw [kF]
      exact UP.ret (r := some (.int 2)) rfl ⟨rfl, ⟨fun c e => (by cases e), fun c d e => (by cases e; exact ⟨(z3 0).trans p0, (z3 1).trans p1⟩)⟩, z1⟩
theorem mpO {c : SG} {N : Nat} (g : KG c) (hN : N ≤ 8) (eN : c 2 3 = Int32.ofNat N) : ∀ (n a : Nat) (w : SG) (v2 : Option Value), a + n = N → MtE c w → UP m_X7_spareBy 31 [some (.ref 123), some (.int (Int32.ofNat a)), v2] [] w (MPs c ((sff (fun a b => agN c (mk2 N a b)) N n a).map some)) := by
  intro n
  induction n with
  | zero =>
    intro a w v2 ha hm
    have e : a = N := by omega
    subst e
    refine UP.stp 3 (i1 := 34) (L1 := [some (.ref 123), some (.int (Int32.ofNat a)), v2]) (st1 := [.int (w 123 11), .int (Int32.ofNat a)]) (s1 := w) rfl ?_
    rw [n11 g.2.2.1 eN hm]
    refine UP.icT rfl geT' ?_
    refine UP.stp 1 (i1 := 70) (L1 := [some (.ref 123), some (.int (Int32.ofNat a)), v2]) (st1 := [.int (-1)]) (s1 := w) rfl ?_
    exact UP.ret (r := some (.int (-1))) rfl ⟨rfl, ⟨fun c e => (by cases e), fun c d e => (by cases e)⟩, hm⟩
  | succ n ih =>
    intro a w v2 ha hm
    refine UP.stp 3 (i1 := 34) (L1 := [some (.ref 123), some (.int (Int32.ofNat a)), v2]) (st1 := [.int (w 123 11), .int (Int32.ofNat a)]) (s1 := w) rfl ?_
    rw [n11 g.2.2.1 eN hm]
    refine UP.icF rfl (geF' (by omega) (by omega)) ?_
    refine UP.stp 4 (i1 := 39) (L1 := [some (.ref 123), some (.int (Int32.ofNat a)), some (.int (Int32.ofNat a + 1))]) (st1 := []) (s1 := w) rfl ?_
    rw [ofn_s, sff_s]
    exact mpI g hN eN a (by omega) _ (fun w2 x2 m2 => by
      refine UP.stp 2 (i1 := 31) (L1 := [some (.ref 123), some (.int (Int32.ofNat a + 1)), x2]) (st1 := []) (s1 := w2) rfl ?_
      rw [ofn_s]
      exact ih (a + 1) w2 _ (by omega) m2) (N - (a + 1)) (a + 1) w (by omega) hm
theorem mp1 {c : SG} {N : Nat} (g : KG c) (hN : N ≤ 8) (eN : c 2 3 = Int32.ofNat N) : ∀ (n a : Nat) (w : SG) (v2 : Option Value), a + n = N → MtE c w → UP m_X7_spareBy 10 [some (.ref 123), some (.int (Int32.ofNat a)), v2] [] w (MPs c ((sfi (fun a => agN c (mk1 N a)) n a).elim ((sff (fun a b => agN c (mk2 N a b)) N N 0).map some) (fun a => some (some (a, none))))) := by
  intro n
  induction n with
  | zero =>
    intro a w v2 ha hm
    have e : a = N := by omega
    subst e
    refine UP.stp 3 (i1 := 13) (L1 := [some (.ref 123), some (.int (Int32.ofNat a)), v2]) (st1 := [.int (w 123 11), .int (Int32.ofNat a)]) (s1 := w) rfl ?_
    rw [n11 g.2.2.1 eN hm]
    refine UP.icT rfl geT' ?_
    refine UP.stp 2 (i1 := 31) (L1 := [some (.ref 123), some (.int (Int32.ofNat 0)), v2]) (st1 := []) (s1 := w) rfl ?_
    exact mpO g hN eN a 0 w _ (by omega) hm
  | succ n ih =>
    intro a w v2 ha hm
    refine UP.stp 3 (i1 := 13) (L1 := [some (.ref 123), some (.int (Int32.ofNat a)), v2]) (st1 := [.int (w 123 11), .int (Int32.ofNat a)]) (s1 := w) rfl ?_
    rw [n11 g.2.2.1 eN hm]
    refine UP.icF rfl (geF' (by omega) (by omega)) ?_
    refine UP.stp 9 (i1 := 23) (L1 := [some (.ref 123), some (.int (Int32.ofNat a)), v2]) (st1 := [.int (enB a), .ref 123]) (s1 := uset w 144 0 (Int32.ofNat a)) rfl ?_
    have p0 : uset w 144 0 (Int32.ofNat a) 144 0 = Int32.ofNat a := uset_eq _ _ _ _
    have hm2 := hm.pl 0 (Int32.ofNat a)
    generalize uset w 144 0 (Int32.ofNat a) = w2 at *
    refine UP.cB (M1 := m_X7_isSpared) (as := [.ref 123, .int (enB a)]) (rest := []) (T := F_isSpared w2 (enB a)) rfl rfl (ux_isSpared w2 (enB a)) (fun z e => ?_)
    obtain ⟨z1, z2, z3⟩ := isp g eN hN hm2 (mask := mk1 N a) (m1_k N (by omega) a (by omega)) e
    rw [sfi_s]
    cases q : agN c (mk1 N a) with
    | true =>
      rw [q] at z2
      refine UP.ifT rfl z2 ?_
      refine UP.stp 2 (i1 := 10) (L1 := [some (.ref 123), some (.int (Int32.ofNat a + 1)), v2]) (st1 := []) (s1 := z.2) rfl ?_
      rw [ofn_s, kT]
      exact ih (a + 1) z.2 _ (by omega) z1
    | false =>
      rw [q] at z2
      refine UP.ifF rfl z2 ?_
      refine UP.stp 1 (i1 := 26) (L1 := [some (.ref 123), some (.int (Int32.ofNat a)), v2]) (st1 := [.int 1]) (s1 := z.2) rfl ?_
      rw [kF]
      exact UP.ret (r := some (.int 1)) rfl ⟨rfl, ⟨fun c e => (by cases e; exact (z3 0).trans p0), fun c d e => (by cases e)⟩, z1⟩
theorem ux_spareBy {c : SG} {N : Nat} (g : KG c) (hN : N ≤ 8) (eN : c 2 3 = Int32.ofNat N) : UP m_X7_spareBy 0 (m_ent 3 [.ref 123]) [] c (MPs c (rS c N)) := by
  unfold rS spR
  refine UP.stp 1 (i1 := 1) (L1 := [some (.ref 123), none, none]) (st1 := [.ref 123]) (s1 := c) rfl ?_
  refine UP.cV (M1 := m_X7_asTold) (as := [.ref 123]) (rest := []) (T := F_asTold c) rfl rfl (ux_asTold c) (fun y e => ?_)
  have hm : MtE c y := ⟨0, by rw [← e]; exact mtTold g.1.1 g.2.1⟩
  refine UP.stp 2 (i1 := 4) (L1 := [some (.ref 123), none, none]) (st1 := [.int 0, .ref 123]) (s1 := y) rfl ?_
  refine UP.cB (M1 := m_X7_isSpared) (as := [.ref 123, .int 0]) (rest := []) (T := F_isSpared y 0) rfl rfl (ux_isSpared y 0) (fun z e2 => ?_)
  obtain ⟨z1, z2, z3⟩ := isp g eN hN hm (mask := allM N) (al_k N (by omega)) e2
  cases q : agN c (allM N) with
  | true =>
    rw [q] at z2
    refine UP.ifT rfl z2 ?_
    refine UP.stp 2 (i1 := 10) (L1 := [some (.ref 123), some (.int (Int32.ofNat 0)), none]) (st1 := []) (s1 := z.2) rfl ?_
    rw [kT]
    exact mp1 g hN eN N 0 z.2 _ (by omega) z1
  | false =>
    rw [q] at z2
    refine UP.ifF rfl z2 ?_
    refine UP.stp 1 (i1 := 7) (L1 := [some (.ref 123), none, none]) (st1 := [.int 0]) (s1 := z.2) rfl ?_
    rw [kF]
    exact UP.ret (r := some (.int 0)) rfl ⟨rfl, ⟨fun c e => (by cases e), fun c d e => (by cases e)⟩, z1⟩
