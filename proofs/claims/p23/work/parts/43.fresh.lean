/-! THE FRESH PAIR: the constructors' runs; the ranges hold there -/
def eqV (a b : Value) : Bool := match a, b with
  | .int x, .int y => decide (x = y)
  | .ref x, .ref y => decide (x = y)
  | .null, .null => true
  | _, _ => false
theorem eqV_ok {a b : Value} (h : eqV a b = true) : a = b := by
  unfold eqV at h
  split at h
  · rw [of_decide_eq_true h]
  · rw [of_decide_eq_true h]
  · rfl
  · cases h
def eqVs : List Value → List Value → Bool
  | [], [] => true
  | a :: as, b :: bs => eqV a b && eqVs as bs
  | _, _ => false
theorem eqVs_ok : ∀ {a b : List Value}, eqVs a b = true → a = b
  | [], [], _ => rfl
  | a :: as, b :: bs, h => by
    obtain ⟨h1, h2⟩ := b_and h
    rw [eqV_ok h1, eqVs_ok h2]
  | [], _ :: _, h => by cases h
  | _ :: _, [], h => by cases h
def eqE (a b : ME) : Bool := match a, b with
  | .inl (t, .inl l), .inl (u, .inl m) => decide (t = u) && decide (l = m)
  | .inl (t, .inr l), .inl (u, .inr m) => decide (t = u) && decide (l = m)
  | .inr (t, l), .inr (u, m) => decide (t = u) && eqVs l m
  | _, _ => false
theorem eqE_ok {a b : ME} (h : eqE a b = true) : a = b := by
  unfold eqE at h
  split at h
  · obtain ⟨h1, h2⟩ := b_and h
    rw [of_decide_eq_true h1, of_decide_eq_true h2]
  · obtain ⟨h1, h2⟩ := b_and h
    rw [of_decide_eq_true h1, of_decide_eq_true h2]
  · obtain ⟨h1, h2⟩ := b_and h
    rw [of_decide_eq_true h1, eqVs_ok h2]
  · cases h
def eqM : MH → MH → Bool
  | [], [] => true
  | a :: as, b :: bs => eqE a b && eqM as bs
  | _, _ => false
theorem eqM_ok : ∀ {a b : MH}, eqM a b = true → a = b
  | [], [], _ => rfl
  | a :: as, b :: bs, h => by
    obtain ⟨h1, h2⟩ := b_and h
    rw [eqE_ok h1, eqM_ok h2]
  | [], _ :: _, h => by cases h
  | _ :: _, [], h => by cases h
def isRun (q : Option (Option Value × MH)) (h : MH) : Bool := match q with
  | some (none, h1) => eqM h1 h
  | _ => false
theorem isRun_ok {q : Option (Option Value × MH)} {h : MH} (e : isRun q h = true) : q = some (none, h) := by
  unfold isRun at e
  split at e
  · rw [eqM_ok e]
  · cases e
def h0 : MH := [.inr (6, [.ref 1, .ref 2, .ref 6, .ref 9, .int 0, .ref 10, .ref 15, .ref 53, .ref 58, .ref 96, .ref 97, .ref 108, .int 1, .int 1]), .inl (2, .inr [some 109, some 111, some 113]), .inr (1, [.ref 3, .ref 4, .ref 5, .int 0]), .inl (0, .inl [0, 0, 0, 0, 0, 0, 0, 0]), .inl (0, .inl [0, 0, 0, 0, 0, 0, 0, 0]), .inl (0, .inl [0, 0, 0, 0, 0, 0, 0, 0]), .inr (2, [.ref 7, .ref 8, .int 0]), .inl (0, .inl [0, 0, 0, 0, 0, 0, 0, 0]), .inl (0, .inl [0, 0, 0, 0, 0, 0, 0, 0]), .inl (3, .inr [some 115, some 117, some 119, some 121]), .inr (0, [.int 0, .ref 11, .ref 12, .ref 13, .ref 14, .int 3, .int 300]), .inl (0, .inl [0, 0, 0, 0, 0, 0, 0, 0]), .inl (0, .inl [0, 0, 0, 0, 0, 0, 0, 0]), .inl (0, .inl [2, 2, 2, 2, 2, 2, 2, 2, 2, 2, 2, 2, 2, 2, 2, 2, 2, 2, 2, 2, 2, 2, 2, 2]), .inl (0, .inl [0, 0, 0, 0, 0, 0, 0, 0, 0, 0, 0, 0, 0, 0, 0, 0, 0, 0, 0, 0, 0, 0, 0, 0]), .inr (5, [.ref 16, .ref 17, .ref 18, .ref 19, .ref 20, .ref 21, .ref 46, .ref 47, .int (-1), .ref 48, .ref 49, .ref 50, .ref 51, .ref 52]), .inl (0, .inl [0, 0, 0, 0, 0, 0, 0, 0, 0, 0, 0, 0, 0, 0, 0, 0, 0, 0, 0, 0, 0, 0, 0, 0]), .inl (0, .inl [0, 0, 0, 0, 0, 0, 0, 0, 0, 0, 0, 0, 0, 0, 0, 0, 0, 0, 0, 0, 0, 0, 0, 0]), .inl (0, .inl [0, 0, 0, 0, 0, 0, 0, 0, 0, 0, 0, 0, 0, 0, 0, 0, 0, 0, 0, 0, 0, 0, 0, 0]), .inl (0, .inl [0, 0, 0, 0, 0, 0, 0, 0, 0, 0, 0, 0, 0, 0, 0, 0, 0, 0, 0, 0, 0, 0, 0, 0]), .inl (0, .inl [0, 0, 0, 0, 0, 0, 0, 0, 0, 0, 0, 0, 0, 0, 0, 0, 0, 0, 0, 0, 0, 0, 0, 0]), .inl (4, .inr [some 22, some 23, some 24, some 25, some 26, some 27, some 28, some 29, some 30, some 31, some 32, some 33, some 34, some 35, some 36, some 37, some 38, some 39, some 40, some 41, some 42, some 43, some 44, some 45]), .inl (0, .inl [0, 0, 0, 0, 0, 0, 0, 0]), .inl (0, .inl [0, 0, 0, 0, 0, 0, 0, 0]), .inl (0, .inl [0, 0, 0, 0, 0, 0, 0, 0]), .inl (0, .inl [0, 0, 0, 0, 0, 0, 0, 0]), .inl (0, .inl [0, 0, 0, 0, 0, 0, 0, 0]), .inl (0, .inl [0, 0, 0, 0, 0, 0, 0, 0]), .inl (0, .inl [0, 0, 0, 0, 0, 0, 0, 0]), .inl (0, .inl [0, 0, 0, 0, 0, 0, 0, 0]), .inl (0, .inl [0, 0, 0, 0, 0, 0, 0, 0]), .inl (0, .inl [0, 0, 0, 0, 0, 0, 0, 0]), .inl (0, .inl [0, 0, 0, 0, 0, 0, 0, 0]), .inl (0, .inl [0, 0, 0, 0, 0, 0, 0, 0]), .inl (0, .inl [0, 0, 0, 0, 0, 0, 0, 0]), .inl (0, .inl [0, 0, 0, 0, 0, 0, 0, 0]), .inl (0, .inl [0, 0, 0, 0, 0, 0, 0, 0]), .inl (0, .inl [0, 0, 0, 0, 0, 0, 0, 0]), .inl (0, .inl [0, 0, 0, 0, 0, 0, 0, 0]), .inl (0, .inl [0, 0, 0, 0, 0, 0, 0, 0]), .inl (0, .inl [0, 0, 0, 0, 0, 0, 0, 0]), .inl (0, .inl [0, 0, 0, 0, 0, 0, 0, 0]), .inl (0, .inl [0, 0, 0, 0, 0, 0, 0, 0]), .inl (0, .inl [0, 0, 0, 0, 0, 0, 0, 0]), .inl (0, .inl [0, 0, 0, 0, 0, 0, 0, 0]), .inl (0, .inl [0, 0, 0, 0, 0, 0, 0, 0]), .inl (0, .inl [0, 0, 0, 0, 0, 0, 0, 0]), .inl (0, .inl [0, 0, 0, 0, 0, 0, 0, 0]), .inl (0, .inl [0, 0, 0, 0, 0, 0, 0, 0]), .inl (0, .inl [0, 0, 0, 0, 0, 0, 0, 0]), .inl (0, .inl [0, 0, 0, 0, 0, 0, 0, 0, 0, 0, 0, 0, 0, 0, 0, 0, 0, 0, 0, 0, 0, 0, 0, 0]), .inl (0, .inl [0, 0, 0, 0, 0, 0, 0, 0, 0, 0, 0, 0, 0, 0, 0, 0, 0, 0, 0, 0, 0, 0, 0, 0]), .inl (0, .inl [0, 0, 0, 0, 0, 0, 0, 0, 0, 0, 0, 0, 0, 0, 0, 0, 0, 0, 0, 0, 0, 0, 0, 0]), .inr (0, [.int 0, .ref 54, .ref 55, .ref 56, .ref 57, .int 3, .int 300]), .inl (0, .inl [0, 0, 0, 0, 0, 0, 0, 0]), .inl (0, .inl [0, 0, 0, 0, 0, 0, 0, 0]), .inl (0, .inl [2, 2, 2, 2, 2, 2, 2, 2, 2, 2, 2, 2, 2, 2, 2, 2, 2, 2, 2, 2, 2, 2, 2, 2]), .inl (0, .inl [0, 0, 0, 0, 0, 0, 0, 0, 0, 0, 0, 0, 0, 0, 0, 0, 0, 0, 0, 0, 0, 0, 0, 0]), .inr (5, [.ref 59, .ref 60, .ref 61, .ref 62, .ref 63, .ref 64, .ref 89, .ref 90, .int (-1), .ref 91, .ref 92, .ref 93, .ref 94, .ref 95]), .inl (0, .inl [0, 0, 0, 0, 0, 0, 0, 0, 0, 0, 0, 0, 0, 0, 0, 0, 0, 0, 0, 0, 0, 0, 0, 0]), .inl (0, .inl [0, 0, 0, 0, 0, 0, 0, 0, 0, 0, 0, 0, 0, 0, 0, 0, 0, 0, 0, 0, 0, 0, 0, 0]), .inl (0, .inl [0, 0, 0, 0, 0, 0, 0, 0, 0, 0, 0, 0, 0, 0, 0, 0, 0, 0, 0, 0, 0, 0, 0, 0]), .inl (0, .inl [0, 0, 0, 0, 0, 0, 0, 0, 0, 0, 0, 0, 0, 0, 0, 0, 0, 0, 0, 0, 0, 0, 0, 0]), .inl (0, .inl [0, 0, 0, 0, 0, 0, 0, 0, 0, 0, 0, 0, 0, 0, 0, 0, 0, 0, 0, 0, 0, 0, 0, 0]), .inl (4, .inr [some 65, some 66, some 67, some 68, some 69, some 70, some 71, some 72, some 73, some 74, some 75, some 76, some 77, some 78, some 79, some 80, some 81, some 82, some 83, some 84, some 85, some 86, some 87, some 88]), .inl (0, .inl [0, 0, 0, 0, 0, 0, 0, 0]), .inl (0, .inl [0, 0, 0, 0, 0, 0, 0, 0]), .inl (0, .inl [0, 0, 0, 0, 0, 0, 0, 0]), .inl (0, .inl [0, 0, 0, 0, 0, 0, 0, 0]), .inl (0, .inl [0, 0, 0, 0, 0, 0, 0, 0]), .inl (0, .inl [0, 0, 0, 0, 0, 0, 0, 0]), .inl (0, .inl [0, 0, 0, 0, 0, 0, 0, 0]), .inl (0, .inl [0, 0, 0, 0, 0, 0, 0, 0]), .inl (0, .inl [0, 0, 0, 0, 0, 0, 0, 0]), .inl (0, .inl [0, 0, 0, 0, 0, 0, 0, 0]), .inl (0, .inl [0, 0, 0, 0, 0, 0, 0, 0]), .inl (0, .inl [0, 0, 0, 0, 0, 0, 0, 0]), .inl (0, .inl [0, 0, 0, 0, 0, 0, 0, 0]), .inl (0, .inl [0, 0, 0, 0, 0, 0, 0, 0]), .inl (0, .inl [0, 0, 0, 0, 0, 0, 0, 0]), .inl (0, .inl [0, 0, 0, 0, 0, 0, 0, 0]), .inl (0, .inl [0, 0, 0, 0, 0, 0, 0, 0]), .inl (0, .inl [0, 0, 0, 0, 0, 0, 0, 0]), .inl (0, .inl [0, 0, 0, 0, 0, 0, 0, 0]), .inl (0, .inl [0, 0, 0, 0, 0, 0, 0, 0]), .inl (0, .inl [0, 0, 0, 0, 0, 0, 0, 0]), .inl (0, .inl [0, 0, 0, 0, 0, 0, 0, 0]), .inl (0, .inl [0, 0, 0, 0, 0, 0, 0, 0]), .inl (0, .inl [0, 0, 0, 0, 0, 0, 0, 0]), .inl (0, .inl [0, 0, 0, 0, 0, 0, 0, 0]), .inl (0, .inl [0, 0, 0, 0, 0, 0, 0, 0]), .inl (0, .inl [0, 0, 0, 0, 0, 0, 0, 0]), .inl (0, .inl [0, 0, 0, 0, 0, 0, 0, 0]), .inl (0, .inl [0, 0, 0, 0, 0, 0, 0, 0, 0, 0, 0, 0, 0, 0, 0, 0, 0, 0, 0, 0, 0, 0, 0, 0]), .inl (0, .inl [0, 0, 0, 0, 0, 0, 0, 0, 0, 0, 0, 0, 0, 0, 0, 0, 0, 0, 0, 0, 0, 0, 0, 0]), .inl (0, .inl [0, 0, 0, 0, 0, 0, 0, 0, 0, 0, 0, 0, 0, 0, 0, 0, 0, 0, 0, 0, 0, 0, 0, 0]), .inl (0, .inl [0, 0, 0, 0, 0, 0, 0, 0, 0, 0, 0, 0, 0, 0, 0, 0, 0, 0, 0, 0, 0, 0, 0, 0, 0, 0, 0, 0, 0, 0, 0, 0, 0, 0, 0, 0, 0, 0, 0, 0, 0, 0, 0, 0, 0, 0, 0, 0, 0, 0, 0, 0, 0, 0, 0, 0, 0, 0, 0, 0, 0, 0, 0, 0, 0, 0, 0, 0, 0, 0, 0, 0, 0, 0, 0, 0, 0, 0, 0, 0, 0, 0, 0, 0, 0, 0, 0, 0, 0, 0, 0, 0, 0, 0, 0, 0, 0, 0, 0, 0, 0, 0, 0, 0, 0, 0, 0, 0, 0, 0, 0, 0, 0, 0, 0, 0, 0, 0, 0, 0, 0, 0, 0, 0, 0, 0, 0, 0, 0, 0, 0, 0, 0, 0, 0, 0, 0, 0, 0, 0, 0, 0, 0, 0, 0, 0, 0, 0, 0, 0, 0, 0, 0, 0, 0, 0, 0, 0, 0, 0, 0, 0, 0, 0, 0, 0, 0, 0, 0, 0, 0, 0, 0, 0, 0, 0, 0, 0, 0, 0, 0, 0, 0, 0, 0, 0, 0, 0, 0, 0, 0, 0, 0, 0, 0, 0, 0, 0, 0, 0, 0, 0, 0, 0, 0, 0, 0, 0, 0, 0, 0, 0, 0, 0, 0, 0, 0, 0, 0, 0, 0, 0, 0, 0, 0, 0, 0, 0, 0, 0, 0, 0, 0, 0, 0, 0, 0, 0, 0, 0, 0, 0, 0, 0, 0, 0, 0, 0, 0, 0, 0, 0, 0, 0, 0, 0]), .inl (4, .inr [some 98, some 99, some 100, some 101, some 102, some 103, some 104, some 105, some 106, some 107]), .inl (0, .inl [0, 0, 0, 0, 0, 0, 0, 0, 0, 0, 0, 0, 0, 0, 0, 0, 0, 0, 0, 0, 0, 0, 0, 0]), .inl (0, .inl [0, 0, 0, 0, 0, 0, 0, 0, 0, 0, 0, 0, 0, 0, 0, 0, 0, 0, 0, 0, 0, 0, 0, 0]), .inl (0, .inl [0, 0, 0, 0, 0, 0, 0, 0, 0, 0, 0, 0, 0, 0, 0, 0, 0, 0, 0, 0, 0, 0, 0, 0]), .inl (0, .inl [0, 0, 0, 0, 0, 0, 0, 0, 0, 0, 0, 0, 0, 0, 0, 0, 0, 0, 0, 0, 0, 0, 0, 0]), .inl (0, .inl [0, 0, 0, 0, 0, 0, 0, 0, 0, 0, 0, 0, 0, 0, 0, 0, 0, 0, 0, 0, 0, 0, 0, 0]), .inl (0, .inl [0, 0, 0, 0, 0, 0, 0, 0, 0, 0, 0, 0, 0, 0, 0, 0, 0, 0, 0, 0, 0, 0, 0, 0]), .inl (0, .inl [0, 0, 0, 0, 0, 0, 0, 0, 0, 0, 0, 0, 0, 0, 0, 0, 0, 0, 0, 0, 0, 0, 0, 0]), .inl (0, .inl [0, 0, 0, 0, 0, 0, 0, 0, 0, 0, 0, 0, 0, 0, 0, 0, 0, 0, 0, 0, 0, 0, 0, 0]), .inl (0, .inl [0, 0, 0, 0, 0, 0, 0, 0, 0, 0, 0, 0, 0, 0, 0, 0, 0, 0, 0, 0, 0, 0, 0, 0]), .inl (0, .inl [0, 0, 0, 0, 0, 0, 0, 0, 0, 0, 0, 0, 0, 0, 0, 0, 0, 0, 0, 0, 0, 0, 0, 0]), .inl (0, .inl [0, 0, 0, 0, 0, 0, 0, 0, 0, 0, 0, 0, 0, 0, 0, 0, 0, 0, 0, 0, 0]), .inr (4, [.ref 110, .int 0]), .inl (0, .inl [0, 0, 0, 0, 0, 0, 0, 0, 0, 0, 0, 0, 0, 0, 0, 0, 0, 0, 0, 0, 0, 0, 0]), .inr (4, [.ref 112, .int 0]), .inl (0, .inl [0, 0, 0, 0, 0, 0, 0, 0, 0, 0, 0, 0, 0, 0, 0, 0, 0, 0, 0, 0, 0, 0, 0, 0]), .inr (4, [.ref 114, .int 0]), .inl (0, .inl [0, 0, 0, 0, 0, 0, 0, 0, 0, 0, 0, 0, 0, 0, 0, 0, 0, 0, 0, 0, 0, 0, 0, 0]), .inr (3, [.ref 116, .int 1, .int 0, .int 0]), .inl (0, .inl [0, 0, 0, 0, 0, 0, 0, 0, 0, 0, 0, 0, 0, 0, 0, 0, 0, 0, 0, 0, 0, 0, 0, 0, 0, 0, 0, 0, 0, 0, 0, 0, 0, 0, 0, 0, 0, 0, 0, 0, 0, 0, 0, 0, 0, 0, 0, 0, 0, 0, 0, 0, 0, 0, 0, 0, 0, 0, 0, 0]), .inr (3, [.ref 118, .int 1, .int 0, .int 0]), .inl (0, .inl [0, 0, 0, 0, 0, 0, 0, 0, 0, 0, 0, 0, 0, 0, 0, 0, 0, 0, 0, 0, 0, 0, 0, 0, 0, 0, 0, 0, 0, 0, 0, 0, 0, 0, 0, 0, 0, 0, 0, 0, 0, 0, 0, 0, 0, 0, 0, 0, 0, 0, 0, 0, 0, 0, 0, 0, 0, 0, 0, 0]), .inr (3, [.ref 120, .int 1, .int 0, .int 0]), .inl (0, .inl [0, 0, 0, 0, 0, 0, 0, 0, 0, 0, 0, 0, 0, 0, 0, 0, 0, 0, 0, 0, 0, 0, 0, 0, 0, 0, 0, 0, 0, 0, 0, 0, 0, 0, 0, 0, 0, 0, 0, 0, 0, 0, 0, 0, 0, 0, 0, 0, 0, 0, 0, 0, 0, 0, 0, 0, 0, 0, 0, 0]), .inr (3, [.ref 122, .int 1, .int 0, .int 0]), .inl (0, .inl [0, 0, 0, 0, 0, 0, 0, 0, 0, 0, 0, 0, 0, 0, 0, 0, 0, 0, 0, 0, 0, 0, 0, 0, 0, 0, 0, 0, 0, 0, 0, 0, 0, 0, 0, 0, 0, 0, 0, 0, 0, 0, 0, 0, 0, 0, 0, 0, 0, 0, 0, 0, 0, 0, 0, 0, 0, 0, 0, 0]), .inr (7, [.ref 124, .ref 125, .int 0, .ref 126, .ref 127, .int 0, .ref 128, .int 0, .ref 129, .int 3, .int 300, .int 0, .ref 130, .ref 131, .ref 132, .ref 133, .ref 134, .int 0, .ref 135, .int 0, .int 0, .int 0, .int 0, .int 0, .int 0, .int 0, .int 0, .int 0, .ref 136, .ref 137, .ref 138, .ref 139, .ref 140, .ref 141, .ref 142, .ref 143, .ref 144, .int 0, .ref 145, .ref 146, .ref 147, .ref 148, .ref 149, .ref 150, .ref 151, .ref 152, .int 0]), .inl (0, .inl [0, 0, 0]), .inl (0, .inl [0, 0, 0, 0, 0, 0, 0, 0, 0, 0, 0, 0, 0, 0, 0, 0, 0, 0, 0, 0, 0, 0, 0, 0, 0, 0, 0, 0, 0, 0, 0, 0, 0, 0, 0, 0, 0, 0, 0, 0, 0, 0, 0, 0, 0, 0, 0, 0, 0, 0, 0, 0, 0, 0, 0, 0, 0, 0, 0, 0, 0, 0, 0, 0, 0, 0, 0, 0, 0, 0, 0, 0]), .inl (0, .inl [0, 0, 0, 0, 0, 0, 0, 0, 0]), .inl (0, .inl [0, 0, 0, 0, 0, 0, 0, 0, 0]), .inl (0, .inl [0, 0, 0, 0, 0, 0, 0, 0, 0, 0, 0, 0, 0, 0, 0, 0, 0, 0, 0, 0, 0, 0, 0, 0]), .inl (0, .inl [0, 0, 0, 0, 0, 0, 0, 0, 0, 0, 0, 0, 0, 0, 0, 0, 0, 0, 0, 0, 0, 0, 0, 0]), .inl (0, .inl [0, 0, 0, 0, 0, 0, 0, 0]), .inl (0, .inl [0, 0, 0, 0, 0, 0, 0, 0]), .inl (0, .inl [0, 0, 0, 0, 0, 0, 0, 0]), .inl (0, .inl [0, 0, 0, 0, 0, 0, 0, 0, 0, 0, 0, 0, 0, 0, 0, 0, 0, 0, 0, 0, 0, 0, 0, 0]), .inl (0, .inl [0, 0, 0, 0, 0, 0, 0, 0, 0, 0, 0, 0, 0, 0, 0, 0, 0, 0, 0, 0, 0, 0, 0, 0]), .inl (0, .inl [0, 0, 0, 0, 0, 0, 0, 0]), .inl (0, .inl [0, 0]), .inl (0, .inl [0, 0, 0, 0, 0, 0, 0, 0]), .inl (0, .inl [0, 0, 0, 0, 0, 0, 0, 0]), .inl (0, .inl [0, 0, 0, 0, 0, 0, 0, 0, 0, 0, 0, 0, 0, 0, 0, 0, 0, 0, 0, 0, 0, 0, 0, 0]), .inl (0, .inl [0, 0, 0, 0, 0, 0, 0, 0, 0, 0, 0, 0, 0, 0, 0, 0, 0, 0, 0, 0, 0, 0, 0, 0]), .inl (0, .inl [0, 0, 0, 0, 0, 0, 0, 0, 0, 0, 0, 0, 0, 0, 0, 0, 0, 0, 0, 0, 0, 0, 0, 0, 0, 0, 0, 0, 0, 0, 0, 0, 0, 0, 0, 0, 0, 0, 0, 0, 0, 0, 0, 0, 0, 0, 0, 0]), .inl (0, .inl [0, 0, 0, 0, 0, 0, 0, 0, 0, 0, 0, 0, 0, 0, 0, 0, 0, 0, 0, 0, 0, 0, 0, 0]), .inl (0, .inl [0, 0, 0, 0, 0, 0, 0, 0, 0, 0, 0, 0, 0, 0, 0, 0, 0, 0, 0, 0, 0, 0, 0, 0, 0, 0, 0, 0, 0, 0, 0, 0, 0, 0, 0, 0, 0, 0, 0, 0, 0, 0, 0, 0, 0, 0, 0, 0, 0, 0, 0, 0, 0, 0, 0, 0, 0, 0, 0, 0, 0, 0, 0, 0, 0, 0, 0, 0, 0, 0, 0, 0, 0, 0, 0, 0, 0, 0, 0, 0, 0, 0, 0, 0, 0, 0, 0, 0, 0, 0, 0, 0, 0, 0, 0, 0, 0, 0, 0, 0, 0, 0, 0, 0, 0, 0, 0, 0, 0, 0, 0, 0, 0, 0, 0, 0, 0, 0, 0, 0, 0, 0, 0, 0, 0, 0, 0, 0, 0, 0, 0, 0, 0, 0, 0, 0, 0, 0, 0, 0, 0, 0, 0, 0, 0, 0, 0, 0, 0, 0, 0, 0, 0, 0, 0, 0, 0, 0, 0, 0, 0, 0, 0, 0, 0, 0, 0, 0, 0, 0, 0, 0, 0, 0, 0, 0, 0, 0, 0, 0, 0, 0, 0, 0, 0, 0, 0, 0, 0, 0, 0, 0]), .inl (0, .inl [0, 0]), .inl (0, .inl [0, 0, 0, 0, 0, 0, 0, 0]), .inl (0, .inl [0, 0, 0, 0, 0, 0, 0, 0]), .inl (0, .inl [0, 0, 0, 0, 0, 0, 0, 0, 0, 0, 0, 0, 0, 0, 0, 0, 0, 0, 0, 0, 0, 0, 0, 0, 0, 0, 0, 0, 0, 0, 0, 0, 0, 0, 0, 0, 0, 0, 0, 0, 0, 0, 0, 0, 0, 0, 0, 0, 0, 0, 0, 0, 0, 0, 0, 0, 0, 0, 0, 0, 0, 0, 0, 0, 0, 0, 0, 0, 0, 0, 0, 0, 0, 0, 0, 0, 0, 0, 0, 0, 0, 0, 0, 0, 0, 0, 0, 0, 0, 0, 0, 0, 0, 0, 0, 0, 0, 0, 0, 0, 0, 0, 0, 0, 0, 0, 0, 0, 0, 0, 0, 0, 0, 0, 0, 0, 0, 0, 0, 0, 0, 0, 0, 0, 0, 0, 0, 0, 0, 0, 0, 0, 0, 0, 0, 0, 0, 0, 0, 0, 0, 0, 0, 0, 0, 0, 0, 0, 0, 0, 0, 0, 0, 0, 0, 0, 0, 0, 0, 0, 0, 0, 0, 0, 0, 0, 0, 0, 0, 0, 0, 0, 0, 0, 0, 0, 0, 0, 0, 0, 0, 0, 0, 0, 0, 0, 0, 0, 0, 0, 0, 0, 0, 0, 0, 0, 0, 0, 0, 0, 0, 0, 0, 0, 0, 0, 0, 0, 0, 0, 0, 0, 0, 0, 0, 0, 0, 0, 0, 0, 0, 0, 0, 0, 0, 0, 0, 0, 0, 0, 0, 0, 0, 0, 0, 0, 0, 0, 0, 0]), .inl (1, .inl [0, 0, 0, 0]), .inl (0, .inl [0, 0, 0, 0]), .inl (0, .inl [0, 0, 0, 0]), .inl (0, .inl [0, 0, 0, 0, 0, 0, 0, 0, 0, 0, 0, 0, 0, 0, 0, 0, 0, 0, 0, 0, 0, 0, 0, 0, 0, 0, 0, 0, 0, 0, 0, 0, 0, 0, 0, 0, 0, 0, 0, 0, 0, 0, 0, 0, 0, 0, 0, 0, 0, 0, 0, 0, 0, 0, 0, 0, 0, 0, 0, 0, 0, 0, 0, 0, 0, 0, 0, 0, 0, 0, 0, 0, 0, 0, 0, 0, 0, 0, 0, 0, 0, 0, 0, 0, 0, 0, 0, 0, 0, 0, 0, 0, 0, 0, 0, 0, 0, 0, 0, 0, 0, 0, 0, 0, 0, 0, 0, 0, 0, 0, 0, 0, 0, 0, 0, 0, 0, 0, 0, 0, 0, 0, 0, 0, 0, 0, 0, 0, 0, 0, 0, 0, 0, 0, 0, 0, 0, 0, 0, 0, 0, 0, 0, 0, 0, 0, 0, 0, 0, 0, 0, 0, 0, 0, 0, 0, 0, 0, 0, 0, 0, 0, 0, 0, 0, 0, 0, 0, 0, 0, 0, 0, 0, 0, 0, 0, 0, 0, 0, 0, 0, 0, 0, 0, 0, 0, 0, 0, 0, 0, 0, 0, 0, 0, 0, 0, 0, 0, 0, 0, 0, 0, 0, 0, 0, 0, 0, 0, 0, 0, 0, 0, 0, 0, 0, 0, 0, 0, 0, 0, 0, 0, 0, 0, 0, 0, 0, 0, 0, 0, 0, 0, 0, 0, 0, 0, 0, 0, 0, 0]), .inl (0, .inl [0, 0, 0, 0, 0, 0, 0, 0, 0, 0, 0, 0, 0, 0, 0, 0, 0, 0, 0, 0, 0, 0, 0, 0, 0, 0, 0, 0, 0, 0, 0, 0, 0, 0, 0, 0, 0, 0, 0, 0, 0, 0, 0, 0, 0, 0, 0, 0, 0, 0, 0, 0, 0, 0, 0, 0, 0, 0, 0, 0])]
set_option maxRecDepth 100000 in
theorem fr_x : isRun (mrun m_tab [] 6000 false m_X6_init 0 (m_ent (mx m_X6_init) [.ref 0]) [] [.inr (6, m_dfl.getD 6 [])]) (h0.take 123) = true := by decide +kernel
set_option maxRecDepth 100000 in
theorem fr_m : isRun (mrun m_tab [] 6000 false m_X7_init 0 (m_ent (mx m_X7_init) [.ref 123]) [] (h0.take 123 ++ [.inr (7, m_dfl.getD 7 [])])) h0 = true := by decide +kernel
def gFb (f : AF) (v : Value) : Bool := match f, v with
  | .inl r, .ref q => decide (q = r)
  | .inr (lo, hi, _), .int x => decide (lo ≤ x.toInt) && decide (x.toInt ≤ hi)
  | _, _ => false
theorem gFb_ok {f : AF} {v : Value} (h : gFb f v = true) : gF f v := by
  unfold gFb at h
  split at h
  · rw [of_decide_eq_true h]
    rfl
  · obtain ⟨h1, h2⟩ := b_and h
    exact ⟨_, rfl, of_decide_eq_true h1, of_decide_eq_true h2⟩
  · cases h
def gFs : List AF → List Value → Bool
  | [], [] => true
  | a :: as, b :: bs => gFb a b && gFs as bs
  | _, _ => false
theorem gFs_ok : ∀ {fs : List AF} {vs : List Value}, gFs fs vs = true → vs.length = fs.length ∧ ∀ (k : Nat) (f : AF), fs[k]? = some f → ∃ v, vs[k]? = some v ∧ gF f v
  | [], [], _ => ⟨rfl, fun k f h => by simp at h⟩
  | a :: as, b :: bs, h => by
    obtain ⟨h1, h2⟩ := b_and h
    obtain ⟨e, ih⟩ := gFs_ok h2
    refine ⟨by simp [e], fun k f hf => ?_⟩
    cases k with
    | zero => cases hf; exact ⟨b, rfl, gFb_ok h1⟩
    | succ k => exact ih k f (by simpa using hf)
  | [], _ :: _, h => by cases h
  | _ :: _, [], h => by cases h
def gCb (c : AC) (x : ME) : Bool := match c, x with
  | .inl (t, n, lo, hi, _), .inl (u, .inl l) => decide (u = t) && (decide (l.length = n) && l.all (fun z => decide (lo ≤ z.toInt) && decide (z.toInt ≤ hi)))
  | .inr (.inl (99, _)), _ => true
  | .inr (.inl (t, rs)), .inl (u, .inr l) => decide (u = t) && decide (l = rs.map some)
  | .inr (.inr (ci, fs)), .inr (c, vs) => decide (c = ci) && gFs fs vs
  | _, _ => false
theorem gCb_ok {c : AC} {x : ME} (h : gCb c x = true) : gC c x := by
  unfold gCb at h
  split at h
  · obtain ⟨h1, h2⟩ := b_and h
    obtain ⟨h2, h3⟩ := b_and h2
    rw [of_decide_eq_true h1]
    refine ⟨_, rfl, of_decide_eq_true h2, fun z hz => ?_⟩
    obtain ⟨h4, h5⟩ := b_and (List.all_eq_true.mp h3 z hz)
    exact ⟨of_decide_eq_true h4, of_decide_eq_true h5⟩
  · exact Or.inl rfl
  · obtain ⟨h1, h2⟩ := b_and h
    rw [of_decide_eq_true h1, of_decide_eq_true h2]
    exact Or.inr rfl
  · obtain ⟨h1, h2⟩ := b_and h
    obtain ⟨e, g⟩ := gFs_ok h2
    rw [of_decide_eq_true h1]
    exact ⟨_, rfl, e, g⟩
  · cases h
def gHb : AH → MH → Bool
  | [], [] => true
  | a :: as, b :: bs => gCb a b && gHb as bs
  | _, _ => false
theorem gHb_ok : ∀ {H : AH} {h : MH}, gHb H h = true → gH H h
  | [], [], _ => ⟨rfl, fun a c h => by simp at h⟩
  | c0 :: as, b :: bs, h => by
    obtain ⟨h1, h2⟩ := b_and h
    have ih := gHb_ok h2
    refine ⟨by simp [ih.1], fun a c hc => ?_⟩
    cases a with
    | zero => cases hc; exact ⟨b, rfl, gCb_ok h1⟩
    | succ a => exact ih.2 a c (by simpa using hc)
  | [], _ :: _, h => by cases h
  | _ :: _, [], h => by cases h
theorem g0_C : gH HCs h0 := gHb_ok (by decide +kernel)
theorem g0_M : gH HMs h0 := gHb_ok (by decide +kernel)
theorem h0_len : h0.length = 153 := by decide +kernel
