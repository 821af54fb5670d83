/-! AN ABSTRACT INTERPRETER: ints as ranges (lo, hi; and 'local k of the segment's start + d'), exact references, a fixed abstract heap. -/
abbrev AV : Type := (Int × Int × Option (Nat × Int)) ⊕ (List Nat ⊕ Nat)
abbrev AL : Type := List (Option AV)
abbrev AF : Type := Nat ⊕ (Int × Int × Bool)
/-- an int array (kind, length, range, frozen); an array of references, or (kind 99) whatever it is: frozen; an object -/
abbrev AC : Type := (Nat × Nat × Int × Int × Bool) ⊕ ((Nat × List Nat) ⊕ (Nat × List AF))
abbrev AH : Type := List AC
abbrev AO : Type := List (Nat × AL × List AV) ⊕ ((Nat × List AV × List AV) ⊕ Option AV)
def gV (s : ML) (a : AV) (v : Value) : Prop := match a with
  | .inl (lo, hi, rel) => ∃ x : Int32, v = .int x ∧ lo ≤ x.toInt ∧ x.toInt ≤ hi ∧ ∀ k d, rel = some (k, d) → ∃ y : Int32, s[k]? = some (some (.int y)) ∧ x.toInt = y.toInt + d
  | .inr (.inl rs) => ∃ r, v = .ref r ∧ r ∈ rs
  | .inr (.inr nz) => ∃ x : Int64, v = .long x ∧ (1 ≤ nz → ¬ x = 0) ∧ (nz = 2 → x = 1)
def gS (s : ML) : List AV → List Value → Prop
  | [], [] => True
  | a :: as, v :: vs => gV s a v ∧ gS s as vs
  | _, _ => False
def gL (s : ML) (A : AL) (L : ML) : Prop := A.length = L.length ∧ ∀ (k : Nat) (a : AV), A[k]? = some (some a) → ∃ v, L[k]? = some (some v) ∧ gV s a v
def gF (f : AF) (v : Value) : Prop := match f with
  | .inl r => v = .ref r
  | .inr (lo, hi, _) => ∃ x : Int32, v = .int x ∧ lo ≤ x.toInt ∧ x.toInt ≤ hi
def gC (c : AC) (x : ME) : Prop := match c with
  | .inl (t, n, lo, hi, _) => ∃ l, x = .inl (t, .inl l) ∧ l.length = n ∧ ∀ z ∈ l, lo ≤ z.toInt ∧ z.toInt ≤ hi
  | .inr (.inl (t, rs)) => t = 99 ∨ x = .inl (t, .inr (rs.map some))
  | .inr (.inr (ci, fs)) => ∃ vs, x = .inr (ci, vs) ∧ vs.length = fs.length ∧ ∀ (k : Nat) (f : AF), fs[k]? = some f → ∃ v, vs[k]? = some v ∧ gF f v
def gH (H : AH) (h : MH) : Prop := H.length = h.length ∧ ∀ (a : Nat) (c : AC), H[a]? = some c → ∃ x, h[a]? = some x ∧ gC c x
def fC (c : AC) (x y : ME) : Prop := match c with
  | .inl (_, _, _, _, fz) => fz = true → y = x
  | .inr (.inl _) => y = x
  | .inr (.inr (_, fs)) => ∀ (ci : Nat) (vs : List Value), x = .inr (ci, vs) → ∃ ws, y = .inr (ci, ws) ∧ ∀ (k : Nat) (f : AF), fs[k]? = some f → (∀ lo hi, f ≠ .inr (lo, hi, false)) → ws[k]? = vs[k]?
def fH (H : AH) (h h1 : MH) : Prop := ∀ (a : Nat) (c : AC) (x y : ME), H[a]? = some c → h[a]? = some x → h1[a]? = some y → fC c x y
theorem fC.rf (c : AC) (x : ME) : fC c x x := by
  obtain ⟨_, _, _, _, _⟩ | ⟨_, _⟩ | ⟨_, _⟩ := c
  · exact fun _ => rfl
  · exact rfl
  · exact fun ci vs h => ⟨vs, h, fun _ _ _ _ => rfl⟩
theorem fC.tr {c : AC} {x y z : ME} (h1 : fC c x y) (h2 : fC c y z) : fC c x z := by
  obtain ⟨_, _, _, _, fz⟩ | ⟨_, _⟩ | ⟨_, fs⟩ := c
  · exact fun q => (h2 q).trans (h1 q)
  · exact Eq.trans h2 h1
  · intro ci vs hx
    obtain ⟨ws, hy, g1⟩ := h1 ci vs hx
    obtain ⟨us, hz, g2⟩ := h2 ci ws hy
    exact ⟨us, hz, fun k f hf hn => (g2 k f hf hn).trans (g1 k f hf hn)⟩
theorem fH.rf (H : AH) (h : MH) : fH H h h := fun a c x y _ hx hy => by
  rw [hx] at hy
  cases hy
  exact fC.rf c x
theorem fH.tr {H : AH} {h h1 h2 : MH} (g1 : gH H h1) (f1 : fH H h h1) (f2 : fH H h1 h2) : fH H h h2 := fun a c x z ha hx hz => by
  obtain ⟨y, hy, -⟩ := g1.2 a c ha
  exact (f1 a c x y ha hx hy).tr (f2 a c y z ha hy hz)
/-- one cell written -/
theorem gH.set {H : AH} {h : MH} {a : Nat} {c : AC} {x y : ME} (g : gH H h) (ha : H[a]? = some c) (hx : h[a]? = some x) (hc : gC c y) (hf : fC c x y) : gH H (h.set a y) ∧ fH H h (h.set a y) := by
  have hl : a < h.length := (List.getElem?_eq_some_iff.mp hx).1
  refine ⟨⟨by rw [List.length_set]; exact g.1, fun a2 c2 h2 => ?_⟩, fun a2 c2 x2 y2 h2 hx2 hy2 => ?_⟩
  · by_cases e : a = a2
    · subst e
      rw [ha] at h2
      cases h2
      exact ⟨y, List.getElem?_set_self hl, hc⟩
    · rw [List.getElem?_set_ne e]
      exact g.2 a2 c2 h2
  · by_cases e : a = a2
    · subst e
      rw [ha] at h2
      cases h2
      rw [hx] at hx2
      cases hx2
      rw [List.getElem?_set_self hl] at hy2
      cases hy2
      exact hf
    · rw [List.getElem?_set_ne e, hx2] at hy2
      cases hy2
      exact fC.rf c2 x2
def aTop : AV := .inl (-2147483648, 2147483647, none)
theorem i32_ge (x : Int32) : (-2147483648 : Int) ≤ x.toInt := by have := Int32.le_toInt x; simpa using this
theorem i32_le (x : Int32) : x.toInt ≤ (2147483647 : Int) := by
  have h1 := Int32.toInt_le x
  have h2 : Int32.maxValue.toInt = 2147483647 := by decide
  omega
theorem gV_top (s : ML) (x : Int32) : gV s aTop (.int x) := ⟨x, rfl, i32_ge x, i32_le x, fun _ _ h => by cases h⟩
def aC (x : Int32) : AV := .inl (x.toInt, x.toInt, none)
theorem gV_c (s : ML) (x : Int32) : gV s (aC x) (.int x) := ⟨x, rfl, Int.le_refl _, Int.le_refl _, fun _ _ h => by cases h⟩
def a_rng (lo hi : Int) (rel : Option (Nat × Int)) : AV := if -2147483648 ≤ lo ∧ hi ≤ 2147483647 then .inl (lo, hi, rel) else aTop
def a_sh (lo1 hi1 lo2 hi2 : Int) (r1 r2 : Option (Nat × Int)) : Option (Nat × Int) := if lo2 = hi2 then r1.map (fun q => (q.1, q.2 + lo2)) else if lo1 = hi1 then r2.map (fun q => (q.1, q.2 + lo1)) else none
theorem i32_add {x y : Int32} (h1 : (-2147483648 : Int) ≤ x.toInt + y.toInt) (h2 : x.toInt + y.toInt ≤ 2147483647) : (x + y).toInt = x.toInt + y.toInt := by
  rw [Int32.toInt_add]
  exact Int.bmod_eq_of_le (by simpa using h1) (by omega)
theorem i32_sub {x y : Int32} (h1 : (-2147483648 : Int) ≤ x.toInt - y.toInt) (h2 : x.toInt - y.toInt ≤ 2147483647) : (x - y).toInt = x.toInt - y.toInt := by
  rw [Int32.toInt_sub]
  exact Int.bmod_eq_of_le (by simpa using h1) (by omega)
theorem i32_mul {x y : Int32} (h1 : (-2147483648 : Int) ≤ x.toInt * y.toInt) (h2 : x.toInt * y.toInt ≤ 2147483647) : (x * y).toInt = x.toInt * y.toInt := by
  rw [Int32.toInt_mul]
  exact Int.bmod_eq_of_le (by simpa using h1) (by omega)
def f_add (a b : Int × Int × Option (Nat × Int)) : AV := a_rng (a.1 + b.1) (a.2.1 + b.2.1) (a_sh a.1 a.2.1 b.1 b.2.1 a.2.2 b.2.2)
def f_sub (a b : Int × Int × Option (Nat × Int)) : AV := a_rng (a.1 - b.2.1) (a.2.1 - b.1) (if b.1 = b.2.1 then a.2.2.map (fun q => (q.1, q.2 - b.1)) else none)
def f_mul (a b : Int × Int × Option (Nat × Int)) : AV := if 0 ≤ a.1 ∧ 0 ≤ b.1 ∧ a.2.1 * b.2.1 ≤ 2147483647 then .inl (0, a.2.1 * b.2.1, none) else aTop
def f_and (a b : Int × Int × Option (Nat × Int)) : AV := aTop
def f_shl (a b : Int × Int × Option (Nat × Int)) : AV := if a.1 = 1 ∧ a.2.1 = 1 ∧ 0 ≤ b.1 ∧ b.2.1 ≤ 8 then .inl (1, 256, none) else aTop
def f_div (a b : Int × Int × Option (Nat × Int)) : AV := if 0 ≤ a.1 ∧ 0 < b.1 ∧ b.1 = b.2.1 then .inl (0, a.2.1 / b.1, none) else aTop
def f_rem (a b : Int × Int × Option (Nat × Int)) : AV := if 0 ≤ a.1 ∧ 0 < b.1 then .inl (0, b.2.1 - 1, none) else aTop
def okII (f : (Int × Int × Option (Nat × Int)) → (Int × Int × Option (Nat × Int)) → AV) (g : Int32 → Int32 → Int32) : Prop := ∀ (s : ML) (a b : Int × Int × Option (Nat × Int)) (x y : Int32), gV s (.inl a) (.int x) → gV s (.inl b) (.int y) → gV s (f a b) (.int (g x y))
theorem ok_add : okII f_add (fun x y => x + y) := by
  intro s ⟨lo1, hi1, r1⟩ ⟨lo2, hi2, r2⟩ x y ⟨x', e1, a1, a2, a3⟩ ⟨y', e2, b1, b2, b3⟩
  cases e1
  cases e2
  unfold f_add a_rng
  dsimp only
  split
  · rename_i hc
    have hs := i32_add (x := x) (y := y) (by omega) (by omega)
    refine ⟨x + y, rfl, by omega, by omega, fun k d hr => ?_⟩
    unfold a_sh at hr
    split at hr
    · rename_i hc2
      cases r1 with
      | none => cases hr
      | some q =>
        obtain ⟨k1, d1⟩ := q
        cases hr
        obtain ⟨z, z1, z2⟩ := a3 _ _ rfl
        exact ⟨z, z1, by dsimp only; omega⟩
    · split at hr
      · cases r2 with
        | none => cases hr
        | some q =>
          obtain ⟨k1, d1⟩ := q
          cases hr
          obtain ⟨z, z1, z2⟩ := b3 _ _ rfl
          exact ⟨z, z1, by dsimp only; omega⟩
      · cases hr
  · exact gV_top s _
theorem ok_sub : okII f_sub (fun x y => x - y) := by
  intro s ⟨lo1, hi1, r1⟩ ⟨lo2, hi2, r2⟩ x y ⟨x', e1, a1, a2, a3⟩ ⟨y', e2, b1, b2, b3⟩
  cases e1
  cases e2
  unfold f_sub a_rng
  dsimp only
  split
  · rename_i hc
    have hs := i32_sub (x := x) (y := y) (by omega) (by omega)
    refine ⟨x - y, rfl, by omega, by omega, fun k d hr => ?_⟩
    split at hr
    · cases r1 with
      | none => cases hr
      | some q =>
        obtain ⟨k1, d1⟩ := q
        cases hr
        obtain ⟨z, z1, z2⟩ := a3 _ _ rfl
        exact ⟨z, z1, by dsimp only; omega⟩
    · cases hr
  · exact gV_top s _
theorem ok_mul : okII f_mul (fun x y => x * y) := by
  intro s ⟨lo1, hi1, r1⟩ ⟨lo2, hi2, r2⟩ x y ⟨x', e1, a1, a2, a3⟩ ⟨y', e2, b1, b2, b3⟩
  cases e1
  cases e2
  unfold f_mul
  dsimp only
  split
  · rename_i hc
    obtain ⟨c1, c2, c3⟩ := hc
    have p0 : 0 ≤ x.toInt * y.toInt := Int.mul_nonneg (by omega) (by omega)
    have p1 : x.toInt * y.toInt ≤ hi1 * hi2 := Int.mul_le_mul a2 b2 (by omega) (by omega)
    have hs := i32_mul (x := x) (y := y) (by omega) (by omega)
    exact ⟨x * y, rfl, by rw [hs]; exact p0, by rw [hs]; exact p1, fun k d hr => by cases hr⟩
  · exact gV_top s _
theorem ok_top (g : Int32 → Int32 → Int32) : okII f_and g := fun s _ _ _ _ _ _ => gV_top s _
theorem ok_shl : okII f_shl (fun x y => x <<< (y &&& 31)) := by
  intro s ⟨lo1, hi1, r1⟩ ⟨lo2, hi2, r2⟩ x y ⟨x', e1, a1, a2, a3⟩ ⟨y', e2, b1, b2, b3⟩
  cases e1
  cases e2
  unfold f_shl
  dsimp only
  split
  · rename_i hc
    obtain ⟨c1, c2, c3, c4⟩ := hc
    have hx : x = 1 := Int32.toInt_inj.mp (by show x.toInt = 1; omega)
    subst hx
    have hy : y = 0 ∨ y = 1 ∨ y = 2 ∨ y = 3 ∨ y = 4 ∨ y = 5 ∨ y = 6 ∨ y = 7 ∨ y = 8 := by
      have : y.toInt = 0 ∨ y.toInt = 1 ∨ y.toInt = 2 ∨ y.toInt = 3 ∨ y.toInt = 4 ∨ y.toInt = 5 ∨ y.toInt = 6 ∨ y.toInt = 7 ∨ y.toInt = 8 := by omega
      rcases this with h | h | h | h | h | h | h | h | h
      · exact Or.inl (Int32.toInt_inj.mp h)
      · exact Or.inr (Or.inl (Int32.toInt_inj.mp h))
      · exact Or.inr (Or.inr (Or.inl (Int32.toInt_inj.mp h)))
      · exact Or.inr (Or.inr (Or.inr (Or.inl (Int32.toInt_inj.mp h))))
      · exact Or.inr (Or.inr (Or.inr (Or.inr (Or.inl (Int32.toInt_inj.mp h)))))
      · exact Or.inr (Or.inr (Or.inr (Or.inr (Or.inr (Or.inl (Int32.toInt_inj.mp h))))))
      · exact Or.inr (Or.inr (Or.inr (Or.inr (Or.inr (Or.inr (Or.inl (Int32.toInt_inj.mp h)))))))
      · exact Or.inr (Or.inr (Or.inr (Or.inr (Or.inr (Or.inr (Or.inr (Or.inl (Int32.toInt_inj.mp h))))))))
      · exact Or.inr (Or.inr (Or.inr (Or.inr (Or.inr (Or.inr (Or.inr (Or.inr (Int32.toInt_inj.mp h))))))))
    refine ⟨_, rfl, ?_, ?_, fun k d hr => by cases hr⟩
    · rcases hy with rfl | rfl | rfl | rfl | rfl | rfl | rfl | rfl | rfl <;> decide
    · rcases hy with rfl | rfl | rfl | rfl | rfl | rfl | rfl | rfl | rfl <;> decide
  · exact gV_top s _
