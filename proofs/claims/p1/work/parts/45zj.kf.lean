/-! WHAT BOTH SIDES KEEP ALIKE: texts and the told course -/
abbrev LW : Type := List (Nat × Nat × Option Nat)
def Ag (D : LW) (s s1 : SG) : Prop := ∀ a j, inW D a j = true → s1 a j = s a j
def djW (W D : LW) : Bool := W.all (fun w => D.all (fun d => Nat.blt w.2.1 d.1 || (Nat.blt d.2.1 w.1 || (match w.2.2, d.2.2 with | some k, some j => !(k == j) | _, _ => false))))
theorem Fr.ag {W : LW} {s s1 : SG} (f : Fr W s s1) (D : LW) (h : djW W D = true) : Ag D s s1 := fun a j hj => f a j (by
  cases q : inW W a j with
  | false => rfl
  | true =>
    exfalso
    obtain ⟨⟨lo, hi, p⟩, w1, w2⟩ := List.any_eq_true.mp q
    obtain ⟨⟨lo2, hi2, p2⟩, d1, d2⟩ := List.any_eq_true.mp hj
    have k := List.all_eq_true.mp (List.all_eq_true.mp h _ w1) _ d1
    obtain ⟨a1, c⟩ := b_and w2
    obtain ⟨a2, e⟩ := b_and c
    obtain ⟨a3, c2⟩ := b_and d2
    obtain ⟨a4, e2⟩ := b_and c2
    have a1 : lo ≤ a := Nat.ble_eq.mp a1
    have a2 : a ≤ hi := Nat.ble_eq.mp a2
    have a3 : lo2 ≤ a := Nat.ble_eq.mp a3
    have a4 : a ≤ hi2 := Nat.ble_eq.mp a4
    rcases (Bool.or_eq_true _ _).mp k with k | k
    · have k : hi < lo2 := by simpa [Nat.blt_eq] using k
      omega
    · rcases (Bool.or_eq_true _ _).mp k with k | k
      · have k : hi2 < lo := by simpa [Nat.blt_eq] using k
        omega
      · cases p with
        | none => cases k
        | some x =>
          cases p2 with
          | none => cases k
          | some y =>
            have e : x = j := by simpa using e
            have e2 : y = j := by simpa using e2
            subst e
            subst e2
            simp at k)
theorem Ag.tr {D : LW} {s s1 s2 : SG} (a : Ag D s s1) (b : Ag D s1 s2) : Ag D s s2 := fun x j h => (b x j h).trans (a x j h)
theorem Ag.rf (D : LW) (s : SG) : Ag D s s := fun _ _ _ => rfl
theorem Ag.cell {D : LW} {s s1 : SG} (a : Ag D s s1) (c : Nat) (h : ∀ j, inW D c j = true) : s1 c = s c := funext (fun j => a c j (h j))
def DT : LW := [(109, 114, none), (124, 125, none)]
def KU (s : SG) : Prop := KT s ∧ 0 ≤ (s 124 1).toInt ∧ 0 ≤ (s 124 2).toInt
theorem KU.ag {s s1 : SG} (a : Ag DT s s1) (h : KU s) : KU s1 := by
  unfold KU KT lnM at *
  rw [a.cell 124 (fun _ => rfl), a.cell 125 (fun _ => rfl), a.cell 109 (fun _ => rfl), a.cell 110 (fun _ => rfl), a.cell 111 (fun _ => rfl), a.cell 112 (fun _ => rfl), a.cell 113 (fun _ => rfl), a.cell 114 (fun _ => rfl)]
  exact h
/-- the told course is what the class's texts say -/
def KC0 (s : SG) : Prop := (∃ x, CrS (s 109 1).toNatClampNeg (s 110) x ∧ s 10 0 = rowN (s 109 1) x) ∧ ∀ k, k < (s 10 0).toNatClampNeg → s 11 k = srtV (s 110 (3 * k)) ∧ s 12 k = s 110 (3 * k + 1) - 48
def KC1 (s : SG) : Prop := ∀ t, t < 24 → s 13 t = ratS (s 111 1) (s 112) t
def KC2 (s : SG) : Prop := ∀ t, t < 24 → s 14 t = rudS (s 113 1) (s 114) t
def KC (s : SG) : Prop := KC0 s ∧ KC1 s ∧ KC2 s
def DC0 : LW := [(10, 10, some 0), (11, 12, none), (109, 110, none)]
def DC1 : LW := [(13, 13, none), (111, 112, none)]
def DC2 : LW := [(14, 14, none), (113, 114, none)]
def DC : LW := [(10, 10, some 0), (11, 14, none), (109, 114, none)]
theorem KC0.ag {s s1 : SG} (a : Ag DC0 s s1) (h : KC0 s) : KC0 s1 := by
  unfold KC0 at *
  rw [a.cell 109 (fun _ => rfl), a.cell 110 (fun _ => rfl), a.cell 11 (fun _ => rfl), a.cell 12 (fun _ => rfl), a 10 0 rfl]
  exact h
theorem KC1.ag {s s1 : SG} (a : Ag DC1 s s1) (h : KC1 s) : KC1 s1 := by
  unfold KC1 at *
  rw [a.cell 111 (fun _ => rfl), a.cell 112 (fun _ => rfl), a.cell 13 (fun _ => rfl)]
  exact h
theorem KC2.ag {s s1 : SG} (a : Ag DC2 s s1) (h : KC2 s) : KC2 s1 := by
  unfold KC2 at *
  rw [a.cell 113 (fun _ => rfl), a.cell 114 (fun _ => rfl), a.cell 14 (fun _ => rfl)]
  exact h
theorem inW_sub {D1 D2 : LW} (h : subW D1 D2 = true) {a j : Nat} (q : inW D1 a j = true) : inW D2 a j = true := by
  cases w : inW D2 a j with
  | true => rfl
  | false =>
    have k : Fr D1 (fun _ _ => 0) (fun b i => bif inW D1 b i then 1 else 0) := fun b i e => by
      show (bif inW D1 b i then (1 : Int32) else 0) = 0
      rw [e]
      rfl
    have k2 : (bif inW D1 a j then (1 : Int32) else 0) = 0 := (k.wk h) a j w
    rw [q] at k2
    exact absurd k2 (by decide)
theorem Ag.sub {D1 D2 : LW} {s s1 : SG} (a : Ag D2 s s1) (h : subW D1 D2 = true) : Ag D1 s s1 := fun b j q => a b j (inW_sub h q)
theorem KC.ag {s s1 : SG} (a : Ag DC s s1) (h : KC s) : KC s1 := ⟨h.1.ag (a.sub rfl), h.2.1.ag (a.sub rfl), h.2.2.ag (a.sub rfl)⟩
theorem rowLt {len x : Int32} {k : Nat} (h0 : 0 ≤ len.toInt) (h1 : len.toNatClampNeg ≤ 23) (h : k < (rowN len x).toNatClampNeg) : 3 * k + 1 < len.toNatClampNeg ∧ k < 8 := by
  unfold rowN at h
  cases c : m_cmp .ne x (-1) with
  | true =>
    rw [c] at h
    have h : k < (0 : Int32).toNatClampNeg := h
    have e : (0 : Int32).toNatClampNeg = 0 := rfl
    omega
  | false =>
    rw [c] at h
    have h : k < ((len + 1) / 3).toNatClampNeg := h
    rw [← ofn_cl len h0, dv3 _ (by omega)] at h
    omega
theorem kd {s : SG} (t : KT s) (c : KC s) : KD s := by
  obtain ⟨⟨⟨x, x1, x2⟩, c2⟩, c3, c4⟩ := c
  obtain ⟨hl, e0, e1, e2, t0, t1, t2⟩ := t
  obtain ⟨⟨C1, C2, C3⟩, -, -, -, -, R⟩ := flM hl
  rw [e0] at x1 x2
  have ex := CrS.uniq (x1.cong t0) C1
  rw [ex] at x2
  refine ⟨by rw [C2]; exact x2, fun k hk => ?_, fun t ht => ⟨?_, ?_⟩⟩
  · have hk2 := hk
    rw [x2] at hk2
    obtain ⟨b1, b2⟩ := c2 k hk
    obtain ⟨d1, d2⟩ := C3 k hk2
    have l := rowLt hl.1 hl.2.1 hk2
    rw [b1, b2, d1, d2, t0 _ (by omega), t0 _ (by omega)]
    exact ⟨rfl, rfl⟩
  · rw [c3 t ht, (R t ht).1, e1]
    exact ratS_cong ht t1
  · rw [c4 t ht, (R t ht).2, e2]
    exact rudS_cong ht t2
/-- rowers are at most eight -/
theorem row8 {s : SG} (t : KT s) (c : KC0 s) : (s 10 0).toNatClampNeg ≤ 8 := by
  obtain ⟨⟨x, x1, x2⟩, c2⟩ := c
  obtain ⟨hl, e0, -⟩ := t
  apply Decidable.byContradiction
  intro q
  have h : 8 < (s 10 0).toNatClampNeg := by omega
  rw [x2, e0] at h
  have := rowLt hl.1 hl.2.1 h
  omega
/-! small tests -/
def bl (v n : Int32) : Bool := bif m_cmp .lt v 0 then false else !(m_cmp .ge v n)
theorem bl_e (s : SG) (v n : Int32) : m_cmp .eq (F_isBelow s v n) 0 = !(bl v n) := by
  unfold F_isBelow bl
  dsimp only
  cases m_cmp .lt v 0
  · cases m_cmp .ge v n <;> rfl
  · rfl
theorem bl_n (s : SG) (v n : Int32) : m_cmp .ne (F_isBelow s v n) 0 = bl v n := by
  unfold F_isBelow bl
  dsimp only
  cases m_cmp .lt v 0
  · cases m_cmp .ge v n <;> rfl
  · rfl
theorem gt_ge {v m n : Int32} (h : m.toInt + 1 = n.toInt) : m_cmp .gt v m = m_cmp .ge v n := by
  cases c : m_cmp .ge v n with
  | true =>
    have := m_ge_iff.mp c
    exact m_gt_iff.mpr (by omega)
  | false =>
    have := m_ff m_ge_iff c
    cases d : m_cmp .gt v m with
    | false => rfl
    | true =>
      have := m_gt_iff.mp d
      omega
theorem in_e (s : SG) (v m n : Int32) (h : m.toInt + 1 = n.toInt) : m_cmp .eq (F_in s v 0 m) 0 = !(bl v n) := by
  unfold F_in bl
  dsimp only
  rw [gt_ge h]
  cases m_cmp .lt v 0
  · cases m_cmp .ge v n <;> rfl
  · rfl
theorem in_n (s : SG) (v m n : Int32) (h : m.toInt + 1 = n.toInt) : m_cmp .ne (F_in s v 0 m) 0 = bl v n := by
  unfold F_in bl
  dsimp only
  rw [gt_ge h]
  cases m_cmp .lt v 0
  · cases m_cmp .ge v n <;> rfl
  · rfl
theorem bl_iff {v n : Int32} : bl v n = true ↔ 0 ≤ v.toInt ∧ v.toInt < n.toInt := by
  have e : (0 : Int32).toInt = 0 := by decide
  unfold bl
  cases c : m_cmp .lt v 0 with
  | true =>
    have := m_lt_iff.mp c
    exact ⟨fun h => (by cases h), fun h => by omega⟩
  | false =>
    have := m_ff m_lt_iff c
    cases d : m_cmp .ge v n with
    | true =>
      have := m_ge_iff.mp d
      exact ⟨fun h => (by cases h), fun h => by omega⟩
    | false =>
      have := m_ff m_ge_iff d
      exact ⟨fun _ => by omega, fun _ => rfl⟩
theorem bl_ofn {v n : Int32} (h : bl v n = true) : v = Int32.ofNat v.toNatClampNeg ∧ v.toNatClampNeg < n.toInt.toNat := by
  obtain ⟨h1, h2⟩ := bl_iff.mp h
  exact ⟨(ofn_cl v h1).symm, by show v.toInt.toNat < _; omega⟩
theorem bl_3 {v : Int32} : bl v 3 = true ↔ v = 0 ∨ v = 1 ∨ v = 2 := by
  constructor
  · intro h
    obtain ⟨h1, h2⟩ := bl_iff.mp h
    have e : (3 : Int32).toInt = 3 := by decide
    have q : v.toInt = (0 : Int32).toInt ∨ v.toInt = (1 : Int32).toInt ∨ v.toInt = (2 : Int32).toInt := by
      have e0 : (0 : Int32).toInt = 0 := by decide
      have e1 : (1 : Int32).toInt = 1 := by decide
      have e2 : (2 : Int32).toInt = 2 := by decide
      omega
    rcases q with q | q | q
    · exact Or.inl (Int32.toInt_inj.mp q)
    · exact Or.inr (Or.inl (Int32.toInt_inj.mp q))
    · exact Or.inr (Or.inr (Int32.toInt_inj.mp q))
  · intro h
    rcases h with rfl | rfl | rfl <;> rfl
theorem bl_4 {v : Int32} : bl v 4 = true ↔ v = 0 ∨ v = 1 ∨ v = 2 ∨ v = 3 := by
  constructor
  · intro h
    obtain ⟨h1, h2⟩ := bl_iff.mp h
    have e : (4 : Int32).toInt = 4 := by decide
    have q : v.toInt = (0 : Int32).toInt ∨ v.toInt = (1 : Int32).toInt ∨ v.toInt = (2 : Int32).toInt ∨ v.toInt = (3 : Int32).toInt := by
      have e0 : (0 : Int32).toInt = 0 := by decide
      have e1 : (1 : Int32).toInt = 1 := by decide
      have e2 : (2 : Int32).toInt = 2 := by decide
      have e3 : (3 : Int32).toInt = 3 := by decide
      omega
    rcases q with q | q | q | q
    · exact Or.inl (Int32.toInt_inj.mp q)
    · exact Or.inr (Or.inl (Int32.toInt_inj.mp q))
    · exact Or.inr (Or.inr (Or.inl (Int32.toInt_inj.mp q)))
    · exact Or.inr (Or.inr (Or.inr (Int32.toInt_inj.mp q)))
  · intro h
    rcases h with rfl | rfl | rfl | rfl <;> rfl
