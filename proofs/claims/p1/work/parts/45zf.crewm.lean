/-! the model reads the crew -/
theorem by0 {a : SG} {j : Nat} (h : j < (a 124 0).toNatClampNeg) (h2 : (a 124 0).toNatClampNeg ≤ 24) : F_byteAt_0 a (Int32.ofNat j) = a 125 j := by
  unfold F_byteAt_0
  dsimp only
  rw [ge_F h]
  show a 125 ((24 * 0) + Int32.ofNat j).toNatClampNeg = _
  rw [show ((24 * 0 : Int32) + Int32.ofNat j).toNatClampNeg = 24 * 0 + j from idx24 (k := 0) (by decide) (by omega), Nat.mul_zero, Nat.zero_add]
theorem by0n {a : SG} {j : Nat} (h : (a 124 0).toNatClampNeg ≤ j) (hj : j < 100) : F_byteAt_0 a (Int32.ofNat j) = -1 := by
  unfold F_byteAt_0
  dsimp only
  rw [show m_cmp .ge (Int32.ofNat j) (a 124 0) = true from m_ge_iff.mpr (by rw [ofn_int (by omega)]; have h : (a 124 0).toInt.toNat ≤ j := h; omega)]
  rfl
theorem f0C (i : Nat) (b : Int32) : fitCb (3 * i) b = (bif m_cmp .eq b 115 then true else (bif m_cmp .eq b 102 then true else m_cmp .eq b 108)) := by
  unfold fitCb
  rw [if_pos (by omega)]
theorem f1C (i : Nat) (b : Int32) : fitCb (3 * i + 1) b = (bif m_cmp .lt b 49 then false else !(m_cmp .gt b 57)) := by
  unfold fitCb
  rw [if_neg (by omega), if_pos (by omega)]
theorem f2C (i : Nat) (b : Int32) : fitCb (3 * i + 2) b = m_cmp .eq b 59 := by
  unfold fitCb
  rw [if_neg (by omega), if_neg (by omega)]
theorem in19 (a : SG) (b : Int32) : m_cmp .ne (F_in a (b - 48) 1 9) 0 = (bif m_cmp .lt b 49 then false else !(m_cmp .gt b 57)) := by
  have e1 : (1 : Int32).toInt = 1 := by decide
  have e9 : (9 : Int32).toInt = 9 := by decide
  have e48 : (48 : Int32).toInt = 48 := by decide
  have e49 : (49 : Int32).toInt = 49 := by decide
  have e57 : (57 : Int32).toInt = 57 := by decide
  have hb : b - 48 + 48 = b := Int32.sub_add_cancel b 48
  have fwd : (1 ≤ (b - 48).toInt ∧ (b - 48).toInt ≤ 9) → 49 ≤ b.toInt ∧ b.toInt ≤ 57 := fun h => by
    have : (b - 48 + 48).toInt = (b - 48).toInt + 48 := (i32_add (by omega) (by omega)).trans (by omega)
    rw [hb] at this
    omega
  have bwd : (49 ≤ b.toInt ∧ b.toInt ≤ 57) → 1 ≤ (b - 48).toInt ∧ (b - 48).toInt ≤ 9 := fun h => by
    have : (b - 48).toInt = b.toInt - 48 := (i32_sub (by omega) (by omega)).trans (by omega)
    omega
  unfold F_in
  dsimp only
  cases c1 : m_cmp .lt (b - 48) 1 with
  | true =>
    have d1 := m_lt_iff.mp c1
    cases c2 : m_cmp .lt b 49 with
    | true => rfl
    | false =>
      have d2 := m_ff m_lt_iff c2
      cases c3 : m_cmp .gt b 57 with
      | true => rfl
      | false =>
        have d3 := m_ff m_gt_iff c3
        have := bwd (by omega)
        omega
  | false =>
    have d1 := m_ff m_lt_iff c1
    cases c4 : m_cmp .gt (b - 48) 9 with
    | true =>
      have d4 := m_gt_iff.mp c4
      cases c2 : m_cmp .lt b 49 with
      | true => rfl
      | false =>
        have d2 := m_ff m_lt_iff c2
        cases c3 : m_cmp .gt b 57 with
        | true => rfl
        | false =>
          have d3 := m_ff m_gt_iff c3
          have := bwd (by omega)
          omega
    | false =>
      have d4 := m_ff m_gt_iff c4
      have w := fwd (by omega)
      have c2 : m_cmp .lt b 49 = false := by
        cases c : m_cmp .lt b 49 with
        | false => rfl
        | true => have := m_lt_iff.mp c; omega
      have c3 : m_cmp .gt b 57 = false := by
        cases c : m_cmp .gt b 57 with
        | false => rfl
        | true => have := m_gt_iff.mp c; omega
      rw [c2, c3]
      rfl
/-- one rower read, by its place -/
theorem rrM {a : SG} {i : Nat} (hi : i < 8) (at_ : Int32) (v w : Int32) (hv : F_byteAt_0 a at_ = v) (hw : F_byteAt_0 a (at_ + 1) = w) : F_readsRower a (Int32.ofNat i) at_ = (bif (bif m_cmp .eq v 115 then true else (bif m_cmp .eq v 102 then true else m_cmp .eq v 108)) then (bif (bif m_cmp .lt w 49 then false else !(m_cmp .gt w 57)) then ((2 : Int32), uset (uset a 126 i (srtV v)) 127 i (w - 48)) else ((1 : Int32), a)) else ((0 : Int32), a)) := by
  have h8 : ∀ k, k < 8 → m_cmp .eq (Int32.ofNat k) 8 = false := by decide
  unfold F_readsRower
  dsimp only
  rw [hv, hw, h8 i hi, in19, Int32.toNatClampNeg_ofNat_of_lt (by omega), eq_ne, eq_ne, eq_ne]
  unfold srtV
  cases m_cmp .ne v 115
  · rfl
  · cases m_cmp .ne v 102
    · rfl
    · cases m_cmp .ne v 108 <;> rfl
