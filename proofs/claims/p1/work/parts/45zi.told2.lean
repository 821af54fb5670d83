/-! what the class takes is what the model reads -/
theorem manyS_cong {fit : Int32 → Bool} {len : Int32} {b c : NI} (h : ∀ i, i < len.toNatClampNeg → b i = c i) : manyS fit len b = manyS fit len c := by
  unfold manyS
  rw [flt_cong h]
theorem manyS_lt {fit : Int32 → Bool} {len : Int32} {b : NI} {t : Nat} (ht : t < 24) (h : m_cmp .ge (Int32.ofNat t) (manyS fit len b) = false) : t < len.toNatClampNeg := by
  have h1 := m_ff m_ge_iff h
  rw [ofn_int (by omega)] at h1
  unfold manyS at h1
  cases c : m_cmp .ne (flt fit len b) (-1) with
  | true =>
    rw [c] at h1
    have e : (0 : Int32).toInt = 0 := by decide
    have h1 : ¬ (0 : Int32).toInt ≤ (t : Int) := h1
    omega
  | false =>
    rw [c] at h1
    have h1 : ¬ len.toInt ≤ (t : Int) := h1
    show t < len.toInt.toNat
    omega
theorem ratS_cong {len : Int32} {b c : NI} {t : Nat} (ht : t < 24) (h : ∀ i, i < len.toNatClampNeg → b i = c i) : ratS len b t = ratS len c t := by
  unfold ratS
  rw [← manyS_cong h]
  cases q : m_cmp .ge (Int32.ofNat t) (manyS fitRb len b) with
  | true => rfl
  | false =>
    show b t - 48 = c t - 48
    rw [h t (manyS_lt ht q)]
theorem rudS_cong {len : Int32} {b c : NI} {t : Nat} (ht : t < 24) (h : ∀ i, i < len.toNatClampNeg → b i = c i) : rudS len b t = rudS len c t := by
  unfold rudS
  rw [← manyS_cong h]
  cases q : m_cmp .ge (Int32.ofNat t) (manyS fitDb len b) with
  | true => rfl
  | false =>
    show rudV (b t) = rudV (c t)
    rw [h t (manyS_lt ht q)]
