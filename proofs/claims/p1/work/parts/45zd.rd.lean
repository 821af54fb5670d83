/-! the model reads rates and rudder (printed by wip/u/mk_rd.py) -/
theorem ne24 : ∀ i, i < 24 → m_cmp .ne (Int32.ofNat i) (-1) = true := by decide
theorem ge24 : ∀ i, i < 24 → m_cmp .ge (Int32.ofNat i) 0 = true := by decide
theorem inR (s : SG) (b : Int32) : m_cmp .ne (F_in s b 48 51) 0 = fitRb b := by
  unfold F_in fitRb
  dsimp only
  cases m_cmp .lt b 48
  · cases m_cmp .gt b 51 <;> rfl
  · rfl
def rdV (b : Int32) : Int32 := bif m_cmp .ne b 45 then (bif m_cmp .ne b 108 then (bif m_cmp .ne b 114 then (-1 : Int32) else (2 : Int32)) else (1 : Int32)) else (0 : Int32)
theorem eq_ne (x y : Int32) : m_cmp .eq x y = !(m_cmp .ne x y) := by
  show decide (x = y) = !(decide (¬ x = y))
  by_cases e : x = y
  · rw [decide_eq_true e, decide_eq_false (fun q => q e)]; rfl
  · rw [decide_eq_false e, decide_eq_true e]; rfl
theorem inD (s : SG) (b : Int32) : m_cmp .ne (F_rudderBy s b) (-1) = fitDb b := by
  show m_cmp .ne (rdV b) (-1) = _
  unfold rdV fitDb
  rw [eq_ne, eq_ne]
  cases m_cmp .ne b 45
  · cases m_cmp .ne b 108
    · rfl
    · cases m_cmp .ne b 114 <;> rfl
  · cases m_cmp .ne b 108
    · rfl
    · cases m_cmp .ne b 114 <;> rfl
theorem rdV_rud {b : Int32} (h : fitDb b = true) : rdV b = rudV b := by
  unfold rdV rudV
  unfold fitDb at h
  rw [eq_ne, eq_ne] at h
  cases h1 : m_cmp .ne b 45 with
  | true =>
    rw [h1] at h
    cases h2 : m_cmp .ne b 108 with
    | true =>
      rw [h2] at h
      cases h3 : m_cmp .ne b 114 with
      | true => rw [h3] at h; cases h
      | false => rfl
    | false => rfl
  | false =>
    have e : b = 45 := Decidable.of_not_not (m_ff m_ne_iff h1)
    subst e
    rfl
def vR (b : Int32) : Int32 := b - 48
theorem tx_by_R {s : SG} {j : Nat} (h : j < (s 124 1).toNatClampNeg) (h2 : (s 124 1).toNatClampNeg ≤ 24) : F_byteAt_1 s (Int32.ofNat j) = s 125 (24 * 1 + j) := by
  unfold F_byteAt_1
  dsimp only
  rw [ge_F h]
  show s 125 ((24 * 1) + Int32.ofNat j).toNatClampNeg = _
  rw [show ((24 * 1 : Int32) + Int32.ofNat j).toNatClampNeg = 24 * 1 + j from idx24 (k := 1) (by decide) (by omega)]
theorem fl_R (s : SG) : ∀ i, i ≤ 24 → (∀ k, k < i → itr B_readsRates_5 0 i (uset s 123 5 0) 128 k = 2) ∧ ∀ b j, b ≠ 128 → itr B_readsRates_5 0 i (uset s 123 5 0) b j = uset s 123 5 0 b j := by
  intro i
  induction i with
  | zero => exact fun _ => ⟨fun k hk => absurd hk (by omega), fun b j _ => rfl⟩
  | succ i ih =>
    intro hi
    obtain ⟨h1, h2⟩ := ih (by omega)
    rw [itr_0]
    generalize itr B_readsRates_5 0 i (uset s 123 5 0) = a at *
    have e : B_readsRates_5 i a = uset a 128 i 2 := rfl
    rw [e]
    refine ⟨fun k hk => ?_, fun b j hb => ?_⟩
    · by_cases q : k = i
      · rw [q]; exact uset_eq _ _ _ _
      · rw [uset_nj q]; exact h1 k (by omega)
    · rw [uset_na hb]; exact h2 b j hb
theorem st_R {z : SG} (hl : (z 124 1).toNatClampNeg ≤ 24) (h0 : ∀ k, k < 24 → z 128 k = 2) : ∀ i, i ≤ (z 124 1).toNatClampNeg → (∀ k, k < 24 → itr B_readsRates_37 0 i z 128 k = if k < i then vR (z 125 (24 * 1 + k)) else 2) ∧ ∀ b j, b ≠ 128 → itr B_readsRates_37 0 i z b j = z b j := by
  intro i
  induction i with
  | zero => exact fun _ => ⟨fun k hk => by rw [if_neg (by omega)]; exact h0 k hk, fun b j _ => rfl⟩
  | succ i ih =>
    intro hi
    obtain ⟨h1, h2⟩ := ih (by omega)
    rw [itr_0]
    generalize itr B_readsRates_37 0 i z = a at *
    have e : B_readsRates_37 i a = uset a 128 i (F_byteAt_1 a (Int32.ofNat i) - 48) := rfl
    have e124 : a 124 1 = z 124 1 := h2 124 1 (by decide)
    rw [e, tx_by_R (by rw [e124]; omega) (by rw [e124]; exact hl), h2 125 _ (by decide)]
    refine ⟨fun k hk => ?_, fun b j hb => ?_⟩
    · by_cases q : k = i
      · rw [q, uset_eq, if_pos (by omega)]; rfl
      · rw [uset_nj q, h1 k hk]
        by_cases q2 : k < i
        · rw [if_pos q2, if_pos (by omega)]
        · rw [if_neg q2, if_neg (by omega)]
    · rw [uset_na hb]; exact h2 b j hb
theorem rd_R {s : SG} (hl : (s 124 1).toNatClampNeg ≤ 24) : (F_readsRates s).1 = flt fitRb (s 124 1) (fun k => s 125 (24 * 1 + k)) ∧ (F_readsRates s).2 123 5 = manyS fitRb (s 124 1) (fun k => s 125 (24 * 1 + k)) ∧ ∀ t, t < 24 → (F_readsRates s).2 128 t = ratS (s 124 1) (fun k => s 125 (24 * 1 + k)) t := by
  obtain ⟨a1, a2⟩ := fl_R s 24 (Nat.le_refl _)
  have eF : F_readsRates s = Sum.elim (fun _ : Unit => ((-1 : Int32), uset (itr B_readsRates_37 0 (itr B_readsRates_5 0 24 (uset s 123 5 0) 124 1).toNatClampNeg (itr B_readsRates_5 0 24 (uset s 123 5 0))) 123 5 (itr B_readsRates_37 0 (itr B_readsRates_5 0 24 (uset s 123 5 0) 124 1).toNatClampNeg (itr B_readsRates_5 0 24 (uset s 123 5 0)) 124 1))) (fun x : Nat × (Int32 × SG) => x.2) (itx (B_readsRates_17 (itr B_readsRates_5 0 24 (uset s 123 5 0))) 0 (itr B_readsRates_5 0 24 (uset s 123 5 0) 124 1).toNatClampNeg ()) := rfl
  rw [eF]
  generalize itr B_readsRates_5 0 24 (uset s 123 5 0) = z at *
  have e124 : z 124 1 = s 124 1 := a2 124 1 (by decide)
  have e125 : ∀ j, z 125 j = s 125 j := fun j => a2 125 j (by decide)
  have e5 : z 123 5 = 0 := a2 123 5 (by decide)
  have rel := itx_rel (f := flf fitRb (fun k => s 125 (24 * 1 + k))) (g := B_readsRates_17 z) (R := fun _ x y => y = (x, z)) (s 124 1).toNatClampNeg (fun i hi => by
    unfold flf B_readsRates_17
    rw [tx_by_R (by rw [e124]; exact hi) (by rw [e124]; exact hl), e125, inR]
    cases fitRb (s 125 (24 * 1 + i))
    · exact Or.inr ⟨_, _, rfl, rfl, rfl⟩
    · exact Or.inl ⟨rfl, rfl⟩) (s 124 1).toNatClampNeg 0 (by omega)
  rw [e124]
  unfold ratS manyS flt
  rcases rel with ⟨h1, h2, -⟩ | ⟨i, x, y, -, hi, h3, h4, rfl⟩
  · rw [h1, h2]
    obtain ⟨b1, b2⟩ := st_R (z := z) (by rw [e124]; exact hl) a1 (z 124 1).toNatClampNeg (Nat.le_refl _)
    rw [e124] at b1 b2
    refine ⟨rfl, ?_, fun t ht => ?_⟩
    · show itr B_readsRates_37 0 (s 124 1).toNatClampNeg z 124 1 = _
      rw [b2 124 1 (by decide), e124]
      rfl
    · show itr B_readsRates_37 0 (s 124 1).toNatClampNeg z 128 t = bif m_cmp .ge (Int32.ofNat t) (s 124 1) then 2 else s 125 (24 * 1 + t) - 48
      rw [b1 t ht, e125]
      by_cases q : t < (s 124 1).toNatClampNeg
      · rw [if_pos q, ge_F q]
        rfl
      · rw [if_neg q, show m_cmp .ge (Int32.ofNat t) (s 124 1) = true from m_ge_iff.mpr (by rw [ofn_int (by omega)]; have q : ¬ t < (s 124 1).toInt.toNat := q; omega)]
        rfl
  · rw [h3, h4]
    have hx : x = Int32.ofNat i := by
      rcases flt_cases fitRb (s 124 1) (fun k => s 125 (24 * 1 + k)) with ⟨k1, -, -⟩ | ⟨j, -, k2, -⟩
      · rw [k1] at h3; cases h3
      · rw [k2] at h3; cases h3; rfl
    subst hx
    have hne := ne24 i (by omega)
    refine ⟨rfl, ?_, fun t ht => ?_⟩
    · show z 123 5 = (bif m_cmp .ne (Int32.ofNat i) (-1) then 0 else _)
      rw [hne, e5]
      rfl
    · show z 128 t = bif m_cmp .ge (Int32.ofNat t) (bif m_cmp .ne (Int32.ofNat i) (-1) then (0 : Int32) else s 124 1) then 2 else s 125 (24 * 1 + t) - 48
      rw [hne, a1 t ht]
      show 2 = bif m_cmp .ge (Int32.ofNat t) (0 : Int32) then 2 else s 125 (24 * 1 + t) - 48
      rw [ge24 t ht]
      rfl
theorem tx_by_D {s : SG} {j : Nat} (h : j < (s 124 2).toNatClampNeg) (h2 : (s 124 2).toNatClampNeg ≤ 24) : F_byteAt_2 s (Int32.ofNat j) = s 125 (24 * 2 + j) := by
  unfold F_byteAt_2
  dsimp only
  rw [ge_F h]
  show s 125 ((24 * 2) + Int32.ofNat j).toNatClampNeg = _
  rw [show ((24 * 2 : Int32) + Int32.ofNat j).toNatClampNeg = 24 * 2 + j from idx24 (k := 2) (by decide) (by omega)]
theorem fl_D (s : SG) : ∀ i, i ≤ 24 → (∀ k, k < i → itr B_readsRudder_5 0 i (uset s 123 7 0) 129 k = 0) ∧ ∀ b j, b ≠ 129 → itr B_readsRudder_5 0 i (uset s 123 7 0) b j = uset s 123 7 0 b j := by
  intro i
  induction i with
  | zero => exact fun _ => ⟨fun k hk => absurd hk (by omega), fun b j _ => rfl⟩
  | succ i ih =>
    intro hi
    obtain ⟨h1, h2⟩ := ih (by omega)
    rw [itr_0]
    generalize itr B_readsRudder_5 0 i (uset s 123 7 0) = a at *
    have e : B_readsRudder_5 i a = uset a 129 i 0 := rfl
    rw [e]
    refine ⟨fun k hk => ?_, fun b j hb => ?_⟩
    · by_cases q : k = i
      · rw [q]; exact uset_eq _ _ _ _
      · rw [uset_nj q]; exact h1 k (by omega)
    · rw [uset_na hb]; exact h2 b j hb
theorem st_D {z : SG} (hl : (z 124 2).toNatClampNeg ≤ 24) (h0 : ∀ k, k < 24 → z 129 k = 0) : ∀ i, i ≤ (z 124 2).toNatClampNeg → (∀ k, k < 24 → itr B_readsRudder_36 0 i z 129 k = if k < i then rdV (z 125 (24 * 2 + k)) else 0) ∧ ∀ b j, b ≠ 129 → itr B_readsRudder_36 0 i z b j = z b j := by
  intro i
  induction i with
  | zero => exact fun _ => ⟨fun k hk => by rw [if_neg (by omega)]; exact h0 k hk, fun b j _ => rfl⟩
  | succ i ih =>
    intro hi
    obtain ⟨h1, h2⟩ := ih (by omega)
    rw [itr_0]
    generalize itr B_readsRudder_36 0 i z = a at *
    have e : B_readsRudder_36 i a = uset a 129 i (rdV (F_byteAt_2 a (Int32.ofNat i))) := rfl
    have e124 : a 124 2 = z 124 2 := h2 124 2 (by decide)
    rw [e, tx_by_D (by rw [e124]; omega) (by rw [e124]; exact hl), h2 125 _ (by decide)]
    refine ⟨fun k hk => ?_, fun b j hb => ?_⟩
    · by_cases q : k = i
      · rw [q, uset_eq, if_pos (by omega)]
      · rw [uset_nj q, h1 k hk]
        by_cases q2 : k < i
        · rw [if_pos q2, if_pos (by omega)]
        · rw [if_neg q2, if_neg (by omega)]
    · rw [uset_na hb]; exact h2 b j hb
theorem rd_D {s : SG} (hl : (s 124 2).toNatClampNeg ≤ 24) : (F_readsRudder s).1 = flt fitDb (s 124 2) (fun k => s 125 (24 * 2 + k)) ∧ (F_readsRudder s).2 123 7 = manyS fitDb (s 124 2) (fun k => s 125 (24 * 2 + k)) ∧ ∀ t, t < 24 → (F_readsRudder s).2 129 t = rudS (s 124 2) (fun k => s 125 (24 * 2 + k)) t := by
  obtain ⟨a1, a2⟩ := fl_D s 24 (Nat.le_refl _)
  have eF : F_readsRudder s = Sum.elim (fun _ : Unit => ((-1 : Int32), uset (itr B_readsRudder_36 0 (itr B_readsRudder_5 0 24 (uset s 123 7 0) 124 2).toNatClampNeg (itr B_readsRudder_5 0 24 (uset s 123 7 0))) 123 7 (itr B_readsRudder_36 0 (itr B_readsRudder_5 0 24 (uset s 123 7 0) 124 2).toNatClampNeg (itr B_readsRudder_5 0 24 (uset s 123 7 0)) 124 2))) (fun x : Nat × (Int32 × SG) => x.2) (itx (B_readsRudder_17 (itr B_readsRudder_5 0 24 (uset s 123 7 0))) 0 (itr B_readsRudder_5 0 24 (uset s 123 7 0) 124 2).toNatClampNeg ()) := rfl
  rw [eF]
  generalize itr B_readsRudder_5 0 24 (uset s 123 7 0) = z at *
  have e124 : z 124 2 = s 124 2 := a2 124 2 (by decide)
  have e125 : ∀ j, z 125 j = s 125 j := fun j => a2 125 j (by decide)
  have e5 : z 123 7 = 0 := a2 123 7 (by decide)
  have rel := itx_rel (f := flf fitDb (fun k => s 125 (24 * 2 + k))) (g := B_readsRudder_17 z) (R := fun _ x y => y = (x, z)) (s 124 2).toNatClampNeg (fun i hi => by
    unfold flf B_readsRudder_17
    rw [tx_by_D (by rw [e124]; exact hi) (by rw [e124]; exact hl), e125, inD]
    cases fitDb (s 125 (24 * 2 + i))
    · exact Or.inr ⟨_, _, rfl, rfl, rfl⟩
    · exact Or.inl ⟨rfl, rfl⟩) (s 124 2).toNatClampNeg 0 (by omega)
  rw [e124]
  unfold rudS manyS flt
  rcases rel with ⟨h1, h2, -⟩ | ⟨i, x, y, -, hi, h3, h4, rfl⟩
  · rw [h1, h2]
    obtain ⟨b1, b2⟩ := st_D (z := z) (by rw [e124]; exact hl) a1 (z 124 2).toNatClampNeg (Nat.le_refl _)
    rw [e124] at b1 b2
    refine ⟨rfl, ?_, fun t ht => ?_⟩
    · show itr B_readsRudder_36 0 (s 124 2).toNatClampNeg z 124 2 = _
      rw [b2 124 2 (by decide), e124]
      rfl
    · show itr B_readsRudder_36 0 (s 124 2).toNatClampNeg z 129 t = rudV (bif m_cmp .ge (Int32.ofNat t) (s 124 2) then 45 else s 125 (24 * 2 + t))
      rw [b1 t ht, e125]
      by_cases q : t < (s 124 2).toNatClampNeg
      · rw [if_pos q, ge_F q]
        rcases flt_cases fitDb (s 124 2) (fun k => s 125 (24 * 2 + k)) with ⟨-, -, k3⟩ | ⟨j, -, k2, -⟩
        · exact rdV_rud (k3 t q)
        · rw [k2] at h1; cases h1
      · rw [if_neg q, show m_cmp .ge (Int32.ofNat t) (s 124 2) = true from m_ge_iff.mpr (by rw [ofn_int (by omega)]; have q : ¬ t < (s 124 2).toInt.toNat := q; omega)]
        rfl
  · rw [h3, h4]
    have hx : x = Int32.ofNat i := by
      rcases flt_cases fitDb (s 124 2) (fun k => s 125 (24 * 2 + k)) with ⟨k1, -, -⟩ | ⟨j, -, k2, -⟩
      · rw [k1] at h3; cases h3
      · rw [k2] at h3; cases h3; rfl
    subst hx
    have hne := ne24 i (by omega)
    refine ⟨rfl, ?_, fun t ht => ?_⟩
    · show z 123 7 = (bif m_cmp .ne (Int32.ofNat i) (-1) then 0 else _)
      rw [hne, e5]
      rfl
    · show z 129 t = rudV (bif m_cmp .ge (Int32.ofNat t) (bif m_cmp .ne (Int32.ofNat i) (-1) then (0 : Int32) else s 124 2) then 45 else s 125 (24 * 2 + t))
      rw [hne, a1 t ht]
      show 0 = rudV (bif m_cmp .ge (Int32.ofNat t) (0 : Int32) then 45 else s 125 (24 * 2 + t))
      rw [ge24 t ht]
      rfl
