/-! rates and rudder: both sides read alike -/
theorem itx_l {α β : Type} (f : Nat → α → α ⊕ β) {lo n : Nat} {a x : α} (h : f lo a = .inl x) : itx f lo (n + 1) a = itx f (lo + 1) n x := by
  show (match f lo a with | .inl x => itx f (lo + 1) n x | .inr b => .inr (lo, b)) = _
  rw [h]
theorem itx_r {α β : Type} (f : Nat → α → α ⊕ β) {lo n : Nat} {a : α} {b : β} (h : f lo a = .inr b) : itx f lo (n + 1) a = .inr (lo, b) := by
  show (match f lo a with | .inl x => itx f (lo + 1) n x | .inr b => .inr (lo, b)) = _
  rw [h]
theorem itx_rel {β γ : Type} {f : Nat → Unit → Unit ⊕ β} {g : Nat → Unit → Unit ⊕ γ} {R : Nat → β → γ → Prop} (hi : Nat) (h : ∀ i, i < hi → (f i () = .inl () ∧ g i () = .inl ()) ∨ ∃ b c, f i () = .inr b ∧ g i () = .inr c ∧ R i b c) : ∀ (n lo : Nat), lo + n ≤ hi → (itx f lo n () = .inl () ∧ itx g lo n () = .inl () ∧ ∀ i, lo ≤ i → i < lo + n → f i () = .inl ()) ∨ ∃ i b c, lo ≤ i ∧ i < lo + n ∧ itx f lo n () = .inr (i, b) ∧ itx g lo n () = .inr (i, c) ∧ R i b c
  | 0, lo, _ => Or.inl ⟨rfl, rfl, fun i h1 h2 => absurd h2 (by omega)⟩
  | n + 1, lo, hl => by
    rcases h lo (by omega) with ⟨h1, h2⟩ | ⟨b, c, h1, h2, h3⟩
    · rw [itx_l f h1, itx_l g h2]
      rcases itx_rel hi h n (lo + 1) (by omega) with ⟨k1, k2, k3⟩ | ⟨i, b, c, k1, k2, k3, k4, k5⟩
      · refine Or.inl ⟨k1, k2, fun i a1 a2 => ?_⟩
        by_cases e : i = lo
        · rw [e]; exact h1
        · exact k3 i (by omega) (by omega)
      · exact Or.inr ⟨i, b, c, by omega, by omega, k3, k4, k5⟩
    · rw [itx_r f h1, itx_r g h2]
      exact Or.inr ⟨lo, b, c, by omega, by omega, rfl, rfl, h3⟩
theorem idx24 {k j : Nat} (hk : k ≤ 2) (hj : j < 24) : ((24 * Int32.ofNat k) + Int32.ofNat j).toNatClampNeg = 24 * k + j := by
  rw [show (24 * Int32.ofNat k) + Int32.ofNat j = Int32.ofNat (24 * k + j) from ofn_add (ofn_mul rfl rfl) rfl]
  exact Int32.toNatClampNeg_ofNat_of_lt (by omega)
/-- the second text is alike on both sides -/
def tx1 (s : SG) : Prop := s 111 1 = s 124 1 ∧ (s 124 1).toNatClampNeg ≤ 24 ∧ ∀ k, k < (s 124 1).toNatClampNeg → s 112 k = s 125 (24 + k)
theorem fl5 (s : SG) : ∀ i, i ≤ 24 → (∀ k, k < i → itr B_readsRates_5 0 i (uset s 123 5 0) 128 k = 2) ∧ ∀ b j, b ≠ 128 → itr B_readsRates_5 0 i (uset s 123 5 0) b j = uset s 123 5 0 b j := by
  intro i
  induction i with
  | zero => exact fun _ => ⟨fun k hk => absurd hk (by omega), fun b j _ => rfl⟩
  | succ i ih =>
    intro hi
    obtain ⟨h1, h2⟩ := ih (by omega)
    rw [itr_0]
    generalize itr B_readsRates_5 0 i (uset s 123 5 0) = a at *
    have e : B_readsRates_5 i a = uset a 128 i 2 := rfl
    rw [e]
    refine ⟨fun k hk => ?_, fun b j hb => ?_⟩
    · by_cases q : k = i
      · rw [q]; exact uset_eq _ _ _ _
      · rw [uset_nj q]; exact h1 k (by omega)
    · rw [uset_na hb]; exact h2 b j hb
def fitRb (b : Int32) : Bool := bif m_cmp .lt b 48 then false else !(m_cmp .gt b 51)
def fitDb (b : Int32) : Bool := bif m_cmp .eq b 108 then true else (bif m_cmp .eq b 114 then true else !(m_cmp .ne b 45))
def flf (fit : Int32 → Bool) (b : NI) (i : Nat) (_ : Unit) : Unit ⊕ Int32 := bif fit (b i) then .inl () else .inr (Int32.ofNat i)
/-- the fault of a text of signs -/
def flt (fit : Int32 → Bool) (len : Int32) (b : NI) : Int32 := Sum.elim (fun _ : Unit => -1) (fun x : Nat × Int32 => x.2) (itx (flf fit b) 0 len.toNatClampNeg ())
theorem flt_cases (fit : Int32 → Bool) (len : Int32) (b : NI) : (itx (flf fit b) 0 len.toNatClampNeg () = .inl () ∧ flt fit len b = -1 ∧ ∀ i, i < len.toNatClampNeg → fit (b i) = true) ∨ ∃ i, i < len.toNatClampNeg ∧ itx (flf fit b) 0 len.toNatClampNeg () = .inr (i, Int32.ofNat i) ∧ flt fit len b = Int32.ofNat i := by
  have h := itx_rel (f := flf fit b) (g := flf fit b) (R := fun i x y => x = Int32.ofNat i ∧ y = x) len.toNatClampNeg (fun i _ => by
    unfold flf
    cases fit (b i)
    · exact Or.inr ⟨_, _, rfl, rfl, rfl, rfl⟩
    · exact Or.inl ⟨rfl, rfl⟩) len.toNatClampNeg 0 (by omega)
  rcases h with ⟨h1, -, h3⟩ | ⟨i, x, y, h1, h2, h3, -, rfl, -⟩
  · refine Or.inl ⟨h1, by unfold flt; rw [h1]; rfl, fun i hi => ?_⟩
    have h := h3 i (by omega) (by omega)
    unfold flf at h
    cases q : fit (b i) with
    | true => rfl
    | false => rw [q] at h; cases h
  · exact Or.inr ⟨i, by omega, h3, by unfold flt; rw [h3]; rfl⟩
theorem flt_cong {fit : Int32 → Bool} {len : Int32} {b c : NI} (h : ∀ i, i < len.toNatClampNeg → b i = c i) : flt fit len b = flt fit len c := by
  have k := itx_rel (f := flf fit b) (g := flf fit c) (R := fun _ x y => x = y) len.toNatClampNeg (fun i hi => by
    unfold flf
    rw [h i hi]
    cases fit (c i)
    · exact Or.inr ⟨_, _, rfl, rfl, rfl⟩
    · exact Or.inl ⟨rfl, rfl⟩) len.toNatClampNeg 0 (by omega)
  unfold flt
  rcases k with ⟨h1, h2, -⟩ | ⟨i, x, y, -, -, h3, h4, rfl⟩
  · rw [h1, h2]
  · rw [h3, h4]
theorem sf1 (s : SG) : F_signFault_1 s = flt fitRb (s 111 1) (s 112) := by
  have e : B_signFault_1_2 s = flf fitRb (s 112) := by
    funext i a
    unfold B_signFault_1_2 flf fitRb
    dsimp only
    cases m_cmp .lt (s 112 i) 48
    · cases m_cmp .gt (s 112 i) 51 <;> rfl
    · rfl
  unfold F_signFault_1 flt
  rw [e]
theorem sf2 (s : SG) : F_signFault_2 s = flt fitDb (s 113 1) (s 114) := by
  have e : B_signFault_2_2 s = flf fitDb (s 114) := by
    funext i a
    unfold B_signFault_2_2 flf fitDb
    dsimp only
    cases m_cmp .eq (s 114 i) 108
    · cases m_cmp .eq (s 114 i) 114
      · cases m_cmp .ne (s 114 i) 45 <;> rfl
      · rfl
    · rfl
  unfold F_signFault_2 flt
  rw [e]
def manyS (fit : Int32 → Bool) (len : Int32) (b : NI) : Int32 := bif m_cmp .ne (flt fit len b) (-1) then 0 else len
def ratS (len : Int32) (b : NI) (t : Nat) : Int32 := bif m_cmp .ge (Int32.ofNat t) (manyS fitRb len b) then 2 else b t - 48
def rudV (b : Int32) : Int32 := bif m_cmp .ne b 108 then (bif m_cmp .ne b 114 then 0 else 2) else 1
def rudS (len : Int32) (b : NI) (t : Nat) : Int32 := rudV (bif m_cmp .ge (Int32.ofNat t) (manyS fitDb len b) then 45 else b t)
theorem tkR (s : SG) : ∀ t, t < 24 → F_takeRates s 13 t = ratS (s 111 1) (s 112) t := by
  have key : ∀ i, i ≤ 24 → Fr W_takeRates s (itr (B_takeRates_12 (manyS fitRb (s 111 1) (s 112))) 0 i s) ∧ ∀ k, k < i → itr (B_takeRates_12 (manyS fitRb (s 111 1) (s 112))) 0 i s 13 k = ratS (s 111 1) (s 112) k := by
    intro i
    induction i with
    | zero => exact fun _ => ⟨Fr.rf _ _, fun k hk => absurd hk (by omega)⟩
    | succ i ih =>
      intro hi
      obtain ⟨f, e⟩ := ih (by omega)
      rw [itr_0]
      generalize itr (B_takeRates_12 (manyS fitRb (s 111 1) (s 112))) 0 i s = a at f e
      refine ⟨f.tr (fr_B_takeRates_12 _ i a (by omega)), fun k hk => ?_⟩
      have hB : B_takeRates_12 (manyS fitRb (s 111 1) (s 112)) i a = uset a 13 i (bif m_cmp .ge (Int32.ofNat i) (manyS fitRb (s 111 1) (s 112)) then (2 : Int32) else a 112 i - 48) := rfl
      rw [hB, f 112 i rfl]
      by_cases q : k = i
      · rw [q, uset_eq]; rfl
      · rw [uset_nj q]; exact e k (by omega)
  intro t ht
  have h := (key 24 (Nat.le_refl _)).2 t ht
  have e : F_takeRates s = itr (B_takeRates_12 (manyS fitRb (s 111 1) (s 112))) 0 24 s := by
    unfold F_takeRates manyS
    rw [sf1]
  rw [e]
  exact h
theorem tkD (s : SG) : ∀ t, t < 24 → F_takeRudder s 14 t = rudS (s 113 1) (s 114) t := by
  have key : ∀ i, i ≤ 24 → Fr W_takeRudder s (itr (B_takeRudder_12 (manyS fitDb (s 113 1) (s 114))) 0 i s) ∧ ∀ k, k < i → itr (B_takeRudder_12 (manyS fitDb (s 113 1) (s 114))) 0 i s 14 k = rudS (s 113 1) (s 114) k := by
    intro i
    induction i with
    | zero => exact fun _ => ⟨Fr.rf _ _, fun k hk => absurd hk (by omega)⟩
    | succ i ih =>
      intro hi
      obtain ⟨f, e⟩ := ih (by omega)
      rw [itr_0]
      generalize itr (B_takeRudder_12 (manyS fitDb (s 113 1) (s 114))) 0 i s = a at f e
      refine ⟨f.tr (fr_B_takeRudder_12 _ i a (by omega)), fun k hk => ?_⟩
      have hB : B_takeRudder_12 (manyS fitDb (s 113 1) (s 114)) i a = uset a 14 i (rudV (bif m_cmp .ge (Int32.ofNat i) (manyS fitDb (s 113 1) (s 114)) then (45 : Int32) else a 114 i)) := rfl
      rw [hB, f 114 i rfl]
      by_cases q : k = i
      · rw [q, uset_eq]; rfl
      · rw [uset_nj q]; exact e k (by omega)
  intro t ht
  have h := (key 24 (Nat.le_refl _)).2 t ht
  have e : F_takeRudder s = itr (B_takeRudder_12 (manyS fitDb (s 113 1) (s 114))) 0 24 s := by
    unfold F_takeRudder manyS
    rw [sf2]
  rw [e]
  exact h
