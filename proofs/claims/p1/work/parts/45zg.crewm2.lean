/-! the model reads the whole crew -/
def crD (a : SG) (i : Nat) (at_ : Int32) : (SG × Int32) ⊕ (Int32 × SG) := bif m_cmp .ge (F_readsRower a (Int32.ofNat i) at_).1 2 then (bif m_cmp .ne (at_ + 2) ((F_readsRower a (Int32.ofNat i) at_).2 124 0) then (bif m_cmp .eq (F_byteAt_0 (F_readsRower a (Int32.ofNat i) at_).2 (at_ + 2)) 59 then .inl ((F_readsRower a (Int32.ofNat i) at_).2, (at_ + 2) + 1) else .inr (at_ + 2, (F_readsRower a (Int32.ofNat i) at_).2)) else .inr ((-1), (uset (F_readsRower a (Int32.ofNat i) at_).2 123 2 ((Int32.ofNat i) + 1)))) else .inr (at_ + (F_readsRower a (Int32.ofNat i) at_).1, (F_readsRower a (Int32.ofNat i) at_).2)
theorem crB (i : Nat) (a : SG) (at_ : Int32) : B_readsCrew_7 i (a, at_) = (bif m_cmp .lt at_ (a 124 0) then crD a i at_ else (bif m_cmp .le at_ 0 then .inr ((-1), a) else crD a i at_)) := rfl
theorem row0 (len : Int32) {j : Nat} (hj : j < 24) : rowN len (Int32.ofNat j) = 0 := by
  unfold rowN
  rw [ne24 j hj]
  rfl
def CrE (s : SG) (x : Int32) (z : SG) : Prop := CrS (s 124 0).toNatClampNeg (s 125) x ∧ z 123 2 = rowN (s 124 0) x ∧ ∀ k, k < (rowN (s 124 0) x).toNatClampNeg → z 126 k = srtV (s 125 (3 * k)) ∧ z 127 k = s 125 (3 * k + 1) - 48
theorem rowI : ∀ i, i < 8 → (Int32.ofNat (3 * i + 2) + 1) / 3 = Int32.ofNat (i + 1) := by decide
theorem CrE.bad {s a : SG} {j : Nat} (hj : j < 24) (h : CrS (s 124 0).toNatClampNeg (s 125) (Int32.ofNat j)) (ha : a 123 2 = 0) : CrE s (Int32.ofNat j) a := by
  refine ⟨h, by rw [row0 _ hj]; exact ha, fun k hk => ?_⟩
  rw [row0 _ hj] at hk
  exact absurd hk (by show ¬ k < 0; omega)
theorem add_ofn (i c : Nat) : Int32.ofNat i + Int32.ofNat c = Int32.ofNat (i + c) := ofn_add rfl rfl
theorem rcM {s : SG} (h0 : 0 ≤ (s 124 0).toInt) (hL : (s 124 0).toNatClampNeg ≤ 23) : ∀ (m i : Nat) (a : SG), i + m = 9 → 3 * i ≤ (s 124 0).toNatClampNeg → a 124 0 = s 124 0 → (∀ j, a 125 j = s 125 j) → a 123 2 = 0 → (∀ j, j < 3 * i → fitCb j (s 125 j) = true) → (∀ k, k < i → a 126 k = srtV (s 125 (3 * k)) ∧ a 127 k = s 125 (3 * k + 1) - 48) → ∃ j x z, itx B_readsCrew_7 i m (a, Int32.ofNat (3 * i)) = .inr (j, (x, z)) ∧ CrE s x z := by
  intro m
  induction m with
  | zero => intro i a hm hi; exact absurd hi (by omega)
  | succ m ih =>
    intro i a hm hi a4 a5 a2 hf hs
    have hi8 : i < 8 := by omega
    have fin : ∀ x z, B_readsCrew_7 i (a, Int32.ofNat (3 * i)) = .inr (x, z) → CrE s x z → ∃ j x z, itx B_readsCrew_7 i (m + 1) (a, Int32.ofNat (3 * i)) = .inr (j, (x, z)) ∧ CrE s x z := fun x z h k => ⟨i, x, z, itx_r _ h, k⟩
    have p0 : Int32.ofNat (3 * i) + 0 = Int32.ofNat (3 * i) := Int32.add_zero _
    have p1 : Int32.ofNat (3 * i) + 1 = Int32.ofNat (3 * i + 1) := add_ofn _ 1
    have p2 : Int32.ofNat (3 * i) + 2 = Int32.ofNat (3 * i + 2) := add_ofn _ 2
    by_cases q : 3 * i < (s 124 0).toNatClampNeg
    · have c1 : m_cmp .lt (Int32.ofNat (3 * i)) (a 124 0) = true := m_lt_iff.mpr (by rw [ofn_int (by omega), a4]; have q : 3 * i < (s 124 0).toInt.toNat := q; omega)
      have hv : F_byteAt_0 a (Int32.ofNat (3 * i)) = s 125 (3 * i) := (by0 (by rw [a4]; exact q) (by rw [a4]; omega)).trans (a5 _)
      have hB : B_readsCrew_7 i (a, Int32.ofNat (3 * i)) = crD a i (Int32.ofNat (3 * i)) := by rw [crB, c1]; rfl
      rw [hB] at fin
      have f0 := f0C i (s 125 (3 * i))
      cases e0 : fitCb (3 * i) (s 125 (3 * i)) with
      | false =>
        have hr := rrM hi8 (Int32.ofNat (3 * i)) _ _ hv rfl
        rw [← f0, e0] at hr
        refine fin (Int32.ofNat (3 * i)) a (by unfold crD; rw [hr]; show (.inr (Int32.ofNat (3 * i) + 0, a) : (SG × Int32) ⊕ (Int32 × SG)) = _; rw [p0]) (CrE.bad (by omega) (Or.inl ⟨3 * i, q, hf, e0, rfl⟩) a2)
      | true =>
        have hf1 : ∀ j, j < 3 * i + 1 → fitCb j (s 125 j) = true := fun j hj => by
          by_cases w : j = 3 * i
          · rw [w]; exact e0
          · exact hf j (by omega)
        by_cases q1 : 3 * i + 1 < (s 124 0).toNatClampNeg
        · have hw : F_byteAt_0 a (Int32.ofNat (3 * i) + 1) = s 125 (3 * i + 1) := by rw [p1]; exact (by0 (by rw [a4]; exact q1) (by rw [a4]; omega)).trans (a5 _)
          have hr := rrM hi8 (Int32.ofNat (3 * i)) _ _ hv hw
          have f1 := f1C i (s 125 (3 * i + 1))
          rw [← f0, e0, ← f1] at hr
          cases e1 : fitCb (3 * i + 1) (s 125 (3 * i + 1)) with
          | false =>
            rw [e1] at hr
            refine fin (Int32.ofNat (3 * i + 1)) a (by unfold crD; rw [hr]; show (.inr (Int32.ofNat (3 * i) + 1, a) : (SG × Int32) ⊕ (Int32 × SG)) = _; rw [p1]) (CrE.bad (by omega) (Or.inl ⟨3 * i + 1, q1, hf1, e1, rfl⟩) a2)
          | true =>
            rw [e1] at hr
            have hf2 : ∀ j, j < 3 * i + 2 → fitCb j (s 125 j) = true := fun j hj => by
              by_cases w : j = 3 * i + 1
              · rw [w]; exact e1
              · exact hf1 j (by omega)
            have hr : F_readsRower a (Int32.ofNat i) (Int32.ofNat (3 * i)) = ((2 : Int32), uset (uset a 126 i (srtV (s 125 (3 * i)))) 127 i (s 125 (3 * i + 1) - 48)) := hr
            have hs2 : ∀ k, k < i + 1 → uset (uset a 126 i (srtV (s 125 (3 * i)))) 127 i (s 125 (3 * i + 1) - 48) 126 k = srtV (s 125 (3 * k)) ∧ uset (uset a 126 i (srtV (s 125 (3 * i)))) 127 i (s 125 (3 * i + 1) - 48) 127 k = s 125 (3 * k + 1) - 48 := fun k hk => by
              by_cases w : k = i
              · subst w
                exact ⟨(uset_na (by decide)).trans (uset_eq _ _ _ _), uset_eq _ _ _ _⟩
              · rw [uset_na (by decide), uset_nj w, uset_nj w, uset_na (by decide)]
                exact hs k (by omega)
            generalize hA : uset (uset a 126 i (srtV (s 125 (3 * i)))) 127 i (s 125 (3 * i + 1) - 48) = A at hr hs2
            have A4 : A 124 0 = s 124 0 := by rw [← hA]; exact a4
            have A5 : ∀ j, A 125 j = s 125 j := fun j => by rw [← hA]; exact a5 j
            have A2 : A 123 2 = 0 := by rw [← hA]; exact a2
            have hD : crD a i (Int32.ofNat (3 * i)) = (bif m_cmp .ne (Int32.ofNat (3 * i + 2)) (s 124 0) then (bif m_cmp .eq (F_byteAt_0 A (Int32.ofNat (3 * i + 2))) 59 then .inl (A, Int32.ofNat (3 * i + 2) + 1) else .inr (Int32.ofNat (3 * i + 2), A)) else .inr ((-1), (uset A 123 2 ((Int32.ofNat i) + 1)))) := by
              unfold crD
              rw [hr]
              show (bif m_cmp .ne (Int32.ofNat (3 * i) + 2) (A 124 0) then (bif m_cmp .eq (F_byteAt_0 A (Int32.ofNat (3 * i) + 2)) 59 then _ else _) else _) = _
              rw [p2, A4]
            rw [hD] at fin
            by_cases q2 : 3 * i + 2 < (s 124 0).toNatClampNeg
            · have cn : m_cmp .ne (Int32.ofNat (3 * i + 2)) (s 124 0) = true := m_ne_iff.mpr (fun w => by
                have := congrArg Int32.toNatClampNeg w
                rw [Int32.toNatClampNeg_ofNat_of_lt (by omega)] at this
                omega)
              have hx : F_byteAt_0 A (Int32.ofNat (3 * i + 2)) = s 125 (3 * i + 2) := (by0 (by rw [A4]; exact q2) (by rw [A4]; omega)).trans (A5 _)
              have f2 := f2C i (s 125 (3 * i + 2))
              cases e2 : fitCb (3 * i + 2) (s 125 (3 * i + 2)) with
              | false =>
                refine fin (Int32.ofNat (3 * i + 2)) A (by rw [cn, hx, ← f2, e2]; rfl) (CrE.bad (by omega) (Or.inl ⟨3 * i + 2, q2, hf2, e2, rfl⟩) A2)
              | true =>
                have hN : B_readsCrew_7 i (a, Int32.ofNat (3 * i)) = .inl (A, Int32.ofNat (3 * (i + 1))) := by
                  rw [hB, hD, cn, hx, ← f2, e2]
                  show (.inl (A, Int32.ofNat (3 * i + 2) + 1) : (SG × Int32) ⊕ (Int32 × SG)) = _
                  rw [ofn_s, show 3 * i + 2 + 1 = 3 * (i + 1) by omega]
                rw [itx_l _ hN]
                exact ih (i + 1) A (by omega) (by omega) A4 A5 A2 (fun j hj => by
                  by_cases w : j = 3 * i + 2
                  · rw [w]; exact e2
                  · exact hf2 j (by omega)) hs2
            · have eL : (s 124 0).toNatClampNeg = 3 * i + 2 := by omega
              have el : s 124 0 = Int32.ofNat (3 * i + 2) := by rw [← eL]; exact (ofn_cl _ h0).symm
              have cn : m_cmp .ne (Int32.ofNat (3 * i + 2)) (s 124 0) = false := by
                rw [el]
                cases c : m_cmp .ne (Int32.ofNat (3 * i + 2)) (Int32.ofNat (3 * i + 2)) with
                | false => rfl
                | true => exact absurd rfl (m_ne_iff.mp c)
              have hN : rowN (s 124 0) (-1) = Int32.ofNat (i + 1) := by
                show (s 124 0 + 1) / 3 = _
                rw [el]
                exact rowI i hi8
              refine fin (-1) (uset A 123 2 (Int32.ofNat i + 1)) (by rw [cn]; rfl) ⟨Or.inr ⟨fun j hj => hf2 j (by omega), by rw [if_pos (Or.inr (by omega))]⟩, ?_, fun k hk => ?_⟩
              · rw [uset_eq, hN, ofn_s]
              · rw [hN, Int32.toNatClampNeg_ofNat_of_lt (by omega)] at hk
                rw [uset_na (by decide), uset_na (by decide)]
                exact hs2 k hk
        · have eL : (s 124 0).toNatClampNeg = 3 * i + 1 := by omega
          have hw : F_byteAt_0 a (Int32.ofNat (3 * i) + 1) = -1 := by rw [p1]; exact by0n (by rw [a4]; omega) (by omega)
          have hr := rrM hi8 (Int32.ofNat (3 * i)) _ _ hv hw
          rw [← f0, e0] at hr
          refine fin (Int32.ofNat (3 * i + 1)) a (by unfold crD; rw [hr]; show (.inr (Int32.ofNat (3 * i) + 1, a) : (SG × Int32) ⊕ (Int32 × SG)) = _; rw [p1]) (CrE.bad (by omega) (Or.inr ⟨fun j hj => hf1 j (by omega), by rw [if_neg (by omega), eL]⟩) a2)
    · have eL : (s 124 0).toNatClampNeg = 3 * i := by omega
      have c1 : m_cmp .lt (Int32.ofNat (3 * i)) (a 124 0) = false := by
        cases c : m_cmp .lt (Int32.ofNat (3 * i)) (a 124 0) with
        | false => rfl
        | true =>
          have := m_lt_iff.mp c
          rw [ofn_int (by omega), a4] at this
          have q : ¬ 3 * i < (s 124 0).toInt.toNat := q
          omega
      by_cases z : i = 0
      · subst z
        have el : s 124 0 = 0 := by rw [← ofn_cl _ h0, eL]; rfl
        refine fin (-1) a (by rw [crB, c1]; rfl) ⟨Or.inr ⟨fun j hj => absurd hj (by omega), by rw [if_pos (Or.inl (by omega))]⟩, ?_, fun k hk => ?_⟩
        · rw [a2, el]; rfl
        · rw [el] at hk
          exact absurd hk (by show ¬ k < 0; omega)
      · have c2 : m_cmp .le (Int32.ofNat (3 * i)) 0 = false := by
          cases c : m_cmp .le (Int32.ofNat (3 * i)) 0 with
          | false => rfl
          | true =>
            have := mle_iff.mp c
            rw [ofn_int (by omega)] at this
            have e : (0 : Int32).toInt = 0 := by decide
            omega
        have hv : F_byteAt_0 a (Int32.ofNat (3 * i)) = -1 := by0n (by rw [a4]; omega) (by omega)
        have hr := rrM hi8 (Int32.ofNat (3 * i)) _ _ hv rfl
        refine fin (Int32.ofNat (3 * i)) a (by rw [crB, c1, c2]; unfold crD; rw [hr]; show (.inr (Int32.ofNat (3 * i) + 0, a) : (SG × Int32) ⊕ (Int32 × SG)) = _; rw [p0]) (CrE.bad (by omega) (Or.inr ⟨fun j hj => hf j (by omega), by rw [if_neg (by omega), eL]⟩) a2)
theorem rd_C {s : SG} (h0 : 0 ≤ (s 124 0).toInt) (hL : (s 124 0).toNatClampNeg ≤ 23) : CrE s (F_readsCrew s).1 (F_readsCrew s).2 := by
  obtain ⟨j, x, z, h1, h2⟩ := rcM h0 hL 9 0 (uset s 123 2 0) (by omega) (by omega) rfl (fun _ => rfl) rfl (fun j hj => absurd hj (by omega)) (fun k hk => absurd hk (by omega))
  have e : F_readsCrew s = (x, z) := by
    unfold F_readsCrew
    rw [show itx B_readsCrew_7 0 9 (uset s 123 2 0, (0 : Int32)) = .inr (j, (x, z)) from h1]
    rfl
  rw [e]
  exact h2
