/-! the class: what befalls, who pulls (printed by wip/u/mk_row.py) -/
def offC (mask : Int32) (e : Nat) : Bool := !(m_cmp .ne ((mask >>> ((Int32.ofNat e) &&& 31)) &&& 1) 0)
def befC (s : SG) (mask : Int32) (t : Nat) : Int32 × Int32 × Int32 := bef (s 2 3).toNatClampNeg (s 3) (s 4) (s 5) (offC mask) t
/-- the events are such as may be -/
def evC (s : SG) : Prop := ∀ e, e < (s 2 3).toNatClampNeg → (s 3 e = 0 ∨ s 3 e = 1 ∨ s 3 e = 2) ∧ ∃ m, m < 24 ∧ s 4 e = Int32.ofNat m
theorem bit255 : ∀ k, k < 8 → m_cmp .ne (((255 : Int32) >>> ((Int32.ofNat k) &&& 31)) &&& 1) 0 = true := by decide
theorem ofn_inj {m t : Nat} (hm : m < 24) (ht : t < 24) (e : Int32.ofNat m = Int32.ofNat t) : m = t := by
  have h := congrArg Int32.toInt e
  rw [ofn_int (by omega), ofn_int (by omega)] at h
  omega
theorem fil_eq {s : SG} {a n k : Nat} {v : Int32} (h : k < n) : fil s a n v a k = v := if_pos ⟨rfl, h⟩
theorem fil_na {s : SG} {a n b k : Nat} {v : Int32} (h : b ≠ a) : fil s a n v b k = s b k := if_neg (fun q => h q.1)
theorem teC_a (s : SG) (mask : Int32) (hev : evC s) : ∀ t, t < 24 → (F_takeEvents_a s mask 50 t, F_takeEvents_a s mask 51 t, F_takeEvents_a s mask 52 t) = befC s mask t := by
  have key : ∀ i, i ≤ (s 2 3).toNatClampNeg → Fr W_takeEvents_a s (itr (B_takeEvents_a_14 mask) 0 i (fil (fil (fil s 50 24 0) 51 24 0) 52 24 0)) ∧ ∀ t, t < 24 → (itr (B_takeEvents_a_14 mask) 0 i (fil (fil (fil s 50 24 0) 51 24 0) 52 24 0) 50 t, itr (B_takeEvents_a_14 mask) 0 i (fil (fil (fil s 50 24 0) 51 24 0) 52 24 0) 51 t, itr (B_takeEvents_a_14 mask) 0 i (fil (fil (fil s 50 24 0) 51 24 0) 52 24 0) 52 t) = itr (bstep (s 3) (s 4) (s 5) (offC mask) t) 0 i (0, 0, 0) := by
    intro i
    induction i with
    | zero =>
      intro _
      refine ⟨Fr.fil (by rfl) (Fr.fil (by rfl) (Fr.fil (by rfl) (Fr.rf _ _))), fun t ht => ?_⟩
      show (fil (fil (fil s 50 24 0) 51 24 0) 52 24 0 50 t, fil (fil (fil s 50 24 0) 51 24 0) 52 24 0 51 t, fil (fil (fil s 50 24 0) 51 24 0) 52 24 0 52 t) = (0, 0, 0)
      rw [fil_na (by decide), fil_na (by decide), fil_eq ht, fil_na (by decide), fil_eq ht, fil_eq ht]
    | succ i ih =>
      intro hi
      obtain ⟨f, e⟩ := ih (by omega)
      obtain ⟨hk, m, hm, em⟩ := hev i (by omega)
      rw [itr_0]
      generalize itr (B_takeEvents_a_14 mask) 0 i (fil (fil (fil s 50 24 0) 51 24 0) 52 24 0) = a at f e
      refine ⟨f.tr (fr_B_takeEvents_a_14 mask i a), fun t ht => ?_⟩
      rw [itr_0, ← e t ht]
      have hM : (a 4 i).toNatClampNeg = m := by rw [f 4 i rfl, em]; exact Int32.toNatClampNeg_ofNat_of_lt (by omega)
      have hcm : m_cmp .ne (s 4 i) (Int32.ofNat t) = !(decide (m = t)) := by
        rw [em]
        by_cases q : m = t
        · subst q
          rw [decide_eq_true rfl]
          cases c : m_cmp .ne (Int32.ofNat m) (Int32.ofNat m) with
          | false => rfl
          | true => exact absurd rfl (m_ne_iff.mp c)
        · rw [decide_eq_false q]
          exact m_ne_iff.mpr (fun h => q (ofn_inj hm ht h))
      unfold B_takeEvents_a_14 bstep
      dsimp only
      rw [hM, f 3 i rfl, f 5 i rfl, hcm]
      unfold offC
      cases hb : m_cmp .ne ((mask >>> ((Int32.ofNat i) &&& 31)) &&& 1) 0 with
      | false => cases decide (m = t) <;> rfl
      | true =>
        by_cases q : m = t
        · subst q
          rw [decide_eq_true rfl]
          rcases hk with h | h | h
          · rw [h]
            show (uset a 50 m _ 50 m, a 51 m, a 52 m) = (a 50 m ||| _, a 51 m + 0, a 52 m + 0)
            rw [uset_eq, Int32.add_zero, Int32.add_zero]
            rfl
          · rw [h]
            show (a 50 m, uset a 51 m _ 51 m, a 52 m) = (a 50 m ||| 0, a 51 m + _, a 52 m + 0)
            rw [uset_eq, Int32.add_zero, Int32.or_zero]
            rfl
          · rw [h]
            show (a 50 m, a 51 m, uset a 52 m _ 52 m) = (a 50 m ||| 0, a 51 m + 0, a 52 m + _)
            rw [uset_eq, Int32.add_zero, Int32.or_zero]
            rfl
        · rw [decide_eq_false q]
          have q2 : ¬ t = m := fun w => q w.symm
          rcases hk with h | h | h
          · rw [h]
            show (uset a 50 m _ 50 t, a 51 t, a 52 t) = (a 50 t, a 51 t, a 52 t)
            rw [uset_nj q2]
          · rw [h]
            show (a 50 t, uset a 51 m _ 51 t, a 52 t) = (a 50 t, a 51 t, a 52 t)
            rw [uset_nj q2]
          · rw [h]
            show (a 50 t, a 51 t, uset a 52 m _ 52 t) = (a 50 t, a 51 t, a 52 t)
            rw [uset_nj q2]
  exact (key _ (Nat.le_refl _)).2
theorem trC_a (s : SG) : ∀ k, k < (s 10 0).toNatClampNeg → F_takeRowers_a s 48 k = frs (s 11 k) (s 12 k) ∧ F_takeRowers_a s 49 k = ltr (s 11 k) (s 12 k) ∧ F_takeRowers_a s 46 k = 0 ∧ F_takeRowers_a s 47 k = 0 := by
  have key : ∀ i, i ≤ (s 10 0).toNatClampNeg → Fr W_takeRowers_a s (itr B_takeRowers_a_2 0 i s) ∧ ∀ k, k < i → itr B_takeRowers_a_2 0 i s 48 k = frs (s 11 k) (s 12 k) ∧ itr B_takeRowers_a_2 0 i s 49 k = ltr (s 11 k) (s 12 k) ∧ itr B_takeRowers_a_2 0 i s 46 k = 0 ∧ itr B_takeRowers_a_2 0 i s 47 k = 0 := by
    intro i
    induction i with
    | zero => exact fun _ => ⟨Fr.rf _ _, fun k hk => absurd hk (by omega)⟩
    | succ i ih =>
      intro hi
      obtain ⟨f, e⟩ := ih (by omega)
      rw [itr_0]
      generalize itr B_takeRowers_a_2 0 i s = a at f e
      refine ⟨f.tr (fr_B_takeRowers_a_2 i a), fun k hk => ?_⟩
      have hB : B_takeRowers_a_2 i a = uset (uset (uset (uset a 48 i (frs (a 11 i) (a 12 i))) 49 i (ltr (a 11 i) (a 12 i))) 46 i 0) 47 i 0 := rfl
      rw [hB, f 11 i rfl, f 12 i rfl]
      by_cases q : k = i
      · subst q
        refine ⟨?_, ?_, ?_, ?_⟩
        · rw [uset_na (by decide), uset_na (by decide), uset_na (by decide), uset_eq]
        · rw [uset_na (by decide), uset_na (by decide), uset_eq]
        · rw [uset_na (by decide), uset_eq]
        · rw [uset_eq]
      · obtain ⟨e1, e2, e3, e4⟩ := e k (by omega)
        rw [uset_nj q, uset_nj q, uset_nj q, uset_nj q, uset_nj q, uset_nj q, uset_nj q, uset_nj q, uset_nj q, uset_nj q, uset_nj q, uset_nj q, uset_nj q, uset_nj q, uset_nj q, uset_nj q]
        exact ⟨e1, e2, e3, e4⟩
  exact (key _ (Nat.le_refl _)).2
theorem teC_b (s : SG) (mask : Int32) (hev : evC s) : ∀ t, t < 24 → (F_takeEvents_b s mask 93 t, F_takeEvents_b s mask 94 t, F_takeEvents_b s mask 95 t) = befC s mask t := by
  have key : ∀ i, i ≤ (s 2 3).toNatClampNeg → Fr W_takeEvents_b s (itr (B_takeEvents_b_14 mask) 0 i (fil (fil (fil s 93 24 0) 94 24 0) 95 24 0)) ∧ ∀ t, t < 24 → (itr (B_takeEvents_b_14 mask) 0 i (fil (fil (fil s 93 24 0) 94 24 0) 95 24 0) 93 t, itr (B_takeEvents_b_14 mask) 0 i (fil (fil (fil s 93 24 0) 94 24 0) 95 24 0) 94 t, itr (B_takeEvents_b_14 mask) 0 i (fil (fil (fil s 93 24 0) 94 24 0) 95 24 0) 95 t) = itr (bstep (s 3) (s 4) (s 5) (offC mask) t) 0 i (0, 0, 0) := by
    intro i
    induction i with
    | zero =>
      intro _
      refine ⟨Fr.fil (by rfl) (Fr.fil (by rfl) (Fr.fil (by rfl) (Fr.rf _ _))), fun t ht => ?_⟩
      show (fil (fil (fil s 93 24 0) 94 24 0) 95 24 0 93 t, fil (fil (fil s 93 24 0) 94 24 0) 95 24 0 94 t, fil (fil (fil s 93 24 0) 94 24 0) 95 24 0 95 t) = (0, 0, 0)
      rw [fil_na (by decide), fil_na (by decide), fil_eq ht, fil_na (by decide), fil_eq ht, fil_eq ht]
    | succ i ih =>
      intro hi
      obtain ⟨f, e⟩ := ih (by omega)
      obtain ⟨hk, m, hm, em⟩ := hev i (by omega)
      rw [itr_0]
      generalize itr (B_takeEvents_b_14 mask) 0 i (fil (fil (fil s 93 24 0) 94 24 0) 95 24 0) = a at f e
      refine ⟨f.tr (fr_B_takeEvents_b_14 mask i a), fun t ht => ?_⟩
      rw [itr_0, ← e t ht]
      have hM : (a 4 i).toNatClampNeg = m := by rw [f 4 i rfl, em]; exact Int32.toNatClampNeg_ofNat_of_lt (by omega)
      have hcm : m_cmp .ne (s 4 i) (Int32.ofNat t) = !(decide (m = t)) := by
        rw [em]
        by_cases q : m = t
        · subst q
          rw [decide_eq_true rfl]
          cases c : m_cmp .ne (Int32.ofNat m) (Int32.ofNat m) with
          | false => rfl
          | true => exact absurd rfl (m_ne_iff.mp c)
        · rw [decide_eq_false q]
          exact m_ne_iff.mpr (fun h => q (ofn_inj hm ht h))
      unfold B_takeEvents_b_14 bstep
      dsimp only
      rw [hM, f 3 i rfl, f 5 i rfl, hcm]
      unfold offC
      cases hb : m_cmp .ne ((mask >>> ((Int32.ofNat i) &&& 31)) &&& 1) 0 with
      | false => cases decide (m = t) <;> rfl
      | true =>
        by_cases q : m = t
        · subst q
          rw [decide_eq_true rfl]
          rcases hk with h | h | h
          · rw [h]
            show (uset a 93 m _ 93 m, a 94 m, a 95 m) = (a 93 m ||| _, a 94 m + 0, a 95 m + 0)
            rw [uset_eq, Int32.add_zero, Int32.add_zero]
            rfl
          · rw [h]
            show (a 93 m, uset a 94 m _ 94 m, a 95 m) = (a 93 m ||| 0, a 94 m + _, a 95 m + 0)
            rw [uset_eq, Int32.add_zero, Int32.or_zero]
            rfl
          · rw [h]
            show (a 93 m, a 94 m, uset a 95 m _ 95 m) = (a 93 m ||| 0, a 94 m + 0, a 95 m + _)
            rw [uset_eq, Int32.add_zero, Int32.or_zero]
            rfl
        · rw [decide_eq_false q]
          have q2 : ¬ t = m := fun w => q w.symm
          rcases hk with h | h | h
          · rw [h]
            show (uset a 93 m _ 93 t, a 94 t, a 95 t) = (a 93 t, a 94 t, a 95 t)
            rw [uset_nj q2]
          · rw [h]
            show (a 93 t, uset a 94 m _ 94 t, a 95 t) = (a 93 t, a 94 t, a 95 t)
            rw [uset_nj q2]
          · rw [h]
            show (a 93 t, a 94 t, uset a 95 m _ 95 t) = (a 93 t, a 94 t, a 95 t)
            rw [uset_nj q2]
  exact (key _ (Nat.le_refl _)).2
theorem trC_b (s : SG) : ∀ k, k < (s 53 0).toNatClampNeg → F_takeRowers_b s 91 k = frs (s 54 k) (s 55 k) ∧ F_takeRowers_b s 92 k = ltr (s 54 k) (s 55 k) ∧ F_takeRowers_b s 89 k = 0 ∧ F_takeRowers_b s 90 k = 0 := by
  have key : ∀ i, i ≤ (s 53 0).toNatClampNeg → Fr W_takeRowers_b s (itr B_takeRowers_b_2 0 i s) ∧ ∀ k, k < i → itr B_takeRowers_b_2 0 i s 91 k = frs (s 54 k) (s 55 k) ∧ itr B_takeRowers_b_2 0 i s 92 k = ltr (s 54 k) (s 55 k) ∧ itr B_takeRowers_b_2 0 i s 89 k = 0 ∧ itr B_takeRowers_b_2 0 i s 90 k = 0 := by
    intro i
    induction i with
    | zero => exact fun _ => ⟨Fr.rf _ _, fun k hk => absurd hk (by omega)⟩
    | succ i ih =>
      intro hi
      obtain ⟨f, e⟩ := ih (by omega)
      rw [itr_0]
      generalize itr B_takeRowers_b_2 0 i s = a at f e
      refine ⟨f.tr (fr_B_takeRowers_b_2 i a), fun k hk => ?_⟩
      have hB : B_takeRowers_b_2 i a = uset (uset (uset (uset a 91 i (frs (a 54 i) (a 55 i))) 92 i (ltr (a 54 i) (a 55 i))) 89 i 0) 90 i 0 := rfl
      rw [hB, f 54 i rfl, f 55 i rfl]
      by_cases q : k = i
      · subst q
        refine ⟨?_, ?_, ?_, ?_⟩
        · rw [uset_na (by decide), uset_na (by decide), uset_na (by decide), uset_eq]
        · rw [uset_na (by decide), uset_na (by decide), uset_eq]
        · rw [uset_na (by decide), uset_eq]
        · rw [uset_eq]
      · obtain ⟨e1, e2, e3, e4⟩ := e k (by omega)
        rw [uset_nj q, uset_nj q, uset_nj q, uset_nj q, uset_nj q, uset_nj q, uset_nj q, uset_nj q, uset_nj q, uset_nj q, uset_nj q, uset_nj q, uset_nj q, uset_nj q, uset_nj q, uset_nj q]
        exact ⟨e1, e2, e3, e4⟩
  exact (key _ (Nat.le_refl _)).2
theorem trC_c (s : SG) : ∀ k, k < (s 10 0).toNatClampNeg → F_takeRowers_c s 91 k = frs (s 11 k) (s 12 k) ∧ F_takeRowers_c s 92 k = ltr (s 11 k) (s 12 k) ∧ F_takeRowers_c s 89 k = 0 ∧ F_takeRowers_c s 90 k = 0 := by
  have key : ∀ i, i ≤ (s 10 0).toNatClampNeg → Fr W_takeRowers_c s (itr B_takeRowers_c_2 0 i s) ∧ ∀ k, k < i → itr B_takeRowers_c_2 0 i s 91 k = frs (s 11 k) (s 12 k) ∧ itr B_takeRowers_c_2 0 i s 92 k = ltr (s 11 k) (s 12 k) ∧ itr B_takeRowers_c_2 0 i s 89 k = 0 ∧ itr B_takeRowers_c_2 0 i s 90 k = 0 := by
    intro i
    induction i with
    | zero => exact fun _ => ⟨Fr.rf _ _, fun k hk => absurd hk (by omega)⟩
    | succ i ih =>
      intro hi
      obtain ⟨f, e⟩ := ih (by omega)
      rw [itr_0]
      generalize itr B_takeRowers_c_2 0 i s = a at f e
      refine ⟨f.tr (fr_B_takeRowers_c_2 i a), fun k hk => ?_⟩
      have hB : B_takeRowers_c_2 i a = uset (uset (uset (uset a 91 i (frs (a 11 i) (a 12 i))) 92 i (ltr (a 11 i) (a 12 i))) 89 i 0) 90 i 0 := rfl
      rw [hB, f 11 i rfl, f 12 i rfl]
      by_cases q : k = i
      · subst q
        refine ⟨?_, ?_, ?_, ?_⟩
        · rw [uset_na (by decide), uset_na (by decide), uset_na (by decide), uset_eq]
        · rw [uset_na (by decide), uset_na (by decide), uset_eq]
        · rw [uset_na (by decide), uset_eq]
        · rw [uset_eq]
      · obtain ⟨e1, e2, e3, e4⟩ := e k (by omega)
        rw [uset_nj q, uset_nj q, uset_nj q, uset_nj q, uset_nj q, uset_nj q, uset_nj q, uset_nj q, uset_nj q, uset_nj q, uset_nj q, uset_nj q, uset_nj q, uset_nj q, uset_nj q, uset_nj q]
        exact ⟨e1, e2, e3, e4⟩
  exact (key _ (Nat.le_refl _)).2
