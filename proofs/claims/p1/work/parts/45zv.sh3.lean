/-! sheets: all that is kept stays alike; answers alike -/
def WS : LW := [(115, 122, none), (148, 152, none), (0, 0, some 4), (123, 123, some 46)]
theorem KF.sh {s f : SG} (h : KF s) (fr : Fr WS s f) (k : KH f) : KF f := ⟨⟨h.1.1.ag (fr.ag DT rfl), h.1.2.1.ag (fr.ag DC rfl), h.1.2.2.1.ag (fr.ag DE rfl), h.1.2.2.2.1.ag (fr.ag DS rfl), k⟩, h.2.ag (fr.ag DX rfl)⟩
def DHs : LW := [(115, 122, none), (148, 151, none)]
theorem KHs_ag {s f : SG} (h : ∀ q, q < 4 → KHq s q) (a : Ag DHs s f) : ∀ q, q < 4 → KHq f q := fun q hq => (h q hq).ag hq (fun j => a _ j (inW_r 115 122 (by omega) (by omega) rfl)) (fun j => a _ j (inW_r 115 122 (by omega) (by omega) rfl)) (a 148 q rfl) (a 149 q rfl) (a 150 q rfl) (fun i _ => a 151 _ rfl)
/-- one sheet changed -/
theorem KHs_upd {s f : SG} {q : Nat} (h : ∀ q, q < 4 → KHq s q) (u1 : ∀ b j, b ≠ 115 + 2 * q → b ≠ 116 + 2 * q → 115 ≤ b → b ≤ 122 → f b j = s b j) (u2 : ∀ b j, 148 ≤ b → b ≤ 150 → j ≠ q → f b j = s b j) (u3 : ∀ j, ¬ (60 * q ≤ j ∧ j < 60 * q + 60) → f 151 j = s 151 j) (own : KHq f q) : ∀ p, p < 4 → KHq f p := fun p hp => by
  by_cases e : p = q
  · rw [e]; exact own
  · exact (h p hp).ag hp (fun j => u1 _ j (by omega) (by omega) (by omega) (by omega)) (fun j => u1 _ j (by omega) (by omega) (by omega) (by omega)) (u2 148 p (by omega) (by omega) e) (u2 149 p (by omega) (by omega) e) (u2 150 p (by omega) (by omega) e) (fun i hi => u3 _ (by omega))
theorem q_find {s : SG} (h : KF s) (v : Int32) : QK (F_find s v) (fun y => F_meets y v) := by
  unfold QK
  have e : (F_meets (F_find s v).2 v).2 = uset (uset s 0 4 v) 123 46 v := rfl
  rw [e]
  have fr : Fr [(0, 0, some 4), (123, 123, some 46)] s (uset (uset s 0 4 v) 123 46 v) := Fr.uset rfl (Fr.uset rfl (Fr.rf _ _))
  exact ⟨h.sh (fr.wk rfl) ⟨KHs_ag h.1.2.2.2.2.1 (fr.ag DHs rfl), rfl⟩, rfl⟩
theorem idx60 {q i : Nat} (hq : q < 4) (hi : i < 200) : ((60 * Int32.ofNat q) + Int32.ofNat i).toNatClampNeg = 60 * q + i := by
  rw [show (60 * Int32.ofNat q) + Int32.ofNat i = Int32.ofNat (60 * q + i) from ofn_add (ofn_mul rfl rfl) rfl]
  exact ofn_c (by omega)
theorem shM {q : Nat} (hq : q < 4) (y : SG) : ∀ n, n ≤ 60 → (∀ i, i < n → itr (B_sheet_36 (Int32.ofNat q)) 0 n y 151 (60 * q + i) = 0) ∧ ∀ b j, ¬ (b = 151 ∧ 60 * q ≤ j ∧ j < 60 * q + n) → itr (B_sheet_36 (Int32.ofNat q)) 0 n y b j = y b j := by
  intro n
  induction n with
  | zero => exact fun _ => ⟨fun i hi => absurd hi (by omega), fun b j _ => rfl⟩
  | succ n ih =>
    intro hn
    obtain ⟨h1, h2⟩ := ih (by omega)
    rw [itr_0]
    generalize itr (B_sheet_36 (Int32.ofNat q)) 0 n y = a at *
    have e : B_sheet_36 (Int32.ofNat q) n a = uset a 151 (60 * q + n) 0 := by
      unfold B_sheet_36
      rw [idx60 hq (by omega)]
    rw [e]
    refine ⟨fun i hi => ?_, fun b j hb => ?_⟩
    · by_cases w : i = n
      · rw [w]; exact uset_eq _ _ _ _
      · rw [uset_nj (by omega)]; exact h1 i (by omega)
    · rw [uset_ne (by omega)]; exact h2 b j (by omega)
theorem same_q {s : SG} {m : SG → Int32 × SG} (h : KF s) {c : Int32 × SG} {v : Int32} (a : c = (v, s)) (b : m s = (v, s)) : QK c m := by
  unfold QK
  rw [a]
  show KF (m s).2 ∧ v = (m s).1
  rw [b]
  exact ⟨h, rfl⟩
theorem find_q {s : SG} {m : SG → Int32 × SG} (h : KF s) {c : Int32 × SG} {v : Int32} (a : c = F_find s v) (b : m (F_find s v).2 = F_meets (F_find s v).2 v) : QK c m := by
  have k := q_find h v
  unfold QK at *
  rw [a, b]
  exact k
theorem q_sheet {s : SG} (h : KF s) (s_ form n : Int32) : QK (F_csheet s s_ form n) (fun y => F_sheet y s_ form n) := by
  have eC := cs_csheet s s_ form n
  have eM : ∀ y, F_sheet y s_ form n = bif bl s_ 4 then (bif bl form 3 then (bif m_cmp .le n 60 then (bif m_cmp .ge n 0 then (n, itr (B_sheet_36 s_) 0 60 (uset (uset (uset y 148 s_.toNatClampNeg 1) 149 s_.toNatClampNeg form) 150 s_.toNatClampNeg n)) else F_meets y 5) else ((-2), y)) else ((-2), y)) else ((-2), y) := fun y => by
    dsimp only [F_sheet]
    rw [isS_e, in_e y form 2 3 rfl]
    cases bl s_ 4
    · rfl
    · cases bl form 3 <;> rfl
  cases q1 : bl s_ 4 with
  | false =>
    rw [q1] at eC
    exact same_q h eC (by show F_sheet s s_ form n = _; rw [eM, q1]; rfl)
  | true =>
    rw [q1] at eC
    have eC : _ = G_csheet s_.toNatClampNeg s form n := eC
    obtain ⟨es, hq⟩ := bl_ofn q1
    have hq : s_.toNatClampNeg < 4 := hq
    generalize s_.toNatClampNeg = q at *
    unfold G_csheet at eC
    cases q2 : bl form 3 with
    | false =>
      rw [q2] at eC
      exact same_q h eC (by show F_sheet s s_ form n = _; rw [eM, q1, q2]; rfl)
    | true =>
      cases q3 : m_cmp .le n 60 with
      | false =>
        rw [q2, q3] at eC
        exact same_q h eC (by show F_sheet s s_ form n = _; rw [eM, q1, q2, q3]; rfl)
      | true =>
        cases q4 : m_cmp .ge n 0 with
        | false =>
          rw [q2, q3, q4] at eC
          exact find_q h eC (by show F_sheet _ s_ form n = _; rw [eM, q1, q2, q3, q4]; rfl)
        | true =>
          rw [q2, q3, q4] at eC
          have eC : F_csheet s s_ form n = (n, uset (uset (uset (fil s (116 + 2 * q) 60 0) (115 + 2 * q) 1 0) (115 + 2 * q) 2 form) (115 + 2 * q) 3 n) := eC
          unfold QK
          rw [eC]
          have fc : Fr [(115, 122, none)] s (uset (uset (uset (fil s (116 + 2 * q) 60 0) (115 + 2 * q) 1 0) (115 + 2 * q) 2 form) (115 + 2 * q) 3 n) := fun b j hb => by
            have hb : ¬ (115 ≤ b ∧ b ≤ 122) := fun w => by rw [inW_r 115 122 w.1 w.2 rfl] at hb; cases hb
            rw [uset_na (by omega), uset_na (by omega), uset_na (by omega)]
            exact fil_na (by omega)
          have c1 : uset (uset (uset (fil s (116 + 2 * q) 60 0) (115 + 2 * q) 1 0) (115 + 2 * q) 2 form) (115 + 2 * q) 3 n (115 + 2 * q) 1 = 0 := (uset_nj (by decide)).trans ((uset_nj (by decide)).trans (uset_eq _ _ _ _))
          have c2 : uset (uset (uset (fil s (116 + 2 * q) 60 0) (115 + 2 * q) 1 0) (115 + 2 * q) 2 form) (115 + 2 * q) 3 n (115 + 2 * q) 2 = form := (uset_nj (by decide)).trans (uset_eq _ _ _ _)
          have c3 : uset (uset (uset (fil s (116 + 2 * q) 60 0) (115 + 2 * q) 1 0) (115 + 2 * q) 2 form) (115 + 2 * q) 3 n (115 + 2 * q) 3 = n := uset_eq _ _ _ _
          have c4 : ∀ i, i < 60 → uset (uset (uset (fil s (116 + 2 * q) 60 0) (115 + 2 * q) 1 0) (115 + 2 * q) 2 form) (115 + 2 * q) 3 n (116 + 2 * q) i = 0 := fun i hi => by
            rw [uset_na (by omega), uset_na (by omega), uset_na (by omega)]
            exact fil_eq hi
          have c5 : ∀ b j, b ≠ 115 + 2 * q → b ≠ 116 + 2 * q → uset (uset (uset (fil s (116 + 2 * q) 60 0) (115 + 2 * q) 1 0) (115 + 2 * q) 2 form) (115 + 2 * q) 3 n b j = s b j := fun b j b1 b2 => by
            rw [uset_na b1, uset_na b1, uset_na b1]
            exact fil_na b2
          generalize uset (uset (uset (fil s (116 + 2 * q) 60 0) (115 + 2 * q) 1 0) (115 + 2 * q) 2 form) (115 + 2 * q) 3 n = c at *
          have eM2 := eM c
          rw [q1, q2, q3, q4, es] at eM2
          have eM2 : F_sheet c (Int32.ofNat q) form n = (n, itr (B_sheet_36 (Int32.ofNat q)) 0 60 (uset (uset (uset c 148 q 1) 149 q form) 150 q n)) := eM2
          rw [es]
          show KF (F_sheet c (Int32.ofNat q) form n).2 ∧ n = (F_sheet c (Int32.ofNat q) form n).1
          rw [eM2]
          dsimp only
          obtain ⟨m1, m2⟩ := shM hq (uset (uset (uset c 148 q 1) 149 q form) 150 q n) 60 (Nat.le_refl _)
          generalize itr (B_sheet_36 (Int32.ofNat q)) 0 60 (uset (uset (uset c 148 q 1) 149 q form) 150 q n) = f at *
          have f1 : f 148 q = 1 := (m2 148 q (by omega)).trans ((uset_na (by decide)).trans ((uset_na (by decide)).trans (uset_eq _ _ _ _)))
          have f2 : f 149 q = form := (m2 149 q (by omega)).trans ((uset_na (by decide)).trans (uset_eq _ _ _ _))
          have f3 : f 150 q = n := (m2 150 q (by omega)).trans (uset_eq _ _ _ _)
          have f4 : ∀ b j, b ≠ 148 → b ≠ 149 → b ≠ 150 → b ≠ 151 → f b j = c b j := fun b j b1 b2 b3 b4 => by
            rw [m2 b j (by omega), uset_na b3, uset_na b2, uset_na b1]
          have n0 := m_ge_iff.mp q4
          have n1 := mle_iff.mp q3
          have e0 : (0 : Int32).toInt = 0 := by decide
          have e60 : (60 : Int32).toInt = 60 := by decide
          refine ⟨h.sh ?_ ⟨KHs_upd h.1.2.2.2.2.1 (q := q) (fun b j b1 b2 b3 b4 => ?_) (fun b j b1 b2 b3 => ?_) (fun j hj => ?_) ⟨?_, ?_, ?_, ?_, ?_, fun i hi => ?_⟩, ?_⟩, rfl⟩
          · refine (fc.wk rfl).tr (s1 := c) (fun b j hb => ?_)
            have hb : ¬ (148 ≤ b ∧ b ≤ 152) := fun w => by rw [inW_r 148 152 w.1 w.2 rfl] at hb; cases hb
            exact f4 b j (by omega) (by omega) (by omega) (by omega)
          · rw [f4 b j (by omega) (by omega) (by omega) (by omega)]; exact c5 b j b1 b2
          · rw [m2 b j (by omega), uset_ne (by omega), uset_ne (by omega), uset_ne (by omega)]; exact c5 b j (by omega) (by omega)
          · rw [m2 151 j (by omega), uset_na (by decide), uset_na (by decide), uset_na (by decide)]; exact c5 _ j (by omega) (by omega)
          · rw [f4 _ 1 (by omega) (by omega) (by omega) (by omega), c1, f1]; rfl
          · rw [f4 _ 2 (by omega) (by omega) (by omega) (by omega), c2, f2]
          · rw [f4 _ 3 (by omega) (by omega) (by omega) (by omega), c3, f3]
          · rw [f3]; omega
          · rw [f3]; show n.toInt.toNat ≤ 60; omega
          · rw [f4 _ i (by omega) (by omega) (by omega) (by omega), c4 i hi, m1 i hi]
          · rw [f4 0 4 (by decide) (by decide) (by decide) (by decide), f4 123 46 (by decide) (by decide) (by decide) (by decide), c5 0 4 (by omega) (by omega), c5 123 46 (by omega) (by omega)]; exact h.1.2.2.2.2.2
theorem q_lose {s : SG} (h : KF s) (s_ : Int32) : QK (F_close s s_) (fun y => F_lose y s_) := by
  have eC := cs_close s s_
  have eM : ∀ y, F_lose y s_ = bif bl s_ 4 then (bif m_cmp .ne (y 148 s_.toNatClampNeg) 0 then (y 150 s_.toNatClampNeg, uset y 148 s_.toNatClampNeg 0) else F_meets y 1) else ((-2), y) := fun y => by
    dsimp only [F_lose]
    rw [isS_n]
  cases q1 : bl s_ 4 with
  | false =>
    rw [q1] at eC
    exact same_q h eC (by show F_lose s s_ = _; rw [eM, q1]; rfl)
  | true =>
    rw [q1] at eC
    have eC : _ = G_close s_.toNatClampNeg s := eC
    obtain ⟨es, hq⟩ := bl_ofn q1
    have hq : s_.toNatClampNeg < 4 := hq
    generalize s_.toNatClampNeg = q at *
    obtain ⟨k1, k2, k3, k4, k5, k6⟩ := h.1.2.2.2.2.1 q hq
    unfold G_close at eC
    rw [eq_ne, k1, Bool.not_not] at eC
    cases q2 : m_cmp .ne (s 148 q) 0 with
    | false =>
      rw [q2] at eC
      have f148 : (F_find s 1).2 148 q = s 148 q := rfl
      exact find_q h eC (by show F_lose _ s_ = _; rw [eM, q1, f148, q2]; rfl)
    | true =>
      rw [q2] at eC k1
      have eC : F_close s s_ = (s (115 + 2 * q) 3, uset s (115 + 2 * q) 1 1) := eC
      unfold QK
      rw [eC]
      have c148 : uset s (115 + 2 * q) 1 1 148 q = s 148 q := uset_na (by omega)
      have c150 : uset s (115 + 2 * q) 1 1 150 q = s 150 q := uset_na (by omega)
      have e : F_lose (uset s (115 + 2 * q) 1 1) s_ = (s 150 q, uset (uset s (115 + 2 * q) 1 1) 148 q 0) := by
        rw [eM, q1, c148, q2, c150]
        rfl
      show KF (F_lose (uset s (115 + 2 * q) 1 1) s_).2 ∧ s (115 + 2 * q) 3 = (F_lose (uset s (115 + 2 * q) 1 1) s_).1
      rw [e]
      have f4 : ∀ b j, ¬ (b = 115 + 2 * q ∧ j = 1) → ¬ (b = 148 ∧ j = q) → uset (uset s (115 + 2 * q) 1 1) 148 q 0 b j = s b j := fun b j b1 b2 => (uset_ne b2).trans (uset_ne b1)
      have f1 : uset (uset s (115 + 2 * q) 1 1) 148 q 0 (115 + 2 * q) 1 = 1 := (uset_na (by omega)).trans (uset_eq _ _ _ _)
      have f2 : uset (uset s (115 + 2 * q) 1 1) 148 q 0 148 q = 0 := uset_eq _ _ _ _
      dsimp only
      generalize uset (uset s (115 + 2 * q) 1 1) 148 q 0 = f at *
      refine ⟨h.sh (fun b j hb => ?_) ⟨KHs_upd h.1.2.2.2.2.1 (q := q) (fun b j b1 b2 b3 b4 => f4 b j (by omega) (by omega)) (fun b j b1 b2 b3 => f4 b j (by omega) (by omega)) (fun j hj => f4 151 j (by omega) (by omega)) ⟨?_, ?_, ?_, ?_, ?_, fun i hi => ?_⟩, ?_⟩, k3⟩
      · have b1 : ¬ (115 ≤ b ∧ b ≤ 122) := fun w => by rw [inW_r 115 122 w.1 w.2 rfl] at hb; cases hb
        have b2 : ¬ (148 ≤ b ∧ b ≤ 152) := fun w => by rw [inW_r 148 152 w.1 w.2 rfl] at hb; cases hb
        exact f4 b j (by omega) (by omega)
      · rw [f1, f2]; rfl
      · rw [f4 _ _ (by omega) (by omega), f4 149 q (by omega) (by omega)]; exact k2
      · rw [f4 _ _ (by omega) (by omega), f4 150 q (by omega) (by omega)]; exact k3
      · rw [f4 150 q (by omega) (by omega)]; exact k4
      · rw [f4 150 q (by omega) (by omega)]; exact k5
      · rw [f4 _ _ (by omega) (by omega), f4 151 _ (by omega) (by omega)]; exact k6 i hi
      · rw [f4 0 4 (by omega) (by omega), f4 123 46 (by omega) (by omega)]; exact h.1.2.2.2.2.2
/-- what is wrong with an item -/
theorem fo_eq {s : SG} {q : Nat} (k : KHq s q) (form i : Int32) (s_ : Int32) (es : s_.toNatClampNeg = q) : F_lacks s s_ form i = G_fo q s form i := by
  obtain ⟨k1, k2, k3, k4, k5, k6⟩ := k
  dsimp only [F_lacks]
  unfold G_fo
  have e1 : (1 : Int32).toInt = 1 := by decide
  have l : (s 150 q).toInt.toNat ≤ 60 := k5
  have d : (s 150 q - 1).toInt + 1 = (s 150 q).toInt := by
    rw [i32_sub (by omega) (by omega)]
    omega
  rw [es, eq_ne (s (115 + 2 * q) 1) 0, k1, Bool.not_not, k2, k3, in_e s i _ _ d, bl_e]
theorem fo_03 (q : Nat) (s : SG) (form i : Int32) : m_cmp .le (G_fo q s form i) 0 = m_cmp .eq (G_fo q s form i) 0 := by
  unfold G_fo
  cases m_cmp .eq (s (115 + 2 * q) 1) 0
  · rfl
  · cases m_cmp .eq (s (115 + 2 * q) 2) form
    · rfl
    · cases m_cmp .eq (F_isBelow s i (s (115 + 2 * q) 3)) 0 <;> rfl
theorem fo_0 {s : SG} {q : Nat} (k : KHq s q) {form i : Int32} (h : m_cmp .eq (G_fo q s form i) 0 = true) : ∃ j, j < 60 ∧ i = Int32.ofNat j ∧ i.toNatClampNeg = j := by
  obtain ⟨k1, k2, k3, k4, k5, k6⟩ := k
  unfold G_fo at h
  cases a : m_cmp .eq (s (115 + 2 * q) 1) 0 with
  | false => rw [a] at h; cases h
  | true =>
    cases b : m_cmp .eq (s (115 + 2 * q) 2) form with
    | false => rw [a, b] at h; cases h
    | true =>
      rw [a, b, bl_e] at h
      cases c : bl i (s (115 + 2 * q) 3) with
      | false => rw [c] at h; cases h
      | true =>
        obtain ⟨e1, e2⟩ := bl_ofn c
        rw [k3] at e2
        have k5 : (s 150 q).toInt.toNat ≤ 60 := k5
        exact ⟨_, by omega, e1, rfl⟩
theorem F_in_c (y s : SG) (v a b : Int32) : F_in y v a b = F_in s v a b := rfl
theorem lacks_c {y s : SG} {s_ : Int32} (h8 : y 148 s_.toNatClampNeg = s 148 s_.toNatClampNeg) (h9 : y 149 s_.toNatClampNeg = s 149 s_.toNatClampNeg) (h0 : y 150 s_.toNatClampNeg = s 150 s_.toNatClampNeg) (form i : Int32) : F_lacks y s_ form i = F_lacks s s_ form i := by
  dsimp only [F_lacks]
  rw [h8, h9, h0, F_in_c y s]
theorem q_put {s : SG} (h : KF s) (s_ form i v : Int32) : QK (F_cput s s_ form i v) (fun y => F_put y s_ form i v) := by
  have eC := cs_cput s s_ form i v
  have eM : ∀ y, F_put y s_ form i v = bif bl s_ 4 then (bif bl form 3 then (bif m_cmp .le (F_lacks y s_ form i) 0 then (1, F_keep y s_ i v) else F_meets y (F_lacks y s_ form i)) else ((-2), y)) else ((-2), y) := fun y => by
    dsimp only [F_put]
    rw [isS_e, in_n y form 2 3 rfl]
    cases bl s_ 4 <;> rfl
  cases q1 : bl s_ 4 with
  | false =>
    rw [q1] at eC
    exact same_q h eC (by show F_put s s_ form i v = _; rw [eM, q1]; rfl)
  | true =>
    rw [q1, cT] at eC
    obtain ⟨es, hq⟩ := bl_ofn q1
    have hq : s_.toNatClampNeg < 4 := hq
    have K := h.1.2.2.2.2.1 _ hq
    unfold G_cput at eC
    cases q2 : bl form 3 with
    | false =>
      rw [q2] at eC
      exact same_q h eC (by show F_put s s_ form i v = _; rw [eM, q1, q2]; rfl)
    | true =>
      rw [q2, cT] at eC
      cases q3 : m_cmp .eq (G_fo s_.toNatClampNeg s form i) 0 with
      | false =>
        rw [q3, cF] at eC
        refine find_q h eC ?_
        show F_put _ s_ form i v = _
        have eL : F_lacks (F_find s (G_fo s_.toNatClampNeg s form i)).2 s_ form i = F_lacks s s_ form i := lacks_c rfl rfl rfl form i
        rw [eM, q1, q2, eL, fo_eq K form i s_ rfl, fo_03, q3, cT, cT, cF]
      | true =>
        rw [q3, cT] at eC
        obtain ⟨j, hj, ei, ej⟩ := fo_0 K q3
        unfold QK
        rw [eC]
        have eL : F_lacks (uset s (116 + 2 * s_.toNatClampNeg) i.toNatClampNeg (cvF (s (115 + 2 * s_.toNatClampNeg) 2) v)) s_ form i = F_lacks s s_ form i := by
          exact lacks_c (uset_na (by omega)) (uset_na (by omega)) (uset_na (by omega)) form i
        have eK : ∀ y : SG, F_keep y s_ i v = uset y 151 (60 * s_.toNatClampNeg + j) (cvF (y 149 s_.toNatClampNeg) v) := fun y => by
          have e : F_keep y s_ i v = uset y 151 (((60 * s_) + i).toNatClampNeg) (cvF (y 149 s_.toNatClampNeg) v) := rfl
          have e2 : ((60 * s_) + i).toNatClampNeg = 60 * s_.toNatClampNeg + j := by
            rw [es, ei, idx60 hq (by omega), ← es]
          rw [e, e2]
        have e : F_put (uset s (116 + 2 * s_.toNatClampNeg) i.toNatClampNeg (cvF (s (115 + 2 * s_.toNatClampNeg) 2) v)) s_ form i v = (1, uset (uset s (116 + 2 * s_.toNatClampNeg) j (cvF (s (115 + 2 * s_.toNatClampNeg) 2) v)) 151 (60 * s_.toNatClampNeg + j) (cvF (s 149 s_.toNatClampNeg) v)) := by
          rw [eM, q1, q2, eL, fo_eq K form i s_ rfl, fo_03, q3, eK, uset_na (by omega), ej, cT, cT, cT]
        dsimp only
        rw [e]
        dsimp only
        generalize s_.toNatClampNeg = q at *
        obtain ⟨k1, k2, k3, k4, k5, k6⟩ := K
        rw [← k2]
        generalize cvF (s (115 + 2 * q) 2) v = x
        have f4 : ∀ b l, ¬ (b = 116 + 2 * q ∧ l = j) → ¬ (b = 151 ∧ l = 60 * q + j) → uset (uset s (116 + 2 * q) j x) 151 (60 * q + j) x b l = s b l := fun b l b1 b2 => (uset_ne b2).trans (uset_ne b1)
        have f1 : uset (uset s (116 + 2 * q) j x) 151 (60 * q + j) x (116 + 2 * q) j = x := (uset_na (by omega)).trans (uset_eq _ _ _ _)
        have f2 : uset (uset s (116 + 2 * q) j x) 151 (60 * q + j) x 151 (60 * q + j) = x := uset_eq _ _ _ _
        generalize uset (uset s (116 + 2 * q) j x) 151 (60 * q + j) x = f at *
        refine ⟨h.sh (fun b j hb => ?_) ⟨KHs_upd h.1.2.2.2.2.1 (q := q) (fun b j b1 b2 b3 b4 => f4 b j (by omega) (by omega)) (fun b j b1 b2 b3 => f4 b j (by omega) (by omega)) (fun j hj => f4 151 j (by omega) (by omega)) ⟨?_, ?_, ?_, ?_, ?_, fun l hl => ?_⟩, ?_⟩, rfl⟩
        · have b1 : ¬ (115 ≤ b ∧ b ≤ 122) := fun w => by rw [inW_r 115 122 w.1 w.2 rfl] at hb; cases hb
          have b2 : ¬ (148 ≤ b ∧ b ≤ 152) := fun w => by rw [inW_r 148 152 w.1 w.2 rfl] at hb; cases hb
          exact f4 b j (by omega) (by omega)
        · rw [f4 _ _ (by omega) (by omega), f4 148 q (by omega) (by omega)]; exact k1
        · rw [f4 _ _ (by omega) (by omega), f4 149 q (by omega) (by omega)]; exact k2
        · rw [f4 _ _ (by omega) (by omega), f4 150 q (by omega) (by omega)]; exact k3
        · rw [f4 150 q (by omega) (by omega)]; exact k4
        · rw [f4 150 q (by omega) (by omega)]; exact k5
        · by_cases w : l = j
          · rw [w, f1, f2]
          · rw [f4 _ _ (by omega) (by omega), f4 151 _ (by omega) (by omega)]; exact k6 l hl
        · rw [f4 0 4 (by omega) (by omega), f4 123 46 (by omega) (by omega)]; exact h.1.2.2.2.2.2
theorem q_get {s : SG} (h : KF s) (s_ form i : Int32) : QK (F_cget s s_ form i) (fun y => F_get y s_ form i) := by
  have eC := cs_cget s s_ form i
  have eM : ∀ y, F_get y s_ form i = bif bl s_ 4 then (bif bl form 3 then (bif m_cmp .le (F_lacks y s_ form i) 0 then (y 151 (((60 * s_) + i).toNatClampNeg), y) else ((-2147483648), uset y 123 46 (F_lacks y s_ form i))) else ((-2147483648), y)) else ((-2147483648), y) := fun y => by
    dsimp only [F_get]
    rw [isS_e, in_n y form 2 3 rfl]
    cases bl s_ 4 <;> rfl
  cases q1 : bl s_ 4 with
  | false =>
    rw [q1] at eC
    exact same_q h eC (by show F_get s s_ form i = _; rw [eM, q1]; rfl)
  | true =>
    rw [q1] at eC
    have eC : _ = G_cget s_.toNatClampNeg s form i := eC
    obtain ⟨es, hq⟩ := bl_ofn q1
    have hq : s_.toNatClampNeg < 4 := hq
    have K := h.1.2.2.2.2.1 _ hq
    unfold G_cget at eC
    cases q2 : bl form 3 with
    | false =>
      rw [q2] at eC
      exact same_q h eC (by show F_get s s_ form i = _; rw [eM, q1, q2]; rfl)
    | true =>
      rw [q2] at eC
      cases q3 : m_cmp .eq (G_fo s_.toNatClampNeg s form i) 0 with
      | false =>
        rw [q3] at eC
        have eC : F_cget s s_ form i = ((-2147483648), uset s 0 4 (G_fo s_.toNatClampNeg s form i)) := eC
        have eL : F_lacks (uset s 0 4 (G_fo s_.toNatClampNeg s form i)) s_ form i = F_lacks s s_ form i := rfl
        have e : F_get (uset s 0 4 (G_fo s_.toNatClampNeg s form i)) s_ form i = ((-2147483648), uset (uset s 0 4 (G_fo s_.toNatClampNeg s form i)) 123 46 (G_fo s_.toNatClampNeg s form i)) := by
          rw [eM, q1, q2, eL, fo_eq K form i s_ rfl, fo_03, q3]
          rfl
        unfold QK
        rw [eC]
        show KF (F_get _ s_ form i).2 ∧ -2147483648 = (F_get _ s_ form i).1
        rw [e]
        exact ⟨(q_find h (G_fo s_.toNatClampNeg s form i)).1, rfl⟩
      | true =>
        rw [q3] at eC
        obtain ⟨j, hj, ei, ej⟩ := fo_0 K q3
        have eC : F_cget s s_ form i = (s (116 + 2 * s_.toNatClampNeg) i.toNatClampNeg, s) := eC
        have e2 : ((60 * s_) + i).toNatClampNeg = 60 * s_.toNatClampNeg + j := by
          rw [es, ei, idx60 hq (by omega), ← es]
        have e : F_get s s_ form i = (s 151 (60 * s_.toNatClampNeg + j), s) := by
          rw [eM, q1, q2, fo_eq K form i s_ rfl, fo_03, q3, e2]
          rfl
        rw [ej, K.2.2.2.2.2 j hj] at eC
        exact same_q h eC e
