/-! read, of both sides -/
def evR (A i : Nat) (s : SG) : Int32 × SG := F_cevent s (s (A + 1) (Int32.ofNat (3 * i)).toNatClampNeg) (s (A + 1) (Int32.ofNat (3 * i) + 1).toNatClampNeg) (s (A + 1) (Int32.ofNat (3 * i) + 2).toNatClampNeg)
def rdC (A : Nat) : Nat → Nat → SG → Int32 × SG
  | 0, i, s => (Int32.ofNat i, s)
  | n + 1, i, s => bif m_cmp .ge (Int32.ofNat (3 * i) + 2) (s A 3) then (Int32.ofNat i, s) else (bif m_cmp .ge (evR A i s).1 0 then rdC A n (i + 1) (evR A i s).2 else (Int32.ofNat i, (evR A i s).2))
theorem rdC_s (A n i : Nat) (s : SG) : rdC A (n + 1) i s = bif m_cmp .ge (Int32.ofNat (3 * i) + 2) (s A 3) then (Int32.ofNat i, s) else (bif m_cmp .ge (evR A i s).1 0 then rdC A n (i + 1) (evR A i s).2 else (Int32.ofNat i, (evR A i s).2)) := rfl
theorem evR_A {A i : Nat} {s : SG} (h1 : 115 ≤ A) (h2 : A ≤ 122) (j : Nat) : (evR A i s).2 A j = s A j := ((fr_cevent s _ _ _).ag [(115, 122, none)] rfl) A j (inW_r 115 122 h1 h2 rfl)
theorem ux_rdC {A : Nat} (h1 : 115 ≤ A) (h2 : A ≤ 122) (q_ : Int32) : ∀ (n i : Nat) (s : SG), i + n = 20 → (s A 3).toInt ≤ 60 → UP m_X6_read 22 [some (.ref 0), some (.int q_), some (.ref A), some (.int (Int32.ofNat i)), some (.int (Int32.ofNat (3 * i)))] [] s (Qb (rdC A n i s)) := by
  intro n
  induction n with
  | zero =>
    intro i s hi hS
    have ei : i = 20 := by omega
    subst ei
    have c : m_cmp .ge (Int32.ofNat (3 * 20) + 2) (s A 3) = true := m_ge_iff.mpr (by
      have e : (Int32.ofNat (3 * 20) + 2).toInt = 62 := by decide
      omega)
    refine UP.stp 5 (i1 := 27) (L1 := [some (.ref 0), some (.int q_), some (.ref A), some (.int (Int32.ofNat 20)), some (.int (Int32.ofNat (3 * 20)))]) (st1 := [.int (s A 3), .int (Int32.ofNat (3 * 20) + 2)]) (s1 := s) rfl ?_
    refine UP.icT rfl c ?_
    refine UP.stp 1 (i1 := 52) (L1 := [some (.ref 0), some (.int q_), some (.ref A), some (.int (Int32.ofNat 20)), some (.int (Int32.ofNat (3 * 20)))]) (st1 := [.int (Int32.ofNat 20)]) (s1 := s) rfl ?_
    exact UP.ret (r := some (.int (Int32.ofNat 20))) rfl ⟨rfl, rfl⟩
  | succ n ih =>
    intro i s hi hS
    rw [rdC_s]
    refine UP.stp 5 (i1 := 27) (L1 := [some (.ref 0), some (.int q_), some (.ref A), some (.int (Int32.ofNat i)), some (.int (Int32.ofNat (3 * i)))]) (st1 := [.int (s A 3), .int (Int32.ofNat (3 * i) + 2)]) (s1 := s) rfl ?_
    cases c : m_cmp .ge (Int32.ofNat (3 * i) + 2) (s A 3) with
    | true =>
      refine UP.icT rfl c ?_
      refine UP.stp 1 (i1 := 52) (L1 := [some (.ref 0), some (.int q_), some (.ref A), some (.int (Int32.ofNat i)), some (.int (Int32.ofNat (3 * i)))]) (st1 := [.int (Int32.ofNat i)]) (s1 := s) rfl ?_
      exact UP.ret (r := some (.int (Int32.ofNat i))) rfl ⟨rfl, rfl⟩
    | false =>
      refine UP.icF rfl c ?_
      refine UP.stp 17 (i1 := 45) (L1 := [some (.ref 0), some (.int q_), some (.ref A), some (.int (Int32.ofNat i)), some (.int (Int32.ofNat (3 * i)))]) (st1 := [.int (s (A + 1) (Int32.ofNat (3 * i) + 2).toNatClampNeg), .int (s (A + 1) (Int32.ofNat (3 * i) + 1).toNatClampNeg), .int (s (A + 1) (Int32.ofNat (3 * i)).toNatClampNeg), .ref 0]) (s1 := s) rfl ?_
      refine UP.cB (M1 := m_X6_event) (as := [.ref 0, .int (s (A + 1) (Int32.ofNat (3 * i)).toNatClampNeg), .int (s (A + 1) (Int32.ofNat (3 * i) + 1).toNatClampNeg), .int (s (A + 1) (Int32.ofNat (3 * i) + 2).toNatClampNeg)]) (rest := []) (T := evR A i s) rfl rfl (ux_cevent s _ _ _) (fun z e => ?_)
      have eA : z.2 A 3 = s A 3 := by rw [← e]; exact evR_A h1 h2 3
      rw [e, cF]
      cases c2 : m_cmp .ge z.1 0 with
      | true =>
        rw [cT]
        refine UP.ifT rfl c2 ?_
        refine UP.stp 3 (i1 := 22) (L1 := [some (.ref 0), some (.int q_), some (.ref A), some (.int (Int32.ofNat i + 1)), some (.int (Int32.ofNat (3 * i) + 3))]) (st1 := []) (s1 := z.2) rfl ?_
        rw [ofn_s, show Int32.ofNat (3 * i) + 3 = Int32.ofNat (3 * (i + 1)) from ofn_add rfl rfl]
        exact ih (i + 1) z.2 (by omega) (by rw [eA]; exact hS)
      | false =>
        rw [cF]
        refine UP.ifF rfl c2 ?_
        refine UP.stp 2 (i1 := 52) (L1 := [some (.ref 0), some (.int q_), some (.ref A), some (.int (Int32.ofNat i)), some (.int (Int32.ofNat (3 * i)))]) (st1 := [.int (Int32.ofNat i)]) (s1 := z.2) rfl ?_
        exact UP.ret (r := some (.int (Int32.ofNat i))) rfl ⟨rfl, rfl⟩
def F_cread (s : SG) (s_ : Int32) : Int32 × SG := bif bl s_ 4 then (bif m_cmp .eq (s (115 + 2 * s_.toNatClampNeg) 1) 0 then rdC (115 + 2 * s_.toNatClampNeg) 20 0 s else F_find s 1) else ((-2), s)
theorem ux_cread (s : SG) (s_ : Int32) (hS : ∀ q, q < 4 → (s (115 + 2 * q) 3).toInt ≤ 60) : UP m_X6_read 0 (m_ent 5 [.ref 0, .int s_]) [] s (Qb (F_cread s s_)) := by
  unfold F_cread
  refine UP.stp 2 (i1 := 2) (L1 := [some (.ref 0), some (.int s_), none, none, none]) (st1 := [.int 4, .int s_]) (s1 := s) rfl ?_
  refine UP.cI (M1 := m_X6_isBelow) (as := [.int s_, .int 4]) (rest := []) (T := F_isBelow s s_ 4) rfl rfl (ux_isBelow s s_ 4) ?_
  cases b : bl s_ 4 with
  | false =>
    rw [cF]
    refine UP.ifF rfl (by rw [bl_n, b]) ?_
    refine UP.stp 1 (i1 := 5) (L1 := [some (.ref 0), some (.int s_), none, none, none]) (st1 := [.int (-2)]) (s1 := s) rfl ?_
    exact UP.ret (r := some (.int (-2))) rfl ⟨rfl, rfl⟩
  | true =>
    rw [cT]
    refine UP.ifT rfl (by rw [bl_n, b]) ?_
    obtain ⟨es, hq⟩ := bl_ofn b
    have hq : s_.toNatClampNeg < 4 := hq
    generalize s_.toNatClampNeg = q at *
    refine UP.stp 3 (i1 := 9) (L1 := [some (.ref 0), some (.int s_), none, none, none]) (st1 := [.int s_, .ref 9]) (s1 := s) rfl ?_
    refine UP.aald (e := q) (r := 115 + 2 * q) rfl es (by omega) rfl ?_
    refine UP.stp 3 (i1 := 13) (L1 := [some (.ref 0), some (.int s_), some (.ref (115 + 2 * q)), none, none]) (st1 := [.int (s (115 + 2 * q) 1)]) (s1 := s) rfl ?_
    cases c : m_cmp .eq (s (115 + 2 * q) 1) 0 with
    | true =>
      rw [cT]
      refine UP.ifT rfl c ?_
      refine UP.stp 4 (i1 := 22) (L1 := [some (.ref 0), some (.int s_), some (.ref (115 + 2 * q)), some (.int (Int32.ofNat 0)), some (.int (Int32.ofNat (3 * 0)))]) (st1 := []) (s1 := s) rfl ?_
      exact ux_rdC (by omega) (by omega) s_ 20 0 s rfl (hS q hq)
    | false =>
      rw [cF]
      refine UP.ifF rfl c ?_
      refine UP.stp 2 (i1 := 16) (L1 := [some (.ref 0), some (.int s_), some (.ref (115 + 2 * q)), none, none]) (st1 := [.int 1, .ref 0]) (s1 := s) rfl ?_
      refine UP.cB (M1 := m_X6_find) (as := [.ref 0, .int 1]) (rest := []) (T := F_find s 1) rfl rfl (ux_find s 1) (fun z e => ?_)
      rw [e]
      exact UP.ret (r := some (.int z.1)) rfl ⟨rfl, rfl⟩
def emR (s_ : Int32) (i : Nat) (s : SG) : Int32 × SG := F_event s (s 151 ((60 * s_) + 3 * Int32.ofNat i).toNatClampNeg) (s 151 (((60 * s_) + 3 * Int32.ofNat i) + 1).toNatClampNeg) (s 151 (((60 * s_) + 3 * Int32.ofNat i) + 2).toNatClampNeg)
def rdM (s_ : Int32) : Nat → Nat → SG → Int32 × SG
  | 0, i, s => (Int32.ofNat i, s)
  | n + 1, i, s => bif m_cmp .ge (3 * Int32.ofNat i + 2) (s 150 s_.toNatClampNeg) then (Int32.ofNat i, s) else (bif m_cmp .le (emR s_ i s).1 0 then (Int32.ofNat i, (emR s_ i s).2) else rdM s_ n (i + 1) (emR s_ i s).2)
theorem rdM_s (s_ : Int32) (n i : Nat) (s : SG) : rdM s_ (n + 1) i s = bif m_cmp .ge (3 * Int32.ofNat i + 2) (s 150 s_.toNatClampNeg) then (Int32.ofNat i, s) else (bif m_cmp .le (emR s_ i s).1 0 then (Int32.ofNat i, (emR s_ i s).2) else rdM s_ n (i + 1) (emR s_ i s).2) := rfl
theorem ux_rdM (s_ : Int32) : ∀ (n i : Nat) (s : SG), i + n = 20 → (s 150 s_.toNatClampNeg).toInt ≤ 60 → UP m_X7_read 20 [some (.ref 123), some (.int s_), some (.int (Int32.ofNat i)), some (.int (60 * s_))] [] s (Qb (rdM s_ n i s)) := by
  intro n
  induction n with
  | zero =>
    intro i s hi hS
    have ei : i = 20 := by omega
    subst ei
    have c : m_cmp .ge (3 * Int32.ofNat 20 + 2) (s 150 s_.toNatClampNeg) = true := m_ge_iff.mpr (by
      have e : (3 * Int32.ofNat 20 + 2).toInt = 62 := by decide
      omega)
    refine UP.stp 9 (i1 := 29) (L1 := [some (.ref 123), some (.int s_), some (.int (Int32.ofNat 20)), some (.int (60 * s_))]) (st1 := [.int (s 150 s_.toNatClampNeg), .int (3 * Int32.ofNat 20 + 2)]) (s1 := s) rfl ?_
    refine UP.icT rfl c ?_
    refine UP.stp 1 (i1 := 64) (L1 := [some (.ref 123), some (.int s_), some (.int (Int32.ofNat 20)), some (.int (60 * s_))]) (st1 := [.int (Int32.ofNat 20)]) (s1 := s) rfl ?_
    exact UP.ret (r := some (.int (Int32.ofNat 20))) rfl ⟨rfl, rfl⟩
  | succ n ih =>
    intro i s hi hS
    rw [rdM_s]
    refine UP.stp 9 (i1 := 29) (L1 := [some (.ref 123), some (.int s_), some (.int (Int32.ofNat i)), some (.int (60 * s_))]) (st1 := [.int (s 150 s_.toNatClampNeg), .int (3 * Int32.ofNat i + 2)]) (s1 := s) rfl ?_
    cases c : m_cmp .ge (3 * Int32.ofNat i + 2) (s 150 s_.toNatClampNeg) with
    | true =>
      refine UP.icT rfl c ?_
      refine UP.stp 1 (i1 := 64) (L1 := [some (.ref 123), some (.int s_), some (.int (Int32.ofNat i)), some (.int (60 * s_))]) (st1 := [.int (Int32.ofNat i)]) (s1 := s) rfl ?_
      exact UP.ret (r := some (.int (Int32.ofNat i))) rfl ⟨rfl, rfl⟩
    | false =>
      refine UP.icF rfl c ?_
      refine UP.stp 29 (i1 := 59) (L1 := [some (.ref 123), some (.int s_), some (.int (Int32.ofNat i)), some (.int (60 * s_))]) (st1 := [.int (s 151 (((60 * s_) + 3 * Int32.ofNat i) + 2).toNatClampNeg), .int (s 151 (((60 * s_) + 3 * Int32.ofNat i) + 1).toNatClampNeg), .int (s 151 ((60 * s_) + 3 * Int32.ofNat i).toNatClampNeg), .ref 123]) (s1 := s) rfl ?_
      refine UP.cB (M1 := m_X7_event) (as := [.ref 123, .int (s 151 ((60 * s_) + 3 * Int32.ofNat i).toNatClampNeg), .int (s 151 (((60 * s_) + 3 * Int32.ofNat i) + 1).toNatClampNeg), .int (s 151 (((60 * s_) + 3 * Int32.ofNat i) + 2).toNatClampNeg)]) (rest := []) (T := emR s_ i s) rfl rfl (ux_event s _ _ _) (fun z e => ?_)
      have eA : z.2 150 s_.toNatClampNeg = s 150 s_.toNatClampNeg := by rw [← e]; exact fr_event s _ _ _ 150 _ rfl
      rw [e, cF]
      cases c2 : m_cmp .le z.1 0 with
      | true =>
        rw [cT]
        refine UP.ifT rfl c2 ?_
        refine UP.stp 1 (i1 := 64) (L1 := [some (.ref 123), some (.int s_), some (.int (Int32.ofNat i)), some (.int (60 * s_))]) (st1 := [.int (Int32.ofNat i)]) (s1 := z.2) rfl ?_
        exact UP.ret (r := some (.int (Int32.ofNat i))) rfl ⟨rfl, rfl⟩
      | false =>
        rw [cF]
        refine UP.ifF rfl c2 ?_
        refine UP.stp 2 (i1 := 20) (L1 := [some (.ref 123), some (.int s_), some (.int (Int32.ofNat i + 1)), some (.int (60 * s_))]) (st1 := []) (s1 := z.2) rfl ?_
        rw [ofn_s]
        exact ih (i + 1) z.2 (by omega) (by rw [eA]; exact hS)
def F_read (s : SG) (s_ : Int32) : Int32 × SG := bif bl s_ 4 then (bif m_cmp .ne (s 148 s_.toNatClampNeg) 0 then rdM s_ 20 0 s else F_meets s 1) else ((-2), s)
theorem ux_read (s : SG) (s_ : Int32) (hS : bl s_ 4 = true → (s 150 s_.toNatClampNeg).toInt ≤ 60) : UP m_X7_read 0 (m_ent 4 [.ref 123, .int s_]) [] s (Qb (F_read s s_)) := by
  unfold F_read
  refine UP.stp 1 (i1 := 1) (L1 := [some (.ref 123), some (.int s_), none, none]) (st1 := [.int s_]) (s1 := s) rfl ?_
  refine UP.cI (M1 := m_X7_isSheet) (as := [.int s_]) (rest := []) (T := F_isSheet s s_) rfl rfl (ux_isSheet s s_) ?_
  cases b : bl s_ 4 with
  | false =>
    rw [cF]
    refine UP.ifF rfl (by rw [isS_n, b]) ?_
    refine UP.stp 1 (i1 := 4) (L1 := [some (.ref 123), some (.int s_), none, none]) (st1 := [.int (-2)]) (s1 := s) rfl ?_
    exact UP.ret (r := some (.int (-2))) rfl ⟨rfl, rfl⟩
  | true =>
    rw [cT]
    refine UP.ifT rfl (by rw [isS_n, b]) ?_
    refine UP.stp 4 (i1 := 9) (L1 := [some (.ref 123), some (.int s_), none, none]) (st1 := [.int (s 148 s_.toNatClampNeg)]) (s1 := s) rfl ?_
    cases c : m_cmp .ne (s 148 s_.toNatClampNeg) 0 with
    | true =>
      rw [cT]
      refine UP.ifT rfl c ?_
      refine UP.stp 6 (i1 := 20) (L1 := [some (.ref 123), some (.int s_), some (.int (Int32.ofNat 0)), some (.int (60 * s_))]) (st1 := []) (s1 := s) rfl ?_
      exact ux_rdM s_ 20 0 s rfl (hS b)
    | false =>
      rw [cF]
      refine UP.ifF rfl c ?_
      refine UP.stp 2 (i1 := 12) (L1 := [some (.ref 123), some (.int s_), none, none]) (st1 := [.int 1, .ref 123]) (s1 := s) rfl ?_
      refine UP.cB (M1 := m_X7_meets) (as := [.ref 123, .int 1]) (rest := []) (T := F_meets s 1) rfl rfl (ux_meets s 1) (fun z e => ?_)
      rw [e]
      exact UP.ret (r := some (.int z.1)) rfl ⟨rfl, rfl⟩
/-! what they come to -/
def gdE (v : NI) (i : Nat) : Bool := bif bl (v (3 * i)) 3 then (bif bl (v (3 * i + 1)) 24 then bl (v (3 * i + 2)) 8 else false) else false
def goE (v : NI) (S N i : Nat) : Prop := 3 * i + 2 < S ∧ N + i < 8 ∧ gdE v i = true
def PC (s0 : SG) (v : NI) (N i : Nat) (s : SG) : Prop := Fr [(0, 0, some 12), (0, 0, some 13), (2, 2, some 3), (3, 5, none)] s0 s ∧ s 2 3 = Int32.ofNat (N + i) ∧ (∀ e, s 3 e = if N ≤ e ∧ e < N + i then v (3 * (e - N)) else s0 3 e) ∧ (∀ e, s 4 e = if N ≤ e ∧ e < N + i then v (3 * (e - N) + 1) else s0 4 e) ∧ (∀ e, s 5 e = if N ≤ e ∧ e < N + i then v (3 * (e - N) + 2) else s0 5 e) ∧ (i ≠ 0 → s 0 12 = 1 ∧ s 0 13 = 1) ∧ (i = 0 → s = s0)
def PM (s0 : SG) (v : NI) (N i : Nat) (s : SG) : Prop := Fr [(123, 123, some 11), (130, 132, none)] s0 s ∧ s 123 11 = Int32.ofNat (N + i) ∧ (∀ e, s 130 e = if N ≤ e ∧ e < N + i then v (3 * (e - N)) else s0 130 e) ∧ (∀ e, s 131 e = if N ≤ e ∧ e < N + i then v (3 * (e - N) + 1) else s0 131 e) ∧ (∀ e, s 132 e = if N ≤ e ∧ e < N + i then v (3 * (e - N) + 2) else s0 132 e)
def apE (s : SG) (N : Nat) (k m u : Int32) : SG := F_mark (uset (uset (uset (uset s 3 N k) 4 N m) 5 N u) 2 3 (Int32.ofNat (N + 1)))
def amE (s : SG) (N : Nat) (k m u : Int32) : SG := uset (uset (uset (uset s 130 N k) 131 N m) 132 N u) 123 11 (Int32.ofNat (N + 1))
theorem evC1 {s : SG} {N : Nat} (hN : N ≤ 8) (e : s 2 3 = Int32.ofNat N) (k m u : Int32) : (N < 8 ∧ (bif bl k 3 then (bif bl m 24 then bl u 8 else false) else false) = true ∧ F_cevent s k m u = (Int32.ofNat (N + 1), apE s N k m u)) ∨ (¬ (N < 8 ∧ (bif bl k 3 then (bif bl m 24 then bl u 8 else false) else false) = true) ∧ (F_cevent s k m u).2 = s ∧ m_cmp .ge (F_cevent s k m u).1 0 = false) := by
  have cN : (Int32.ofNat N).toNatClampNeg = N := ofn_c (by omega)
  have eC : F_cevent s k m u = bif m_cmp .eq (F_isBelow s k 3) 0 then (((-2), s)) else (bif m_cmp .eq (F_isBelow s m 24) 0 then (((-2), s)) else (bif m_cmp .ne (F_isBelow s u 8) 0 then (bif m_cmp .lt (s 2 3) 8 then (s 2 3 + 1, F_mark (uset (uset (uset (uset s 3 ((s 2 3).toNatClampNeg) k) 4 ((s 2 3).toNatClampNeg) m) 5 ((s 2 3).toNatClampNeg) u) 2 3 (s 2 3 + 1))) else (((-4), s))) else (((-2), s)))) := rfl
  rw [bl_e, bl_e, bl_n, e, cN, lt8 hN, ofn_s] at eC
  rw [eC]
  cases bl k 3 with
  | false => exact Or.inr ⟨fun w => (by cases w.2), rfl, rfl⟩
  | true =>
    cases bl m 24 with
    | false => exact Or.inr ⟨fun w => (by cases w.2), rfl, rfl⟩
    | true =>
      cases bl u 8 with
      | false => exact Or.inr ⟨fun w => (by cases w.2), rfl, rfl⟩
      | true =>
        cases q : m_cmp .ne (Int32.ofNat N) 8 with
        | false => exact Or.inr ⟨fun w => (by
            rw [m_ne_iff.mpr (fun x => by
              have x := congrArg Int32.toInt x
              rw [ofn_int (by omega)] at x
              have e8 : (8 : Int32).toInt = 8 := by decide
              omega)] at q
            cases q), rfl, rfl⟩
        | true => exact Or.inl ⟨ne8 hN q, rfl, rfl⟩
theorem evM1 {s : SG} {N : Nat} (hN : N ≤ 8) (e : s 123 11 = Int32.ofNat N) (k m u : Int32) : (N < 8 ∧ (bif bl k 3 then (bif bl m 24 then bl u 8 else false) else false) = true ∧ F_event s k m u = (Int32.ofNat (N + 1), amE s N k m u)) ∨ (¬ (N < 8 ∧ (bif bl k 3 then (bif bl m 24 then bl u 8 else false) else false) = true) ∧ (F_event s k m u).2 = s ∧ m_cmp .le (F_event s k m u).1 0 = true) := by
  have cN : (Int32.ofNat N).toNatClampNeg = N := ofn_c (by omega)
  have eC : F_event s k m u = bif m_cmp .eq (F_isThree s k) 0 then (((-2), s)) else (bif m_cmp .eq (F_isMinute s m) 0 then (((-2), s)) else (bif m_cmp .ne (F_isEight s u) 0 then (bif m_cmp .ne (s 123 11) 8 then (s 123 11 + 1, uset (uset (uset (uset s 130 ((s 123 11).toNatClampNeg) k) 131 ((s 123 11).toNatClampNeg) m) 132 ((s 123 11).toNatClampNeg) u) 123 11 (s 123 11 + 1)) else (((-4), s))) else (((-2), s)))) := rfl
  rw [is3_e, isM_e, is8_n, e, cN, ofn_s] at eC
  rw [eC]
  cases bl k 3 with
  | false => exact Or.inr ⟨fun w => (by cases w.2), rfl, rfl⟩
  | true =>
    cases bl m 24 with
    | false => exact Or.inr ⟨fun w => (by cases w.2), rfl, rfl⟩
    | true =>
      cases bl u 8 with
      | false => exact Or.inr ⟨fun w => (by cases w.2), rfl, rfl⟩
      | true =>
        cases q : m_cmp .ne (Int32.ofNat N) 8 with
        | false => exact Or.inr ⟨fun w => (by
            rw [m_ne_iff.mpr (fun x => by
              have x := congrArg Int32.toInt x
              rw [ofn_int (by omega)] at x
              have e8 : (8 : Int32).toInt = 8 := by decide
              omega)] at q
            cases q), rfl, rfl⟩
        | true => exact Or.inl ⟨ne8 hN q, rfl, rfl⟩
theorem ifx {N i e : Nat} {a b c : Int32} (h : e = N + i → c = a) (h2 : ¬ e = N + i → c = b) (d : Int32) (hd : (if N ≤ e ∧ e < N + i then a else d) = b) : (if N ≤ e ∧ e < N + (i + 1) then a else d) = c := by
  by_cases w : e = N + i
  · rw [if_pos (by omega), h w]
  · rw [h2 w, ← hd]
    by_cases x : N ≤ e ∧ e < N + i
    · rw [if_pos x, if_pos (by omega)]
    · rw [if_neg x, if_neg (by omega)]
theorem PC.app {s0 s : SG} {v : NI} {N i : Nat} (h : PC s0 v N i s) : PC s0 v N (i + 1) (apE s (N + i) (v (3 * i)) (v (3 * i + 1)) (v (3 * i + 2))) := by
  obtain ⟨f, a, b3, b4, b5, -, -⟩ := h
  have fu : Fr [(2, 2, some 3), (3, 5, none)] s (uset (uset (uset (uset s 3 (N + i) (v (3 * i))) 4 (N + i) (v (3 * i + 1))) 5 (N + i) (v (3 * i + 2))) 2 3 (Int32.ofNat (N + i + 1))) := Fr.uset rfl (Fr.uset rfl (Fr.uset rfl (Fr.uset rfl (Fr.rf _ _))))
  have u2 : uset (uset (uset (uset s 3 (N + i) (v (3 * i))) 4 (N + i) (v (3 * i + 1))) 5 (N + i) (v (3 * i + 2))) 2 3 (Int32.ofNat (N + i + 1)) 2 3 = Int32.ofNat (N + i + 1) := uset_eq _ _ _ _
  have u3 : ∀ e, uset (uset (uset (uset s 3 (N + i) (v (3 * i))) 4 (N + i) (v (3 * i + 1))) 5 (N + i) (v (3 * i + 2))) 2 3 (Int32.ofNat (N + i + 1)) 3 e = if e = N + i then v (3 * i) else s 3 e := fun e => by
    rw [uset_na (by decide), uset_na (by decide), uset_na (by decide)]
    by_cases w : e = N + i
    · rw [if_pos w, w]; exact uset_eq _ _ _ _
    · rw [if_neg w]; exact uset_nj w
  have u4 : ∀ e, uset (uset (uset (uset s 3 (N + i) (v (3 * i))) 4 (N + i) (v (3 * i + 1))) 5 (N + i) (v (3 * i + 2))) 2 3 (Int32.ofNat (N + i + 1)) 4 e = if e = N + i then v (3 * i + 1) else s 4 e := fun e => by
    rw [uset_na (by decide), uset_na (by decide)]
    by_cases w : e = N + i
    · rw [if_pos w, w]; exact uset_eq _ _ _ _
    · rw [if_neg w, uset_nj w]; exact uset_na (by decide)
  have u5 : ∀ e, uset (uset (uset (uset s 3 (N + i) (v (3 * i))) 4 (N + i) (v (3 * i + 1))) 5 (N + i) (v (3 * i + 2))) 2 3 (Int32.ofNat (N + i + 1)) 5 e = if e = N + i then v (3 * i + 2) else s 5 e := fun e => by
    rw [uset_na (by decide)]
    by_cases w : e = N + i
    · rw [if_pos w, w]; exact uset_eq _ _ _ _
    · rw [if_neg w, uset_nj w, uset_na (by decide)]; exact uset_na (by decide)
  have eA : apE s (N + i) (v (3 * i)) (v (3 * i + 1)) (v (3 * i + 2)) = F_mark (uset (uset (uset (uset s 3 (N + i) (v (3 * i))) 4 (N + i) (v (3 * i + 1))) 5 (N + i) (v (3 * i + 2))) 2 3 (Int32.ofNat (N + i + 1))) := rfl
  rw [eA]
  generalize uset (uset (uset (uset s 3 (N + i) (v (3 * i))) 4 (N + i) (v (3 * i + 1))) 5 (N + i) (v (3 * i + 2))) 2 3 (Int32.ofNat (N + i + 1)) = u at *
  have fm := fr_mark u
  have x12 : F_mark u 0 12 = 1 := rfl
  have x13 : F_mark u 0 13 = 1 := rfl
  generalize F_mark u = c at *
  refine ⟨(f.tr (fu.wk rfl)).tr (fm.wk rfl), (fm 2 3 rfl).trans u2, fun e => ?_, fun e => ?_, fun e => ?_, fun _ => ⟨x12, x13⟩, fun w => absurd w (by omega)⟩
  · rw [fm 3 e rfl, u3 e, b3 e]
    by_cases w : e = N + i
    · rw [if_pos w, if_pos (by omega), show e - N = i by omega]
    · rw [if_neg w]
      by_cases x : N ≤ e ∧ e < N + i
      · rw [if_pos x, if_pos (by omega)]
      · rw [if_neg x, if_neg (by omega)]
  · rw [fm 4 e rfl, u4 e, b4 e]
    by_cases w : e = N + i
    · rw [if_pos w, if_pos (by omega), show e - N = i by omega]
    · rw [if_neg w]
      by_cases x : N ≤ e ∧ e < N + i
      · rw [if_pos x, if_pos (by omega)]
      · rw [if_neg x, if_neg (by omega)]
  · rw [fm 5 e rfl, u5 e, b5 e]
    by_cases w : e = N + i
    · rw [if_pos w, if_pos (by omega), show e - N = i by omega]
    · rw [if_neg w]
      by_cases x : N ≤ e ∧ e < N + i
      · rw [if_pos x, if_pos (by omega)]
      · rw [if_neg x, if_neg (by omega)]
theorem PM.app {s0 s : SG} {v : NI} {N i : Nat} (h : PM s0 v N i s) : PM s0 v N (i + 1) (amE s (N + i) (v (3 * i)) (v (3 * i + 1)) (v (3 * i + 2))) := by
  obtain ⟨f, a, b3, b4, b5⟩ := h
  unfold amE
  have fu : Fr [(123, 123, some 11), (130, 132, none)] s (uset (uset (uset (uset s 130 (N + i) (v (3 * i))) 131 (N + i) (v (3 * i + 1))) 132 (N + i) (v (3 * i + 2))) 123 11 (Int32.ofNat (N + i + 1))) := Fr.uset rfl (Fr.uset rfl (Fr.uset rfl (Fr.uset rfl (Fr.rf _ _))))
  have u2 : uset (uset (uset (uset s 130 (N + i) (v (3 * i))) 131 (N + i) (v (3 * i + 1))) 132 (N + i) (v (3 * i + 2))) 123 11 (Int32.ofNat (N + i + 1)) 123 11 = Int32.ofNat (N + i + 1) := uset_eq _ _ _ _
  have u3 : ∀ e, uset (uset (uset (uset s 130 (N + i) (v (3 * i))) 131 (N + i) (v (3 * i + 1))) 132 (N + i) (v (3 * i + 2))) 123 11 (Int32.ofNat (N + i + 1)) 130 e = if e = N + i then v (3 * i) else s 130 e := fun e => by
    rw [uset_na (by decide), uset_na (by decide), uset_na (by decide)]
    by_cases w : e = N + i
    · rw [if_pos w, w]; exact uset_eq _ _ _ _
    · rw [if_neg w]; exact uset_nj w
  have u4 : ∀ e, uset (uset (uset (uset s 130 (N + i) (v (3 * i))) 131 (N + i) (v (3 * i + 1))) 132 (N + i) (v (3 * i + 2))) 123 11 (Int32.ofNat (N + i + 1)) 131 e = if e = N + i then v (3 * i + 1) else s 131 e := fun e => by
    rw [uset_na (by decide), uset_na (by decide)]
    by_cases w : e = N + i
    · rw [if_pos w, w]; exact uset_eq _ _ _ _
    · rw [if_neg w, uset_nj w]; exact uset_na (by decide)
  have u5 : ∀ e, uset (uset (uset (uset s 130 (N + i) (v (3 * i))) 131 (N + i) (v (3 * i + 1))) 132 (N + i) (v (3 * i + 2))) 123 11 (Int32.ofNat (N + i + 1)) 132 e = if e = N + i then v (3 * i + 2) else s 132 e := fun e => by
    rw [uset_na (by decide)]
    by_cases w : e = N + i
    · rw [if_pos w, w]; exact uset_eq _ _ _ _
    · rw [if_neg w, uset_nj w, uset_na (by decide)]; exact uset_na (by decide)
  generalize uset (uset (uset (uset s 130 (N + i) (v (3 * i))) 131 (N + i) (v (3 * i + 1))) 132 (N + i) (v (3 * i + 2))) 123 11 (Int32.ofNat (N + i + 1)) = u at *
  refine ⟨f.tr fu, u2, fun e => ?_, fun e => ?_, fun e => ?_⟩
  · rw [u3 e, b3 e]
    by_cases w : e = N + i
    · rw [if_pos w, if_pos (by omega), show e - N = i by omega]
    · rw [if_neg w]
      by_cases x : N ≤ e ∧ e < N + i
      · rw [if_pos x, if_pos (by omega)]
      · rw [if_neg x, if_neg (by omega)]
  · rw [u4 e, b4 e]
    by_cases w : e = N + i
    · rw [if_pos w, if_pos (by omega), show e - N = i by omega]
    · rw [if_neg w]
      by_cases x : N ≤ e ∧ e < N + i
      · rw [if_pos x, if_pos (by omega)]
      · rw [if_neg x, if_neg (by omega)]
  · rw [u5 e, b5 e]
    by_cases w : e = N + i
    · rw [if_pos w, if_pos (by omega), show e - N = i by omega]
    · rw [if_neg w]
      by_cases x : N ≤ e ∧ e < N + i
      · rw [if_pos x, if_pos (by omega)]
      · rw [if_neg x, if_neg (by omega)]
theorem ge3 {i S : Nat} (hi : i ≤ 20) (hS : S ≤ 60) : m_cmp .ge (Int32.ofNat (3 * i) + 2) (Int32.ofNat S) = decide (S ≤ 3 * i + 2) := by
  rw [show Int32.ofNat (3 * i) + 2 = Int32.ofNat (3 * i + 2) from ofn_add rfl rfl]
  by_cases w : S ≤ 3 * i + 2
  · rw [decide_eq_true w]
    exact m_ge_iff.mpr (by rw [ofn_int (by omega), ofn_int (by omega)]; omega)
  · rw [decide_eq_false w]
    cases q : m_cmp .ge (Int32.ofNat (3 * i + 2)) (Int32.ofNat S) with
    | false => rfl
    | true =>
      have := m_ge_iff.mp q
      rw [ofn_int (by omega), ofn_int (by omega)] at this
      omega
theorem rdC_sp {s0 : SG} {A S N : Nat} {v : NI} (h1 : 115 ≤ A) (h2 : A + 1 ≤ 122) (hv : ∀ k, k < 60 → s0 (A + 1) k = v k) (eS : s0 A 3 = Int32.ofNat S) (hS : S ≤ 60) : ∀ (n i : Nat) (s : SG), i + n = 20 → N + i ≤ 8 → PC s0 v N i s → (∀ k, k < i → goE v S N k) → ∃ T f, rdC A n i s = (Int32.ofNat T, f) ∧ PC s0 v N T f ∧ (∀ k, k < T → goE v S N k) ∧ ¬ goE v S N T := by
  intro n
  induction n with
  | zero =>
    intro i s hi hN hP hg
    refine ⟨i, s, rfl, hP, hg, fun w => ?_⟩
    have := w.1
    omega
  | succ n ih =>
    intro i s hi hN hP hg
    have fA : ∀ j, s A j = s0 A j := fun j => (hP.1.ag [(115, 122, none)] rfl) A j (inW_r 115 122 h1 (by omega) rfl)
    have fB : ∀ j, s (A + 1) j = s0 (A + 1) j := fun j => (hP.1.ag [(115, 122, none)] rfl) (A + 1) j (inW_r 115 122 (by omega) h2 rfl)
    rw [rdC_s, fA 3, eS, ge3 (by omega) hS]
    by_cases w : S ≤ 3 * i + 2
    · rw [decide_eq_true w]
      refine ⟨i, s, rfl, hP, hg, fun x => ?_⟩
      have := x.1
      omega
    · rw [decide_eq_false w]
      have j0 : (Int32.ofNat (3 * i)).toNatClampNeg = 3 * i := ofn_c (by omega)
      have j1 : (Int32.ofNat (3 * i) + 1).toNatClampNeg = 3 * i + 1 := by
        rw [show Int32.ofNat (3 * i) + 1 = Int32.ofNat (3 * i + 1) from ofn_add rfl rfl]; exact ofn_c (by omega)
      have j2 : (Int32.ofNat (3 * i) + 2).toNatClampNeg = 3 * i + 2 := by
        rw [show Int32.ofNat (3 * i) + 2 = Int32.ofNat (3 * i + 2) from ofn_add rfl rfl]; exact ofn_c (by omega)
      have eE : evR A i s = F_cevent s (v (3 * i)) (v (3 * i + 1)) (v (3 * i + 2)) := by
        unfold evR
        rw [j0, j1, j2, fB, fB, fB, hv _ (by omega), hv _ (by omega), hv _ (by omega)]
      rw [eE, cF]
      rcases evC1 hN hP.2.1 (v (3 * i)) (v (3 * i + 1)) (v (3 * i + 2)) with ⟨a1, a2, a3⟩ | ⟨a1, a2, a3⟩
      · rw [a3]
        have c : m_cmp .ge (Int32.ofNat (N + i + 1)) 0 = true := m_ge_iff.mpr (by
          rw [ofn_int (by omega)]
          have e0 : (0 : Int32).toInt = 0 := by decide
          omega)
        dsimp only
        rw [c, cT]
        refine ih (i + 1) _ (by omega) (by omega) hP.app (fun k hk => ?_)
        by_cases x : k = i
        · rw [x]; exact ⟨by omega, a1, a2⟩
        · exact hg k (by omega)
      · rw [a3, cF, a2]
        exact ⟨i, s, rfl, hP, hg, fun x => a1 ⟨x.2.1, x.2.2⟩⟩
theorem rdM_sp {s0 : SG} {q S N : Nat} {v : NI} (hq : q < 4) (s_ : Int32) (es : s_ = Int32.ofNat q) (hv : ∀ k, k < 60 → s0 151 (60 * q + k) = v k) (eS : s0 150 q = Int32.ofNat S) (hS : S ≤ 60) : ∀ (n i : Nat) (s : SG), i + n = 20 → N + i ≤ 8 → PM s0 v N i s → (∀ k, k < i → goE v S N k) → ∃ T f, rdM s_ n i s = (Int32.ofNat T, f) ∧ PM s0 v N T f ∧ (∀ k, k < T → goE v S N k) ∧ ¬ goE v S N T := by
  intro n
  induction n with
  | zero =>
    intro i s hi hN hP hg
    refine ⟨i, s, rfl, hP, hg, fun w => ?_⟩
    have := w.1
    omega
  | succ n ih =>
    intro i s hi hN hP hg
    have fA : ∀ j, s 150 j = s0 150 j := fun j => hP.1 150 j rfl
    have fB : ∀ j, s 151 j = s0 151 j := fun j => hP.1 151 j rfl
    have cq : (Int32.ofNat q).toNatClampNeg = q := ofn_c (by omega)
    have e3 : 3 * Int32.ofNat i = Int32.ofNat (3 * i) := ofn_mul rfl rfl
    rw [rdM_s, fA, es, cq, eS, e3, ge3 (by omega) hS]
    by_cases w : S ≤ 3 * i + 2
    · rw [decide_eq_true w]
      refine ⟨i, s, rfl, hP, hg, fun x => ?_⟩
      have := x.1
      omega
    · rw [decide_eq_false w]
      have k0 : (60 * Int32.ofNat q) + 3 * Int32.ofNat i = Int32.ofNat (60 * q + 3 * i) := ofn_add (ofn_mul rfl rfl) (ofn_mul rfl rfl)
      have j0 : ((60 * Int32.ofNat q) + 3 * Int32.ofNat i).toNatClampNeg = 60 * q + 3 * i := by rw [k0]; exact ofn_c (by omega)
      have j1 : (((60 * Int32.ofNat q) + 3 * Int32.ofNat i) + 1).toNatClampNeg = 60 * q + (3 * i + 1) := by
        rw [k0, show Int32.ofNat (60 * q + 3 * i) + 1 = Int32.ofNat (60 * q + 3 * i + 1) from ofn_add rfl rfl]; exact ofn_c (by omega)
      have j2 : (((60 * Int32.ofNat q) + 3 * Int32.ofNat i) + 2).toNatClampNeg = 60 * q + (3 * i + 2) := by
        rw [k0, show Int32.ofNat (60 * q + 3 * i) + 2 = Int32.ofNat (60 * q + 3 * i + 2) from ofn_add rfl rfl]; exact ofn_c (by omega)
      have eE : emR (Int32.ofNat q) i s = F_event s (v (3 * i)) (v (3 * i + 1)) (v (3 * i + 2)) := by
        unfold emR
        rw [j0, j1, j2, fB, fB, fB, hv _ (by omega), hv _ (by omega), hv _ (by omega)]
      rw [eE, cF]
      rcases evM1 hN hP.2.1 (v (3 * i)) (v (3 * i + 1)) (v (3 * i + 2)) with ⟨a1, a2, a3⟩ | ⟨a1, a2, a3⟩
      · rw [a3]
        have c : m_cmp .le (Int32.ofNat (N + i + 1)) 0 = false := by
          cases y : m_cmp .le (Int32.ofNat (N + i + 1)) 0 with
          | false => rfl
          | true =>
            have y := mle_iff.mp y
            rw [ofn_int (by omega)] at y
            have e0 : (0 : Int32).toInt = 0 := by decide
            omega
        dsimp only
        rw [c, cF, ← es]
        refine ih (i + 1) _ (by omega) (by omega) hP.app (fun k hk => ?_)
        by_cases x : k = i
        · rw [x]; exact ⟨by omega, a1, a2⟩
        · exact hg k (by omega)
      · rw [a3, cT, a2]
        exact ⟨i, s, rfl, hP, hg, fun x => a1 ⟨x.2.1, x.2.2⟩⟩
theorem q_read {s : SG} (h : KF s) (s_ : Int32) : QK (F_cread s s_) (fun y => F_read y s_) := by
  cases q1 : bl s_ 4 with
  | false =>
    refine same_q (v := -2) h ?_ ?_
    · unfold F_cread; rw [q1]; rfl
    · unfold F_read; rw [q1]; rfl
  | true =>
    obtain ⟨es, hq⟩ := bl_ofn q1
    have hq : s_.toNatClampNeg < 4 := hq
    obtain ⟨k1, k2, k3, k4, k5, k6⟩ := h.1.2.2.2.2.1 _ hq
    cases q3 : m_cmp .ne (s 148 s_.toNatClampNeg) 0 with
    | false =>
      refine find_q (v := 1) h ?_ ?_
      · unfold F_cread; rw [q1, eq_ne, k1, q3]; rfl
      · unfold F_read
        have f148 : (F_find s 1).2 148 s_.toNatClampNeg = s 148 s_.toNatClampNeg := rfl
        rw [q1, f148, q3]; rfl
    | true =>
      have eC : F_cread s s_ = rdC (115 + 2 * s_.toNatClampNeg) 20 0 s := by unfold F_cread; rw [q1, eq_ne, k1, q3]; rfl
      have eM : ∀ y : SG, y 148 s_.toNatClampNeg = s 148 s_.toNatClampNeg → F_read y s_ = rdM s_ 20 0 y := fun y hy => by unfold F_read; rw [q1, hy, q3]; rfl
      generalize s_.toNatClampNeg = q at *
      obtain ⟨S, hS, eS⟩ := lenO k4 k5
      obtain ⟨⟨hU, hC, hE, hSn, hH⟩, hX⟩ := h
      obtain ⟨E1, E2, E3, E4, E5, E6, E7⟩ := hE
      obtain ⟨N, hN, eN⟩ := lenO E2 E3
      have eN2 : s 123 11 = Int32.ofNat N := E1.symm.trans eN
      have cN : (Int32.ofNat N).toNatClampNeg = N := ofn_c (by omega)
      obtain ⟨T, c, r1, pc, g1, g2⟩ := rdC_sp (s0 := s) (A := 115 + 2 * q) (S := S) (N := N) (v := fun k => s 151 (60 * q + k)) (by omega) (by omega) (fun k hk => by rw [show 115 + 2 * q + 1 = 116 + 2 * q by omega]; exact k6 k hk) (k3.trans eS) hS 20 0 s rfl (by omega) ⟨Fr.rf _ _, eN, fun e => by rw [if_neg (by omega)], fun e => by rw [if_neg (by omega)], fun e => by rw [if_neg (by omega)], fun w => absurd rfl w, fun _ => rfl⟩ (fun k hk => absurd hk (by omega))
      have fc := pc.1
      obtain ⟨T2, f, r2, pm, d1, d2⟩ := rdM_sp (s0 := c) (S := S) (N := N) (v := fun k => s 151 (60 * q + k)) hq s_ es (fun k _ => fc 151 _ rfl) ((fc 150 q rfl).trans eS) hS 20 0 c rfl (by omega) ⟨Fr.rf _ _, (fc 123 11 rfl).trans eN2, fun e => by rw [if_neg (by omega)], fun e => by rw [if_neg (by omega)], fun e => by rw [if_neg (by omega)]⟩ (fun k hk => absurd hk (by omega))
      have eT : T2 = T := by
        rcases Nat.lt_trichotomy T T2 with w | w | w
        · exact absurd (d1 T w) g2
        · exact w.symm
        · exact absurd (g1 T2 w) d2
      subst eT
      unfold QK
      rw [eC, r1]
      dsimp only
      rw [eM c (fc 148 q rfl), r2]
      dsimp only
      refine ⟨?_, rfl⟩
      obtain ⟨-, p2, p3, p4, p5, p6, p7⟩ := pc
      obtain ⟨fm, m2, m3, m4, m5⟩ := pm
      have ft : Fr [(0, 0, some 12), (0, 0, some 13), (2, 2, some 3), (3, 5, none), (123, 123, some 11), (130, 132, none)] s f := (fc.wk rfl).tr (fm.wk rfl)
      have TN : N + T2 ≤ 8 := by
        cases T2 with
        | zero => exact hN
        | succ T =>
          have := (g1 T (by omega)).2.1
          omega
      have cT2 : (Int32.ofNat (N + T2)).toNatClampNeg = N + T2 := ofn_c (by omega)
      have y2 : f 2 3 = Int32.ofNat (N + T2) := (fm 2 3 rfl).trans p2
      refine ⟨⟨hU.ag (ft.ag DT rfl), hC.ag (ft.ag DC rfl), ⟨y2.trans m2.symm, ?_, ?_, fun e he => ⟨?_, ?_, ?_⟩, ?_, ?_, ?_⟩, hSn.ag (ft.ag DS rfl), hH.ag (ft.ag DH rfl)⟩, ?_⟩
      · rw [y2, ofn_int (by omega)]; omega
      · rw [y2, cT2]; omega
      · rw [fm 3 e rfl, p3 e, m3 e, (E4 e he).1, fc 130 e rfl]
      · rw [fm 4 e rfl, p4 e, m4 e, (E4 e he).2.1, fc 131 e rfl]
      · rw [fm 5 e rfl, p5 e, m5 e, (E4 e he).2.2, fc 132 e rfl]
      · intro e he
        rw [y2, cT2] at he
        rw [fm 3 e rfl, fm 4 e rfl, p3 e, p4 e]
        by_cases w : N ≤ e ∧ e < N + T2
        · rw [if_pos w, if_pos w]
          have g := (g1 (e - N) (by omega)).2.2
          unfold gdE at g
          dsimp only at g ⊢
          cases b1 : bl (s 151 (60 * q + 3 * (e - N))) 3 with
          | false => rw [b1] at g; cases g
          | true =>
            cases b2 : bl (s 151 (60 * q + (3 * (e - N) + 1))) 24 with
            | false => rw [b1, b2] at g; cases g
            | true =>
              obtain ⟨em, lm⟩ := bl_ofn b2
              exact ⟨bl_3.mp b1, _, lm, em⟩
        · rw [if_neg w, if_neg w]
          exact E5 e (by rw [eN, cN]; omega)
      · rw [ft 10 5 rfl, ft 123 9 rfl]; exact E6
      · rw [ft 10 6 rfl, ft 123 10 rfl]; exact E7
      · by_cases w : T2 = 0
        · have e := p7 w
          rw [e] at fm
          exact hX.ag (fm.ag DX rfl)
        · obtain ⟨x1, x2⟩ := p6 w
          exact KX.stale ((fm 0 12 rfl).trans x1) ((fm 0 13 rfl).trans x2)
