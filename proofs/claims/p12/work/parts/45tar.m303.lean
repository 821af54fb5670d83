def W_yearsOf : List (Nat × Nat × Option Nat) := [(126, 129, none), (133, 144, none), (147, 147, none), (123, 123, some 2), (123, 123, some 5), (123, 123, some 7), (123, 123, some 17), (123, 123, some 19), (123, 123, some 20), (123, 123, some 21), (123, 123, some 22), (123, 123, some 23), (123, 123, some 24), (123, 123, some 25), (123, 123, some 26), (123, 123, some 27)]
def B_yearsOf_6 (n : Int32) (i2 : Nat) (a2 : SG × Int32) : SG × Int32 := let v3 := bif m_cmp .ge (Int32.ofNat i2) n then a2.2 else (1103515245 * a2.2) + 12345; let v4 := bif m_cmp .ge (Int32.ofNat i2) n then (2 : Int32) else ((v3.toUInt32 >>> (16.toUInt32 &&& Int32.toUInt32 31)).toInt32) - ((v3.toUInt32 >>> (16.toUInt32 &&& Int32.toUInt32 31)).toInt32) / 4 * 4; ((uset a2.1 133 i2 v4), v3)
theorem fr_B_yearsOf_6 (n : Int32) (i2 : Nat) (a2 : SG × Int32)  (hi2 : i2 < 24) : Fr W_yearsOf a2.1 ((B_yearsOf_6 n) i2 a2).1 := by dsimp only [B_yearsOf_6]; exact (let v3 : Int32 := bif m_cmp .ge (Int32.ofNat i2) n then a2.2 else (1103515245 * a2.2) + 12345; (let v4 : Int32 := bif m_cmp .ge (Int32.ofNat i2) n then (2 : Int32) else ((v3.toUInt32 >>> (16.toUInt32 &&& Int32.toUInt32 31)).toInt32) - ((v3.toUInt32 >>> (16.toUInt32 &&& Int32.toUInt32 31)).toInt32) / 4 * 4; (Fr.uset (s1 := a2.1) (a := 133) (j := i2) (x := v4) (by rfl) (Fr.rf _ _))))
def F_yearsOf (s : SG) (seed : Int32) (n : Int32) (what : Int32) : Int32 × SG := let z1 := F_asTold s ; let z2 := itr (B_yearsOf_6 n) 0 24 (z1, seed); let z5 := F_runs z2.1 ; let v6 := bif m_cmp .ne what 0 then z5 123 20 else z5 123 19; (v6, z5)
theorem fr_yearsOf (s : SG) (seed : Int32) (n : Int32) (what : Int32)  : Fr W_yearsOf s (F_yearsOf s seed n what).2 := by dsimp only [F_yearsOf]; exact (let z1 : SG := F_asTold s ; (let z2 : SG × Int32 := itr (B_yearsOf_6 n) 0 24 (z1, seed); (Fr.tr (s1 := z2.1) (frItrB (W := W_yearsOf) (m := (fun x : SG × Int32 => x.1)) 24 (fun i a h => Fr.wk (W2 := W_yearsOf) (fr_B_yearsOf_6 n i a  h) (by rfl)) _ _ _ (by omega) (Fr.tr (s1 := s) (Fr.rf _ _) (Fr.wk (W2 := W_yearsOf) (fr_asTold s ) (by rfl)))) (Fr.wk (W2 := W_yearsOf) (fr_runs z2.1 ) (by rfl)))))
theorem ux_yearsOf (s : SG) (seed : Int32) (n : Int32) (what : Int32)  : UP m_X7_yearsOf 0 (m_ent 6 [.ref 123, .int seed, .int n, .int what]) [] s (Qb (F_yearsOf s seed n what)) := by
  refine UP.stp 1 (i1 := 1) (L1 := [some (.ref 123), some (.int seed), some (.int n), some (.int what), none, none]) (st1 := [.ref 123]) (s1 := s) rfl ?_
  refine UP.cV (M1 := m_X7_asTold) (as := [.ref 123]) (rest := []) (T := F_asTold s ) rfl rfl (ux_asTold s ) (fun z1 e1 => ?_)
  refine UP.stp 4 (i1 := 6) (L1 := [some (.ref 123), some (.int seed), some (.int n), some (.int what), some (.int seed), some (.int 0)]) (st1 := []) (s1 := z1) rfl ?_
  refine lp (fun (i2 : Nat) (a2 : SG × Int32) => ∀ (u2_1 : Option Value), UP m_X7_yearsOf 6 [some (.ref 123), u2_1, some (.int n), some (.int what), some (.int a2.2), some (.int (Int32.ofNat i2))] [] a2.1 (Qb (F_yearsOf s seed n what))) (fun (_ : Nat) (a2 : SG × Int32) => Fr W_yearsOf z1 a2.1) (B_yearsOf_6 n) (24) (fun i2 a2 hi2 g2 => g2.tr (fr_B_yearsOf_6 n i2 a2 hi2)) (fun i2 a2 hi2 g2 kk => ?_) 24 (0) (z1, seed) (by omega) (Fr.rf _ _) (fun z2 e2 g2 => ?_) (some (.int seed))
  · skip
    intro u2_1
    refine UP.stp 2 (i1 := 8) (L1 := [some (.ref 123), u2_1, some (.int n), some (.int what), some (.int a2.2), some (.int (Int32.ofNat i2))]) (st1 := [.int 24, .int (Int32.ofNat i2)]) (s1 := a2.1) rfl ?_
    refine UP.icF rfl (ge_F (show i2 < (24 : Int32).toNatClampNeg from hi2)) ?_
    refine UP.stp 2 (i1 := 11) (L1 := [some (.ref 123), u2_1, some (.int n), some (.int what), some (.int a2.2), some (.int (Int32.ofNat i2))]) (st1 := [.int n, .int (Int32.ofNat i2)]) (s1 := a2.1) rfl ?_
    refine mrg (m_cmp .ge (Int32.ofNat i2) n) a2.2 ((1103515245 * a2.2) + 12345) (fun v3 : Int32 => UP m_X7_yearsOf 19 [some (.ref 123), u2_1, some (.int n), some (.int what), some (.int a2.2), some (.int (Int32.ofNat i2))] [.int v3] a2.1 (Qb (F_yearsOf s seed n what))) (fun cc kk => ?_) (fun cc kk => ?_) (fun v3 e3 => ?_)
    · skip
      refine UP.icT rfl cc ?_
      refine UP.stp 1 (i1 := 19) (L1 := [some (.ref 123), u2_1, some (.int n), some (.int what), some (.int a2.2), some (.int (Int32.ofNat i2))]) (st1 := [.int a2.2]) (s1 := a2.1) rfl ?_
      exact kk
    · skip
      refine UP.icF rfl cc ?_
      refine UP.stp 6 (i1 := 19) (L1 := [some (.ref 123), u2_1, some (.int n), some (.int what), some (.int a2.2), some (.int (Int32.ofNat i2))]) (st1 := [.int ((1103515245 * a2.2) + 12345)]) (s1 := a2.1) rfl ?_
      exact kk
    refine UP.stp 6 (i1 := 25) (L1 := [some (.ref 123), u2_1, some (.int n), some (.int what), some (.int v3), some (.int (Int32.ofNat i2))]) (st1 := [.int n, .int (Int32.ofNat i2), .int (Int32.ofNat i2), .ref 133]) (s1 := a2.1) rfl ?_
    refine mrg (m_cmp .ge (Int32.ofNat i2) n) (2 : Int32) (((v3.toUInt32 >>> (16.toUInt32 &&& Int32.toUInt32 31)).toInt32) - ((v3.toUInt32 >>> (16.toUInt32 &&& Int32.toUInt32 31)).toInt32) / 4 * 4) (fun v4 : Int32 => UP m_X7_yearsOf 33 [some (.ref 123), u2_1, some (.int n), some (.int what), some (.int v3), some (.int (Int32.ofNat i2))] [.int v4, .int (Int32.ofNat i2), .ref 133] a2.1 (Qb (F_yearsOf s seed n what))) (fun cc kk => ?_) (fun cc kk => ?_) (fun v4 e4 => ?_)
    · skip
      refine UP.icT rfl cc ?_
      refine UP.stp 1 (i1 := 33) (L1 := [some (.ref 123), u2_1, some (.int n), some (.int what), some (.int v3), some (.int (Int32.ofNat i2))]) (st1 := [.int 2, .int (Int32.ofNat i2), .ref 133]) (s1 := a2.1) rfl ?_
      exact kk
    · skip
      refine UP.icF rfl cc ?_
      refine UP.stp 6 (i1 := 33) (L1 := [some (.ref 123), u2_1, some (.int n), some (.int what), some (.int v3), some (.int (Int32.ofNat i2))]) (st1 := [.int (((v3.toUInt32 >>> (16.toUInt32 &&& Int32.toUInt32 31)).toInt32) - ((v3.toUInt32 >>> (16.toUInt32 &&& Int32.toUInt32 31)).toInt32) / 4 * 4), .int (Int32.ofNat i2), .ref 133]) (s1 := a2.1) rfl ?_
      exact kk
    refine UP.ast (e := i2) rfl rfl (by omega) ?_
    show UP m_X7_yearsOf 34 [some (.ref 123), u2_1, some (.int n), some (.int what), some (.int v3), some (.int (Int32.ofNat i2))] [] (uset a2.1 133 i2 v4) (Qb (F_yearsOf s seed n what))
    refine UP.stp 2 (i1 := 6) (L1 := [some (.ref 123), u2_1, some (.int n), some (.int what), some (.int v3), some (.int ((Int32.ofNat i2) + 1))]) (st1 := []) (s1 := (uset a2.1 133 i2 v4)) rfl ?_
    subst e4 e3
    rw [ofn_s]
    exact kk _
  intro u2_1
  refine UP.stp 2 (i1 := 8) (L1 := [some (.ref 123), u2_1, some (.int n), some (.int what), some (.int z2.2), some (.int (Int32.ofNat 24))]) (st1 := [.int 24, .int (Int32.ofNat 24)]) (s1 := z2.1) rfl ?_
  refine UP.icT rfl (ge_T (24 : Int32)) ?_
  refine UP.stp 1 (i1 := 37) (L1 := [some (.ref 123), u2_1, some (.int n), some (.int what), some (.int z2.2), some (.int (Int32.ofNat 24))]) (st1 := [.ref 123]) (s1 := z2.1) rfl ?_
  refine UP.cV (M1 := m_X7_runs) (as := [.ref 123]) (rest := []) (T := F_runs z2.1 ) rfl rfl (ux_runs z2.1 ) (fun z5 e5 => ?_)
  refine UP.stp 1 (i1 := 39) (L1 := [some (.ref 123), u2_1, some (.int n), some (.int what), some (.int z2.2), some (.int (Int32.ofNat 24))]) (st1 := [.int what]) (s1 := z5) rfl ?_
  refine mrg (m_cmp .ne what 0) (z5 123 20) (z5 123 19) (fun v6 : Int32 => UP m_X7_yearsOf 45 [some (.ref 123), u2_1, some (.int n), some (.int what), some (.int z2.2), some (.int (Int32.ofNat 24))] [.int v6] z5 (Qb (F_yearsOf s seed n what))) (fun cc kk => ?_) (fun cc kk => ?_) (fun v6 e6 => ?_)
  · skip
    refine UP.ifT rfl cc ?_
    refine UP.stp 2 (i1 := 45) (L1 := [some (.ref 123), u2_1, some (.int n), some (.int what), some (.int z2.2), some (.int (Int32.ofNat 24))]) (st1 := [.int (z5 123 20)]) (s1 := z5) rfl ?_
    exact kk
  · skip
    refine UP.ifF rfl cc ?_
    refine UP.stp 3 (i1 := 45) (L1 := [some (.ref 123), u2_1, some (.int n), some (.int what), some (.int z2.2), some (.int (Int32.ofNat 24))]) (st1 := [.int (z5 123 19)]) (s1 := z5) rfl ?_
    exact kk
  exact UP.ret (r := some (.int v6)) rfl ⟨by subst e6 e5 e2 e1; rfl, by subst e6 e5 e2 e1; rfl⟩
def W_years : List (Nat × Nat × Option Nat) := [(126, 129, none), (133, 144, none), (147, 147, none), (123, 123, some 2), (123, 123, some 5), (123, 123, some 7), (123, 123, some 17), (123, 123, some 19), (123, 123, some 20), (123, 123, some 21), (123, 123, some 22), (123, 123, some 23), (123, 123, some 24), (123, 123, some 25), (123, 123, some 26), (123, 123, some 27)]
def F_years (s : SG) (seed : Int32) (n : Int32) (what : Int32) : Int32 × SG := let w5 := bif m_cmp .eq (F_in s n 0 24) 0 then ((-2 : Int32), s) else (bif m_cmp .eq (F_isTwo s what) 0 then ((-2 : Int32), s) else (F_yearsOf s seed n what)); w5
theorem fr_years (s : SG) (seed : Int32) (n : Int32) (what : Int32)  : Fr W_years s (F_years s seed n what).2 := by dsimp only [F_years]; exact (Fr.bifp (b := m_cmp .eq (F_in s n 0 24) 0) (x := ((-2 : Int32), s)) (y := (bif m_cmp .eq (F_isTwo s what) 0 then ((-2 : Int32), s) else (F_yearsOf s seed n what))) (fun x : Int32 × SG => x.2) (Fr.rf _ _) (Fr.bifp (b := m_cmp .eq (F_isTwo s what) 0) (x := ((-2 : Int32), s)) (y := (F_yearsOf s seed n what)) (fun x : Int32 × SG => x.2) (Fr.rf _ _) (Fr.tr (s1 := s) (Fr.rf _ _) (Fr.wk (W2 := W_years) (fr_yearsOf s seed n what) (by rfl)))))
theorem ux_years (s : SG) (seed : Int32) (n : Int32) (what : Int32)  : UP m_X7_years 0 (m_ent 4 [.ref 123, .int seed, .int n, .int what]) [] s (Qb (F_years s seed n what)) := by
  refine UP.stp 3 (i1 := 3) (L1 := [some (.ref 123), some (.int seed), some (.int n), some (.int what)]) (st1 := [.int 24, .int 0, .int n]) (s1 := s) rfl ?_
  refine UP.cI (M1 := m_X7_in) (as := [.int n, .int 0, .int 24]) (rest := []) (T := F_in s n 0 24) rfl rfl (ux_in s n 0 24) ?_
  refine mrg (m_cmp .eq (F_in s n 0 24) 0) ((-2 : Int32), s) (bif m_cmp .eq (F_isTwo s what) 0 then ((-2 : Int32), s) else (F_yearsOf s seed n what)) (fun w5 : Int32 × SG => UP m_X7_years 15 [some (.ref 123), some (.int seed), some (.int n), some (.int what)] [.int w5.1] w5.2 (Qb (F_years s seed n what))) (fun cc kk => ?_) (fun cc kk => ?_) (fun w5 e5 => ?_)
  · skip
    refine UP.ifT rfl cc ?_
    refine UP.stp 1 (i1 := 15) (L1 := [some (.ref 123), some (.int seed), some (.int n), some (.int what)]) (st1 := [.int (-2)]) (s1 := s) rfl ?_
    exact kk
  · skip
    refine UP.ifF rfl cc ?_
    refine UP.stp 1 (i1 := 6) (L1 := [some (.ref 123), some (.int seed), some (.int n), some (.int what)]) (st1 := [.int what]) (s1 := s) rfl ?_
    refine UP.cI (M1 := m_X7_isTwo) (as := [.int what]) (rest := []) (T := F_isTwo s what) rfl rfl (ux_isTwo s what) ?_
    refine mrg (m_cmp .eq (F_isTwo s what) 0) ((-2 : Int32), s) (F_yearsOf s seed n what) (fun w4 : Int32 × SG => UP m_X7_years 15 [some (.ref 123), some (.int seed), some (.int n), some (.int what)] [.int w4.1] w4.2 (Qb (F_years s seed n what))) (fun cc kk => ?_) (fun cc kk => ?_) (fun w4 e4 => ?_)
    · skip
      refine UP.ifT rfl cc ?_
      refine UP.stp 1 (i1 := 15) (L1 := [some (.ref 123), some (.int seed), some (.int n), some (.int what)]) (st1 := [.int (-2)]) (s1 := s) rfl ?_
      exact kk
    · skip
      refine UP.ifF rfl cc ?_
      refine UP.stp 4 (i1 := 12) (L1 := [some (.ref 123), some (.int seed), some (.int n), some (.int what)]) (st1 := [.int what, .int n, .int seed, .ref 123]) (s1 := s) rfl ?_
      refine UP.cB (M1 := m_X7_yearsOf) (as := [.ref 123, .int seed, .int n, .int what]) (rest := []) (T := F_yearsOf s seed n what) rfl rfl (ux_yearsOf s seed n what) (fun z3 e3 => ?_)
      refine UP.stp 1 (i1 := 15) (L1 := [some (.ref 123), some (.int seed), some (.int n), some (.int what)]) (st1 := [.int z3.1]) (s1 := z3.2) rfl ?_
      subst e3
      exact kk
    subst e4
    exact kk
  exact UP.ret (r := some (.int w5.1)) rfl ⟨by subst e5; rfl, by subst e5; rfl⟩
def W_swapOf : List (Nat × Nat × Option Nat) := [(126, 129, none), (133, 144, none), (147, 147, none), (123, 123, some 2), (123, 123, some 5), (123, 123, some 7), (123, 123, some 17), (123, 123, some 19), (123, 123, some 20), (123, 123, some 21), (123, 123, some 22), (123, 123, some 23), (123, 123, some 24), (123, 123, some 25), (123, 123, some 26), (123, 123, some 27)]
def B_swapOf_16  (i3 : Nat) (a3 : SG × Int32 × Int32) : SG × Int32 × Int32 := let z4 := F_runs (uset (uset a3.1 135 i2 (Int32.ofNat i3)) 135 i3 (Int32.ofNat i2)) ; let v5 := bif m_cmp .le (z4 123 19) a3.2.2 then a3.2.1 else (8 * (Int32.ofNat i2)) + (Int32.ofNat i3); let v6 := bif m_cmp .le (z4 123 19) a3.2.2 then a3.2.2 else z4 123 19; ((uset (uset z4 135 i2 (Int32.ofNat i2)) 135 i3 (Int32.ofNat i3)), v5, v6)
theorem fr_B_swapOf_16  (i3 : Nat) (a3 : SG × Int32 × Int32)   : Fr W_swapOf a3.1 ((B_swapOf_16) i3 a3).1 := by dsimp only [B_swapOf_16]; exact (let z4 : SG := F_runs (uset (uset a3.1 135 i2 (Int32.ofNat i3)) 135 i3 (Int32.ofNat i2)) ; (Fr.uset (s1 := (uset z4 135 i2 (Int32.ofNat i2))) (a := 135) (j := i3) (x := Int32.ofNat i3) (by rfl) (Fr.uset (s1 := z4) (a := 135) (j := i2) (x := Int32.ofNat i2) (by rfl) (Fr.tr (s1 := (uset (uset a3.1 135 i2 (Int32.ofNat i3)) 135 i3 (Int32.ofNat i2))) (Fr.uset (s1 := (uset a3.1 135 i2 (Int32.ofNat i3))) (a := 135) (j := i3) (x := Int32.ofNat i2) (by rfl) (Fr.uset (s1 := a3.1) (a := 135) (j := i2) (x := Int32.ofNat i3) (by rfl) (Fr.rf _ _))) (Fr.wk (W2 := W_swapOf) (fr_runs (uset (uset a3.1 135 i2 (Int32.ofNat i3)) 135 i3 (Int32.ofNat i2)) ) (by rfl))))))
def B_swapOf_8  (i2 : Nat) (a2 : SG × Int32 × Int32) : SG × Int32 × Int32 := let z3 := itr (B_swapOf_16) (i2 + 1) ((a2.1 123 2).toNatClampNeg - (i2 + 1)) (a2.1, a2.2.1, a2.2.2); (z3.1, z3.2.1, z3.2.2)
theorem fr_B_swapOf_8  (i2 : Nat) (a2 : SG × Int32 × Int32)   : Fr W_swapOf a2.1 ((B_swapOf_8) i2 a2).1 := by dsimp only [B_swapOf_8]; exact (Fr.itr (W := W_swapOf) (m := (fun x : SG × Int32 × Int32 => x.1)) (fun i a => Fr.wk (W2 := W_swapOf) (fr_B_swapOf_16  i a ) (by rfl)) _ _ _ (Fr.rf _ _))
def F_swapOf (s : SG) (what : Int32) : Int32 × SG := let z1 := F_asTold s ; let z2 := itr (B_swapOf_8) 0 ((z1 123 2).toNatClampNeg) (z1, (-1), (-1)); let v9 := bif m_cmp .ne z2.2.1 (-1) then (bif m_cmp .ne what 0 then (bif m_cmp .ne what 1 then z2.2.2 else z2.2.1 - z2.2.1 / 8 * 8) else z2.2.1 / 8) else (-1 : Int32); (v9, z2.1)
theorem fr_swapOf (s : SG) (what : Int32)  : Fr W_swapOf s (F_swapOf s what).2 := by dsimp only [F_swapOf]; exact (Fr.itr (W := W_swapOf) (m := (fun x : SG × Int32 × Int32 => x.1)) (fun i a => Fr.wk (W2 := W_swapOf) (fr_B_swapOf_8  i a ) (by rfl)) _ _ _ (Fr.tr (s1 := s) (Fr.rf _ _) (Fr.wk (W2 := W_swapOf) (fr_asTold s ) (by rfl))))
theorem ux_swapOf (s : SG) (what : Int32)  : UP m_X7_swapOf 0 (m_ent 6 [.ref 123, .int what]) [] s (Qb (F_swapOf s what)) := by
  refine UP.stp 1 (i1 := 1) (L1 := [some (.ref 123), some (.int what), none, none, none, none]) (st1 := [.ref 123]) (s1 := s) rfl ?_
  refine UP.cV (M1 := m_X7_asTold) (as := [.ref 123]) (rest := []) (T := F_asTold s ) rfl rfl (ux_asTold s ) (fun z1 e1 => ?_)
  refine UP.stp 6 (i1 := 8) (L1 := [some (.ref 123), some (.int what), some (.int (-1)), some (.int (-1)), some (.int 0), none]) (st1 := []) (s1 := z1) rfl ?_
  refine lp (fun (i2 : Nat) (a2 : SG × Int32 × Int32) => ∀ (u2_5 : Option Value), UP m_X7_swapOf 8 [some (.ref 123), some (.int what), some (.int a2.2.1), some (.int a2.2.2), some (.int (Int32.ofNat i2)), u2_5] [] a2.1 (Qb (F_swapOf s what))) (fun (_ : Nat) (a2 : SG × Int32 × Int32) => Fr W_swapOf z1 a2.1) (B_swapOf_8) ((z1 123 2).toNatClampNeg) (fun i2 a2 hi2 g2 => g2.tr (fr_B_swapOf_8  i2 a2 )) (fun i2 a2 hi2 g2 kk => ?_) ((z1 123 2).toNatClampNeg) (0) (z1, (-1), (-1)) (by omega) (Fr.rf _ _) (fun z2 e2 g2 => ?_) none
  · skip
    intro u2_5
    have hbi2 := cl_lt (z1 123 2)
    refine UP.stp 3 (i1 := 11) (L1 := [some (.ref 123), some (.int what), some (.int a2.2.1), some (.int a2.2.2), some (.int (Int32.ofNat i2)), u2_5]) (st1 := [.int (a2.1 123 2), .int (Int32.ofNat i2)]) (s1 := a2.1) rfl ?_
    refine UP.icF rfl (by rw [(g2 123 2 rfl)]; exact ge_F hi2) ?_
    refine UP.stp 4 (i1 := 16) (L1 := [some (.ref 123), some (.int what), some (.int a2.2.1), some (.int a2.2.2), some (.int (Int32.ofNat i2)), some (.int ((Int32.ofNat i2) + 1))]) (st1 := []) (s1 := a2.1) rfl ?_
    rw [show (Int32.ofNat i2) + 1 = Int32.ofNat (i2 + 1) from (ofn_add rfl rfl)]
    refine lp (fun (i3 : Nat) (a3 : SG × Int32 × Int32) => UP m_X7_swapOf 16 [some (.ref 123), some (.int what), some (.int a3.2.1), some (.int a3.2.2), some (.int (Int32.ofNat i2)), some (.int (Int32.ofNat i3))] [] a3.1 (Qb (F_swapOf s what))) (fun (_ : Nat) (a3 : SG × Int32 × Int32) => Fr W_swapOf a2.1 a3.1) (B_swapOf_16) ((a2.1 123 2).toNatClampNeg) (fun i3 a3 hi3 g3 => g3.tr (fr_B_swapOf_16  i3 a3 )) (fun i3 a3 hi3 g3 kk => ?_) ((a2.1 123 2).toNatClampNeg - (i2 + 1)) (i2 + 1) (a2.1, a2.2.1, a2.2.2) (by omega) (Fr.rf _ _) (fun z3 e3 g3 => ?_)
    · skip
      have hbi3 := cl_lt (a2.1 123 2)
      refine UP.stp 3 (i1 := 19) (L1 := [some (.ref 123), some (.int what), some (.int a3.2.1), some (.int a3.2.2), some (.int (Int32.ofNat i2)), some (.int (Int32.ofNat i3))]) (st1 := [.int (a3.1 123 2), .int (Int32.ofNat i3)]) (s1 := a3.1) rfl ?_
      refine UP.icF rfl (by rw [(g3 123 2 rfl)]; exact ge_F hi3) ?_
      refine UP.stp 4 (i1 := 24) (L1 := [some (.ref 123), some (.int what), some (.int a3.2.1), some (.int a3.2.2), some (.int (Int32.ofNat i2)), some (.int (Int32.ofNat i3))]) (st1 := [.int (Int32.ofNat i3), .int (Int32.ofNat i2), .ref 135]) (s1 := a3.1) rfl ?_
      refine UP.ast (e := i2) rfl rfl (by omega) ?_
      show UP m_X7_swapOf 25 [some (.ref 123), some (.int what), some (.int a3.2.1), some (.int a3.2.2), some (.int (Int32.ofNat i2)), some (.int (Int32.ofNat i3))] [] (uset a3.1 135 i2 (Int32.ofNat i3)) (Qb (F_swapOf s what))
      refine UP.stp 4 (i1 := 29) (L1 := [some (.ref 123), some (.int what), some (.int a3.2.1), some (.int a3.2.2), some (.int (Int32.ofNat i2)), some (.int (Int32.ofNat i3))]) (st1 := [.int (Int32.ofNat i2), .int (Int32.ofNat i3), .ref 135]) (s1 := (uset a3.1 135 i2 (Int32.ofNat i3))) rfl ?_
      refine UP.ast (e := i3) rfl rfl (by omega) ?_
      show UP m_X7_swapOf 30 [some (.ref 123), some (.int what), some (.int a3.2.1), some (.int a3.2.2), some (.int (Int32.ofNat i2)), some (.int (Int32.ofNat i3))] [] (uset (uset a3.1 135 i2 (Int32.ofNat i3)) 135 i3 (Int32.ofNat i2)) (Qb (F_swapOf s what))
      refine UP.stp 1 (i1 := 31) (L1 := [some (.ref 123), some (.int what), some (.int a3.2.1), some (.int a3.2.2), some (.int (Int32.ofNat i2)), some (.int (Int32.ofNat i3))]) (st1 := [.ref 123]) (s1 := (uset (uset a3.1 135 i2 (Int32.ofNat i3)) 135 i3 (Int32.ofNat i2))) rfl ?_
      refine UP.cV (M1 := m_X7_runs) (as := [.ref 123]) (rest := []) (T := F_runs (uset (uset a3.1 135 i2 (Int32.ofNat i3)) 135 i3 (Int32.ofNat i2)) ) rfl rfl (ux_runs (uset (uset a3.1 135 i2 (Int32.ofNat i3)) 135 i3 (Int32.ofNat i2)) ) (fun z4 e4 => ?_)
      refine UP.stp 4 (i1 := 36) (L1 := [some (.ref 123), some (.int what), some (.int a3.2.1), some (.int a3.2.2), some (.int (Int32.ofNat i2)), some (.int (Int32.ofNat i3))]) (st1 := [.int (Int32.ofNat i2), .int (Int32.ofNat i2), .ref 135]) (s1 := z4) rfl ?_
      refine UP.ast (e := i2) rfl rfl (by omega) ?_
      show UP m_X7_swapOf 37 [some (.ref 123), some (.int what), some (.int a3.2.1), some (.int a3.2.2), some (.int (Int32.ofNat i2)), some (.int (Int32.ofNat i3))] [] (uset z4 135 i2 (Int32.ofNat i2)) (Qb (F_swapOf s what))
      refine UP.stp 4 (i1 := 41) (L1 := [some (.ref 123), some (.int what), some (.int a3.2.1), some (.int a3.2.2), some (.int (Int32.ofNat i2)), some (.int (Int32.ofNat i3))]) (st1 := [.int (Int32.ofNat i3), .int (Int32.ofNat i3), .ref 135]) (s1 := (uset z4 135 i2 (Int32.ofNat i2))) rfl ?_
      refine UP.ast (e := i3) rfl rfl (by omega) ?_
      show UP m_X7_swapOf 42 [some (.ref 123), some (.int what), some (.int a3.2.1), some (.int a3.2.2), some (.int (Int32.ofNat i2)), some (.int (Int32.ofNat i3))] [] (uset (uset z4 135 i2 (Int32.ofNat i2)) 135 i3 (Int32.ofNat i3)) (Qb (F_swapOf s what))
      refine UP.stp 3 (i1 := 45) (L1 := [some (.ref 123), some (.int what), some (.int a3.2.1), some (.int a3.2.2), some (.int (Int32.ofNat i2)), some (.int (Int32.ofNat i3))]) (st1 := [.int a3.2.2, .int (z4 123 19)]) (s1 := (uset (uset z4 135 i2 (Int32.ofNat i2)) 135 i3 (Int32.ofNat i3))) rfl ?_
      refine mrg (m_cmp .le (z4 123 19) a3.2.2) a3.2.1 ((8 * (Int32.ofNat i2)) + (Int32.ofNat i3)) (fun v5 : Int32 => UP m_X7_swapOf 53 [some (.ref 123), some (.int what), some (.int a3.2.1), some (.int a3.2.2), some (.int (Int32.ofNat i2)), some (.int (Int32.ofNat i3))] [.int v5] (uset (uset z4 135 i2 (Int32.ofNat i2)) 135 i3 (Int32.ofNat i3)) (Qb (F_swapOf s what))) (fun cc kk => ?_) (fun cc kk => ?_) (fun v5 e5 => ?_)
      · skip
        refine UP.icT rfl cc ?_
        refine UP.stp 1 (i1 := 53) (L1 := [some (.ref 123), some (.int what), some (.int a3.2.1), some (.int a3.2.2), some (.int (Int32.ofNat i2)), some (.int (Int32.ofNat i3))]) (st1 := [.int a3.2.1]) (s1 := (uset (uset z4 135 i2 (Int32.ofNat i2)) 135 i3 (Int32.ofNat i3))) rfl ?_
        exact kk
      · skip
        refine UP.icF rfl cc ?_
        refine UP.stp 6 (i1 := 53) (L1 := [some (.ref 123), some (.int what), some (.int a3.2.1), some (.int a3.2.2), some (.int (Int32.ofNat i2)), some (.int (Int32.ofNat i3))]) (st1 := [.int ((8 * (Int32.ofNat i2)) + (Int32.ofNat i3))]) (s1 := (uset (uset z4 135 i2 (Int32.ofNat i2)) 135 i3 (Int32.ofNat i3))) rfl ?_
        exact kk
      refine UP.stp 4 (i1 := 57) (L1 := [some (.ref 123), some (.int what), some (.int v5), some (.int a3.2.2), some (.int (Int32.ofNat i2)), some (.int (Int32.ofNat i3))]) (st1 := [.int a3.2.2, .int (z4 123 19)]) (s1 := (uset (uset z4 135 i2 (Int32.ofNat i2)) 135 i3 (Int32.ofNat i3))) rfl ?_
      refine mrg (m_cmp .le (z4 123 19) a3.2.2) a3.2.2 (z4 123 19) (fun v6 : Int32 => UP m_X7_swapOf 62 [some (.ref 123), some (.int what), some (.int v5), some (.int a3.2.2), some (.int (Int32.ofNat i2)), some (.int (Int32.ofNat i3))] [.int v6] (uset (uset z4 135 i2 (Int32.ofNat i2)) 135 i3 (Int32.ofNat i3)) (Qb (F_swapOf s what))) (fun cc kk => ?_) (fun cc kk => ?_) (fun v6 e6 => ?_)
      · skip
        refine UP.icT rfl cc ?_
        refine UP.stp 1 (i1 := 62) (L1 := [some (.ref 123), some (.int what), some (.int v5), some (.int a3.2.2), some (.int (Int32.ofNat i2)), some (.int (Int32.ofNat i3))]) (st1 := [.int a3.2.2]) (s1 := (uset (uset z4 135 i2 (Int32.ofNat i2)) 135 i3 (Int32.ofNat i3))) rfl ?_
        exact kk
      · skip
        refine UP.icF rfl cc ?_
        refine UP.stp 3 (i1 := 62) (L1 := [some (.ref 123), some (.int what), some (.int v5), some (.int a3.2.2), some (.int (Int32.ofNat i2)), some (.int (Int32.ofNat i3))]) (st1 := [.int (z4 123 19)]) (s1 := (uset (uset z4 135 i2 (Int32.ofNat i2)) 135 i3 (Int32.ofNat i3))) rfl ?_
        exact kk
      refine UP.stp 3 (i1 := 16) (L1 := [some (.ref 123), some (.int what), some (.int v5), some (.int v6), some (.int (Int32.ofNat i2)), some (.int ((Int32.ofNat i3) + 1))]) (st1 := []) (s1 := (uset (uset z4 135 i2 (Int32.ofNat i2)) 135 i3 (Int32.ofNat i3))) rfl ?_
      subst e6 e5 e4
      rw [ofn_s]
      exact kk
    refine UP.stp 3 (i1 := 19) (L1 := [some (.ref 123), some (.int what), some (.int z3.2.1), some (.int z3.2.2), some (.int (Int32.ofNat i2)), some (.int (Int32.ofNat ((a2.1 123 2).toNatClampNeg)))]) (st1 := [.int (z3.1 123 2), .int (Int32.ofNat ((a2.1 123 2).toNatClampNeg))]) (s1 := z3.1) rfl ?_
    refine UP.icT rfl (by rw [(g3 123 2 rfl)]; exact ge_T _) ?_
    refine UP.stp 2 (i1 := 8) (L1 := [some (.ref 123), some (.int what), some (.int z3.2.1), some (.int z3.2.2), some (.int ((Int32.ofNat i2) + 1)), some (.int (Int32.ofNat ((a2.1 123 2).toNatClampNeg)))]) (st1 := []) (s1 := z3.1) rfl ?_
    subst e3
    rw [ofn_s]
    exact kk _
  intro u2_5
  refine UP.stp 3 (i1 := 11) (L1 := [some (.ref 123), some (.int what), some (.int z2.2.1), some (.int z2.2.2), some (.int (Int32.ofNat ((z1 123 2).toNatClampNeg))), u2_5]) (st1 := [.int (z2.1 123 2), .int (Int32.ofNat ((z1 123 2).toNatClampNeg))]) (s1 := z2.1) rfl ?_
  refine UP.icT rfl (by rw [(g2 123 2 rfl)]; exact ge_T _) ?_
  refine UP.stp 2 (i1 := 69) (L1 := [some (.ref 123), some (.int what), some (.int z2.2.1), some (.int z2.2.2), some (.int (Int32.ofNat ((z1 123 2).toNatClampNeg))), u2_5]) (st1 := [.int (-1), .int z2.2.1]) (s1 := z2.1) rfl ?_
  refine mrg (m_cmp .ne z2.2.1 (-1)) (bif m_cmp .ne what 0 then (bif m_cmp .ne what 1 then z2.2.2 else z2.2.1 - z2.2.1 / 8 * 8) else z2.2.1 / 8) (-1 : Int32) (fun v9 : Int32 => UP m_X7_swapOf 86 [some (.ref 123), some (.int what), some (.int z2.2.1), some (.int z2.2.2), some (.int (Int32.ofNat ((z1 123 2).toNatClampNeg))), u2_5] [.int v9] z2.1 (Qb (F_swapOf s what))) (fun cc kk => ?_) (fun cc kk => ?_) (fun v9 e9 => ?_)
  · skip
    refine UP.icT rfl cc ?_
    refine UP.stp 1 (i1 := 73) (L1 := [some (.ref 123), some (.int what), some (.int z2.2.1), some (.int z2.2.2), some (.int (Int32.ofNat ((z1 123 2).toNatClampNeg))), u2_5]) (st1 := [.int what]) (s1 := z2.1) rfl ?_
    refine mrg (m_cmp .ne what 0) (bif m_cmp .ne what 1 then z2.2.2 else z2.2.1 - z2.2.1 / 8 * 8) (z2.2.1 / 8) (fun v8 : Int32 => UP m_X7_swapOf 86 [some (.ref 123), some (.int what), some (.int z2.2.1), some (.int z2.2.2), some (.int (Int32.ofNat ((z1 123 2).toNatClampNeg))), u2_5] [.int v8] z2.1 (Qb (F_swapOf s what))) (fun cc kk => ?_) (fun cc kk => ?_) (fun v8 e8 => ?_)
    · skip
      refine UP.ifT rfl cc ?_
      refine UP.stp 2 (i1 := 80) (L1 := [some (.ref 123), some (.int what), some (.int z2.2.1), some (.int z2.2.2), some (.int (Int32.ofNat ((z1 123 2).toNatClampNeg))), u2_5]) (st1 := [.int 1, .int what]) (s1 := z2.1) rfl ?_
      refine mrg (m_cmp .ne what 1) z2.2.2 (z2.2.1 - z2.2.1 / 8 * 8) (fun v7 : Int32 => UP m_X7_swapOf 86 [some (.ref 123), some (.int what), some (.int z2.2.1), some (.int z2.2.2), some (.int (Int32.ofNat ((z1 123 2).toNatClampNeg))), u2_5] [.int v7] z2.1 (Qb (F_swapOf s what))) (fun cc kk => ?_) (fun cc kk => ?_) (fun v7 e7 => ?_)
      · skip
        refine UP.icT rfl cc ?_
        refine UP.stp 1 (i1 := 86) (L1 := [some (.ref 123), some (.int what), some (.int z2.2.1), some (.int z2.2.2), some (.int (Int32.ofNat ((z1 123 2).toNatClampNeg))), u2_5]) (st1 := [.int z2.2.2]) (s1 := z2.1) rfl ?_
        exact kk
      · skip
        refine UP.icF rfl cc ?_
        refine UP.stp 4 (i1 := 86) (L1 := [some (.ref 123), some (.int what), some (.int z2.2.1), some (.int z2.2.2), some (.int (Int32.ofNat ((z1 123 2).toNatClampNeg))), u2_5]) (st1 := [.int (z2.2.1 - z2.2.1 / 8 * 8)]) (s1 := z2.1) rfl ?_
        exact kk
      subst e7
      exact kk
    · skip
      refine UP.ifF rfl cc ?_
      refine UP.stp 4 (i1 := 86) (L1 := [some (.ref 123), some (.int what), some (.int z2.2.1), some (.int z2.2.2), some (.int (Int32.ofNat ((z1 123 2).toNatClampNeg))), u2_5]) (st1 := [.int (z2.2.1 / 8)]) (s1 := z2.1) rfl ?_
      exact kk
    subst e8
    exact kk
  · skip
    refine UP.icF rfl cc ?_
    refine UP.stp 2 (i1 := 86) (L1 := [some (.ref 123), some (.int what), some (.int z2.2.1), some (.int z2.2.2), some (.int (Int32.ofNat ((z1 123 2).toNatClampNeg))), u2_5]) (st1 := [.int (-1)]) (s1 := z2.1) rfl ?_
    exact kk
  exact UP.ret (r := some (.int v9)) rfl ⟨by subst e9 e2 e1; rfl, by subst e9 e2 e1; rfl⟩
def W_swap : List (Nat × Nat × Option Nat) := [(126, 129, none), (133, 144, none), (147, 147, none), (123, 123, some 2), (123, 123, some 5), (123, 123, some 7), (123, 123, some 17), (123, 123, some 19), (123, 123, some 20), (123, 123, some 21), (123, 123, some 22), (123, 123, some 23), (123, 123, some 24), (123, 123, some 25), (123, 123, some 26), (123, 123, some 27)]
def F_swap (s : SG) (what : Int32) : Int32 × SG := let w3 := bif m_cmp .eq (F_isThree s what) 0 then ((-2 : Int32), s) else (F_swapOf s what); w3
theorem fr_swap (s : SG) (what : Int32)  : Fr W_swap s (F_swap s what).2 := by dsimp only [F_swap]; exact (Fr.bifp (b := m_cmp .eq (F_isThree s what) 0) (x := ((-2 : Int32), s)) (y := (F_swapOf s what)) (fun x : Int32 × SG => x.2) (Fr.rf _ _) (Fr.tr (s1 := s) (Fr.rf _ _) (Fr.wk (W2 := W_swap) (fr_swapOf s what) (by rfl))))
theorem ux_swap (s : SG) (what : Int32)  : UP m_X7_swap 0 (m_ent 2 [.ref 123, .int what]) [] s (Qb (F_swap s what)) := by
  refine UP.stp 1 (i1 := 1) (L1 := [some (.ref 123), some (.int what)]) (st1 := [.int what]) (s1 := s) rfl ?_
  refine UP.cI (M1 := m_X7_isThree) (as := [.int what]) (rest := []) (T := F_isThree s what) rfl rfl (ux_isThree s what) ?_
  refine mrg (m_cmp .eq (F_isThree s what) 0) ((-2 : Int32), s) (F_swapOf s what) (fun w3 : Int32 × SG => UP m_X7_swap 8 [some (.ref 123), some (.int what)] [.int w3.1] w3.2 (Qb (F_swap s what))) (fun cc kk => ?_) (fun cc kk => ?_) (fun w3 e3 => ?_)
  · skip
    refine UP.ifT rfl cc ?_
    refine UP.stp 1 (i1 := 8) (L1 := [some (.ref 123), some (.int what)]) (st1 := [.int (-2)]) (s1 := s) rfl ?_
    exact kk
  · skip
    refine UP.ifF rfl cc ?_
    refine UP.stp 2 (i1 := 5) (L1 := [some (.ref 123), some (.int what)]) (st1 := [.int what, .ref 123]) (s1 := s) rfl ?_
    refine UP.cB (M1 := m_X7_swapOf) (as := [.ref 123, .int what]) (rest := []) (T := F_swapOf s what) rfl rfl (ux_swapOf s what) (fun z2 e2 => ?_)
    refine UP.stp 1 (i1 := 8) (L1 := [some (.ref 123), some (.int what)]) (st1 := [.int z2.1]) (s1 := z2.2) rfl ?_
    subst e2
    exact kk
  exact UP.ret (r := some (.int w3.1)) rfl ⟨by subst e3; rfl, by subst e3; rfl⟩
