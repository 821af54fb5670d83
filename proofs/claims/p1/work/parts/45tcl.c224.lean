def W_cbest : List (Nat × Nat × Option Nat) := [(16, 20, none), (22, 45, none), (46, 52, none), (15, 15, some 8), (59, 63, none), (65, 88, none), (89, 95, none), (58, 58, some 8), (53, 57, none), (96, 108, none), (0, 0, some 12), (0, 0, some 13)]
def B_cbest_7 (z1 : SG) (i2 : Nat) (a2 : Int32) : Int32 := let v5 := bif m_cmp .le (z1 46 i2) 0 then a2 else (bif m_cmp .eq a2 (-1) then Int32.ofNat i2 else (bif m_cmp .le (z1 47 i2) (z1 47 a2.toNatClampNeg) then a2 else Int32.ofNat i2)); v5
def F_cbest (s : SG)  : Int32 × SG := let z1 := F_toldTrip s ; let z2 := itr (B_cbest_7 z1) 0 ((z1 10 0).toNatClampNeg) (-1 : Int32); (z2, z1)
set_option maxRecDepth 20000 in
set_option maxHeartbeats 200000 in
theorem fr_cbest (s : SG)   : Fr W_cbest s (F_cbest s).2 := by dsimp only [F_cbest]; exact (Fr.tr (s1 := s) (Fr.rf _ _) (Fr.wk (W2 := W_cbest) (fr_toldTrip s ) (by rfl)))
set_option maxRecDepth 20000 in
set_option maxHeartbeats 200000 in
theorem ux_cbest (s : SG)   : UP m_X6_best 0 (m_ent 4 [.ref 0]) [] s (Qb (F_cbest s)) := by
  refine UP.stp 1 (i1 := 1) (L1 := [some (.ref 0), none, none, none]) (st1 := [.ref 0]) (s1 := s) rfl ?_
  refine UP.cR (M1 := m_X6_toldTrip) (as := [.ref 0]) (rest := []) (T := F_toldTrip s ) (a := 15) rfl rfl (ux_toldTrip s ) (fun z1 e1 => ?_)
  refine UP.stp 5 (i1 := 7) (L1 := [some (.ref 0), some (.ref 15), some (.int (-1)), some (.int 0)]) (st1 := []) (s1 := z1) rfl ?_
  refine lp (fun (i2 : Nat) (a2 : Int32) => UP m_X6_best 7 [some (.ref 0), some (.ref 15), some (.int a2), some (.int (Int32.ofNat i2))] [] z1 (Qb (F_cbest s))) (fun (_ : Nat) (a2 : Int32) => Fr W_cbest z1 z1) (B_cbest_7 z1) ((z1 10 0).toNatClampNeg) (fun i2 a2 hi2 g2 => g2) (fun i2 a2 hi2 g2 kk => ?_) ((z1 10 0).toNatClampNeg) (0) (-1 : Int32) (by  omega) (Fr.rf _ _) (fun z2 e2 g2 => ?_)
  · skip
    have hbi2 := cl_lt (z1 10 0)
    refine UP.stp 4 (i1 := 11) (L1 := [some (.ref 0), some (.ref 15), some (.int a2), some (.int (Int32.ofNat i2))]) (st1 := [.int (z1 10 0), .int (Int32.ofNat i2)]) (s1 := z1) rfl ?_
    refine UP.icF rfl (ge_F hi2) ?_
    refine UP.stp 3 (i1 := 15) (L1 := [some (.ref 0), some (.ref 15), some (.int a2), some (.int (Int32.ofNat i2))]) (st1 := [.int (Int32.ofNat i2), .ref 46]) (s1 := z1) rfl ?_
    refine UP.ald (e := i2) rfl rfl (by omega) ?_
    show UP m_X6_best 16 [some (.ref 0), some (.ref 15), some (.int a2), some (.int (Int32.ofNat i2))] [.int (z1 46 i2)] z1 (Qb (F_cbest s))
    refine mrg (m_cmp .le (z1 46 i2) 0) a2 (bif m_cmp .eq a2 (-1) then Int32.ofNat i2 else (bif m_cmp .le (z1 47 i2) (z1 47 a2.toNatClampNeg) then a2 else Int32.ofNat i2)) (fun v5 : Int32 => UP m_X6_best 31 [some (.ref 0), some (.ref 15), some (.int v5), some (.int (Int32.ofNat i2))] [] z1 (Qb (F_cbest s))) (fun cc kk => ?_) (fun cc kk => ?_) (fun v5 e5 => ?_)
    · skip
      refine UP.ifT rfl cc ?_
      exact kk
    · skip
      refine UP.ifF rfl cc ?_
      refine UP.stp 2 (i1 := 19) (L1 := [some (.ref 0), some (.ref 15), some (.int a2), some (.int (Int32.ofNat i2))]) (st1 := [.int (-1), .int a2]) (s1 := z1) rfl ?_
      refine mrg (m_cmp .eq a2 (-1)) (Int32.ofNat i2) (bif m_cmp .le (z1 47 i2) (z1 47 a2.toNatClampNeg) then a2 else Int32.ofNat i2) (fun v4 : Int32 => UP m_X6_best 31 [some (.ref 0), some (.ref 15), some (.int v4), some (.int (Int32.ofNat i2))] [] z1 (Qb (F_cbest s))) (fun cc kk => ?_) (fun cc kk => ?_) (fun v4 e4 => ?_)
      · skip
        refine UP.icT rfl cc ?_
        refine UP.stp 2 (i1 := 31) (L1 := [some (.ref 0), some (.ref 15), some (.int (Int32.ofNat i2)), some (.int (Int32.ofNat i2))]) (st1 := []) (s1 := z1) rfl ?_
        exact kk
      · skip
        refine UP.icF rfl cc ?_
        refine UP.stp 3 (i1 := 23) (L1 := [some (.ref 0), some (.ref 15), some (.int a2), some (.int (Int32.ofNat i2))]) (st1 := [.int (Int32.ofNat i2), .ref 47]) (s1 := z1) rfl ?_
        refine UP.ald (e := i2) rfl rfl (by omega) ?_
        show UP m_X6_best 24 [some (.ref 0), some (.ref 15), some (.int a2), some (.int (Int32.ofNat i2))] [.int (z1 47 i2)] z1 (Qb (F_cbest s))
        refine UP.stp 4 (i1 := 28) (L1 := [some (.ref 0), some (.ref 15), some (.int a2), some (.int (Int32.ofNat i2))]) (st1 := [.int (z1 47 a2.toNatClampNeg), .int (z1 47 i2)]) (s1 := z1) rfl ?_
        refine mrg (m_cmp .le (z1 47 i2) (z1 47 a2.toNatClampNeg)) a2 (Int32.ofNat i2) (fun v3 : Int32 => UP m_X6_best 31 [some (.ref 0), some (.ref 15), some (.int v3), some (.int (Int32.ofNat i2))] [] z1 (Qb (F_cbest s))) (fun cc kk => ?_) (fun cc kk => ?_) (fun v3 e3 => ?_)
        · skip
          refine UP.icT rfl cc ?_
          exact kk
        · skip
          refine UP.icF rfl cc ?_
          refine UP.stp 2 (i1 := 31) (L1 := [some (.ref 0), some (.ref 15), some (.int (Int32.ofNat i2)), some (.int (Int32.ofNat i2))]) (st1 := []) (s1 := z1) rfl ?_
          exact kk
        subst e3
        exact kk
      subst e4
      exact kk
    refine UP.stp 2 (i1 := 7) (L1 := [some (.ref 0), some (.ref 15), some (.int v5), some (.int ((Int32.ofNat i2) + 1))]) (st1 := []) (s1 := z1) rfl ?_
    subst e5
    rw [ofn_s]
    try dsimp only [B_cbest_7] at kk
    exact kk
  refine UP.stp 4 (i1 := 11) (L1 := [some (.ref 0), some (.ref 15), some (.int z2), some (.int (Int32.ofNat ((z1 10 0).toNatClampNeg)))]) (st1 := [.int (z1 10 0), .int (Int32.ofNat ((z1 10 0).toNatClampNeg))]) (s1 := z1) rfl ?_
  refine UP.icT rfl (ge_T _) ?_
  refine UP.stp 1 (i1 := 34) (L1 := [some (.ref 0), some (.ref 15), some (.int z2), some (.int (Int32.ofNat ((z1 10 0).toNatClampNeg)))]) (st1 := [.int z2]) (s1 := z1) rfl ?_
  exact UP.ret (r := some (.int z2)) rfl ⟨by subst e2 e1; first | (dsimp only [F_cbest]; done) | (dsimp only; done) | rfl, by subst e2 e1; first | (dsimp only [F_cbest]; done) | (dsimp only; done) | rfl⟩
def W_cidle : List (Nat × Nat × Option Nat) := [(16, 20, none), (22, 45, none), (46, 52, none), (15, 15, some 8), (59, 63, none), (65, 88, none), (89, 95, none), (58, 58, some 8), (53, 57, none), (96, 108, none), (0, 0, some 12), (0, 0, some 13)]
def B_cidle_7 (z1 : SG) (i2 : Nat) (a2 : Int32) : Int32 := let v4 := bif m_cmp .ne (z1 46 i2) 0 then a2 else (a2 ||| (1 <<< ((Int32.ofNat i2) &&& 31))); v4
def F_cidle (s : SG)  : Int32 × SG := let z1 := F_toldTrip s ; let z2 := itr (B_cidle_7 z1) 0 ((z1 10 0).toNatClampNeg) (0 : Int32); (z2, z1)
set_option maxRecDepth 20000 in
set_option maxHeartbeats 200000 in
theorem fr_cidle (s : SG)   : Fr W_cidle s (F_cidle s).2 := by dsimp only [F_cidle]; exact (Fr.tr (s1 := s) (Fr.rf _ _) (Fr.wk (W2 := W_cidle) (fr_toldTrip s ) (by rfl)))
set_option maxRecDepth 20000 in
set_option maxHeartbeats 200000 in
theorem ux_cidle (s : SG)   : UP m_X6_idle 0 (m_ent 4 [.ref 0]) [] s (Qb (F_cidle s)) := by
  refine UP.stp 1 (i1 := 1) (L1 := [some (.ref 0), none, none, none]) (st1 := [.ref 0]) (s1 := s) rfl ?_
  refine UP.cR (M1 := m_X6_toldTrip) (as := [.ref 0]) (rest := []) (T := F_toldTrip s ) (a := 15) rfl rfl (ux_toldTrip s ) (fun z1 e1 => ?_)
  refine UP.stp 5 (i1 := 7) (L1 := [some (.ref 0), some (.ref 15), some (.int 0), some (.int 0)]) (st1 := []) (s1 := z1) rfl ?_
  refine lp (fun (i2 : Nat) (a2 : Int32) => UP m_X6_idle 7 [some (.ref 0), some (.ref 15), some (.int a2), some (.int (Int32.ofNat i2))] [] z1 (Qb (F_cidle s))) (fun (_ : Nat) (a2 : Int32) => Fr W_cidle z1 z1) (B_cidle_7 z1) ((z1 10 0).toNatClampNeg) (fun i2 a2 hi2 g2 => g2) (fun i2 a2 hi2 g2 kk => ?_) ((z1 10 0).toNatClampNeg) (0) (0 : Int32) (by  omega) (Fr.rf _ _) (fun z2 e2 g2 => ?_)
  · skip
    have hbi2 := cl_lt (z1 10 0)
    refine UP.stp 4 (i1 := 11) (L1 := [some (.ref 0), some (.ref 15), some (.int a2), some (.int (Int32.ofNat i2))]) (st1 := [.int (z1 10 0), .int (Int32.ofNat i2)]) (s1 := z1) rfl ?_
    refine UP.icF rfl (ge_F hi2) ?_
    refine UP.stp 3 (i1 := 15) (L1 := [some (.ref 0), some (.ref 15), some (.int a2), some (.int (Int32.ofNat i2))]) (st1 := [.int (Int32.ofNat i2), .ref 46]) (s1 := z1) rfl ?_
    refine UP.ald (e := i2) rfl rfl (by omega) ?_
    show UP m_X6_idle 16 [some (.ref 0), some (.ref 15), some (.int a2), some (.int (Int32.ofNat i2))] [.int (z1 46 i2)] z1 (Qb (F_cidle s))
    refine mrg (m_cmp .ne (z1 46 i2) 0) a2 (a2 ||| (1 <<< ((Int32.ofNat i2) &&& 31))) (fun v4 : Int32 => UP m_X6_idle 23 [some (.ref 0), some (.ref 15), some (.int v4), some (.int (Int32.ofNat i2))] [] z1 (Qb (F_cidle s))) (fun cc kk => ?_) (fun cc kk => ?_) (fun v4 e4 => ?_)
    · skip
      refine UP.ifT rfl cc ?_
      exact kk
    · skip
      refine UP.ifF rfl cc ?_
      refine UP.stp 5 (i1 := 22) (L1 := [some (.ref 0), some (.ref 15), some (.int a2), some (.int (Int32.ofNat i2))]) (st1 := [.int (a2 ||| (1 <<< ((Int32.ofNat i2) &&& 31)))]) (s1 := z1) rfl ?_
      refine nm (G := fun v3 => UP m_X6_idle 22 [some (.ref 0), some (.ref 15), some (.int a2), some (.int (Int32.ofNat i2))] [.int v3] z1 (Qb (F_cidle s))) (a2 ||| (1 <<< ((Int32.ofNat i2) &&& 31))) (fun v3 e3 => ?_)
      refine UP.stp 1 (i1 := 23) (L1 := [some (.ref 0), some (.ref 15), some (.int v3), some (.int (Int32.ofNat i2))]) (st1 := []) (s1 := z1) rfl ?_
      subst e3
      exact kk
    refine UP.stp 2 (i1 := 7) (L1 := [some (.ref 0), some (.ref 15), some (.int v4), some (.int ((Int32.ofNat i2) + 1))]) (st1 := []) (s1 := z1) rfl ?_
    subst e4
    rw [ofn_s]
    try dsimp only [B_cidle_7] at kk
    exact kk
  refine UP.stp 4 (i1 := 11) (L1 := [some (.ref 0), some (.ref 15), some (.int z2), some (.int (Int32.ofNat ((z1 10 0).toNatClampNeg)))]) (st1 := [.int (z1 10 0), .int (Int32.ofNat ((z1 10 0).toNatClampNeg))]) (s1 := z1) rfl ?_
  refine UP.icT rfl (ge_T _) ?_
  refine UP.stp 1 (i1 := 26) (L1 := [some (.ref 0), some (.ref 15), some (.int z2), some (.int (Int32.ofNat ((z1 10 0).toNatClampNeg)))]) (st1 := [.int z2]) (s1 := z1) rfl ?_
  exact UP.ret (r := some (.int z2)) rfl ⟨by subst e2 e1; first | (dsimp only [F_cidle]; done) | (dsimp only; done) | rfl, by subst e2 e1; first | (dsimp only [F_cidle]; done) | (dsimp only; done) | rfl⟩
