def W_cdone : List (Nat × Nat × Option Nat) := [(16, 20, none), (22, 45, none), (46, 52, none), (15, 15, some 8), (59, 63, none), (65, 88, none), (89, 95, none), (58, 58, some 8), (54, 57, none), (53, 53, none), (96, 108, none), (0, 0, some 12), (0, 0, some 13)]
def F_cdone (s : SG) (seat : Int32) (what : Int32) : Int32 × SG := bif m_cmp .eq (F_cisRower s seat) 0 then (((-2), s)) else (bif m_cmp .ne (F_isBelow s what 2) 0 then (let z7 := F_toldTrip s ; let v8 := bif m_cmp .ne what 0 then z7 47 seat.toNatClampNeg else z7 46 seat.toNatClampNeg; (v8, z7)) else (((-2), s)))
theorem fr_cdone (s : SG) (seat : Int32) (what : Int32)  : Fr W_cdone s (F_cdone s seat what).2 := by dsimp only [F_cdone]; exact (Fr.bifp (b := m_cmp .eq (F_cisRower s seat) 0) (x := ((-2), s)) (y := bif m_cmp .ne (F_isBelow s what 2) 0 then (let z7 := F_toldTrip s ; let v8 := bif m_cmp .ne what 0 then z7 47 seat.toNatClampNeg else z7 46 seat.toNatClampNeg; (v8, z7)) else (((-2), s))) (fun x : Int32 × SG => x.2) (Fr.rf _ _) (Fr.bifp (b := m_cmp .ne (F_isBelow s what 2) 0) (x := let z7 := F_toldTrip s ; let v8 := bif m_cmp .ne what 0 then z7 47 seat.toNatClampNeg else z7 46 seat.toNatClampNeg; (v8, z7)) (y := ((-2), s)) (fun x : Int32 × SG => x.2) (Fr.tr (s1 := s) (Fr.rf _ _) (Fr.wk (W2 := W_cdone) (fr_toldTrip s ) (by rfl))) (Fr.rf _ _)))
theorem ux_cdone (s : SG) (seat : Int32) (what : Int32)  : UP m_X6_done 0 (m_ent 4 [.ref 0, .int seat, .int what]) [] s (Qb (F_cdone s seat what)) := by
  refine UP.stp 2 (i1 := 2) (L1 := [some (.ref 0), some (.int seat), some (.int what), none]) (st1 := [.int seat, .ref 0]) (s1 := s) rfl ?_
  refine UP.cI (M1 := m_X6_isRower) (as := [.ref 0, .int seat]) (rest := []) (T := F_cisRower s seat) rfl rfl (ux_cisRower s seat) ?_
  refine UP.spl (m_cmp .eq (F_cisRower s seat) 0) (((-2), s)) (bif m_cmp .ne (F_isBelow s what 2) 0 then (let z7 := F_toldTrip s ; let v8 := bif m_cmp .ne what 0 then z7 47 seat.toNatClampNeg else z7 46 seat.toNatClampNeg; (v8, z7)) else (((-2), s))) (by rfl) (fun cc => ?_) (fun cc => ?_)
  · skip
    refine UP.ifT rfl cc ?_
    refine UP.stp 1 (i1 := 9) (L1 := [some (.ref 0), some (.int seat), some (.int what), none]) (st1 := [.int (-2)]) (s1 := s) rfl ?_
    exact UP.ret (r := some (.int (-2))) rfl ⟨by rfl, by rfl⟩
  · skip
    refine UP.ifF rfl cc ?_
    refine UP.stp 2 (i1 := 6) (L1 := [some (.ref 0), some (.int seat), some (.int what), none]) (st1 := [.int 2, .int what]) (s1 := s) rfl ?_
    refine UP.cI (M1 := m_X6_isBelow) (as := [.int what, .int 2]) (rest := []) (T := F_isBelow s what 2) rfl rfl (ux_isBelow s what 2) ?_
    refine UP.spl (m_cmp .ne (F_isBelow s what 2) 0) (let z7 := F_toldTrip s ; let v8 := bif m_cmp .ne what 0 then z7 47 seat.toNatClampNeg else z7 46 seat.toNatClampNeg; (v8, z7)) (((-2), s)) (by rfl) (fun cc => ?_) (fun cc => ?_)
    · skip
      refine UP.ifT rfl cc ?_
      refine UP.stp 1 (i1 := 11) (L1 := [some (.ref 0), some (.int seat), some (.int what), none]) (st1 := [.ref 0]) (s1 := s) rfl ?_
      refine UP.cR (M1 := m_X6_toldTrip) (as := [.ref 0]) (rest := []) (T := F_toldTrip s ) (a := 15) rfl rfl (ux_toldTrip s ) (fun z7 e7 => ?_)
      refine UP.stp 2 (i1 := 14) (L1 := [some (.ref 0), some (.int seat), some (.int what), some (.ref 15)]) (st1 := [.int what]) (s1 := z7) rfl ?_
      refine mrg (m_cmp .ne what 0) (z7 47 seat.toNatClampNeg) (z7 46 seat.toNatClampNeg) (fun v8 : Int32 => UP m_X6_done 24 [some (.ref 0), some (.int seat), some (.int what), some (.ref 15)] [.int v8] z7 (Qb (let z7 := F_toldTrip s ; let v8 := bif m_cmp .ne what 0 then z7 47 seat.toNatClampNeg else z7 46 seat.toNatClampNeg; (v8, z7)))) (fun cc kk => ?_) (fun cc kk => ?_) (fun v8 e8 => ?_)
      · skip
        refine UP.ifT rfl cc ?_
        refine UP.stp 4 (i1 := 24) (L1 := [some (.ref 0), some (.int seat), some (.int what), some (.ref 15)]) (st1 := [.int (z7 47 seat.toNatClampNeg)]) (s1 := z7) rfl ?_
        exact kk
      · skip
        refine UP.ifF rfl cc ?_
        refine UP.stp 5 (i1 := 24) (L1 := [some (.ref 0), some (.int seat), some (.int what), some (.ref 15)]) (st1 := [.int (z7 46 seat.toNatClampNeg)]) (s1 := z7) rfl ?_
        exact kk
      exact UP.ret (r := some (.int v8)) rfl ⟨by subst e8 e7; rfl, by subst e8 e7; rfl⟩
    · skip
      refine UP.ifF rfl cc ?_
      refine UP.stp 1 (i1 := 9) (L1 := [some (.ref 0), some (.int seat), some (.int what), none]) (st1 := [.int (-2)]) (s1 := s) rfl ?_
      exact UP.ret (r := some (.int (-2))) rfl ⟨by rfl, by rfl⟩
def W_cthere : List (Nat × Nat × Option Nat) := [(16, 20, none), (22, 45, none), (46, 52, none), (15, 15, some 8), (59, 63, none), (65, 88, none), (89, 95, none), (58, 58, some 8), (54, 57, none), (53, 53, none), (96, 108, none), (0, 0, some 12), (0, 0, some 13)]
def F_cthere (s : SG)  : Int32 × SG := let z1 := F_toldTrip s ; (z1 15 8, z1)
theorem fr_cthere (s : SG)   : Fr W_cthere s (F_cthere s).2 := by dsimp only [F_cthere]; exact (Fr.tr (s1 := s) (Fr.rf _ _) (Fr.wk (W2 := W_cthere) (fr_toldTrip s ) (by rfl)))
theorem ux_cthere (s : SG)   : UP m_X6_there 0 (m_ent 1 [.ref 0]) [] s (Qb (F_cthere s)) := by
  refine UP.stp 1 (i1 := 1) (L1 := [some (.ref 0)]) (st1 := [.ref 0]) (s1 := s) rfl ?_
  refine UP.cR (M1 := m_X6_toldTrip) (as := [.ref 0]) (rest := []) (T := F_toldTrip s ) (a := 15) rfl rfl (ux_toldTrip s ) (fun z1 e1 => ?_)
  refine UP.stp 1 (i1 := 3) (L1 := [some (.ref 0)]) (st1 := [.int (z1 15 8)]) (s1 := z1) rfl ?_
  exact UP.ret (r := some (.int (z1 15 8))) rfl ⟨by subst e1; rfl, by subst e1; rfl⟩
def W_cgrounded : List (Nat × Nat × Option Nat) := [(16, 20, none), (22, 45, none), (46, 52, none), (15, 15, some 8), (59, 63, none), (65, 88, none), (89, 95, none), (58, 58, some 8), (54, 57, none), (53, 53, none), (96, 108, none), (0, 0, some 12), (0, 0, some 13)]
def F_cgrounded (s : SG) (what : Int32) : Int32 × SG := bif m_cmp .ne (F_isBelow s what 2) 0 then (let v8 := bif m_cmp .ne what 0 then F_firstAground_a (F_toldTrip s ) else F_minutesAground_a (F_toldTrip s ); (v8, (F_toldTrip s ))) else (((-2), s))
theorem fr_cgrounded (s : SG) (what : Int32)  : Fr W_cgrounded s (F_cgrounded s what).2 := by dsimp only [F_cgrounded]; exact (Fr.bifp (b := m_cmp .ne (F_isBelow s what 2) 0) (x := let v8 := bif m_cmp .ne what 0 then F_firstAground_a (F_toldTrip s ) else F_minutesAground_a (F_toldTrip s ); (v8, (F_toldTrip s ))) (y := ((-2), s)) (fun x : Int32 × SG => x.2) (Fr.tr (s1 := s) (Fr.rf _ _) (Fr.wk (W2 := W_cgrounded) (fr_toldTrip s ) (by rfl))) (Fr.rf _ _))
theorem ux_cgrounded (s : SG) (what : Int32)  : UP m_X6_grounded 0 (m_ent 2 [.ref 0, .int what]) [] s (Qb (F_cgrounded s what)) := by
  refine UP.stp 2 (i1 := 2) (L1 := [some (.ref 0), some (.int what)]) (st1 := [.int 2, .int what]) (s1 := s) rfl ?_
  refine UP.cI (M1 := m_X6_isBelow) (as := [.int what, .int 2]) (rest := []) (T := F_isBelow s what 2) rfl rfl (ux_isBelow s what 2) ?_
  refine UP.spl (m_cmp .ne (F_isBelow s what 2) 0) (let v8 := bif m_cmp .ne what 0 then F_firstAground_a (F_toldTrip s ) else F_minutesAground_a (F_toldTrip s ); (v8, (F_toldTrip s ))) (((-2), s)) (by rfl) (fun cc => ?_) (fun cc => ?_)
  · skip
    refine UP.ifT rfl cc ?_
    refine UP.stp 1 (i1 := 7) (L1 := [some (.ref 0), some (.int what)]) (st1 := [.int what]) (s1 := s) rfl ?_
    refine mrg (m_cmp .ne what 0) (F_firstAground_a (F_toldTrip s )) (F_minutesAground_a (F_toldTrip s )) (fun v8 : Int32 => UP m_X6_grounded 15 [some (.ref 0), some (.int what)] [.int v8] (F_toldTrip s ) (Qb (let v8 := bif m_cmp .ne what 0 then F_firstAground_a (F_toldTrip s ) else F_minutesAground_a (F_toldTrip s ); (v8, (F_toldTrip s ))))) (fun cc kk => ?_) (fun cc kk => ?_) (fun v8 e8 => ?_)
    · skip
      refine UP.ifT rfl cc ?_
      refine UP.stp 1 (i1 := 13) (L1 := [some (.ref 0), some (.int what)]) (st1 := [.ref 0]) (s1 := s) rfl ?_
      refine UP.cR (M1 := m_X6_toldTrip) (as := [.ref 0]) (rest := []) (T := F_toldTrip s ) (a := 15) rfl rfl (ux_toldTrip s ) (fun z4 e4 => ?_)
      refine UP.cI (M1 := m_X5_firstAground) (as := [.ref 15]) (rest := []) (T := F_firstAground_a z4 ) rfl rfl (ux_firstAground_a z4) ?_
      subst e4
      exact kk
    · skip
      refine UP.ifF rfl cc ?_
      refine UP.stp 1 (i1 := 9) (L1 := [some (.ref 0), some (.int what)]) (st1 := [.ref 0]) (s1 := s) rfl ?_
      refine UP.cR (M1 := m_X6_toldTrip) (as := [.ref 0]) (rest := []) (T := F_toldTrip s ) (a := 15) rfl rfl (ux_toldTrip s ) (fun z6 e6 => ?_)
      refine UP.cI (M1 := m_X5_minutesAground) (as := [.ref 15]) (rest := []) (T := F_minutesAground_a z6 ) rfl rfl (ux_minutesAground_a z6) ?_
      refine UP.stp 1 (i1 := 15) (L1 := [some (.ref 0), some (.int what)]) (st1 := [.int (F_minutesAground_a z6)]) (s1 := z6) rfl ?_
      subst e6
      exact kk
    exact UP.ret (r := some (.int v8)) rfl ⟨by subst e8; rfl, by subst e8; rfl⟩
  · skip
    refine UP.ifF rfl cc ?_
    refine UP.stp 1 (i1 := 5) (L1 := [some (.ref 0), some (.int what)]) (st1 := [.int (-2)]) (s1 := s) rfl ?_
    exact UP.ret (r := some (.int (-2))) rfl ⟨by rfl, by rfl⟩
def W_cstray : List (Nat × Nat × Option Nat) := [(16, 20, none), (22, 45, none), (46, 52, none), (15, 15, some 8), (59, 63, none), (65, 88, none), (89, 95, none), (58, 58, some 8), (54, 57, none), (53, 53, none), (96, 108, none), (0, 0, some 12), (0, 0, some 13)]
def F_cstray (s : SG) (what : Int32) : Int32 × SG := bif m_cmp .ne (F_isBelow s what 2) 0 then (let v8 := bif m_cmp .ne what 0 then F_farthestStray_a (F_toldTrip s ) else F_lastStray_a (F_toldTrip s ); (v8, (F_toldTrip s ))) else (((-2), s))
theorem fr_cstray (s : SG) (what : Int32)  : Fr W_cstray s (F_cstray s what).2 := by dsimp only [F_cstray]; exact (Fr.bifp (b := m_cmp .ne (F_isBelow s what 2) 0) (x := let v8 := bif m_cmp .ne what 0 then F_farthestStray_a (F_toldTrip s ) else F_lastStray_a (F_toldTrip s ); (v8, (F_toldTrip s ))) (y := ((-2), s)) (fun x : Int32 × SG => x.2) (Fr.tr (s1 := s) (Fr.rf _ _) (Fr.wk (W2 := W_cstray) (fr_toldTrip s ) (by rfl))) (Fr.rf _ _))
theorem ux_cstray (s : SG) (what : Int32)  : UP m_X6_stray 0 (m_ent 2 [.ref 0, .int what]) [] s (Qb (F_cstray s what)) := by
  refine UP.stp 2 (i1 := 2) (L1 := [some (.ref 0), some (.int what)]) (st1 := [.int 2, .int what]) (s1 := s) rfl ?_
  refine UP.cI (M1 := m_X6_isBelow) (as := [.int what, .int 2]) (rest := []) (T := F_isBelow s what 2) rfl rfl (ux_isBelow s what 2) ?_
  refine UP.spl (m_cmp .ne (F_isBelow s what 2) 0) (let v8 := bif m_cmp .ne what 0 then F_farthestStray_a (F_toldTrip s ) else F_lastStray_a (F_toldTrip s ); (v8, (F_toldTrip s ))) (((-2), s)) (by rfl) (fun cc => ?_) (fun cc => ?_)
  · skip
    refine UP.ifT rfl cc ?_
    refine UP.stp 1 (i1 := 7) (L1 := [some (.ref 0), some (.int what)]) (st1 := [.int what]) (s1 := s) rfl ?_
    refine mrg (m_cmp .ne what 0) (F_farthestStray_a (F_toldTrip s )) (F_lastStray_a (F_toldTrip s )) (fun v8 : Int32 => UP m_X6_stray 15 [some (.ref 0), some (.int what)] [.int v8] (F_toldTrip s ) (Qb (let v8 := bif m_cmp .ne what 0 then F_farthestStray_a (F_toldTrip s ) else F_lastStray_a (F_toldTrip s ); (v8, (F_toldTrip s ))))) (fun cc kk => ?_) (fun cc kk => ?_) (fun v8 e8 => ?_)
    · skip
      refine UP.ifT rfl cc ?_
      refine UP.stp 1 (i1 := 13) (L1 := [some (.ref 0), some (.int what)]) (st1 := [.ref 0]) (s1 := s) rfl ?_
      refine UP.cR (M1 := m_X6_toldTrip) (as := [.ref 0]) (rest := []) (T := F_toldTrip s ) (a := 15) rfl rfl (ux_toldTrip s ) (fun z4 e4 => ?_)
      refine UP.cI (M1 := m_X5_farthestStray) (as := [.ref 15]) (rest := []) (T := F_farthestStray_a z4 ) rfl rfl (ux_farthestStray_a z4) ?_
      subst e4
      exact kk
    · skip
      refine UP.ifF rfl cc ?_
      refine UP.stp 1 (i1 := 9) (L1 := [some (.ref 0), some (.int what)]) (st1 := [.ref 0]) (s1 := s) rfl ?_
      refine UP.cR (M1 := m_X6_toldTrip) (as := [.ref 0]) (rest := []) (T := F_toldTrip s ) (a := 15) rfl rfl (ux_toldTrip s ) (fun z6 e6 => ?_)
      refine UP.cI (M1 := m_X5_lastStray) (as := [.ref 15]) (rest := []) (T := F_lastStray_a z6 ) rfl rfl (ux_lastStray_a z6) ?_
      refine UP.stp 1 (i1 := 15) (L1 := [some (.ref 0), some (.int what)]) (st1 := [.int (F_lastStray_a z6)]) (s1 := z6) rfl ?_
      subst e6
      exact kk
    exact UP.ret (r := some (.int v8)) rfl ⟨by subst e8; rfl, by subst e8; rfl⟩
  · skip
    refine UP.ifF rfl cc ?_
    refine UP.stp 1 (i1 := 5) (L1 := [some (.ref 0), some (.int what)]) (st1 := [.int (-2)]) (s1 := s) rfl ?_
    exact UP.ret (r := some (.int (-2))) rfl ⟨by rfl, by rfl⟩
def W_cbest : List (Nat × Nat × Option Nat) := [(16, 20, none), (22, 45, none), (46, 52, none), (15, 15, some 8), (59, 63, none), (65, 88, none), (89, 95, none), (58, 58, some 8), (54, 57, none), (53, 53, none), (96, 108, none), (0, 0, some 12), (0, 0, some 13)]
def B_cbest_7 (z1 : SG) (i2 : Nat) (a2 : Int32) : Int32 := let v5 := bif m_cmp .le (z1 46 i2) 0 then a2 else (bif m_cmp .eq a2 (-1) then Int32.ofNat i2 else (bif m_cmp .le (z1 47 i2) (z1 47 a2.toNatClampNeg) then a2 else Int32.ofNat i2)); v5
def F_cbest (s : SG)  : Int32 × SG := let z1 := F_toldTrip s ; let z2 := itr (B_cbest_7 z1) 0 ((z1 10 0).toNatClampNeg) (-1 : Int32); (z2, z1)
theorem fr_cbest (s : SG)   : Fr W_cbest s (F_cbest s).2 := by dsimp only [F_cbest]; exact (Fr.tr (s1 := s) (Fr.rf _ _) (Fr.wk (W2 := W_cbest) (fr_toldTrip s ) (by rfl)))
theorem ux_cbest (s : SG)   : UP m_X6_best 0 (m_ent 4 [.ref 0]) [] s (Qb (F_cbest s)) := by
  refine UP.stp 1 (i1 := 1) (L1 := [some (.ref 0), none, none, none]) (st1 := [.ref 0]) (s1 := s) rfl ?_
  refine UP.cR (M1 := m_X6_toldTrip) (as := [.ref 0]) (rest := []) (T := F_toldTrip s ) (a := 15) rfl rfl (ux_toldTrip s ) (fun z1 e1 => ?_)
  refine UP.stp 5 (i1 := 7) (L1 := [some (.ref 0), some (.ref 15), some (.int (-1)), some (.int 0)]) (st1 := []) (s1 := z1) rfl ?_
  refine lp (fun (i2 : Nat) (a2 : Int32) => UP m_X6_best 7 [some (.ref 0), some (.ref 15), some (.int a2), some (.int (Int32.ofNat i2))] [] z1 (Qb (F_cbest s))) (fun (_ : Nat) (a2 : Int32) => Fr W_cbest z1 z1) (B_cbest_7 z1) ((z1 10 0).toNatClampNeg) (fun i2 a2 hi2 g2 => g2) (fun i2 a2 hi2 g2 kk => ?_) ((z1 10 0).toNatClampNeg) (0) (-1 : Int32) (by omega) (Fr.rf _ _) (fun z2 e2 g2 => ?_)
  · skip
    have hbi2 := cl_lt (z1 10 0)
    refine UP.stp 4 (i1 := 11) (L1 := [some (.ref 0), some (.ref 15), some (.int a2), some (.int (Int32.ofNat i2))]) (st1 := [.int (z1 10 0), .int (Int32.ofNat i2)]) (s1 := z1) rfl ?_
    refine UP.icF rfl (ge_F hi2) ?_
    refine UP.stp 3 (i1 := 15) (L1 := [some (.ref 0), some (.ref 15), some (.int a2), some (.int (Int32.ofNat i2))]) (st1 := [.int (Int32.ofNat i2), .ref 46]) (s1 := z1) rfl ?_
    refine UP.ald (e := i2) rfl rfl (by omega) ?_
    show UP m_X6_best 16 [some (.ref 0), some (.ref 15), some (.int a2), some (.int (Int32.ofNat i2))] [.int (z1 46 i2)] z1 (Qb (F_cbest s))
    refine mrg (m_cmp .le (z1 46 i2) 0) a2 (bif m_cmp .eq a2 (-1) then Int32.ofNat i2 else (bif m_cmp .le (z1 47 i2) (z1 47 a2.toNatClampNeg) then a2 else Int32.ofNat i2)) (fun v5 : Int32 => UP m_X6_best 31 [some (.ref 0), some (.ref 15), some (.int v5), some (.int (Int32.ofNat i2))] [] z1 (Qb (F_cbest s))) (fun cc kk => ?_) (fun cc kk => ?_) (fun v5 e5 => ?_)
    · skip
      refine UP.ifT rfl cc ?_
      exact kk
    · skip
      refine UP.ifF rfl cc ?_
      refine UP.stp 2 (i1 := 19) (L1 := [some (.ref 0), some (.ref 15), some (.int a2), some (.int (Int32.ofNat i2))]) (st1 := [.int (-1), .int a2]) (s1 := z1) rfl ?_
      refine mrg (m_cmp .eq a2 (-1)) (Int32.ofNat i2) (bif m_cmp .le (z1 47 i2) (z1 47 a2.toNatClampNeg) then a2 else Int32.ofNat i2) (fun v4 : Int32 => UP m_X6_best 31 [some (.ref 0), some (.ref 15), some (.int v4), some (.int (Int32.ofNat i2))] [] z1 (Qb (F_cbest s))) (fun cc kk => ?_) (fun cc kk => ?_) (fun v4 e4 => ?_)
      · skip
        refine UP.icT rfl cc ?_
        refine UP.stp 2 (i1 := 31) (L1 := [some (.ref 0), some (.ref 15), some (.int (Int32.ofNat i2)), some (.int (Int32.ofNat i2))]) (st1 := []) (s1 := z1) rfl ?_
        exact kk
      · skip
        refine UP.icF rfl cc ?_
        refine UP.stp 3 (i1 := 23) (L1 := [some (.ref 0), some (.ref 15), some (.int a2), some (.int (Int32.ofNat i2))]) (st1 := [.int (Int32.ofNat i2), .ref 47]) (s1 := z1) rfl ?_
        refine UP.ald (e := i2) rfl rfl (by omega) ?_
        show UP m_X6_best 24 [some (.ref 0), some (.ref 15), some (.int a2), some (.int (Int32.ofNat i2))] [.int (z1 47 i2)] z1 (Qb (F_cbest s))
        refine UP.stp 4 (i1 := 28) (L1 := [some (.ref 0), some (.ref 15), some (.int a2), some (.int (Int32.ofNat i2))]) (st1 := [.int (z1 47 a2.toNatClampNeg), .int (z1 47 i2)]) (s1 := z1) rfl ?_
        refine mrg (m_cmp .le (z1 47 i2) (z1 47 a2.toNatClampNeg)) a2 (Int32.ofNat i2) (fun v3 : Int32 => UP m_X6_best 31 [some (.ref 0), some (.ref 15), some (.int v3), some (.int (Int32.ofNat i2))] [] z1 (Qb (F_cbest s))) (fun cc kk => ?_) (fun cc kk => ?_) (fun v3 e3 => ?_)
        · skip
          refine UP.icT rfl cc ?_
          exact kk
        · skip
          refine UP.icF rfl cc ?_
          refine UP.stp 2 (i1 := 31) (L1 := [some (.ref 0), some (.ref 15), some (.int (Int32.ofNat i2)), some (.int (Int32.ofNat i2))]) (st1 := []) (s1 := z1) rfl ?_
          exact kk
        subst e3
        exact kk
      subst e4
      exact kk
    refine UP.stp 2 (i1 := 7) (L1 := [some (.ref 0), some (.ref 15), some (.int v5), some (.int ((Int32.ofNat i2) + 1))]) (st1 := []) (s1 := z1) rfl ?_
    subst e5
    rw [ofn_s]
    exact kk
  refine UP.stp 4 (i1 := 11) (L1 := [some (.ref 0), some (.ref 15), some (.int z2), some (.int (Int32.ofNat ((z1 10 0).toNatClampNeg)))]) (st1 := [.int (z1 10 0), .int (Int32.ofNat ((z1 10 0).toNatClampNeg))]) (s1 := z1) rfl ?_
  refine UP.icT rfl (ge_T _) ?_
  refine UP.stp 1 (i1 := 34) (L1 := [some (.ref 0), some (.ref 15), some (.int z2), some (.int (Int32.ofNat ((z1 10 0).toNatClampNeg)))]) (st1 := [.int z2]) (s1 := z1) rfl ?_
  exact UP.ret (r := some (.int z2)) rfl ⟨by subst e2 e1; rfl, by subst e2 e1; rfl⟩
def W_cidle : List (Nat × Nat × Option Nat) := [(16, 20, none), (22, 45, none), (46, 52, none), (15, 15, some 8), (59, 63, none), (65, 88, none), (89, 95, none), (58, 58, some 8), (54, 57, none), (53, 53, none), (96, 108, none), (0, 0, some 12), (0, 0, some 13)]
def B_cidle_7 (z1 : SG) (i2 : Nat) (a2 : Int32) : Int32 := let v4 := bif m_cmp .ne (z1 46 i2) 0 then a2 else (a2 ||| (1 <<< ((Int32.ofNat i2) &&& 31))); v4
def F_cidle (s : SG)  : Int32 × SG := let z1 := F_toldTrip s ; let z2 := itr (B_cidle_7 z1) 0 ((z1 10 0).toNatClampNeg) (0 : Int32); (z2, z1)
theorem fr_cidle (s : SG)   : Fr W_cidle s (F_cidle s).2 := by dsimp only [F_cidle]; exact (Fr.tr (s1 := s) (Fr.rf _ _) (Fr.wk (W2 := W_cidle) (fr_toldTrip s ) (by rfl)))
theorem ux_cidle (s : SG)   : UP m_X6_idle 0 (m_ent 4 [.ref 0]) [] s (Qb (F_cidle s)) := by
  refine UP.stp 1 (i1 := 1) (L1 := [some (.ref 0), none, none, none]) (st1 := [.ref 0]) (s1 := s) rfl ?_
  refine UP.cR (M1 := m_X6_toldTrip) (as := [.ref 0]) (rest := []) (T := F_toldTrip s ) (a := 15) rfl rfl (ux_toldTrip s ) (fun z1 e1 => ?_)
  refine UP.stp 5 (i1 := 7) (L1 := [some (.ref 0), some (.ref 15), some (.int 0), some (.int 0)]) (st1 := []) (s1 := z1) rfl ?_
  refine lp (fun (i2 : Nat) (a2 : Int32) => UP m_X6_idle 7 [some (.ref 0), some (.ref 15), some (.int a2), some (.int (Int32.ofNat i2))] [] z1 (Qb (F_cidle s))) (fun (_ : Nat) (a2 : Int32) => Fr W_cidle z1 z1) (B_cidle_7 z1) ((z1 10 0).toNatClampNeg) (fun i2 a2 hi2 g2 => g2) (fun i2 a2 hi2 g2 kk => ?_) ((z1 10 0).toNatClampNeg) (0) (0 : Int32) (by omega) (Fr.rf _ _) (fun z2 e2 g2 => ?_)
  · skip
    have hbi2 := cl_lt (z1 10 0)
    refine UP.stp 4 (i1 := 11) (L1 := [some (.ref 0), some (.ref 15), some (.int a2), some (.int (Int32.ofNat i2))]) (st1 := [.int (z1 10 0), .int (Int32.ofNat i2)]) (s1 := z1) rfl ?_
    refine UP.icF rfl (ge_F hi2) ?_
    refine UP.stp 3 (i1 := 15) (L1 := [some (.ref 0), some (.ref 15), some (.int a2), some (.int (Int32.ofNat i2))]) (st1 := [.int (Int32.ofNat i2), .ref 46]) (s1 := z1) rfl ?_
    refine UP.ald (e := i2) rfl rfl (by omega) ?_
    show UP m_X6_idle 16 [some (.ref 0), some (.ref 15), some (.int a2), some (.int (Int32.ofNat i2))] [.int (z1 46 i2)] z1 (Qb (F_cidle s))
    refine mrg (m_cmp .ne (z1 46 i2) 0) a2 (a2 ||| (1 <<< ((Int32.ofNat i2) &&& 31))) (fun v4 : Int32 => UP m_X6_idle 23 [some (.ref 0), some (.ref 15), some (.int v4), some (.int (Int32.ofNat i2))] [] z1 (Qb (F_cidle s))) (fun cc kk => ?_) (fun cc kk => ?_) (fun v4 e4 => ?_)
    · skip
      refine UP.ifT rfl cc ?_
      exact kk
    · skip
      refine UP.ifF rfl cc ?_
      refine UP.stp 5 (i1 := 22) (L1 := [some (.ref 0), some (.ref 15), some (.int a2), some (.int (Int32.ofNat i2))]) (st1 := [.int (a2 ||| (1 <<< ((Int32.ofNat i2) &&& 31)))]) (s1 := z1) rfl ?_
      refine nm (G := fun v3 => UP m_X6_idle 22 [some (.ref 0), some (.ref 15), some (.int a2), some (.int (Int32.ofNat i2))] [.int v3] z1 (Qb (F_cidle s))) (a2 ||| (1 <<< ((Int32.ofNat i2) &&& 31))) (fun v3 e3 => ?_)
      refine UP.stp 1 (i1 := 23) (L1 := [some (.ref 0), some (.ref 15), some (.int v3), some (.int (Int32.ofNat i2))]) (st1 := []) (s1 := z1) rfl ?_
      subst e3
      exact kk
    refine UP.stp 2 (i1 := 7) (L1 := [some (.ref 0), some (.ref 15), some (.int v4), some (.int ((Int32.ofNat i2) + 1))]) (st1 := []) (s1 := z1) rfl ?_
    subst e4
    rw [ofn_s]
    exact kk
  refine UP.stp 4 (i1 := 11) (L1 := [some (.ref 0), some (.ref 15), some (.int z2), some (.int (Int32.ofNat ((z1 10 0).toNatClampNeg)))]) (st1 := [.int (z1 10 0), .int (Int32.ofNat ((z1 10 0).toNatClampNeg))]) (s1 := z1) rfl ?_
  refine UP.icT rfl (ge_T _) ?_
  refine UP.stp 1 (i1 := 26) (L1 := [some (.ref 0), some (.ref 15), some (.int z2), some (.int (Int32.ofNat ((z1 10 0).toNatClampNeg)))]) (st1 := [.int z2]) (s1 := z1) rfl ?_
  exact UP.ret (r := some (.int z2)) rfl ⟨by subst e2 e1; rfl, by subst e2 e1; rfl⟩
def W_metresSwapped : List (Nat × Nat × Option Nat) := [(16, 20, none), (22, 45, none), (46, 52, none), (15, 15, some 8), (59, 63, none), (65, 88, none), (89, 95, none), (58, 58, some 8), (54, 57, none), (53, 53, none), (96, 108, none), (0, 0, some 12), (0, 0, some 13)]
def F_metresSwapped (s : SG) (a : Int32) (b : Int32) : Int32 × SG := let z1 := F_take s ; let v2 := z1 11 b.toNatClampNeg; let v3 := z1 12 b.toNatClampNeg; let v4 := z1 11 a.toNatClampNeg; let v5 := z1 12 a.toNatClampNeg; let z6 := F_rowOther (uset (uset (uset (uset z1 54 a.toNatClampNeg v2) 55 a.toNatClampNeg v3) 54 b.toNatClampNeg v4) 55 b.toNatClampNeg v5) ; (z6 59 23, z6)
theorem fr_metresSwapped (s : SG) (a : Int32) (b : Int32)  : Fr W_metresSwapped s (F_metresSwapped s a b).2 := by dsimp only [F_metresSwapped]; exact (let z1 : SG := F_take s ; (let v2 : Int32 := z1 11 b.toNatClampNeg; (let v3 : Int32 := z1 12 b.toNatClampNeg; (let v4 : Int32 := z1 11 a.toNatClampNeg; (let v5 : Int32 := z1 12 a.toNatClampNeg; (Fr.tr (s1 := (uset (uset (uset (uset z1 54 a.toNatClampNeg v2) 55 a.toNatClampNeg v3) 54 b.toNatClampNeg v4) 55 b.toNatClampNeg v5)) (Fr.uset (s1 := (uset (uset (uset z1 54 a.toNatClampNeg v2) 55 a.toNatClampNeg v3) 54 b.toNatClampNeg v4)) (a := 55) (j := b.toNatClampNeg) (x := v5) (by rfl) (Fr.uset (s1 := (uset (uset z1 54 a.toNatClampNeg v2) 55 a.toNatClampNeg v3)) (a := 54) (j := b.toNatClampNeg) (x := v4) (by rfl) (Fr.uset (s1 := (uset z1 54 a.toNatClampNeg v2)) (a := 55) (j := a.toNatClampNeg) (x := v3) (by rfl) (Fr.uset (s1 := z1) (a := 54) (j := a.toNatClampNeg) (x := v2) (by rfl) (Fr.tr (s1 := s) (Fr.rf _ _) (Fr.wk (W2 := W_metresSwapped) (fr_take s ) (by rfl))))))) (Fr.wk (W2 := W_metresSwapped) (fr_rowOther (uset (uset (uset (uset z1 54 a.toNatClampNeg v2) 55 a.toNatClampNeg v3) 54 b.toNatClampNeg v4) 55 b.toNatClampNeg v5) ) (by rfl))))))))
theorem ux_metresSwapped (s : SG) (a : Int32) (b : Int32)  : UP m_X6_metresSwapped 0 (m_ent 3 [.ref 0, .int a, .int b]) [] s (Qb (F_metresSwapped s a b)) := by
  refine UP.stp 4 (i1 := 4) (L1 := [some (.ref 0), some (.int a), some (.int b)]) (st1 := [.ref 10, .ref 53]) (s1 := s) rfl ?_
  refine UP.cV (M1 := m_X0_take) (as := [.ref 53, .ref 10]) (rest := []) (T := F_take s ) rfl rfl (ux_take s ) (fun z1 e1 => ?_)
  refine UP.stp 9 (i1 := 14) (L1 := [some (.ref 0), some (.int a), some (.int b)]) (st1 := [.int (z1 11 b.toNatClampNeg), .int a, .ref 54]) (s1 := z1) rfl ?_
  refine nm (G := fun v2 => UP m_X6_metresSwapped 14 [some (.ref 0), some (.int a), some (.int b)] [.int v2, .int a, .ref 54] z1 (Qb (F_metresSwapped s a b))) (z1 11 b.toNatClampNeg) (fun v2 e2 => ?_)
  refine UP.stp 10 (i1 := 24) (L1 := [some (.ref 0), some (.int a), some (.int b)]) (st1 := [.int (z1 12 b.toNatClampNeg), .int a, .ref 55]) (s1 := (uset z1 54 a.toNatClampNeg v2)) rfl ?_
  refine nm (G := fun v3 => UP m_X6_metresSwapped 24 [some (.ref 0), some (.int a), some (.int b)] [.int v3, .int a, .ref 55] (uset z1 54 a.toNatClampNeg v2) (Qb (F_metresSwapped s a b))) (z1 12 b.toNatClampNeg) (fun v3 e3 => ?_)
  refine UP.stp 10 (i1 := 34) (L1 := [some (.ref 0), some (.int a), some (.int b)]) (st1 := [.int (z1 11 a.toNatClampNeg), .int b, .ref 54]) (s1 := (uset (uset z1 54 a.toNatClampNeg v2) 55 a.toNatClampNeg v3)) rfl ?_
  refine nm (G := fun v4 => UP m_X6_metresSwapped 34 [some (.ref 0), some (.int a), some (.int b)] [.int v4, .int b, .ref 54] (uset (uset z1 54 a.toNatClampNeg v2) 55 a.toNatClampNeg v3) (Qb (F_metresSwapped s a b))) (z1 11 a.toNatClampNeg) (fun v4 e4 => ?_)
  refine UP.stp 10 (i1 := 44) (L1 := [some (.ref 0), some (.int a), some (.int b)]) (st1 := [.int (z1 12 a.toNatClampNeg), .int b, .ref 55]) (s1 := (uset (uset (uset z1 54 a.toNatClampNeg v2) 55 a.toNatClampNeg v3) 54 b.toNatClampNeg v4)) rfl ?_
  refine nm (G := fun v5 => UP m_X6_metresSwapped 44 [some (.ref 0), some (.int a), some (.int b)] [.int v5, .int b, .ref 55] (uset (uset (uset z1 54 a.toNatClampNeg v2) 55 a.toNatClampNeg v3) 54 b.toNatClampNeg v4) (Qb (F_metresSwapped s a b))) (z1 12 a.toNatClampNeg) (fun v5 e5 => ?_)
  refine UP.stp 2 (i1 := 46) (L1 := [some (.ref 0), some (.int a), some (.int b)]) (st1 := [.ref 0]) (s1 := (uset (uset (uset (uset z1 54 a.toNatClampNeg v2) 55 a.toNatClampNeg v3) 54 b.toNatClampNeg v4) 55 b.toNatClampNeg v5)) rfl ?_
  refine UP.cR (M1 := m_X6_rowOther) (as := [.ref 0]) (rest := []) (T := F_rowOther (uset (uset (uset (uset z1 54 a.toNatClampNeg v2) 55 a.toNatClampNeg v3) 54 b.toNatClampNeg v4) 55 b.toNatClampNeg v5) ) (a := 58) rfl rfl (ux_rowOther (uset (uset (uset (uset z1 54 a.toNatClampNeg v2) 55 a.toNatClampNeg v3) 54 b.toNatClampNeg v4) 55 b.toNatClampNeg v5) ) (fun z6 e6 => ?_)
  refine UP.stp 3 (i1 := 50) (L1 := [some (.ref 0), some (.int a), some (.int b)]) (st1 := [.int (z6 59 23)]) (s1 := z6) rfl ?_
  exact UP.ret (r := some (.int (z6 59 23))) rfl ⟨by subst e6 e5 e4 e3 e2 e1; rfl, by subst e6 e5 e4 e3 e2 e1; rfl⟩
