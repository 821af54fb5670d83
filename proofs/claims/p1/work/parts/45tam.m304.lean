def W_strayNow : List (Nat × Nat × Option Nat) := []
def F_strayNow (s : SG)  : Int32 := let v1 := bif m_cmp .ge (s 123 20) 10 then (s 123 20) - 10 else 10 - (s 123 20); v1
set_option maxRecDepth 20000 in
set_option maxHeartbeats 200000 in
theorem ux_strayNow (s : SG)   : UP m_X7_strayNow 0 (m_ent 1 [.ref 123]) [] s (Qi s (F_strayNow s)) := by
  refine UP.stp 3 (i1 := 3) (L1 := [some (.ref 123)]) (st1 := [.int 10, .int (s 123 20)]) (s1 := s) rfl ?_
  refine mrg (m_cmp .ge (s 123 20) 10) ((s 123 20) - 10) (10 - (s 123 20)) (fun v1 : Int32 => UP m_X7_strayNow 13 [some (.ref 123)] [.int v1] s (Qi s (F_strayNow s))) (fun cc kk => ?_) (fun cc kk => ?_) (fun v1 e1 => ?_)
  · skip
    refine UP.icT rfl cc ?_
    refine UP.stp 4 (i1 := 13) (L1 := [some (.ref 123)]) (st1 := [.int ((s 123 20) - 10)]) (s1 := s) rfl ?_
    exact kk
  · skip
    refine UP.icF rfl cc ?_
    refine UP.stp 5 (i1 := 13) (L1 := [some (.ref 123)]) (st1 := [.int (10 - (s 123 20))]) (s1 := s) rfl ?_
    exact kk
  exact UP.ret (r := some (.int v1)) rfl ⟨by subst e1; first | (dsimp only [F_strayNow]; done) | (dsimp only; done) | rfl, by subst e1; first | (dsimp only [F_strayNow]; done) | (dsimp only; done) | rfl⟩
def W_strayOf : List (Nat × Nat × Option Nat) := [(126, 129, none), (133, 144, none), (147, 147, none), (123, 123, some 2), (123, 123, some 5), (123, 123, some 7), (123, 123, some 17), (123, 123, some 19), (123, 123, some 20), (123, 123, some 21), (123, 123, some 22), (123, 123, some 23), (123, 123, some 24), (123, 123, some 25), (123, 123, some 26), (123, 123, some 27)]
def F_strayOf (s : SG) (what : Int32) : Int32 × SG := let z1 := F_runsTold s ; let v3 := bif m_cmp .ne what 0 then z1 123 24 else F_strayNow z1; (v3, z1)
set_option maxRecDepth 20000 in
set_option maxHeartbeats 200000 in
theorem fr_strayOf (s : SG) (what : Int32)  : Fr W_strayOf s (F_strayOf s what).2 := by dsimp only [F_strayOf]; exact (Fr.tr (s1 := s) (Fr.rf _ _) (Fr.wk (W2 := W_strayOf) (fr_runsTold s ) (by rfl)))
set_option maxRecDepth 20000 in
set_option maxHeartbeats 200000 in
theorem ux_strayOf (s : SG) (what : Int32)  : UP m_X7_strayOf 0 (m_ent 2 [.ref 123, .int what]) [] s (Qb (F_strayOf s what)) := by
  refine UP.stp 1 (i1 := 1) (L1 := [some (.ref 123), some (.int what)]) (st1 := [.ref 123]) (s1 := s) rfl ?_
  refine UP.cV (M1 := m_X7_runsTold) (as := [.ref 123]) (rest := []) (T := F_runsTold s ) rfl rfl (ux_runsTold s ) (fun z1 e1 => ?_)
  refine UP.stp 1 (i1 := 3) (L1 := [some (.ref 123), some (.int what)]) (st1 := [.int what]) (s1 := z1) rfl ?_
  refine mrg (m_cmp .ne what 0) (z1 123 24) (F_strayNow z1) (fun v3 : Int32 => UP m_X7_strayOf 9 [some (.ref 123), some (.int what)] [.int v3] z1 (Qb (F_strayOf s what))) (fun cc kk => ?_) (fun cc kk => ?_) (fun v3 e3 => ?_)
  · skip
    refine UP.ifT rfl cc ?_
    refine UP.stp 2 (i1 := 9) (L1 := [some (.ref 123), some (.int what)]) (st1 := [.int (z1 123 24)]) (s1 := z1) rfl ?_
    exact kk
  · skip
    refine UP.ifF rfl cc ?_
    refine UP.stp 1 (i1 := 5) (L1 := [some (.ref 123), some (.int what)]) (st1 := [.ref 123]) (s1 := z1) rfl ?_
    refine UP.cI (M1 := m_X7_strayNow) (as := [.ref 123]) (rest := []) (T := F_strayNow z1 ) rfl rfl (ux_strayNow z1 ) ?_
    refine UP.stp 1 (i1 := 9) (L1 := [some (.ref 123), some (.int what)]) (st1 := [.int (F_strayNow z1)]) (s1 := z1) rfl ?_
    exact kk
  exact UP.ret (r := some (.int v3)) rfl ⟨by subst e3 e1; first | (dsimp only [F_strayOf]; done) | (dsimp only; done) | rfl, by subst e3 e1; first | (dsimp only [F_strayOf]; done) | (dsimp only; done) | rfl⟩
def W_stray : List (Nat × Nat × Option Nat) := [(126, 129, none), (133, 144, none), (147, 147, none), (123, 123, some 2), (123, 123, some 5), (123, 123, some 7), (123, 123, some 17), (123, 123, some 19), (123, 123, some 20), (123, 123, some 21), (123, 123, some 22), (123, 123, some 23), (123, 123, some 24), (123, 123, some 25), (123, 123, some 26), (123, 123, some 27)]
def F_stray (s : SG) (what : Int32) : Int32 × SG := let w3 := bif m_cmp .eq (F_isTwo s what) 0 then ((-2 : Int32), s) else (F_strayOf s what); w3
set_option maxRecDepth 20000 in
set_option maxHeartbeats 200000 in
theorem fr_stray (s : SG) (what : Int32)  : Fr W_stray s (F_stray s what).2 := by dsimp only [F_stray]; exact (Fr.bifp (b := m_cmp .eq (F_isTwo s what) 0) (x := ((-2 : Int32), s)) (y := (F_strayOf s what)) (fun x : Int32 × SG => x.2) (by (try dsimp only); exact (Fr.rf _ _)) (by (try dsimp only); exact (Fr.tr (s1 := s) (Fr.rf _ _) (Fr.wk (W2 := W_stray) (fr_strayOf s what) (by rfl)))))
set_option maxRecDepth 20000 in
set_option maxHeartbeats 200000 in
theorem ux_stray (s : SG) (what : Int32)  : UP m_X7_stray 0 (m_ent 2 [.ref 123, .int what]) [] s (Qb (F_stray s what)) := by
  refine UP.stp 1 (i1 := 1) (L1 := [some (.ref 123), some (.int what)]) (st1 := [.int what]) (s1 := s) rfl ?_
  refine UP.cI (M1 := m_X7_isTwo) (as := [.int what]) (rest := []) (T := F_isTwo s what) rfl rfl (ux_isTwo s what) ?_
  refine mrg (m_cmp .eq (F_isTwo s what) 0) ((-2 : Int32), s) (F_strayOf s what) (fun w3 : Int32 × SG => UP m_X7_stray 8 [some (.ref 123), some (.int what)] [.int w3.1] w3.2 (Qb (F_stray s what))) (fun cc kk => ?_) (fun cc kk => ?_) (fun w3 e3 => ?_)
  · skip
    refine UP.ifT rfl cc ?_
    refine UP.stp 1 (i1 := 8) (L1 := [some (.ref 123), some (.int what)]) (st1 := [.int (-2)]) (s1 := s) rfl ?_
    exact kk
  · skip
    refine UP.ifF rfl cc ?_
    refine UP.stp 2 (i1 := 5) (L1 := [some (.ref 123), some (.int what)]) (st1 := [.int what, .ref 123]) (s1 := s) rfl ?_
    refine UP.cB (M1 := m_X7_strayOf) (as := [.ref 123, .int what]) (rest := []) (T := F_strayOf s what) rfl rfl (ux_strayOf s what) (fun z2 e2 => ?_)
    refine UP.stp 1 (i1 := 8) (L1 := [some (.ref 123), some (.int what)]) (st1 := [.int z2.1]) (s1 := z2.2) rfl ?_
    subst e2
    exact kk
  exact UP.ret (r := some (.int w3.1)) rfl ⟨by subst e3; first | (dsimp only [F_stray]; done) | (dsimp only; done) | rfl, by subst e3; first | (dsimp only [F_stray]; done) | (dsimp only; done) | rfl⟩
def W_bestOf : List (Nat × Nat × Option Nat) := [(126, 129, none), (133, 144, none), (147, 147, none), (123, 123, some 2), (123, 123, some 5), (123, 123, some 7), (123, 123, some 17), (123, 123, some 19), (123, 123, some 20), (123, 123, some 21), (123, 123, some 22), (123, 123, some 23), (123, 123, some 24), (123, 123, some 25), (123, 123, some 26), (123, 123, some 27)]
def B_bestOf_8 (z1 : SG) (i2 : Nat) (a2 : Int32 × Int32) : Int32 × Int32 := let v3 := bif m_cmp .le (z1 138 i2) a2.2 then a2.1 else Int32.ofNat i2; let v4 := bif m_cmp .le (z1 138 i2) a2.2 then a2.2 else z1 138 i2; (v3, v4)
def F_bestOf (s : SG)  : Int32 × SG := let z1 := F_runsTold s ; let z2 := itr (B_bestOf_8 z1) 0 ((z1 123 2).toNatClampNeg) ((-1), 0); (z2.1, z1)
set_option maxRecDepth 20000 in
set_option maxHeartbeats 200000 in
theorem fr_bestOf (s : SG)   : Fr W_bestOf s (F_bestOf s).2 := by dsimp only [F_bestOf]; exact (Fr.tr (s1 := s) (Fr.rf _ _) (Fr.wk (W2 := W_bestOf) (fr_runsTold s ) (by rfl)))
set_option maxRecDepth 20000 in
set_option maxHeartbeats 200000 in
theorem ux_bestOf (s : SG)   : UP m_X7_bestOf 0 (m_ent 4 [.ref 123]) [] s (Qb (F_bestOf s)) := by
  refine UP.stp 1 (i1 := 1) (L1 := [some (.ref 123), none, none, none]) (st1 := [.ref 123]) (s1 := s) rfl ?_
  refine UP.cV (M1 := m_X7_runsTold) (as := [.ref 123]) (rest := []) (T := F_runsTold s ) rfl rfl (ux_runsTold s ) (fun z1 e1 => ?_)
  refine UP.stp 6 (i1 := 8) (L1 := [some (.ref 123), some (.int (-1)), some (.int 0), some (.int 0)]) (st1 := []) (s1 := z1) rfl ?_
  refine lp (fun (i2 : Nat) (a2 : Int32 × Int32) => UP m_X7_bestOf 8 [some (.ref 123), some (.int a2.1), some (.int a2.2), some (.int (Int32.ofNat i2))] [] z1 (Qb (F_bestOf s))) (fun (_ : Nat) (a2 : Int32 × Int32) => Fr W_bestOf z1 z1) (B_bestOf_8 z1) ((z1 123 2).toNatClampNeg) (fun i2 a2 hi2 g2 => g2) (fun i2 a2 hi2 g2 kk => ?_) ((z1 123 2).toNatClampNeg) (0) ((-1), 0) (by  omega) (Fr.rf _ _) (fun z2 e2 g2 => ?_)
  · skip
    have hbi2 := cl_lt (z1 123 2)
    refine UP.stp 3 (i1 := 11) (L1 := [some (.ref 123), some (.int a2.1), some (.int a2.2), some (.int (Int32.ofNat i2))]) (st1 := [.int (z1 123 2), .int (Int32.ofNat i2)]) (s1 := z1) rfl ?_
    refine UP.icF rfl (ge_F hi2) ?_
    refine UP.stp 3 (i1 := 15) (L1 := [some (.ref 123), some (.int a2.1), some (.int a2.2), some (.int (Int32.ofNat i2))]) (st1 := [.int (Int32.ofNat i2), .ref 138]) (s1 := z1) rfl ?_
    refine UP.ald (e := i2) rfl rfl (by omega) ?_
    show UP m_X7_bestOf 16 [some (.ref 123), some (.int a2.1), some (.int a2.2), some (.int (Int32.ofNat i2))] [.int (z1 138 i2)] z1 (Qb (F_bestOf s))
    refine UP.stp 1 (i1 := 17) (L1 := [some (.ref 123), some (.int a2.1), some (.int a2.2), some (.int (Int32.ofNat i2))]) (st1 := [.int a2.2, .int (z1 138 i2)]) (s1 := z1) rfl ?_
    refine mrg (m_cmp .le (z1 138 i2) a2.2) a2.1 (Int32.ofNat i2) (fun v3 : Int32 => UP m_X7_bestOf 21 [some (.ref 123), some (.int a2.1), some (.int a2.2), some (.int (Int32.ofNat i2))] [.int v3] z1 (Qb (F_bestOf s))) (fun cc kk => ?_) (fun cc kk => ?_) (fun v3 e3 => ?_)
    · skip
      refine UP.icT rfl cc ?_
      refine UP.stp 1 (i1 := 21) (L1 := [some (.ref 123), some (.int a2.1), some (.int a2.2), some (.int (Int32.ofNat i2))]) (st1 := [.int a2.1]) (s1 := z1) rfl ?_
      exact kk
    · skip
      refine UP.icF rfl cc ?_
      refine UP.stp 2 (i1 := 21) (L1 := [some (.ref 123), some (.int a2.1), some (.int a2.2), some (.int (Int32.ofNat i2))]) (st1 := [.int (Int32.ofNat i2)]) (s1 := z1) rfl ?_
      exact kk
    refine UP.stp 4 (i1 := 25) (L1 := [some (.ref 123), some (.int v3), some (.int a2.2), some (.int (Int32.ofNat i2))]) (st1 := [.int (Int32.ofNat i2), .ref 138]) (s1 := z1) rfl ?_
    refine UP.ald (e := i2) rfl rfl (by omega) ?_
    show UP m_X7_bestOf 26 [some (.ref 123), some (.int v3), some (.int a2.2), some (.int (Int32.ofNat i2))] [.int (z1 138 i2)] z1 (Qb (F_bestOf s))
    refine UP.stp 1 (i1 := 27) (L1 := [some (.ref 123), some (.int v3), some (.int a2.2), some (.int (Int32.ofNat i2))]) (st1 := [.int a2.2, .int (z1 138 i2)]) (s1 := z1) rfl ?_
    refine mrg (m_cmp .le (z1 138 i2) a2.2) a2.2 (z1 138 i2) (fun v4 : Int32 => UP m_X7_bestOf 34 [some (.ref 123), some (.int v3), some (.int a2.2), some (.int (Int32.ofNat i2))] [.int v4] z1 (Qb (F_bestOf s))) (fun cc kk => ?_) (fun cc kk => ?_) (fun v4 e4 => ?_)
    · skip
      refine UP.icT rfl cc ?_
      refine UP.stp 1 (i1 := 34) (L1 := [some (.ref 123), some (.int v3), some (.int a2.2), some (.int (Int32.ofNat i2))]) (st1 := [.int a2.2]) (s1 := z1) rfl ?_
      exact kk
    · skip
      refine UP.icF rfl cc ?_
      refine UP.stp 3 (i1 := 31) (L1 := [some (.ref 123), some (.int v3), some (.int a2.2), some (.int (Int32.ofNat i2))]) (st1 := [.int (Int32.ofNat i2), .ref 138]) (s1 := z1) rfl ?_
      refine UP.ald (e := i2) rfl rfl (by omega) ?_
      show UP m_X7_bestOf 32 [some (.ref 123), some (.int v3), some (.int a2.2), some (.int (Int32.ofNat i2))] [.int (z1 138 i2)] z1 (Qb (F_bestOf s))
      refine UP.stp 1 (i1 := 34) (L1 := [some (.ref 123), some (.int v3), some (.int a2.2), some (.int (Int32.ofNat i2))]) (st1 := [.int (z1 138 i2)]) (s1 := z1) rfl ?_
      exact kk
    refine UP.stp 3 (i1 := 8) (L1 := [some (.ref 123), some (.int v3), some (.int v4), some (.int ((Int32.ofNat i2) + 1))]) (st1 := []) (s1 := z1) rfl ?_
    subst e4 e3
    rw [ofn_s]
    try dsimp only [B_bestOf_8] at kk
    exact kk
  refine UP.stp 3 (i1 := 11) (L1 := [some (.ref 123), some (.int z2.1), some (.int z2.2), some (.int (Int32.ofNat ((z1 123 2).toNatClampNeg)))]) (st1 := [.int (z1 123 2), .int (Int32.ofNat ((z1 123 2).toNatClampNeg))]) (s1 := z1) rfl ?_
  refine UP.icT rfl (ge_T _) ?_
  refine UP.stp 1 (i1 := 38) (L1 := [some (.ref 123), some (.int z2.1), some (.int z2.2), some (.int (Int32.ofNat ((z1 123 2).toNatClampNeg)))]) (st1 := [.int z2.1]) (s1 := z1) rfl ?_
  exact UP.ret (r := some (.int z2.1)) rfl ⟨by subst e2 e1; first | (dsimp only [F_bestOf]; done) | (dsimp only; done) | rfl, by subst e2 e1; first | (dsimp only [F_bestOf]; done) | (dsimp only; done) | rfl⟩
