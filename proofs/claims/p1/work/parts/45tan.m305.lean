def W_best : List (Nat × Nat × Option Nat) := [(126, 129, none), (133, 144, none), (147, 147, none), (123, 123, some 2), (123, 123, some 5), (123, 123, some 7), (123, 123, some 17), (123, 123, some 19), (123, 123, some 20), (123, 123, some 21), (123, 123, some 22), (123, 123, some 23), (123, 123, some 24), (123, 123, some 25), (123, 123, some 26), (123, 123, some 27)]
def F_best (s : SG)  : Int32 × SG := let z1 := F_bestOf s ; z1
set_option maxRecDepth 20000 in
set_option maxHeartbeats 200000 in
theorem fr_best (s : SG)   : Fr W_best s (F_best s).2 := by dsimp only [F_best]; exact (Fr.tr (s1 := s) (Fr.rf _ _) (Fr.wk (W2 := W_best) (fr_bestOf s ) (by rfl)))
set_option maxRecDepth 20000 in
set_option maxHeartbeats 200000 in
theorem ux_best (s : SG)   : UP m_X7_best 0 (m_ent 1 [.ref 123]) [] s (Qb (F_best s)) := by
  refine UP.stp 1 (i1 := 1) (L1 := [some (.ref 123)]) (st1 := [.ref 123]) (s1 := s) rfl ?_
  refine UP.cB (M1 := m_X7_bestOf) (as := [.ref 123]) (rest := []) (T := F_bestOf s ) rfl rfl (ux_bestOf s ) (fun z1 e1 => ?_)
  exact UP.ret (r := some (.int z1.1)) rfl ⟨by subst e1; first | (dsimp only [F_best]; done) | (dsimp only; done) | rfl, by subst e1; first | (dsimp only [F_best]; done) | (dsimp only; done) | rfl⟩
def W_idleOf : List (Nat × Nat × Option Nat) := [(126, 129, none), (133, 144, none), (147, 147, none), (123, 123, some 2), (123, 123, some 5), (123, 123, some 7), (123, 123, some 17), (123, 123, some 19), (123, 123, some 20), (123, 123, some 21), (123, 123, some 22), (123, 123, some 23), (123, 123, some 24), (123, 123, some 25), (123, 123, some 26), (123, 123, some 27)]
def B_idleOf_6 (z1 : SG) (i2 : Nat) (a2 : Int32) : Int32 := let v3 := bif m_cmp .ne (z1 137 i2) 0 then (0 : Int32) else 1 <<< ((Int32.ofNat i2) &&& 31); let v4 := a2 ||| v3; v4
def F_idleOf (s : SG)  : Int32 × SG := let z1 := F_runsTold s ; let z2 := itr (B_idleOf_6 z1) 0 ((z1 123 2).toNatClampNeg) (0 : Int32); (z2, z1)
set_option maxRecDepth 20000 in
set_option maxHeartbeats 200000 in
theorem fr_idleOf (s : SG)   : Fr W_idleOf s (F_idleOf s).2 := by dsimp only [F_idleOf]; exact (Fr.tr (s1 := s) (Fr.rf _ _) (Fr.wk (W2 := W_idleOf) (fr_runsTold s ) (by rfl)))
set_option maxRecDepth 20000 in
set_option maxHeartbeats 200000 in
theorem ux_idleOf (s : SG)   : UP m_X7_idleOf 0 (m_ent 3 [.ref 123]) [] s (Qb (F_idleOf s)) := by
  refine UP.stp 1 (i1 := 1) (L1 := [some (.ref 123), none, none]) (st1 := [.ref 123]) (s1 := s) rfl ?_
  refine UP.cV (M1 := m_X7_runsTold) (as := [.ref 123]) (rest := []) (T := F_runsTold s ) rfl rfl (ux_runsTold s ) (fun z1 e1 => ?_)
  refine UP.stp 4 (i1 := 6) (L1 := [some (.ref 123), some (.int 0), some (.int 0)]) (st1 := []) (s1 := z1) rfl ?_
  refine lp (fun (i2 : Nat) (a2 : Int32) => UP m_X7_idleOf 6 [some (.ref 123), some (.int a2), some (.int (Int32.ofNat i2))] [] z1 (Qb (F_idleOf s))) (fun (_ : Nat) (a2 : Int32) => Fr W_idleOf z1 z1) (B_idleOf_6 z1) ((z1 123 2).toNatClampNeg) (fun i2 a2 hi2 g2 => g2) (fun i2 a2 hi2 g2 kk => ?_) ((z1 123 2).toNatClampNeg) (0) (0 : Int32) (by  omega) (Fr.rf _ _) (fun z2 e2 g2 => ?_)
  · skip
    have hbi2 := cl_lt (z1 123 2)
    refine UP.stp 3 (i1 := 9) (L1 := [some (.ref 123), some (.int a2), some (.int (Int32.ofNat i2))]) (st1 := [.int (z1 123 2), .int (Int32.ofNat i2)]) (s1 := z1) rfl ?_
    refine UP.icF rfl (ge_F hi2) ?_
    refine UP.stp 4 (i1 := 14) (L1 := [some (.ref 123), some (.int a2), some (.int (Int32.ofNat i2))]) (st1 := [.int (Int32.ofNat i2), .ref 137, .int a2]) (s1 := z1) rfl ?_
    refine UP.ald (e := i2) rfl rfl (by omega) ?_
    show UP m_X7_idleOf 15 [some (.ref 123), some (.int a2), some (.int (Int32.ofNat i2))] [.int (z1 137 i2), .int a2] z1 (Qb (F_idleOf s))
    refine mrg (m_cmp .ne (z1 137 i2) 0) (0 : Int32) (1 <<< ((Int32.ofNat i2) &&& 31)) (fun v3 : Int32 => UP m_X7_idleOf 21 [some (.ref 123), some (.int a2), some (.int (Int32.ofNat i2))] [.int v3, .int a2] z1 (Qb (F_idleOf s))) (fun cc kk => ?_) (fun cc kk => ?_) (fun v3 e3 => ?_)
    · skip
      refine UP.ifT rfl cc ?_
      refine UP.stp 1 (i1 := 21) (L1 := [some (.ref 123), some (.int a2), some (.int (Int32.ofNat i2))]) (st1 := [.int 0, .int a2]) (s1 := z1) rfl ?_
      exact kk
    · skip
      refine UP.ifF rfl cc ?_
      refine UP.stp 4 (i1 := 21) (L1 := [some (.ref 123), some (.int a2), some (.int (Int32.ofNat i2))]) (st1 := [.int (1 <<< ((Int32.ofNat i2) &&& 31)), .int a2]) (s1 := z1) rfl ?_
      exact kk
    refine UP.stp 1 (i1 := 22) (L1 := [some (.ref 123), some (.int a2), some (.int (Int32.ofNat i2))]) (st1 := [.int (a2 ||| v3)]) (s1 := z1) rfl ?_
    refine nm (G := fun v4 => UP m_X7_idleOf 22 [some (.ref 123), some (.int a2), some (.int (Int32.ofNat i2))] [.int v4] z1 (Qb (F_idleOf s))) (a2 ||| v3) (fun v4 e4 => ?_)
    refine UP.stp 3 (i1 := 6) (L1 := [some (.ref 123), some (.int v4), some (.int ((Int32.ofNat i2) + 1))]) (st1 := []) (s1 := z1) rfl ?_
    subst e4 e3
    rw [ofn_s]
    try dsimp only [B_idleOf_6] at kk
    exact kk
  refine UP.stp 3 (i1 := 9) (L1 := [some (.ref 123), some (.int z2), some (.int (Int32.ofNat ((z1 123 2).toNatClampNeg)))]) (st1 := [.int (z1 123 2), .int (Int32.ofNat ((z1 123 2).toNatClampNeg))]) (s1 := z1) rfl ?_
  refine UP.icT rfl (ge_T _) ?_
  refine UP.stp 1 (i1 := 26) (L1 := [some (.ref 123), some (.int z2), some (.int (Int32.ofNat ((z1 123 2).toNatClampNeg)))]) (st1 := [.int z2]) (s1 := z1) rfl ?_
  exact UP.ret (r := some (.int z2)) rfl ⟨by subst e2 e1; first | (dsimp only [F_idleOf]; done) | (dsimp only; done) | rfl, by subst e2 e1; first | (dsimp only [F_idleOf]; done) | (dsimp only; done) | rfl⟩
def W_idle : List (Nat × Nat × Option Nat) := [(126, 129, none), (133, 144, none), (147, 147, none), (123, 123, some 2), (123, 123, some 5), (123, 123, some 7), (123, 123, some 17), (123, 123, some 19), (123, 123, some 20), (123, 123, some 21), (123, 123, some 22), (123, 123, some 23), (123, 123, some 24), (123, 123, some 25), (123, 123, some 26), (123, 123, some 27)]
def F_idle (s : SG)  : Int32 × SG := let z1 := F_idleOf s ; z1
set_option maxRecDepth 20000 in
set_option maxHeartbeats 200000 in
theorem fr_idle (s : SG)   : Fr W_idle s (F_idle s).2 := by dsimp only [F_idle]; exact (Fr.tr (s1 := s) (Fr.rf _ _) (Fr.wk (W2 := W_idle) (fr_idleOf s ) (by rfl)))
set_option maxRecDepth 20000 in
set_option maxHeartbeats 200000 in
theorem ux_idle (s : SG)   : UP m_X7_idle 0 (m_ent 1 [.ref 123]) [] s (Qb (F_idle s)) := by
  refine UP.stp 1 (i1 := 1) (L1 := [some (.ref 123)]) (st1 := [.ref 123]) (s1 := s) rfl ?_
  refine UP.cB (M1 := m_X7_idleOf) (as := [.ref 123]) (rest := []) (T := F_idleOf s ) rfl rfl (ux_idleOf s ) (fun z1 e1 => ?_)
  exact UP.ret (r := some (.int z1.1)) rfl ⟨by subst e1; first | (dsimp only [F_idle]; done) | (dsimp only; done) | rfl, by subst e1; first | (dsimp only [F_idle]; done) | (dsimp only; done) | rfl⟩
