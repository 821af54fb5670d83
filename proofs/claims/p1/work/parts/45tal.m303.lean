def W_done : List (Nat × Nat × Option Nat) := [(126, 129, none), (133, 144, none), (147, 147, none), (123, 123, some 2), (123, 123, some 5), (123, 123, some 7), (123, 123, some 17), (123, 123, some 19), (123, 123, some 20), (123, 123, some 21), (123, 123, some 22), (123, 123, some 23), (123, 123, some 24), (123, 123, some 25), (123, 123, some 26), (123, 123, some 27)]
def F_done (s : SG) (seat : Int32) (what : Int32) : Int32 × SG := let z1 := F_isRower s seat; let w5 := bif m_cmp .eq z1.1 0 then ((-2 : Int32), z1.2) else (bif m_cmp .eq (F_isTwo z1.2 what) 0 then ((-2 : Int32), z1.2) else (F_doneOf z1.2 seat what)); w5
set_option maxRecDepth 20000 in
set_option maxHeartbeats 200000 in
theorem fr_done (s : SG) (seat : Int32) (what : Int32)  : Fr W_done s (F_done s seat what).2 := by dsimp only [F_done]; exact (let z1 : Int32 × SG := F_isRower s seat; (Fr.bifp (b := m_cmp .eq z1.1 0) (x := ((-2 : Int32), z1.2)) (y := (bif m_cmp .eq (F_isTwo z1.2 what) 0 then ((-2 : Int32), z1.2) else (F_doneOf z1.2 seat what))) (fun x : Int32 × SG => x.2) (by (try dsimp only); exact (Fr.tr (s1 := s) (Fr.rf _ _) (Fr.wk (W2 := W_done) (fr_isRower s seat) (by rfl)))) (by (try dsimp only); exact (Fr.bifp (b := m_cmp .eq (F_isTwo z1.2 what) 0) (x := ((-2 : Int32), z1.2)) (y := (F_doneOf z1.2 seat what)) (fun x : Int32 × SG => x.2) (by (try dsimp only); exact (Fr.tr (s1 := s) (Fr.rf _ _) (Fr.wk (W2 := W_done) (fr_isRower s seat) (by rfl)))) (by (try dsimp only); exact (Fr.tr (s1 := z1.2) (Fr.tr (s1 := s) (Fr.rf _ _) (Fr.wk (W2 := W_done) (fr_isRower s seat) (by rfl))) (Fr.wk (W2 := W_done) (fr_doneOf z1.2 seat what) (by rfl))))))))
set_option maxRecDepth 20000 in
set_option maxHeartbeats 200000 in
theorem ux_done (s : SG) (seat : Int32) (what : Int32)  : UP m_X7_done 0 (m_ent 3 [.ref 123, .int seat, .int what]) [] s (Qb (F_done s seat what)) := by
  refine UP.stp 2 (i1 := 2) (L1 := [some (.ref 123), some (.int seat), some (.int what)]) (st1 := [.int seat, .ref 123]) (s1 := s) rfl ?_
  refine UP.cB (M1 := m_X7_isRower) (as := [.ref 123, .int seat]) (rest := []) (T := F_isRower s seat) rfl rfl (ux_isRower s seat) (fun z1 e1 => ?_)
  refine mrg (m_cmp .eq z1.1 0) ((-2 : Int32), z1.2) (bif m_cmp .eq (F_isTwo z1.2 what) 0 then ((-2 : Int32), z1.2) else (F_doneOf z1.2 seat what)) (fun w5 : Int32 × SG => UP m_X7_done 13 [some (.ref 123), some (.int seat), some (.int what)] [.int w5.1] w5.2 (Qb (F_done s seat what))) (fun cc kk => ?_) (fun cc kk => ?_) (fun w5 e5 => ?_)
  · skip
    refine UP.ifT rfl cc ?_
    refine UP.stp 1 (i1 := 13) (L1 := [some (.ref 123), some (.int seat), some (.int what)]) (st1 := [.int (-2)]) (s1 := z1.2) rfl ?_
    exact kk
  · skip
    refine UP.ifF rfl cc ?_
    refine UP.stp 1 (i1 := 5) (L1 := [some (.ref 123), some (.int seat), some (.int what)]) (st1 := [.int what]) (s1 := z1.2) rfl ?_
    refine UP.cI (M1 := m_X7_isTwo) (as := [.int what]) (rest := []) (T := F_isTwo z1.2 what) rfl rfl (ux_isTwo z1.2 what) ?_
    refine mrg (m_cmp .eq (F_isTwo z1.2 what) 0) ((-2 : Int32), z1.2) (F_doneOf z1.2 seat what) (fun w4 : Int32 × SG => UP m_X7_done 13 [some (.ref 123), some (.int seat), some (.int what)] [.int w4.1] w4.2 (Qb (F_done s seat what))) (fun cc kk => ?_) (fun cc kk => ?_) (fun w4 e4 => ?_)
    · skip
      refine UP.ifT rfl cc ?_
      refine UP.stp 1 (i1 := 13) (L1 := [some (.ref 123), some (.int seat), some (.int what)]) (st1 := [.int (-2)]) (s1 := z1.2) rfl ?_
      exact kk
    · skip
      refine UP.ifF rfl cc ?_
      refine UP.stp 3 (i1 := 10) (L1 := [some (.ref 123), some (.int seat), some (.int what)]) (st1 := [.int what, .int seat, .ref 123]) (s1 := z1.2) rfl ?_
      refine UP.cB (M1 := m_X7_doneOf) (as := [.ref 123, .int seat, .int what]) (rest := []) (T := F_doneOf z1.2 seat what) rfl rfl (ux_doneOf z1.2 seat what) (fun z3 e3 => ?_)
      refine UP.stp 1 (i1 := 13) (L1 := [some (.ref 123), some (.int seat), some (.int what)]) (st1 := [.int z3.1]) (s1 := z3.2) rfl ?_
      subst e3
      exact kk
    subst e4
    exact kk
  exact UP.ret (r := some (.int w5.1)) rfl ⟨by subst e5 e1; first | (dsimp only [F_done]; done) | (dsimp only; done) | rfl, by subst e5 e1; first | (dsimp only [F_done]; done) | (dsimp only; done) | rfl⟩
def W_thereOf : List (Nat × Nat × Option Nat) := [(126, 129, none), (133, 144, none), (147, 147, none), (123, 123, some 2), (123, 123, some 5), (123, 123, some 7), (123, 123, some 17), (123, 123, some 19), (123, 123, some 20), (123, 123, some 21), (123, 123, some 22), (123, 123, some 23), (123, 123, some 24), (123, 123, some 25), (123, 123, some 26), (123, 123, some 27)]
def F_thereOf (s : SG)  : Int32 × SG := let z1 := F_runsTold s ; (z1 123 21, z1)
set_option maxRecDepth 20000 in
set_option maxHeartbeats 200000 in
theorem fr_thereOf (s : SG)   : Fr W_thereOf s (F_thereOf s).2 := by dsimp only [F_thereOf]; exact (Fr.tr (s1 := s) (Fr.rf _ _) (Fr.wk (W2 := W_thereOf) (fr_runsTold s ) (by rfl)))
set_option maxRecDepth 20000 in
set_option maxHeartbeats 200000 in
theorem ux_thereOf (s : SG)   : UP m_X7_thereOf 0 (m_ent 1 [.ref 123]) [] s (Qb (F_thereOf s)) := by
  refine UP.stp 1 (i1 := 1) (L1 := [some (.ref 123)]) (st1 := [.ref 123]) (s1 := s) rfl ?_
  refine UP.cV (M1 := m_X7_runsTold) (as := [.ref 123]) (rest := []) (T := F_runsTold s ) rfl rfl (ux_runsTold s ) (fun z1 e1 => ?_)
  refine UP.stp 2 (i1 := 4) (L1 := [some (.ref 123)]) (st1 := [.int (z1 123 21)]) (s1 := z1) rfl ?_
  exact UP.ret (r := some (.int (z1 123 21))) rfl ⟨by subst e1; first | (dsimp only [F_thereOf]; done) | (dsimp only; done) | rfl, by subst e1; first | (dsimp only [F_thereOf]; done) | (dsimp only; done) | rfl⟩
def W_there : List (Nat × Nat × Option Nat) := [(126, 129, none), (133, 144, none), (147, 147, none), (123, 123, some 2), (123, 123, some 5), (123, 123, some 7), (123, 123, some 17), (123, 123, some 19), (123, 123, some 20), (123, 123, some 21), (123, 123, some 22), (123, 123, some 23), (123, 123, some 24), (123, 123, some 25), (123, 123, some 26), (123, 123, some 27)]
def F_there (s : SG)  : Int32 × SG := let z1 := F_thereOf s ; z1
set_option maxRecDepth 20000 in
set_option maxHeartbeats 200000 in
theorem fr_there (s : SG)   : Fr W_there s (F_there s).2 := by dsimp only [F_there]; exact (Fr.tr (s1 := s) (Fr.rf _ _) (Fr.wk (W2 := W_there) (fr_thereOf s ) (by rfl)))
set_option maxRecDepth 20000 in
set_option maxHeartbeats 200000 in
theorem ux_there (s : SG)   : UP m_X7_there 0 (m_ent 1 [.ref 123]) [] s (Qb (F_there s)) := by
  refine UP.stp 1 (i1 := 1) (L1 := [some (.ref 123)]) (st1 := [.ref 123]) (s1 := s) rfl ?_
  refine UP.cB (M1 := m_X7_thereOf) (as := [.ref 123]) (rest := []) (T := F_thereOf s ) rfl rfl (ux_thereOf s ) (fun z1 e1 => ?_)
  exact UP.ret (r := some (.int z1.1)) rfl ⟨by subst e1; first | (dsimp only [F_there]; done) | (dsimp only; done) | rfl, by subst e1; first | (dsimp only [F_there]; done) | (dsimp only; done) | rfl⟩
def W_groundedOf : List (Nat × Nat × Option Nat) := [(126, 129, none), (133, 144, none), (147, 147, none), (123, 123, some 2), (123, 123, some 5), (123, 123, some 7), (123, 123, some 17), (123, 123, some 19), (123, 123, some 20), (123, 123, some 21), (123, 123, some 22), (123, 123, some 23), (123, 123, some 24), (123, 123, some 25), (123, 123, some 26), (123, 123, some 27)]
def F_groundedOf (s : SG) (what : Int32) : Int32 × SG := let z1 := F_runsTold s ; let v2 := bif m_cmp .ne what 0 then z1 123 23 else z1 123 22; (v2, z1)
set_option maxRecDepth 20000 in
set_option maxHeartbeats 200000 in
theorem fr_groundedOf (s : SG) (what : Int32)  : Fr W_groundedOf s (F_groundedOf s what).2 := by dsimp only [F_groundedOf]; exact (Fr.tr (s1 := s) (Fr.rf _ _) (Fr.wk (W2 := W_groundedOf) (fr_runsTold s ) (by rfl)))
set_option maxRecDepth 20000 in
set_option maxHeartbeats 200000 in
theorem ux_groundedOf (s : SG) (what : Int32)  : UP m_X7_groundedOf 0 (m_ent 2 [.ref 123, .int what]) [] s (Qb (F_groundedOf s what)) := by
  refine UP.stp 1 (i1 := 1) (L1 := [some (.ref 123), some (.int what)]) (st1 := [.ref 123]) (s1 := s) rfl ?_
  refine UP.cV (M1 := m_X7_runsTold) (as := [.ref 123]) (rest := []) (T := F_runsTold s ) rfl rfl (ux_runsTold s ) (fun z1 e1 => ?_)
  refine UP.stp 1 (i1 := 3) (L1 := [some (.ref 123), some (.int what)]) (st1 := [.int what]) (s1 := z1) rfl ?_
  refine mrg (m_cmp .ne what 0) (z1 123 23) (z1 123 22) (fun v2 : Int32 => UP m_X7_groundedOf 9 [some (.ref 123), some (.int what)] [.int v2] z1 (Qb (F_groundedOf s what))) (fun cc kk => ?_) (fun cc kk => ?_) (fun v2 e2 => ?_)
  · skip
    refine UP.ifT rfl cc ?_
    refine UP.stp 2 (i1 := 9) (L1 := [some (.ref 123), some (.int what)]) (st1 := [.int (z1 123 23)]) (s1 := z1) rfl ?_
    exact kk
  · skip
    refine UP.ifF rfl cc ?_
    refine UP.stp 3 (i1 := 9) (L1 := [some (.ref 123), some (.int what)]) (st1 := [.int (z1 123 22)]) (s1 := z1) rfl ?_
    exact kk
  exact UP.ret (r := some (.int v2)) rfl ⟨by subst e2 e1; first | (dsimp only [F_groundedOf]; done) | (dsimp only; done) | rfl, by subst e2 e1; first | (dsimp only [F_groundedOf]; done) | (dsimp only; done) | rfl⟩
def W_grounded : List (Nat × Nat × Option Nat) := [(126, 129, none), (133, 144, none), (147, 147, none), (123, 123, some 2), (123, 123, some 5), (123, 123, some 7), (123, 123, some 17), (123, 123, some 19), (123, 123, some 20), (123, 123, some 21), (123, 123, some 22), (123, 123, some 23), (123, 123, some 24), (123, 123, some 25), (123, 123, some 26), (123, 123, some 27)]
def F_grounded (s : SG) (what : Int32) : Int32 × SG := let w3 := bif m_cmp .eq (F_isTwo s what) 0 then ((-2 : Int32), s) else (F_groundedOf s what); w3
set_option maxRecDepth 20000 in
set_option maxHeartbeats 200000 in
theorem fr_grounded (s : SG) (what : Int32)  : Fr W_grounded s (F_grounded s what).2 := by dsimp only [F_grounded]; exact (Fr.bifp (b := m_cmp .eq (F_isTwo s what) 0) (x := ((-2 : Int32), s)) (y := (F_groundedOf s what)) (fun x : Int32 × SG => x.2) (by (try dsimp only); exact (Fr.rf _ _)) (by (try dsimp only); exact (Fr.tr (s1 := s) (Fr.rf _ _) (Fr.wk (W2 := W_grounded) (fr_groundedOf s what) (by rfl)))))
set_option maxRecDepth 20000 in
set_option maxHeartbeats 200000 in
theorem ux_grounded (s : SG) (what : Int32)  : UP m_X7_grounded 0 (m_ent 2 [.ref 123, .int what]) [] s (Qb (F_grounded s what)) := by
  refine UP.stp 1 (i1 := 1) (L1 := [some (.ref 123), some (.int what)]) (st1 := [.int what]) (s1 := s) rfl ?_
  refine UP.cI (M1 := m_X7_isTwo) (as := [.int what]) (rest := []) (T := F_isTwo s what) rfl rfl (ux_isTwo s what) ?_
  refine mrg (m_cmp .eq (F_isTwo s what) 0) ((-2 : Int32), s) (F_groundedOf s what) (fun w3 : Int32 × SG => UP m_X7_grounded 8 [some (.ref 123), some (.int what)] [.int w3.1] w3.2 (Qb (F_grounded s what))) (fun cc kk => ?_) (fun cc kk => ?_) (fun w3 e3 => ?_)
  · skip
    refine UP.ifT rfl cc ?_
    refine UP.stp 1 (i1 := 8) (L1 := [some (.ref 123), some (.int what)]) (st1 := [.int (-2)]) (s1 := s) rfl ?_
    exact kk
  · skip
    refine UP.ifF rfl cc ?_
    refine UP.stp 2 (i1 := 5) (L1 := [some (.ref 123), some (.int what)]) (st1 := [.int what, .ref 123]) (s1 := s) rfl ?_
    refine UP.cB (M1 := m_X7_groundedOf) (as := [.ref 123, .int what]) (rest := []) (T := F_groundedOf s what) rfl rfl (ux_groundedOf s what) (fun z2 e2 => ?_)
    refine UP.stp 1 (i1 := 8) (L1 := [some (.ref 123), some (.int what)]) (st1 := [.int z2.1]) (s1 := z2.2) rfl ?_
    subst e2
    exact kk
  exact UP.ret (r := some (.int w3.1)) rfl ⟨by subst e3; first | (dsimp only [F_grounded]; done) | (dsimp only; done) | rfl, by subst e3; first | (dsimp only [F_grounded]; done) | (dsimp only; done) | rfl⟩
