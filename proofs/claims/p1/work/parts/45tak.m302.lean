def W_pullsOf : List (Nat × Nat × Option Nat) := [(126, 129, none), (133, 144, none), (147, 147, none), (123, 123, some 2), (123, 123, some 5), (123, 123, some 7), (123, 123, some 17), (123, 123, some 19), (123, 123, some 20), (123, 123, some 21), (123, 123, some 22), (123, 123, some 23), (123, 123, some 24), (123, 123, some 25), (123, 123, some 26), (123, 123, some 27)]
def F_pullsOf (s : SG) (minute : Int32) (k : Int32) : Int32 × SG := let z1 := F_runsTold s ; (z1 143 (((8 * minute) + k).toNatClampNeg), z1)
set_option maxRecDepth 20000 in
set_option maxHeartbeats 200000 in
theorem fr_pullsOf (s : SG) (minute : Int32) (k : Int32)  : Fr W_pullsOf s (F_pullsOf s minute k).2 := by dsimp only [F_pullsOf]; exact (Fr.tr (s1 := s) (Fr.rf _ _) (Fr.wk (W2 := W_pullsOf) (fr_runsTold s ) (by rfl)))
set_option maxRecDepth 20000 in
set_option maxHeartbeats 200000 in
theorem ux_pullsOf (s : SG) (minute : Int32) (k : Int32)  : UP m_X7_pullsOf 0 (m_ent 3 [.ref 123, .int minute, .int k]) [] s (Qb (F_pullsOf s minute k)) := by
  refine UP.stp 1 (i1 := 1) (L1 := [some (.ref 123), some (.int minute), some (.int k)]) (st1 := [.ref 123]) (s1 := s) rfl ?_
  refine UP.cV (M1 := m_X7_runsTold) (as := [.ref 123]) (rest := []) (T := F_runsTold s ) rfl rfl (ux_runsTold s ) (fun z1 e1 => ?_)
  refine UP.stp 8 (i1 := 10) (L1 := [some (.ref 123), some (.int minute), some (.int k)]) (st1 := [.int (z1 143 (((8 * minute) + k).toNatClampNeg))]) (s1 := z1) rfl ?_
  exact UP.ret (r := some (.int (z1 143 (((8 * minute) + k).toNatClampNeg)))) rfl ⟨by subst e1; first | (dsimp only [F_pullsOf]; done) | (dsimp only; done) | rfl, by subst e1; first | (dsimp only [F_pullsOf]; done) | (dsimp only; done) | rfl⟩
def W_pulls : List (Nat × Nat × Option Nat) := [(126, 129, none), (133, 144, none), (147, 147, none), (123, 123, some 2), (123, 123, some 5), (123, 123, some 7), (123, 123, some 17), (123, 123, some 19), (123, 123, some 20), (123, 123, some 21), (123, 123, some 22), (123, 123, some 23), (123, 123, some 24), (123, 123, some 25), (123, 123, some 26), (123, 123, some 27)]
def F_pulls (s : SG) (minute : Int32) (seat : Int32) : Int32 × SG := let w5 := bif m_cmp .eq (F_isMinute s minute) 0 then ((-2 : Int32), s) else (bif m_cmp .eq (F_isRower s seat).1 0 then ((-2 : Int32), (F_isRower s seat).2) else (F_pullsOf (F_isRower s seat).2 minute seat)); w5
set_option maxRecDepth 20000 in
set_option maxHeartbeats 200000 in
theorem fr_pulls (s : SG) (minute : Int32) (seat : Int32)  : Fr W_pulls s (F_pulls s minute seat).2 := by dsimp only [F_pulls]; exact (Fr.bifp (b := m_cmp .eq (F_isMinute s minute) 0) (x := ((-2 : Int32), s)) (y := (bif m_cmp .eq (F_isRower s seat).1 0 then ((-2 : Int32), (F_isRower s seat).2) else (F_pullsOf (F_isRower s seat).2 minute seat))) (fun x : Int32 × SG => x.2) (by (try dsimp only); exact (Fr.rf _ _)) (by (try dsimp only); exact (Fr.bifp (b := m_cmp .eq (F_isRower s seat).1 0) (x := ((-2 : Int32), (F_isRower s seat).2)) (y := (F_pullsOf (F_isRower s seat).2 minute seat)) (fun x : Int32 × SG => x.2) (by (try dsimp only); exact (Fr.tr (s1 := s) (Fr.rf _ _) (Fr.wk (W2 := W_pulls) (fr_isRower s seat) (by rfl)))) (by (try dsimp only); exact (Fr.tr (s1 := (F_isRower s seat).2) (Fr.tr (s1 := s) (Fr.rf _ _) (Fr.wk (W2 := W_pulls) (fr_isRower s seat) (by rfl))) (Fr.wk (W2 := W_pulls) (fr_pullsOf (F_isRower s seat).2 minute seat) (by rfl)))))))
set_option maxRecDepth 20000 in
set_option maxHeartbeats 200000 in
theorem ux_pulls (s : SG) (minute : Int32) (seat : Int32)  : UP m_X7_pulls 0 (m_ent 3 [.ref 123, .int minute, .int seat]) [] s (Qb (F_pulls s minute seat)) := by
  refine UP.stp 1 (i1 := 1) (L1 := [some (.ref 123), some (.int minute), some (.int seat)]) (st1 := [.int minute]) (s1 := s) rfl ?_
  refine UP.cI (M1 := m_X7_isMinute) (as := [.int minute]) (rest := []) (T := F_isMinute s minute) rfl rfl (ux_isMinute s minute) ?_
  refine mrg (m_cmp .eq (F_isMinute s minute) 0) ((-2 : Int32), s) (bif m_cmp .eq (F_isRower s seat).1 0 then ((-2 : Int32), (F_isRower s seat).2) else (F_pullsOf (F_isRower s seat).2 minute seat)) (fun w5 : Int32 × SG => UP m_X7_pulls 13 [some (.ref 123), some (.int minute), some (.int seat)] [.int w5.1] w5.2 (Qb (F_pulls s minute seat))) (fun cc kk => ?_) (fun cc kk => ?_) (fun w5 e5 => ?_)
  · skip
    refine UP.ifT rfl cc ?_
    refine UP.stp 1 (i1 := 13) (L1 := [some (.ref 123), some (.int minute), some (.int seat)]) (st1 := [.int (-2)]) (s1 := s) rfl ?_
    exact kk
  · skip
    refine UP.ifF rfl cc ?_
    refine UP.stp 2 (i1 := 5) (L1 := [some (.ref 123), some (.int minute), some (.int seat)]) (st1 := [.int seat, .ref 123]) (s1 := s) rfl ?_
    refine UP.cB (M1 := m_X7_isRower) (as := [.ref 123, .int seat]) (rest := []) (T := F_isRower s seat) rfl rfl (ux_isRower s seat) (fun z2 e2 => ?_)
    refine mrg (m_cmp .eq z2.1 0) ((-2 : Int32), z2.2) (F_pullsOf z2.2 minute seat) (fun w4 : Int32 × SG => UP m_X7_pulls 13 [some (.ref 123), some (.int minute), some (.int seat)] [.int w4.1] w4.2 (Qb (F_pulls s minute seat))) (fun cc kk => ?_) (fun cc kk => ?_) (fun w4 e4 => ?_)
    · skip
      refine UP.ifT rfl cc ?_
      refine UP.stp 1 (i1 := 13) (L1 := [some (.ref 123), some (.int minute), some (.int seat)]) (st1 := [.int (-2)]) (s1 := z2.2) rfl ?_
      exact kk
    · skip
      refine UP.ifF rfl cc ?_
      refine UP.stp 3 (i1 := 10) (L1 := [some (.ref 123), some (.int minute), some (.int seat)]) (st1 := [.int seat, .int minute, .ref 123]) (s1 := z2.2) rfl ?_
      refine UP.cB (M1 := m_X7_pullsOf) (as := [.ref 123, .int minute, .int seat]) (rest := []) (T := F_pullsOf z2.2 minute seat) rfl rfl (ux_pullsOf z2.2 minute seat) (fun z3 e3 => ?_)
      refine UP.stp 1 (i1 := 13) (L1 := [some (.ref 123), some (.int minute), some (.int seat)]) (st1 := [.int z3.1]) (s1 := z3.2) rfl ?_
      subst e3
      exact kk
    subst e4 e2
    exact kk
  exact UP.ret (r := some (.int w5.1)) rfl ⟨by subst e5; first | (dsimp only [F_pulls]; done) | (dsimp only; done) | rfl, by subst e5; first | (dsimp only [F_pulls]; done) | (dsimp only; done) | rfl⟩
def W_doneOf : List (Nat × Nat × Option Nat) := [(126, 129, none), (133, 144, none), (147, 147, none), (123, 123, some 2), (123, 123, some 5), (123, 123, some 7), (123, 123, some 17), (123, 123, some 19), (123, 123, some 20), (123, 123, some 21), (123, 123, some 22), (123, 123, some 23), (123, 123, some 24), (123, 123, some 25), (123, 123, some 26), (123, 123, some 27)]
def F_doneOf (s : SG) (k : Int32) (what : Int32) : Int32 × SG := let z1 := F_runsTold s ; let v2 := bif m_cmp .ne what 0 then z1 138 k.toNatClampNeg else z1 137 k.toNatClampNeg; (v2, z1)
set_option maxRecDepth 20000 in
set_option maxHeartbeats 200000 in
theorem fr_doneOf (s : SG) (k : Int32) (what : Int32)  : Fr W_doneOf s (F_doneOf s k what).2 := by dsimp only [F_doneOf]; exact (Fr.tr (s1 := s) (Fr.rf _ _) (Fr.wk (W2 := W_doneOf) (fr_runsTold s ) (by rfl)))
set_option maxRecDepth 20000 in
set_option maxHeartbeats 200000 in
theorem ux_doneOf (s : SG) (k : Int32) (what : Int32)  : UP m_X7_doneOf 0 (m_ent 3 [.ref 123, .int k, .int what]) [] s (Qb (F_doneOf s k what)) := by
  refine UP.stp 1 (i1 := 1) (L1 := [some (.ref 123), some (.int k), some (.int what)]) (st1 := [.ref 123]) (s1 := s) rfl ?_
  refine UP.cV (M1 := m_X7_runsTold) (as := [.ref 123]) (rest := []) (T := F_runsTold s ) rfl rfl (ux_runsTold s ) (fun z1 e1 => ?_)
  refine UP.stp 1 (i1 := 3) (L1 := [some (.ref 123), some (.int k), some (.int what)]) (st1 := [.int what]) (s1 := z1) rfl ?_
  refine mrg (m_cmp .ne what 0) (z1 138 k.toNatClampNeg) (z1 137 k.toNatClampNeg) (fun v2 : Int32 => UP m_X7_doneOf 13 [some (.ref 123), some (.int k), some (.int what)] [.int v2] z1 (Qb (F_doneOf s k what))) (fun cc kk => ?_) (fun cc kk => ?_) (fun v2 e2 => ?_)
  · skip
    refine UP.ifT rfl cc ?_
    refine UP.stp 4 (i1 := 13) (L1 := [some (.ref 123), some (.int k), some (.int what)]) (st1 := [.int (z1 138 k.toNatClampNeg)]) (s1 := z1) rfl ?_
    exact kk
  · skip
    refine UP.ifF rfl cc ?_
    refine UP.stp 5 (i1 := 13) (L1 := [some (.ref 123), some (.int k), some (.int what)]) (st1 := [.int (z1 137 k.toNatClampNeg)]) (s1 := z1) rfl ?_
    exact kk
  exact UP.ret (r := some (.int v2)) rfl ⟨by subst e2 e1; first | (dsimp only [F_doneOf]; done) | (dsimp only; done) | rfl, by subst e2 e1; first | (dsimp only [F_doneOf]; done) | (dsimp only; done) | rfl⟩
