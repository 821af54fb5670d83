def W_steer : List (Nat × Nat × Option Nat) := [(126, 129, none), (133, 144, none), (147, 147, none), (123, 123, some 2), (123, 123, some 5), (123, 123, some 7), (123, 123, some 17), (123, 123, some 19), (123, 123, some 20), (123, 123, some 21), (123, 123, some 22), (123, 123, some 23), (123, 123, some 24), (123, 123, some 25), (123, 123, some 26), (123, 123, some 27)]
def F_steer (s : SG) (minute : Int32) (what : Int32) : Int32 × SG := let w5 := bif m_cmp .eq (F_isMinute s minute) 0 then ((-2 : Int32), s) else (bif m_cmp .eq (F_isTwo s what) 0 then ((-2 : Int32), s) else (F_steerOf s minute what)); w5
set_option maxRecDepth 20000 in
set_option maxHeartbeats 200000 in
theorem fr_steer (s : SG) (minute : Int32) (what : Int32)  : Fr W_steer s (F_steer s minute what).2 := by dsimp only [F_steer]; exact (Fr.bifp (b := m_cmp .eq (F_isMinute s minute) 0) (x := ((-2 : Int32), s)) (y := (bif m_cmp .eq (F_isTwo s what) 0 then ((-2 : Int32), s) else (F_steerOf s minute what))) (fun x : Int32 × SG => x.2) (by (try dsimp only); exact (Fr.rf _ _)) (by (try dsimp only); exact (Fr.bifp (b := m_cmp .eq (F_isTwo s what) 0) (x := ((-2 : Int32), s)) (y := (F_steerOf s minute what)) (fun x : Int32 × SG => x.2) (by (try dsimp only); exact (Fr.rf _ _)) (by (try dsimp only); exact (Fr.tr (s1 := s) (Fr.rf _ _) (Fr.wk (W2 := W_steer) (fr_steerOf s minute what) (by rfl)))))))
set_option maxRecDepth 20000 in
set_option maxHeartbeats 200000 in
theorem ux_steer (s : SG) (minute : Int32) (what : Int32)  : UP m_X7_steer 0 (m_ent 3 [.ref 123, .int minute, .int what]) [] s (Qb (F_steer s minute what)) := by
  refine UP.stp 1 (i1 := 1) (L1 := [some (.ref 123), some (.int minute), some (.int what)]) (st1 := [.int minute]) (s1 := s) rfl ?_
  refine UP.cI (M1 := m_X7_isMinute) (as := [.int minute]) (rest := []) (T := F_isMinute s minute) rfl rfl (ux_isMinute s minute) ?_
  refine mrg (m_cmp .eq (F_isMinute s minute) 0) ((-2 : Int32), s) (bif m_cmp .eq (F_isTwo s what) 0 then ((-2 : Int32), s) else (F_steerOf s minute what)) (fun w5 : Int32 × SG => UP m_X7_steer 12 [some (.ref 123), some (.int minute), some (.int what)] [.int w5.1] w5.2 (Qb (F_steer s minute what))) (fun cc kk => ?_) (fun cc kk => ?_) (fun w5 e5 => ?_)
  · skip
    refine UP.ifT rfl cc ?_
    refine UP.stp 1 (i1 := 12) (L1 := [some (.ref 123), some (.int minute), some (.int what)]) (st1 := [.int (-2)]) (s1 := s) rfl ?_
    exact kk
  · skip
    refine UP.ifF rfl cc ?_
    refine UP.stp 1 (i1 := 4) (L1 := [some (.ref 123), some (.int minute), some (.int what)]) (st1 := [.int what]) (s1 := s) rfl ?_
    refine UP.cI (M1 := m_X7_isTwo) (as := [.int what]) (rest := []) (T := F_isTwo s what) rfl rfl (ux_isTwo s what) ?_
    refine mrg (m_cmp .eq (F_isTwo s what) 0) ((-2 : Int32), s) (F_steerOf s minute what) (fun w4 : Int32 × SG => UP m_X7_steer 12 [some (.ref 123), some (.int minute), some (.int what)] [.int w4.1] w4.2 (Qb (F_steer s minute what))) (fun cc kk => ?_) (fun cc kk => ?_) (fun w4 e4 => ?_)
    · skip
      refine UP.ifT rfl cc ?_
      refine UP.stp 1 (i1 := 12) (L1 := [some (.ref 123), some (.int minute), some (.int what)]) (st1 := [.int (-2)]) (s1 := s) rfl ?_
      exact kk
    · skip
      refine UP.ifF rfl cc ?_
      refine UP.stp 3 (i1 := 9) (L1 := [some (.ref 123), some (.int minute), some (.int what)]) (st1 := [.int what, .int minute, .ref 123]) (s1 := s) rfl ?_
      refine UP.cB (M1 := m_X7_steerOf) (as := [.ref 123, .int minute, .int what]) (rest := []) (T := F_steerOf s minute what) rfl rfl (ux_steerOf s minute what) (fun z3 e3 => ?_)
      refine UP.stp 1 (i1 := 12) (L1 := [some (.ref 123), some (.int minute), some (.int what)]) (st1 := [.int z3.1]) (s1 := z3.2) rfl ?_
      subst e3
      exact kk
    subst e4
    exact kk
  exact UP.ret (r := some (.int w5.1)) rfl ⟨by subst e5; first | (dsimp only [F_steer]; done) | (dsimp only; done) | rfl, by subst e5; first | (dsimp only [F_steer]; done) | (dsimp only; done) | rfl⟩
def W_strokeOf : List (Nat × Nat × Option Nat) := [(126, 129, none), (133, 144, none), (147, 147, none), (123, 123, some 2), (123, 123, some 5), (123, 123, some 7), (123, 123, some 17), (123, 123, some 19), (123, 123, some 20), (123, 123, some 21), (123, 123, some 22), (123, 123, some 23), (123, 123, some 24), (123, 123, some 25), (123, 123, some 26), (123, 123, some 27)]
def B_strokeOf_8 (minute : Int32) (i2 : Nat) (a2 : SG × Int32 × Int32) : SG × Int32 × Int32 := let z3 := F_runs (uset a2.1 133 minute.toNatClampNeg (Int32.ofNat i2)) ; let v4 := bif m_cmp .le (z3 123 19) a2.2.2 then a2.2.1 else Int32.ofNat i2; let v5 := bif m_cmp .le (z3 123 19) a2.2.2 then a2.2.2 else z3 123 19; (z3, v4, v5)
set_option maxRecDepth 20000 in
set_option maxHeartbeats 200000 in
theorem fr_B_strokeOf_8 (minute : Int32) (i2 : Nat) (a2 : SG × Int32 × Int32)  (hi2 : i2 < 4) : Fr W_strokeOf a2.1 ((B_strokeOf_8 minute) i2 a2).1 := by dsimp only [B_strokeOf_8]; exact (Fr.tr (s1 := (uset a2.1 133 minute.toNatClampNeg (Int32.ofNat i2))) (Fr.uset (s1 := a2.1) (a := 133) (j := minute.toNatClampNeg) (x := Int32.ofNat i2) (by rfl) (Fr.rf _ _)) (Fr.wk (W2 := W_strokeOf) (fr_runs (uset a2.1 133 minute.toNatClampNeg (Int32.ofNat i2)) ) (by rfl)))
def F_strokeOf (s : SG) (minute : Int32) (what : Int32) : Int32 × SG := let z1 := F_asTold s ; let z2 := itr (B_strokeOf_8 minute) 0 4 (z1, (-1), (-1)); let v6 := bif m_cmp .ne what 0 then z2.2.2 else z2.2.1; (v6, z2.1)
set_option maxRecDepth 20000 in
set_option maxHeartbeats 200000 in
theorem fr_strokeOf (s : SG) (minute : Int32) (what : Int32)  : Fr W_strokeOf s (F_strokeOf s minute what).2 := by dsimp only [F_strokeOf]; exact (let z1 : SG := F_asTold s ; (frItrB (W := W_strokeOf) (m := (fun x : SG × Int32 × Int32 => x.1)) (f := (B_strokeOf_8 minute)) 4 (fun ii aa hh => Fr.wk (W2 := W_strokeOf) (fr_B_strokeOf_8 minute ii aa  hh) (by rfl)) 4 0 (z1, (-1), (-1)) (by omega) (Fr.tr (s1 := s) (Fr.rf _ _) (Fr.wk (W2 := W_strokeOf) (fr_asTold s ) (by rfl)))))
set_option maxRecDepth 20000 in
set_option maxHeartbeats 200000 in
theorem ux_strokeOf (s : SG) (minute : Int32) (what : Int32)  : UP m_X7_strokeOf 0 (m_ent 6 [.ref 123, .int minute, .int what]) [] s (Qb (F_strokeOf s minute what)) := by
  refine UP.stp 1 (i1 := 1) (L1 := [some (.ref 123), some (.int minute), some (.int what), none, none, none]) (st1 := [.ref 123]) (s1 := s) rfl ?_
  refine UP.cV (M1 := m_X7_asTold) (as := [.ref 123]) (rest := []) (T := F_asTold s ) rfl rfl (ux_asTold s ) (fun z1 e1 => ?_)
  refine UP.stp 6 (i1 := 8) (L1 := [some (.ref 123), some (.int minute), some (.int what), some (.int (-1)), some (.int (-1)), some (.int 0)]) (st1 := []) (s1 := z1) rfl ?_
  refine lp (fun (i2 : Nat) (a2 : SG × Int32 × Int32) => UP m_X7_strokeOf 8 [some (.ref 123), some (.int minute), some (.int what), some (.int a2.2.1), some (.int a2.2.2), some (.int (Int32.ofNat i2))] [] a2.1 (Qb (F_strokeOf s minute what))) (fun (_ : Nat) (a2 : SG × Int32 × Int32) => Fr W_strokeOf z1 a2.1) (B_strokeOf_8 minute) (4) (fun i2 a2 hi2 g2 => g2.tr (fr_B_strokeOf_8 minute i2 a2 hi2)) (fun i2 a2 hi2 g2 kk => ?_) 4 (0) (z1, (-1), (-1)) (by  omega) (Fr.rf _ _) (fun z2 e2 g2 => ?_)
  · skip
    refine UP.stp 2 (i1 := 10) (L1 := [some (.ref 123), some (.int minute), some (.int what), some (.int a2.2.1), some (.int a2.2.2), some (.int (Int32.ofNat i2))]) (st1 := [.int 4, .int (Int32.ofNat i2)]) (s1 := a2.1) rfl ?_
    refine UP.icF rfl (ge_F (show i2 < (4 : Int32).toNatClampNeg from hi2)) ?_
    refine UP.stp 6 (i1 := 17) (L1 := [some (.ref 123), some (.int minute), some (.int what), some (.int a2.2.1), some (.int a2.2.2), some (.int (Int32.ofNat i2))]) (st1 := [.ref 123]) (s1 := (uset a2.1 133 minute.toNatClampNeg (Int32.ofNat i2))) rfl ?_
    refine UP.cV (M1 := m_X7_runs) (as := [.ref 123]) (rest := []) (T := F_runs (uset a2.1 133 minute.toNatClampNeg (Int32.ofNat i2)) ) rfl rfl (ux_runs (uset a2.1 133 minute.toNatClampNeg (Int32.ofNat i2)) ) (fun z3 e3 => ?_)
    refine UP.stp 3 (i1 := 21) (L1 := [some (.ref 123), some (.int minute), some (.int what), some (.int a2.2.1), some (.int a2.2.2), some (.int (Int32.ofNat i2))]) (st1 := [.int a2.2.2, .int (z3 123 19)]) (s1 := z3) rfl ?_
    refine mrg (m_cmp .le (z3 123 19) a2.2.2) a2.2.1 (Int32.ofNat i2) (fun v4 : Int32 => UP m_X7_strokeOf 25 [some (.ref 123), some (.int minute), some (.int what), some (.int a2.2.1), some (.int a2.2.2), some (.int (Int32.ofNat i2))] [.int v4] z3 (Qb (F_strokeOf s minute what))) (fun cc kk => ?_) (fun cc kk => ?_) (fun v4 e4 => ?_)
    · skip
      refine UP.icT rfl cc ?_
      refine UP.stp 1 (i1 := 25) (L1 := [some (.ref 123), some (.int minute), some (.int what), some (.int a2.2.1), some (.int a2.2.2), some (.int (Int32.ofNat i2))]) (st1 := [.int a2.2.1]) (s1 := z3) rfl ?_
      exact kk
    · skip
      refine UP.icF rfl cc ?_
      refine UP.stp 2 (i1 := 25) (L1 := [some (.ref 123), some (.int minute), some (.int what), some (.int a2.2.1), some (.int a2.2.2), some (.int (Int32.ofNat i2))]) (st1 := [.int (Int32.ofNat i2)]) (s1 := z3) rfl ?_
      exact kk
    refine UP.stp 4 (i1 := 29) (L1 := [some (.ref 123), some (.int minute), some (.int what), some (.int v4), some (.int a2.2.2), some (.int (Int32.ofNat i2))]) (st1 := [.int a2.2.2, .int (z3 123 19)]) (s1 := z3) rfl ?_
    refine mrg (m_cmp .le (z3 123 19) a2.2.2) a2.2.2 (z3 123 19) (fun v5 : Int32 => UP m_X7_strokeOf 34 [some (.ref 123), some (.int minute), some (.int what), some (.int v4), some (.int a2.2.2), some (.int (Int32.ofNat i2))] [.int v5] z3 (Qb (F_strokeOf s minute what))) (fun cc kk => ?_) (fun cc kk => ?_) (fun v5 e5 => ?_)
    · skip
      refine UP.icT rfl cc ?_
      refine UP.stp 1 (i1 := 34) (L1 := [some (.ref 123), some (.int minute), some (.int what), some (.int v4), some (.int a2.2.2), some (.int (Int32.ofNat i2))]) (st1 := [.int a2.2.2]) (s1 := z3) rfl ?_
      exact kk
    · skip
      refine UP.icF rfl cc ?_
      refine UP.stp 3 (i1 := 34) (L1 := [some (.ref 123), some (.int minute), some (.int what), some (.int v4), some (.int a2.2.2), some (.int (Int32.ofNat i2))]) (st1 := [.int (z3 123 19)]) (s1 := z3) rfl ?_
      exact kk
    refine UP.stp 3 (i1 := 8) (L1 := [some (.ref 123), some (.int minute), some (.int what), some (.int v4), some (.int v5), some (.int ((Int32.ofNat i2) + 1))]) (st1 := []) (s1 := z3) rfl ?_
    subst e5 e4 e3
    rw [ofn_s]
    try dsimp only [B_strokeOf_8] at kk
    exact kk
  refine UP.stp 2 (i1 := 10) (L1 := [some (.ref 123), some (.int minute), some (.int what), some (.int z2.2.1), some (.int z2.2.2), some (.int (Int32.ofNat 4))]) (st1 := [.int 4, .int (Int32.ofNat 4)]) (s1 := z2.1) rfl ?_
  refine UP.icT rfl (ge_T (4 : Int32)) ?_
  refine UP.stp 1 (i1 := 38) (L1 := [some (.ref 123), some (.int minute), some (.int what), some (.int z2.2.1), some (.int z2.2.2), some (.int (Int32.ofNat 4))]) (st1 := [.int what]) (s1 := z2.1) rfl ?_
  refine mrg (m_cmp .ne what 0) z2.2.2 z2.2.1 (fun v6 : Int32 => UP m_X7_strokeOf 42 [some (.ref 123), some (.int minute), some (.int what), some (.int z2.2.1), some (.int z2.2.2), some (.int (Int32.ofNat 4))] [.int v6] z2.1 (Qb (F_strokeOf s minute what))) (fun cc kk => ?_) (fun cc kk => ?_) (fun v6 e6 => ?_)
  · skip
    refine UP.ifT rfl cc ?_
    refine UP.stp 1 (i1 := 42) (L1 := [some (.ref 123), some (.int minute), some (.int what), some (.int z2.2.1), some (.int z2.2.2), some (.int (Int32.ofNat 4))]) (st1 := [.int z2.2.2]) (s1 := z2.1) rfl ?_
    exact kk
  · skip
    refine UP.ifF rfl cc ?_
    refine UP.stp 2 (i1 := 42) (L1 := [some (.ref 123), some (.int minute), some (.int what), some (.int z2.2.1), some (.int z2.2.2), some (.int (Int32.ofNat 4))]) (st1 := [.int z2.2.1]) (s1 := z2.1) rfl ?_
    exact kk
  exact UP.ret (r := some (.int v6)) rfl ⟨by subst e6 e2 e1; first | (dsimp only [F_strokeOf]; done) | (dsimp only; done) | rfl, by subst e6 e2 e1; first | (dsimp only [F_strokeOf]; done) | (dsimp only; done) | rfl⟩
