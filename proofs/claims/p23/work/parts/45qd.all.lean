section
def W_steerOf : List (Nat × Nat × Option Nat) := [(126, 129, none), (133, 144, none), (147, 147, none), (123, 123, some 2), (123, 123, some 5), (123, 123, some 7), (123, 123, some 17), (123, 123, some 19), (123, 123, some 20), (123, 123, some 21), (123, 123, some 22), (123, 123, some 23), (123, 123, some 24), (123, 123, some 25), (123, 123, some 26), (123, 123, some 27)]
def B_steerOf_8 (minute : Int32) (i2 : Nat) (a2 : SG × Int32 × Int32) : SG × Int32 × Int32 := let z3 := F_runs (uset a2.1 134 minute.toNatClampNeg (Int32.ofNat i2)) ; let v5 := F_strayNow z3; let v7 := bif m_cmp .eq a2.2.1 (-1) then (1 : Int32) else (bif m_cmp .ge v5 a2.2.2 then (0 : Int32) else (1 : Int32)); let v8 := bif m_cmp .eq v7 0 then a2.2.1 else Int32.ofNat i2; let v9 := bif m_cmp .eq v7 0 then a2.2.2 else v5; (z3, v8, v9)
set_option maxRecDepth 20000 in
set_option maxHeartbeats 200000 in
theorem fr_B_steerOf_8 (minute : Int32) (i2 : Nat) (a2 : SG × Int32 × Int32)  (hi2 : i2 < 3) : Fr W_steerOf a2.1 ((B_steerOf_8 minute) i2 a2).1 := by dsimp only [B_steerOf_8]; exact (Fr.tr (s1 := (uset a2.1 134 minute.toNatClampNeg (Int32.ofNat i2))) (Fr.uset (s1 := a2.1) (a := 134) (j := minute.toNatClampNeg) (x := Int32.ofNat i2) (by rfl) (Fr.rf _ _)) (Fr.wk (W2 := W_steerOf) (fr_runs (uset a2.1 134 minute.toNatClampNeg (Int32.ofNat i2)) ) (by rfl)))
def F_steerOf (s : SG) (minute : Int32) (what : Int32) : Int32 × SG := let z1 := F_asTold s ; let z2 := itr (B_steerOf_8 minute) 0 3 (z1, (-1), 0); let v10 := bif m_cmp .ne what 0 then z2.2.2 else z2.2.1; (v10, z2.1)
set_option maxRecDepth 20000 in
set_option maxHeartbeats 200000 in
theorem fr_steerOf (s : SG) (minute : Int32) (what : Int32)  : Fr W_steerOf s (F_steerOf s minute what).2 := by dsimp only [F_steerOf]; exact (let z1 : SG := F_asTold s ; (frItrB (W := W_steerOf) (m := (fun x : SG × Int32 × Int32 => x.1)) (f := (B_steerOf_8 minute)) 3 (fun ii aa hh => Fr.wk (W2 := W_steerOf) (fr_B_steerOf_8 minute ii aa  hh) (by rfl)) 3 0 (z1, (-1), 0) (by omega) (Fr.tr (s1 := s) (Fr.rf _ _) (Fr.wk (W2 := W_steerOf) (fr_asTold s ) (by rfl)))))
set_option maxRecDepth 20000 in
set_option maxHeartbeats 200000 in
theorem ux_steerOf (s : SG) (minute : Int32) (what : Int32)  : UP m_X7_steerOf 0 (m_ent 8 [.ref 123, .int minute, .int what]) [] s (Qb (F_steerOf s minute what)) := by
  refine UP.stp 1 (i1 := 1) (L1 := [some (.ref 123), some (.int minute), some (.int what), none, none, none, none, none]) (st1 := [.ref 123]) (s1 := s) rfl ?_
  refine UP.cV (M1 := m_X7_asTold) (as := [.ref 123]) (rest := []) (T := F_asTold s ) rfl rfl (ux_asTold s ) (fun z1 e1 => ?_)
  refine UP.stp 6 (i1 := 8) (L1 := [some (.ref 123), some (.int minute), some (.int what), some (.int (-1)), some (.int 0), some (.int 0), none, none]) (st1 := []) (s1 := z1) rfl ?_
  refine lp (fun (i2 : Nat) (a2 : SG × Int32 × Int32) => ∀ (u2_6 : Option Value) (u2_7 : Option Value), UP m_X7_steerOf 8 [some (.ref 123), some (.int minute), some (.int what), some (.int a2.2.1), some (.int a2.2.2), some (.int (Int32.ofNat i2)), u2_6, u2_7] [] a2.1 (Qb (F_steerOf s minute what))) (fun (_ : Nat) (a2 : SG × Int32 × Int32) => Fr W_steerOf z1 a2.1) (B_steerOf_8 minute) (3) (fun i2 a2 hi2 g2 => g2.tr (fr_B_steerOf_8 minute i2 a2 hi2)) (fun i2 a2 hi2 g2 kk => ?_) 3 (0) (z1, (-1), 0) (by  omega) (Fr.rf _ _) (fun z2 e2 g2 => ?_) none none
  · skip
    intro u2_6 u2_7
    refine UP.stp 2 (i1 := 10) (L1 := [some (.ref 123), some (.int minute), some (.int what), some (.int a2.2.1), some (.int a2.2.2), some (.int (Int32.ofNat i2)), u2_6, u2_7]) (st1 := [.int 3, .int (Int32.ofNat i2)]) (s1 := a2.1) rfl ?_
    refine UP.icF rfl (ge_F (show i2 < (3 : Int32).toNatClampNeg from hi2)) ?_
    refine UP.stp 6 (i1 := 17) (L1 := [some (.ref 123), some (.int minute), some (.int what), some (.int a2.2.1), some (.int a2.2.2), some (.int (Int32.ofNat i2)), u2_6, u2_7]) (st1 := [.ref 123]) (s1 := (uset a2.1 134 minute.toNatClampNeg (Int32.ofNat i2))) rfl ?_
    refine UP.cV (M1 := m_X7_runs) (as := [.ref 123]) (rest := []) (T := F_runs (uset a2.1 134 minute.toNatClampNeg (Int32.ofNat i2)) ) rfl rfl (ux_runs (uset a2.1 134 minute.toNatClampNeg (Int32.ofNat i2)) ) (fun z3 e3 => ?_)
    refine UP.stp 1 (i1 := 19) (L1 := [some (.ref 123), some (.int minute), some (.int what), some (.int a2.2.1), some (.int a2.2.2), some (.int (Int32.ofNat i2)), u2_6, u2_7]) (st1 := [.ref 123]) (s1 := z3) rfl ?_
    refine UP.cI (M1 := m_X7_strayNow) (as := [.ref 123]) (rest := []) (T := F_strayNow z3 ) rfl rfl (ux_strayNow z3 ) ?_
    refine nm (G := fun v5 => UP m_X7_steerOf 20 [some (.ref 123), some (.int minute), some (.int what), some (.int a2.2.1), some (.int a2.2.2), some (.int (Int32.ofNat i2)), u2_6, u2_7] [.int v5] z3 (Qb (F_steerOf s minute what))) (F_strayNow z3) (fun v5 e5 => ?_)
    refine UP.stp 3 (i1 := 23) (L1 := [some (.ref 123), some (.int minute), some (.int what), some (.int a2.2.1), some (.int a2.2.2), some (.int (Int32.ofNat i2)), some (.int v5), u2_7]) (st1 := [.int (-1), .int a2.2.1]) (s1 := z3) rfl ?_
    refine mrg (m_cmp .eq a2.2.1 (-1)) (1 : Int32) (bif m_cmp .ge v5 a2.2.2 then (0 : Int32) else (1 : Int32)) (fun v7 : Int32 => UP m_X7_steerOf 30 [some (.ref 123), some (.int minute), some (.int what), some (.int a2.2.1), some (.int a2.2.2), some (.int (Int32.ofNat i2)), some (.int v5), u2_7] [.int v7] z3 (Qb (F_steerOf s minute what))) (fun cc kk => ?_) (fun cc kk => ?_) (fun v7 e7 => ?_)
    · skip
      refine UP.icT rfl cc ?_
      refine UP.stp 2 (i1 := 30) (L1 := [some (.ref 123), some (.int minute), some (.int what), some (.int a2.2.1), some (.int a2.2.2), some (.int (Int32.ofNat i2)), some (.int v5), u2_7]) (st1 := [.int 1]) (s1 := z3) rfl ?_
      exact kk
    · skip
      refine UP.icF rfl cc ?_
      refine UP.stp 2 (i1 := 26) (L1 := [some (.ref 123), some (.int minute), some (.int what), some (.int a2.2.1), some (.int a2.2.2), some (.int (Int32.ofNat i2)), some (.int v5), u2_7]) (st1 := [.int a2.2.2, .int v5]) (s1 := z3) rfl ?_
      refine mrg (m_cmp .ge v5 a2.2.2) (0 : Int32) (1 : Int32) (fun v6 : Int32 => UP m_X7_steerOf 30 [some (.ref 123), some (.int minute), some (.int what), some (.int a2.2.1), some (.int a2.2.2), some (.int (Int32.ofNat i2)), some (.int v5), u2_7] [.int v6] z3 (Qb (F_steerOf s minute what))) (fun cc kk => ?_) (fun cc kk => ?_) (fun v6 e6 => ?_)
      · skip
        refine UP.icT rfl cc ?_
        refine UP.stp 1 (i1 := 30) (L1 := [some (.ref 123), some (.int minute), some (.int what), some (.int a2.2.1), some (.int a2.2.2), some (.int (Int32.ofNat i2)), some (.int v5), u2_7]) (st1 := [.int 0]) (s1 := z3) rfl ?_
        exact kk
      · skip
        refine UP.icF rfl cc ?_
        refine UP.stp 2 (i1 := 30) (L1 := [some (.ref 123), some (.int minute), some (.int what), some (.int a2.2.1), some (.int a2.2.2), some (.int (Int32.ofNat i2)), some (.int v5), u2_7]) (st1 := [.int 1]) (s1 := z3) rfl ?_
        exact kk
      subst e6
      exact kk
    refine UP.stp 2 (i1 := 32) (L1 := [some (.ref 123), some (.int minute), some (.int what), some (.int a2.2.1), some (.int a2.2.2), some (.int (Int32.ofNat i2)), some (.int v5), some (.int v7)]) (st1 := [.int v7]) (s1 := z3) rfl ?_
    refine mrg (m_cmp .eq v7 0) a2.2.1 (Int32.ofNat i2) (fun v8 : Int32 => UP m_X7_steerOf 36 [some (.ref 123), some (.int minute), some (.int what), some (.int a2.2.1), some (.int a2.2.2), some (.int (Int32.ofNat i2)), some (.int v5), some (.int v7)] [.int v8] z3 (Qb (F_steerOf s minute what))) (fun cc kk => ?_) (fun cc kk => ?_) (fun v8 e8 => ?_)
    · skip
      refine UP.ifT rfl cc ?_
      refine UP.stp 1 (i1 := 36) (L1 := [some (.ref 123), some (.int minute), some (.int what), some (.int a2.2.1), some (.int a2.2.2), some (.int (Int32.ofNat i2)), some (.int v5), some (.int v7)]) (st1 := [.int a2.2.1]) (s1 := z3) rfl ?_
      exact kk
    · skip
      refine UP.ifF rfl cc ?_
      refine UP.stp 2 (i1 := 36) (L1 := [some (.ref 123), some (.int minute), some (.int what), some (.int a2.2.1), some (.int a2.2.2), some (.int (Int32.ofNat i2)), some (.int v5), some (.int v7)]) (st1 := [.int (Int32.ofNat i2)]) (s1 := z3) rfl ?_
      exact kk
    refine UP.stp 2 (i1 := 38) (L1 := [some (.ref 123), some (.int minute), some (.int what), some (.int v8), some (.int a2.2.2), some (.int (Int32.ofNat i2)), some (.int v5), some (.int v7)]) (st1 := [.int v7]) (s1 := z3) rfl ?_
    refine mrg (m_cmp .eq v7 0) a2.2.2 v5 (fun v9 : Int32 => UP m_X7_steerOf 42 [some (.ref 123), some (.int minute), some (.int what), some (.int v8), some (.int a2.2.2), some (.int (Int32.ofNat i2)), some (.int v5), some (.int v7)] [.int v9] z3 (Qb (F_steerOf s minute what))) (fun cc kk => ?_) (fun cc kk => ?_) (fun v9 e9 => ?_)
    · skip
      refine UP.ifT rfl cc ?_
      refine UP.stp 1 (i1 := 42) (L1 := [some (.ref 123), some (.int minute), some (.int what), some (.int v8), some (.int a2.2.2), some (.int (Int32.ofNat i2)), some (.int v5), some (.int v7)]) (st1 := [.int a2.2.2]) (s1 := z3) rfl ?_
      exact kk
    · skip
      refine UP.ifF rfl cc ?_
      refine UP.stp 2 (i1 := 42) (L1 := [some (.ref 123), some (.int minute), some (.int what), some (.int v8), some (.int a2.2.2), some (.int (Int32.ofNat i2)), some (.int v5), some (.int v7)]) (st1 := [.int v5]) (s1 := z3) rfl ?_
      exact kk
    refine UP.stp 3 (i1 := 8) (L1 := [some (.ref 123), some (.int minute), some (.int what), some (.int v8), some (.int v9), some (.int ((Int32.ofNat i2) + 1)), some (.int v5), some (.int v7)]) (st1 := []) (s1 := z3) rfl ?_
    subst e9 e8 e7 e5 e3
    rw [ofn_s]
    try dsimp only [B_steerOf_8] at kk
    exact kk _ _
  intro u2_6 u2_7
  refine UP.stp 2 (i1 := 10) (L1 := [some (.ref 123), some (.int minute), some (.int what), some (.int z2.2.1), some (.int z2.2.2), some (.int (Int32.ofNat 3)), u2_6, u2_7]) (st1 := [.int 3, .int (Int32.ofNat 3)]) (s1 := z2.1) rfl ?_
  refine UP.icT rfl (ge_T (3 : Int32)) ?_
  refine UP.stp 1 (i1 := 46) (L1 := [some (.ref 123), some (.int minute), some (.int what), some (.int z2.2.1), some (.int z2.2.2), some (.int (Int32.ofNat 3)), u2_6, u2_7]) (st1 := [.int what]) (s1 := z2.1) rfl ?_
  refine mrg (m_cmp .ne what 0) z2.2.2 z2.2.1 (fun v10 : Int32 => UP m_X7_steerOf 50 [some (.ref 123), some (.int minute), some (.int what), some (.int z2.2.1), some (.int z2.2.2), some (.int (Int32.ofNat 3)), u2_6, u2_7] [.int v10] z2.1 (Qb (F_steerOf s minute what))) (fun cc kk => ?_) (fun cc kk => ?_) (fun v10 e10 => ?_)
  · skip
    refine UP.ifT rfl cc ?_
    refine UP.stp 1 (i1 := 50) (L1 := [some (.ref 123), some (.int minute), some (.int what), some (.int z2.2.1), some (.int z2.2.2), some (.int (Int32.ofNat 3)), u2_6, u2_7]) (st1 := [.int z2.2.2]) (s1 := z2.1) rfl ?_
    exact kk
  · skip
    refine UP.ifF rfl cc ?_
    refine UP.stp 2 (i1 := 50) (L1 := [some (.ref 123), some (.int minute), some (.int what), some (.int z2.2.1), some (.int z2.2.2), some (.int (Int32.ofNat 3)), u2_6, u2_7]) (st1 := [.int z2.2.1]) (s1 := z2.1) rfl ?_
    exact kk
  exact UP.ret (r := some (.int v10)) rfl ⟨by subst e10 e2 e1; first | (dsimp only [F_steerOf]; done) | (dsimp only; done) | rfl, by subst e10 e2 e1; first | (dsimp only [F_steerOf]; done) | (dsimp only; done) | rfl⟩
end
section
def W_steer : List (Nat × Nat × Option Nat) := [(126, 129, none), (133, 144, none), (147, 147, none), (123, 123, some 2), (123, 123, some 5), (123, 123, some 7), (123, 123, some 17), (123, 123, some 19), (123, 123, some 20), (123, 123, some 21), (123, 123, some 22), (123, 123, some 23), (123, 123, some 24), (123, 123, some 25), (123, 123, some 26), (123, 123, some 27)]
def F_steer (s : SG) (minute : Int32) (what : Int32) : Int32 × SG := let w5 := bif m_cmp .eq (F_isMinute s minute) 0 then ((-2 : Int32), s) else (bif m_cmp .eq (F_isTwo s what) 0 then ((-2 : Int32), s) else (F_steerOf s minute what)); w5
set_option maxRecDepth 20000 in
set_option maxHeartbeats 200000 in
theorem fr_steer (s : SG) (minute : Int32) (what : Int32)  : Fr W_steer s (F_steer s minute what).2 := by dsimp only [F_steer]; exact (Fr.bifp (b := m_cmp .eq (F_isMinute s minute) 0) (x := ((-2 : Int32), s)) (y := (bif m_cmp .eq (F_isTwo s what) 0 then ((-2 : Int32), s) else (F_steerOf s minute what))) (fun x : Int32 × SG => x.2) (by (try dsimp only); exact (Fr.rf _ _)) (by (try dsimp only); exact (Fr.bifp (b := m_cmp .eq (F_isTwo s what) 0) (x := ((-2 : Int32), s)) (y := (F_steerOf s minute what)) (fun x : Int32 × SG => x.2) (by (try dsimp only); exact (Fr.rf _ _)) (by (try dsimp only); exact (Fr.tr (s1 := s) (Fr.rf _ _) (Fr.wk (W2 := W_steer) (fr_steerOf s minute what) (by rfl)))))))
set_option maxRecDepth 20000 in
set_option maxHeartbeats 200000 in
theorem ux_steer (s : SG) (minute : Int32) (what : Int32)  : UP m_X7_steer 0 (m_ent 3 [.ref 123, .int minute, .int what]) [] s (Qb (F_steer s minute what)) := by
  refine UP.stp 1 (i1 := 1) (L1 := [some (.ref 123), some (.int minute), some (.int what)]) (st1 := [.int minute]) (s1 := s) rfl ?_
  refine UP.cI (M1 := m_X7_isMinute) (as := [.int minute]) (rest := []) (T := F_isMinute s minute) rfl rfl (ux_isMinute s minute) ?_
  refine mrg (m_cmp .eq (F_isMinute s minute) 0) ((-2 : Int32), s) (bif m_cmp .eq (F_isTwo s what) 0 then ((-2 : Int32), s) else (F_steerOf s minute what)) (fun w5 : Int32 × SG => UP m_X7_steer 12 [some (.ref 123), some (.int minute), some (.int what)] [.int w5.1] w5.2 (Qb (F_steer s minute what))) (fun cc kk => ?_) (fun cc kk => ?_) (fun w5 e5 => ?_)
  · skip
    refine UP.ifT rfl cc ?_
    refine UP.stp 1 (i1 := 12) (L1 := [some (.ref 123), some (.int minute), some (.int what)]) (st1 := [.int (-2)]) (s1 := s) rfl ?_
    exact kk
  · skip
    refine UP.ifF rfl cc ?_
    refine UP.stp 1 (i1 := 4) (L1 := [some (.ref 123), some (.int minute), some (.int what)]) (st1 := [.int what]) (s1 := s) rfl ?_
    refine UP.cI (M1 := m_X7_isTwo) (as := [.int what]) (rest := []) (T := F_isTwo s what) rfl rfl (ux_isTwo s what) ?_
    refine mrg (m_cmp .eq (F_isTwo s what) 0) ((-2 : Int32), s) (F_steerOf s minute what) (fun w4 : Int32 × SG => UP m_X7_steer 12 [some (.ref 123), some (.int minute), some (.int what)] [.int w4.1] w4.2 (Qb (F_steer s minute what))) (fun cc kk => ?_) (fun cc kk => ?_) (fun w4 e4 => ?_)
    · skip
      refine UP.ifT rfl cc ?_
      refine UP.stp 1 (i1 := 12) (L1 := [some (.ref 123), some (.int minute), some (.int what)]) (st1 := [.int (-2)]) (s1 := s) rfl ?_
      exact kk
    · skip
      refine UP.ifF rfl cc ?_
      refine UP.stp 3 (i1 := 9) (L1 := [some (.ref 123), some (.int minute), some (.int what)]) (st1 := [.int what, .int minute, .ref 123]) (s1 := s) rfl ?_
      refine UP.cB (M1 := m_X7_steerOf) (as := [.ref 123, .int minute, .int what]) (rest := []) (T := F_steerOf s minute what) rfl rfl (ux_steerOf s minute what) (fun z3 e3 => ?_)
      refine UP.stp 1 (i1 := 12) (L1 := [some (.ref 123), some (.int minute), some (.int what)]) (st1 := [.int z3.1]) (s1 := z3.2) rfl ?_
      subst e3
      exact kk
    subst e4
    exact kk
  exact UP.ret (r := some (.int w5.1)) rfl ⟨by subst e5; first | (dsimp only [F_steer]; done) | (dsimp only; done) | rfl, by subst e5; first | (dsimp only [F_steer]; done) | (dsimp only; done) | rfl⟩
def W_strokeOf : List (Nat × Nat × Option Nat) := [(126, 129, none), (133, 144, none), (147, 147, none), (123, 123, some 2), (123, 123, some 5), (123, 123, some 7), (123, 123, some 17), (123, 123, some 19), (123, 123, some 20), (123, 123, some 21), (123, 123, some 22), (123, 123, some 23), (123, 123, some 24), (123, 123, some 25), (123, 123, some 26), (123, 123, some 27)]
def B_strokeOf_8 (minute : Int32) (i2 : Nat) (a2 : SG × Int32 × Int32) : SG × Int32 × Int32 := let z3 := F_runs (uset a2.1 133 minute.toNatClampNeg (Int32.ofNat i2)) ; let v4 := bif m_cmp .le (z3 123 19) a2.2.2 then a2.2.1 else Int32.ofNat i2; let v5 := bif m_cmp .le (z3 123 19) a2.2.2 then a2.2.2 else z3 123 19; (z3, v4, v5)
set_option maxRecDepth 20000 in
set_option maxHeartbeats 200000 in
theorem fr_B_strokeOf_8 (minute : Int32) (i2 : Nat) (a2 : SG × Int32 × Int32)  (hi2 : i2 < 4) : Fr W_strokeOf a2.1 ((B_strokeOf_8 minute) i2 a2).1 := by dsimp only [B_strokeOf_8]; exact (Fr.tr (s1 := (uset a2.1 133 minute.toNatClampNeg (Int32.ofNat i2))) (Fr.uset (s1 := a2.1) (a := 133) (j := minute.toNatClampNeg) (x := Int32.ofNat i2) (by rfl) (Fr.rf _ _)) (Fr.wk (W2 := W_strokeOf) (fr_runs (uset a2.1 133 minute.toNatClampNeg (Int32.ofNat i2)) ) (by rfl)))
def F_strokeOf (s : SG) (minute : Int32) (what : Int32) : Int32 × SG := let z1 := F_asTold s ; let z2 := itr (B_strokeOf_8 minute) 0 4 (z1, (-1), (-1)); let v6 := bif m_cmp .ne what 0 then z2.2.2 else z2.2.1; (v6, z2.1)
set_option maxRecDepth 20000 in
set_option maxHeartbeats 200000 in
theorem fr_strokeOf (s : SG) (minute : Int32) (what : Int32)  : Fr W_strokeOf s (F_strokeOf s minute what).2 := by dsimp only [F_strokeOf]; exact (let z1 : SG := F_asTold s ; (frItrB (W := W_strokeOf) (m := (fun x : SG × Int32 × Int32 => x.1)) (f := (B_strokeOf_8 minute)) 4 (fun ii aa hh => Fr.wk (W2 := W_strokeOf) (fr_B_strokeOf_8 minute ii aa  hh) (by rfl)) 4 0 (z1, (-1), (-1)) (by omega) (Fr.tr (s1 := s) (Fr.rf _ _) (Fr.wk (W2 := W_strokeOf) (fr_asTold s ) (by rfl)))))
set_option maxRecDepth 20000 in
set_option maxHeartbeats 200000 in
theorem ux_strokeOf (s : SG) (minute : Int32) (what : Int32)  : UP m_X7_strokeOf 0 (m_ent 6 [.ref 123, .int minute, .int what]) [] s (Qb (F_strokeOf s minute what)) := by
  refine UP.stp 1 (i1 := 1) (L1 := [some (.ref 123), some (.int minute), some (.int what), none, none, none]) (st1 := [.ref 123]) (s1 := s) rfl ?_
  refine UP.cV (M1 := m_X7_asTold) (as := [.ref 123]) (rest := []) (T := F_asTold s ) rfl rfl (ux_asTold s ) (fun z1 e1 => ?_)
  refine UP.stp 6 (i1 := 8) (L1 := [some (.ref 123), some (.int minute), some (.int what), some (.int (-1)), some (.int (-1)), some (.int 0)]) (st1 := []) (s1 := z1) rfl ?_
  refine lp (fun (i2 : Nat) (a2 : SG × Int32 × Int32) => UP m_X7_strokeOf 8 [some (.ref 123), some (.int minute), some (.int what), some (.int a2.2.1), some (.int a2.2.2), some (.int (Int32.ofNat i2))] [] a2.1 (Qb (F_strokeOf s minute what))) (fun (_ : Nat) (a2 : SG × Int32 × Int32) => Fr W_strokeOf z1 a2.1) (B_strokeOf_8 minute) (4) (fun i2 a2 hi2 g2 => g2.tr (fr_B_strokeOf_8 minute i2 a2 hi2)) (fun i2 a2 hi2 g2 kk => ?_) 4 (0) (z1, (-1), (-1)) (by  omega) (Fr.rf _ _) (fun z2 e2 g2 => ?_)
  · skip
    refine UP.stp 2 (i1 := 10) (L1 := [some (.ref 123), some (.int minute), some (.int what), some (.int a2.2.1), some (.int a2.2.2), some (.int (Int32.ofNat i2))]) (st1 := [.int 4, .int (Int32.ofNat i2)]) (s1 := a2.1) rfl ?_
    refine UP.icF rfl (ge_F (show i2 < (4 : Int32).toNatClampNeg from hi2)) ?_
    refine UP.stp 6 (i1 := 17) (L1 := [some (.ref 123), some (.int minute), some (.int what), some (.int a2.2.1), some (.int a2.2.2), some (.int (Int32.ofNat i2))]) (st1 := [.ref 123]) (s1 := (uset a2.1 133 minute.toNatClampNeg (Int32.ofNat i2))) rfl ?_
    refine UP.cV (M1 := m_X7_runs) (as := [.ref 123]) (rest := []) (T := F_runs (uset a2.1 133 minute.toNatClampNeg (Int32.ofNat i2)) ) rfl rfl (ux_runs (uset a2.1 133 minute.toNatClampNeg (Int32.ofNat i2)) ) (fun z3 e3 => ?_)
    refine UP.stp 3 (i1 := 21) (L1 := [some (.ref 123), some (.int minute), some (.int what), some (.int a2.2.1), some (.int a2.2.2), some (.int (Int32.ofNat i2))]) (st1 := [.int a2.2.2, .int (z3 123 19)]) (s1 := z3) rfl ?_
    refine mrg (m_cmp .le (z3 123 19) a2.2.2) a2.2.1 (Int32.ofNat i2) (fun v4 : Int32 => UP m_X7_strokeOf 25 [some (.ref 123), some (.int minute), some (.int what), some (.int a2.2.1), some (.int a2.2.2), some (.int (Int32.ofNat i2))] [.int v4] z3 (Qb (F_strokeOf s minute what))) (fun cc kk => ?_) (fun cc kk => ?_) (fun v4 e4 => ?_)
    · skip
      refine UP.icT rfl cc ?_
      refine UP.stp 1 (i1 := 25) (L1 := [some (.ref 123), some (.int minute), some (.int what), some (.int a2.2.1), some (.int a2.2.2), some (.int (Int32.ofNat i2))]) (st1 := [.int a2.2.1]) (s1 := z3) rfl ?_
      exact kk
    · skip
      refine UP.icF rfl cc ?_
      refine UP.stp 2 (i1 := 25) (L1 := [some (.ref 123), some (.int minute), some (.int what), some (.int a2.2.1), some (.int a2.2.2), some (.int (Int32.ofNat i2))]) (st1 := [.int (Int32.ofNat i2)]) (s1 := z3) rfl ?_
      exact kk
    refine UP.stp 4 (i1 := 29) (L1 := [some (.ref 123), some (.int minute), some (.int what), some (.int v4), some (.int a2.2.2), some (.int (Int32.ofNat i2))]) (st1 := [.int a2.2.2, .int (z3 123 19)]) (s1 := z3) rfl ?_
    refine mrg (m_cmp .le (z3 123 19) a2.2.2) a2.2.2 (z3 123 19) (fun v5 : Int32 => UP m_X7_strokeOf 34 [some (.ref 123), some (.int minute), some (.int what), some (.int v4), some (.int a2.2.2), some (.int (Int32.ofNat i2))] [.int v5] z3 (Qb (F_strokeOf s minute what))) (fun cc kk => ?_) (fun cc kk => ?_) (fun v5 e5 => ?_)
    · skip
      refine UP.icT rfl cc ?_
      refine UP.stp 1 (i1 := 34) (L1 := [some (.ref 123), some (.int minute), some (.int what), some (.int v4), some (.int a2.2.2), some (.int (Int32.ofNat i2))]) (st1 := [.int a2.2.2]) (s1 := z3) rfl ?_
      exact kk
    · skip
      refine UP.icF rfl cc ?_
      refine UP.stp 3 (i1 := 34) (L1 := [some (.ref 123), some (.int minute), some (.int what), some (.int v4), some (.int a2.2.2), some (.int (Int32.ofNat i2))]) (st1 := [.int (z3 123 19)]) (s1 := z3) rfl ?_
      exact kk
    refine UP.stp 3 (i1 := 8) (L1 := [some (.ref 123), some (.int minute), some (.int what), some (.int v4), some (.int v5), some (.int ((Int32.ofNat i2) + 1))]) (st1 := []) (s1 := z3) rfl ?_
    subst e5 e4 e3
    rw [ofn_s]
    try dsimp only [B_strokeOf_8] at kk
    exact kk
  refine UP.stp 2 (i1 := 10) (L1 := [some (.ref 123), some (.int minute), some (.int what), some (.int z2.2.1), some (.int z2.2.2), some (.int (Int32.ofNat 4))]) (st1 := [.int 4, .int (Int32.ofNat 4)]) (s1 := z2.1) rfl ?_
  refine UP.icT rfl (ge_T (4 : Int32)) ?_
  refine UP.stp 1 (i1 := 38) (L1 := [some (.ref 123), some (.int minute), some (.int what), some (.int z2.2.1), some (.int z2.2.2), some (.int (Int32.ofNat 4))]) (st1 := [.int what]) (s1 := z2.1) rfl ?_
  refine mrg (m_cmp .ne what 0) z2.2.2 z2.2.1 (fun v6 : Int32 => UP m_X7_strokeOf 42 [some (.ref 123), some (.int minute), some (.int what), some (.int z2.2.1), some (.int z2.2.2), some (.int (Int32.ofNat 4))] [.int v6] z2.1 (Qb (F_strokeOf s minute what))) (fun cc kk => ?_) (fun cc kk => ?_) (fun v6 e6 => ?_)
  · skip
    refine UP.ifT rfl cc ?_
    refine UP.stp 1 (i1 := 42) (L1 := [some (.ref 123), some (.int minute), some (.int what), some (.int z2.2.1), some (.int z2.2.2), some (.int (Int32.ofNat 4))]) (st1 := [.int z2.2.2]) (s1 := z2.1) rfl ?_
    exact kk
  · skip
    refine UP.ifF rfl cc ?_
    refine UP.stp 2 (i1 := 42) (L1 := [some (.ref 123), some (.int minute), some (.int what), some (.int z2.2.1), some (.int z2.2.2), some (.int (Int32.ofNat 4))]) (st1 := [.int z2.2.1]) (s1 := z2.1) rfl ?_
    exact kk
  exact UP.ret (r := some (.int v6)) rfl ⟨by subst e6 e2 e1; first | (dsimp only [F_strokeOf]; done) | (dsimp only; done) | rfl, by subst e6 e2 e1; first | (dsimp only [F_strokeOf]; done) | (dsimp only; done) | rfl⟩
end
section
def W_stroke : List (Nat × Nat × Option Nat) := [(126, 129, none), (133, 144, none), (147, 147, none), (123, 123, some 2), (123, 123, some 5), (123, 123, some 7), (123, 123, some 17), (123, 123, some 19), (123, 123, some 20), (123, 123, some 21), (123, 123, some 22), (123, 123, some 23), (123, 123, some 24), (123, 123, some 25), (123, 123, some 26), (123, 123, some 27)]
def F_stroke (s : SG) (minute : Int32) (what : Int32) : Int32 × SG := let w5 := bif m_cmp .eq (F_isMinute s minute) 0 then ((-2 : Int32), s) else (bif m_cmp .eq (F_isTwo s what) 0 then ((-2 : Int32), s) else (F_strokeOf s minute what)); w5
set_option maxRecDepth 20000 in
set_option maxHeartbeats 200000 in
theorem fr_stroke (s : SG) (minute : Int32) (what : Int32)  : Fr W_stroke s (F_stroke s minute what).2 := by dsimp only [F_stroke]; exact (Fr.bifp (b := m_cmp .eq (F_isMinute s minute) 0) (x := ((-2 : Int32), s)) (y := (bif m_cmp .eq (F_isTwo s what) 0 then ((-2 : Int32), s) else (F_strokeOf s minute what))) (fun x : Int32 × SG => x.2) (by (try dsimp only); exact (Fr.rf _ _)) (by (try dsimp only); exact (Fr.bifp (b := m_cmp .eq (F_isTwo s what) 0) (x := ((-2 : Int32), s)) (y := (F_strokeOf s minute what)) (fun x : Int32 × SG => x.2) (by (try dsimp only); exact (Fr.rf _ _)) (by (try dsimp only); exact (Fr.tr (s1 := s) (Fr.rf _ _) (Fr.wk (W2 := W_stroke) (fr_strokeOf s minute what) (by rfl)))))))
set_option maxRecDepth 20000 in
set_option maxHeartbeats 200000 in
theorem ux_stroke (s : SG) (minute : Int32) (what : Int32)  : UP m_X7_stroke 0 (m_ent 3 [.ref 123, .int minute, .int what]) [] s (Qb (F_stroke s minute what)) := by
  refine UP.stp 1 (i1 := 1) (L1 := [some (.ref 123), some (.int minute), some (.int what)]) (st1 := [.int minute]) (s1 := s) rfl ?_
  refine UP.cI (M1 := m_X7_isMinute) (as := [.int minute]) (rest := []) (T := F_isMinute s minute) rfl rfl (ux_isMinute s minute) ?_
  refine mrg (m_cmp .eq (F_isMinute s minute) 0) ((-2 : Int32), s) (bif m_cmp .eq (F_isTwo s what) 0 then ((-2 : Int32), s) else (F_strokeOf s minute what)) (fun w5 : Int32 × SG => UP m_X7_stroke 12 [some (.ref 123), some (.int minute), some (.int what)] [.int w5.1] w5.2 (Qb (F_stroke s minute what))) (fun cc kk => ?_) (fun cc kk => ?_) (fun w5 e5 => ?_)
  · skip
    refine UP.ifT rfl cc ?_
    refine UP.stp 1 (i1 := 12) (L1 := [some (.ref 123), some (.int minute), some (.int what)]) (st1 := [.int (-2)]) (s1 := s) rfl ?_
    exact kk
  · skip
    refine UP.ifF rfl cc ?_
    refine UP.stp 1 (i1 := 4) (L1 := [some (.ref 123), some (.int minute), some (.int what)]) (st1 := [.int what]) (s1 := s) rfl ?_
    refine UP.cI (M1 := m_X7_isTwo) (as := [.int what]) (rest := []) (T := F_isTwo s what) rfl rfl (ux_isTwo s what) ?_
    refine mrg (m_cmp .eq (F_isTwo s what) 0) ((-2 : Int32), s) (F_strokeOf s minute what) (fun w4 : Int32 × SG => UP m_X7_stroke 12 [some (.ref 123), some (.int minute), some (.int what)] [.int w4.1] w4.2 (Qb (F_stroke s minute what))) (fun cc kk => ?_) (fun cc kk => ?_) (fun w4 e4 => ?_)
    · skip
      refine UP.ifT rfl cc ?_
      refine UP.stp 1 (i1 := 12) (L1 := [some (.ref 123), some (.int minute), some (.int what)]) (st1 := [.int (-2)]) (s1 := s) rfl ?_
      exact kk
    · skip
      refine UP.ifF rfl cc ?_
      refine UP.stp 3 (i1 := 9) (L1 := [some (.ref 123), some (.int minute), some (.int what)]) (st1 := [.int what, .int minute, .ref 123]) (s1 := s) rfl ?_
      refine UP.cB (M1 := m_X7_strokeOf) (as := [.ref 123, .int minute, .int what]) (rest := []) (T := F_strokeOf s minute what) rfl rfl (ux_strokeOf s minute what) (fun z3 e3 => ?_)
      refine UP.stp 1 (i1 := 12) (L1 := [some (.ref 123), some (.int minute), some (.int what)]) (st1 := [.int z3.1]) (s1 := z3.2) rfl ?_
      subst e3
      exact kk
    subst e4
    exact kk
  exact UP.ret (r := some (.int w5.1)) rfl ⟨by subst e5; first | (dsimp only [F_stroke]; done) | (dsimp only; done) | rfl, by subst e5; first | (dsimp only [F_stroke]; done) | (dsimp only; done) | rfl⟩
end
section
def W_yearsOf : List (Nat × Nat × Option Nat) := [(126, 129, none), (133, 144, none), (147, 147, none), (123, 123, some 2), (123, 123, some 5), (123, 123, some 7), (123, 123, some 17), (123, 123, some 19), (123, 123, some 20), (123, 123, some 21), (123, 123, some 22), (123, 123, some 23), (123, 123, some 24), (123, 123, some 25), (123, 123, some 26), (123, 123, some 27)]
def B_yearsOf_6 (n : Int32) (i2 : Nat) (a2 : SG × Int32) : SG × Int32 := let v3 := bif m_cmp .ge (Int32.ofNat i2) n then a2.2 else (1103515245 * a2.2) + 12345; let v4 := bif m_cmp .ge (Int32.ofNat i2) n then (2 : Int32) else ((Int32.toUInt32 v3 >>> (Int32.toUInt32 16 &&& Int32.toUInt32 31)).toInt32) - ((Int32.toUInt32 v3 >>> (Int32.toUInt32 16 &&& Int32.toUInt32 31)).toInt32) / 4 * 4; ((uset a2.1 133 i2 v4), v3)
set_option maxRecDepth 20000 in
set_option maxHeartbeats 200000 in
theorem fr_B_yearsOf_6 (n : Int32) (i2 : Nat) (a2 : SG × Int32)  (hi2 : i2 < 24) : Fr W_yearsOf a2.1 ((B_yearsOf_6 n) i2 a2).1 := by dsimp only [B_yearsOf_6]; exact (let v3 : Int32 := bif m_cmp .ge (Int32.ofNat i2) n then a2.2 else (1103515245 * a2.2) + 12345; (let v4 : Int32 := bif m_cmp .ge (Int32.ofNat i2) n then (2 : Int32) else ((Int32.toUInt32 v3 >>> (Int32.toUInt32 16 &&& Int32.toUInt32 31)).toInt32) - ((Int32.toUInt32 v3 >>> (Int32.toUInt32 16 &&& Int32.toUInt32 31)).toInt32) / 4 * 4; (Fr.uset (s1 := a2.1) (a := 133) (j := i2) (x := v4) (by rfl) (Fr.rf _ _))))
def F_yearsOf (s : SG) (seed : Int32) (n : Int32) (what : Int32) : Int32 × SG := let z1 := F_asTold s ; let z2 := itr (B_yearsOf_6 n) 0 24 (z1, seed); let z5 := F_runs z2.1 ; let v6 := bif m_cmp .ne what 0 then z5 123 20 else z5 123 19; (v6, z5)
set_option maxRecDepth 20000 in
set_option maxHeartbeats 200000 in
theorem fr_yearsOf (s : SG) (seed : Int32) (n : Int32) (what : Int32)  : Fr W_yearsOf s (F_yearsOf s seed n what).2 := by dsimp only [F_yearsOf]; exact (let z1 : SG := F_asTold s ; (let z2 : SG × Int32 := itr (B_yearsOf_6 n) 0 24 (z1, seed); (Fr.tr (s1 := z2.1) (frItrB (W := W_yearsOf) (m := (fun x : SG × Int32 => x.1)) (f := (B_yearsOf_6 n)) 24 (fun ii aa hh => Fr.wk (W2 := W_yearsOf) (fr_B_yearsOf_6 n ii aa  hh) (by rfl)) 24 0 (z1, seed) (by omega) (Fr.tr (s1 := s) (Fr.rf _ _) (Fr.wk (W2 := W_yearsOf) (fr_asTold s ) (by rfl)))) (Fr.wk (W2 := W_yearsOf) (fr_runs z2.1 ) (by rfl)))))
set_option maxRecDepth 20000 in
set_option maxHeartbeats 200000 in
theorem ux_yearsOf (s : SG) (seed : Int32) (n : Int32) (what : Int32)  : UP m_X7_yearsOf 0 (m_ent 6 [.ref 123, .int seed, .int n, .int what]) [] s (Qb (F_yearsOf s seed n what)) := by
  refine UP.stp 1 (i1 := 1) (L1 := [some (.ref 123), some (.int seed), some (.int n), some (.int what), none, none]) (st1 := [.ref 123]) (s1 := s) rfl ?_
  refine UP.cV (M1 := m_X7_asTold) (as := [.ref 123]) (rest := []) (T := F_asTold s ) rfl rfl (ux_asTold s ) (fun z1 e1 => ?_)
  refine UP.stp 4 (i1 := 6) (L1 := [some (.ref 123), some (.int seed), some (.int n), some (.int what), some (.int seed), some (.int 0)]) (st1 := []) (s1 := z1) rfl ?_
  refine lp (fun (i2 : Nat) (a2 : SG × Int32) => ∀ (u2_1 : Option Value), UP m_X7_yearsOf 6 [some (.ref 123), u2_1, some (.int n), some (.int what), some (.int a2.2), some (.int (Int32.ofNat i2))] [] a2.1 (Qb (F_yearsOf s seed n what))) (fun (_ : Nat) (a2 : SG × Int32) => Fr W_yearsOf z1 a2.1) (B_yearsOf_6 n) (24) (fun i2 a2 hi2 g2 => g2.tr (fr_B_yearsOf_6 n i2 a2 hi2)) (fun i2 a2 hi2 g2 kk => ?_) 24 (0) (z1, seed) (by  omega) (Fr.rf _ _) (fun z2 e2 g2 => ?_) (some (.int seed))
  · skip
    intro u2_1
    refine UP.stp 2 (i1 := 8) (L1 := [some (.ref 123), u2_1, some (.int n), some (.int what), some (.int a2.2), some (.int (Int32.ofNat i2))]) (st1 := [.int 24, .int (Int32.ofNat i2)]) (s1 := a2.1) rfl ?_
    refine UP.icF rfl (ge_F (show i2 < (24 : Int32).toNatClampNeg from hi2)) ?_
    refine UP.stp 2 (i1 := 11) (L1 := [some (.ref 123), u2_1, some (.int n), some (.int what), some (.int a2.2), some (.int (Int32.ofNat i2))]) (st1 := [.int n, .int (Int32.ofNat i2)]) (s1 := a2.1) rfl ?_
    refine mrg (m_cmp .ge (Int32.ofNat i2) n) a2.2 ((1103515245 * a2.2) + 12345) (fun v3 : Int32 => UP m_X7_yearsOf 19 [some (.ref 123), u2_1, some (.int n), some (.int what), some (.int a2.2), some (.int (Int32.ofNat i2))] [.int v3] a2.1 (Qb (F_yearsOf s seed n what))) (fun cc kk => ?_) (fun cc kk => ?_) (fun v3 e3 => ?_)
    · skip
      refine UP.icT rfl cc ?_
      refine UP.stp 1 (i1 := 19) (L1 := [some (.ref 123), u2_1, some (.int n), some (.int what), some (.int a2.2), some (.int (Int32.ofNat i2))]) (st1 := [.int a2.2]) (s1 := a2.1) rfl ?_
      exact kk
    · skip
      refine UP.icF rfl cc ?_
      refine UP.stp 6 (i1 := 19) (L1 := [some (.ref 123), u2_1, some (.int n), some (.int what), some (.int a2.2), some (.int (Int32.ofNat i2))]) (st1 := [.int ((1103515245 * a2.2) + 12345)]) (s1 := a2.1) rfl ?_
      exact kk
    refine UP.stp 6 (i1 := 25) (L1 := [some (.ref 123), u2_1, some (.int n), some (.int what), some (.int v3), some (.int (Int32.ofNat i2))]) (st1 := [.int n, .int (Int32.ofNat i2), .int (Int32.ofNat i2), .ref 133]) (s1 := a2.1) rfl ?_
    refine mrg (m_cmp .ge (Int32.ofNat i2) n) (2 : Int32) (((Int32.toUInt32 v3 >>> (Int32.toUInt32 16 &&& Int32.toUInt32 31)).toInt32) - ((Int32.toUInt32 v3 >>> (Int32.toUInt32 16 &&& Int32.toUInt32 31)).toInt32) / 4 * 4) (fun v4 : Int32 => UP m_X7_yearsOf 33 [some (.ref 123), u2_1, some (.int n), some (.int what), some (.int v3), some (.int (Int32.ofNat i2))] [.int v4, .int (Int32.ofNat i2), .ref 133] a2.1 (Qb (F_yearsOf s seed n what))) (fun cc kk => ?_) (fun cc kk => ?_) (fun v4 e4 => ?_)
    · skip
      refine UP.icT rfl cc ?_
      refine UP.stp 1 (i1 := 33) (L1 := [some (.ref 123), u2_1, some (.int n), some (.int what), some (.int v3), some (.int (Int32.ofNat i2))]) (st1 := [.int 2, .int (Int32.ofNat i2), .ref 133]) (s1 := a2.1) rfl ?_
      exact kk
    · skip
      refine UP.icF rfl cc ?_
      refine UP.stp 6 (i1 := 33) (L1 := [some (.ref 123), u2_1, some (.int n), some (.int what), some (.int v3), some (.int (Int32.ofNat i2))]) (st1 := [.int (((Int32.toUInt32 v3 >>> (Int32.toUInt32 16 &&& Int32.toUInt32 31)).toInt32) - ((Int32.toUInt32 v3 >>> (Int32.toUInt32 16 &&& Int32.toUInt32 31)).toInt32) / 4 * 4), .int (Int32.ofNat i2), .ref 133]) (s1 := a2.1) rfl ?_
      exact kk
    refine UP.ast (e := i2) rfl rfl (by omega) ?_
    show UP m_X7_yearsOf 34 [some (.ref 123), u2_1, some (.int n), some (.int what), some (.int v3), some (.int (Int32.ofNat i2))] [] (uset a2.1 133 i2 v4) (Qb (F_yearsOf s seed n what))
    refine UP.stp 2 (i1 := 6) (L1 := [some (.ref 123), u2_1, some (.int n), some (.int what), some (.int v3), some (.int ((Int32.ofNat i2) + 1))]) (st1 := []) (s1 := (uset a2.1 133 i2 v4)) rfl ?_
    subst e4 e3
    rw [ofn_s]
    try dsimp only [B_yearsOf_6] at kk
    exact kk _
  intro u2_1
  refine UP.stp 2 (i1 := 8) (L1 := [some (.ref 123), u2_1, some (.int n), some (.int what), some (.int z2.2), some (.int (Int32.ofNat 24))]) (st1 := [.int 24, .int (Int32.ofNat 24)]) (s1 := z2.1) rfl ?_
  refine UP.icT rfl (ge_T (24 : Int32)) ?_
  refine UP.stp 1 (i1 := 37) (L1 := [some (.ref 123), u2_1, some (.int n), some (.int what), some (.int z2.2), some (.int (Int32.ofNat 24))]) (st1 := [.ref 123]) (s1 := z2.1) rfl ?_
  refine UP.cV (M1 := m_X7_runs) (as := [.ref 123]) (rest := []) (T := F_runs z2.1 ) rfl rfl (ux_runs z2.1 ) (fun z5 e5 => ?_)
  refine UP.stp 1 (i1 := 39) (L1 := [some (.ref 123), u2_1, some (.int n), some (.int what), some (.int z2.2), some (.int (Int32.ofNat 24))]) (st1 := [.int what]) (s1 := z5) rfl ?_
  refine mrg (m_cmp .ne what 0) (z5 123 20) (z5 123 19) (fun v6 : Int32 => UP m_X7_yearsOf 45 [some (.ref 123), u2_1, some (.int n), some (.int what), some (.int z2.2), some (.int (Int32.ofNat 24))] [.int v6] z5 (Qb (F_yearsOf s seed n what))) (fun cc kk => ?_) (fun cc kk => ?_) (fun v6 e6 => ?_)
  · skip
    refine UP.ifT rfl cc ?_
    refine UP.stp 2 (i1 := 45) (L1 := [some (.ref 123), u2_1, some (.int n), some (.int what), some (.int z2.2), some (.int (Int32.ofNat 24))]) (st1 := [.int (z5 123 20)]) (s1 := z5) rfl ?_
    exact kk
  · skip
    refine UP.ifF rfl cc ?_
    refine UP.stp 3 (i1 := 45) (L1 := [some (.ref 123), u2_1, some (.int n), some (.int what), some (.int z2.2), some (.int (Int32.ofNat 24))]) (st1 := [.int (z5 123 19)]) (s1 := z5) rfl ?_
    exact kk
  exact UP.ret (r := some (.int v6)) rfl ⟨by subst e6 e5 e2 e1; first | (dsimp only [F_yearsOf]; done) | (dsimp only; done) | rfl, by subst e6 e5 e2 e1; first | (dsimp only [F_yearsOf]; done) | (dsimp only; done) | rfl⟩
end
section
def W_years : List (Nat × Nat × Option Nat) := [(126, 129, none), (133, 144, none), (147, 147, none), (123, 123, some 2), (123, 123, some 5), (123, 123, some 7), (123, 123, some 17), (123, 123, some 19), (123, 123, some 20), (123, 123, some 21), (123, 123, some 22), (123, 123, some 23), (123, 123, some 24), (123, 123, some 25), (123, 123, some 26), (123, 123, some 27)]
def F_years (s : SG) (seed : Int32) (n : Int32) (what : Int32) : Int32 × SG := let w5 := bif m_cmp .eq (F_in s n 0 24) 0 then ((-2 : Int32), s) else (bif m_cmp .eq (F_isTwo s what) 0 then ((-2 : Int32), s) else (F_yearsOf s seed n what)); w5
set_option maxRecDepth 20000 in
set_option maxHeartbeats 200000 in
theorem fr_years (s : SG) (seed : Int32) (n : Int32) (what : Int32)  : Fr W_years s (F_years s seed n what).2 := by dsimp only [F_years]; exact (Fr.bifp (b := m_cmp .eq (F_in s n 0 24) 0) (x := ((-2 : Int32), s)) (y := (bif m_cmp .eq (F_isTwo s what) 0 then ((-2 : Int32), s) else (F_yearsOf s seed n what))) (fun x : Int32 × SG => x.2) (by (try dsimp only); exact (Fr.rf _ _)) (by (try dsimp only); exact (Fr.bifp (b := m_cmp .eq (F_isTwo s what) 0) (x := ((-2 : Int32), s)) (y := (F_yearsOf s seed n what)) (fun x : Int32 × SG => x.2) (by (try dsimp only); exact (Fr.rf _ _)) (by (try dsimp only); exact (Fr.tr (s1 := s) (Fr.rf _ _) (Fr.wk (W2 := W_years) (fr_yearsOf s seed n what) (by rfl)))))))
set_option maxRecDepth 20000 in
set_option maxHeartbeats 200000 in
theorem ux_years (s : SG) (seed : Int32) (n : Int32) (what : Int32)  : UP m_X7_years 0 (m_ent 4 [.ref 123, .int seed, .int n, .int what]) [] s (Qb (F_years s seed n what)) := by
  refine UP.stp 3 (i1 := 3) (L1 := [some (.ref 123), some (.int seed), some (.int n), some (.int what)]) (st1 := [.int 24, .int 0, .int n]) (s1 := s) rfl ?_
  refine UP.cI (M1 := m_X7_in) (as := [.int n, .int 0, .int 24]) (rest := []) (T := F_in s n 0 24) rfl rfl (ux_in s n 0 24) ?_
  refine mrg (m_cmp .eq (F_in s n 0 24) 0) ((-2 : Int32), s) (bif m_cmp .eq (F_isTwo s what) 0 then ((-2 : Int32), s) else (F_yearsOf s seed n what)) (fun w5 : Int32 × SG => UP m_X7_years 15 [some (.ref 123), some (.int seed), some (.int n), some (.int what)] [.int w5.1] w5.2 (Qb (F_years s seed n what))) (fun cc kk => ?_) (fun cc kk => ?_) (fun w5 e5 => ?_)
  · skip
    refine UP.ifT rfl cc ?_
    refine UP.stp 1 (i1 := 15) (L1 := [some (.ref 123), some (.int seed), some (.int n), some (.int what)]) (st1 := [.int (-2)]) (s1 := s) rfl ?_
    exact kk
  · skip
    refine UP.ifF rfl cc ?_
    refine UP.stp 1 (i1 := 6) (L1 := [some (.ref 123), some (.int seed), some (.int n), some (.int what)]) (st1 := [.int what]) (s1 := s) rfl ?_
    refine UP.cI (M1 := m_X7_isTwo) (as := [.int what]) (rest := []) (T := F_isTwo s what) rfl rfl (ux_isTwo s what) ?_
    refine mrg (m_cmp .eq (F_isTwo s what) 0) ((-2 : Int32), s) (F_yearsOf s seed n what) (fun w4 : Int32 × SG => UP m_X7_years 15 [some (.ref 123), some (.int seed), some (.int n), some (.int what)] [.int w4.1] w4.2 (Qb (F_years s seed n what))) (fun cc kk => ?_) (fun cc kk => ?_) (fun w4 e4 => ?_)
    · skip
      refine UP.ifT rfl cc ?_
      refine UP.stp 1 (i1 := 15) (L1 := [some (.ref 123), some (.int seed), some (.int n), some (.int what)]) (st1 := [.int (-2)]) (s1 := s) rfl ?_
      exact kk
    · skip
      refine UP.ifF rfl cc ?_
      refine UP.stp 4 (i1 := 12) (L1 := [some (.ref 123), some (.int seed), some (.int n), some (.int what)]) (st1 := [.int what, .int n, .int seed, .ref 123]) (s1 := s) rfl ?_
      refine UP.cB (M1 := m_X7_yearsOf) (as := [.ref 123, .int seed, .int n, .int what]) (rest := []) (T := F_yearsOf s seed n what) rfl rfl (ux_yearsOf s seed n what) (fun z3 e3 => ?_)
      refine UP.stp 1 (i1 := 15) (L1 := [some (.ref 123), some (.int seed), some (.int n), some (.int what)]) (st1 := [.int z3.1]) (s1 := z3.2) rfl ?_
      subst e3
      exact kk
    subst e4
    exact kk
  exact UP.ret (r := some (.int w5.1)) rfl ⟨by subst e5; first | (dsimp only [F_years]; done) | (dsimp only; done) | rfl, by subst e5; first | (dsimp only [F_years]; done) | (dsimp only; done) | rfl⟩
end
section
def W_swapOf : List (Nat × Nat × Option Nat) := [(126, 129, none), (133, 144, none), (147, 147, none), (123, 123, some 2), (123, 123, some 5), (123, 123, some 7), (123, 123, some 17), (123, 123, some 19), (123, 123, some 20), (123, 123, some 21), (123, 123, some 22), (123, 123, some 23), (123, 123, some 24), (123, 123, some 25), (123, 123, some 26), (123, 123, some 27)]
def WL_swapOf : List (Nat × Nat × Option Nat) := [(133, 144, none), (147, 147, none), (123, 123, some 17), (123, 123, some 19), (123, 123, some 20), (123, 123, some 21), (123, 123, some 22), (123, 123, some 23), (123, 123, some 24), (123, 123, some 25), (123, 123, some 26), (123, 123, some 27)]
def B_swapOf_16 (i2 : Nat) (i3 : Nat) (a3 : SG × Int32 × Int32) : SG × Int32 × Int32 := let z4 := F_runs (uset (uset a3.1 135 i2 (Int32.ofNat i3)) 135 i3 (Int32.ofNat i2)) ; let v5 := bif m_cmp .le (z4 123 19) a3.2.2 then a3.2.1 else (8 * (Int32.ofNat i2)) + (Int32.ofNat i3); let v6 := bif m_cmp .le (z4 123 19) a3.2.2 then a3.2.2 else z4 123 19; ((uset (uset z4 135 i2 (Int32.ofNat i2)) 135 i3 (Int32.ofNat i3)), v5, v6)
set_option maxRecDepth 20000 in
set_option maxHeartbeats 200000 in
theorem fr_B_swapOf_16 (i2 : Nat) (i3 : Nat) (a3 : SG × Int32 × Int32)   : Fr WL_swapOf a3.1 ((B_swapOf_16 i2) i3 a3).1 := by dsimp only [B_swapOf_16]; exact (let z4 : SG := F_runs (uset (uset a3.1 135 i2 (Int32.ofNat i3)) 135 i3 (Int32.ofNat i2)) ; (Fr.uset (s1 := (uset z4 135 i2 (Int32.ofNat i2))) (a := 135) (j := i3) (x := Int32.ofNat i3) (by rfl) (Fr.uset (s1 := z4) (a := 135) (j := i2) (x := Int32.ofNat i2) (by rfl) (Fr.tr (s1 := (uset (uset a3.1 135 i2 (Int32.ofNat i3)) 135 i3 (Int32.ofNat i2))) (Fr.uset (s1 := (uset a3.1 135 i2 (Int32.ofNat i3))) (a := 135) (j := i3) (x := Int32.ofNat i2) (by rfl) (Fr.uset (s1 := a3.1) (a := 135) (j := i2) (x := Int32.ofNat i3) (by rfl) (Fr.rf _ _))) (Fr.wk (W2 := WL_swapOf) (fr_runs (uset (uset a3.1 135 i2 (Int32.ofNat i3)) 135 i3 (Int32.ofNat i2)) ) (by rfl))))))
def B_swapOf_8  (i2 : Nat) (a2 : SG × Int32 × Int32) : SG × Int32 × Int32 := let z3 := itr (B_swapOf_16 i2) (i2 + 1) ((a2.1 123 2).toNatClampNeg - (i2 + 1)) (a2.1, a2.2.1, a2.2.2); (z3.1, z3.2.1, z3.2.2)
set_option maxRecDepth 20000 in
set_option maxHeartbeats 200000 in
theorem fr_B_swapOf_8  (i2 : Nat) (a2 : SG × Int32 × Int32)   : Fr WL_swapOf a2.1 ((B_swapOf_8) i2 a2).1 := by dsimp only [B_swapOf_8]; exact (Fr.itr (W := WL_swapOf) (m := (fun x : SG × Int32 × Int32 => x.1)) (f := (B_swapOf_16 i2)) (fun ii aa => Fr.wk (W2 := WL_swapOf) (fr_B_swapOf_16 i2 ii aa ) (by rfl)) ((a2.1 123 2).toNatClampNeg - (i2 + 1)) (i2 + 1) (a2.1, a2.2.1, a2.2.2) (Fr.rf _ _))
def F_swapOf (s : SG) (what : Int32) : Int32 × SG := let z1 := F_asTold s ; let z2 := itr (B_swapOf_8) 0 ((z1 123 2).toNatClampNeg) (z1, (-1), (-1)); let v9 := bif m_cmp .ne z2.2.1 (-1) then (bif m_cmp .ne what 0 then (bif m_cmp .ne what 1 then z2.2.2 else z2.2.1 - z2.2.1 / 8 * 8) else z2.2.1 / 8) else (-1 : Int32); (v9, z2.1)
set_option maxRecDepth 20000 in
set_option maxHeartbeats 200000 in
theorem fr_swapOf (s : SG) (what : Int32)  : Fr W_swapOf s (F_swapOf s what).2 := by dsimp only [F_swapOf]; exact (let z1 : SG := F_asTold s ; (Fr.itr (W := W_swapOf) (m := (fun x : SG × Int32 × Int32 => x.1)) (f := (B_swapOf_8)) (fun ii aa => Fr.wk (W2 := W_swapOf) (fr_B_swapOf_8  ii aa ) (by rfl)) ((z1 123 2).toNatClampNeg) 0 (z1, (-1), (-1)) (Fr.tr (s1 := s) (Fr.rf _ _) (Fr.wk (W2 := W_swapOf) (fr_asTold s ) (by rfl)))))
set_option maxRecDepth 20000 in
set_option maxHeartbeats 200000 in
theorem ux_swapOf (s : SG) (what : Int32)  : UP m_X7_swapOf 0 (m_ent 6 [.ref 123, .int what]) [] s (Qb (F_swapOf s what)) := by
  refine UP.stp 1 (i1 := 1) (L1 := [some (.ref 123), some (.int what), none, none, none, none]) (st1 := [.ref 123]) (s1 := s) rfl ?_
  refine UP.cV (M1 := m_X7_asTold) (as := [.ref 123]) (rest := []) (T := F_asTold s ) rfl rfl (ux_asTold s ) (fun z1 e1 => ?_)
  refine UP.stp 6 (i1 := 8) (L1 := [some (.ref 123), some (.int what), some (.int (-1)), some (.int (-1)), some (.int 0), none]) (st1 := []) (s1 := z1) rfl ?_
  refine lp (fun (i2 : Nat) (a2 : SG × Int32 × Int32) => ∀ (u2_5 : Option Value), UP m_X7_swapOf 8 [some (.ref 123), some (.int what), some (.int a2.2.1), some (.int a2.2.2), some (.int (Int32.ofNat i2)), u2_5] [] a2.1 (Qb (F_swapOf s what))) (fun (_ : Nat) (a2 : SG × Int32 × Int32) => Fr WL_swapOf z1 a2.1) (B_swapOf_8) ((z1 123 2).toNatClampNeg) (fun i2 a2 hi2 g2 => g2.tr (fr_B_swapOf_8  i2 a2 )) (fun i2 a2 hi2 g2 kk => ?_) ((z1 123 2).toNatClampNeg) (0) (z1, (-1), (-1)) (by  omega) (Fr.rf _ _) (fun z2 e2 g2 => ?_) none
  · skip
    intro u2_5
    have hbi2 := cl_lt (z1 123 2)
    refine UP.stp 3 (i1 := 11) (L1 := [some (.ref 123), some (.int what), some (.int a2.2.1), some (.int a2.2.2), some (.int (Int32.ofNat i2)), u2_5]) (st1 := [.int (a2.1 123 2), .int (Int32.ofNat i2)]) (s1 := a2.1) rfl ?_
    refine UP.icF rfl (by rw [(g2 123 2 rfl)]; exact ge_F hi2) ?_
    refine UP.stp 4 (i1 := 16) (L1 := [some (.ref 123), some (.int what), some (.int a2.2.1), some (.int a2.2.2), some (.int (Int32.ofNat i2)), some (.int ((Int32.ofNat i2) + 1))]) (st1 := []) (s1 := a2.1) rfl ?_
    rw [show (Int32.ofNat i2) + 1 = Int32.ofNat (i2 + 1) from (ofn_add rfl rfl)]
    refine lp (fun (i3 : Nat) (a3 : SG × Int32 × Int32) => UP m_X7_swapOf 16 [some (.ref 123), some (.int what), some (.int a3.2.1), some (.int a3.2.2), some (.int (Int32.ofNat i2)), some (.int (Int32.ofNat i3))] [] a3.1 (Qb (F_swapOf s what))) (fun (_ : Nat) (a3 : SG × Int32 × Int32) => Fr WL_swapOf a2.1 a3.1) (B_swapOf_16 i2) ((a2.1 123 2).toNatClampNeg) (fun i3 a3 hi3 g3 => g3.tr (fr_B_swapOf_16 i2 i3 a3 )) (fun i3 a3 hi3 g3 kk => ?_) ((a2.1 123 2).toNatClampNeg - (i2 + 1)) (i2 + 1) (a2.1, a2.2.1, a2.2.2) (by rw [g2 123 2 rfl]; omega) (Fr.rf _ _) (fun z3 e3 g3 => ?_)
    · skip
      have hbi3 := cl_lt (a2.1 123 2)
      refine UP.stp 3 (i1 := 19) (L1 := [some (.ref 123), some (.int what), some (.int a3.2.1), some (.int a3.2.2), some (.int (Int32.ofNat i2)), some (.int (Int32.ofNat i3))]) (st1 := [.int (a3.1 123 2), .int (Int32.ofNat i3)]) (s1 := a3.1) rfl ?_
      refine UP.icF rfl (by rw [(g3 123 2 rfl)]; exact ge_F hi3) ?_
      refine UP.stp 4 (i1 := 24) (L1 := [some (.ref 123), some (.int what), some (.int a3.2.1), some (.int a3.2.2), some (.int (Int32.ofNat i2)), some (.int (Int32.ofNat i3))]) (st1 := [.int (Int32.ofNat i3), .int (Int32.ofNat i2), .ref 135]) (s1 := a3.1) rfl ?_
      refine UP.ast (e := i2) rfl rfl (by omega) ?_
      show UP m_X7_swapOf 25 [some (.ref 123), some (.int what), some (.int a3.2.1), some (.int a3.2.2), some (.int (Int32.ofNat i2)), some (.int (Int32.ofNat i3))] [] (uset a3.1 135 i2 (Int32.ofNat i3)) (Qb (F_swapOf s what))
      refine UP.stp 4 (i1 := 29) (L1 := [some (.ref 123), some (.int what), some (.int a3.2.1), some (.int a3.2.2), some (.int (Int32.ofNat i2)), some (.int (Int32.ofNat i3))]) (st1 := [.int (Int32.ofNat i2), .int (Int32.ofNat i3), .ref 135]) (s1 := (uset a3.1 135 i2 (Int32.ofNat i3))) rfl ?_
      refine UP.ast (e := i3) rfl rfl (by omega) ?_
      show UP m_X7_swapOf 30 [some (.ref 123), some (.int what), some (.int a3.2.1), some (.int a3.2.2), some (.int (Int32.ofNat i2)), some (.int (Int32.ofNat i3))] [] (uset (uset a3.1 135 i2 (Int32.ofNat i3)) 135 i3 (Int32.ofNat i2)) (Qb (F_swapOf s what))
      refine UP.stp 1 (i1 := 31) (L1 := [some (.ref 123), some (.int what), some (.int a3.2.1), some (.int a3.2.2), some (.int (Int32.ofNat i2)), some (.int (Int32.ofNat i3))]) (st1 := [.ref 123]) (s1 := (uset (uset a3.1 135 i2 (Int32.ofNat i3)) 135 i3 (Int32.ofNat i2))) rfl ?_
      refine UP.cV (M1 := m_X7_runs) (as := [.ref 123]) (rest := []) (T := F_runs (uset (uset a3.1 135 i2 (Int32.ofNat i3)) 135 i3 (Int32.ofNat i2)) ) rfl rfl (ux_runs (uset (uset a3.1 135 i2 (Int32.ofNat i3)) 135 i3 (Int32.ofNat i2)) ) (fun z4 e4 => ?_)
      refine UP.stp 4 (i1 := 36) (L1 := [some (.ref 123), some (.int what), some (.int a3.2.1), some (.int a3.2.2), some (.int (Int32.ofNat i2)), some (.int (Int32.ofNat i3))]) (st1 := [.int (Int32.ofNat i2), .int (Int32.ofNat i2), .ref 135]) (s1 := z4) rfl ?_
      refine UP.ast (e := i2) rfl rfl (by omega) ?_
      show UP m_X7_swapOf 37 [some (.ref 123), some (.int what), some (.int a3.2.1), some (.int a3.2.2), some (.int (Int32.ofNat i2)), some (.int (Int32.ofNat i3))] [] (uset z4 135 i2 (Int32.ofNat i2)) (Qb (F_swapOf s what))
      refine UP.stp 4 (i1 := 41) (L1 := [some (.ref 123), some (.int what), some (.int a3.2.1), some (.int a3.2.2), some (.int (Int32.ofNat i2)), some (.int (Int32.ofNat i3))]) (st1 := [.int (Int32.ofNat i3), .int (Int32.ofNat i3), .ref 135]) (s1 := (uset z4 135 i2 (Int32.ofNat i2))) rfl ?_
      refine UP.ast (e := i3) rfl rfl (by omega) ?_
      show UP m_X7_swapOf 42 [some (.ref 123), some (.int what), some (.int a3.2.1), some (.int a3.2.2), some (.int (Int32.ofNat i2)), some (.int (Int32.ofNat i3))] [] (uset (uset z4 135 i2 (Int32.ofNat i2)) 135 i3 (Int32.ofNat i3)) (Qb (F_swapOf s what))
      refine UP.stp 3 (i1 := 45) (L1 := [some (.ref 123), some (.int what), some (.int a3.2.1), some (.int a3.2.2), some (.int (Int32.ofNat i2)), some (.int (Int32.ofNat i3))]) (st1 := [.int a3.2.2, .int (z4 123 19)]) (s1 := (uset (uset z4 135 i2 (Int32.ofNat i2)) 135 i3 (Int32.ofNat i3))) rfl ?_
      refine mrg (m_cmp .le (z4 123 19) a3.2.2) a3.2.1 ((8 * (Int32.ofNat i2)) + (Int32.ofNat i3)) (fun v5 : Int32 => UP m_X7_swapOf 53 [some (.ref 123), some (.int what), some (.int a3.2.1), some (.int a3.2.2), some (.int (Int32.ofNat i2)), some (.int (Int32.ofNat i3))] [.int v5] (uset (uset z4 135 i2 (Int32.ofNat i2)) 135 i3 (Int32.ofNat i3)) (Qb (F_swapOf s what))) (fun cc kk => ?_) (fun cc kk => ?_) (fun v5 e5 => ?_)
      · skip
        refine UP.icT rfl cc ?_
        refine UP.stp 1 (i1 := 53) (L1 := [some (.ref 123), some (.int what), some (.int a3.2.1), some (.int a3.2.2), some (.int (Int32.ofNat i2)), some (.int (Int32.ofNat i3))]) (st1 := [.int a3.2.1]) (s1 := (uset (uset z4 135 i2 (Int32.ofNat i2)) 135 i3 (Int32.ofNat i3))) rfl ?_
        exact kk
      · skip
        refine UP.icF rfl cc ?_
        refine UP.stp 6 (i1 := 53) (L1 := [some (.ref 123), some (.int what), some (.int a3.2.1), some (.int a3.2.2), some (.int (Int32.ofNat i2)), some (.int (Int32.ofNat i3))]) (st1 := [.int ((8 * (Int32.ofNat i2)) + (Int32.ofNat i3))]) (s1 := (uset (uset z4 135 i2 (Int32.ofNat i2)) 135 i3 (Int32.ofNat i3))) rfl ?_
        exact kk
      refine UP.stp 4 (i1 := 57) (L1 := [some (.ref 123), some (.int what), some (.int v5), some (.int a3.2.2), some (.int (Int32.ofNat i2)), some (.int (Int32.ofNat i3))]) (st1 := [.int a3.2.2, .int (z4 123 19)]) (s1 := (uset (uset z4 135 i2 (Int32.ofNat i2)) 135 i3 (Int32.ofNat i3))) rfl ?_
      refine mrg (m_cmp .le (z4 123 19) a3.2.2) a3.2.2 (z4 123 19) (fun v6 : Int32 => UP m_X7_swapOf 62 [some (.ref 123), some (.int what), some (.int v5), some (.int a3.2.2), some (.int (Int32.ofNat i2)), some (.int (Int32.ofNat i3))] [.int v6] (uset (uset z4 135 i2 (Int32.ofNat i2)) 135 i3 (Int32.ofNat i3)) (Qb (F_swapOf s what))) (fun cc kk => ?_) (fun cc kk => ?_) (fun v6 e6 => ?_)
      · skip
        refine UP.icT rfl cc ?_
        refine UP.stp 1 (i1 := 62) (L1 := [some (.ref 123), some (.int what), some (.int v5), some (.int a3.2.2), some (.int (Int32.ofNat i2)), some (.int (Int32.ofNat i3))]) (st1 := [.int a3.2.2]) (s1 := (uset (uset z4 135 i2 (Int32.ofNat i2)) 135 i3 (Int32.ofNat i3))) rfl ?_
        exact kk
      · skip
        refine UP.icF rfl cc ?_
        refine UP.stp 3 (i1 := 62) (L1 := [some (.ref 123), some (.int what), some (.int v5), some (.int a3.2.2), some (.int (Int32.ofNat i2)), some (.int (Int32.ofNat i3))]) (st1 := [.int (z4 123 19)]) (s1 := (uset (uset z4 135 i2 (Int32.ofNat i2)) 135 i3 (Int32.ofNat i3))) rfl ?_
        exact kk
      refine UP.stp 3 (i1 := 16) (L1 := [some (.ref 123), some (.int what), some (.int v5), some (.int v6), some (.int (Int32.ofNat i2)), some (.int ((Int32.ofNat i3) + 1))]) (st1 := []) (s1 := (uset (uset z4 135 i2 (Int32.ofNat i2)) 135 i3 (Int32.ofNat i3))) rfl ?_
      subst e6 e5 e4
      rw [ofn_s]
      try dsimp only [B_swapOf_16] at kk
      exact kk
    refine UP.stp 3 (i1 := 19) (L1 := [some (.ref 123), some (.int what), some (.int z3.2.1), some (.int z3.2.2), some (.int (Int32.ofNat i2)), some (.int (Int32.ofNat ((a2.1 123 2).toNatClampNeg)))]) (st1 := [.int (z3.1 123 2), .int (Int32.ofNat ((a2.1 123 2).toNatClampNeg))]) (s1 := z3.1) rfl ?_
    refine UP.icT rfl (by rw [(g3 123 2 rfl)]; exact ge_T _) ?_
    refine UP.stp 2 (i1 := 8) (L1 := [some (.ref 123), some (.int what), some (.int z3.2.1), some (.int z3.2.2), some (.int ((Int32.ofNat i2) + 1)), some (.int (Int32.ofNat ((a2.1 123 2).toNatClampNeg)))]) (st1 := []) (s1 := z3.1) rfl ?_
    subst e3
    rw [ofn_s]
    try dsimp only [B_swapOf_8] at kk
    exact kk _
  intro u2_5
  refine UP.stp 3 (i1 := 11) (L1 := [some (.ref 123), some (.int what), some (.int z2.2.1), some (.int z2.2.2), some (.int (Int32.ofNat ((z1 123 2).toNatClampNeg))), u2_5]) (st1 := [.int (z2.1 123 2), .int (Int32.ofNat ((z1 123 2).toNatClampNeg))]) (s1 := z2.1) rfl ?_
  refine UP.icT rfl (by rw [(g2 123 2 rfl)]; exact ge_T _) ?_
  refine UP.stp 2 (i1 := 69) (L1 := [some (.ref 123), some (.int what), some (.int z2.2.1), some (.int z2.2.2), some (.int (Int32.ofNat ((z1 123 2).toNatClampNeg))), u2_5]) (st1 := [.int (-1), .int z2.2.1]) (s1 := z2.1) rfl ?_
  refine mrg (m_cmp .ne z2.2.1 (-1)) (bif m_cmp .ne what 0 then (bif m_cmp .ne what 1 then z2.2.2 else z2.2.1 - z2.2.1 / 8 * 8) else z2.2.1 / 8) (-1 : Int32) (fun v9 : Int32 => UP m_X7_swapOf 86 [some (.ref 123), some (.int what), some (.int z2.2.1), some (.int z2.2.2), some (.int (Int32.ofNat ((z1 123 2).toNatClampNeg))), u2_5] [.int v9] z2.1 (Qb (F_swapOf s what))) (fun cc kk => ?_) (fun cc kk => ?_) (fun v9 e9 => ?_)
  · skip
    refine UP.icT rfl cc ?_
    refine UP.stp 1 (i1 := 73) (L1 := [some (.ref 123), some (.int what), some (.int z2.2.1), some (.int z2.2.2), some (.int (Int32.ofNat ((z1 123 2).toNatClampNeg))), u2_5]) (st1 := [.int what]) (s1 := z2.1) rfl ?_
    refine mrg (m_cmp .ne what 0) (bif m_cmp .ne what 1 then z2.2.2 else z2.2.1 - z2.2.1 / 8 * 8) (z2.2.1 / 8) (fun v8 : Int32 => UP m_X7_swapOf 86 [some (.ref 123), some (.int what), some (.int z2.2.1), some (.int z2.2.2), some (.int (Int32.ofNat ((z1 123 2).toNatClampNeg))), u2_5] [.int v8] z2.1 (Qb (F_swapOf s what))) (fun cc kk => ?_) (fun cc kk => ?_) (fun v8 e8 => ?_)
    · skip
      refine UP.ifT rfl cc ?_
      refine UP.stp 2 (i1 := 80) (L1 := [some (.ref 123), some (.int what), some (.int z2.2.1), some (.int z2.2.2), some (.int (Int32.ofNat ((z1 123 2).toNatClampNeg))), u2_5]) (st1 := [.int 1, .int what]) (s1 := z2.1) rfl ?_
      refine mrg (m_cmp .ne what 1) z2.2.2 (z2.2.1 - z2.2.1 / 8 * 8) (fun v7 : Int32 => UP m_X7_swapOf 86 [some (.ref 123), some (.int what), some (.int z2.2.1), some (.int z2.2.2), some (.int (Int32.ofNat ((z1 123 2).toNatClampNeg))), u2_5] [.int v7] z2.1 (Qb (F_swapOf s what))) (fun cc kk => ?_) (fun cc kk => ?_) (fun v7 e7 => ?_)
      · skip
        refine UP.icT rfl cc ?_
        refine UP.stp 1 (i1 := 86) (L1 := [some (.ref 123), some (.int what), some (.int z2.2.1), some (.int z2.2.2), some (.int (Int32.ofNat ((z1 123 2).toNatClampNeg))), u2_5]) (st1 := [.int z2.2.2]) (s1 := z2.1) rfl ?_
        exact kk
      · skip
        refine UP.icF rfl cc ?_
        refine UP.stp 4 (i1 := 86) (L1 := [some (.ref 123), some (.int what), some (.int z2.2.1), some (.int z2.2.2), some (.int (Int32.ofNat ((z1 123 2).toNatClampNeg))), u2_5]) (st1 := [.int (z2.2.1 - z2.2.1 / 8 * 8)]) (s1 := z2.1) rfl ?_
        exact kk
      subst e7
      exact kk
    · skip
      refine UP.ifF rfl cc ?_
      refine UP.stp 4 (i1 := 86) (L1 := [some (.ref 123), some (.int what), some (.int z2.2.1), some (.int z2.2.2), some (.int (Int32.ofNat ((z1 123 2).toNatClampNeg))), u2_5]) (st1 := [.int (z2.2.1 / 8)]) (s1 := z2.1) rfl ?_
      exact kk
    subst e8
    exact kk
  · skip
    refine UP.icF rfl cc ?_
    refine UP.stp 2 (i1 := 86) (L1 := [some (.ref 123), some (.int what), some (.int z2.2.1), some (.int z2.2.2), some (.int (Int32.ofNat ((z1 123 2).toNatClampNeg))), u2_5]) (st1 := [.int (-1)]) (s1 := z2.1) rfl ?_
    exact kk
  exact UP.ret (r := some (.int v9)) rfl ⟨by subst e9 e2 e1; first | (dsimp only [F_swapOf]; done) | (dsimp only; done) | rfl, by subst e9 e2 e1; first | (dsimp only [F_swapOf]; done) | (dsimp only; done) | rfl⟩
end
section
def W_swap : List (Nat × Nat × Option Nat) := [(126, 129, none), (133, 144, none), (147, 147, none), (123, 123, some 2), (123, 123, some 5), (123, 123, some 7), (123, 123, some 17), (123, 123, some 19), (123, 123, some 20), (123, 123, some 21), (123, 123, some 22), (123, 123, some 23), (123, 123, some 24), (123, 123, some 25), (123, 123, some 26), (123, 123, some 27)]
def F_swap (s : SG) (what : Int32) : Int32 × SG := let w3 := bif m_cmp .eq (F_isThree s what) 0 then ((-2 : Int32), s) else (F_swapOf s what); w3
set_option maxRecDepth 20000 in
set_option maxHeartbeats 200000 in
theorem fr_swap (s : SG) (what : Int32)  : Fr W_swap s (F_swap s what).2 := by dsimp only [F_swap]; exact (Fr.bifp (b := m_cmp .eq (F_isThree s what) 0) (x := ((-2 : Int32), s)) (y := (F_swapOf s what)) (fun x : Int32 × SG => x.2) (by (try dsimp only); exact (Fr.rf _ _)) (by (try dsimp only); exact (Fr.tr (s1 := s) (Fr.rf _ _) (Fr.wk (W2 := W_swap) (fr_swapOf s what) (by rfl)))))
set_option maxRecDepth 20000 in
set_option maxHeartbeats 200000 in
theorem ux_swap (s : SG) (what : Int32)  : UP m_X7_swap 0 (m_ent 2 [.ref 123, .int what]) [] s (Qb (F_swap s what)) := by
  refine UP.stp 1 (i1 := 1) (L1 := [some (.ref 123), some (.int what)]) (st1 := [.int what]) (s1 := s) rfl ?_
  refine UP.cI (M1 := m_X7_isThree) (as := [.int what]) (rest := []) (T := F_isThree s what) rfl rfl (ux_isThree s what) ?_
  refine mrg (m_cmp .eq (F_isThree s what) 0) ((-2 : Int32), s) (F_swapOf s what) (fun w3 : Int32 × SG => UP m_X7_swap 8 [some (.ref 123), some (.int what)] [.int w3.1] w3.2 (Qb (F_swap s what))) (fun cc kk => ?_) (fun cc kk => ?_) (fun w3 e3 => ?_)
  · skip
    refine UP.ifT rfl cc ?_
    refine UP.stp 1 (i1 := 8) (L1 := [some (.ref 123), some (.int what)]) (st1 := [.int (-2)]) (s1 := s) rfl ?_
    exact kk
  · skip
    refine UP.ifF rfl cc ?_
    refine UP.stp 2 (i1 := 5) (L1 := [some (.ref 123), some (.int what)]) (st1 := [.int what, .ref 123]) (s1 := s) rfl ?_
    refine UP.cB (M1 := m_X7_swapOf) (as := [.ref 123, .int what]) (rest := []) (T := F_swapOf s what) rfl rfl (ux_swapOf s what) (fun z2 e2 => ?_)
    refine UP.stp 1 (i1 := 8) (L1 := [some (.ref 123), some (.int what)]) (st1 := [.int z2.1]) (s1 := z2.2) rfl ?_
    subst e2
    exact kk
  exact UP.ret (r := some (.int w3.1)) rfl ⟨by subst e3; first | (dsimp only [F_swap]; done) | (dsimp only; done) | rfl, by subst e3; first | (dsimp only [F_swap]; done) | (dsimp only; done) | rfl⟩
def W_isSeen : List (Nat × Nat × Option Nat) := [(133, 144, none), (147, 147, none), (123, 123, some 17), (123, 123, some 19), (123, 123, some 20), (123, 123, some 21), (123, 123, some 22), (123, 123, some 23), (123, 123, some 24), (123, 123, some 25), (123, 123, some 26), (123, 123, some 27)]
def B_isSeen_6 (z1 : SG) (i2 : Nat) (a2 : Int32) : (Int32) ⊕ (Int32) := bif m_cmp .eq a2 0 then (.inr a2) else (let v3 := bif m_cmp .ne (z1 140 ((z1 145 i2).toNatClampNeg)) (z1 146 i2) then (0 : Int32) else (1 : Int32); .inl v3)
def F_isSeen (s : SG)  : Int32 × SG := let z1 := F_runs s ; Sum.elim (fun z2 : Int32 => (z2, z1)) (fun w2 : Nat × (Int32) => (w2.2, z1)) (itx (B_isSeen_6 z1) 0 ((z1 123 37).toNatClampNeg) (1 : Int32))
set_option maxRecDepth 20000 in
set_option maxHeartbeats 200000 in
theorem fr_isSeen (s : SG)   : Fr W_isSeen s (F_isSeen s).2 := by dsimp only [F_isSeen]; exact (frElim (m := (fun x : Int32 × SG => x.2)) (fun z2 h => (Fr.tr (s1 := s) (Fr.rf _ _) (Fr.wk (W2 := W_isSeen) (fr_runs s ) (by rfl)))) (fun w2 h => (Fr.tr (s1 := s) (Fr.rf _ _) (Fr.wk (W2 := W_isSeen) (fr_runs s ) (by rfl)))))
set_option maxRecDepth 20000 in
set_option maxHeartbeats 200000 in
theorem ux_isSeen (s : SG)   : UP m_X7_isSeen 0 (m_ent 3 [.ref 123]) [] s (Qb (F_isSeen s)) := by
  refine UP.stp 1 (i1 := 1) (L1 := [some (.ref 123), none, none]) (st1 := [.ref 123]) (s1 := s) rfl ?_
  refine UP.cV (M1 := m_X7_runs) (as := [.ref 123]) (rest := []) (T := F_runs s ) rfl rfl (ux_runs s ) (fun z1 e1 => ?_)
  refine UP.stp 4 (i1 := 6) (L1 := [some (.ref 123), some (.int 1), some (.int 0)]) (st1 := []) (s1 := z1) rfl ?_
  refine lpx (fun (i2 : Nat) (a2 : Int32) => UP m_X7_isSeen 6 [some (.ref 123), some (.int a2), some (.int (Int32.ofNat i2))] [] z1 (Qb (F_isSeen s))) (fun (i2 : Nat) (b2 : Int32) => ∀ (u2_0 : Option Value) (u2_2 : Option Value), UP m_X7_isSeen 30 [u2_0, some (.int b2), u2_2] [] z1 (Qb (F_isSeen s))) (fun (_ : Nat) (a2 : Int32) => Fr W_isSeen z1 z1) (B_isSeen_6 z1) ((z1 123 37).toNatClampNeg) (fun i2 a2 x2 hi2 g2 e => g2) (fun i2 a2 hi2 g2 kk => ?_) ((z1 123 37).toNatClampNeg) (0) (1 : Int32) (by omega) (Fr.rf _ _) (fun z2 e2 g2 => ?_) (fun i2 a2 b2 e2 hi2 g2 f2 => ?_)
  · skip
    have hbi2 := cl_lt (z1 123 37)
    refine UP.stp 3 (i1 := 9) (L1 := [some (.ref 123), some (.int a2), some (.int (Int32.ofNat i2))]) (st1 := [.int (z1 123 37), .int (Int32.ofNat i2)]) (s1 := z1) rfl ?_
    refine UP.icF rfl (ge_F hi2) ?_
    refine UP.stp 1 (i1 := 11) (L1 := [some (.ref 123), some (.int a2), some (.int (Int32.ofNat i2))]) (st1 := [.int a2]) (s1 := z1) rfl ?_
    refine brk (K := (Kx (fun (i2 : Nat) (a2 : Int32) => UP m_X7_isSeen 6 [some (.ref 123), some (.int a2), some (.int (Int32.ofNat i2))] [] z1 (Qb (F_isSeen s))) (fun (i2 : Nat) (b2 : Int32) => ∀ (u2_0 : Option Value) (u2_2 : Option Value), UP m_X7_isSeen 30 [u2_0, some (.int b2), u2_2] [] z1 (Qb (F_isSeen s))) i2)) (m_cmp .eq a2 0) (.inr a2) (let v3 := bif m_cmp .ne (z1 140 ((z1 145 i2).toNatClampNeg)) (z1 146 i2) then (0 : Int32) else (1 : Int32); .inl v3) (by (try dsimp only [B_isSeen_6] at kk ⊢); exact kk) (fun cc kk => ?_) (fun cc kk => ?_)
    · skip
      refine UP.ifT rfl cc ?_
      exact kk _ _
    · skip
      refine UP.ifF rfl cc ?_
      refine UP.stp 5 (i1 := 17) (L1 := [some (.ref 123), some (.int a2), some (.int (Int32.ofNat i2))]) (st1 := [.int (Int32.ofNat i2), .ref 145, .ref 140]) (s1 := z1) rfl ?_
      refine UP.ald (e := i2) rfl rfl (by omega) ?_
      show UP m_X7_isSeen 18 [some (.ref 123), some (.int a2), some (.int (Int32.ofNat i2))] [.int (z1 145 i2), .ref 140] z1 (Qb (F_isSeen s))
      refine UP.stp 4 (i1 := 22) (L1 := [some (.ref 123), some (.int a2), some (.int (Int32.ofNat i2))]) (st1 := [.int (Int32.ofNat i2), .ref 146, .int (z1 140 ((z1 145 i2).toNatClampNeg))]) (s1 := z1) rfl ?_
      refine UP.ald (e := i2) rfl rfl (by omega) ?_
      show UP m_X7_isSeen 23 [some (.ref 123), some (.int a2), some (.int (Int32.ofNat i2))] [.int (z1 146 i2), .int (z1 140 ((z1 145 i2).toNatClampNeg))] z1 (Qb (F_isSeen s))
      refine mrg (m_cmp .ne (z1 140 ((z1 145 i2).toNatClampNeg)) (z1 146 i2)) (0 : Int32) (1 : Int32) (fun v3 : Int32 => UP m_X7_isSeen 27 [some (.ref 123), some (.int a2), some (.int (Int32.ofNat i2))] [.int v3] z1 (Qb (F_isSeen s))) (fun cc kk => ?_) (fun cc kk => ?_) (fun v3 e3 => ?_)
      · skip
        refine UP.icT rfl cc ?_
        refine UP.stp 1 (i1 := 27) (L1 := [some (.ref 123), some (.int a2), some (.int (Int32.ofNat i2))]) (st1 := [.int 0]) (s1 := z1) rfl ?_
        exact kk
      · skip
        refine UP.icF rfl cc ?_
        refine UP.stp 2 (i1 := 27) (L1 := [some (.ref 123), some (.int a2), some (.int (Int32.ofNat i2))]) (st1 := [.int 1]) (s1 := z1) rfl ?_
        exact kk
      refine UP.stp 3 (i1 := 6) (L1 := [some (.ref 123), some (.int v3), some (.int ((Int32.ofNat i2) + 1))]) (st1 := []) (s1 := z1) rfl ?_
      subst e3
      rw [ofn_s]
      exact kk
  · skip
    refine UP.eqT ((z2, z1)) (by have q : (F_isSeen s) = Sum.elim (fun z2 : Int32 => (z2, z1)) (fun w2 : Nat × (Int32) => (w2.2, z1)) (itx (B_isSeen_6 z1) 0 ((z1 123 37).toNatClampNeg) (1 : Int32)) := (by subst e1; first | (dsimp only [F_isSeen]; done) | (dsimp only; done) | rfl); rw [q, e2]; first | (dsimp only [Sum.elim_inl]; done) | rfl) ?_
    refine UP.stp 3 (i1 := 9) (L1 := [some (.ref 123), some (.int z2), some (.int (Int32.ofNat ((z1 123 37).toNatClampNeg)))]) (st1 := [.int (z1 123 37), .int (Int32.ofNat ((z1 123 37).toNatClampNeg))]) (s1 := z1) rfl ?_
    refine UP.icT rfl (ge_T _) ?_
    refine UP.stp 1 (i1 := 31) (L1 := [some (.ref 123), some (.int z2), some (.int (Int32.ofNat ((z1 123 37).toNatClampNeg)))]) (st1 := [.int z2]) (s1 := z1) rfl ?_
    exact UP.ret (r := some (.int z2)) rfl ⟨by subst e1; first | (dsimp only [F_isSeen]; done) | (dsimp only; done) | rfl, by subst e1; first | (dsimp only [F_isSeen]; done) | (dsimp only; done) | rfl⟩
  · skip
    intro u2_0 u2_2
    refine UP.eqT ((b2, z1)) (by have q : (F_isSeen s) = Sum.elim (fun z2 : Int32 => (z2, z1)) (fun w2 : Nat × (Int32) => (w2.2, z1)) (itx (B_isSeen_6 z1) 0 ((z1 123 37).toNatClampNeg) (1 : Int32)) := (by subst e1; first | (dsimp only [F_isSeen]; done) | (dsimp only; done) | rfl); rw [q, e2]; first | (dsimp only [Sum.elim_inr]; done) | rfl) ?_
    refine UP.stp 1 (i1 := 31) (L1 := [u2_0, some (.int b2), u2_2]) (st1 := [.int b2]) (s1 := z1) rfl ?_
    exact UP.ret (r := some (.int b2)) rfl ⟨by subst e1; first | (dsimp only [F_isSeen]; done) | (dsimp only; done) | rfl, by subst e1; first | (dsimp only [F_isSeen]; done) | (dsimp only; done) | rfl⟩
end
section
def W_neverNow : List (Nat × Nat × Option Nat) := [(126, 129, none), (133, 144, none), (147, 147, none), (123, 123, some 2), (123, 123, some 5), (123, 123, some 7), (123, 123, some 17), (123, 123, some 19), (123, 123, some 20), (123, 123, some 21), (123, 123, some 22), (123, 123, some 23), (123, 123, some 24), (123, 123, some 25), (123, 123, some 26), (123, 123, some 27)]
def WL_neverNow : List (Nat × Nat × Option Nat) := [(133, 144, none), (147, 147, none), (123, 123, some 17), (123, 123, some 19), (123, 123, some 20), (123, 123, some 21), (123, 123, some 22), (123, 123, some 23), (123, 123, some 24), (123, 123, some 25), (123, 123, some 26), (123, 123, some 27)]
def B_neverNow_6  (i2 : Nat) (a2 : SG × Int32) : SG × Int32 := let v3 := 1 <<< ((Int32.ofNat i2) &&& 31); let z4 := F_isSeen (uset a2.1 123 17 v3) ; let v5 := bif m_cmp .eq z4.1 0 then (0 : Int32) else 1 <<< ((Int32.ofNat i2) &&& 31); let v6 := a2.2 ||| v5; (z4.2, v6)
set_option maxRecDepth 20000 in
set_option maxHeartbeats 200000 in
theorem fr_B_neverNow_6  (i2 : Nat) (a2 : SG × Int32)   : Fr WL_neverNow a2.1 ((B_neverNow_6) i2 a2).1 := by dsimp only [B_neverNow_6]; exact (let v3 : Int32 := 1 <<< ((Int32.ofNat i2) &&& 31); (Fr.tr (s1 := (uset a2.1 123 17 v3)) (Fr.uset (s1 := a2.1) (a := 123) (j := 17) (x := v3) (by rfl) (Fr.rf _ _)) (Fr.wk (W2 := WL_neverNow) (fr_isSeen (uset a2.1 123 17 v3) ) (by rfl))))
def F_neverNow (s : SG)  : Int32 × SG := let z1 := F_asTold s ; let z2 := itr (B_neverNow_6) 0 ((z1 123 11).toNatClampNeg) (z1, 0); (z2.2, z2.1)
set_option maxRecDepth 20000 in
set_option maxHeartbeats 200000 in
theorem fr_neverNow (s : SG)   : Fr W_neverNow s (F_neverNow s).2 := by dsimp only [F_neverNow]; exact (let z1 : SG := F_asTold s ; (Fr.itr (W := W_neverNow) (m := (fun x : SG × Int32 => x.1)) (f := (B_neverNow_6)) (fun ii aa => Fr.wk (W2 := W_neverNow) (fr_B_neverNow_6  ii aa ) (by rfl)) ((z1 123 11).toNatClampNeg) 0 (z1, 0) (Fr.tr (s1 := s) (Fr.rf _ _) (Fr.wk (W2 := W_neverNow) (fr_asTold s ) (by rfl)))))
set_option maxRecDepth 20000 in
set_option maxHeartbeats 200000 in
theorem ux_neverNow (s : SG)   : UP m_X7_neverNow 0 (m_ent 3 [.ref 123]) [] s (Qb (F_neverNow s)) := by
  refine UP.stp 1 (i1 := 1) (L1 := [some (.ref 123), none, none]) (st1 := [.ref 123]) (s1 := s) rfl ?_
  refine UP.cV (M1 := m_X7_asTold) (as := [.ref 123]) (rest := []) (T := F_asTold s ) rfl rfl (ux_asTold s ) (fun z1 e1 => ?_)
  refine UP.stp 4 (i1 := 6) (L1 := [some (.ref 123), some (.int 0), some (.int 0)]) (st1 := []) (s1 := z1) rfl ?_
  refine lp (fun (i2 : Nat) (a2 : SG × Int32) => UP m_X7_neverNow 6 [some (.ref 123), some (.int a2.2), some (.int (Int32.ofNat i2))] [] a2.1 (Qb (F_neverNow s))) (fun (_ : Nat) (a2 : SG × Int32) => Fr WL_neverNow z1 a2.1) (B_neverNow_6) ((z1 123 11).toNatClampNeg) (fun i2 a2 hi2 g2 => g2.tr (fr_B_neverNow_6  i2 a2 )) (fun i2 a2 hi2 g2 kk => ?_) ((z1 123 11).toNatClampNeg) (0) (z1, 0) (by  omega) (Fr.rf _ _) (fun z2 e2 g2 => ?_)
  · skip
    have hbi2 := cl_lt (z1 123 11)
    refine UP.stp 3 (i1 := 9) (L1 := [some (.ref 123), some (.int a2.2), some (.int (Int32.ofNat i2))]) (st1 := [.int (a2.1 123 11), .int (Int32.ofNat i2)]) (s1 := a2.1) rfl ?_
    refine UP.icF rfl (by rw [(g2 123 11 rfl)]; exact ge_F hi2) ?_
    refine UP.stp 4 (i1 := 14) (L1 := [some (.ref 123), some (.int a2.2), some (.int (Int32.ofNat i2))]) (st1 := [.int (1 <<< ((Int32.ofNat i2) &&& 31)), .ref 123]) (s1 := a2.1) rfl ?_
    refine nm (G := fun v3 => UP m_X7_neverNow 14 [some (.ref 123), some (.int a2.2), some (.int (Int32.ofNat i2))] [.int v3, .ref 123] a2.1 (Qb (F_neverNow s))) (1 <<< ((Int32.ofNat i2) &&& 31)) (fun v3 e3 => ?_)
    refine UP.stp 3 (i1 := 17) (L1 := [some (.ref 123), some (.int a2.2), some (.int (Int32.ofNat i2))]) (st1 := [.ref 123, .int a2.2]) (s1 := (uset a2.1 123 17 v3)) rfl ?_
    refine UP.cB (M1 := m_X7_isSeen) (as := [.ref 123]) (rest := [.int a2.2]) (T := F_isSeen (uset a2.1 123 17 v3) ) rfl rfl (ux_isSeen (uset a2.1 123 17 v3) ) (fun z4 e4 => ?_)
    refine mrg (m_cmp .eq z4.1 0) (0 : Int32) (1 <<< ((Int32.ofNat i2) &&& 31)) (fun v5 : Int32 => UP m_X7_neverNow 24 [some (.ref 123), some (.int a2.2), some (.int (Int32.ofNat i2))] [.int v5, .int a2.2] z4.2 (Qb (F_neverNow s))) (fun cc kk => ?_) (fun cc kk => ?_) (fun v5 e5 => ?_)
    · skip
      refine UP.ifT rfl cc ?_
      refine UP.stp 1 (i1 := 24) (L1 := [some (.ref 123), some (.int a2.2), some (.int (Int32.ofNat i2))]) (st1 := [.int 0, .int a2.2]) (s1 := z4.2) rfl ?_
      exact kk
    · skip
      refine UP.ifF rfl cc ?_
      refine UP.stp 4 (i1 := 24) (L1 := [some (.ref 123), some (.int a2.2), some (.int (Int32.ofNat i2))]) (st1 := [.int (1 <<< ((Int32.ofNat i2) &&& 31)), .int a2.2]) (s1 := z4.2) rfl ?_
      exact kk
    refine UP.stp 1 (i1 := 25) (L1 := [some (.ref 123), some (.int a2.2), some (.int (Int32.ofNat i2))]) (st1 := [.int (a2.2 ||| v5)]) (s1 := z4.2) rfl ?_
    refine nm (G := fun v6 => UP m_X7_neverNow 25 [some (.ref 123), some (.int a2.2), some (.int (Int32.ofNat i2))] [.int v6] z4.2 (Qb (F_neverNow s))) (a2.2 ||| v5) (fun v6 e6 => ?_)
    refine UP.stp 3 (i1 := 6) (L1 := [some (.ref 123), some (.int v6), some (.int ((Int32.ofNat i2) + 1))]) (st1 := []) (s1 := z4.2) rfl ?_
    subst e6 e5 e4 e3
    rw [ofn_s]
    try dsimp only [B_neverNow_6] at kk
    exact kk
  refine UP.stp 3 (i1 := 9) (L1 := [some (.ref 123), some (.int z2.2), some (.int (Int32.ofNat ((z1 123 11).toNatClampNeg)))]) (st1 := [.int (z2.1 123 11), .int (Int32.ofNat ((z1 123 11).toNatClampNeg))]) (s1 := z2.1) rfl ?_
  refine UP.icT rfl (by rw [(g2 123 11 rfl)]; exact ge_T _) ?_
  refine UP.stp 1 (i1 := 29) (L1 := [some (.ref 123), some (.int z2.2), some (.int (Int32.ofNat ((z1 123 11).toNatClampNeg)))]) (st1 := [.int z2.2]) (s1 := z2.1) rfl ?_
  exact UP.ret (r := some (.int z2.2)) rfl ⟨by subst e2 e1; first | (dsimp only [F_neverNow]; done) | (dsimp only; done) | rfl, by subst e2 e1; first | (dsimp only [F_neverNow]; done) | (dsimp only; done) | rfl⟩
def W_never : List (Nat × Nat × Option Nat) := [(126, 129, none), (133, 144, none), (147, 147, none), (123, 123, some 2), (123, 123, some 5), (123, 123, some 7), (123, 123, some 17), (123, 123, some 19), (123, 123, some 20), (123, 123, some 21), (123, 123, some 22), (123, 123, some 23), (123, 123, some 24), (123, 123, some 25), (123, 123, some 26), (123, 123, some 27)]
def F_never (s : SG)  : Int32 × SG := let z1 := F_neverNow s ; z1
set_option maxRecDepth 20000 in
set_option maxHeartbeats 200000 in
theorem fr_never (s : SG)   : Fr W_never s (F_never s).2 := by dsimp only [F_never]; exact (Fr.tr (s1 := s) (Fr.rf _ _) (Fr.wk (W2 := W_never) (fr_neverNow s ) (by rfl)))
set_option maxRecDepth 20000 in
set_option maxHeartbeats 200000 in
theorem ux_never (s : SG)   : UP m_X7_never 0 (m_ent 1 [.ref 123]) [] s (Qb (F_never s)) := by
  refine UP.stp 1 (i1 := 1) (L1 := [some (.ref 123)]) (st1 := [.ref 123]) (s1 := s) rfl ?_
  refine UP.cB (M1 := m_X7_neverNow) (as := [.ref 123]) (rest := []) (T := F_neverNow s ) rfl rfl (ux_neverNow s ) (fun z1 e1 => ?_)
  exact UP.ret (r := some (.int z1.1)) rfl ⟨by subst e1; first | (dsimp only [F_never]; done) | (dsimp only; done) | rfl, by subst e1; first | (dsimp only [F_never]; done) | (dsimp only; done) | rfl⟩
end
section
def W_powersBy : List (Nat × Nat × Option Nat) := [(126, 129, none), (133, 144, none), (147, 147, none), (123, 123, some 2), (123, 123, some 5), (123, 123, some 7), (123, 123, some 17), (123, 123, some 19), (123, 123, some 20), (123, 123, some 21), (123, 123, some 22), (123, 123, some 23), (123, 123, some 24), (123, 123, some 25), (123, 123, some 26), (123, 123, some 27)]
def B_powersBy_32 (i3 : Nat) (i7 : Nat) (a7 : SG) : SG := let v8 := a7 140 i7; (uset a7 147 (24 * i3 + i7) v8)
set_option maxRecDepth 20000 in
set_option maxHeartbeats 200000 in
theorem fr_B_powersBy_32 (i3 : Nat) (i7 : Nat) (a7 : SG)  (hi7 : i7 < 24) : Fr W_powersBy a7 ((B_powersBy_32 i3) i7 a7) := by dsimp only [B_powersBy_32]; exact (let v8 : Int32 := a7 140 i7; (Fr.uset (s1 := a7) (a := 147) (j := 24 * i3 + i7) (x := v8) (by rfl) (Fr.rf _ _)))
def B_powersBy_11 (k : Int32) (i3 : Nat) (a3 : SG × Int32) : SG × Int32 := let z4 := F_isSeen (uset a3.1 127 k.toNatClampNeg (Int32.ofNat i3)) ; let v5 := bif m_cmp .eq z4.1 0 then (0 : Int32) else 1 <<< ((Int32.ofNat i3) &&& 31); let v6 := a3.2 ||| v5; let z7 := itr (B_powersBy_32 i3) 0 24 z4.2; (z7, v6)
set_option maxRecDepth 20000 in
set_option maxHeartbeats 200000 in
theorem fr_B_powersBy_11 (k : Int32) (i3 : Nat) (a3 : SG × Int32)  (hi3 : i3 < 10) : Fr W_powersBy a3.1 ((B_powersBy_11 k) i3 a3).1 := by dsimp only [B_powersBy_11]; exact (let z4 : Int32 × SG := F_isSeen (uset a3.1 127 k.toNatClampNeg (Int32.ofNat i3)) ; (frItrB (W := W_powersBy) (m := (fun x : SG => x)) (f := (B_powersBy_32 i3)) 24 (fun ii aa hh => Fr.wk (W2 := W_powersBy) (fr_B_powersBy_32 i3 ii aa  hh) (by rfl)) 24 0 z4.2 (by omega) (Fr.tr (s1 := (uset a3.1 127 k.toNatClampNeg (Int32.ofNat i3))) (Fr.uset (s1 := a3.1) (a := 127) (j := k.toNatClampNeg) (x := Int32.ofNat i3) (by rfl) (Fr.rf _ _)) (Fr.wk (W2 := W_powersBy) (fr_isSeen (uset a3.1 127 k.toNatClampNeg (Int32.ofNat i3)) ) (by rfl)))))
def F_powersBy (s : SG) (k : Int32) : Int32 × SG := let z1 := F_asTold s ; let v2 := z1 127 k.toNatClampNeg; let z3 := itr (B_powersBy_11 k) 1 (10 - 1) (z1, 0); (z3.2, (uset z3.1 127 k.toNatClampNeg v2))
set_option maxRecDepth 20000 in
set_option maxHeartbeats 200000 in
theorem fr_powersBy (s : SG) (k : Int32)  : Fr W_powersBy s (F_powersBy s k).2 := by dsimp only [F_powersBy]; exact (let z1 : SG := F_asTold s ; (let v2 : Int32 := z1 127 k.toNatClampNeg; (let z3 : SG × Int32 := itr (B_powersBy_11 k) 1 (10 - 1) (z1, 0); (Fr.uset (s1 := z3.1) (a := 127) (j := k.toNatClampNeg) (x := v2) (by rfl) (frItrB (W := W_powersBy) (m := (fun x : SG × Int32 => x.1)) (f := (B_powersBy_11 k)) 10 (fun ii aa hh => Fr.wk (W2 := W_powersBy) (fr_B_powersBy_11 k ii aa  hh) (by rfl)) (10 - 1) 1 (z1, 0) (by omega) (Fr.tr (s1 := s) (Fr.rf _ _) (Fr.wk (W2 := W_powersBy) (fr_asTold s ) (by rfl))))))))
set_option maxRecDepth 20000 in
set_option maxHeartbeats 200000 in
theorem ux_powersBy (s : SG) (k : Int32)  : UP m_X7_powersBy 0 (m_ent 6 [.ref 123, .int k]) [] s (Qb (F_powersBy s k)) := by
  refine UP.stp 1 (i1 := 1) (L1 := [some (.ref 123), some (.int k), none, none, none, none]) (st1 := [.ref 123]) (s1 := s) rfl ?_
  refine UP.cV (M1 := m_X7_asTold) (as := [.ref 123]) (rest := []) (T := F_asTold s ) rfl rfl (ux_asTold s ) (fun z1 e1 => ?_)
  refine UP.stp 4 (i1 := 6) (L1 := [some (.ref 123), some (.int k), none, none, none, none]) (st1 := [.int (z1 127 k.toNatClampNeg)]) (s1 := z1) rfl ?_
  refine nm (G := fun v2 => UP m_X7_powersBy 6 [some (.ref 123), some (.int k), none, none, none, none] [.int v2] z1 (Qb (F_powersBy s k))) (z1 127 k.toNatClampNeg) (fun v2 e2 => ?_)
  refine UP.stp 5 (i1 := 11) (L1 := [some (.ref 123), some (.int k), some (.int v2), some (.int 0), some (.int 1), none]) (st1 := []) (s1 := z1) rfl ?_
  refine lp (fun (i3 : Nat) (a3 : SG × Int32) => ∀ (u3_5 : Option Value), UP m_X7_powersBy 11 [some (.ref 123), some (.int k), some (.int v2), some (.int a3.2), some (.int (Int32.ofNat i3)), u3_5] [] a3.1 (Qb (F_powersBy s k))) (fun (_ : Nat) (a3 : SG × Int32) => Fr W_powersBy z1 a3.1) (B_powersBy_11 k) (10) (fun i3 a3 hi3 g3 => g3.tr (fr_B_powersBy_11 k i3 a3 hi3)) (fun i3 a3 hi3 g3 kk => ?_) (10 - 1) (1) (z1, 0) (by  omega) (Fr.rf _ _) (fun z3 e3 g3 => ?_) none
  · skip
    intro u3_5
    refine UP.stp 2 (i1 := 13) (L1 := [some (.ref 123), some (.int k), some (.int v2), some (.int a3.2), some (.int (Int32.ofNat i3)), u3_5]) (st1 := [.int 10, .int (Int32.ofNat i3)]) (s1 := a3.1) rfl ?_
    refine UP.icF rfl (ge_F (show i3 < (10 : Int32).toNatClampNeg from hi3)) ?_
    refine UP.stp 7 (i1 := 21) (L1 := [some (.ref 123), some (.int k), some (.int v2), some (.int a3.2), some (.int (Int32.ofNat i3)), u3_5]) (st1 := [.ref 123, .int a3.2]) (s1 := (uset a3.1 127 k.toNatClampNeg (Int32.ofNat i3))) rfl ?_
    refine UP.cB (M1 := m_X7_isSeen) (as := [.ref 123]) (rest := [.int a3.2]) (T := F_isSeen (uset a3.1 127 k.toNatClampNeg (Int32.ofNat i3)) ) rfl rfl (ux_isSeen (uset a3.1 127 k.toNatClampNeg (Int32.ofNat i3)) ) (fun z4 e4 => ?_)
    refine mrg (m_cmp .eq z4.1 0) (0 : Int32) (1 <<< ((Int32.ofNat i3) &&& 31)) (fun v5 : Int32 => UP m_X7_powersBy 28 [some (.ref 123), some (.int k), some (.int v2), some (.int a3.2), some (.int (Int32.ofNat i3)), u3_5] [.int v5, .int a3.2] z4.2 (Qb (F_powersBy s k))) (fun cc kk => ?_) (fun cc kk => ?_) (fun v5 e5 => ?_)
    · skip
      refine UP.ifT rfl cc ?_
      refine UP.stp 1 (i1 := 28) (L1 := [some (.ref 123), some (.int k), some (.int v2), some (.int a3.2), some (.int (Int32.ofNat i3)), u3_5]) (st1 := [.int 0, .int a3.2]) (s1 := z4.2) rfl ?_
      exact kk
    · skip
      refine UP.ifF rfl cc ?_
      refine UP.stp 4 (i1 := 28) (L1 := [some (.ref 123), some (.int k), some (.int v2), some (.int a3.2), some (.int (Int32.ofNat i3)), u3_5]) (st1 := [.int (1 <<< ((Int32.ofNat i3) &&& 31)), .int a3.2]) (s1 := z4.2) rfl ?_
      exact kk
    refine UP.stp 1 (i1 := 29) (L1 := [some (.ref 123), some (.int k), some (.int v2), some (.int a3.2), some (.int (Int32.ofNat i3)), u3_5]) (st1 := [.int (a3.2 ||| v5)]) (s1 := z4.2) rfl ?_
    refine nm (G := fun v6 => UP m_X7_powersBy 29 [some (.ref 123), some (.int k), some (.int v2), some (.int a3.2), some (.int (Int32.ofNat i3)), u3_5] [.int v6] z4.2 (Qb (F_powersBy s k))) (a3.2 ||| v5) (fun v6 e6 => ?_)
    refine UP.stp 3 (i1 := 32) (L1 := [some (.ref 123), some (.int k), some (.int v2), some (.int v6), some (.int (Int32.ofNat i3)), some (.int 0)]) (st1 := []) (s1 := z4.2) rfl ?_
    refine lp (fun (i7 : Nat) (a7 : SG) => UP m_X7_powersBy 32 [some (.ref 123), some (.int k), some (.int v2), some (.int v6), some (.int (Int32.ofNat i3)), some (.int (Int32.ofNat i7))] [] a7 (Qb (F_powersBy s k))) (fun (_ : Nat) (a7 : SG) => Fr W_powersBy z4.2 a7) (B_powersBy_32 i3) (24) (fun i7 a7 hi7 g7 => g7.tr (fr_B_powersBy_32 i3 i7 a7 hi7)) (fun i7 a7 hi7 g7 kk => ?_) 24 (0) z4.2 (by  omega) (Fr.rf _ _) (fun z7 e7 g7 => ?_)
    · skip
      refine UP.stp 2 (i1 := 34) (L1 := [some (.ref 123), some (.int k), some (.int v2), some (.int v6), some (.int (Int32.ofNat i3)), some (.int (Int32.ofNat i7))]) (st1 := [.int 24, .int (Int32.ofNat i7)]) (s1 := a7) rfl ?_
      refine UP.icF rfl (ge_F (show i7 < (24 : Int32).toNatClampNeg from hi7)) ?_
      refine UP.stp 10 (i1 := 45) (L1 := [some (.ref 123), some (.int k), some (.int v2), some (.int v6), some (.int (Int32.ofNat i3)), some (.int (Int32.ofNat i7))]) (st1 := [.int (Int32.ofNat i7), .ref 140, .int ((24 * (Int32.ofNat i3)) + (Int32.ofNat i7)), .ref 147]) (s1 := a7) rfl ?_
      refine UP.ald (e := i7) rfl rfl (by omega) ?_
      show UP m_X7_powersBy 46 [some (.ref 123), some (.int k), some (.int v2), some (.int v6), some (.int (Int32.ofNat i3)), some (.int (Int32.ofNat i7))] [.int (a7 140 i7), .int ((24 * (Int32.ofNat i3)) + (Int32.ofNat i7)), .ref 147] a7 (Qb (F_powersBy s k))
      refine nm (G := fun v8 => UP m_X7_powersBy 46 [some (.ref 123), some (.int k), some (.int v2), some (.int v6), some (.int (Int32.ofNat i3)), some (.int (Int32.ofNat i7))] [.int v8, .int ((24 * (Int32.ofNat i3)) + (Int32.ofNat i7)), .ref 147] a7 (Qb (F_powersBy s k))) (a7 140 i7) (fun v8 e8 => ?_)
      refine UP.ast (e := 24 * i3 + i7) rfl (ofn_add (ofn_mul rfl rfl) rfl) (by omega) ?_
      show UP m_X7_powersBy 47 [some (.ref 123), some (.int k), some (.int v2), some (.int v6), some (.int (Int32.ofNat i3)), some (.int (Int32.ofNat i7))] [] (uset a7 147 (24 * i3 + i7) v8) (Qb (F_powersBy s k))
      refine UP.stp 2 (i1 := 32) (L1 := [some (.ref 123), some (.int k), some (.int v2), some (.int v6), some (.int (Int32.ofNat i3)), some (.int ((Int32.ofNat i7) + 1))]) (st1 := []) (s1 := (uset a7 147 (24 * i3 + i7) v8)) rfl ?_
      subst e8
      rw [ofn_s]
      try dsimp only [B_powersBy_32] at kk
      exact kk
    refine UP.stp 2 (i1 := 34) (L1 := [some (.ref 123), some (.int k), some (.int v2), some (.int v6), some (.int (Int32.ofNat i3)), some (.int (Int32.ofNat 24))]) (st1 := [.int 24, .int (Int32.ofNat 24)]) (s1 := z7) rfl ?_
    refine UP.icT rfl (ge_T (24 : Int32)) ?_
    refine UP.stp 2 (i1 := 11) (L1 := [some (.ref 123), some (.int k), some (.int v2), some (.int v6), some (.int ((Int32.ofNat i3) + 1)), some (.int (Int32.ofNat 24))]) (st1 := []) (s1 := z7) rfl ?_
    subst e7 e6 e5 e4
    rw [ofn_s]
    try dsimp only [B_powersBy_11] at kk
    exact kk _
  intro u3_5
  refine UP.stp 2 (i1 := 13) (L1 := [some (.ref 123), some (.int k), some (.int v2), some (.int z3.2), some (.int (Int32.ofNat 10)), u3_5]) (st1 := [.int 10, .int (Int32.ofNat 10)]) (s1 := z3.1) rfl ?_
  refine UP.icT rfl (ge_T (10 : Int32)) ?_
  refine UP.stp 6 (i1 := 57) (L1 := [some (.ref 123), some (.int k), some (.int v2), some (.int z3.2), some (.int (Int32.ofNat 10)), u3_5]) (st1 := [.int z3.2]) (s1 := (uset z3.1 127 k.toNatClampNeg v2)) rfl ?_
  exact UP.ret (r := some (.int z3.2)) rfl ⟨by subst e3 e2 e1; first | (dsimp only [F_powersBy]; done) | (dsimp only; done) | rfl, by subst e3 e2 e1; first | (dsimp only [F_powersBy]; done) | (dsimp only; done) | rfl⟩
end
section
def W_sortsBy : List (Nat × Nat × Option Nat) := [(126, 129, none), (133, 144, none), (147, 147, none), (123, 123, some 2), (123, 123, some 5), (123, 123, some 7), (123, 123, some 17), (123, 123, some 19), (123, 123, some 20), (123, 123, some 21), (123, 123, some 22), (123, 123, some 23), (123, 123, some 24), (123, 123, some 25), (123, 123, some 26), (123, 123, some 27)]
def B_sortsBy_11 (k : Int32) (i3 : Nat) (a3 : SG × Int32) : SG × Int32 := let z4 := F_isSeen (uset a3.1 126 k.toNatClampNeg (Int32.ofNat i3)) ; let v5 := bif m_cmp .eq z4.1 0 then (0 : Int32) else 1 <<< ((Int32.ofNat i3) &&& 31); let v6 := a3.2 ||| v5; (z4.2, v6)
set_option maxRecDepth 20000 in
set_option maxHeartbeats 200000 in
theorem fr_B_sortsBy_11 (k : Int32) (i3 : Nat) (a3 : SG × Int32)  (hi3 : i3 < 3) : Fr W_sortsBy a3.1 ((B_sortsBy_11 k) i3 a3).1 := by dsimp only [B_sortsBy_11]; exact (Fr.tr (s1 := (uset a3.1 126 k.toNatClampNeg (Int32.ofNat i3))) (Fr.uset (s1 := a3.1) (a := 126) (j := k.toNatClampNeg) (x := Int32.ofNat i3) (by rfl) (Fr.rf _ _)) (Fr.wk (W2 := W_sortsBy) (fr_isSeen (uset a3.1 126 k.toNatClampNeg (Int32.ofNat i3)) ) (by rfl)))
def F_sortsBy (s : SG) (k : Int32) : Int32 × SG := let z1 := F_asTold s ; let v2 := z1 126 k.toNatClampNeg; let z3 := itr (B_sortsBy_11 k) 0 3 (z1, 0); (z3.2, (uset z3.1 126 k.toNatClampNeg v2))
set_option maxRecDepth 20000 in
set_option maxHeartbeats 200000 in
theorem fr_sortsBy (s : SG) (k : Int32)  : Fr W_sortsBy s (F_sortsBy s k).2 := by dsimp only [F_sortsBy]; exact (let z1 : SG := F_asTold s ; (let v2 : Int32 := z1 126 k.toNatClampNeg; (let z3 : SG × Int32 := itr (B_sortsBy_11 k) 0 3 (z1, 0); (Fr.uset (s1 := z3.1) (a := 126) (j := k.toNatClampNeg) (x := v2) (by rfl) (frItrB (W := W_sortsBy) (m := (fun x : SG × Int32 => x.1)) (f := (B_sortsBy_11 k)) 3 (fun ii aa hh => Fr.wk (W2 := W_sortsBy) (fr_B_sortsBy_11 k ii aa  hh) (by rfl)) 3 0 (z1, 0) (by omega) (Fr.tr (s1 := s) (Fr.rf _ _) (Fr.wk (W2 := W_sortsBy) (fr_asTold s ) (by rfl))))))))
set_option maxRecDepth 20000 in
set_option maxHeartbeats 200000 in
theorem ux_sortsBy (s : SG) (k : Int32)  : UP m_X7_sortsBy 0 (m_ent 5 [.ref 123, .int k]) [] s (Qb (F_sortsBy s k)) := by
  refine UP.stp 1 (i1 := 1) (L1 := [some (.ref 123), some (.int k), none, none, none]) (st1 := [.ref 123]) (s1 := s) rfl ?_
  refine UP.cV (M1 := m_X7_asTold) (as := [.ref 123]) (rest := []) (T := F_asTold s ) rfl rfl (ux_asTold s ) (fun z1 e1 => ?_)
  refine UP.stp 4 (i1 := 6) (L1 := [some (.ref 123), some (.int k), none, none, none]) (st1 := [.int (z1 126 k.toNatClampNeg)]) (s1 := z1) rfl ?_
  refine nm (G := fun v2 => UP m_X7_sortsBy 6 [some (.ref 123), some (.int k), none, none, none] [.int v2] z1 (Qb (F_sortsBy s k))) (z1 126 k.toNatClampNeg) (fun v2 e2 => ?_)
  refine UP.stp 5 (i1 := 11) (L1 := [some (.ref 123), some (.int k), some (.int v2), some (.int 0), some (.int 0)]) (st1 := []) (s1 := z1) rfl ?_
  refine lp (fun (i3 : Nat) (a3 : SG × Int32) => UP m_X7_sortsBy 11 [some (.ref 123), some (.int k), some (.int v2), some (.int a3.2), some (.int (Int32.ofNat i3))] [] a3.1 (Qb (F_sortsBy s k))) (fun (_ : Nat) (a3 : SG × Int32) => Fr W_sortsBy z1 a3.1) (B_sortsBy_11 k) (3) (fun i3 a3 hi3 g3 => g3.tr (fr_B_sortsBy_11 k i3 a3 hi3)) (fun i3 a3 hi3 g3 kk => ?_) 3 (0) (z1, 0) (by  omega) (Fr.rf _ _) (fun z3 e3 g3 => ?_)
  · skip
    refine UP.stp 2 (i1 := 13) (L1 := [some (.ref 123), some (.int k), some (.int v2), some (.int a3.2), some (.int (Int32.ofNat i3))]) (st1 := [.int 3, .int (Int32.ofNat i3)]) (s1 := a3.1) rfl ?_
    refine UP.icF rfl (ge_F (show i3 < (3 : Int32).toNatClampNeg from hi3)) ?_
    refine UP.stp 7 (i1 := 21) (L1 := [some (.ref 123), some (.int k), some (.int v2), some (.int a3.2), some (.int (Int32.ofNat i3))]) (st1 := [.ref 123, .int a3.2]) (s1 := (uset a3.1 126 k.toNatClampNeg (Int32.ofNat i3))) rfl ?_
    refine UP.cB (M1 := m_X7_isSeen) (as := [.ref 123]) (rest := [.int a3.2]) (T := F_isSeen (uset a3.1 126 k.toNatClampNeg (Int32.ofNat i3)) ) rfl rfl (ux_isSeen (uset a3.1 126 k.toNatClampNeg (Int32.ofNat i3)) ) (fun z4 e4 => ?_)
    refine mrg (m_cmp .eq z4.1 0) (0 : Int32) (1 <<< ((Int32.ofNat i3) &&& 31)) (fun v5 : Int32 => UP m_X7_sortsBy 28 [some (.ref 123), some (.int k), some (.int v2), some (.int a3.2), some (.int (Int32.ofNat i3))] [.int v5, .int a3.2] z4.2 (Qb (F_sortsBy s k))) (fun cc kk => ?_) (fun cc kk => ?_) (fun v5 e5 => ?_)
    · skip
      refine UP.ifT rfl cc ?_
      refine UP.stp 1 (i1 := 28) (L1 := [some (.ref 123), some (.int k), some (.int v2), some (.int a3.2), some (.int (Int32.ofNat i3))]) (st1 := [.int 0, .int a3.2]) (s1 := z4.2) rfl ?_
      exact kk
    · skip
      refine UP.ifF rfl cc ?_
      refine UP.stp 4 (i1 := 28) (L1 := [some (.ref 123), some (.int k), some (.int v2), some (.int a3.2), some (.int (Int32.ofNat i3))]) (st1 := [.int (1 <<< ((Int32.ofNat i3) &&& 31)), .int a3.2]) (s1 := z4.2) rfl ?_
      exact kk
    refine UP.stp 1 (i1 := 29) (L1 := [some (.ref 123), some (.int k), some (.int v2), some (.int a3.2), some (.int (Int32.ofNat i3))]) (st1 := [.int (a3.2 ||| v5)]) (s1 := z4.2) rfl ?_
    refine nm (G := fun v6 => UP m_X7_sortsBy 29 [some (.ref 123), some (.int k), some (.int v2), some (.int a3.2), some (.int (Int32.ofNat i3))] [.int v6] z4.2 (Qb (F_sortsBy s k))) (a3.2 ||| v5) (fun v6 e6 => ?_)
    refine UP.stp 3 (i1 := 11) (L1 := [some (.ref 123), some (.int k), some (.int v2), some (.int v6), some (.int ((Int32.ofNat i3) + 1))]) (st1 := []) (s1 := z4.2) rfl ?_
    subst e6 e5 e4
    rw [ofn_s]
    try dsimp only [B_sortsBy_11] at kk
    exact kk
  refine UP.stp 2 (i1 := 13) (L1 := [some (.ref 123), some (.int k), some (.int v2), some (.int z3.2), some (.int (Int32.ofNat 3))]) (st1 := [.int 3, .int (Int32.ofNat 3)]) (s1 := z3.1) rfl ?_
  refine UP.icT rfl (ge_T (3 : Int32)) ?_
  refine UP.stp 6 (i1 := 38) (L1 := [some (.ref 123), some (.int k), some (.int v2), some (.int z3.2), some (.int (Int32.ofNat 3))]) (st1 := [.int z3.2]) (s1 := (uset z3.1 126 k.toNatClampNeg v2)) rfl ?_
  exact UP.ret (r := some (.int z3.2)) rfl ⟨by subst e3 e2 e1; first | (dsimp only [F_sortsBy]; done) | (dsimp only; done) | rfl, by subst e3 e2 e1; first | (dsimp only [F_sortsBy]; done) | (dsimp only; done) | rfl⟩
def W_was : List (Nat × Nat × Option Nat) := [(126, 129, none), (133, 144, none), (147, 147, none), (123, 123, some 2), (123, 123, some 5), (123, 123, some 7), (123, 123, some 17), (123, 123, some 19), (123, 123, some 20), (123, 123, some 21), (123, 123, some 22), (123, 123, some 23), (123, 123, some 24), (123, 123, some 25), (123, 123, some 26), (123, 123, some 27)]
def F_was (s : SG) (seat : Int32) (what : Int32) : Int32 × SG := let z1 := F_isRower s seat; let w7 := bif m_cmp .eq z1.1 0 then ((-2 : Int32), z1.2) else (bif m_cmp .eq (F_isTwo z1.2 what) 0 then ((-2 : Int32), z1.2) else (bif m_cmp .ne what 0 then (F_sortsBy z1.2 seat) else (F_powersBy z1.2 seat))); w7
set_option maxRecDepth 20000 in
set_option maxHeartbeats 200000 in
theorem fr_was (s : SG) (seat : Int32) (what : Int32)  : Fr W_was s (F_was s seat what).2 := by dsimp only [F_was]; exact (let z1 : Int32 × SG := F_isRower s seat; (Fr.bifp (b := m_cmp .eq z1.1 0) (x := ((-2 : Int32), z1.2)) (y := (bif m_cmp .eq (F_isTwo z1.2 what) 0 then ((-2 : Int32), z1.2) else (bif m_cmp .ne what 0 then (F_sortsBy z1.2 seat) else (F_powersBy z1.2 seat)))) (fun x : Int32 × SG => x.2) (by (try dsimp only); exact (Fr.tr (s1 := s) (Fr.rf _ _) (Fr.wk (W2 := W_was) (fr_isRower s seat) (by rfl)))) (by (try dsimp only); exact (Fr.bifp (b := m_cmp .eq (F_isTwo z1.2 what) 0) (x := ((-2 : Int32), z1.2)) (y := (bif m_cmp .ne what 0 then (F_sortsBy z1.2 seat) else (F_powersBy z1.2 seat))) (fun x : Int32 × SG => x.2) (by (try dsimp only); exact (Fr.tr (s1 := s) (Fr.rf _ _) (Fr.wk (W2 := W_was) (fr_isRower s seat) (by rfl)))) (by (try dsimp only); exact (Fr.bifp (b := m_cmp .ne what 0) (x := (F_sortsBy z1.2 seat)) (y := (F_powersBy z1.2 seat)) (fun x : Int32 × SG => x.2) (by (try dsimp only); exact (Fr.tr (s1 := z1.2) (Fr.tr (s1 := s) (Fr.rf _ _) (Fr.wk (W2 := W_was) (fr_isRower s seat) (by rfl))) (Fr.wk (W2 := W_was) (fr_sortsBy z1.2 seat) (by rfl)))) (by (try dsimp only); exact (Fr.tr (s1 := z1.2) (Fr.tr (s1 := s) (Fr.rf _ _) (Fr.wk (W2 := W_was) (fr_isRower s seat) (by rfl))) (Fr.wk (W2 := W_was) (fr_powersBy z1.2 seat) (by rfl))))))))))
set_option maxRecDepth 20000 in
set_option maxHeartbeats 200000 in
theorem ux_was (s : SG) (seat : Int32) (what : Int32)  : UP m_X7_was 0 (m_ent 3 [.ref 123, .int seat, .int what]) [] s (Qb (F_was s seat what)) := by
  refine UP.stp 2 (i1 := 2) (L1 := [some (.ref 123), some (.int seat), some (.int what)]) (st1 := [.int seat, .ref 123]) (s1 := s) rfl ?_
  refine UP.cB (M1 := m_X7_isRower) (as := [.ref 123, .int seat]) (rest := []) (T := F_isRower s seat) rfl rfl (ux_isRower s seat) (fun z1 e1 => ?_)
  refine mrg (m_cmp .eq z1.1 0) ((-2 : Int32), z1.2) (bif m_cmp .eq (F_isTwo z1.2 what) 0 then ((-2 : Int32), z1.2) else (bif m_cmp .ne what 0 then (F_sortsBy z1.2 seat) else (F_powersBy z1.2 seat))) (fun w7 : Int32 × SG => UP m_X7_was 18 [some (.ref 123), some (.int seat), some (.int what)] [.int w7.1] w7.2 (Qb (F_was s seat what))) (fun cc kk => ?_) (fun cc kk => ?_) (fun w7 e7 => ?_)
  · skip
    refine UP.ifT rfl cc ?_
    refine UP.stp 1 (i1 := 18) (L1 := [some (.ref 123), some (.int seat), some (.int what)]) (st1 := [.int (-2)]) (s1 := z1.2) rfl ?_
    exact kk
  · skip
    refine UP.ifF rfl cc ?_
    refine UP.stp 1 (i1 := 5) (L1 := [some (.ref 123), some (.int seat), some (.int what)]) (st1 := [.int what]) (s1 := z1.2) rfl ?_
    refine UP.cI (M1 := m_X7_isTwo) (as := [.int what]) (rest := []) (T := F_isTwo z1.2 what) rfl rfl (ux_isTwo z1.2 what) ?_
    refine mrg (m_cmp .eq (F_isTwo z1.2 what) 0) ((-2 : Int32), z1.2) (bif m_cmp .ne what 0 then (F_sortsBy z1.2 seat) else (F_powersBy z1.2 seat)) (fun w6 : Int32 × SG => UP m_X7_was 18 [some (.ref 123), some (.int seat), some (.int what)] [.int w6.1] w6.2 (Qb (F_was s seat what))) (fun cc kk => ?_) (fun cc kk => ?_) (fun w6 e6 => ?_)
    · skip
      refine UP.ifT rfl cc ?_
      refine UP.stp 1 (i1 := 18) (L1 := [some (.ref 123), some (.int seat), some (.int what)]) (st1 := [.int (-2)]) (s1 := z1.2) rfl ?_
      exact kk
    · skip
      refine UP.ifF rfl cc ?_
      refine UP.stp 1 (i1 := 8) (L1 := [some (.ref 123), some (.int seat), some (.int what)]) (st1 := [.int what]) (s1 := z1.2) rfl ?_
      refine mrg (m_cmp .ne what 0) (F_sortsBy z1.2 seat) (F_powersBy z1.2 seat) (fun w5 : Int32 × SG => UP m_X7_was 18 [some (.ref 123), some (.int seat), some (.int what)] [.int w5.1] w5.2 (Qb (F_was s seat what))) (fun cc kk => ?_) (fun cc kk => ?_) (fun w5 e5 => ?_)
      · skip
        refine UP.ifT rfl cc ?_
        refine UP.stp 2 (i1 := 15) (L1 := [some (.ref 123), some (.int seat), some (.int what)]) (st1 := [.int seat, .ref 123]) (s1 := z1.2) rfl ?_
        refine UP.cB (M1 := m_X7_sortsBy) (as := [.ref 123, .int seat]) (rest := []) (T := F_sortsBy z1.2 seat) rfl rfl (ux_sortsBy z1.2 seat) (fun z3 e3 => ?_)
        refine UP.stp 1 (i1 := 18) (L1 := [some (.ref 123), some (.int seat), some (.int what)]) (st1 := [.int z3.1]) (s1 := z3.2) rfl ?_
        subst e3
        exact kk
      · skip
        refine UP.ifF rfl cc ?_
        refine UP.stp 2 (i1 := 11) (L1 := [some (.ref 123), some (.int seat), some (.int what)]) (st1 := [.int seat, .ref 123]) (s1 := z1.2) rfl ?_
        refine UP.cB (M1 := m_X7_powersBy) (as := [.ref 123, .int seat]) (rest := []) (T := F_powersBy z1.2 seat) rfl rfl (ux_powersBy z1.2 seat) (fun z4 e4 => ?_)
        refine UP.stp 1 (i1 := 18) (L1 := [some (.ref 123), some (.int seat), some (.int what)]) (st1 := [.int z4.1]) (s1 := z4.2) rfl ?_
        subst e4
        exact kk
      subst e5
      exact kk
    subst e6
    exact kk
  exact UP.ret (r := some (.int w7.1)) rfl ⟨by subst e7 e1; first | (dsimp only [F_was]; done) | (dsimp only; done) | rfl, by subst e7 e1; first | (dsimp only [F_was]; done) | (dsimp only; done) | rfl⟩
end
section
def W_askOf : List (Nat × Nat × Option Nat) := [(126, 129, none), (133, 144, none), (147, 147, none), (123, 123, some 2), (123, 123, some 5), (123, 123, some 7), (123, 123, some 17), (123, 123, some 19), (123, 123, some 20), (123, 123, some 21), (123, 123, some 22), (123, 123, some 23), (123, 123, some 24), (123, 123, some 25), (123, 123, some 26), (123, 123, some 27)]
def B_askOf_24 (z1 : Int32 × SG) (i2 : Nat) (i3 : Nat) (i4 : Nat) (a4 : Int32) : Int32 := let v9 := bif m_cmp .eq (F_isIn z1.2 z1.1 (Int32.ofNat i3)) 0 then (0 : Int32) else (bif m_cmp .eq (F_isIn z1.2 z1.1 (Int32.ofNat i4)) 0 then (0 : Int32) else (bif m_cmp .ne (z1.2 147 (24 * i3 + i2)) (z1.2 147 (24 * i4 + i2)) then (0 : Int32) else (1 : Int32))); let v10 := a4 + v9; v10
def B_askOf_17 (z1 : Int32 × SG) (i2 : Nat) (i3 : Nat) (a3 : Int32) : Int32 := let z4 := itr (B_askOf_24 z1 i2 i3) 1 (10 - 1) (0 : Int32); let v11 := bif m_cmp .le z4 a3 then a3 else z4; v11
def B_askOf_10 (z1 : Int32 × SG) (i2 : Nat) (a2 : Int32 × Int32) : Int32 × Int32 := let z3 := itr (B_askOf_17 z1 i2) 1 (10 - 1) (0 : Int32); let v13 := bif m_cmp .eq a2.1 (-1) then (1 : Int32) else (bif m_cmp .ge z3 a2.2 then (0 : Int32) else (1 : Int32)); let v14 := bif m_cmp .eq v13 0 then a2.1 else Int32.ofNat i2; let v15 := bif m_cmp .eq v13 0 then a2.2 else z3; (v14, v15)
def F_askOf (s : SG) (k : Int32) : Int32 × SG := let z1 := F_powersBy s k; let z2 := itr (B_askOf_10 z1) 0 24 ((-1), 0); (z2.1, z1.2)
set_option maxRecDepth 20000 in
set_option maxHeartbeats 200000 in
theorem fr_askOf (s : SG) (k : Int32)  : Fr W_askOf s (F_askOf s k).2 := by dsimp only [F_askOf]; exact (Fr.tr (s1 := s) (Fr.rf _ _) (Fr.wk (W2 := W_askOf) (fr_powersBy s k) (by rfl)))
set_option maxRecDepth 20000 in
set_option maxHeartbeats 200000 in
theorem ux_askOf (s : SG) (k : Int32)  : UP m_X7_askOf 0 (m_ent 10 [.ref 123, .int k]) [] s (Qb (F_askOf s k)) := by
  refine UP.stp 2 (i1 := 2) (L1 := [some (.ref 123), some (.int k), none, none, none, none, none, none, none, none]) (st1 := [.int k, .ref 123]) (s1 := s) rfl ?_
  refine UP.cB (M1 := m_X7_powersBy) (as := [.ref 123, .int k]) (rest := []) (T := F_powersBy s k) rfl rfl (ux_powersBy s k) (fun z1 e1 => ?_)
  refine UP.stp 7 (i1 := 10) (L1 := [some (.ref 123), some (.int k), some (.int z1.1), some (.int (-1)), some (.int 0), some (.int 0), none, none, none, none]) (st1 := []) (s1 := z1.2) rfl ?_
  refine lp (fun (i2 : Nat) (a2 : Int32 × Int32) => ∀ (u2_1 : Option Value) (u2_6 : Option Value) (u2_7 : Option Value) (u2_8 : Option Value) (u2_9 : Option Value), UP m_X7_askOf 10 [some (.ref 123), u2_1, some (.int z1.1), some (.int a2.1), some (.int a2.2), some (.int (Int32.ofNat i2)), u2_6, u2_7, u2_8, u2_9] [] z1.2 (Qb (F_askOf s k))) (fun (_ : Nat) (a2 : Int32 × Int32) => Fr W_askOf z1.2 z1.2) (B_askOf_10 z1) (24) (fun i2 a2 hi2 g2 => g2) (fun i2 a2 hi2 g2 kk => ?_) 24 (0) ((-1), 0) (by  omega) (Fr.rf _ _) (fun z2 e2 g2 => ?_) (some (.int k)) none none none none
  · skip
    intro u2_1 u2_6 u2_7 u2_8 u2_9
    refine UP.stp 2 (i1 := 12) (L1 := [some (.ref 123), u2_1, some (.int z1.1), some (.int a2.1), some (.int a2.2), some (.int (Int32.ofNat i2)), u2_6, u2_7, u2_8, u2_9]) (st1 := [.int 24, .int (Int32.ofNat i2)]) (s1 := z1.2) rfl ?_
    refine UP.icF rfl (ge_F (show i2 < (24 : Int32).toNatClampNeg from hi2)) ?_
    refine UP.stp 4 (i1 := 17) (L1 := [some (.ref 123), u2_1, some (.int z1.1), some (.int a2.1), some (.int a2.2), some (.int (Int32.ofNat i2)), some (.int 0), some (.int 1), u2_8, u2_9]) (st1 := []) (s1 := z1.2) rfl ?_
    refine lp (fun (i3 : Nat) (a3 : Int32) => ∀ (u3_1 : Option Value) (u3_8 : Option Value) (u3_9 : Option Value), UP m_X7_askOf 17 [some (.ref 123), u3_1, some (.int z1.1), some (.int a2.1), some (.int a2.2), some (.int (Int32.ofNat i2)), some (.int a3), some (.int (Int32.ofNat i3)), u3_8, u3_9] [] z1.2 (Qb (F_askOf s k))) (fun (_ : Nat) (a3 : Int32) => Fr W_askOf z1.2 z1.2) (B_askOf_17 z1 i2) (10) (fun i3 a3 hi3 g3 => g3) (fun i3 a3 hi3 g3 kk => ?_) (10 - 1) (1) (0 : Int32) (by  omega) (Fr.rf _ _) (fun z3 e3 g3 => ?_) (u2_1) (u2_8) (u2_9)
    · skip
      intro u3_1 u3_8 u3_9
      refine UP.stp 2 (i1 := 19) (L1 := [some (.ref 123), u3_1, some (.int z1.1), some (.int a2.1), some (.int a2.2), some (.int (Int32.ofNat i2)), some (.int a3), some (.int (Int32.ofNat i3)), u3_8, u3_9]) (st1 := [.int 10, .int (Int32.ofNat i3)]) (s1 := z1.2) rfl ?_
      refine UP.icF rfl (ge_F (show i3 < (10 : Int32).toNatClampNeg from hi3)) ?_
      refine UP.stp 4 (i1 := 24) (L1 := [some (.ref 123), u3_1, some (.int z1.1), some (.int a2.1), some (.int a2.2), some (.int (Int32.ofNat i2)), some (.int a3), some (.int (Int32.ofNat i3)), some (.int 0), some (.int 1)]) (st1 := []) (s1 := z1.2) rfl ?_
      refine lp (fun (i4 : Nat) (a4 : Int32) => ∀ (u4_1 : Option Value), UP m_X7_askOf 24 [some (.ref 123), u4_1, some (.int z1.1), some (.int a2.1), some (.int a2.2), some (.int (Int32.ofNat i2)), some (.int a3), some (.int (Int32.ofNat i3)), some (.int a4), some (.int (Int32.ofNat i4))] [] z1.2 (Qb (F_askOf s k))) (fun (_ : Nat) (a4 : Int32) => Fr W_askOf z1.2 z1.2) (B_askOf_24 z1 i2 i3) (10) (fun i4 a4 hi4 g4 => g4) (fun i4 a4 hi4 g4 kk => ?_) (10 - 1) (1) (0 : Int32) (by  omega) (Fr.rf _ _) (fun z4 e4 g4 => ?_) (u3_1)
      · skip
        intro u4_1
        refine UP.stp 2 (i1 := 26) (L1 := [some (.ref 123), u4_1, some (.int z1.1), some (.int a2.1), some (.int a2.2), some (.int (Int32.ofNat i2)), some (.int a3), some (.int (Int32.ofNat i3)), some (.int a4), some (.int (Int32.ofNat i4))]) (st1 := [.int 10, .int (Int32.ofNat i4)]) (s1 := z1.2) rfl ?_
        refine UP.icF rfl (ge_F (show i4 < (10 : Int32).toNatClampNeg from hi4)) ?_
        refine UP.stp 3 (i1 := 30) (L1 := [some (.ref 123), u4_1, some (.int z1.1), some (.int a2.1), some (.int a2.2), some (.int (Int32.ofNat i2)), some (.int a3), some (.int (Int32.ofNat i3)), some (.int a4), some (.int (Int32.ofNat i4))]) (st1 := [.int (Int32.ofNat i3), .int z1.1, .int a4]) (s1 := z1.2) rfl ?_
        refine UP.cI (M1 := m_X7_isIn) (as := [.int z1.1, .int (Int32.ofNat i3)]) (rest := [.int a4]) (T := F_isIn z1.2 z1.1 (Int32.ofNat i3)) rfl rfl (ux_isIn z1.2 z1.1 (Int32.ofNat i3)) ?_
        refine mrg (m_cmp .eq (F_isIn z1.2 z1.1 (Int32.ofNat i3)) 0) (0 : Int32) (bif m_cmp .eq (F_isIn z1.2 z1.1 (Int32.ofNat i4)) 0 then (0 : Int32) else (bif m_cmp .ne (z1.2 147 (24 * i3 + i2)) (z1.2 147 (24 * i4 + i2)) then (0 : Int32) else (1 : Int32))) (fun v9 : Int32 => UP m_X7_askOf 56 [some (.ref 123), u4_1, some (.int z1.1), some (.int a2.1), some (.int a2.2), some (.int (Int32.ofNat i2)), some (.int a3), some (.int (Int32.ofNat i3)), some (.int a4), some (.int (Int32.ofNat i4))] [.int v9, .int a4] z1.2 (Qb (F_askOf s k))) (fun cc kk => ?_) (fun cc kk => ?_) (fun v9 e9 => ?_)
        · skip
          refine UP.ifT rfl cc ?_
          refine UP.stp 1 (i1 := 56) (L1 := [some (.ref 123), u4_1, some (.int z1.1), some (.int a2.1), some (.int a2.2), some (.int (Int32.ofNat i2)), some (.int a3), some (.int (Int32.ofNat i3)), some (.int a4), some (.int (Int32.ofNat i4))]) (st1 := [.int 0, .int a4]) (s1 := z1.2) rfl ?_
          exact kk
        · skip
          refine UP.ifF rfl cc ?_
          refine UP.stp 2 (i1 := 34) (L1 := [some (.ref 123), u4_1, some (.int z1.1), some (.int a2.1), some (.int a2.2), some (.int (Int32.ofNat i2)), some (.int a3), some (.int (Int32.ofNat i3)), some (.int a4), some (.int (Int32.ofNat i4))]) (st1 := [.int (Int32.ofNat i4), .int z1.1, .int a4]) (s1 := z1.2) rfl ?_
          refine UP.cI (M1 := m_X7_isIn) (as := [.int z1.1, .int (Int32.ofNat i4)]) (rest := [.int a4]) (T := F_isIn z1.2 z1.1 (Int32.ofNat i4)) rfl rfl (ux_isIn z1.2 z1.1 (Int32.ofNat i4)) ?_
          refine mrg (m_cmp .eq (F_isIn z1.2 z1.1 (Int32.ofNat i4)) 0) (0 : Int32) (bif m_cmp .ne (z1.2 147 (24 * i3 + i2)) (z1.2 147 (24 * i4 + i2)) then (0 : Int32) else (1 : Int32)) (fun v8 : Int32 => UP m_X7_askOf 56 [some (.ref 123), u4_1, some (.int z1.1), some (.int a2.1), some (.int a2.2), some (.int (Int32.ofNat i2)), some (.int a3), some (.int (Int32.ofNat i3)), some (.int a4), some (.int (Int32.ofNat i4))] [.int v8, .int a4] z1.2 (Qb (F_askOf s k))) (fun cc kk => ?_) (fun cc kk => ?_) (fun v8 e8 => ?_)
          · skip
            refine UP.ifT rfl cc ?_
            refine UP.stp 1 (i1 := 56) (L1 := [some (.ref 123), u4_1, some (.int z1.1), some (.int a2.1), some (.int a2.2), some (.int (Int32.ofNat i2)), some (.int a3), some (.int (Int32.ofNat i3)), some (.int a4), some (.int (Int32.ofNat i4))]) (st1 := [.int 0, .int a4]) (s1 := z1.2) rfl ?_
            exact kk
          · skip
            refine UP.ifF rfl cc ?_
            refine UP.stp 7 (i1 := 43) (L1 := [some (.ref 123), u4_1, some (.int z1.1), some (.int a2.1), some (.int a2.2), some (.int (Int32.ofNat i2)), some (.int a3), some (.int (Int32.ofNat i3)), some (.int a4), some (.int (Int32.ofNat i4))]) (st1 := [.int ((24 * (Int32.ofNat i3)) + (Int32.ofNat i2)), .ref 147, .int a4]) (s1 := z1.2) rfl ?_
            refine UP.ald (e := 24 * i3 + i2) rfl (ofn_add (ofn_mul rfl rfl) rfl) (by omega) ?_
            show UP m_X7_askOf 44 [some (.ref 123), u4_1, some (.int z1.1), some (.int a2.1), some (.int a2.2), some (.int (Int32.ofNat i2)), some (.int a3), some (.int (Int32.ofNat i3)), some (.int a4), some (.int (Int32.ofNat i4))] [.int (z1.2 147 (24 * i3 + i2)), .int a4] z1.2 (Qb (F_askOf s k))
            refine UP.stp 7 (i1 := 51) (L1 := [some (.ref 123), u4_1, some (.int z1.1), some (.int a2.1), some (.int a2.2), some (.int (Int32.ofNat i2)), some (.int a3), some (.int (Int32.ofNat i3)), some (.int a4), some (.int (Int32.ofNat i4))]) (st1 := [.int ((24 * (Int32.ofNat i4)) + (Int32.ofNat i2)), .ref 147, .int (z1.2 147 (24 * i3 + i2)), .int a4]) (s1 := z1.2) rfl ?_
            refine UP.ald (e := 24 * i4 + i2) rfl (ofn_add (ofn_mul rfl rfl) rfl) (by omega) ?_
            show UP m_X7_askOf 52 [some (.ref 123), u4_1, some (.int z1.1), some (.int a2.1), some (.int a2.2), some (.int (Int32.ofNat i2)), some (.int a3), some (.int (Int32.ofNat i3)), some (.int a4), some (.int (Int32.ofNat i4))] [.int (z1.2 147 (24 * i4 + i2)), .int (z1.2 147 (24 * i3 + i2)), .int a4] z1.2 (Qb (F_askOf s k))
            refine mrg (m_cmp .ne (z1.2 147 (24 * i3 + i2)) (z1.2 147 (24 * i4 + i2))) (0 : Int32) (1 : Int32) (fun v7 : Int32 => UP m_X7_askOf 56 [some (.ref 123), u4_1, some (.int z1.1), some (.int a2.1), some (.int a2.2), some (.int (Int32.ofNat i2)), some (.int a3), some (.int (Int32.ofNat i3)), some (.int a4), some (.int (Int32.ofNat i4))] [.int v7, .int a4] z1.2 (Qb (F_askOf s k))) (fun cc kk => ?_) (fun cc kk => ?_) (fun v7 e7 => ?_)
            · skip
              refine UP.icT rfl cc ?_
              refine UP.stp 1 (i1 := 56) (L1 := [some (.ref 123), u4_1, some (.int z1.1), some (.int a2.1), some (.int a2.2), some (.int (Int32.ofNat i2)), some (.int a3), some (.int (Int32.ofNat i3)), some (.int a4), some (.int (Int32.ofNat i4))]) (st1 := [.int 0, .int a4]) (s1 := z1.2) rfl ?_
              exact kk
            · skip
              refine UP.icF rfl cc ?_
              refine UP.stp 2 (i1 := 56) (L1 := [some (.ref 123), u4_1, some (.int z1.1), some (.int a2.1), some (.int a2.2), some (.int (Int32.ofNat i2)), some (.int a3), some (.int (Int32.ofNat i3)), some (.int a4), some (.int (Int32.ofNat i4))]) (st1 := [.int 1, .int a4]) (s1 := z1.2) rfl ?_
              exact kk
            subst e7
            exact kk
          subst e8
          exact kk
        refine UP.stp 1 (i1 := 57) (L1 := [some (.ref 123), u4_1, some (.int z1.1), some (.int a2.1), some (.int a2.2), some (.int (Int32.ofNat i2)), some (.int a3), some (.int (Int32.ofNat i3)), some (.int a4), some (.int (Int32.ofNat i4))]) (st1 := [.int (a4 + v9)]) (s1 := z1.2) rfl ?_
        refine nm (G := fun v10 => UP m_X7_askOf 57 [some (.ref 123), u4_1, some (.int z1.1), some (.int a2.1), some (.int a2.2), some (.int (Int32.ofNat i2)), some (.int a3), some (.int (Int32.ofNat i3)), some (.int a4), some (.int (Int32.ofNat i4))] [.int v10] z1.2 (Qb (F_askOf s k))) (a4 + v9) (fun v10 e10 => ?_)
        refine UP.stp 3 (i1 := 24) (L1 := [some (.ref 123), u4_1, some (.int z1.1), some (.int a2.1), some (.int a2.2), some (.int (Int32.ofNat i2)), some (.int a3), some (.int (Int32.ofNat i3)), some (.int v10), some (.int ((Int32.ofNat i4) + 1))]) (st1 := []) (s1 := z1.2) rfl ?_
        subst e10 e9
        rw [ofn_s]
        try dsimp only [B_askOf_24] at kk
        exact kk _
      intro u4_1
      refine UP.stp 2 (i1 := 26) (L1 := [some (.ref 123), u4_1, some (.int z1.1), some (.int a2.1), some (.int a2.2), some (.int (Int32.ofNat i2)), some (.int a3), some (.int (Int32.ofNat i3)), some (.int z4), some (.int (Int32.ofNat 10))]) (st1 := [.int 10, .int (Int32.ofNat 10)]) (s1 := z1.2) rfl ?_
      refine UP.icT rfl (ge_T (10 : Int32)) ?_
      refine UP.stp 2 (i1 := 62) (L1 := [some (.ref 123), u4_1, some (.int z1.1), some (.int a2.1), some (.int a2.2), some (.int (Int32.ofNat i2)), some (.int a3), some (.int (Int32.ofNat i3)), some (.int z4), some (.int (Int32.ofNat 10))]) (st1 := [.int a3, .int z4]) (s1 := z1.2) rfl ?_
      refine mrg (m_cmp .le z4 a3) a3 z4 (fun v11 : Int32 => UP m_X7_askOf 66 [some (.ref 123), u4_1, some (.int z1.1), some (.int a2.1), some (.int a2.2), some (.int (Int32.ofNat i2)), some (.int a3), some (.int (Int32.ofNat i3)), some (.int z4), some (.int (Int32.ofNat 10))] [.int v11] z1.2 (Qb (F_askOf s k))) (fun cc kk => ?_) (fun cc kk => ?_) (fun v11 e11 => ?_)
      · skip
        refine UP.icT rfl cc ?_
        refine UP.stp 1 (i1 := 66) (L1 := [some (.ref 123), u4_1, some (.int z1.1), some (.int a2.1), some (.int a2.2), some (.int (Int32.ofNat i2)), some (.int a3), some (.int (Int32.ofNat i3)), some (.int z4), some (.int (Int32.ofNat 10))]) (st1 := [.int a3]) (s1 := z1.2) rfl ?_
        exact kk
      · skip
        refine UP.icF rfl cc ?_
        refine UP.stp 2 (i1 := 66) (L1 := [some (.ref 123), u4_1, some (.int z1.1), some (.int a2.1), some (.int a2.2), some (.int (Int32.ofNat i2)), some (.int a3), some (.int (Int32.ofNat i3)), some (.int z4), some (.int (Int32.ofNat 10))]) (st1 := [.int z4]) (s1 := z1.2) rfl ?_
        exact kk
      refine UP.stp 3 (i1 := 17) (L1 := [some (.ref 123), u4_1, some (.int z1.1), some (.int a2.1), some (.int a2.2), some (.int (Int32.ofNat i2)), some (.int v11), some (.int ((Int32.ofNat i3) + 1)), some (.int z4), some (.int (Int32.ofNat 10))]) (st1 := []) (s1 := z1.2) rfl ?_
      subst e11 e4
      rw [ofn_s]
      try dsimp only [B_askOf_17] at kk
      exact kk _ _ _
    intro u3_1 u3_8 u3_9
    refine UP.stp 2 (i1 := 19) (L1 := [some (.ref 123), u3_1, some (.int z1.1), some (.int a2.1), some (.int a2.2), some (.int (Int32.ofNat i2)), some (.int z3), some (.int (Int32.ofNat 10)), u3_8, u3_9]) (st1 := [.int 10, .int (Int32.ofNat 10)]) (s1 := z1.2) rfl ?_
    refine UP.icT rfl (ge_T (10 : Int32)) ?_
    refine UP.stp 2 (i1 := 71) (L1 := [some (.ref 123), u3_1, some (.int z1.1), some (.int a2.1), some (.int a2.2), some (.int (Int32.ofNat i2)), some (.int z3), some (.int (Int32.ofNat 10)), u3_8, u3_9]) (st1 := [.int (-1), .int a2.1]) (s1 := z1.2) rfl ?_
    refine mrg (m_cmp .eq a2.1 (-1)) (1 : Int32) (bif m_cmp .ge z3 a2.2 then (0 : Int32) else (1 : Int32)) (fun v13 : Int32 => UP m_X7_askOf 78 [some (.ref 123), u3_1, some (.int z1.1), some (.int a2.1), some (.int a2.2), some (.int (Int32.ofNat i2)), some (.int z3), some (.int (Int32.ofNat 10)), u3_8, u3_9] [.int v13] z1.2 (Qb (F_askOf s k))) (fun cc kk => ?_) (fun cc kk => ?_) (fun v13 e13 => ?_)
    · skip
      refine UP.icT rfl cc ?_
      refine UP.stp 2 (i1 := 78) (L1 := [some (.ref 123), u3_1, some (.int z1.1), some (.int a2.1), some (.int a2.2), some (.int (Int32.ofNat i2)), some (.int z3), some (.int (Int32.ofNat 10)), u3_8, u3_9]) (st1 := [.int 1]) (s1 := z1.2) rfl ?_
      exact kk
    · skip
      refine UP.icF rfl cc ?_
      refine UP.stp 2 (i1 := 74) (L1 := [some (.ref 123), u3_1, some (.int z1.1), some (.int a2.1), some (.int a2.2), some (.int (Int32.ofNat i2)), some (.int z3), some (.int (Int32.ofNat 10)), u3_8, u3_9]) (st1 := [.int a2.2, .int z3]) (s1 := z1.2) rfl ?_
      refine mrg (m_cmp .ge z3 a2.2) (0 : Int32) (1 : Int32) (fun v12 : Int32 => UP m_X7_askOf 78 [some (.ref 123), u3_1, some (.int z1.1), some (.int a2.1), some (.int a2.2), some (.int (Int32.ofNat i2)), some (.int z3), some (.int (Int32.ofNat 10)), u3_8, u3_9] [.int v12] z1.2 (Qb (F_askOf s k))) (fun cc kk => ?_) (fun cc kk => ?_) (fun v12 e12 => ?_)
      · skip
        refine UP.icT rfl cc ?_
        refine UP.stp 1 (i1 := 78) (L1 := [some (.ref 123), u3_1, some (.int z1.1), some (.int a2.1), some (.int a2.2), some (.int (Int32.ofNat i2)), some (.int z3), some (.int (Int32.ofNat 10)), u3_8, u3_9]) (st1 := [.int 0]) (s1 := z1.2) rfl ?_
        exact kk
      · skip
        refine UP.icF rfl cc ?_
        refine UP.stp 2 (i1 := 78) (L1 := [some (.ref 123), u3_1, some (.int z1.1), some (.int a2.1), some (.int a2.2), some (.int (Int32.ofNat i2)), some (.int z3), some (.int (Int32.ofNat 10)), u3_8, u3_9]) (st1 := [.int 1]) (s1 := z1.2) rfl ?_
        exact kk
      subst e12
      exact kk
    refine UP.stp 2 (i1 := 80) (L1 := [some (.ref 123), u3_1, some (.int z1.1), some (.int a2.1), some (.int a2.2), some (.int (Int32.ofNat i2)), some (.int z3), some (.int v13), u3_8, u3_9]) (st1 := [.int v13]) (s1 := z1.2) rfl ?_
    refine mrg (m_cmp .eq v13 0) a2.1 (Int32.ofNat i2) (fun v14 : Int32 => UP m_X7_askOf 84 [some (.ref 123), u3_1, some (.int z1.1), some (.int a2.1), some (.int a2.2), some (.int (Int32.ofNat i2)), some (.int z3), some (.int v13), u3_8, u3_9] [.int v14] z1.2 (Qb (F_askOf s k))) (fun cc kk => ?_) (fun cc kk => ?_) (fun v14 e14 => ?_)
    · skip
      refine UP.ifT rfl cc ?_
      refine UP.stp 1 (i1 := 84) (L1 := [some (.ref 123), u3_1, some (.int z1.1), some (.int a2.1), some (.int a2.2), some (.int (Int32.ofNat i2)), some (.int z3), some (.int v13), u3_8, u3_9]) (st1 := [.int a2.1]) (s1 := z1.2) rfl ?_
      exact kk
    · skip
      refine UP.ifF rfl cc ?_
      refine UP.stp 2 (i1 := 84) (L1 := [some (.ref 123), u3_1, some (.int z1.1), some (.int a2.1), some (.int a2.2), some (.int (Int32.ofNat i2)), some (.int z3), some (.int v13), u3_8, u3_9]) (st1 := [.int (Int32.ofNat i2)]) (s1 := z1.2) rfl ?_
      exact kk
    refine UP.stp 2 (i1 := 86) (L1 := [some (.ref 123), u3_1, some (.int z1.1), some (.int v14), some (.int a2.2), some (.int (Int32.ofNat i2)), some (.int z3), some (.int v13), u3_8, u3_9]) (st1 := [.int v13]) (s1 := z1.2) rfl ?_
    refine mrg (m_cmp .eq v13 0) a2.2 z3 (fun v15 : Int32 => UP m_X7_askOf 90 [some (.ref 123), u3_1, some (.int z1.1), some (.int v14), some (.int a2.2), some (.int (Int32.ofNat i2)), some (.int z3), some (.int v13), u3_8, u3_9] [.int v15] z1.2 (Qb (F_askOf s k))) (fun cc kk => ?_) (fun cc kk => ?_) (fun v15 e15 => ?_)
    · skip
      refine UP.ifT rfl cc ?_
      refine UP.stp 1 (i1 := 90) (L1 := [some (.ref 123), u3_1, some (.int z1.1), some (.int v14), some (.int a2.2), some (.int (Int32.ofNat i2)), some (.int z3), some (.int v13), u3_8, u3_9]) (st1 := [.int a2.2]) (s1 := z1.2) rfl ?_
      exact kk
    · skip
      refine UP.ifF rfl cc ?_
      refine UP.stp 2 (i1 := 90) (L1 := [some (.ref 123), u3_1, some (.int z1.1), some (.int v14), some (.int a2.2), some (.int (Int32.ofNat i2)), some (.int z3), some (.int v13), u3_8, u3_9]) (st1 := [.int z3]) (s1 := z1.2) rfl ?_
      exact kk
    refine UP.stp 3 (i1 := 10) (L1 := [some (.ref 123), u3_1, some (.int z1.1), some (.int v14), some (.int v15), some (.int ((Int32.ofNat i2) + 1)), some (.int z3), some (.int v13), u3_8, u3_9]) (st1 := []) (s1 := z1.2) rfl ?_
    subst e15 e14 e13 e3
    rw [ofn_s]
    try dsimp only [B_askOf_10] at kk
    exact kk _ _ _ _ _
  intro u2_1 u2_6 u2_7 u2_8 u2_9
  refine UP.stp 2 (i1 := 12) (L1 := [some (.ref 123), u2_1, some (.int z1.1), some (.int z2.1), some (.int z2.2), some (.int (Int32.ofNat 24)), u2_6, u2_7, u2_8, u2_9]) (st1 := [.int 24, .int (Int32.ofNat 24)]) (s1 := z1.2) rfl ?_
  refine UP.icT rfl (ge_T (24 : Int32)) ?_
  refine UP.stp 1 (i1 := 94) (L1 := [some (.ref 123), u2_1, some (.int z1.1), some (.int z2.1), some (.int z2.2), some (.int (Int32.ofNat 24)), u2_6, u2_7, u2_8, u2_9]) (st1 := [.int z2.1]) (s1 := z1.2) rfl ?_
  exact UP.ret (r := some (.int z2.1)) rfl ⟨by subst e2 e1; first | (dsimp only [F_askOf]; done) | (dsimp only; done) | rfl, by subst e2 e1; first | (dsimp only [F_askOf]; done) | (dsimp only; done) | rfl⟩
end
section
def W_ask : List (Nat × Nat × Option Nat) := [(126, 129, none), (133, 144, none), (147, 147, none), (123, 123, some 2), (123, 123, some 5), (123, 123, some 7), (123, 123, some 17), (123, 123, some 19), (123, 123, some 20), (123, 123, some 21), (123, 123, some 22), (123, 123, some 23), (123, 123, some 24), (123, 123, some 25), (123, 123, some 26), (123, 123, some 27)]
def F_ask (s : SG) (seat : Int32) : Int32 × SG := let z1 := F_isRower s seat; let w3 := bif m_cmp .eq z1.1 0 then ((-2 : Int32), z1.2) else (F_askOf z1.2 seat); w3
set_option maxRecDepth 20000 in
set_option maxHeartbeats 200000 in
theorem fr_ask (s : SG) (seat : Int32)  : Fr W_ask s (F_ask s seat).2 := by dsimp only [F_ask]; exact (let z1 : Int32 × SG := F_isRower s seat; (Fr.bifp (b := m_cmp .eq z1.1 0) (x := ((-2 : Int32), z1.2)) (y := (F_askOf z1.2 seat)) (fun x : Int32 × SG => x.2) (by (try dsimp only); exact (Fr.tr (s1 := s) (Fr.rf _ _) (Fr.wk (W2 := W_ask) (fr_isRower s seat) (by rfl)))) (by (try dsimp only); exact (Fr.tr (s1 := z1.2) (Fr.tr (s1 := s) (Fr.rf _ _) (Fr.wk (W2 := W_ask) (fr_isRower s seat) (by rfl))) (Fr.wk (W2 := W_ask) (fr_askOf z1.2 seat) (by rfl))))))
set_option maxRecDepth 20000 in
set_option maxHeartbeats 200000 in
theorem ux_ask (s : SG) (seat : Int32)  : UP m_X7_ask 0 (m_ent 2 [.ref 123, .int seat]) [] s (Qb (F_ask s seat)) := by
  refine UP.stp 2 (i1 := 2) (L1 := [some (.ref 123), some (.int seat)]) (st1 := [.int seat, .ref 123]) (s1 := s) rfl ?_
  refine UP.cB (M1 := m_X7_isRower) (as := [.ref 123, .int seat]) (rest := []) (T := F_isRower s seat) rfl rfl (ux_isRower s seat) (fun z1 e1 => ?_)
  refine mrg (m_cmp .eq z1.1 0) ((-2 : Int32), z1.2) (F_askOf z1.2 seat) (fun w3 : Int32 × SG => UP m_X7_ask 9 [some (.ref 123), some (.int seat)] [.int w3.1] w3.2 (Qb (F_ask s seat))) (fun cc kk => ?_) (fun cc kk => ?_) (fun w3 e3 => ?_)
  · skip
    refine UP.ifT rfl cc ?_
    refine UP.stp 1 (i1 := 9) (L1 := [some (.ref 123), some (.int seat)]) (st1 := [.int (-2)]) (s1 := z1.2) rfl ?_
    exact kk
  · skip
    refine UP.ifF rfl cc ?_
    refine UP.stp 2 (i1 := 6) (L1 := [some (.ref 123), some (.int seat)]) (st1 := [.int seat, .ref 123]) (s1 := z1.2) rfl ?_
    refine UP.cB (M1 := m_X7_askOf) (as := [.ref 123, .int seat]) (rest := []) (T := F_askOf z1.2 seat) rfl rfl (ux_askOf z1.2 seat) (fun z2 e2 => ?_)
    refine UP.stp 1 (i1 := 9) (L1 := [some (.ref 123), some (.int seat)]) (st1 := [.int z2.1]) (s1 := z2.2) rfl ?_
    subst e2
    exact kk
  exact UP.ret (r := some (.int w3.1)) rfl ⟨by subst e3 e1; first | (dsimp only [F_ask]; done) | (dsimp only; done) | rfl, by subst e3 e1; first | (dsimp only [F_ask]; done) | (dsimp only; done) | rfl⟩
def W_isSpared : List (Nat × Nat × Option Nat) := [(126, 129, none), (133, 144, none), (147, 147, none), (123, 123, some 2), (123, 123, some 5), (123, 123, some 7), (123, 123, some 17), (123, 123, some 19), (123, 123, some 20), (123, 123, some 21), (123, 123, some 22), (123, 123, some 23), (123, 123, some 24), (123, 123, some 25), (123, 123, some 26), (123, 123, some 27)]
def F_isSpared (s : SG) (not_ : Int32) : Int32 × SG := let z1 := F_runs (uset s 123 17 not_) ; let v2 := bif m_cmp .ne (z1 123 22) 0 then (0 : Int32) else (1 : Int32); (v2, z1)
set_option maxRecDepth 20000 in
set_option maxHeartbeats 200000 in
theorem fr_isSpared (s : SG) (not_ : Int32)  : Fr W_isSpared s (F_isSpared s not_).2 := by dsimp only [F_isSpared]; exact (Fr.tr (s1 := (uset s 123 17 not_)) (Fr.uset (s1 := s) (a := 123) (j := 17) (x := not_) (by rfl) (Fr.rf _ _)) (Fr.wk (W2 := W_isSpared) (fr_runs (uset s 123 17 not_) ) (by rfl)))
set_option maxRecDepth 20000 in
set_option maxHeartbeats 200000 in
theorem ux_isSpared (s : SG) (not_ : Int32)  : UP m_X7_isSpared 0 (m_ent 2 [.ref 123, .int not_]) [] s (Qb (F_isSpared s not_)) := by
  refine UP.stp 4 (i1 := 4) (L1 := [some (.ref 123), some (.int not_)]) (st1 := [.ref 123]) (s1 := (uset s 123 17 not_)) rfl ?_
  refine UP.cV (M1 := m_X7_runs) (as := [.ref 123]) (rest := []) (T := F_runs (uset s 123 17 not_) ) rfl rfl (ux_runs (uset s 123 17 not_) ) (fun z1 e1 => ?_)
  refine UP.stp 2 (i1 := 7) (L1 := [some (.ref 123), some (.int not_)]) (st1 := [.int (z1 123 22)]) (s1 := z1) rfl ?_
  refine mrg (m_cmp .ne (z1 123 22) 0) (0 : Int32) (1 : Int32) (fun v2 : Int32 => UP m_X7_isSpared 11 [some (.ref 123), some (.int not_)] [.int v2] z1 (Qb (F_isSpared s not_))) (fun cc kk => ?_) (fun cc kk => ?_) (fun v2 e2 => ?_)
  · skip
    refine UP.ifT rfl cc ?_
    refine UP.stp 1 (i1 := 11) (L1 := [some (.ref 123), some (.int not_)]) (st1 := [.int 0]) (s1 := z1) rfl ?_
    exact kk
  · skip
    refine UP.ifF rfl cc ?_
    refine UP.stp 2 (i1 := 11) (L1 := [some (.ref 123), some (.int not_)]) (st1 := [.int 1]) (s1 := z1) rfl ?_
    exact kk
  exact UP.ret (r := some (.int v2)) rfl ⟨by subst e2 e1; first | (dsimp only [F_isSpared]; done) | (dsimp only; done) | rfl, by subst e2 e1; first | (dsimp only [F_isSpared]; done) | (dsimp only; done) | rfl⟩
def W_ofRow : List (Nat × Nat × Option Nat) := []
def F_ofRow (s : SG) (n : Int32) (i : Int32) : Int32 := let v2 := bif m_cmp .ne i (-1) then (bif m_cmp .ge i n then (-1 : Int32) else s 144 i.toNatClampNeg) else n; v2
set_option maxRecDepth 20000 in
set_option maxHeartbeats 200000 in
theorem ux_ofRow (s : SG) (n : Int32) (i : Int32)  : UP m_X7_ofRow 0 (m_ent 3 [.ref 123, .int n, .int i]) [] s (Qi s (F_ofRow s n i)) := by
  refine UP.stp 2 (i1 := 2) (L1 := [some (.ref 123), some (.int n), some (.int i)]) (st1 := [.int (-1), .int i]) (s1 := s) rfl ?_
  refine mrg (m_cmp .ne i (-1)) (bif m_cmp .ge i n then (-1 : Int32) else s 144 i.toNatClampNeg) n (fun v2 : Int32 => UP m_X7_ofRow 14 [some (.ref 123), some (.int n), some (.int i)] [.int v2] s (Qi s (F_ofRow s n i))) (fun cc kk => ?_) (fun cc kk => ?_) (fun v2 e2 => ?_)
  · skip
    refine UP.icT rfl cc ?_
    refine UP.stp 2 (i1 := 7) (L1 := [some (.ref 123), some (.int n), some (.int i)]) (st1 := [.int n, .int i]) (s1 := s) rfl ?_
    refine mrg (m_cmp .ge i n) (-1 : Int32) (s 144 i.toNatClampNeg) (fun v1 : Int32 => UP m_X7_ofRow 14 [some (.ref 123), some (.int n), some (.int i)] [.int v1] s (Qi s (F_ofRow s n i))) (fun cc kk => ?_) (fun cc kk => ?_) (fun v1 e1 => ?_)
    · skip
      refine UP.icT rfl cc ?_
      refine UP.stp 1 (i1 := 14) (L1 := [some (.ref 123), some (.int n), some (.int i)]) (st1 := [.int (-1)]) (s1 := s) rfl ?_
      exact kk
    · skip
      refine UP.icF rfl cc ?_
      refine UP.stp 5 (i1 := 14) (L1 := [some (.ref 123), some (.int n), some (.int i)]) (st1 := [.int (s 144 i.toNatClampNeg)]) (s1 := s) rfl ?_
      exact kk
    subst e1
    exact kk
  · skip
    refine UP.icF rfl cc ?_
    refine UP.stp 2 (i1 := 14) (L1 := [some (.ref 123), some (.int n), some (.int i)]) (st1 := [.int n]) (s1 := s) rfl ?_
    exact kk
  exact UP.ret (r := some (.int v2)) rfl ⟨by subst e2; first | (dsimp only [F_ofRow]; done) | (dsimp only; done) | rfl, by subst e2; first | (dsimp only [F_ofRow]; done) | (dsimp only; done) | rfl⟩
end
section
/-! the model: what changes what was told (printed by wip/u/mk_m3.py) -/
def W_meets : List (Nat × Nat × Option Nat) := [(123, 123, some 46)]
def F_meets (s : SG) (number : Int32) : Int32 × SG := ((-10) - number, (uset s 123 46 number))
set_option maxRecDepth 20000 in
set_option maxHeartbeats 200000 in
theorem fr_meets (s : SG) (number : Int32)  : Fr W_meets s (F_meets s number).2 := by dsimp only [F_meets]; exact (Fr.uset (s1 := s) (a := 123) (j := 46) (x := number) (by rfl) (Fr.rf _ _))
set_option maxRecDepth 20000 in
set_option maxHeartbeats 200000 in
theorem ux_meets (s : SG) (number : Int32)  : UP m_X7_meets 0 (m_ent 2 [.ref 123, .int number]) [] s (Qb (F_meets s number)) := by
  refine UP.stp 6 (i1 := 6) (L1 := [some (.ref 123), some (.int number)]) (st1 := [.int ((-10) - number)]) (s1 := (uset s 123 46 number)) rfl ?_
  exact UP.ret (r := some (.int ((-10) - number))) rfl ⟨by first | (dsimp only [F_meets]; done) | (dsimp only; done) | rfl, by first | (dsimp only [F_meets]; done) | (dsimp only; done) | rfl⟩
end
section
def W_river : List (Nat × Nat × Option Nat) := [(123, 123, some 9), (123, 123, some 10)]
def F_river (s : SG) (what : Int32) (v : Int32) : Int32 × SG := bif m_cmp .eq (F_isTwo s what) 0 then (((-2), s)) else (bif m_cmp .ne what 0 then (bif m_cmp .ne what 1 then (let v8 := bif m_cmp .ne what 0 then s 123 10 else s 123 9; let v9 := bif m_cmp .ne what 0 then s 123 9 else v; let v10 := bif m_cmp .ne what 1 then s 123 10 else v; (v8, (uset (uset s 123 9 v9) 123 10 v10))) else (bif m_cmp .ne (F_in s v 50 999) 0 then (let v14 := bif m_cmp .ne what 0 then s 123 10 else s 123 9; let v15 := bif m_cmp .ne what 0 then s 123 9 else v; let v16 := bif m_cmp .ne what 1 then s 123 10 else v; (v14, (uset (uset s 123 9 v15) 123 10 v16))) else (((-2), s)))) else (bif m_cmp .eq (F_in s v 0 9) 0 then (((-2), s)) else (bif m_cmp .ne what 1 then (let v22 := bif m_cmp .ne what 0 then s 123 10 else s 123 9; let v23 := bif m_cmp .ne what 0 then s 123 9 else v; let v24 := bif m_cmp .ne what 1 then s 123 10 else v; (v22, (uset (uset s 123 9 v23) 123 10 v24))) else (bif m_cmp .ne (F_in s v 50 999) 0 then (let v28 := bif m_cmp .ne what 0 then s 123 10 else s 123 9; let v29 := bif m_cmp .ne what 0 then s 123 9 else v; let v30 := bif m_cmp .ne what 1 then s 123 10 else v; (v28, (uset (uset s 123 9 v29) 123 10 v30))) else (((-2), s))))))
set_option maxRecDepth 20000 in
set_option maxHeartbeats 200000 in
theorem fr_river (s : SG) (what : Int32) (v : Int32)  : Fr W_river s (F_river s what v).2 := by dsimp only [F_river]; exact (Fr.bifp (b := m_cmp .eq (F_isTwo s what) 0) (x := ((-2), s)) (y := bif m_cmp .ne what 0 then (bif m_cmp .ne what 1 then (let v8 := bif m_cmp .ne what 0 then s 123 10 else s 123 9; let v9 := bif m_cmp .ne what 0 then s 123 9 else v; let v10 := bif m_cmp .ne what 1 then s 123 10 else v; (v8, (uset (uset s 123 9 v9) 123 10 v10))) else (bif m_cmp .ne (F_in s v 50 999) 0 then (let v14 := bif m_cmp .ne what 0 then s 123 10 else s 123 9; let v15 := bif m_cmp .ne what 0 then s 123 9 else v; let v16 := bif m_cmp .ne what 1 then s 123 10 else v; (v14, (uset (uset s 123 9 v15) 123 10 v16))) else (((-2), s)))) else (bif m_cmp .eq (F_in s v 0 9) 0 then (((-2), s)) else (bif m_cmp .ne what 1 then (let v22 := bif m_cmp .ne what 0 then s 123 10 else s 123 9; let v23 := bif m_cmp .ne what 0 then s 123 9 else v; let v24 := bif m_cmp .ne what 1 then s 123 10 else v; (v22, (uset (uset s 123 9 v23) 123 10 v24))) else (bif m_cmp .ne (F_in s v 50 999) 0 then (let v28 := bif m_cmp .ne what 0 then s 123 10 else s 123 9; let v29 := bif m_cmp .ne what 0 then s 123 9 else v; let v30 := bif m_cmp .ne what 1 then s 123 10 else v; (v28, (uset (uset s 123 9 v29) 123 10 v30))) else (((-2), s)))))) (fun x : Int32 × SG => x.2) (by (try dsimp only); exact (Fr.rf _ _)) (by (try dsimp only); exact (Fr.bifp (b := m_cmp .ne what 0) (x := bif m_cmp .ne what 1 then (let v8 := bif m_cmp .ne what 0 then s 123 10 else s 123 9; let v9 := bif m_cmp .ne what 0 then s 123 9 else v; let v10 := bif m_cmp .ne what 1 then s 123 10 else v; (v8, (uset (uset s 123 9 v9) 123 10 v10))) else (bif m_cmp .ne (F_in s v 50 999) 0 then (let v14 := bif m_cmp .ne what 0 then s 123 10 else s 123 9; let v15 := bif m_cmp .ne what 0 then s 123 9 else v; let v16 := bif m_cmp .ne what 1 then s 123 10 else v; (v14, (uset (uset s 123 9 v15) 123 10 v16))) else (((-2), s)))) (y := bif m_cmp .eq (F_in s v 0 9) 0 then (((-2), s)) else (bif m_cmp .ne what 1 then (let v22 := bif m_cmp .ne what 0 then s 123 10 else s 123 9; let v23 := bif m_cmp .ne what 0 then s 123 9 else v; let v24 := bif m_cmp .ne what 1 then s 123 10 else v; (v22, (uset (uset s 123 9 v23) 123 10 v24))) else (bif m_cmp .ne (F_in s v 50 999) 0 then (let v28 := bif m_cmp .ne what 0 then s 123 10 else s 123 9; let v29 := bif m_cmp .ne what 0 then s 123 9 else v; let v30 := bif m_cmp .ne what 1 then s 123 10 else v; (v28, (uset (uset s 123 9 v29) 123 10 v30))) else (((-2), s))))) (fun x : Int32 × SG => x.2) (by (try dsimp only); exact (Fr.bifp (b := m_cmp .ne what 1) (x := let v8 := bif m_cmp .ne what 0 then s 123 10 else s 123 9; let v9 := bif m_cmp .ne what 0 then s 123 9 else v; let v10 := bif m_cmp .ne what 1 then s 123 10 else v; (v8, (uset (uset s 123 9 v9) 123 10 v10))) (y := bif m_cmp .ne (F_in s v 50 999) 0 then (let v14 := bif m_cmp .ne what 0 then s 123 10 else s 123 9; let v15 := bif m_cmp .ne what 0 then s 123 9 else v; let v16 := bif m_cmp .ne what 1 then s 123 10 else v; (v14, (uset (uset s 123 9 v15) 123 10 v16))) else (((-2), s))) (fun x : Int32 × SG => x.2) (by (try dsimp only); exact (let v9 : Int32 := bif m_cmp .ne what 0 then s 123 9 else v; (let v10 : Int32 := bif m_cmp .ne what 1 then s 123 10 else v; (Fr.uset (s1 := (uset s 123 9 v9)) (a := 123) (j := 10) (x := v10) (by rfl) (Fr.uset (s1 := s) (a := 123) (j := 9) (x := v9) (by rfl) (Fr.rf _ _)))))) (by (try dsimp only); exact (Fr.bifp (b := m_cmp .ne (F_in s v 50 999) 0) (x := let v14 := bif m_cmp .ne what 0 then s 123 10 else s 123 9; let v15 := bif m_cmp .ne what 0 then s 123 9 else v; let v16 := bif m_cmp .ne what 1 then s 123 10 else v; (v14, (uset (uset s 123 9 v15) 123 10 v16))) (y := ((-2), s)) (fun x : Int32 × SG => x.2) (by (try dsimp only); exact (let v15 : Int32 := bif m_cmp .ne what 0 then s 123 9 else v; (let v16 : Int32 := bif m_cmp .ne what 1 then s 123 10 else v; (Fr.uset (s1 := (uset s 123 9 v15)) (a := 123) (j := 10) (x := v16) (by rfl) (Fr.uset (s1 := s) (a := 123) (j := 9) (x := v15) (by rfl) (Fr.rf _ _)))))) (by (try dsimp only); exact (Fr.rf _ _)))))) (by (try dsimp only); exact (Fr.bifp (b := m_cmp .eq (F_in s v 0 9) 0) (x := ((-2), s)) (y := bif m_cmp .ne what 1 then (let v22 := bif m_cmp .ne what 0 then s 123 10 else s 123 9; let v23 := bif m_cmp .ne what 0 then s 123 9 else v; let v24 := bif m_cmp .ne what 1 then s 123 10 else v; (v22, (uset (uset s 123 9 v23) 123 10 v24))) else (bif m_cmp .ne (F_in s v 50 999) 0 then (let v28 := bif m_cmp .ne what 0 then s 123 10 else s 123 9; let v29 := bif m_cmp .ne what 0 then s 123 9 else v; let v30 := bif m_cmp .ne what 1 then s 123 10 else v; (v28, (uset (uset s 123 9 v29) 123 10 v30))) else (((-2), s)))) (fun x : Int32 × SG => x.2) (by (try dsimp only); exact (Fr.rf _ _)) (by (try dsimp only); exact (Fr.bifp (b := m_cmp .ne what 1) (x := let v22 := bif m_cmp .ne what 0 then s 123 10 else s 123 9; let v23 := bif m_cmp .ne what 0 then s 123 9 else v; let v24 := bif m_cmp .ne what 1 then s 123 10 else v; (v22, (uset (uset s 123 9 v23) 123 10 v24))) (y := bif m_cmp .ne (F_in s v 50 999) 0 then (let v28 := bif m_cmp .ne what 0 then s 123 10 else s 123 9; let v29 := bif m_cmp .ne what 0 then s 123 9 else v; let v30 := bif m_cmp .ne what 1 then s 123 10 else v; (v28, (uset (uset s 123 9 v29) 123 10 v30))) else (((-2), s))) (fun x : Int32 × SG => x.2) (by (try dsimp only); exact (let v23 : Int32 := bif m_cmp .ne what 0 then s 123 9 else v; (let v24 : Int32 := bif m_cmp .ne what 1 then s 123 10 else v; (Fr.uset (s1 := (uset s 123 9 v23)) (a := 123) (j := 10) (x := v24) (by rfl) (Fr.uset (s1 := s) (a := 123) (j := 9) (x := v23) (by rfl) (Fr.rf _ _)))))) (by (try dsimp only); exact (Fr.bifp (b := m_cmp .ne (F_in s v 50 999) 0) (x := let v28 := bif m_cmp .ne what 0 then s 123 10 else s 123 9; let v29 := bif m_cmp .ne what 0 then s 123 9 else v; let v30 := bif m_cmp .ne what 1 then s 123 10 else v; (v28, (uset (uset s 123 9 v29) 123 10 v30))) (y := ((-2), s)) (fun x : Int32 × SG => x.2) (by (try dsimp only); exact (let v29 : Int32 := bif m_cmp .ne what 0 then s 123 9 else v; (let v30 : Int32 := bif m_cmp .ne what 1 then s 123 10 else v; (Fr.uset (s1 := (uset s 123 9 v29)) (a := 123) (j := 10) (x := v30) (by rfl) (Fr.uset (s1 := s) (a := 123) (j := 9) (x := v29) (by rfl) (Fr.rf _ _)))))) (by (try dsimp only); exact (Fr.rf _ _)))))))))))
set_option maxRecDepth 20000 in
set_option maxHeartbeats 200000 in
theorem ux_river (s : SG) (what : Int32) (v : Int32)  : UP m_X7_river 0 (m_ent 4 [.ref 123, .int what, .int v]) [] s (Qb (F_river s what v)) := by
  refine UP.stp 1 (i1 := 1) (L1 := [some (.ref 123), some (.int what), some (.int v), none]) (st1 := [.int what]) (s1 := s) rfl ?_
  refine UP.cI (M1 := m_X7_isTwo) (as := [.int what]) (rest := []) (T := F_isTwo s what) rfl rfl (ux_isTwo s what) ?_
  refine UP.spl (m_cmp .eq (F_isTwo s what) 0) (((-2), s)) (bif m_cmp .ne what 0 then (bif m_cmp .ne what 1 then (let v8 := bif m_cmp .ne what 0 then s 123 10 else s 123 9; let v9 := bif m_cmp .ne what 0 then s 123 9 else v; let v10 := bif m_cmp .ne what 1 then s 123 10 else v; (v8, (uset (uset s 123 9 v9) 123 10 v10))) else (bif m_cmp .ne (F_in s v 50 999) 0 then (let v14 := bif m_cmp .ne what 0 then s 123 10 else s 123 9; let v15 := bif m_cmp .ne what 0 then s 123 9 else v; let v16 := bif m_cmp .ne what 1 then s 123 10 else v; (v14, (uset (uset s 123 9 v15) 123 10 v16))) else (((-2), s)))) else (bif m_cmp .eq (F_in s v 0 9) 0 then (((-2), s)) else (bif m_cmp .ne what 1 then (let v22 := bif m_cmp .ne what 0 then s 123 10 else s 123 9; let v23 := bif m_cmp .ne what 0 then s 123 9 else v; let v24 := bif m_cmp .ne what 1 then s 123 10 else v; (v22, (uset (uset s 123 9 v23) 123 10 v24))) else (bif m_cmp .ne (F_in s v 50 999) 0 then (let v28 := bif m_cmp .ne what 0 then s 123 10 else s 123 9; let v29 := bif m_cmp .ne what 0 then s 123 9 else v; let v30 := bif m_cmp .ne what 1 then s 123 10 else v; (v28, (uset (uset s 123 9 v29) 123 10 v30))) else (((-2), s)))))) (by first | (dsimp only [F_river]; done) | (dsimp only; done) | rfl) (fun cc => ?_) (fun cc => ?_)
  · skip
    refine UP.ifT rfl cc ?_
    refine UP.stp 1 (i1 := 19) (L1 := [some (.ref 123), some (.int what), some (.int v), none]) (st1 := [.int (-2)]) (s1 := s) rfl ?_
    exact UP.ret (r := some (.int (-2))) rfl ⟨by first | (dsimp only [F_river]; done) | (dsimp only; done) | rfl, by first | (dsimp only [F_river]; done) | (dsimp only; done) | rfl⟩
  · skip
    refine UP.ifF rfl cc ?_
    refine UP.stp 1 (i1 := 4) (L1 := [some (.ref 123), some (.int what), some (.int v), none]) (st1 := [.int what]) (s1 := s) rfl ?_
    refine UP.spl (m_cmp .ne what 0) (bif m_cmp .ne what 1 then (let v8 := bif m_cmp .ne what 0 then s 123 10 else s 123 9; let v9 := bif m_cmp .ne what 0 then s 123 9 else v; let v10 := bif m_cmp .ne what 1 then s 123 10 else v; (v8, (uset (uset s 123 9 v9) 123 10 v10))) else (bif m_cmp .ne (F_in s v 50 999) 0 then (let v14 := bif m_cmp .ne what 0 then s 123 10 else s 123 9; let v15 := bif m_cmp .ne what 0 then s 123 9 else v; let v16 := bif m_cmp .ne what 1 then s 123 10 else v; (v14, (uset (uset s 123 9 v15) 123 10 v16))) else (((-2), s)))) (bif m_cmp .eq (F_in s v 0 9) 0 then (((-2), s)) else (bif m_cmp .ne what 1 then (let v22 := bif m_cmp .ne what 0 then s 123 10 else s 123 9; let v23 := bif m_cmp .ne what 0 then s 123 9 else v; let v24 := bif m_cmp .ne what 1 then s 123 10 else v; (v22, (uset (uset s 123 9 v23) 123 10 v24))) else (bif m_cmp .ne (F_in s v 50 999) 0 then (let v28 := bif m_cmp .ne what 0 then s 123 10 else s 123 9; let v29 := bif m_cmp .ne what 0 then s 123 9 else v; let v30 := bif m_cmp .ne what 1 then s 123 10 else v; (v28, (uset (uset s 123 9 v29) 123 10 v30))) else (((-2), s))))) (by first | (dsimp only [F_river]; done) | (dsimp only; done) | rfl) (fun cc => ?_) (fun cc => ?_)
    · skip
      refine UP.ifT rfl cc ?_
      refine UP.stp 2 (i1 := 12) (L1 := [some (.ref 123), some (.int what), some (.int v), none]) (st1 := [.int 1, .int what]) (s1 := s) rfl ?_
      refine UP.spl (m_cmp .ne what 1) (let v8 := bif m_cmp .ne what 0 then s 123 10 else s 123 9; let v9 := bif m_cmp .ne what 0 then s 123 9 else v; let v10 := bif m_cmp .ne what 1 then s 123 10 else v; (v8, (uset (uset s 123 9 v9) 123 10 v10))) (bif m_cmp .ne (F_in s v 50 999) 0 then (let v14 := bif m_cmp .ne what 0 then s 123 10 else s 123 9; let v15 := bif m_cmp .ne what 0 then s 123 9 else v; let v16 := bif m_cmp .ne what 1 then s 123 10 else v; (v14, (uset (uset s 123 9 v15) 123 10 v16))) else (((-2), s))) (by first | (dsimp only [F_river]; done) | (dsimp only; done) | rfl) (fun cc => ?_) (fun cc => ?_)
      · skip
        refine UP.icT rfl cc ?_
        refine UP.stp 1 (i1 := 21) (L1 := [some (.ref 123), some (.int what), some (.int v), none]) (st1 := [.int what]) (s1 := s) rfl ?_
        refine mrg (m_cmp .ne what 0) (s 123 10) (s 123 9) (fun v8 : Int32 => UP m_X7_river 27 [some (.ref 123), some (.int what), some (.int v), none] [.int v8] s (Qb (let v8 := bif m_cmp .ne what 0 then s 123 10 else s 123 9; let v9 := bif m_cmp .ne what 0 then s 123 9 else v; let v10 := bif m_cmp .ne what 1 then s 123 10 else v; (v8, (uset (uset s 123 9 v9) 123 10 v10))))) (fun cc kk => ?_) (fun cc kk => ?_) (fun v8 e8 => ?_)
        · skip
          refine UP.ifT rfl cc ?_
          refine UP.stp 2 (i1 := 27) (L1 := [some (.ref 123), some (.int what), some (.int v), none]) (st1 := [.int (s 123 10)]) (s1 := s) rfl ?_
          exact kk
        · skip
          refine UP.ifF rfl cc ?_
          refine UP.stp 3 (i1 := 27) (L1 := [some (.ref 123), some (.int what), some (.int v), none]) (st1 := [.int (s 123 9)]) (s1 := s) rfl ?_
          exact kk
        refine UP.stp 3 (i1 := 30) (L1 := [some (.ref 123), some (.int what), some (.int v), some (.int v8)]) (st1 := [.int what, .ref 123]) (s1 := s) rfl ?_
        refine mrg (m_cmp .ne what 0) (s 123 9) v (fun v9 : Int32 => UP m_X7_river 35 [some (.ref 123), some (.int what), some (.int v), some (.int v8)] [.int v9, .ref 123] s (Qb (let v8 := bif m_cmp .ne what 0 then s 123 10 else s 123 9; let v9 := bif m_cmp .ne what 0 then s 123 9 else v; let v10 := bif m_cmp .ne what 1 then s 123 10 else v; (v8, (uset (uset s 123 9 v9) 123 10 v10))))) (fun cc kk => ?_) (fun cc kk => ?_) (fun v9 e9 => ?_)
        · skip
          refine UP.ifT rfl cc ?_
          refine UP.stp 2 (i1 := 35) (L1 := [some (.ref 123), some (.int what), some (.int v), some (.int v8)]) (st1 := [.int (s 123 9), .ref 123]) (s1 := s) rfl ?_
          exact kk
        · skip
          refine UP.ifF rfl cc ?_
          refine UP.stp 2 (i1 := 35) (L1 := [some (.ref 123), some (.int what), some (.int v), some (.int v8)]) (st1 := [.int v, .ref 123]) (s1 := s) rfl ?_
          exact kk
        refine UP.stp 4 (i1 := 39) (L1 := [some (.ref 123), some (.int what), some (.int v), some (.int v8)]) (st1 := [.int 1, .int what, .ref 123]) (s1 := (uset s 123 9 v9)) rfl ?_
        refine mrg (m_cmp .ne what 1) (s 123 10) v (fun v10 : Int32 => UP m_X7_river 44 [some (.ref 123), some (.int what), some (.int v), some (.int v8)] [.int v10, .ref 123] (uset s 123 9 v9) (Qb (let v8 := bif m_cmp .ne what 0 then s 123 10 else s 123 9; let v9 := bif m_cmp .ne what 0 then s 123 9 else v; let v10 := bif m_cmp .ne what 1 then s 123 10 else v; (v8, (uset (uset s 123 9 v9) 123 10 v10))))) (fun cc kk => ?_) (fun cc kk => ?_) (fun v10 e10 => ?_)
        · skip
          refine UP.icT rfl cc ?_
          refine UP.stp 2 (i1 := 44) (L1 := [some (.ref 123), some (.int what), some (.int v), some (.int v8)]) (st1 := [.int (s 123 10), .ref 123]) (s1 := (uset s 123 9 v9)) rfl ?_
          exact kk
        · skip
          refine UP.icF rfl cc ?_
          refine UP.stp 2 (i1 := 44) (L1 := [some (.ref 123), some (.int what), some (.int v), some (.int v8)]) (st1 := [.int v, .ref 123]) (s1 := (uset s 123 9 v9)) rfl ?_
          exact kk
        refine UP.stp 2 (i1 := 46) (L1 := [some (.ref 123), some (.int what), some (.int v), some (.int v8)]) (st1 := [.int v8]) (s1 := (uset (uset s 123 9 v9) 123 10 v10)) rfl ?_
        exact UP.ret (r := some (.int v8)) rfl ⟨by subst e10 e9 e8; first | (dsimp only [F_river]; done) | (dsimp only; done) | rfl, by subst e10 e9 e8; first | (dsimp only [F_river]; done) | (dsimp only; done) | rfl⟩
      · skip
        refine UP.icF rfl cc ?_
        refine UP.stp 3 (i1 := 16) (L1 := [some (.ref 123), some (.int what), some (.int v), none]) (st1 := [.int 999, .int 50, .int v]) (s1 := s) rfl ?_
        refine UP.cI (M1 := m_X7_in) (as := [.int v, .int 50, .int 999]) (rest := []) (T := F_in s v 50 999) rfl rfl (ux_in s v 50 999) ?_
        refine UP.spl (m_cmp .ne (F_in s v 50 999) 0) (let v14 := bif m_cmp .ne what 0 then s 123 10 else s 123 9; let v15 := bif m_cmp .ne what 0 then s 123 9 else v; let v16 := bif m_cmp .ne what 1 then s 123 10 else v; (v14, (uset (uset s 123 9 v15) 123 10 v16))) (((-2), s)) (by first | (dsimp only [F_river]; done) | (dsimp only; done) | rfl) (fun cc => ?_) (fun cc => ?_)
        · skip
          refine UP.ifT rfl cc ?_
          refine UP.stp 1 (i1 := 21) (L1 := [some (.ref 123), some (.int what), some (.int v), none]) (st1 := [.int what]) (s1 := s) rfl ?_
          refine mrg (m_cmp .ne what 0) (s 123 10) (s 123 9) (fun v14 : Int32 => UP m_X7_river 27 [some (.ref 123), some (.int what), some (.int v), none] [.int v14] s (Qb (let v14 := bif m_cmp .ne what 0 then s 123 10 else s 123 9; let v15 := bif m_cmp .ne what 0 then s 123 9 else v; let v16 := bif m_cmp .ne what 1 then s 123 10 else v; (v14, (uset (uset s 123 9 v15) 123 10 v16))))) (fun cc kk => ?_) (fun cc kk => ?_) (fun v14 e14 => ?_)
          · skip
            refine UP.ifT rfl cc ?_
            refine UP.stp 2 (i1 := 27) (L1 := [some (.ref 123), some (.int what), some (.int v), none]) (st1 := [.int (s 123 10)]) (s1 := s) rfl ?_
            exact kk
          · skip
            refine UP.ifF rfl cc ?_
            refine UP.stp 3 (i1 := 27) (L1 := [some (.ref 123), some (.int what), some (.int v), none]) (st1 := [.int (s 123 9)]) (s1 := s) rfl ?_
            exact kk
          refine UP.stp 3 (i1 := 30) (L1 := [some (.ref 123), some (.int what), some (.int v), some (.int v14)]) (st1 := [.int what, .ref 123]) (s1 := s) rfl ?_
          refine mrg (m_cmp .ne what 0) (s 123 9) v (fun v15 : Int32 => UP m_X7_river 35 [some (.ref 123), some (.int what), some (.int v), some (.int v14)] [.int v15, .ref 123] s (Qb (let v14 := bif m_cmp .ne what 0 then s 123 10 else s 123 9; let v15 := bif m_cmp .ne what 0 then s 123 9 else v; let v16 := bif m_cmp .ne what 1 then s 123 10 else v; (v14, (uset (uset s 123 9 v15) 123 10 v16))))) (fun cc kk => ?_) (fun cc kk => ?_) (fun v15 e15 => ?_)
          · skip
            refine UP.ifT rfl cc ?_
            refine UP.stp 2 (i1 := 35) (L1 := [some (.ref 123), some (.int what), some (.int v), some (.int v14)]) (st1 := [.int (s 123 9), .ref 123]) (s1 := s) rfl ?_
            exact kk
          · skip
            refine UP.ifF rfl cc ?_
            refine UP.stp 2 (i1 := 35) (L1 := [some (.ref 123), some (.int what), some (.int v), some (.int v14)]) (st1 := [.int v, .ref 123]) (s1 := s) rfl ?_
            exact kk
          refine UP.stp 4 (i1 := 39) (L1 := [some (.ref 123), some (.int what), some (.int v), some (.int v14)]) (st1 := [.int 1, .int what, .ref 123]) (s1 := (uset s 123 9 v15)) rfl ?_
          refine mrg (m_cmp .ne what 1) (s 123 10) v (fun v16 : Int32 => UP m_X7_river 44 [some (.ref 123), some (.int what), some (.int v), some (.int v14)] [.int v16, .ref 123] (uset s 123 9 v15) (Qb (let v14 := bif m_cmp .ne what 0 then s 123 10 else s 123 9; let v15 := bif m_cmp .ne what 0 then s 123 9 else v; let v16 := bif m_cmp .ne what 1 then s 123 10 else v; (v14, (uset (uset s 123 9 v15) 123 10 v16))))) (fun cc kk => ?_) (fun cc kk => ?_) (fun v16 e16 => ?_)
          · skip
            refine UP.icT rfl cc ?_
            refine UP.stp 2 (i1 := 44) (L1 := [some (.ref 123), some (.int what), some (.int v), some (.int v14)]) (st1 := [.int (s 123 10), .ref 123]) (s1 := (uset s 123 9 v15)) rfl ?_
            exact kk
          · skip
            refine UP.icF rfl cc ?_
            refine UP.stp 2 (i1 := 44) (L1 := [some (.ref 123), some (.int what), some (.int v), some (.int v14)]) (st1 := [.int v, .ref 123]) (s1 := (uset s 123 9 v15)) rfl ?_
            exact kk
          refine UP.stp 2 (i1 := 46) (L1 := [some (.ref 123), some (.int what), some (.int v), some (.int v14)]) (st1 := [.int v14]) (s1 := (uset (uset s 123 9 v15) 123 10 v16)) rfl ?_
          exact UP.ret (r := some (.int v14)) rfl ⟨by subst e16 e15 e14; first | (dsimp only [F_river]; done) | (dsimp only; done) | rfl, by subst e16 e15 e14; first | (dsimp only [F_river]; done) | (dsimp only; done) | rfl⟩
        · skip
          refine UP.ifF rfl cc ?_
          refine UP.stp 1 (i1 := 19) (L1 := [some (.ref 123), some (.int what), some (.int v), none]) (st1 := [.int (-2)]) (s1 := s) rfl ?_
          exact UP.ret (r := some (.int (-2))) rfl ⟨by first | (dsimp only [F_river]; done) | (dsimp only; done) | rfl, by first | (dsimp only [F_river]; done) | (dsimp only; done) | rfl⟩
    · skip
      refine UP.ifF rfl cc ?_
      refine UP.stp 3 (i1 := 8) (L1 := [some (.ref 123), some (.int what), some (.int v), none]) (st1 := [.int 9, .int 0, .int v]) (s1 := s) rfl ?_
      refine UP.cI (M1 := m_X7_in) (as := [.int v, .int 0, .int 9]) (rest := []) (T := F_in s v 0 9) rfl rfl (ux_in s v 0 9) ?_
      refine UP.spl (m_cmp .eq (F_in s v 0 9) 0) (((-2), s)) (bif m_cmp .ne what 1 then (let v22 := bif m_cmp .ne what 0 then s 123 10 else s 123 9; let v23 := bif m_cmp .ne what 0 then s 123 9 else v; let v24 := bif m_cmp .ne what 1 then s 123 10 else v; (v22, (uset (uset s 123 9 v23) 123 10 v24))) else (bif m_cmp .ne (F_in s v 50 999) 0 then (let v28 := bif m_cmp .ne what 0 then s 123 10 else s 123 9; let v29 := bif m_cmp .ne what 0 then s 123 9 else v; let v30 := bif m_cmp .ne what 1 then s 123 10 else v; (v28, (uset (uset s 123 9 v29) 123 10 v30))) else (((-2), s)))) (by first | (dsimp only [F_river]; done) | (dsimp only; done) | rfl) (fun cc => ?_) (fun cc => ?_)
      · skip
        refine UP.ifT rfl cc ?_
        refine UP.stp 1 (i1 := 19) (L1 := [some (.ref 123), some (.int what), some (.int v), none]) (st1 := [.int (-2)]) (s1 := s) rfl ?_
        exact UP.ret (r := some (.int (-2))) rfl ⟨by first | (dsimp only [F_river]; done) | (dsimp only; done) | rfl, by first | (dsimp only [F_river]; done) | (dsimp only; done) | rfl⟩
      · skip
        refine UP.ifF rfl cc ?_
        refine UP.stp 2 (i1 := 12) (L1 := [some (.ref 123), some (.int what), some (.int v), none]) (st1 := [.int 1, .int what]) (s1 := s) rfl ?_
        refine UP.spl (m_cmp .ne what 1) (let v22 := bif m_cmp .ne what 0 then s 123 10 else s 123 9; let v23 := bif m_cmp .ne what 0 then s 123 9 else v; let v24 := bif m_cmp .ne what 1 then s 123 10 else v; (v22, (uset (uset s 123 9 v23) 123 10 v24))) (bif m_cmp .ne (F_in s v 50 999) 0 then (let v28 := bif m_cmp .ne what 0 then s 123 10 else s 123 9; let v29 := bif m_cmp .ne what 0 then s 123 9 else v; let v30 := bif m_cmp .ne what 1 then s 123 10 else v; (v28, (uset (uset s 123 9 v29) 123 10 v30))) else (((-2), s))) (by first | (dsimp only [F_river]; done) | (dsimp only; done) | rfl) (fun cc => ?_) (fun cc => ?_)
        · skip
          refine UP.icT rfl cc ?_
          refine UP.stp 1 (i1 := 21) (L1 := [some (.ref 123), some (.int what), some (.int v), none]) (st1 := [.int what]) (s1 := s) rfl ?_
          refine mrg (m_cmp .ne what 0) (s 123 10) (s 123 9) (fun v22 : Int32 => UP m_X7_river 27 [some (.ref 123), some (.int what), some (.int v), none] [.int v22] s (Qb (let v22 := bif m_cmp .ne what 0 then s 123 10 else s 123 9; let v23 := bif m_cmp .ne what 0 then s 123 9 else v; let v24 := bif m_cmp .ne what 1 then s 123 10 else v; (v22, (uset (uset s 123 9 v23) 123 10 v24))))) (fun cc kk => ?_) (fun cc kk => ?_) (fun v22 e22 => ?_)
          · skip
            refine UP.ifT rfl cc ?_
            refine UP.stp 2 (i1 := 27) (L1 := [some (.ref 123), some (.int what), some (.int v), none]) (st1 := [.int (s 123 10)]) (s1 := s) rfl ?_
            exact kk
          · skip
            refine UP.ifF rfl cc ?_
            refine UP.stp 3 (i1 := 27) (L1 := [some (.ref 123), some (.int what), some (.int v), none]) (st1 := [.int (s 123 9)]) (s1 := s) rfl ?_
            exact kk
          refine UP.stp 3 (i1 := 30) (L1 := [some (.ref 123), some (.int what), some (.int v), some (.int v22)]) (st1 := [.int what, .ref 123]) (s1 := s) rfl ?_
          refine mrg (m_cmp .ne what 0) (s 123 9) v (fun v23 : Int32 => UP m_X7_river 35 [some (.ref 123), some (.int what), some (.int v), some (.int v22)] [.int v23, .ref 123] s (Qb (let v22 := bif m_cmp .ne what 0 then s 123 10 else s 123 9; let v23 := bif m_cmp .ne what 0 then s 123 9 else v; let v24 := bif m_cmp .ne what 1 then s 123 10 else v; (v22, (uset (uset s 123 9 v23) 123 10 v24))))) (fun cc kk => ?_) (fun cc kk => ?_) (fun v23 e23 => ?_)
          · skip
            refine UP.ifT rfl cc ?_
            refine UP.stp 2 (i1 := 35) (L1 := [some (.ref 123), some (.int what), some (.int v), some (.int v22)]) (st1 := [.int (s 123 9), .ref 123]) (s1 := s) rfl ?_
            exact kk
          · skip
            refine UP.ifF rfl cc ?_
            refine UP.stp 2 (i1 := 35) (L1 := [some (.ref 123), some (.int what), some (.int v), some (.int v22)]) (st1 := [.int v, .ref 123]) (s1 := s) rfl ?_
            exact kk
          refine UP.stp 4 (i1 := 39) (L1 := [some (.ref 123), some (.int what), some (.int v), some (.int v22)]) (st1 := [.int 1, .int what, .ref 123]) (s1 := (uset s 123 9 v23)) rfl ?_
          refine mrg (m_cmp .ne what 1) (s 123 10) v (fun v24 : Int32 => UP m_X7_river 44 [some (.ref 123), some (.int what), some (.int v), some (.int v22)] [.int v24, .ref 123] (uset s 123 9 v23) (Qb (let v22 := bif m_cmp .ne what 0 then s 123 10 else s 123 9; let v23 := bif m_cmp .ne what 0 then s 123 9 else v; let v24 := bif m_cmp .ne what 1 then s 123 10 else v; (v22, (uset (uset s 123 9 v23) 123 10 v24))))) (fun cc kk => ?_) (fun cc kk => ?_) (fun v24 e24 => ?_)
          · skip
            refine UP.icT rfl cc ?_
            refine UP.stp 2 (i1 := 44) (L1 := [some (.ref 123), some (.int what), some (.int v), some (.int v22)]) (st1 := [.int (s 123 10), .ref 123]) (s1 := (uset s 123 9 v23)) rfl ?_
            exact kk
          · skip
            refine UP.icF rfl cc ?_
            refine UP.stp 2 (i1 := 44) (L1 := [some (.ref 123), some (.int what), some (.int v), some (.int v22)]) (st1 := [.int v, .ref 123]) (s1 := (uset s 123 9 v23)) rfl ?_
            exact kk
          refine UP.stp 2 (i1 := 46) (L1 := [some (.ref 123), some (.int what), some (.int v), some (.int v22)]) (st1 := [.int v22]) (s1 := (uset (uset s 123 9 v23) 123 10 v24)) rfl ?_
          exact UP.ret (r := some (.int v22)) rfl ⟨by subst e24 e23 e22; first | (dsimp only [F_river]; done) | (dsimp only; done) | rfl, by subst e24 e23 e22; first | (dsimp only [F_river]; done) | (dsimp only; done) | rfl⟩
        · skip
          refine UP.icF rfl cc ?_
          refine UP.stp 3 (i1 := 16) (L1 := [some (.ref 123), some (.int what), some (.int v), none]) (st1 := [.int 999, .int 50, .int v]) (s1 := s) rfl ?_
          refine UP.cI (M1 := m_X7_in) (as := [.int v, .int 50, .int 999]) (rest := []) (T := F_in s v 50 999) rfl rfl (ux_in s v 50 999) ?_
          refine UP.spl (m_cmp .ne (F_in s v 50 999) 0) (let v28 := bif m_cmp .ne what 0 then s 123 10 else s 123 9; let v29 := bif m_cmp .ne what 0 then s 123 9 else v; let v30 := bif m_cmp .ne what 1 then s 123 10 else v; (v28, (uset (uset s 123 9 v29) 123 10 v30))) (((-2), s)) (by first | (dsimp only [F_river]; done) | (dsimp only; done) | rfl) (fun cc => ?_) (fun cc => ?_)
          · skip
            refine UP.ifT rfl cc ?_
            refine UP.stp 1 (i1 := 21) (L1 := [some (.ref 123), some (.int what), some (.int v), none]) (st1 := [.int what]) (s1 := s) rfl ?_
            refine mrg (m_cmp .ne what 0) (s 123 10) (s 123 9) (fun v28 : Int32 => UP m_X7_river 27 [some (.ref 123), some (.int what), some (.int v), none] [.int v28] s (Qb (let v28 := bif m_cmp .ne what 0 then s 123 10 else s 123 9; let v29 := bif m_cmp .ne what 0 then s 123 9 else v; let v30 := bif m_cmp .ne what 1 then s 123 10 else v; (v28, (uset (uset s 123 9 v29) 123 10 v30))))) (fun cc kk => ?_) (fun cc kk => ?_) (fun v28 e28 => ?_)
            · skip
              refine UP.ifT rfl cc ?_
              refine UP.stp 2 (i1 := 27) (L1 := [some (.ref 123), some (.int what), some (.int v), none]) (st1 := [.int (s 123 10)]) (s1 := s) rfl ?_
              exact kk
            · skip
              refine UP.ifF rfl cc ?_
              refine UP.stp 3 (i1 := 27) (L1 := [some (.ref 123), some (.int what), some (.int v), none]) (st1 := [.int (s 123 9)]) (s1 := s) rfl ?_
              exact kk
            refine UP.stp 3 (i1 := 30) (L1 := [some (.ref 123), some (.int what), some (.int v), some (.int v28)]) (st1 := [.int what, .ref 123]) (s1 := s) rfl ?_
            refine mrg (m_cmp .ne what 0) (s 123 9) v (fun v29 : Int32 => UP m_X7_river 35 [some (.ref 123), some (.int what), some (.int v), some (.int v28)] [.int v29, .ref 123] s (Qb (let v28 := bif m_cmp .ne what 0 then s 123 10 else s 123 9; let v29 := bif m_cmp .ne what 0 then s 123 9 else v; let v30 := bif m_cmp .ne what 1 then s 123 10 else v; (v28, (uset (uset s 123 9 v29) 123 10 v30))))) (fun cc kk => ?_) (fun cc kk => ?_) (fun v29 e29 => ?_)
            · skip
              refine UP.ifT rfl cc ?_
              refine UP.stp 2 (i1 := 35) (L1 := [some (.ref 123), some (.int what), some (.int v), some (.int v28)]) (st1 := [.int (s 123 9), .ref 123]) (s1 := s) rfl ?_
              exact kk
            · skip
              refine UP.ifF rfl cc ?_
              refine UP.stp 2 (i1 := 35) (L1 := [some (.ref 123), some (.int what), some (.int v), some (.int v28)]) (st1 := [.int v, .ref 123]) (s1 := s) rfl ?_
              exact kk
            refine UP.stp 4 (i1 := 39) (L1 := [some (.ref 123), some (.int what), some (.int v), some (.int v28)]) (st1 := [.int 1, .int what, .ref 123]) (s1 := (uset s 123 9 v29)) rfl ?_
            refine mrg (m_cmp .ne what 1) (s 123 10) v (fun v30 : Int32 => UP m_X7_river 44 [some (.ref 123), some (.int what), some (.int v), some (.int v28)] [.int v30, .ref 123] (uset s 123 9 v29) (Qb (let v28 := bif m_cmp .ne what 0 then s 123 10 else s 123 9; let v29 := bif m_cmp .ne what 0 then s 123 9 else v; let v30 := bif m_cmp .ne what 1 then s 123 10 else v; (v28, (uset (uset s 123 9 v29) 123 10 v30))))) (fun cc kk => ?_) (fun cc kk => ?_) (fun v30 e30 => ?_)
            · skip
              refine UP.icT rfl cc ?_
              refine UP.stp 2 (i1 := 44) (L1 := [some (.ref 123), some (.int what), some (.int v), some (.int v28)]) (st1 := [.int (s 123 10), .ref 123]) (s1 := (uset s 123 9 v29)) rfl ?_
              exact kk
            · skip
              refine UP.icF rfl cc ?_
              refine UP.stp 2 (i1 := 44) (L1 := [some (.ref 123), some (.int what), some (.int v), some (.int v28)]) (st1 := [.int v, .ref 123]) (s1 := (uset s 123 9 v29)) rfl ?_
              exact kk
            refine UP.stp 2 (i1 := 46) (L1 := [some (.ref 123), some (.int what), some (.int v), some (.int v28)]) (st1 := [.int v28]) (s1 := (uset (uset s 123 9 v29) 123 10 v30)) rfl ?_
            exact UP.ret (r := some (.int v28)) rfl ⟨by subst e30 e29 e28; first | (dsimp only [F_river]; done) | (dsimp only; done) | rfl, by subst e30 e29 e28; first | (dsimp only [F_river]; done) | (dsimp only; done) | rfl⟩
          · skip
            refine UP.ifF rfl cc ?_
            refine UP.stp 1 (i1 := 19) (L1 := [some (.ref 123), some (.int what), some (.int v), none]) (st1 := [.int (-2)]) (s1 := s) rfl ?_
            exact UP.ret (r := some (.int (-2))) rfl ⟨by first | (dsimp only [F_river]; done) | (dsimp only; done) | rfl, by first | (dsimp only [F_river]; done) | (dsimp only; done) | rfl⟩
end
