def W_steerOf : List (Nat × Nat × Option Nat) := [(126, 129, none), (133, 144, none), (147, 147, none), (123, 123, some 2), (123, 123, some 5), (123, 123, some 7), (123, 123, some 17), (123, 123, some 19), (123, 123, some 20), (123, 123, some 21), (123, 123, some 22), (123, 123, some 23), (123, 123, some 24), (123, 123, some 25), (123, 123, some 26), (123, 123, some 27)]
def B_steerOf_8 (minute : Int32) (i2 : Nat) (a2 : SG × Int32 × Int32) : SG × Int32 × Int32 := let z3 := F_runs (uset a2.1 134 minute.toNatClampNeg (Int32.ofNat i2)) ; let v5 := F_strayNow z3; let v7 := bif m_cmp .eq a2.2.1 (-1) then (1 : Int32) else (bif m_cmp .ge v5 a2.2.2 then (0 : Int32) else (1 : Int32)); let v8 := bif m_cmp .eq v7 0 then a2.2.1 else Int32.ofNat i2; let v9 := bif m_cmp .eq v7 0 then a2.2.2 else v5; (z3, v8, v9)
set_option maxRecDepth 20000 in
set_option maxHeartbeats 200000 in
theorem fr_B_steerOf_8 (minute : Int32) (i2 : Nat) (a2 : SG × Int32 × Int32)  (hi2 : i2 < 3) : Fr W_steerOf a2.1 ((B_steerOf_8 minute) i2 a2).1 := by dsimp only [B_steerOf_8]; exact (Fr.tr (s1 := (uset a2.1 134 minute.toNatClampNeg (Int32.ofNat i2))) (Fr.uset (s1 := a2.1) (a := 134) (j := minute.toNatClampNeg) (x := Int32.ofNat i2) (by rfl) (Fr.rf _ _)) (Fr.wk (W2 := W_steerOf) (fr_runs (uset a2.1 134 minute.toNatClampNeg (Int32.ofNat i2)) ) (by rfl)))
def F_steerOf (s : SG) (minute : Int32) (what : Int32) : Int32 × SG := let z1 := F_asTold s ; let z2 := itr (B_steerOf_8 minute) 0 3 (z1, (-1), 0); let v10 := bif m_cmp .ne what 0 then z2.2.2 else z2.2.1; (v10, z2.1)
set_option maxRecDepth 20000 in
set_option maxHeartbeats 200000 in
theorem fr_steerOf (s : SG) (minute : Int32) (what : Int32)  : Fr W_steerOf s (F_steerOf s minute what).2 := by dsimp only [F_steerOf]; exact (let z1 : SG := F_asTold s ; (frItrB (W := W_steerOf) (m := (fun x : SG × Int32 × Int32 => x.1)) (f := (B_steerOf_8 minute)) 3 (fun ii aa hh => Fr.wk (W2 := W_steerOf) (fr_B_steerOf_8 minute ii aa  hh) (by rfl)) 3 0 (z1, (-1), 0) (by omega) (Fr.tr (s1 := s) (Fr.rf _ _) (Fr.wk (W2 := W_steerOf) (fr_asTold s ) (by rfl)))))
set_option maxRecDepth 20000 in
set_option maxHeartbeats 200000 in
theorem ux_steerOf (s : SG) (minute : Int32) (what : Int32)  : UP m_X7_steerOf 0 (m_ent 8 [.ref 123, .int minute, .int what]) [] s (Qb (F_steerOf s minute what)) := by
  refine UP.stp 1 (i1 := 1) (L1 := [some (.ref 123), some (.int minute), some (.int what), none, none, none, none, none]) (st1 := [.ref 123]) (s1 := s) rfl ?_
  refine UP.cV (M1 := m_X7_asTold) (as := [.ref 123]) (rest := []) (T := F_asTold s ) rfl rfl (ux_asTold s ) (fun z1 e1 => ?_)
  refine UP.stp 6 (i1 := 8) (L1 := [some (.ref 123), some (.int minute), some (.int what), some (.int (-1)), some (.int 0), some (.int 0), none, none]) (st1 := []) (s1 := z1) rfl ?_
  refine lp (fun (i2 : Nat) (a2 : SG × Int32 × Int32) => ∀ (u2_6 : Option Value) (u2_7 : Option Value), UP m_X7_steerOf 8 [some (.ref 123), some (.int minute), some (.int what), some (.int a2.2.1), some (.int a2.2.2), some (.int (Int32.ofNat i2)), u2_6, u2_7] [] a2.1 (Qb (F_steerOf s minute what))) (fun (_ : Nat) (a2 : SG × Int32 × Int32) => Fr W_steerOf z1 a2.1) (B_steerOf_8 minute) (3) (fun i2 a2 hi2 g2 => g2.tr (fr_B_steerOf_8 minute i2 a2 hi2)) (fun i2 a2 hi2 g2 kk => ?_) 3 (0) (z1, (-1), 0) (by  omega) (Fr.rf _ _) (fun z2 e2 g2 => ?_) none none
  · skip
    intro u2_6 u2_7
    refine UP.stp 2 (i1 := 10) (L1 := [some (.ref 123), some (.int minute), some (.int what), some (.int a2.2.1), some (.int a2.2.2), some (.int (Int32.ofNat i2)), u2_6, u2_7]) (st1 := [.int 3, .int (Int32.ofNat i2)]) (s1 := a2.1) rfl ?_
    refine UP.icF rfl (ge_F (show i2 < (3 : Int32).toNatClampNeg from hi2)) ?_
    refine UP.stp 6 (i1 := 17) (L1 := [some (.ref 123), some (.int minute), some (.int what), some (.int a2.2.1), some (.int a2.2.2), some (.int (Int32.ofNat i2)), u2_6, u2_7]) (st1 := [.ref 123]) (s1 := (uset a2.1 134 minute.toNatClampNeg (Int32.ofNat i2))) rfl ?_
    refine UP.cV (M1 := m_X7_runs) (as := [.ref 123]) (rest := []) (T := F_runs (uset a2.1 134 minute.toNatClampNeg (Int32.ofNat i2)) ) rfl rfl (ux_runs (uset a2.1 134 minute.toNatClampNeg (Int32.ofNat i2)) ) (fun z3 e3 => ?_)
    refine UP.stp 1 (i1 := 19) (L1 := [some (.ref 123), some (.int minute), some (.int what), some (.int a2.2.1), some (.int a2.2.2), some (.int (Int32.ofNat i2)), u2_6, u2_7]) (st1 := [.ref 123]) (s1 := z3) rfl ?_
    refine UP.cI (M1 := m_X7_strayNow) (as := [.ref 123]) (rest := []) (T := F_strayNow z3 ) rfl rfl (ux_strayNow z3 ) ?_
    refine nm (G := fun v5 => UP m_X7_steerOf 20 [some (.ref 123), some (.int minute), some (.int what), some (.int a2.2.1), some (.int a2.2.2), some (.int (Int32.ofNat i2)), u2_6, u2_7] [.int v5] z3 (Qb (F_steerOf s minute what))) (F_strayNow z3) (fun v5 e5 => ?_)
    refine UP.stp 3 (i1 := 23) (L1 := [some (.ref 123), some (.int minute), some (.int what), some (.int a2.2.1), some (.int a2.2.2), some (.int (Int32.ofNat i2)), some (.int v5), u2_7]) (st1 := [.int (-1), .int a2.2.1]) (s1 := z3) rfl ?_
    refine mrg (m_cmp .eq a2.2.1 (-1)) (1 : Int32) (bif m_cmp .ge v5 a2.2.2 then (0 : Int32) else (1 : Int32)) (fun v7 : Int32 => UP m_X7_steerOf 30 [some (.ref 123), some (.int minute), some (.int what), some (.int a2.2.1), some (.int a2.2.2), some (.int (Int32.ofNat i2)), some (.int v5), u2_7] [.int v7] z3 (Qb (F_steerOf s minute what))) (fun cc kk => ?_) (fun cc kk => ?_) (fun v7 e7 => ?_)
    · skip
      refine UP.icT rfl cc ?_
      refine UP.stp 2 (i1 := 30) (L1 := [some (.ref 123), some (.int minute), some (.int what), some (.int a2.2.1), some (.int a2.2.2), some (.int (Int32.ofNat i2)), some (.int v5), u2_7]) (st1 := [.int 1]) (s1 := z3) rfl ?_
      exact kk
    · skip
      refine UP.icF rfl cc ?_
      refine UP.stp 2 (i1 := 26) (L1 := [some (.ref 123), some (.int minute), some (.int what), some (.int a2.2.1), some (.int a2.2.2), some (.int (Int32.ofNat i2)), some (.int v5), u2_7]) (st1 := [.int a2.2.2, .int v5]) (s1 := z3) rfl ?_
      refine mrg (m_cmp .ge v5 a2.2.2) (0 : Int32) (1 : Int32) (fun v6 : Int32 => UP m_X7_steerOf 30 [some (.ref 123), some (.int minute), some (.int what), some (.int a2.2.1), some (.int a2.2.2), some (.int (Int32.ofNat i2)), some (.int v5), u2_7] [.int v6] z3 (Qb (F_steerOf s minute what))) (fun cc kk => ?_) (fun cc kk => ?_) (fun v6 e6 => ?_)
      · skip
        refine UP.icT rfl cc ?_
        refine UP.stp 1 (i1 := 30) (L1 := [some (.ref 123), some (.int minute), some (.int what), some (.int a2.2.1), some (.int a2.2.2), some (.int (Int32.ofNat i2)), some (.int v5), u2_7]) (st1 := [.int 0]) (s1 := z3) rfl ?_
        exact kk
      · skip
        refine UP.icF rfl cc ?_
        refine UP.stp 2 (i1 := 30) (L1 := [some (.ref 123), some (.int minute), some (.int what), some (.int a2.2.1), some (.int a2.2.2), some (.int (Int32.ofNat i2)), some (.int v5), u2_7]) (st1 := [.int 1]) (s1 := z3) rfl ?_
        exact kk
      subst e6
      exact kk
    refine UP.stp 2 (i1 := 32) (L1 := [some (.ref 123), some (.int minute), some (.int what), some (.int a2.2.1), some (.int a2.2.2), some (.int (Int32.ofNat i2)), some (.int v5), some (.int v7)]) (st1 := [.int v7]) (s1 := z3) rfl ?_
    refine mrg (m_cmp .eq v7 0) a2.2.1 (Int32.ofNat i2) (fun v8 : Int32 => UP m_X7_steerOf 36 [some (.ref 123), some (.int minute), some (.int what), some (.int a2.2.1), some (.int a2.2.2), some (.int (Int32.ofNat i2)), some (.int v5), some (.int v7)] [.int v8] z3 (Qb (F_steerOf s minute what))) (fun cc kk => ?_) (fun cc kk => ?_) (fun v8 e8 => ?_)
    · skip
      refine UP.ifT rfl cc ?_
      refine UP.stp 1 (i1 := 36) (L1 := [some (.ref 123), some (.int minute), some (.int what), some (.int a2.2.1), some (.int a2.2.2), some (.int (Int32.ofNat i2)), some (.int v5), some (.int v7)]) (st1 := [.int a2.2.1]) (s1 := z3) rfl ?_
      exact kk
    · skip
      refine UP.ifF rfl cc ?_
      refine UP.stp 2 (i1 := 36) (L1 := [some (.ref 123), some (.int minute), some (.int what), some (.int a2.2.1), some (.int a2.2.2), some (.int (Int32.ofNat i2)), some (.int v5), some (.int v7)]) (st1 := [.int (Int32.ofNat i2)]) (s1 := z3) rfl ?_
      exact kk
    refine UP.stp 2 (i1 := 38) (L1 := [some (.ref 123), some (.int minute), some (.int what), some (.int v8), some (.int a2.2.2), some (.int (Int32.ofNat i2)), some (.int v5), some (.int v7)]) (st1 := [.int v7]) (s1 := z3) rfl ?_
    refine mrg (m_cmp .eq v7 0) a2.2.2 v5 (fun v9 : Int32 => UP m_X7_steerOf 42 [some (.ref 123), some (.int minute), some (.int what), some (.int v8), some (.int a2.2.2), some (.int (Int32.ofNat i2)), some (.int v5), some (.int v7)] [.int v9] z3 (Qb (F_steerOf s minute what))) (fun cc kk => ?_) (fun cc kk => ?_) (fun v9 e9 => ?_)
    · skip
      refine UP.ifT rfl cc ?_
      refine UP.stp 1 (i1 := 42) (L1 := [some (.ref 123), some (.int minute), some (.int what), some (.int v8), some (.int a2.2.2), some (.int (Int32.ofNat i2)), some (.int v5), some (.int v7)]) (st1 := [.int a2.2.2]) (s1 := z3) rfl ?_
      exact kk
    · skip
      refine UP.ifF rfl cc ?_
      refine UP.stp 2 (i1 := 42) (L1 := [some (.ref 123), some (.int minute), some (.int what), some (.int v8), some (.int a2.2.2), some (.int (Int32.ofNat i2)), some (.int v5), some (.int v7)]) (st1 := [.int v5]) (s1 := z3) rfl ?_
      exact kk
    refine UP.stp 3 (i1 := 8) (L1 := [some (.ref 123), some (.int minute), some (.int what), some (.int v8), some (.int v9), some (.int ((Int32.ofNat i2) + 1)), some (.int v5), some (.int v7)]) (st1 := []) (s1 := z3) rfl ?_
    subst e9 e8 e7 e5 e3
    rw [ofn_s]
    try dsimp only [B_steerOf_8] at kk
    exact kk _ _
  intro u2_6 u2_7
  refine UP.stp 2 (i1 := 10) (L1 := [some (.ref 123), some (.int minute), some (.int what), some (.int z2.2.1), some (.int z2.2.2), some (.int (Int32.ofNat 3)), u2_6, u2_7]) (st1 := [.int 3, .int (Int32.ofNat 3)]) (s1 := z2.1) rfl ?_
  refine UP.icT rfl (ge_T (3 : Int32)) ?_
  refine UP.stp 1 (i1 := 46) (L1 := [some (.ref 123), some (.int minute), some (.int what), some (.int z2.2.1), some (.int z2.2.2), some (.int (Int32.ofNat 3)), u2_6, u2_7]) (st1 := [.int what]) (s1 := z2.1) rfl ?_
  refine mrg (m_cmp .ne what 0) z2.2.2 z2.2.1 (fun v10 : Int32 => UP m_X7_steerOf 50 [some (.ref 123), some (.int minute), some (.int what), some (.int z2.2.1), some (.int z2.2.2), some (.int (Int32.ofNat 3)), u2_6, u2_7] [.int v10] z2.1 (Qb (F_steerOf s minute what))) (fun cc kk => ?_) (fun cc kk => ?_) (fun v10 e10 => ?_)
  · skip
    refine UP.ifT rfl cc ?_
    refine UP.stp 1 (i1 := 50) (L1 := [some (.ref 123), some (.int minute), some (.int what), some (.int z2.2.1), some (.int z2.2.2), some (.int (Int32.ofNat 3)), u2_6, u2_7]) (st1 := [.int z2.2.2]) (s1 := z2.1) rfl ?_
    exact kk
  · skip
    refine UP.ifF rfl cc ?_
    refine UP.stp 2 (i1 := 50) (L1 := [some (.ref 123), some (.int minute), some (.int what), some (.int z2.2.1), some (.int z2.2.2), some (.int (Int32.ofNat 3)), u2_6, u2_7]) (st1 := [.int z2.2.1]) (s1 := z2.1) rfl ?_
    exact kk
  exact UP.ret (r := some (.int v10)) rfl ⟨by subst e10 e2 e1; first | (dsimp only [F_steerOf]; done) | (dsimp only; done) | rfl, by subst e10 e2 e1; first | (dsimp only [F_steerOf]; done) | (dsimp only; done) | rfl⟩
