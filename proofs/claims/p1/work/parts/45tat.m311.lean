def W_swapOf : List (Nat × Nat × Option Nat) := [(126, 129, none), (133, 144, none), (147, 147, none), (123, 123, some 2), (123, 123, some 5), (123, 123, some 7), (123, 123, some 17), (123, 123, some 19), (123, 123, some 20), (123, 123, some 21), (123, 123, some 22), (123, 123, some 23), (123, 123, some 24), (123, 123, some 25), (123, 123, some 26), (123, 123, some 27)]
def WL_swapOf : List (Nat × Nat × Option Nat) := [(133, 144, none), (147, 147, none), (123, 123, some 17), (123, 123, some 19), (123, 123, some 20), (123, 123, some 21), (123, 123, some 22), (123, 123, some 23), (123, 123, some 24), (123, 123, some 25), (123, 123, some 26), (123, 123, some 27)]
def B_swapOf_16 (i2 : Nat) (i3 : Nat) (a3 : SG × Int32 × Int32) : SG × Int32 × Int32 := let z4 := F_runs (uset (uset a3.1 135 i2 (Int32.ofNat i3)) 135 i3 (Int32.ofNat i2)) ; let v5 := bif m_cmp .le (z4 123 19) a3.2.2 then a3.2.1 else (8 * (Int32.ofNat i2)) + (Int32.ofNat i3); let v6 := bif m_cmp .le (z4 123 19) a3.2.2 then a3.2.2 else z4 123 19; ((uset (uset z4 135 i2 (Int32.ofNat i2)) 135 i3 (Int32.ofNat i3)), v5, v6)
set_option maxRecDepth 20000 in
set_option maxHeartbeats 200000 in
theorem fr_B_swapOf_16 (i2 : Nat) (i3 : Nat) (a3 : SG × Int32 × Int32)   : Fr WL_swapOf a3.1 ((B_swapOf_16 i2) i3 a3).1 := by dsimp only [B_swapOf_16]; exact (let z4 : SG := F_runs (uset (uset a3.1 135 i2 (Int32.ofNat i3)) 135 i3 (Int32.ofNat i2)) ; (Fr.uset (s1 := (uset z4 135 i2 (Int32.ofNat i2))) (a := 135) (j := i3) (x := Int32.ofNat i3) (by rfl) (Fr.uset (s1 := z4) (a := 135) (j := i2) (x := Int32.ofNat i2) (by rfl) (Fr.tr (s1 := (uset (uset a3.1 135 i2 (Int32.ofNat i3)) 135 i3 (Int32.ofNat i2))) (Fr.uset (s1 := (uset a3.1 135 i2 (Int32.ofNat i3))) (a := 135) (j := i3) (x := Int32.ofNat i2) (by rfl) (Fr.uset (s1 := a3.1) (a := 135) (j := i2) (x := Int32.ofNat i3) (by rfl) (Fr.rf _ _))) (Fr.wk (W2 := WL_swapOf) (fr_runs (uset (uset a3.1 135 i2 (Int32.ofNat i3)) 135 i3 (Int32.ofNat i2)) ) (by rfl))))))
def B_swapOf_8  (i2 : Nat) (a2 : SG × Int32 × Int32) : SG × Int32 × Int32 := let z3 := itr (B_swapOf_16 i2) (i2 + 1) ((a2.1 123 2).toNatClampNeg - (i2 + 1)) (a2.1, a2.2.1, a2.2.2); (z3.1, z3.2.1, z3.2.2)
set_option maxRecDepth 20000 in
set_option maxHeartbeats 200000 in
theorem fr_B_swapOf_8  (i2 : Nat) (a2 : SG × Int32 × Int32)   : Fr WL_swapOf a2.1 ((B_swapOf_8) i2 a2).1 := by dsimp only [B_swapOf_8]; exact (Fr.itr (W := WL_swapOf) (m := (fun x : SG × Int32 × Int32 => x.1)) (f := (B_swapOf_16 i2)) (fun ii aa => Fr.wk (W2 := WL_swapOf) (fr_B_swapOf_16 i2 ii aa ) (by rfl)) ((a2.1 123 2).toNatClampNeg - (i2 + 1)) (i2 + 1) (a2.1, a2.2.1, a2.2.2) (Fr.rf _ _))
def F_swapOf (s : SG) (what : Int32) : Int32 × SG := let z1 := F_asTold s ; let z2 := itr (B_swapOf_8) 0 ((z1 123 2).toNatClampNeg) (z1, (-1), (-1)); let v9 := bif m_cmp .ne z2.2.1 (-1) then (bif m_cmp .ne what 0 then (bif m_cmp .ne what 1 then z2.2.2 else z2.2.1 - z2.2.1 / 8 * 8) else z2.2.1 / 8) else (-1 : Int32); (v9, z2.1)
set_option maxRecDepth 20000 in
set_option maxHeartbeats 200000 in
theorem fr_swapOf (s : SG) (what : Int32)  : Fr W_swapOf s (F_swapOf s what).2 := by dsimp only [F_swapOf]; exact (let z1 : SG := F_asTold s ; (Fr.itr (W := W_swapOf) (m := (fun x : SG × Int32 × Int32 => x.1)) (f := (B_swapOf_8)) (fun ii aa => Fr.wk (W2 := W_swapOf) (fr_B_swapOf_8  ii aa ) (by rfl)) ((z1 123 2).toNatClampNeg) 0 (z1, (-1), (-1)) (Fr.tr (s1 := s) (Fr.rf _ _) (Fr.wk (W2 := W_swapOf) (fr_asTold s ) (by rfl)))))
set_option maxRecDepth 20000 in
set_option maxHeartbeats 200000 in
theorem ux_swapOf (s : SG) (what : Int32)  : UP m_X7_swapOf 0 (m_ent 6 [.ref 123, .int what]) [] s (Qb (F_swapOf s what)) := by
  refine UP.stp 1 (i1 := 1) (L1 := [some (.ref 123), some (.int what), none, none, none, none]) (st1 := [.ref 123]) (s1 := s) rfl ?_
  refine UP.cV (M1 := m_X7_asTold) (as := [.ref 123]) (rest := []) (T := F_asTold s ) rfl rfl (ux_asTold s ) (fun z1 e1 => ?_)
  refine UP.stp 6 (i1 := 8) (L1 := [some (.ref 123), some (.int what), some (.int (-1)), some (.int (-1)), some (.int 0), none]) (st1 := []) (s1 := z1) rfl ?_
  refine lp (fun (i2 : Nat) (a2 : SG × Int32 × Int32) => ∀ (u2_5 : Option Value), UP m_X7_swapOf 8 [some (.ref 123), some (.int what), some (.int a2.2.1), some (.int a2.2.2), some (.int (Int32.ofNat i2)), u2_5] [] a2.1 (Qb (F_swapOf s what))) (fun (_ : Nat) (a2 : SG × Int32 × Int32) => Fr WL_swapOf z1 a2.1) (B_swapOf_8) ((z1 123 2).toNatClampNeg) (fun i2 a2 hi2 g2 => g2.tr (fr_B_swapOf_8  i2 a2 )) (fun i2 a2 hi2 g2 kk => ?_) ((z1 123 2).toNatClampNeg) (0) (z1, (-1), (-1)) (by  omega) (Fr.rf _ _) (fun z2 e2 g2 => ?_) none
  · skip
    intro u2_5
    have hbi2 := cl_lt (z1 123 2)
    refine UP.stp 3 (i1 := 11) (L1 := [some (.ref 123), some (.int what), some (.int a2.2.1), some (.int a2.2.2), some (.int (Int32.ofNat i2)), u2_5]) (st1 := [.int (a2.1 123 2), .int (Int32.ofNat i2)]) (s1 := a2.1) rfl ?_
    refine UP.icF rfl (by rw [(g2 123 2 rfl)]; exact ge_F hi2) ?_
    refine UP.stp 4 (i1 := 16) (L1 := [some (.ref 123), some (.int what), some (.int a2.2.1), some (.int a2.2.2), some (.int (Int32.ofNat i2)), some (.int ((Int32.ofNat i2) + 1))]) (st1 := []) (s1 := a2.1) rfl ?_
    rw [show (Int32.ofNat i2) + 1 = Int32.ofNat (i2 + 1) from (ofn_add rfl rfl)]
    refine lp (fun (i3 : Nat) (a3 : SG × Int32 × Int32) => UP m_X7_swapOf 16 [some (.ref 123), some (.int what), some (.int a3.2.1), some (.int a3.2.2), some (.int (Int32.ofNat i2)), some (.int (Int32.ofNat i3))] [] a3.1 (Qb (F_swapOf s what))) (fun (_ : Nat) (a3 : SG × Int32 × Int32) => Fr WL_swapOf a2.1 a3.1) (B_swapOf_16 i2) ((a2.1 123 2).toNatClampNeg) (fun i3 a3 hi3 g3 => g3.tr (fr_B_swapOf_16 i2 i3 a3 )) (fun i3 a3 hi3 g3 kk => ?_) ((a2.1 123 2).toNatClampNeg - (i2 + 1)) (i2 + 1) (a2.1, a2.2.1, a2.2.2) (by rw [g2 123 2 rfl]; omega) (Fr.rf _ _) (fun z3 e3 g3 => ?_)
    · skip
      have hbi3 := cl_lt (a2.1 123 2)
      refine UP.stp 3 (i1 := 19) (L1 := [some (.ref 123), some (.int what), some (.int a3.2.1), some (.int a3.2.2), some (.int (Int32.ofNat i2)), some (.int (Int32.ofNat i3))]) (st1 := [.int (a3.1 123 2), .int (Int32.ofNat i3)]) (s1 := a3.1) rfl ?_
      refine UP.icF rfl (by rw [(g3 123 2 rfl)]; exact ge_F hi3) ?_
      refine UP.stp 4 (i1 := 24) (L1 := [some (.ref 123), some (.int what), some (.int a3.2.1), some (.int a3.2.2), some (.int (Int32.ofNat i2)), some (.int (Int32.ofNat i3))]) (st1 := [.int (Int32.ofNat i3), .int (Int32.ofNat i2), .ref 135]) (s1 := a3.1) rfl ?_
      refine UP.ast (e := i2) rfl rfl (by omega) ?_
      show UP m_X7_swapOf 25 [some (.ref 123), some (.int what), some (.int a3.2.1), some (.int a3.2.2), some (.int (Int32.ofNat i2)), some (.int (Int32.ofNat i3))] [] (uset a3.1 135 i2 (Int32.ofNat i3)) (Qb (F_swapOf s what))
      refine UP.stp 4 (i1 := 29) (L1 := [some (.ref 123), some (.int what), some (.int a3.2.1), some (.int a3.2.2), some (.int (Int32.ofNat i2)), some (.int (Int32.ofNat i3))]) (st1 := [.int (Int32.ofNat i2), .int (Int32.ofNat i3), .ref 135]) (s1 := (uset a3.1 135 i2 (Int32.ofNat i3))) rfl ?_
      refine UP.ast (e := i3) rfl rfl (by omega) ?_
      show UP m_X7_swapOf 30 [some (.ref 123), some (.int what), some (.int a3.2.1), some (.int a3.2.2), some (.int (Int32.ofNat i2)), some (.int (Int32.ofNat i3))] [] (uset (uset a3.1 135 i2 (Int32.ofNat i3)) 135 i3 (Int32.ofNat i2)) (Qb (F_swapOf s what))
      refine UP.stp 1 (i1 := 31) (L1 := [some (.ref 123), some (.int what), some (.int a3.2.1), some (.int a3.2.2), some (.int (Int32.ofNat i2)), some (.int (Int32.ofNat i3))]) (st1 := [.ref 123]) (s1 := (uset (uset a3.1 135 i2 (Int32.ofNat i3)) 135 i3 (Int32.ofNat i2))) rfl ?_
      refine UP.cV (M1 := m_X7_runs) (as := [.ref 123]) (rest := []) (T := F_runs (uset (uset a3.1 135 i2 (Int32.ofNat i3)) 135 i3 (Int32.ofNat i2)) ) rfl rfl (ux_runs (uset (uset a3.1 135 i2 (Int32.ofNat i3)) 135 i3 (Int32.ofNat i2)) ) (fun z4 e4 => ?_)
      refine UP.stp 4 (i1 := 36) (L1 := [some (.ref 123), some (.int what), some (.int a3.2.1), some (.int a3.2.2), some (.int (Int32.ofNat i2)), some (.int (Int32.ofNat i3))]) (st1 := [.int (Int32.ofNat i2), .int (Int32.ofNat i2), .ref 135]) (s1 := z4) rfl ?_
      refine UP.ast (e := i2) rfl rfl (by omega) ?_
      show UP m_X7_swapOf 37 [some (.ref 123), some (.int what), some (.int a3.2.1), some (.int a3.2.2), some (.int (Int32.ofNat i2)), some (.int (Int32.ofNat i3))] [] (uset z4 135 i2 (Int32.ofNat i2)) (Qb (F_swapOf s what))
      refine UP.stp 4 (i1 := 41) (L1 := [some (.ref 123), some (.int what), some (.int a3.2.1), some (.int a3.2.2), some (.int (Int32.ofNat i2)), some (.int (Int32.ofNat i3))]) (st1 := [.int (Int32.ofNat i3), .int (Int32.ofNat i3), .ref 135]) (s1 := (uset z4 135 i2 (Int32.ofNat i2))) rfl ?_
      refine UP.ast (e := i3) rfl rfl (by omega) ?_
      show UP m_X7_swapOf 42 [some (.ref 123), some (.int what), some (.int a3.2.1), some (.int a3.2.2), some (.int (Int32.ofNat i2)), some (.int (Int32.ofNat i3))] [] (uset (uset z4 135 i2 (Int32.ofNat i2)) 135 i3 (Int32.ofNat i3)) (Qb (F_swapOf s what))
      refine UP.stp 3 (i1 := 45) (L1 := [some (.ref 123), some (.int what), some (.int a3.2.1), some (.int a3.2.2), some (.int (Int32.ofNat i2)), some (.int (Int32.ofNat i3))]) (st1 := [.int a3.2.2, .int (z4 123 19)]) (s1 := (uset (uset z4 135 i2 (Int32.ofNat i2)) 135 i3 (Int32.ofNat i3))) rfl ?_
      refine mrg (m_cmp .le (z4 123 19) a3.2.2) a3.2.1 ((8 * (Int32.ofNat i2)) + (Int32.ofNat i3)) (fun v5 : Int32 => UP m_X7_swapOf 53 [some (.ref 123), some (.int what), some (.int a3.2.1), some (.int a3.2.2), some (.int (Int32.ofNat i2)), some (.int (Int32.ofNat i3))] [.int v5] (uset (uset z4 135 i2 (Int32.ofNat i2)) 135 i3 (Int32.ofNat i3)) (Qb (F_swapOf s what))) (fun cc kk => ?_) (fun cc kk => ?_) (fun v5 e5 => ?_)
      · skip
        refine UP.icT rfl cc ?_
        refine UP.stp 1 (i1 := 53) (L1 := [some (.ref 123), some (.int what), some (.int a3.2.1), some (.int a3.2.2), some (.int (Int32.ofNat i2)), some (.int (Int32.ofNat i3))]) (st1 := [.int a3.2.1]) (s1 := (uset (uset z4 135 i2 (Int32.ofNat i2)) 135 i3 (Int32.ofNat i3))) rfl ?_
        exact kk
      · skip
        refine UP.icF rfl cc ?_
        refine UP.stp 6 (i1 := 53) (L1 := [some (.ref 123), some (.int what), some (.int a3.2.1), some (.int a3.2.2), some (.int (Int32.ofNat i2)), some (.int (Int32.ofNat i3))]) (st1 := [.int ((8 * (Int32.ofNat i2)) + (Int32.ofNat i3))]) (s1 := (uset (uset z4 135 i2 (Int32.ofNat i2)) 135 i3 (Int32.ofNat i3))) rfl ?_
        exact kk
      refine UP.stp 4 (i1 := 57) (L1 := [some (.ref 123), some (.int what), some (.int v5), some (.int a3.2.2), some (.int (Int32.ofNat i2)), some (.int (Int32.ofNat i3))]) (st1 := [.int a3.2.2, .int (z4 123 19)]) (s1 := (uset (uset z4 135 i2 (Int32.ofNat i2)) 135 i3 (Int32.ofNat i3))) rfl ?_
      refine mrg (m_cmp .le (z4 123 19) a3.2.2) a3.2.2 (z4 123 19) (fun v6 : Int32 => UP m_X7_swapOf 62 [some (.ref 123), some (.int what), some (.int v5), some (.int a3.2.2), some (.int (Int32.ofNat i2)), some (.int (Int32.ofNat i3))] [.int v6] (uset (uset z4 135 i2 (Int32.ofNat i2)) 135 i3 (Int32.ofNat i3)) (Qb (F_swapOf s what))) (fun cc kk => ?_) (fun cc kk => ?_) (fun v6 e6 => ?_)
      · skip
        refine UP.icT rfl cc ?_
        refine UP.stp 1 (i1 := 62) (L1 := [some (.ref 123), some (.int what), some (.int v5), some (.int a3.2.2), some (.int (Int32.ofNat i2)), some (.int (Int32.ofNat i3))]) (st1 := [.int a3.2.2]) (s1 := (uset (uset z4 135 i2 (Int32.ofNat i2)) 135 i3 (Int32.ofNat i3))) rfl ?_
        exact kk
      · skip
        refine UP.icF rfl cc ?_
        refine UP.stp 3 (i1 := 62) (L1 := [some (.ref 123), some (.int what), some (.int v5), some (.int a3.2.2), some (.int (Int32.ofNat i2)), some (.int (Int32.ofNat i3))]) (st1 := [.int (z4 123 19)]) (s1 := (uset (uset z4 135 i2 (Int32.ofNat i2)) 135 i3 (Int32.ofNat i3))) rfl ?_
        exact kk
      refine UP.stp 3 (i1 := 16) (L1 := [some (.ref 123), some (.int what), some (.int v5), some (.int v6), some (.int (Int32.ofNat i2)), some (.int ((Int32.ofNat i3) + 1))]) (st1 := []) (s1 := (uset (uset z4 135 i2 (Int32.ofNat i2)) 135 i3 (Int32.ofNat i3))) rfl ?_
      subst e6 e5 e4
      rw [ofn_s]
      try dsimp only [B_swapOf_16] at kk
      exact kk
    refine UP.stp 3 (i1 := 19) (L1 := [some (.ref 123), some (.int what), some (.int z3.2.1), some (.int z3.2.2), some (.int (Int32.ofNat i2)), some (.int (Int32.ofNat ((a2.1 123 2).toNatClampNeg)))]) (st1 := [.int (z3.1 123 2), .int (Int32.ofNat ((a2.1 123 2).toNatClampNeg))]) (s1 := z3.1) rfl ?_
    refine UP.icT rfl (by rw [(g3 123 2 rfl)]; exact ge_T _) ?_
    refine UP.stp 2 (i1 := 8) (L1 := [some (.ref 123), some (.int what), some (.int z3.2.1), some (.int z3.2.2), some (.int ((Int32.ofNat i2) + 1)), some (.int (Int32.ofNat ((a2.1 123 2).toNatClampNeg)))]) (st1 := []) (s1 := z3.1) rfl ?_
    subst e3
    rw [ofn_s]
    try dsimp only [B_swapOf_8] at kk
    exact kk _
  intro u2_5
  refine UP.stp 3 (i1 := 11) (L1 := [some (.ref 123), some (.int what), some (.int z2.2.1), some (.int z2.2.2), some (.int (Int32.ofNat ((z1 123 2).toNatClampNeg))), u2_5]) (st1 := [.int (z2.1 123 2), .int (Int32.ofNat ((z1 123 2).toNatClampNeg))]) (s1 := z2.1) rfl ?_
  refine UP.icT rfl (by rw [(g2 123 2 rfl)]; exact ge_T _) ?_
  refine UP.stp 2 (i1 := 69) (L1 := [some (.ref 123), some (.int what), some (.int z2.2.1), some (.int z2.2.2), some (.int (Int32.ofNat ((z1 123 2).toNatClampNeg))), u2_5]) (st1 := [.int (-1), .int z2.2.1]) (s1 := z2.1) rfl ?_
  refine mrg (m_cmp .ne z2.2.1 (-1)) (bif m_cmp .ne what 0 then (bif m_cmp .ne what 1 then z2.2.2 else z2.2.1 - z2.2.1 / 8 * 8) else z2.2.1 / 8) (-1 : Int32) (fun v9 : Int32 => UP m_X7_swapOf 86 [some (.ref 123), some (.int what), some (.int z2.2.1), some (.int z2.2.2), some (.int (Int32.ofNat ((z1 123 2).toNatClampNeg))), u2_5] [.int v9] z2.1 (Qb (F_swapOf s what))) (fun cc kk => ?_) (fun cc kk => ?_) (fun v9 e9 => ?_)
  · skip
    refine UP.icT rfl cc ?_
    refine UP.stp 1 (i1 := 73) (L1 := [some (.ref 123), some (.int what), some (.int z2.2.1), some (.int z2.2.2), some (.int (Int32.ofNat ((z1 123 2).toNatClampNeg))), u2_5]) (st1 := [.int what]) (s1 := z2.1) rfl ?_
    refine mrg (m_cmp .ne what 0) (bif m_cmp .ne what 1 then z2.2.2 else z2.2.1 - z2.2.1 / 8 * 8) (z2.2.1 / 8) (fun v8 : Int32 => UP m_X7_swapOf 86 [some (.ref 123), some (.int what), some (.int z2.2.1), some (.int z2.2.2), some (.int (Int32.ofNat ((z1 123 2).toNatClampNeg))), u2_5] [.int v8] z2.1 (Qb (F_swapOf s what))) (fun cc kk => ?_) (fun cc kk => ?_) (fun v8 e8 => ?_)
    · skip
      refine UP.ifT rfl cc ?_
      refine UP.stp 2 (i1 := 80) (L1 := [some (.ref 123), some (.int what), some (.int z2.2.1), some (.int z2.2.2), some (.int (Int32.ofNat ((z1 123 2).toNatClampNeg))), u2_5]) (st1 := [.int 1, .int what]) (s1 := z2.1) rfl ?_
      refine mrg (m_cmp .ne what 1) z2.2.2 (z2.2.1 - z2.2.1 / 8 * 8) (fun v7 : Int32 => UP m_X7_swapOf 86 [some (.ref 123), some (.int what), some (.int z2.2.1), some (.int z2.2.2), some (.int (Int32.ofNat ((z1 123 2).toNatClampNeg))), u2_5] [.int v7] z2.1 (Qb (F_swapOf s what))) (fun cc kk => ?_) (fun cc kk => ?_) (fun v7 e7 => ?_)
      · skip
        refine UP.icT rfl cc ?_
        refine UP.stp 1 (i1 := 86) (L1 := [some (.ref 123), some (.int what), some (.int z2.2.1), some (.int z2.2.2), some (.int (Int32.ofNat ((z1 123 2).toNatClampNeg))), u2_5]) (st1 := [.int z2.2.2]) (s1 := z2.1) rfl ?_
        exact kk
      · skip
        refine UP.icF rfl cc ?_
        refine UP.stp 4 (i1 := 86) (L1 := [some (.ref 123), some (.int what), some (.int z2.2.1), some (.int z2.2.2), some (.int (Int32.ofNat ((z1 123 2).toNatClampNeg))), u2_5]) (st1 := [.int (z2.2.1 - z2.2.1 / 8 * 8)]) (s1 := z2.1) rfl ?_
        exact kk
      subst e7
      exact kk
    · skip
      refine UP.ifF rfl cc ?_
      refine UP.stp 4 (i1 := 86) (L1 := [some (.ref 123), some (.int what), some (.int z2.2.1), some (.int z2.2.2), some (.int (Int32.ofNat ((z1 123 2).toNatClampNeg))), u2_5]) (st1 := [.int (z2.2.1 / 8)]) (s1 := z2.1) rfl ?_
      exact kk
    subst e8
    exact kk
  · skip
    refine UP.icF rfl cc ?_
    refine UP.stp 2 (i1 := 86) (L1 := [some (.ref 123), some (.int what), some (.int z2.2.1), some (.int z2.2.2), some (.int (Int32.ofNat ((z1 123 2).toNatClampNeg))), u2_5]) (st1 := [.int (-1)]) (s1 := z2.1) rfl ?_
    exact kk
  exact UP.ret (r := some (.int v9)) rfl ⟨by subst e9 e2 e1; first | (dsimp only [F_swapOf]; done) | (dsimp only; done) | rfl, by subst e9 e2 e1; first | (dsimp only [F_swapOf]; done) | (dsimp only; done) | rfl⟩
