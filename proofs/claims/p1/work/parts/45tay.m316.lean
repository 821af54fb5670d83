def W_askOf : List (Nat × Nat × Option Nat) := [(126, 129, none), (133, 144, none), (147, 147, none), (123, 123, some 2), (123, 123, some 5), (123, 123, some 7), (123, 123, some 17), (123, 123, some 19), (123, 123, some 20), (123, 123, some 21), (123, 123, some 22), (123, 123, some 23), (123, 123, some 24), (123, 123, some 25), (123, 123, some 26), (123, 123, some 27)]
def B_askOf_24 (z1 : Int32 × SG) (i2 : Nat) (i3 : Nat) (i4 : Nat) (a4 : Int32) : Int32 := let v9 := bif m_cmp .eq (F_isIn z1.2 z1.1 (Int32.ofNat i3)) 0 then (0 : Int32) else (bif m_cmp .eq (F_isIn z1.2 z1.1 (Int32.ofNat i4)) 0 then (0 : Int32) else (bif m_cmp .ne (z1.2 147 (24 * i3 + i2)) (z1.2 147 (24 * i4 + i2)) then (0 : Int32) else (1 : Int32))); let v10 := a4 + v9; v10
def B_askOf_17 (z1 : Int32 × SG) (i2 : Nat) (i3 : Nat) (a3 : Int32) : Int32 := let z4 := itr (B_askOf_24 z1 i2 i3) 1 (10 - 1) (0 : Int32); let v11 := bif m_cmp .le z4 a3 then a3 else z4; v11
def B_askOf_10 (z1 : Int32 × SG) (i2 : Nat) (a2 : Int32 × Int32) : Int32 × Int32 := let z3 := itr (B_askOf_17 z1 i2) 1 (10 - 1) (0 : Int32); let v13 := bif m_cmp .eq a2.1 (-1) then (1 : Int32) else (bif m_cmp .ge z3 a2.2 then (0 : Int32) else (1 : Int32)); let v14 := bif m_cmp .eq v13 0 then a2.1 else Int32.ofNat i2; let v15 := bif m_cmp .eq v13 0 then a2.2 else z3; (v14, v15)
def F_askOf (s : SG) (k : Int32) : Int32 × SG := let z1 := F_powersBy s k; let z2 := itr (B_askOf_10 z1) 0 24 ((-1), 0); (z2.1, z1.2)
set_option maxRecDepth 20000 in
set_option maxHeartbeats 200000 in
theorem fr_askOf (s : SG) (k : Int32)  : Fr W_askOf s (F_askOf s k).2 := by dsimp only [F_askOf]; exact (Fr.tr (s1 := s) (Fr.rf _ _) (Fr.wk (W2 := W_askOf) (fr_powersBy s k) (by rfl)))
set_option maxRecDepth 20000 in
set_option maxHeartbeats 200000 in
theorem ux_askOf (s : SG) (k : Int32)  : UP m_X7_askOf 0 (m_ent 10 [.ref 123, .int k]) [] s (Qb (F_askOf s k)) := by
  refine UP.stp 2 (i1 := 2) (L1 := [some (.ref 123), some (.int k), none, none, none, none, none, none, none, none]) (st1 := [.int k, .ref 123]) (s1 := s) rfl ?_
  refine UP.cB (M1 := m_X7_powersBy) (as := [.ref 123, .int k]) (rest := []) (T := F_powersBy s k) rfl rfl (ux_powersBy s k) (fun z1 e1 => ?_)
  refine UP.stp 7 (i1 := 10) (L1 := [some (.ref 123), some (.int k), some (.int z1.1), some (.int (-1)), some (.int 0), some (.int 0), none, none, none, none]) (st1 := []) (s1 := z1.2) rfl ?_
  refine lp (fun (i2 : Nat) (a2 : Int32 × Int32) => ∀ (u2_1 : Option Value) (u2_6 : Option Value) (u2_7 : Option Value) (u2_8 : Option Value) (u2_9 : Option Value), UP m_X7_askOf 10 [some (.ref 123), u2_1, some (.int z1.1), some (.int a2.1), some (.int a2.2), some (.int (Int32.ofNat i2)), u2_6, u2_7, u2_8, u2_9] [] z1.2 (Qb (F_askOf s k))) (fun (_ : Nat) (a2 : Int32 × Int32) => Fr W_askOf z1.2 z1.2) (B_askOf_10 z1) (24) (fun i2 a2 hi2 g2 => g2) (fun i2 a2 hi2 g2 kk => ?_) 24 (0) ((-1), 0) (by  omega) (Fr.rf _ _) (fun z2 e2 g2 => ?_) (some (.int k)) none none none none
  · skip
    intro u2_1 u2_6 u2_7 u2_8 u2_9
    refine UP.stp 2 (i1 := 12) (L1 := [some (.ref 123), u2_1, some (.int z1.1), some (.int a2.1), some (.int a2.2), some (.int (Int32.ofNat i2)), u2_6, u2_7, u2_8, u2_9]) (st1 := [.int 24, .int (Int32.ofNat i2)]) (s1 := z1.2) rfl ?_
    refine UP.icF rfl (ge_F (show i2 < (24 : Int32).toNatClampNeg from hi2)) ?_
    refine UP.stp 4 (i1 := 17) (L1 := [some (.ref 123), u2_1, some (.int z1.1), some (.int a2.1), some (.int a2.2), some (.int (Int32.ofNat i2)), some (.int 0), some (.int 1), u2_8, u2_9]) (st1 := []) (s1 := z1.2) rfl ?_
    refine lp (fun (i3 : Nat) (a3 : Int32) => ∀ (u3_1 : Option Value) (u3_8 : Option Value) (u3_9 : Option Value), UP m_X7_askOf 17 [some (.ref 123), u3_1, some (.int z1.1), some (.int a2.1), some (.int a2.2), some (.int (Int32.ofNat i2)), some (.int a3), some (.int (Int32.ofNat i3)), u3_8, u3_9] [] z1.2 (Qb (F_askOf s k))) (fun (_ : Nat) (a3 : Int32) => Fr W_askOf z1.2 z1.2) (B_askOf_17 z1 i2) (10) (fun i3 a3 hi3 g3 => g3) (fun i3 a3 hi3 g3 kk => ?_) (10 - 1) (1) (0 : Int32) (by  omega) (Fr.rf _ _) (fun z3 e3 g3 => ?_) (u2_1) (u2_8) (u2_9)
    · skip
      intro u3_1 u3_8 u3_9
      refine UP.stp 2 (i1 := 19) (L1 := [some (.ref 123), u3_1, some (.int z1.1), some (.int a2.1), some (.int a2.2), some (.int (Int32.ofNat i2)), some (.int a3), some (.int (Int32.ofNat i3)), u3_8, u3_9]) (st1 := [.int 10, .int (Int32.ofNat i3)]) (s1 := z1.2) rfl ?_
      refine UP.icF rfl (ge_F (show i3 < (10 : Int32).toNatClampNeg from hi3)) ?_
      refine UP.stp 4 (i1 := 24) (L1 := [some (.ref 123), u3_1, some (.int z1.1), some (.int a2.1), some (.int a2.2), some (.int (Int32.ofNat i2)), some (.int a3), some (.int (Int32.ofNat i3)), some (.int 0), some (.int 1)]) (st1 := []) (s1 := z1.2) rfl ?_
      refine lp (fun (i4 : Nat) (a4 : Int32) => ∀ (u4_1 : Option Value), UP m_X7_askOf 24 [some (.ref 123), u4_1, some (.int z1.1), some (.int a2.1), some (.int a2.2), some (.int (Int32.ofNat i2)), some (.int a3), some (.int (Int32.ofNat i3)), some (.int a4), some (.int (Int32.ofNat i4))] [] z1.2 (Qb (F_askOf s k))) (fun (_ : Nat) (a4 : Int32) => Fr W_askOf z1.2 z1.2) (B_askOf_24 z1 i2 i3) (10) (fun i4 a4 hi4 g4 => g4) (fun i4 a4 hi4 g4 kk => ?_) (10 - 1) (1) (0 : Int32) (by  omega) (Fr.rf _ _) (fun z4 e4 g4 => ?_) (u3_1)
      · skip
        intro u4_1
        refine UP.stp 2 (i1 := 26) (L1 := [some (.ref 123), u4_1, some (.int z1.1), some (.int a2.1), some (.int a2.2), some (.int (Int32.ofNat i2)), some (.int a3), some (.int (Int32.ofNat i3)), some (.int a4), some (.int (Int32.ofNat i4))]) (st1 := [.int 10, .int (Int32.ofNat i4)]) (s1 := z1.2) rfl ?_
        refine UP.icF rfl (ge_F (show i4 < (10 : Int32).toNatClampNeg from hi4)) ?_
        refine UP.stp 3 (i1 := 30) (L1 := [some (.ref 123), u4_1, some (.int z1.1), some (.int a2.1), some (.int a2.2), some (.int (Int32.ofNat i2)), some (.int a3), some (.int (Int32.ofNat i3)), some (.int a4), some (.int (Int32.ofNat i4))]) (st1 := [.int (Int32.ofNat i3), .int z1.1, .int a4]) (s1 := z1.2) rfl ?_
        refine UP.cI (M1 := m_X7_isIn) (as := [.int z1.1, .int (Int32.ofNat i3)]) (rest := [.int a4]) (T := F_isIn z1.2 z1.1 (Int32.ofNat i3)) rfl rfl (ux_isIn z1.2 z1.1 (Int32.ofNat i3)) ?_
        refine mrg (m_cmp .eq (F_isIn z1.2 z1.1 (Int32.ofNat i3)) 0) (0 : Int32) (bif m_cmp .eq (F_isIn z1.2 z1.1 (Int32.ofNat i4)) 0 then (0 : Int32) else (bif m_cmp .ne (z1.2 147 (24 * i3 + i2)) (z1.2 147 (24 * i4 + i2)) then (0 : Int32) else (1 : Int32))) (fun v9 : Int32 => UP m_X7_askOf 56 [some (.ref 123), u4_1, some (.int z1.1), some (.int a2.1), some (.int a2.2), some (.int (Int32.ofNat i2)), some (.int a3), some (.int (Int32.ofNat i3)), some (.int a4), some (.int (Int32.ofNat i4))] [.int v9, .int a4] z1.2 (Qb (F_askOf s k))) (fun cc kk => ?_) (fun cc kk => ?_) (fun v9 e9 => ?_)
        · skip
          refine UP.ifT rfl cc ?_
          refine UP.stp 1 (i1 := 56) (L1 := [some (.ref 123), u4_1, some (.int z1.1), some (.int a2.1), some (.int a2.2), some (.int (Int32.ofNat i2)), some (.int a3), some (.int (Int32.ofNat i3)), some (.int a4), some (.int (Int32.ofNat i4))]) (st1 := [.int 0, .int a4]) (s1 := z1.2) rfl ?_
          exact kk
        · skip
          refine UP.ifF rfl cc ?_
          refine UP.stp 2 (i1 := 34) (L1 := [some (.ref 123), u4_1, some (.int z1.1), some (.int a2.1), some (.int a2.2), some (.int (Int32.ofNat i2)), some (.int a3), some (.int (Int32.ofNat i3)), some (.int a4), some (.int (Int32.ofNat i4))]) (st1 := [.int (Int32.ofNat i4), .int z1.1, .int a4]) (s1 := z1.2) rfl ?_
          refine UP.cI (M1 := m_X7_isIn) (as := [.int z1.1, .int (Int32.ofNat i4)]) (rest := [.int a4]) (T := F_isIn z1.2 z1.1 (Int32.ofNat i4)) rfl rfl (ux_isIn z1.2 z1.1 (Int32.ofNat i4)) ?_
          refine mrg (m_cmp .eq (F_isIn z1.2 z1.1 (Int32.ofNat i4)) 0) (0 : Int32) (bif m_cmp .ne (z1.2 147 (24 * i3 + i2)) (z1.2 147 (24 * i4 + i2)) then (0 : Int32) else (1 : Int32)) (fun v8 : Int32 => UP m_X7_askOf 56 [some (.ref 123), u4_1, some (.int z1.1), some (.int a2.1), some (.int a2.2), some (.int (Int32.ofNat i2)), some (.int a3), some (.int (Int32.ofNat i3)), some (.int a4), some (.int (Int32.ofNat i4))] [.int v8, .int a4] z1.2 (Qb (F_askOf s k))) (fun cc kk => ?_) (fun cc kk => ?_) (fun v8 e8 => ?_)
          · skip
            refine UP.ifT rfl cc ?_
            refine UP.stp 1 (i1 := 56) (L1 := [some (.ref 123), u4_1, some (.int z1.1), some (.int a2.1), some (.int a2.2), some (.int (Int32.ofNat i2)), some (.int a3), some (.int (Int32.ofNat i3)), some (.int a4), some (.int (Int32.ofNat i4))]) (st1 := [.int 0, .int a4]) (s1 := z1.2) rfl ?_
            exact kk
          · skip
            refine UP.ifF rfl cc ?_
            refine UP.stp 7 (i1 := 43) (L1 := [some (.ref 123), u4_1, some (.int z1.1), some (.int a2.1), some (.int a2.2), some (.int (Int32.ofNat i2)), some (.int a3), some (.int (Int32.ofNat i3)), some (.int a4), some (.int (Int32.ofNat i4))]) (st1 := [.int ((24 * (Int32.ofNat i3)) + (Int32.ofNat i2)), .ref 147, .int a4]) (s1 := z1.2) rfl ?_
            refine UP.ald (e := 24 * i3 + i2) rfl (ofn_add (ofn_mul rfl rfl) rfl) (by omega) ?_
            show UP m_X7_askOf 44 [some (.ref 123), u4_1, some (.int z1.1), some (.int a2.1), some (.int a2.2), some (.int (Int32.ofNat i2)), some (.int a3), some (.int (Int32.ofNat i3)), some (.int a4), some (.int (Int32.ofNat i4))] [.int (z1.2 147 (24 * i3 + i2)), .int a4] z1.2 (Qb (F_askOf s k))
            refine UP.stp 7 (i1 := 51) (L1 := [some (.ref 123), u4_1, some (.int z1.1), some (.int a2.1), some (.int a2.2), some (.int (Int32.ofNat i2)), some (.int a3), some (.int (Int32.ofNat i3)), some (.int a4), some (.int (Int32.ofNat i4))]) (st1 := [.int ((24 * (Int32.ofNat i4)) + (Int32.ofNat i2)), .ref 147, .int (z1.2 147 (24 * i3 + i2)), .int a4]) (s1 := z1.2) rfl ?_
            refine UP.ald (e := 24 * i4 + i2) rfl (ofn_add (ofn_mul rfl rfl) rfl) (by omega) ?_
            show UP m_X7_askOf 52 [some (.ref 123), u4_1, some (.int z1.1), some (.int a2.1), some (.int a2.2), some (.int (Int32.ofNat i2)), some (.int a3), some (.int (Int32.ofNat i3)), some (.int a4), some (.int (Int32.ofNat i4))] [.int (z1.2 147 (24 * i4 + i2)), .int (z1.2 147 (24 * i3 + i2)), .int a4] z1.2 (Qb (F_askOf s k))
            refine mrg (m_cmp .ne (z1.2 147 (24 * i3 + i2)) (z1.2 147 (24 * i4 + i2))) (0 : Int32) (1 : Int32) (fun v7 : Int32 => UP m_X7_askOf 56 [some (.ref 123), u4_1, some (.int z1.1), some (.int a2.1), some (.int a2.2), some (.int (Int32.ofNat i2)), some (.int a3), some (.int (Int32.ofNat i3)), some (.int a4), some (.int (Int32.ofNat i4))] [.int v7, .int a4] z1.2 (Qb (F_askOf s k))) (fun cc kk => ?_) (fun cc kk => ?_) (fun v7 e7 => ?_)
            · skip
              refine UP.icT rfl cc ?_
              refine UP.stp 1 (i1 := 56) (L1 := [some (.ref 123), u4_1, some (.int z1.1), some (.int a2.1), some (.int a2.2), some (.int (Int32.ofNat i2)), some (.int a3), some (.int (Int32.ofNat i3)), some (.int a4), some (.int (Int32.ofNat i4))]) (st1 := [.int 0, .int a4]) (s1 := z1.2) rfl ?_
              exact kk
            · skip
              refine UP.icF rfl cc ?_
              refine UP.stp 2 (i1 := 56) (L1 := [some (.ref 123), u4_1, some (.int z1.1), some (.int a2.1), some (.int a2.2), some (.int (Int32.ofNat i2)), some (.int a3), some (.int (Int32.ofNat i3)), some (.int a4), some (.int (Int32.ofNat i4))]) (st1 := [.int 1, .int a4]) (s1 := z1.2) rfl ?_
              exact kk
            subst e7
            exact kk
          subst e8
          exact kk
        refine UP.stp 1 (i1 := 57) (L1 := [some (.ref 123), u4_1, some (.int z1.1), some (.int a2.1), some (.int a2.2), some (.int (Int32.ofNat i2)), some (.int a3), some (.int (Int32.ofNat i3)), some (.int a4), some (.int (Int32.ofNat i4))]) (st1 := [.int (a4 + v9)]) (s1 := z1.2) rfl ?_
        refine nm (G := fun v10 => UP m_X7_askOf 57 [some (.ref 123), u4_1, some (.int z1.1), some (.int a2.1), some (.int a2.2), some (.int (Int32.ofNat i2)), some (.int a3), some (.int (Int32.ofNat i3)), some (.int a4), some (.int (Int32.ofNat i4))] [.int v10] z1.2 (Qb (F_askOf s k))) (a4 + v9) (fun v10 e10 => ?_)
        refine UP.stp 3 (i1 := 24) (L1 := [some (.ref 123), u4_1, some (.int z1.1), some (.int a2.1), some (.int a2.2), some (.int (Int32.ofNat i2)), some (.int a3), some (.int (Int32.ofNat i3)), some (.int v10), some (.int ((Int32.ofNat i4) + 1))]) (st1 := []) (s1 := z1.2) rfl ?_
        subst e10 e9
        rw [ofn_s]
        try dsimp only [B_askOf_24] at kk
        exact kk _
      intro u4_1
      refine UP.stp 2 (i1 := 26) (L1 := [some (.ref 123), u4_1, some (.int z1.1), some (.int a2.1), some (.int a2.2), some (.int (Int32.ofNat i2)), some (.int a3), some (.int (Int32.ofNat i3)), some (.int z4), some (.int (Int32.ofNat 10))]) (st1 := [.int 10, .int (Int32.ofNat 10)]) (s1 := z1.2) rfl ?_
      refine UP.icT rfl (ge_T (10 : Int32)) ?_
      refine UP.stp 2 (i1 := 62) (L1 := [some (.ref 123), u4_1, some (.int z1.1), some (.int a2.1), some (.int a2.2), some (.int (Int32.ofNat i2)), some (.int a3), some (.int (Int32.ofNat i3)), some (.int z4), some (.int (Int32.ofNat 10))]) (st1 := [.int a3, .int z4]) (s1 := z1.2) rfl ?_
      refine mrg (m_cmp .le z4 a3) a3 z4 (fun v11 : Int32 => UP m_X7_askOf 66 [some (.ref 123), u4_1, some (.int z1.1), some (.int a2.1), some (.int a2.2), some (.int (Int32.ofNat i2)), some (.int a3), some (.int (Int32.ofNat i3)), some (.int z4), some (.int (Int32.ofNat 10))] [.int v11] z1.2 (Qb (F_askOf s k))) (fun cc kk => ?_) (fun cc kk => ?_) (fun v11 e11 => ?_)
      · skip
        refine UP.icT rfl cc ?_
        refine UP.stp 1 (i1 := 66) (L1 := [some (.ref 123), u4_1, some (.int z1.1), some (.int a2.1), some (.int a2.2), some (.int (Int32.ofNat i2)), some (.int a3), some (.int (Int32.ofNat i3)), some (.int z4), some (.int (Int32.ofNat 10))]) (st1 := [.int a3]) (s1 := z1.2) rfl ?_
        exact kk
      · skip
        refine UP.icF rfl cc ?_
        refine UP.stp 2 (i1 := 66) (L1 := [some (.ref 123), u4_1, some (.int z1.1), some (.int a2.1), some (.int a2.2), some (.int (Int32.ofNat i2)), some (.int a3), some (.int (Int32.ofNat i3)), some (.int z4), some (.int (Int32.ofNat 10))]) (st1 := [.int z4]) (s1 := z1.2) rfl ?_
        exact kk
      refine UP.stp 3 (i1 := 17) (L1 := [some (.ref 123), u4_1, some (.int z1.1), some (.int a2.1), some (.int a2.2), some (.int (Int32.ofNat i2)), some (.int v11), some (.int ((Int32.ofNat i3) + 1)), some (.int z4), some (.int (Int32.ofNat 10))]) (st1 := []) (s1 := z1.2) rfl ?_
      subst e11 e4
      rw [ofn_s]
      try dsimp only [B_askOf_17] at kk
      exact kk _ _ _
    intro u3_1 u3_8 u3_9
    refine UP.stp 2 (i1 := 19) (L1 := [some (.ref 123), u3_1, some (.int z1.1), some (.int a2.1), some (.int a2.2), some (.int (Int32.ofNat i2)), some (.int z3), some (.int (Int32.ofNat 10)), u3_8, u3_9]) (st1 := [.int 10, .int (Int32.ofNat 10)]) (s1 := z1.2) rfl ?_
    refine UP.icT rfl (ge_T (10 : Int32)) ?_
    refine UP.stp 2 (i1 := 71) (L1 := [some (.ref 123), u3_1, some (.int z1.1), some (.int a2.1), some (.int a2.2), some (.int (Int32.ofNat i2)), some (.int z3), some (.int (Int32.ofNat 10)), u3_8, u3_9]) (st1 := [.int (-1), .int a2.1]) (s1 := z1.2) rfl ?_
    refine mrg (m_cmp .eq a2.1 (-1)) (1 : Int32) (bif m_cmp .ge z3 a2.2 then (0 : Int32) else (1 : Int32)) (fun v13 : Int32 => UP m_X7_askOf 78 [some (.ref 123), u3_1, some (.int z1.1), some (.int a2.1), some (.int a2.2), some (.int (Int32.ofNat i2)), some (.int z3), some (.int (Int32.ofNat 10)), u3_8, u3_9] [.int v13] z1.2 (Qb (F_askOf s k))) (fun cc kk => ?_) (fun cc kk => ?_) (fun v13 e13 => ?_)
    · skip
      refine UP.icT rfl cc ?_
      refine UP.stp 2 (i1 := 78) (L1 := [some (.ref 123), u3_1, some (.int z1.1), some (.int a2.1), some (.int a2.2), some (.int (Int32.ofNat i2)), some (.int z3), some (.int (Int32.ofNat 10)), u3_8, u3_9]) (st1 := [.int 1]) (s1 := z1.2) rfl ?_
      exact kk
    · skip
      refine UP.icF rfl cc ?_
      refine UP.stp 2 (i1 := 74) (L1 := [some (.ref 123), u3_1, some (.int z1.1), some (.int a2.1), some (.int a2.2), some (.int (Int32.ofNat i2)), some (.int z3), some (.int (Int32.ofNat 10)), u3_8, u3_9]) (st1 := [.int a2.2, .int z3]) (s1 := z1.2) rfl ?_
      refine mrg (m_cmp .ge z3 a2.2) (0 : Int32) (1 : Int32) (fun v12 : Int32 => UP m_X7_askOf 78 [some (.ref 123), u3_1, some (.int z1.1), some (.int a2.1), some (.int a2.2), some (.int (Int32.ofNat i2)), some (.int z3), some (.int (Int32.ofNat 10)), u3_8, u3_9] [.int v12] z1.2 (Qb (F_askOf s k))) (fun cc kk => ?_) (fun cc kk => ?_) (fun v12 e12 => ?_)
      · skip
        refine UP.icT rfl cc ?_
        refine UP.stp 1 (i1 := 78) (L1 := [some (.ref 123), u3_1, some (.int z1.1), some (.int a2.1), some (.int a2.2), some (.int (Int32.ofNat i2)), some (.int z3), some (.int (Int32.ofNat 10)), u3_8, u3_9]) (st1 := [.int 0]) (s1 := z1.2) rfl ?_
        exact kk
      · skip
        refine UP.icF rfl cc ?_
        refine UP.stp 2 (i1 := 78) (L1 := [some (.ref 123), u3_1, some (.int z1.1), some (.int a2.1), some (.int a2.2), some (.int (Int32.ofNat i2)), some (.int z3), some (.int (Int32.ofNat 10)), u3_8, u3_9]) (st1 := [.int 1]) (s1 := z1.2) rfl ?_
        exact kk
      subst e12
      exact kk
    refine UP.stp 2 (i1 := 80) (L1 := [some (.ref 123), u3_1, some (.int z1.1), some (.int a2.1), some (.int a2.2), some (.int (Int32.ofNat i2)), some (.int z3), some (.int v13), u3_8, u3_9]) (st1 := [.int v13]) (s1 := z1.2) rfl ?_
    refine mrg (m_cmp .eq v13 0) a2.1 (Int32.ofNat i2) (fun v14 : Int32 => UP m_X7_askOf 84 [some (.ref 123), u3_1, some (.int z1.1), some (.int a2.1), some (.int a2.2), some (.int (Int32.ofNat i2)), some (.int z3), some (.int v13), u3_8, u3_9] [.int v14] z1.2 (Qb (F_askOf s k))) (fun cc kk => ?_) (fun cc kk => ?_) (fun v14 e14 => ?_)
    · skip
      refine UP.ifT rfl cc ?_
      refine UP.stp 1 (i1 := 84) (L1 := [some (.ref 123), u3_1, some (.int z1.1), some (.int a2.1), some (.int a2.2), some (.int (Int32.ofNat i2)), some (.int z3), some (.int v13), u3_8, u3_9]) (st1 := [.int a2.1]) (s1 := z1.2) rfl ?_
      exact kk
    · skip
      refine UP.ifF rfl cc ?_
      refine UP.stp 2 (i1 := 84) (L1 := [some (.ref 123), u3_1, some (.int z1.1), some (.int a2.1), some (.int a2.2), some (.int (Int32.ofNat i2)), some (.int z3), some (.int v13), u3_8, u3_9]) (st1 := [.int (Int32.ofNat i2)]) (s1 := z1.2) rfl ?_
      exact kk
    refine UP.stp 2 (i1 := 86) (L1 := [some (.ref 123), u3_1, some (.int z1.1), some (.int v14), some (.int a2.2), some (.int (Int32.ofNat i2)), some (.int z3), some (.int v13), u3_8, u3_9]) (st1 := [.int v13]) (s1 := z1.2) rfl ?_
    refine mrg (m_cmp .eq v13 0) a2.2 z3 (fun v15 : Int32 => UP m_X7_askOf 90 [some (.ref 123), u3_1, some (.int z1.1), some (.int v14), some (.int a2.2), some (.int (Int32.ofNat i2)), some (.int z3), some (.int v13), u3_8, u3_9] [.int v15] z1.2 (Qb (F_askOf s k))) (fun cc kk => ?_) (fun cc kk => ?_) (fun v15 e15 => ?_)
    · skip
      refine UP.ifT rfl cc ?_
      refine UP.stp 1 (i1 := 90) (L1 := [some (.ref 123), u3_1, some (.int z1.1), some (.int v14), some (.int a2.2), some (.int (Int32.ofNat i2)), some (.int z3), some (.int v13), u3_8, u3_9]) (st1 := [.int a2.2]) (s1 := z1.2) rfl ?_
      exact kk
    · skip
      refine UP.ifF rfl cc ?_
      refine UP.stp 2 (i1 := 90) (L1 := [some (.ref 123), u3_1, some (.int z1.1), some (.int v14), some (.int a2.2), some (.int (Int32.ofNat i2)), some (.int z3), some (.int v13), u3_8, u3_9]) (st1 := [.int z3]) (s1 := z1.2) rfl ?_
      exact kk
    refine UP.stp 3 (i1 := 10) (L1 := [some (.ref 123), u3_1, some (.int z1.1), some (.int v14), some (.int v15), some (.int ((Int32.ofNat i2) + 1)), some (.int z3), some (.int v13), u3_8, u3_9]) (st1 := []) (s1 := z1.2) rfl ?_
    subst e15 e14 e13 e3
    rw [ofn_s]
    try dsimp only [B_askOf_10] at kk
    exact kk _ _ _ _ _
  intro u2_1 u2_6 u2_7 u2_8 u2_9
  refine UP.stp 2 (i1 := 12) (L1 := [some (.ref 123), u2_1, some (.int z1.1), some (.int z2.1), some (.int z2.2), some (.int (Int32.ofNat 24)), u2_6, u2_7, u2_8, u2_9]) (st1 := [.int 24, .int (Int32.ofNat 24)]) (s1 := z1.2) rfl ?_
  refine UP.icT rfl (ge_T (24 : Int32)) ?_
  refine UP.stp 1 (i1 := 94) (L1 := [some (.ref 123), u2_1, some (.int z1.1), some (.int z2.1), some (.int z2.2), some (.int (Int32.ofNat 24)), u2_6, u2_7, u2_8, u2_9]) (st1 := [.int z2.1]) (s1 := z1.2) rfl ?_
  exact UP.ret (r := some (.int z2.1)) rfl ⟨by subst e2 e1; first | (dsimp only [F_askOf]; done) | (dsimp only; done) | rfl, by subst e2 e1; first | (dsimp only [F_askOf]; done) | (dsimp only; done) | rfl⟩
