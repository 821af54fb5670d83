def W_csteer : List (Nat × Nat × Option Nat) := [(16, 20, none), (22, 45, none), (46, 52, none), (15, 15, some 8), (59, 63, none), (65, 88, none), (89, 95, none), (58, 58, some 8), (53, 57, none), (96, 108, none), (0, 0, some 12), (0, 0, some 13)]
def B_csteer_21 (minute : Int32) (i8 : Nat) (a8 : SG × Int32 × Int32) : SG × Int32 × Int32 := let z9 := F_rowOther (uset a8.1 57 minute.toNatClampNeg (Int32.ofNat i8)) ; let v11 := F_lastStray_b z9; let w12 := bif m_cmp .ge v11 a8.2.2 then (a8.2.1, a8.2.2) else (Int32.ofNat i8, v11); (z9, w12.1, w12.2)
set_option maxRecDepth 20000 in
set_option maxHeartbeats 200000 in
theorem fr_B_csteer_21 (minute : Int32) (i8 : Nat) (a8 : SG × Int32 × Int32)  (hi8 : i8 < 3) : Fr W_csteer a8.1 ((B_csteer_21 minute) i8 a8).1 := by dsimp only [B_csteer_21]; exact (Fr.tr (s1 := (uset a8.1 57 minute.toNatClampNeg (Int32.ofNat i8))) (Fr.uset (s1 := a8.1) (a := 57) (j := minute.toNatClampNeg) (x := Int32.ofNat i8) (by rfl) (Fr.rf _ _)) (Fr.wk (W2 := W_csteer) (fr_rowOther (uset a8.1 57 minute.toNatClampNeg (Int32.ofNat i8)) ) (by rfl)))
def F_csteer (s : SG) (minute : Int32) (what : Int32) : Int32 × SG := bif m_cmp .eq (F_isBelow s minute 24) 0 then (((-2), s)) else (bif m_cmp .ne (F_isBelow s what 2) 0 then (let z7 := F_take s ; let z8 := itr (B_csteer_21 minute) 0 3 (z7, (-1), 20); let v13 := bif m_cmp .ne what 0 then z8.2.2 else z8.2.1; (v13, z8.1)) else (((-2), s)))
set_option maxRecDepth 20000 in
set_option maxHeartbeats 200000 in
theorem fr_csteer (s : SG) (minute : Int32) (what : Int32)  : Fr W_csteer s (F_csteer s minute what).2 := by dsimp only [F_csteer]; exact (Fr.bifp (b := m_cmp .eq (F_isBelow s minute 24) 0) (x := ((-2), s)) (y := bif m_cmp .ne (F_isBelow s what 2) 0 then (let z7 := F_take s ; let z8 := itr (B_csteer_21 minute) 0 3 (z7, (-1), 20); let v13 := bif m_cmp .ne what 0 then z8.2.2 else z8.2.1; (v13, z8.1)) else (((-2), s))) (fun x : Int32 × SG => x.2) (by (try dsimp only); exact (Fr.rf _ _)) (by (try dsimp only); exact (Fr.bifp (b := m_cmp .ne (F_isBelow s what 2) 0) (x := let z7 := F_take s ; let z8 := itr (B_csteer_21 minute) 0 3 (z7, (-1), 20); let v13 := bif m_cmp .ne what 0 then z8.2.2 else z8.2.1; (v13, z8.1)) (y := ((-2), s)) (fun x : Int32 × SG => x.2) (by (try dsimp only); exact (let z7 : SG := F_take s ; (frItrB (W := W_csteer) (m := (fun x : SG × Int32 × Int32 => x.1)) (f := (B_csteer_21 minute)) 3 (fun ii aa hh => Fr.wk (W2 := W_csteer) (fr_B_csteer_21 minute ii aa  hh) (by rfl)) 3 0 (z7, (-1), 20) (by omega) (Fr.tr (s1 := s) (Fr.rf _ _) (Fr.wk (W2 := W_csteer) (fr_take s ) (by rfl)))))) (by (try dsimp only); exact (Fr.rf _ _)))))
set_option maxRecDepth 20000 in
set_option maxHeartbeats 200000 in
theorem ux_csteer (s : SG) (minute : Int32) (what : Int32)  : UP m_X6_steer 0 (m_ent 7 [.ref 0, .int minute, .int what]) [] s (Qb (F_csteer s minute what)) := by
  refine UP.stp 2 (i1 := 2) (L1 := [some (.ref 0), some (.int minute), some (.int what), none, none, none, none]) (st1 := [.int 24, .int minute]) (s1 := s) rfl ?_
  refine UP.cI (M1 := m_X6_isBelow) (as := [.int minute, .int 24]) (rest := []) (T := F_isBelow s minute 24) rfl rfl (ux_isBelow s minute 24) ?_
  refine UP.spl (m_cmp .eq (F_isBelow s minute 24) 0) (((-2), s)) (bif m_cmp .ne (F_isBelow s what 2) 0 then (let z7 := F_take s ; let z8 := itr (B_csteer_21 minute) 0 3 (z7, (-1), 20); let v13 := bif m_cmp .ne what 0 then z8.2.2 else z8.2.1; (v13, z8.1)) else (((-2), s))) (by first | (dsimp only [F_csteer]; done) | (dsimp only; done) | rfl) (fun cc => ?_) (fun cc => ?_)
  · skip
    refine UP.ifT rfl cc ?_
    refine UP.stp 1 (i1 := 9) (L1 := [some (.ref 0), some (.int minute), some (.int what), none, none, none, none]) (st1 := [.int (-2)]) (s1 := s) rfl ?_
    exact UP.ret (r := some (.int (-2))) rfl ⟨by first | (dsimp only [F_csteer]; done) | (dsimp only; done) | rfl, by first | (dsimp only [F_csteer]; done) | (dsimp only; done) | rfl⟩
  · skip
    refine UP.ifF rfl cc ?_
    refine UP.stp 2 (i1 := 6) (L1 := [some (.ref 0), some (.int minute), some (.int what), none, none, none, none]) (st1 := [.int 2, .int what]) (s1 := s) rfl ?_
    refine UP.cI (M1 := m_X6_isBelow) (as := [.int what, .int 2]) (rest := []) (T := F_isBelow s what 2) rfl rfl (ux_isBelow s what 2) ?_
    refine UP.spl (m_cmp .ne (F_isBelow s what 2) 0) (let z7 := F_take s ; let z8 := itr (B_csteer_21 minute) 0 3 (z7, (-1), 20); let v13 := bif m_cmp .ne what 0 then z8.2.2 else z8.2.1; (v13, z8.1)) (((-2), s)) (by first | (dsimp only [F_csteer]; done) | (dsimp only; done) | rfl) (fun cc => ?_) (fun cc => ?_)
    · skip
      refine UP.ifT rfl cc ?_
      refine UP.stp 4 (i1 := 14) (L1 := [some (.ref 0), some (.int minute), some (.int what), none, none, none, none]) (st1 := [.ref 10, .ref 53]) (s1 := s) rfl ?_
      refine UP.cV (M1 := m_X0_take) (as := [.ref 53, .ref 10]) (rest := []) (T := F_take s ) rfl rfl (ux_take s ) (fun z7 e7 => ?_)
      refine UP.stp 6 (i1 := 21) (L1 := [some (.ref 0), some (.int minute), some (.int what), some (.int (-1)), some (.int 20), some (.int 0), none]) (st1 := []) (s1 := z7) rfl ?_
      refine lp (fun (i8 : Nat) (a8 : SG × Int32 × Int32) => ∀ (u8_6 : Option Value), UP m_X6_steer 21 [some (.ref 0), some (.int minute), some (.int what), some (.int a8.2.1), some (.int a8.2.2), some (.int (Int32.ofNat i8)), u8_6] [] a8.1 (Qb (let z7 := F_take s ; let z8 := itr (B_csteer_21 minute) 0 3 (z7, (-1), 20); let v13 := bif m_cmp .ne what 0 then z8.2.2 else z8.2.1; (v13, z8.1)))) (fun (_ : Nat) (a8 : SG × Int32 × Int32) => Fr W_csteer z7 a8.1) (B_csteer_21 minute) (3) (fun i8 a8 hi8 g8 => g8.tr (fr_B_csteer_21 minute i8 a8 hi8)) (fun i8 a8 hi8 g8 kk => ?_) 3 (0) (z7, (-1), 20) (by  omega) (Fr.rf _ _) (fun z8 e8 g8 => ?_) none
      · skip
        intro u8_6
        refine UP.stp 2 (i1 := 23) (L1 := [some (.ref 0), some (.int minute), some (.int what), some (.int a8.2.1), some (.int a8.2.2), some (.int (Int32.ofNat i8)), u8_6]) (st1 := [.int 3, .int (Int32.ofNat i8)]) (s1 := a8.1) rfl ?_
        refine UP.icF rfl (ge_F (show i8 < (3 : Int32).toNatClampNeg from hi8)) ?_
        refine UP.stp 7 (i1 := 31) (L1 := [some (.ref 0), some (.int minute), some (.int what), some (.int a8.2.1), some (.int a8.2.2), some (.int (Int32.ofNat i8)), u8_6]) (st1 := [.ref 0]) (s1 := (uset a8.1 57 minute.toNatClampNeg (Int32.ofNat i8))) rfl ?_
        refine UP.cR (M1 := m_X6_rowOther) (as := [.ref 0]) (rest := []) (T := F_rowOther (uset a8.1 57 minute.toNatClampNeg (Int32.ofNat i8)) ) (a := 58) rfl rfl (ux_rowOther (uset a8.1 57 minute.toNatClampNeg (Int32.ofNat i8)) ) (fun z9 e9 => ?_)
        refine UP.cI (M1 := m_X5_lastStray) (as := [.ref 58]) (rest := []) (T := F_lastStray_b z9 ) rfl rfl (ux_lastStray_b z9) ?_
        refine nm (G := fun v11 => UP m_X6_steer 33 [some (.ref 0), some (.int minute), some (.int what), some (.int a8.2.1), some (.int a8.2.2), some (.int (Int32.ofNat i8)), u8_6] [.int v11] z9 (Qb (let z7 := F_take s ; let z8 := itr (B_csteer_21 minute) 0 3 (z7, (-1), 20); let v13 := bif m_cmp .ne what 0 then z8.2.2 else z8.2.1; (v13, z8.1)))) (F_lastStray_b z9) (fun v11 e11 => ?_)
        refine UP.stp 3 (i1 := 36) (L1 := [some (.ref 0), some (.int minute), some (.int what), some (.int a8.2.1), some (.int a8.2.2), some (.int (Int32.ofNat i8)), some (.int v11)]) (st1 := [.int a8.2.2, .int v11]) (s1 := z9) rfl ?_
        refine mrg (m_cmp .ge v11 a8.2.2) (a8.2.1, a8.2.2) (Int32.ofNat i8, v11) (fun w12 : Int32 × Int32 => UP m_X6_steer 41 [some (.ref 0), some (.int minute), some (.int what), some (.int w12.1), some (.int w12.2), some (.int (Int32.ofNat i8)), some (.int v11)] [] z9 (Qb (let z7 := F_take s ; let z8 := itr (B_csteer_21 minute) 0 3 (z7, (-1), 20); let v13 := bif m_cmp .ne what 0 then z8.2.2 else z8.2.1; (v13, z8.1)))) (fun cc kk => ?_) (fun cc kk => ?_) (fun w12 e12 => ?_)
        · skip
          refine UP.icT rfl cc ?_
          exact kk
        · skip
          refine UP.icF rfl cc ?_
          refine UP.stp 4 (i1 := 41) (L1 := [some (.ref 0), some (.int minute), some (.int what), some (.int (Int32.ofNat i8)), some (.int v11), some (.int (Int32.ofNat i8)), some (.int v11)]) (st1 := []) (s1 := z9) rfl ?_
          exact kk
        refine UP.stp 2 (i1 := 21) (L1 := [some (.ref 0), some (.int minute), some (.int what), some (.int w12.1), some (.int w12.2), some (.int ((Int32.ofNat i8) + 1)), some (.int v11)]) (st1 := []) (s1 := z9) rfl ?_
        subst e12 e11 e9
        rw [ofn_s]
        try dsimp only [B_csteer_21] at kk
        exact kk _
      intro u8_6
      refine UP.stp 2 (i1 := 23) (L1 := [some (.ref 0), some (.int minute), some (.int what), some (.int z8.2.1), some (.int z8.2.2), some (.int (Int32.ofNat 3)), u8_6]) (st1 := [.int 3, .int (Int32.ofNat 3)]) (s1 := z8.1) rfl ?_
      refine UP.icT rfl (ge_T (3 : Int32)) ?_
      refine UP.stp 1 (i1 := 44) (L1 := [some (.ref 0), some (.int minute), some (.int what), some (.int z8.2.1), some (.int z8.2.2), some (.int (Int32.ofNat 3)), u8_6]) (st1 := [.int what]) (s1 := z8.1) rfl ?_
      refine mrg (m_cmp .ne what 0) z8.2.2 z8.2.1 (fun v13 : Int32 => UP m_X6_steer 48 [some (.ref 0), some (.int minute), some (.int what), some (.int z8.2.1), some (.int z8.2.2), some (.int (Int32.ofNat 3)), u8_6] [.int v13] z8.1 (Qb (let z7 := F_take s ; let z8 := itr (B_csteer_21 minute) 0 3 (z7, (-1), 20); let v13 := bif m_cmp .ne what 0 then z8.2.2 else z8.2.1; (v13, z8.1)))) (fun cc kk => ?_) (fun cc kk => ?_) (fun v13 e13 => ?_)
      · skip
        refine UP.ifT rfl cc ?_
        refine UP.stp 1 (i1 := 48) (L1 := [some (.ref 0), some (.int minute), some (.int what), some (.int z8.2.1), some (.int z8.2.2), some (.int (Int32.ofNat 3)), u8_6]) (st1 := [.int z8.2.2]) (s1 := z8.1) rfl ?_
        exact kk
      · skip
        refine UP.ifF rfl cc ?_
        refine UP.stp 2 (i1 := 48) (L1 := [some (.ref 0), some (.int minute), some (.int what), some (.int z8.2.1), some (.int z8.2.2), some (.int (Int32.ofNat 3)), u8_6]) (st1 := [.int z8.2.1]) (s1 := z8.1) rfl ?_
        exact kk
      exact UP.ret (r := some (.int v13)) rfl ⟨by subst e13 e8 e7; first | (dsimp only [F_csteer]; done) | (dsimp only; done) | rfl, by subst e13 e8 e7; first | (dsimp only [F_csteer]; done) | (dsimp only; done) | rfl⟩
    · skip
      refine UP.ifF rfl cc ?_
      refine UP.stp 1 (i1 := 9) (L1 := [some (.ref 0), some (.int minute), some (.int what), none, none, none, none]) (st1 := [.int (-2)]) (s1 := s) rfl ?_
      exact UP.ret (r := some (.int (-2))) rfl ⟨by first | (dsimp only [F_csteer]; done) | (dsimp only; done) | rfl, by first | (dsimp only [F_csteer]; done) | (dsimp only; done) | rfl⟩
