def W_cwrite_2 : List (Nat × Nat × Option Nat) := [(16, 20, none), (22, 45, none), (46, 52, none), (15, 15, some 8), (59, 63, none), (65, 88, none), (89, 95, none), (58, 58, some 8), (53, 57, none), (96, 108, none), (0, 0, some 12), (0, 0, some 13), (119, 119, none), (120, 120, none), (0, 0, some 4)]
def B_cwrite_2_32 (what : Int32) (i11 : Nat) (a11 : SG) : SG := let v12 := bif m_cmp .ne what 0 then a11 17 i11 else a11 16 i11; let z13 := F_ckeep_2 a11 (Int32.ofNat i11) v12; z13
set_option maxRecDepth 20000 in
set_option maxHeartbeats 200000 in
theorem fr_B_cwrite_2_32 (what : Int32) (i11 : Nat) (a11 : SG)   : Fr W_cwrite_2 a11 ((B_cwrite_2_32 what) i11 a11) := by dsimp only [B_cwrite_2_32]; exact (let v12 : Int32 := bif m_cmp .ne what 0 then a11 17 i11 else a11 16 i11; (Fr.tr (s1 := a11) (Fr.rf _ _) (Fr.wk (W2 := W_cwrite_2) (fr_ckeep_2 a11 (Int32.ofNat i11) v12) (by rfl))))
def F_cwrite_2 (s : SG) (what : Int32) : Int32 × SG := bif m_cmp .eq (F_isBelow s what 2) 0 then (((-2), s)) else (bif m_cmp .ne (F_isBelow s 2 4) 0 then (bif m_cmp .eq (s 119 1) 0 then (let z9 := F_toldTrip s ; let v10 := (if 24 < (z9 119 3) then 24 else (z9 119 3)); let z11 := itr (B_cwrite_2_32 what) 0 ((v10).toNatClampNeg) z9; (v10, z11)) else (let z14 := F_find s 1; z14)) else (((-2), s)))
set_option maxRecDepth 20000 in
set_option maxHeartbeats 200000 in
theorem fr_cwrite_2 (s : SG) (what : Int32)  : Fr W_cwrite_2 s (F_cwrite_2 s what).2 := by dsimp only [F_cwrite_2]; exact (Fr.bifp (b := m_cmp .eq (F_isBelow s what 2) 0) (x := ((-2), s)) (y := bif m_cmp .ne (F_isBelow s 2 4) 0 then (bif m_cmp .eq (s 119 1) 0 then (let z9 := F_toldTrip s ; let v10 := (if 24 < (z9 119 3) then 24 else (z9 119 3)); let z11 := itr (B_cwrite_2_32 what) 0 ((v10).toNatClampNeg) z9; (v10, z11)) else (let z14 := F_find s 1; z14)) else (((-2), s))) (fun x : Int32 × SG => x.2) (by (try dsimp only); exact (Fr.rf _ _)) (by (try dsimp only); exact (Fr.bifp (b := m_cmp .ne (F_isBelow s 2 4) 0) (x := bif m_cmp .eq (s 119 1) 0 then (let z9 := F_toldTrip s ; let v10 := (if 24 < (z9 119 3) then 24 else (z9 119 3)); let z11 := itr (B_cwrite_2_32 what) 0 ((v10).toNatClampNeg) z9; (v10, z11)) else (let z14 := F_find s 1; z14)) (y := ((-2), s)) (fun x : Int32 × SG => x.2) (by (try dsimp only); exact (Fr.bifp (b := m_cmp .eq (s 119 1) 0) (x := let z9 := F_toldTrip s ; let v10 := (if 24 < (z9 119 3) then 24 else (z9 119 3)); let z11 := itr (B_cwrite_2_32 what) 0 ((v10).toNatClampNeg) z9; (v10, z11)) (y := let z14 := F_find s 1; z14) (fun x : Int32 × SG => x.2) (by (try dsimp only); exact (let z9 : SG := F_toldTrip s ; (let v10 : Int32 := (if 24 < (z9 119 3) then 24 else (z9 119 3)); (Fr.itr (W := W_cwrite_2) (m := (fun x : SG => x)) (f := (B_cwrite_2_32 what)) (fun ii aa => Fr.wk (W2 := W_cwrite_2) (fr_B_cwrite_2_32 what ii aa ) (by rfl)) ((v10).toNatClampNeg) 0 z9 (Fr.tr (s1 := s) (Fr.rf _ _) (Fr.wk (W2 := W_cwrite_2) (fr_toldTrip s ) (by rfl))))))) (by (try dsimp only); exact (Fr.tr (s1 := s) (Fr.rf _ _) (Fr.wk (W2 := W_cwrite_2) (fr_find s 1) (by rfl)))))) (by (try dsimp only); exact (Fr.rf _ _)))))
set_option maxRecDepth 20000 in
set_option maxHeartbeats 200000 in
theorem ux_cwrite_2 (s : SG) (what : Int32)  : UP m_X6_write 0 (m_ent 7 [.ref 0, .int what, .int 2]) [] s (Qb (F_cwrite_2 s what)) := by
  refine UP.stp 2 (i1 := 2) (L1 := [some (.ref 0), some (.int what), some (.int 2), none, none, none, none]) (st1 := [.int 2, .int what]) (s1 := s) rfl ?_
  refine UP.cI (M1 := m_X6_isBelow) (as := [.int what, .int 2]) (rest := []) (T := F_isBelow s what 2) rfl rfl (ux_isBelow s what 2) ?_
  refine UP.spl (m_cmp .eq (F_isBelow s what 2) 0) (((-2), s)) (bif m_cmp .ne (F_isBelow s 2 4) 0 then (bif m_cmp .eq (s 119 1) 0 then (let z9 := F_toldTrip s ; let v10 := (if 24 < (z9 119 3) then 24 else (z9 119 3)); let z11 := itr (B_cwrite_2_32 what) 0 ((v10).toNatClampNeg) z9; (v10, z11)) else (let z14 := F_find s 1; z14)) else (((-2), s))) (by first | (dsimp only [F_cwrite_2]; done) | (dsimp only; done) | rfl) (fun cc => ?_) (fun cc => ?_)
  · skip
    refine UP.ifT rfl cc ?_
    refine UP.stp 1 (i1 := 9) (L1 := [some (.ref 0), some (.int what), some (.int 2), none, none, none, none]) (st1 := [.int (-2)]) (s1 := s) rfl ?_
    exact UP.ret (r := some (.int (-2))) rfl ⟨by first | (dsimp only [F_cwrite_2]; done) | (dsimp only; done) | rfl, by first | (dsimp only [F_cwrite_2]; done) | (dsimp only; done) | rfl⟩
  · skip
    refine UP.ifF rfl cc ?_
    refine UP.stp 2 (i1 := 6) (L1 := [some (.ref 0), some (.int what), some (.int 2), none, none, none, none]) (st1 := [.int 4, .int 2]) (s1 := s) rfl ?_
    refine UP.cI (M1 := m_X6_isBelow) (as := [.int 2, .int 4]) (rest := []) (T := F_isBelow s 2 4) rfl rfl (ux_isBelow s 2 4) ?_
    refine UP.spl (m_cmp .ne (F_isBelow s 2 4) 0) (bif m_cmp .eq (s 119 1) 0 then (let z9 := F_toldTrip s ; let v10 := (if 24 < (z9 119 3) then 24 else (z9 119 3)); let z11 := itr (B_cwrite_2_32 what) 0 ((v10).toNatClampNeg) z9; (v10, z11)) else (let z14 := F_find s 1; z14)) (((-2), s)) (by first | (dsimp only [F_cwrite_2]; done) | (dsimp only; done) | rfl) (fun cc => ?_) (fun cc => ?_)
    · skip
      refine UP.ifT rfl cc ?_
      refine UP.stp 3 (i1 := 13) (L1 := [some (.ref 0), some (.int what), some (.int 2), none, none, none, none]) (st1 := [.int 2, .ref 9]) (s1 := s) rfl ?_
      refine UP.aald (e := 2) (r := 119) rfl rfl (by omega) rfl ?_
      refine UP.stp 3 (i1 := 17) (L1 := [some (.ref 0), some (.int what), some (.int 2), some (.ref 119), none, none, none]) (st1 := [.int (s 119 1)]) (s1 := s) rfl ?_
      refine UP.spl (m_cmp .eq (s 119 1) 0) (let z9 := F_toldTrip s ; let v10 := (if 24 < (z9 119 3) then 24 else (z9 119 3)); let z11 := itr (B_cwrite_2_32 what) 0 ((v10).toNatClampNeg) z9; (v10, z11)) (let z14 := F_find s 1; z14) (by first | (dsimp only [F_cwrite_2]; done) | (dsimp only; done) | rfl) (fun cc => ?_) (fun cc => ?_)
      · skip
        refine UP.ifT rfl cc ?_
        refine UP.stp 1 (i1 := 23) (L1 := [some (.ref 0), some (.int what), some (.int 2), some (.ref 119), none, none, none]) (st1 := [.ref 0]) (s1 := s) rfl ?_
        refine UP.cR (M1 := m_X6_toldTrip) (as := [.ref 0]) (rest := []) (T := F_toldTrip s ) (a := 15) rfl rfl (ux_toldTrip s ) (fun z9 e9 => ?_)
        refine UP.stp 5 (i1 := 29) (L1 := [some (.ref 0), some (.int what), some (.int 2), some (.ref 119), some (.ref 15), none, none]) (st1 := [.int (if 24 < (z9 119 3) then 24 else (z9 119 3))]) (s1 := z9) rfl ?_
        refine nm (G := fun v10 => UP m_X6_write 29 [some (.ref 0), some (.int what), some (.int 2), some (.ref 119), some (.ref 15), none, none] [.int v10] z9 (Qb (let z9 := F_toldTrip s ; let v10 := (if 24 < (z9 119 3) then 24 else (z9 119 3)); let z11 := itr (B_cwrite_2_32 what) 0 ((v10).toNatClampNeg) z9; (v10, z11)))) (if 24 < (z9 119 3) then 24 else (z9 119 3)) (fun v10 e10 => ?_)
        refine UP.stp 3 (i1 := 32) (L1 := [some (.ref 0), some (.int what), some (.int 2), some (.ref 119), some (.ref 15), some (.int v10), some (.int 0)]) (st1 := []) (s1 := z9) rfl ?_
        refine lp (fun (i11 : Nat) (a11 : SG) => ∀ (u11_0 : Option Value) (u11_2 : Option Value), UP m_X6_write 32 [u11_0, some (.int what), u11_2, some (.ref 119), some (.ref 15), some (.int v10), some (.int (Int32.ofNat i11))] [] a11 (Qb (let z9 := F_toldTrip s ; let v10 := (if 24 < (z9 119 3) then 24 else (z9 119 3)); let z11 := itr (B_cwrite_2_32 what) 0 ((v10).toNatClampNeg) z9; (v10, z11)))) (fun (_ : Nat) (a11 : SG) => Fr W_cwrite_2 z9 a11) (B_cwrite_2_32 what) ((v10).toNatClampNeg) (fun i11 a11 hi11 g11 => g11.tr (fr_B_cwrite_2_32 what i11 a11 )) (fun i11 a11 hi11 g11 kk => ?_) ((v10).toNatClampNeg) (0) z9 (by  omega) (Fr.rf _ _) (fun z11 e11 g11 => ?_) (some (.ref 0)) (some (.int 2))
        · skip
          intro u11_0 u11_2
          have hbi11 := cl_lt (v10)
          refine UP.stp 2 (i1 := 34) (L1 := [u11_0, some (.int what), u11_2, some (.ref 119), some (.ref 15), some (.int v10), some (.int (Int32.ofNat i11))]) (st1 := [.int v10, .int (Int32.ofNat i11)]) (s1 := a11) rfl ?_
          refine UP.icF rfl (ge_F hi11) ?_
          refine UP.stp 3 (i1 := 38) (L1 := [u11_0, some (.int what), u11_2, some (.ref 119), some (.ref 15), some (.int v10), some (.int (Int32.ofNat i11))]) (st1 := [.int what, .int (Int32.ofNat i11), .ref 119]) (s1 := a11) rfl ?_
          refine mrg (m_cmp .ne what 0) (a11 17 i11) (a11 16 i11) (fun v12 : Int32 => UP m_X6_write 48 [u11_0, some (.int what), u11_2, some (.ref 119), some (.ref 15), some (.int v10), some (.int (Int32.ofNat i11))] [.int v12, .int (Int32.ofNat i11), .ref 119] a11 (Qb (let z9 := F_toldTrip s ; let v10 := (if 24 < (z9 119 3) then 24 else (z9 119 3)); let z11 := itr (B_cwrite_2_32 what) 0 ((v10).toNatClampNeg) z9; (v10, z11)))) (fun cc kk => ?_) (fun cc kk => ?_) (fun v12 e12 => ?_)
          · skip
            refine UP.ifT rfl cc ?_
            refine UP.stp 3 (i1 := 47) (L1 := [u11_0, some (.int what), u11_2, some (.ref 119), some (.ref 15), some (.int v10), some (.int (Int32.ofNat i11))]) (st1 := [.int (Int32.ofNat i11), .ref 17, .int (Int32.ofNat i11), .ref 119]) (s1 := a11) rfl ?_
            refine UP.ald (e := i11) rfl rfl (by omega) ?_
            show UP m_X6_write 48 [u11_0, some (.int what), u11_2, some (.ref 119), some (.ref 15), some (.int v10), some (.int (Int32.ofNat i11))] [.int (a11 17 i11), .int (Int32.ofNat i11), .ref 119] a11 (Qb (let z9 := F_toldTrip s ; let v10 := (if 24 < (z9 119 3) then 24 else (z9 119 3)); let z11 := itr (B_cwrite_2_32 what) 0 ((v10).toNatClampNeg) z9; (v10, z11)))
            exact kk
          · skip
            refine UP.ifF rfl cc ?_
            refine UP.stp 3 (i1 := 42) (L1 := [u11_0, some (.int what), u11_2, some (.ref 119), some (.ref 15), some (.int v10), some (.int (Int32.ofNat i11))]) (st1 := [.int (Int32.ofNat i11), .ref 16, .int (Int32.ofNat i11), .ref 119]) (s1 := a11) rfl ?_
            refine UP.ald (e := i11) rfl rfl (by omega) ?_
            show UP m_X6_write 43 [u11_0, some (.int what), u11_2, some (.ref 119), some (.ref 15), some (.int v10), some (.int (Int32.ofNat i11))] [.int (a11 16 i11), .int (Int32.ofNat i11), .ref 119] a11 (Qb (let z9 := F_toldTrip s ; let v10 := (if 24 < (z9 119 3) then 24 else (z9 119 3)); let z11 := itr (B_cwrite_2_32 what) 0 ((v10).toNatClampNeg) z9; (v10, z11)))
            refine UP.stp 1 (i1 := 48) (L1 := [u11_0, some (.int what), u11_2, some (.ref 119), some (.ref 15), some (.int v10), some (.int (Int32.ofNat i11))]) (st1 := [.int (a11 16 i11), .int (Int32.ofNat i11), .ref 119]) (s1 := a11) rfl ?_
            exact kk
          refine UP.cV (M1 := m_X3_keep) (as := [.ref 119, .int (Int32.ofNat i11), .int v12]) (rest := []) (T := F_ckeep_2 a11 (Int32.ofNat i11) v12) rfl rfl (ux_ckeep_2 a11 (Int32.ofNat i11) v12) (fun z13 e13 => ?_)
          refine UP.stp 2 (i1 := 32) (L1 := [u11_0, some (.int what), u11_2, some (.ref 119), some (.ref 15), some (.int v10), some (.int ((Int32.ofNat i11) + 1))]) (st1 := []) (s1 := z13) rfl ?_
          subst e13 e12
          rw [ofn_s]
          try dsimp only [B_cwrite_2_32] at kk
          exact kk _ _
        intro u11_0 u11_2
        refine UP.stp 2 (i1 := 34) (L1 := [u11_0, some (.int what), u11_2, some (.ref 119), some (.ref 15), some (.int v10), some (.int (Int32.ofNat ((v10).toNatClampNeg)))]) (st1 := [.int v10, .int (Int32.ofNat ((v10).toNatClampNeg))]) (s1 := z11) rfl ?_
        refine UP.icT rfl (ge_T _) ?_
        refine UP.stp 1 (i1 := 52) (L1 := [u11_0, some (.int what), u11_2, some (.ref 119), some (.ref 15), some (.int v10), some (.int (Int32.ofNat ((v10).toNatClampNeg)))]) (st1 := [.int v10]) (s1 := z11) rfl ?_
        exact UP.ret (r := some (.int v10)) rfl ⟨by subst e11 e10 e9; first | (dsimp only [F_cwrite_2]; done) | (dsimp only; done) | rfl, by subst e11 e10 e9; first | (dsimp only [F_cwrite_2]; done) | (dsimp only; done) | rfl⟩
      · skip
        refine UP.ifF rfl cc ?_
        refine UP.stp 2 (i1 := 20) (L1 := [some (.ref 0), some (.int what), some (.int 2), some (.ref 119), none, none, none]) (st1 := [.int 1, .ref 0]) (s1 := s) rfl ?_
        refine UP.cB (M1 := m_X6_find) (as := [.ref 0, .int 1]) (rest := []) (T := F_find s 1) rfl rfl (ux_find s 1) (fun z14 e14 => ?_)
        exact UP.ret (r := some (.int z14.1)) rfl ⟨by subst e14; first | (dsimp only [F_cwrite_2]; done) | (dsimp only; done) | rfl, by subst e14; first | (dsimp only [F_cwrite_2]; done) | (dsimp only; done) | rfl⟩
    · skip
      refine UP.ifF rfl cc ?_
      refine UP.stp 1 (i1 := 9) (L1 := [some (.ref 0), some (.int what), some (.int 2), none, none, none, none]) (st1 := [.int (-2)]) (s1 := s) rfl ?_
      exact UP.ret (r := some (.int (-2))) rfl ⟨by first | (dsimp only [F_cwrite_2]; done) | (dsimp only; done) | rfl, by first | (dsimp only [F_cwrite_2]; done) | (dsimp only; done) | rfl⟩
