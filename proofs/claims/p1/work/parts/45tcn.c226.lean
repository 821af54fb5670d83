def W_cswap : List (Nat × Nat × Option Nat) := [(16, 20, none), (22, 45, none), (46, 52, none), (15, 15, some 8), (59, 63, none), (65, 88, none), (89, 95, none), (58, 58, some 8), (53, 57, none), (96, 108, none), (0, 0, some 12), (0, 0, some 13)]
def B_cswap_23 (i4 : Nat) (i5 : Nat) (a5 : SG × Int32 × Int32 × Int32) : SG × Int32 × Int32 × Int32 := let z6 := F_metresSwapped a5.1 (Int32.ofNat i4) (Int32.ofNat i5); let w7 := bif m_cmp .le z6.1 a5.2.2.2 then (a5.2.1, a5.2.2.1, a5.2.2.2) else (Int32.ofNat i4, Int32.ofNat i5, z6.1); (z6.2, w7.1, w7.2.1, w7.2.2)
set_option maxRecDepth 20000 in
set_option maxHeartbeats 200000 in
theorem fr_B_cswap_23 (i4 : Nat) (i5 : Nat) (a5 : SG × Int32 × Int32 × Int32)   : Fr W_cswap a5.1 ((B_cswap_23 i4) i5 a5).1 := by dsimp only [B_cswap_23]; exact (Fr.tr (s1 := a5.1) (Fr.rf _ _) (Fr.wk (W2 := W_cswap) (fr_metresSwapped a5.1 (Int32.ofNat i4) (Int32.ofNat i5)) (by rfl)))
def B_cswap_14  (i4 : Nat) (a4 : SG × Int32 × Int32 × Int32) : SG × Int32 × Int32 × Int32 := let z5 := itr (B_cswap_23 i4) (i4 + 1) ((a4.1 10 0).toNatClampNeg - (i4 + 1)) (a4.1, a4.2.1, a4.2.2.1, a4.2.2.2); (z5.1, z5.2.1, z5.2.2.1, z5.2.2.2)
set_option maxRecDepth 20000 in
set_option maxHeartbeats 200000 in
theorem fr_B_cswap_14  (i4 : Nat) (a4 : SG × Int32 × Int32 × Int32)   : Fr W_cswap a4.1 ((B_cswap_14) i4 a4).1 := by dsimp only [B_cswap_14]; exact (Fr.itr (W := W_cswap) (m := (fun x : SG × Int32 × Int32 × Int32 => x.1)) (f := (B_cswap_23 i4)) (fun ii aa => Fr.wk (W2 := W_cswap) (fr_B_cswap_23 i4 ii aa ) (by rfl)) ((a4.1 10 0).toNatClampNeg - (i4 + 1)) (i4 + 1) (a4.1, a4.2.1, a4.2.2.1, a4.2.2.2) (Fr.rf _ _))
def F_cswap (s : SG) (what : Int32) : Int32 × SG := bif m_cmp .ne (F_isBelow s what 3) 0 then (let z4 := itr (B_cswap_14) 0 ((s 10 0).toNatClampNeg) (s, (-1), (-1), (-1)); bif m_cmp .ne what 0 then (let v10 := bif m_cmp .ne what 1 then z4.2.2.2 else z4.2.2.1; (v10, z4.1)) else ((z4.2.1, z4.1))) else (((-2), s))
set_option maxRecDepth 20000 in
set_option maxHeartbeats 200000 in
theorem fr_cswap (s : SG) (what : Int32)  : Fr W_cswap s (F_cswap s what).2 := by dsimp only [F_cswap]; exact (Fr.bifp (b := m_cmp .ne (F_isBelow s what 3) 0) (x := let z4 := itr (B_cswap_14) 0 ((s 10 0).toNatClampNeg) (s, (-1), (-1), (-1)); bif m_cmp .ne what 0 then (let v10 := bif m_cmp .ne what 1 then z4.2.2.2 else z4.2.2.1; (v10, z4.1)) else ((z4.2.1, z4.1))) (y := ((-2), s)) (fun x : Int32 × SG => x.2) (by (try dsimp only); exact (let z4 : SG × Int32 × Int32 × Int32 := itr (B_cswap_14) 0 ((s 10 0).toNatClampNeg) (s, (-1), (-1), (-1)); (Fr.bifp (b := m_cmp .ne what 0) (x := let v10 := bif m_cmp .ne what 1 then z4.2.2.2 else z4.2.2.1; (v10, z4.1)) (y := (z4.2.1, z4.1)) (fun x : Int32 × SG => x.2) (by (try dsimp only); exact (Fr.itr (W := W_cswap) (m := (fun x : SG × Int32 × Int32 × Int32 => x.1)) (f := (B_cswap_14)) (fun ii aa => Fr.wk (W2 := W_cswap) (fr_B_cswap_14  ii aa ) (by rfl)) ((s 10 0).toNatClampNeg) 0 (s, (-1), (-1), (-1)) (Fr.rf _ _))) (by (try dsimp only); exact (Fr.itr (W := W_cswap) (m := (fun x : SG × Int32 × Int32 × Int32 => x.1)) (f := (B_cswap_14)) (fun ii aa => Fr.wk (W2 := W_cswap) (fr_B_cswap_14  ii aa ) (by rfl)) ((s 10 0).toNatClampNeg) 0 (s, (-1), (-1), (-1)) (Fr.rf _ _)))))) (by (try dsimp only); exact (Fr.rf _ _)))
set_option maxRecDepth 20000 in
set_option maxHeartbeats 200000 in
theorem ux_cswap (s : SG) (what : Int32)  : UP m_X6_swap 0 (m_ent 8 [.ref 0, .int what]) [] s (Qb (F_cswap s what)) := by
  refine UP.stp 2 (i1 := 2) (L1 := [some (.ref 0), some (.int what), none, none, none, none, none, none]) (st1 := [.int 3, .int what]) (s1 := s) rfl ?_
  refine UP.cI (M1 := m_X6_isBelow) (as := [.int what, .int 3]) (rest := []) (T := F_isBelow s what 3) rfl rfl (ux_isBelow s what 3) ?_
  refine UP.spl (m_cmp .ne (F_isBelow s what 3) 0) (let z4 := itr (B_cswap_14) 0 ((s 10 0).toNatClampNeg) (s, (-1), (-1), (-1)); bif m_cmp .ne what 0 then (let v10 := bif m_cmp .ne what 1 then z4.2.2.2 else z4.2.2.1; (v10, z4.1)) else ((z4.2.1, z4.1))) (((-2), s)) (by first | (dsimp only [F_cswap]; done) | (dsimp only; done) | rfl) (fun cc => ?_) (fun cc => ?_)
  · skip
    refine UP.ifT rfl cc ?_
    refine UP.stp 8 (i1 := 14) (L1 := [some (.ref 0), some (.int what), some (.int (-1)), some (.int (-1)), some (.int (-1)), some (.int 0), none, none]) (st1 := []) (s1 := s) rfl ?_
    refine lp (fun (i4 : Nat) (a4 : SG × Int32 × Int32 × Int32) => ∀ (u4_6 : Option Value) (u4_7 : Option Value), UP m_X6_swap 14 [some (.ref 0), some (.int what), some (.int a4.2.1), some (.int a4.2.2.1), some (.int a4.2.2.2), some (.int (Int32.ofNat i4)), u4_6, u4_7] [] a4.1 (Qb (let z4 := itr (B_cswap_14) 0 ((s 10 0).toNatClampNeg) (s, (-1), (-1), (-1)); bif m_cmp .ne what 0 then (let v10 := bif m_cmp .ne what 1 then z4.2.2.2 else z4.2.2.1; (v10, z4.1)) else ((z4.2.1, z4.1))))) (fun (_ : Nat) (a4 : SG × Int32 × Int32 × Int32) => Fr W_cswap s a4.1) (B_cswap_14) ((s 10 0).toNatClampNeg) (fun i4 a4 hi4 g4 => g4.tr (fr_B_cswap_14  i4 a4 )) (fun i4 a4 hi4 g4 kk => ?_) ((s 10 0).toNatClampNeg) (0) (s, (-1), (-1), (-1)) (by  omega) (Fr.rf _ _) (fun z4 e4 g4 => ?_) none none
    · skip
      intro u4_6 u4_7
      have hbi4 := cl_lt (s 10 0)
      refine UP.stp 4 (i1 := 18) (L1 := [some (.ref 0), some (.int what), some (.int a4.2.1), some (.int a4.2.2.1), some (.int a4.2.2.2), some (.int (Int32.ofNat i4)), u4_6, u4_7]) (st1 := [.int (a4.1 10 0), .int (Int32.ofNat i4)]) (s1 := a4.1) rfl ?_
      refine UP.icF rfl (by rw [(g4 10 0 rfl)]; exact ge_F hi4) ?_
      refine UP.stp 4 (i1 := 23) (L1 := [some (.ref 0), some (.int what), some (.int a4.2.1), some (.int a4.2.2.1), some (.int a4.2.2.2), some (.int (Int32.ofNat i4)), some (.int ((Int32.ofNat i4) + 1)), u4_7]) (st1 := []) (s1 := a4.1) rfl ?_
      rw [show (Int32.ofNat i4) + 1 = Int32.ofNat (i4 + 1) from (ofn_add rfl rfl)]
      refine lp (fun (i5 : Nat) (a5 : SG × Int32 × Int32 × Int32) => ∀ (u5_7 : Option Value), UP m_X6_swap 23 [some (.ref 0), some (.int what), some (.int a5.2.1), some (.int a5.2.2.1), some (.int a5.2.2.2), some (.int (Int32.ofNat i4)), some (.int (Int32.ofNat i5)), u5_7] [] a5.1 (Qb (let z4 := itr (B_cswap_14) 0 ((s 10 0).toNatClampNeg) (s, (-1), (-1), (-1)); bif m_cmp .ne what 0 then (let v10 := bif m_cmp .ne what 1 then z4.2.2.2 else z4.2.2.1; (v10, z4.1)) else ((z4.2.1, z4.1))))) (fun (_ : Nat) (a5 : SG × Int32 × Int32 × Int32) => Fr W_cswap a4.1 a5.1) (B_cswap_23 i4) ((a4.1 10 0).toNatClampNeg) (fun i5 a5 hi5 g5 => g5.tr (fr_B_cswap_23 i4 i5 a5 )) (fun i5 a5 hi5 g5 kk => ?_) ((a4.1 10 0).toNatClampNeg - (i4 + 1)) (i4 + 1) (a4.1, a4.2.1, a4.2.2.1, a4.2.2.2) (by rw [g4 10 0 rfl]; omega) (Fr.rf _ _) (fun z5 e5 g5 => ?_) (u4_7)
      · skip
        intro u5_7
        have hbi5 := cl_lt (a4.1 10 0)
        refine UP.stp 4 (i1 := 27) (L1 := [some (.ref 0), some (.int what), some (.int a5.2.1), some (.int a5.2.2.1), some (.int a5.2.2.2), some (.int (Int32.ofNat i4)), some (.int (Int32.ofNat i5)), u5_7]) (st1 := [.int (a5.1 10 0), .int (Int32.ofNat i5)]) (s1 := a5.1) rfl ?_
        refine UP.icF rfl (by rw [(g5 10 0 rfl)]; exact ge_F hi5) ?_
        refine UP.stp 3 (i1 := 31) (L1 := [some (.ref 0), some (.int what), some (.int a5.2.1), some (.int a5.2.2.1), some (.int a5.2.2.2), some (.int (Int32.ofNat i4)), some (.int (Int32.ofNat i5)), u5_7]) (st1 := [.int (Int32.ofNat i5), .int (Int32.ofNat i4), .ref 0]) (s1 := a5.1) rfl ?_
        refine UP.cB (M1 := m_X6_metresSwapped) (as := [.ref 0, .int (Int32.ofNat i4), .int (Int32.ofNat i5)]) (rest := []) (T := F_metresSwapped a5.1 (Int32.ofNat i4) (Int32.ofNat i5)) rfl rfl (ux_metresSwapped a5.1 (Int32.ofNat i4) (Int32.ofNat i5)) (fun z6 e6 => ?_)
        refine UP.stp 3 (i1 := 35) (L1 := [some (.ref 0), some (.int what), some (.int a5.2.1), some (.int a5.2.2.1), some (.int a5.2.2.2), some (.int (Int32.ofNat i4)), some (.int (Int32.ofNat i5)), some (.int z6.1)]) (st1 := [.int a5.2.2.2, .int z6.1]) (s1 := z6.2) rfl ?_
        refine mrg (m_cmp .le z6.1 a5.2.2.2) (a5.2.1, a5.2.2.1, a5.2.2.2) (Int32.ofNat i4, Int32.ofNat i5, z6.1) (fun w7 : Int32 × Int32 × Int32 => UP m_X6_swap 42 [some (.ref 0), some (.int what), some (.int w7.1), some (.int w7.2.1), some (.int w7.2.2), some (.int (Int32.ofNat i4)), some (.int (Int32.ofNat i5)), some (.int z6.1)] [] z6.2 (Qb (let z4 := itr (B_cswap_14) 0 ((s 10 0).toNatClampNeg) (s, (-1), (-1), (-1)); bif m_cmp .ne what 0 then (let v10 := bif m_cmp .ne what 1 then z4.2.2.2 else z4.2.2.1; (v10, z4.1)) else ((z4.2.1, z4.1))))) (fun cc kk => ?_) (fun cc kk => ?_) (fun w7 e7 => ?_)
        · skip
          refine UP.icT rfl cc ?_
          exact kk
        · skip
          refine UP.icF rfl cc ?_
          refine UP.stp 6 (i1 := 42) (L1 := [some (.ref 0), some (.int what), some (.int (Int32.ofNat i4)), some (.int (Int32.ofNat i5)), some (.int z6.1), some (.int (Int32.ofNat i4)), some (.int (Int32.ofNat i5)), some (.int z6.1)]) (st1 := []) (s1 := z6.2) rfl ?_
          exact kk
        refine UP.stp 2 (i1 := 23) (L1 := [some (.ref 0), some (.int what), some (.int w7.1), some (.int w7.2.1), some (.int w7.2.2), some (.int (Int32.ofNat i4)), some (.int ((Int32.ofNat i5) + 1)), some (.int z6.1)]) (st1 := []) (s1 := z6.2) rfl ?_
        subst e7 e6
        rw [ofn_s]
        try dsimp only [B_cswap_23] at kk
        exact kk _
      intro u5_7
      refine UP.stp 4 (i1 := 27) (L1 := [some (.ref 0), some (.int what), some (.int z5.2.1), some (.int z5.2.2.1), some (.int z5.2.2.2), some (.int (Int32.ofNat i4)), some (.int (Int32.ofNat ((a4.1 10 0).toNatClampNeg))), u5_7]) (st1 := [.int (z5.1 10 0), .int (Int32.ofNat ((a4.1 10 0).toNatClampNeg))]) (s1 := z5.1) rfl ?_
      refine UP.icT rfl (by rw [(g5 10 0 rfl)]; exact ge_T _) ?_
      refine UP.stp 2 (i1 := 14) (L1 := [some (.ref 0), some (.int what), some (.int z5.2.1), some (.int z5.2.2.1), some (.int z5.2.2.2), some (.int ((Int32.ofNat i4) + 1)), some (.int (Int32.ofNat ((a4.1 10 0).toNatClampNeg))), u5_7]) (st1 := []) (s1 := z5.1) rfl ?_
      subst e5
      rw [ofn_s]
      try dsimp only [B_cswap_14] at kk
      exact kk _ _
    intro u4_6 u4_7
    refine UP.stp 4 (i1 := 18) (L1 := [some (.ref 0), some (.int what), some (.int z4.2.1), some (.int z4.2.2.1), some (.int z4.2.2.2), some (.int (Int32.ofNat ((s 10 0).toNatClampNeg))), u4_6, u4_7]) (st1 := [.int (z4.1 10 0), .int (Int32.ofNat ((s 10 0).toNatClampNeg))]) (s1 := z4.1) rfl ?_
    refine UP.icT rfl (by rw [(g4 10 0 rfl)]; exact ge_T _) ?_
    refine UP.stp 1 (i1 := 47) (L1 := [some (.ref 0), some (.int what), some (.int z4.2.1), some (.int z4.2.2.1), some (.int z4.2.2.2), some (.int (Int32.ofNat ((s 10 0).toNatClampNeg))), u4_6, u4_7]) (st1 := [.int what]) (s1 := z4.1) rfl ?_
    refine UP.spl (m_cmp .ne what 0) (let v10 := bif m_cmp .ne what 1 then z4.2.2.2 else z4.2.2.1; (v10, z4.1)) ((z4.2.1, z4.1)) (by subst e4; first | (dsimp only [F_cswap]; done) | (dsimp only; done) | rfl) (fun cc => ?_) (fun cc => ?_)
    · skip
      refine UP.ifT rfl cc ?_
      refine UP.stp 2 (i1 := 52) (L1 := [some (.ref 0), some (.int what), some (.int z4.2.1), some (.int z4.2.2.1), some (.int z4.2.2.2), some (.int (Int32.ofNat ((s 10 0).toNatClampNeg))), u4_6, u4_7]) (st1 := [.int 1, .int what]) (s1 := z4.1) rfl ?_
      refine mrg (m_cmp .ne what 1) z4.2.2.2 z4.2.2.1 (fun v10 : Int32 => UP m_X6_swap 56 [some (.ref 0), some (.int what), some (.int z4.2.1), some (.int z4.2.2.1), some (.int z4.2.2.2), some (.int (Int32.ofNat ((s 10 0).toNatClampNeg))), u4_6, u4_7] [.int v10] z4.1 (Qb (let v10 := bif m_cmp .ne what 1 then z4.2.2.2 else z4.2.2.1; (v10, z4.1)))) (fun cc kk => ?_) (fun cc kk => ?_) (fun v10 e10 => ?_)
      · skip
        refine UP.icT rfl cc ?_
        refine UP.stp 1 (i1 := 56) (L1 := [some (.ref 0), some (.int what), some (.int z4.2.1), some (.int z4.2.2.1), some (.int z4.2.2.2), some (.int (Int32.ofNat ((s 10 0).toNatClampNeg))), u4_6, u4_7]) (st1 := [.int z4.2.2.2]) (s1 := z4.1) rfl ?_
        exact kk
      · skip
        refine UP.icF rfl cc ?_
        refine UP.stp 2 (i1 := 56) (L1 := [some (.ref 0), some (.int what), some (.int z4.2.1), some (.int z4.2.2.1), some (.int z4.2.2.2), some (.int (Int32.ofNat ((s 10 0).toNatClampNeg))), u4_6, u4_7]) (st1 := [.int z4.2.2.1]) (s1 := z4.1) rfl ?_
        exact kk
      exact UP.ret (r := some (.int v10)) rfl ⟨by subst e10 e4; first | (dsimp only [F_cswap]; done) | (dsimp only; done) | rfl, by subst e10 e4; first | (dsimp only [F_cswap]; done) | (dsimp only; done) | rfl⟩
    · skip
      refine UP.ifF rfl cc ?_
      refine UP.stp 1 (i1 := 49) (L1 := [some (.ref 0), some (.int what), some (.int z4.2.1), some (.int z4.2.2.1), some (.int z4.2.2.2), some (.int (Int32.ofNat ((s 10 0).toNatClampNeg))), u4_6, u4_7]) (st1 := [.int z4.2.1]) (s1 := z4.1) rfl ?_
      exact UP.ret (r := some (.int z4.2.1)) rfl ⟨by subst e4; first | (dsimp only [F_cswap]; done) | (dsimp only; done) | rfl, by subst e4; first | (dsimp only [F_cswap]; done) | (dsimp only; done) | rfl⟩
  · skip
    refine UP.ifF rfl cc ?_
    refine UP.stp 1 (i1 := 5) (L1 := [some (.ref 0), some (.int what), none, none, none, none, none, none]) (st1 := [.int (-2)]) (s1 := s) rfl ?_
    exact UP.ret (r := some (.int (-2))) rfl ⟨by first | (dsimp only [F_cswap]; done) | (dsimp only; done) | rfl, by first | (dsimp only [F_cswap]; done) | (dsimp only; done) | rfl⟩
