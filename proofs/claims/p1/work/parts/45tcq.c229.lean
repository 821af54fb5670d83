def W_cyears : List (Nat × Nat × Option Nat) := [(16, 20, none), (22, 45, none), (46, 52, none), (15, 15, some 8), (59, 63, none), (65, 88, none), (89, 95, none), (58, 58, some 8), (53, 57, none), (96, 108, none), (0, 0, some 12), (0, 0, some 13)]
def B_cyears_19 (n : Int32) (i8 : Nat) (a8 : SG × Int32) : SG × Int32 := let v9 := (1103515245 * a8.2) + 12345; let v10 := bif m_cmp .ge (Int32.ofNat i8) n then (2 : Int32) else ((Int32.toUInt32 v9 >>> (Int32.toUInt32 16 &&& Int32.toUInt32 31)).toInt32) - ((Int32.toUInt32 v9 >>> (Int32.toUInt32 16 &&& Int32.toUInt32 31)).toInt32) / 4 * 4; ((uset a8.1 56 i8 v10), v9)
set_option maxRecDepth 20000 in
set_option maxHeartbeats 200000 in
theorem fr_B_cyears_19 (n : Int32) (i8 : Nat) (a8 : SG × Int32)  (hi8 : i8 < 24) : Fr W_cyears a8.1 ((B_cyears_19 n) i8 a8).1 := by dsimp only [B_cyears_19]; exact (let v9 : Int32 := (1103515245 * a8.2) + 12345; (let v10 : Int32 := bif m_cmp .ge (Int32.ofNat i8) n then (2 : Int32) else ((Int32.toUInt32 v9 >>> (Int32.toUInt32 16 &&& Int32.toUInt32 31)).toInt32) - ((Int32.toUInt32 v9 >>> (Int32.toUInt32 16 &&& Int32.toUInt32 31)).toInt32) / 4 * 4; (Fr.uset (s1 := a8.1) (a := 56) (j := i8) (x := v10) (by rfl) (Fr.rf _ _))))
def F_cyears (s : SG) (seed : Int32) (n : Int32) (what : Int32) : Int32 × SG := bif m_cmp .eq (F_isBelow s n 25) 0 then (((-2), s)) else (bif m_cmp .ne (F_isBelow s what 2) 0 then (let z7 := F_take s ; let z8 := itr (B_cyears_19 n) 0 24 (z7, seed); let z11 := F_rowOther z8.1 ; let v12 := bif m_cmp .ne what 0 then z11 60 23 else z11 59 23; (v12, z11)) else (((-2), s)))
set_option maxRecDepth 20000 in
set_option maxHeartbeats 200000 in
theorem fr_cyears (s : SG) (seed : Int32) (n : Int32) (what : Int32)  : Fr W_cyears s (F_cyears s seed n what).2 := by dsimp only [F_cyears]; exact (Fr.bifp (b := m_cmp .eq (F_isBelow s n 25) 0) (x := ((-2), s)) (y := bif m_cmp .ne (F_isBelow s what 2) 0 then (let z7 := F_take s ; let z8 := itr (B_cyears_19 n) 0 24 (z7, seed); let z11 := F_rowOther z8.1 ; let v12 := bif m_cmp .ne what 0 then z11 60 23 else z11 59 23; (v12, z11)) else (((-2), s))) (fun x : Int32 × SG => x.2) (by (try dsimp only); exact (Fr.rf _ _)) (by (try dsimp only); exact (Fr.bifp (b := m_cmp .ne (F_isBelow s what 2) 0) (x := let z7 := F_take s ; let z8 := itr (B_cyears_19 n) 0 24 (z7, seed); let z11 := F_rowOther z8.1 ; let v12 := bif m_cmp .ne what 0 then z11 60 23 else z11 59 23; (v12, z11)) (y := ((-2), s)) (fun x : Int32 × SG => x.2) (by (try dsimp only); exact (let z7 : SG := F_take s ; (let z8 : SG × Int32 := itr (B_cyears_19 n) 0 24 (z7, seed); (Fr.tr (s1 := z8.1) (frItrB (W := W_cyears) (m := (fun x : SG × Int32 => x.1)) (f := (B_cyears_19 n)) 24 (fun ii aa hh => Fr.wk (W2 := W_cyears) (fr_B_cyears_19 n ii aa  hh) (by rfl)) 24 0 (z7, seed) (by omega) (Fr.tr (s1 := s) (Fr.rf _ _) (Fr.wk (W2 := W_cyears) (fr_take s ) (by rfl)))) (Fr.wk (W2 := W_cyears) (fr_rowOther z8.1 ) (by rfl)))))) (by (try dsimp only); exact (Fr.rf _ _)))))
set_option maxRecDepth 20000 in
set_option maxHeartbeats 200000 in
theorem ux_cyears (s : SG) (seed : Int32) (n : Int32) (what : Int32)  : UP m_X6_years 0 (m_ent 6 [.ref 0, .int seed, .int n, .int what]) [] s (Qb (F_cyears s seed n what)) := by
  refine UP.stp 2 (i1 := 2) (L1 := [some (.ref 0), some (.int seed), some (.int n), some (.int what), none, none]) (st1 := [.int 25, .int n]) (s1 := s) rfl ?_
  refine UP.cI (M1 := m_X6_isBelow) (as := [.int n, .int 25]) (rest := []) (T := F_isBelow s n 25) rfl rfl (ux_isBelow s n 25) ?_
  refine UP.spl (m_cmp .eq (F_isBelow s n 25) 0) (((-2), s)) (bif m_cmp .ne (F_isBelow s what 2) 0 then (let z7 := F_take s ; let z8 := itr (B_cyears_19 n) 0 24 (z7, seed); let z11 := F_rowOther z8.1 ; let v12 := bif m_cmp .ne what 0 then z11 60 23 else z11 59 23; (v12, z11)) else (((-2), s))) (by first | (dsimp only [F_cyears]; done) | (dsimp only; done) | rfl) (fun cc => ?_) (fun cc => ?_)
  · skip
    refine UP.ifT rfl cc ?_
    refine UP.stp 1 (i1 := 9) (L1 := [some (.ref 0), some (.int seed), some (.int n), some (.int what), none, none]) (st1 := [.int (-2)]) (s1 := s) rfl ?_
    exact UP.ret (r := some (.int (-2))) rfl ⟨by first | (dsimp only [F_cyears]; done) | (dsimp only; done) | rfl, by first | (dsimp only [F_cyears]; done) | (dsimp only; done) | rfl⟩
  · skip
    refine UP.ifF rfl cc ?_
    refine UP.stp 2 (i1 := 6) (L1 := [some (.ref 0), some (.int seed), some (.int n), some (.int what), none, none]) (st1 := [.int 2, .int what]) (s1 := s) rfl ?_
    refine UP.cI (M1 := m_X6_isBelow) (as := [.int what, .int 2]) (rest := []) (T := F_isBelow s what 2) rfl rfl (ux_isBelow s what 2) ?_
    refine UP.spl (m_cmp .ne (F_isBelow s what 2) 0) (let z7 := F_take s ; let z8 := itr (B_cyears_19 n) 0 24 (z7, seed); let z11 := F_rowOther z8.1 ; let v12 := bif m_cmp .ne what 0 then z11 60 23 else z11 59 23; (v12, z11)) (((-2), s)) (by first | (dsimp only [F_cyears]; done) | (dsimp only; done) | rfl) (fun cc => ?_) (fun cc => ?_)
    · skip
      refine UP.ifT rfl cc ?_
      refine UP.stp 4 (i1 := 14) (L1 := [some (.ref 0), some (.int seed), some (.int n), some (.int what), none, none]) (st1 := [.ref 10, .ref 53]) (s1 := s) rfl ?_
      refine UP.cV (M1 := m_X0_take) (as := [.ref 53, .ref 10]) (rest := []) (T := F_take s ) rfl rfl (ux_take s ) (fun z7 e7 => ?_)
      refine UP.stp 4 (i1 := 19) (L1 := [some (.ref 0), some (.int seed), some (.int n), some (.int what), some (.int seed), some (.int 0)]) (st1 := []) (s1 := z7) rfl ?_
      refine lp (fun (i8 : Nat) (a8 : SG × Int32) => ∀ (u8_1 : Option Value), UP m_X6_years 19 [some (.ref 0), u8_1, some (.int n), some (.int what), some (.int a8.2), some (.int (Int32.ofNat i8))] [] a8.1 (Qb (let z7 := F_take s ; let z8 := itr (B_cyears_19 n) 0 24 (z7, seed); let z11 := F_rowOther z8.1 ; let v12 := bif m_cmp .ne what 0 then z11 60 23 else z11 59 23; (v12, z11)))) (fun (_ : Nat) (a8 : SG × Int32) => Fr W_cyears z7 a8.1) (B_cyears_19 n) (24) (fun i8 a8 hi8 g8 => g8.tr (fr_B_cyears_19 n i8 a8 hi8)) (fun i8 a8 hi8 g8 kk => ?_) 24 (0) (z7, seed) (by  omega) (Fr.rf _ _) (fun z8 e8 g8 => ?_) (some (.int seed))
      · skip
        intro u8_1
        refine UP.stp 2 (i1 := 21) (L1 := [some (.ref 0), u8_1, some (.int n), some (.int what), some (.int a8.2), some (.int (Int32.ofNat i8))]) (st1 := [.int 24, .int (Int32.ofNat i8)]) (s1 := a8.1) rfl ?_
        refine UP.icF rfl (ge_F (show i8 < (24 : Int32).toNatClampNeg from hi8)) ?_
        refine UP.stp 5 (i1 := 27) (L1 := [some (.ref 0), u8_1, some (.int n), some (.int what), some (.int a8.2), some (.int (Int32.ofNat i8))]) (st1 := [.int ((1103515245 * a8.2) + 12345)]) (s1 := a8.1) rfl ?_
        refine nm (G := fun v9 => UP m_X6_years 27 [some (.ref 0), u8_1, some (.int n), some (.int what), some (.int a8.2), some (.int (Int32.ofNat i8))] [.int v9] a8.1 (Qb (let z7 := F_take s ; let z8 := itr (B_cyears_19 n) 0 24 (z7, seed); let z11 := F_rowOther z8.1 ; let v12 := bif m_cmp .ne what 0 then z11 60 23 else z11 59 23; (v12, z11)))) ((1103515245 * a8.2) + 12345) (fun v9 e9 => ?_)
        refine UP.stp 7 (i1 := 34) (L1 := [some (.ref 0), u8_1, some (.int n), some (.int what), some (.int v9), some (.int (Int32.ofNat i8))]) (st1 := [.int n, .int (Int32.ofNat i8), .int (Int32.ofNat i8), .ref 56]) (s1 := a8.1) rfl ?_
        refine mrg (m_cmp .ge (Int32.ofNat i8) n) (2 : Int32) (((Int32.toUInt32 v9 >>> (Int32.toUInt32 16 &&& Int32.toUInt32 31)).toInt32) - ((Int32.toUInt32 v9 >>> (Int32.toUInt32 16 &&& Int32.toUInt32 31)).toInt32) / 4 * 4) (fun v10 : Int32 => UP m_X6_years 42 [some (.ref 0), u8_1, some (.int n), some (.int what), some (.int v9), some (.int (Int32.ofNat i8))] [.int v10, .int (Int32.ofNat i8), .ref 56] a8.1 (Qb (let z7 := F_take s ; let z8 := itr (B_cyears_19 n) 0 24 (z7, seed); let z11 := F_rowOther z8.1 ; let v12 := bif m_cmp .ne what 0 then z11 60 23 else z11 59 23; (v12, z11)))) (fun cc kk => ?_) (fun cc kk => ?_) (fun v10 e10 => ?_)
        · skip
          refine UP.icT rfl cc ?_
          refine UP.stp 1 (i1 := 42) (L1 := [some (.ref 0), u8_1, some (.int n), some (.int what), some (.int v9), some (.int (Int32.ofNat i8))]) (st1 := [.int 2, .int (Int32.ofNat i8), .ref 56]) (s1 := a8.1) rfl ?_
          exact kk
        · skip
          refine UP.icF rfl cc ?_
          refine UP.stp 6 (i1 := 42) (L1 := [some (.ref 0), u8_1, some (.int n), some (.int what), some (.int v9), some (.int (Int32.ofNat i8))]) (st1 := [.int (((Int32.toUInt32 v9 >>> (Int32.toUInt32 16 &&& Int32.toUInt32 31)).toInt32) - ((Int32.toUInt32 v9 >>> (Int32.toUInt32 16 &&& Int32.toUInt32 31)).toInt32) / 4 * 4), .int (Int32.ofNat i8), .ref 56]) (s1 := a8.1) rfl ?_
          exact kk
        refine UP.ast (e := i8) rfl rfl (by omega) ?_
        show UP m_X6_years 43 [some (.ref 0), u8_1, some (.int n), some (.int what), some (.int v9), some (.int (Int32.ofNat i8))] [] (uset a8.1 56 i8 v10) (Qb (let z7 := F_take s ; let z8 := itr (B_cyears_19 n) 0 24 (z7, seed); let z11 := F_rowOther z8.1 ; let v12 := bif m_cmp .ne what 0 then z11 60 23 else z11 59 23; (v12, z11)))
        refine UP.stp 2 (i1 := 19) (L1 := [some (.ref 0), u8_1, some (.int n), some (.int what), some (.int v9), some (.int ((Int32.ofNat i8) + 1))]) (st1 := []) (s1 := (uset a8.1 56 i8 v10)) rfl ?_
        subst e10 e9
        rw [ofn_s]
        try dsimp only [B_cyears_19] at kk
        exact kk _
      intro u8_1
      refine UP.stp 2 (i1 := 21) (L1 := [some (.ref 0), u8_1, some (.int n), some (.int what), some (.int z8.2), some (.int (Int32.ofNat 24))]) (st1 := [.int 24, .int (Int32.ofNat 24)]) (s1 := z8.1) rfl ?_
      refine UP.icT rfl (ge_T (24 : Int32)) ?_
      refine UP.stp 1 (i1 := 46) (L1 := [some (.ref 0), u8_1, some (.int n), some (.int what), some (.int z8.2), some (.int (Int32.ofNat 24))]) (st1 := [.ref 0]) (s1 := z8.1) rfl ?_
      refine UP.cR (M1 := m_X6_rowOther) (as := [.ref 0]) (rest := []) (T := F_rowOther z8.1 ) (a := 58) rfl rfl (ux_rowOther z8.1 ) (fun z11 e11 => ?_)
      refine UP.stp 2 (i1 := 49) (L1 := [some (.ref 0), u8_1, some (.int n), some (.int what), some (.int z8.2), some (.ref 58)]) (st1 := [.int what]) (s1 := z11) rfl ?_
      refine mrg (m_cmp .ne what 0) (z11 60 23) (z11 59 23) (fun v12 : Int32 => UP m_X6_years 59 [some (.ref 0), u8_1, some (.int n), some (.int what), some (.int z8.2), some (.ref 58)] [.int v12] z11 (Qb (let z7 := F_take s ; let z8 := itr (B_cyears_19 n) 0 24 (z7, seed); let z11 := F_rowOther z8.1 ; let v12 := bif m_cmp .ne what 0 then z11 60 23 else z11 59 23; (v12, z11)))) (fun cc kk => ?_) (fun cc kk => ?_) (fun v12 e12 => ?_)
      · skip
        refine UP.ifT rfl cc ?_
        refine UP.stp 4 (i1 := 59) (L1 := [some (.ref 0), u8_1, some (.int n), some (.int what), some (.int z8.2), some (.ref 58)]) (st1 := [.int (z11 60 23)]) (s1 := z11) rfl ?_
        exact kk
      · skip
        refine UP.ifF rfl cc ?_
        refine UP.stp 5 (i1 := 59) (L1 := [some (.ref 0), u8_1, some (.int n), some (.int what), some (.int z8.2), some (.ref 58)]) (st1 := [.int (z11 59 23)]) (s1 := z11) rfl ?_
        exact kk
      exact UP.ret (r := some (.int v12)) rfl ⟨by subst e12 e11 e8 e7; first | (dsimp only [F_cyears]; done) | (dsimp only; done) | rfl, by subst e12 e11 e8 e7; first | (dsimp only [F_cyears]; done) | (dsimp only; done) | rfl⟩
    · skip
      refine UP.ifF rfl cc ?_
      refine UP.stp 1 (i1 := 9) (L1 := [some (.ref 0), some (.int seed), some (.int n), some (.int what), none, none]) (st1 := [.int (-2)]) (s1 := s) rfl ?_
      exact UP.ret (r := some (.int (-2))) rfl ⟨by first | (dsimp only [F_cyears]; done) | (dsimp only; done) | rfl, by first | (dsimp only [F_cyears]; done) | (dsimp only; done) | rfl⟩
