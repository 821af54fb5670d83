def W_yearsOf : List (Nat × Nat × Option Nat) := [(126, 129, none), (133, 144, none), (147, 147, none), (123, 123, some 2), (123, 123, some 5), (123, 123, some 7), (123, 123, some 17), (123, 123, some 19), (123, 123, some 20), (123, 123, some 21), (123, 123, some 22), (123, 123, some 23), (123, 123, some 24), (123, 123, some 25), (123, 123, some 26), (123, 123, some 27)]
def B_yearsOf_6 (n : Int32) (i2 : Nat) (a2 : SG × Int32) : SG × Int32 := let v3 := bif m_cmp .ge (Int32.ofNat i2) n then a2.2 else (1103515245 * a2.2) + 12345; let v4 := bif m_cmp .ge (Int32.ofNat i2) n then (2 : Int32) else ((Int32.toUInt32 v3 >>> (Int32.toUInt32 16 &&& Int32.toUInt32 31)).toInt32) - ((Int32.toUInt32 v3 >>> (Int32.toUInt32 16 &&& Int32.toUInt32 31)).toInt32) / 4 * 4; ((uset a2.1 133 i2 v4), v3)
set_option maxRecDepth 20000 in
set_option maxHeartbeats 200000 in
theorem fr_B_yearsOf_6 (n : Int32) (i2 : Nat) (a2 : SG × Int32)  (hi2 : i2 < 24) : Fr W_yearsOf a2.1 ((B_yearsOf_6 n) i2 a2).1 := by dsimp only [B_yearsOf_6]; exact (let v3 : Int32 := bif m_cmp .ge (Int32.ofNat i2) n then a2.2 else (1103515245 * a2.2) + 12345; (let v4 : Int32 := bif m_cmp .ge (Int32.ofNat i2) n then (2 : Int32) else ((Int32.toUInt32 v3 >>> (Int32.toUInt32 16 &&& Int32.toUInt32 31)).toInt32) - ((Int32.toUInt32 v3 >>> (Int32.toUInt32 16 &&& Int32.toUInt32 31)).toInt32) / 4 * 4; (Fr.uset (s1 := a2.1) (a := 133) (j := i2) (x := v4) (by rfl) (Fr.rf _ _))))
def F_yearsOf (s : SG) (seed : Int32) (n : Int32) (what : Int32) : Int32 × SG := let z1 := F_asTold s ; let z2 := itr (B_yearsOf_6 n) 0 24 (z1, seed); let z5 := F_runs z2.1 ; let v6 := bif m_cmp .ne what 0 then z5 123 20 else z5 123 19; (v6, z5)
set_option maxRecDepth 20000 in
set_option maxHeartbeats 200000 in
theorem fr_yearsOf (s : SG) (seed : Int32) (n : Int32) (what : Int32)  : Fr W_yearsOf s (F_yearsOf s seed n what).2 := by dsimp only [F_yearsOf]; exact (let z1 : SG := F_asTold s ; (let z2 : SG × Int32 := itr (B_yearsOf_6 n) 0 24 (z1, seed); (Fr.tr (s1 := z2.1) (frItrB (W := W_yearsOf) (m := (fun x : SG × Int32 => x.1)) (f := (B_yearsOf_6 n)) 24 (fun ii aa hh => Fr.wk (W2 := W_yearsOf) (fr_B_yearsOf_6 n ii aa  hh) (by rfl)) 24 0 (z1, seed) (by omega) (Fr.tr (s1 := s) (Fr.rf _ _) (Fr.wk (W2 := W_yearsOf) (fr_asTold s ) (by rfl)))) (Fr.wk (W2 := W_yearsOf) (fr_runs z2.1 ) (by rfl)))))
set_option maxRecDepth 20000 in
set_option maxHeartbeats 200000 in
theorem ux_yearsOf (s : SG) (seed : Int32) (n : Int32) (what : Int32)  : UP m_X7_yearsOf 0 (m_ent 6 [.ref 123, .int seed, .int n, .int what]) [] s (Qb (F_yearsOf s seed n what)) := by
  refine UP.stp 1 (i1 := 1) (L1 := [some (.ref 123), some (.int seed), some (.int n), some (.int what), none, none]) (st1 := [.ref 123]) (s1 := s) rfl ?_
  refine UP.cV (M1 := m_X7_asTold) (as := [.ref 123]) (rest := []) (T := F_asTold s ) rfl rfl (ux_asTold s ) (fun z1 e1 => ?_)
  refine UP.stp 4 (i1 := 6) (L1 := [some (.ref 123), some (.int seed), some (.int n), some (.int what), some (.int seed), some (.int 0)]) (st1 := []) (s1 := z1) rfl ?_
  refine lp (fun (i2 : Nat) (a2 : SG × Int32) => ∀ (u2_1 : Option Value), UP m_X7_yearsOf 6 [some (.ref 123), u2_1, some (.int n), some (.int what), some (.int a2.2), some (.int (Int32.ofNat i2))] [] a2.1 (Qb (F_yearsOf s seed n what))) (fun (_ : Nat) (a2 : SG × Int32) => Fr W_yearsOf z1 a2.1) (B_yearsOf_6 n) (24) (fun i2 a2 hi2 g2 => g2.tr (fr_B_yearsOf_6 n i2 a2 hi2)) (fun i2 a2 hi2 g2 kk => ?_) 24 (0) (z1, seed) (by  omega) (Fr.rf _ _) (fun z2 e2 g2 => ?_) (some (.int seed))
  · skip
    intro u2_1
    refine UP.stp 2 (i1 := 8) (L1 := [some (.ref 123), u2_1, some (.int n), some (.int what), some (.int a2.2), some (.int (Int32.ofNat i2))]) (st1 := [.int 24, .int (Int32.ofNat i2)]) (s1 := a2.1) rfl ?_
    refine UP.icF rfl (ge_F (show i2 < (24 : Int32).toNatClampNeg from hi2)) ?_
    refine UP.stp 2 (i1 := 11) (L1 := [some (.ref 123), u2_1, some (.int n), some (.int what), some (.int a2.2), some (.int (Int32.ofNat i2))]) (st1 := [.int n, .int (Int32.ofNat i2)]) (s1 := a2.1) rfl ?_
    refine mrg (m_cmp .ge (Int32.ofNat i2) n) a2.2 ((1103515245 * a2.2) + 12345) (fun v3 : Int32 => UP m_X7_yearsOf 19 [some (.ref 123), u2_1, some (.int n), some (.int what), some (.int a2.2), some (.int (Int32.ofNat i2))] [.int v3] a2.1 (Qb (F_yearsOf s seed n what))) (fun cc kk => ?_) (fun cc kk => ?_) (fun v3 e3 => ?_)
    · skip
      refine UP.icT rfl cc ?_
      refine UP.stp 1 (i1 := 19) (L1 := [some (.ref 123), u2_1, some (.int n), some (.int what), some (.int a2.2), some (.int (Int32.ofNat i2))]) (st1 := [.int a2.2]) (s1 := a2.1) rfl ?_
      exact kk
    · skip
      refine UP.icF rfl cc ?_
      refine UP.stp 6 (i1 := 19) (L1 := [some (.ref 123), u2_1, some (.int n), some (.int what), some (.int a2.2), some (.int (Int32.ofNat i2))]) (st1 := [.int ((1103515245 * a2.2) + 12345)]) (s1 := a2.1) rfl ?_
      exact kk
    refine UP.stp 6 (i1 := 25) (L1 := [some (.ref 123), u2_1, some (.int n), some (.int what), some (.int v3), some (.int (Int32.ofNat i2))]) (st1 := [.int n, .int (Int32.ofNat i2), .int (Int32.ofNat i2), .ref 133]) (s1 := a2.1) rfl ?_
    refine mrg (m_cmp .ge (Int32.ofNat i2) n) (2 : Int32) (((Int32.toUInt32 v3 >>> (Int32.toUInt32 16 &&& Int32.toUInt32 31)).toInt32) - ((Int32.toUInt32 v3 >>> (Int32.toUInt32 16 &&& Int32.toUInt32 31)).toInt32) / 4 * 4) (fun v4 : Int32 => UP m_X7_yearsOf 33 [some (.ref 123), u2_1, some (.int n), some (.int what), some (.int v3), some (.int (Int32.ofNat i2))] [.int v4, .int (Int32.ofNat i2), .ref 133] a2.1 (Qb (F_yearsOf s seed n what))) (fun cc kk => ?_) (fun cc kk => ?_) (fun v4 e4 => ?_)
    · skip
      refine UP.icT rfl cc ?_
      refine UP.stp 1 (i1 := 33) (L1 := [some (.ref 123), u2_1, some (.int n), some (.int what), some (.int v3), some (.int (Int32.ofNat i2))]) (st1 := [.int 2, .int (Int32.ofNat i2), .ref 133]) (s1 := a2.1) rfl ?_
      exact kk
    · skip
      refine UP.icF rfl cc ?_
      refine UP.stp 6 (i1 := 33) (L1 := [some (.ref 123), u2_1, some (.int n), some (.int what), some (.int v3), some (.int (Int32.ofNat i2))]) (st1 := [.int (((Int32.toUInt32 v3 >>> (Int32.toUInt32 16 &&& Int32.toUInt32 31)).toInt32) - ((Int32.toUInt32 v3 >>> (Int32.toUInt32 16 &&& Int32.toUInt32 31)).toInt32) / 4 * 4), .int (Int32.ofNat i2), .ref 133]) (s1 := a2.1) rfl ?_
      exact kk
    refine UP.ast (e := i2) rfl rfl (by omega) ?_
    show UP m_X7_yearsOf 34 [some (.ref 123), u2_1, some (.int n), some (.int what), some (.int v3), some (.int (Int32.ofNat i2))] [] (uset a2.1 133 i2 v4) (Qb (F_yearsOf s seed n what))
    refine UP.stp 2 (i1 := 6) (L1 := [some (.ref 123), u2_1, some (.int n), some (.int what), some (.int v3), some (.int ((Int32.ofNat i2) + 1))]) (st1 := []) (s1 := (uset a2.1 133 i2 v4)) rfl ?_
    subst e4 e3
    rw [ofn_s]
    try dsimp only [B_yearsOf_6] at kk
    exact kk _
  intro u2_1
  refine UP.stp 2 (i1 := 8) (L1 := [some (.ref 123), u2_1, some (.int n), some (.int what), some (.int z2.2), some (.int (Int32.ofNat 24))]) (st1 := [.int 24, .int (Int32.ofNat 24)]) (s1 := z2.1) rfl ?_
  refine UP.icT rfl (ge_T (24 : Int32)) ?_
  refine UP.stp 1 (i1 := 37) (L1 := [some (.ref 123), u2_1, some (.int n), some (.int what), some (.int z2.2), some (.int (Int32.ofNat 24))]) (st1 := [.ref 123]) (s1 := z2.1) rfl ?_
  refine UP.cV (M1 := m_X7_runs) (as := [.ref 123]) (rest := []) (T := F_runs z2.1 ) rfl rfl (ux_runs z2.1 ) (fun z5 e5 => ?_)
  refine UP.stp 1 (i1 := 39) (L1 := [some (.ref 123), u2_1, some (.int n), some (.int what), some (.int z2.2), some (.int (Int32.ofNat 24))]) (st1 := [.int what]) (s1 := z5) rfl ?_
  refine mrg (m_cmp .ne what 0) (z5 123 20) (z5 123 19) (fun v6 : Int32 => UP m_X7_yearsOf 45 [some (.ref 123), u2_1, some (.int n), some (.int what), some (.int z2.2), some (.int (Int32.ofNat 24))] [.int v6] z5 (Qb (F_yearsOf s seed n what))) (fun cc kk => ?_) (fun cc kk => ?_) (fun v6 e6 => ?_)
  · skip
    refine UP.ifT rfl cc ?_
    refine UP.stp 2 (i1 := 45) (L1 := [some (.ref 123), u2_1, some (.int n), some (.int what), some (.int z2.2), some (.int (Int32.ofNat 24))]) (st1 := [.int (z5 123 20)]) (s1 := z5) rfl ?_
    exact kk
  · skip
    refine UP.ifF rfl cc ?_
    refine UP.stp 3 (i1 := 45) (L1 := [some (.ref 123), u2_1, some (.int n), some (.int what), some (.int z2.2), some (.int (Int32.ofNat 24))]) (st1 := [.int (z5 123 19)]) (s1 := z5) rfl ?_
    exact kk
  exact UP.ret (r := some (.int v6)) rfl ⟨by subst e6 e5 e2 e1; first | (dsimp only [F_yearsOf]; done) | (dsimp only; done) | rfl, by subst e6 e5 e2 e1; first | (dsimp only [F_yearsOf]; done) | (dsimp only; done) | rfl⟩
