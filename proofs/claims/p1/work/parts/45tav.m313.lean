def W_neverNow : List (Nat × Nat × Option Nat) := [(126, 129, none), (133, 144, none), (147, 147, none), (123, 123, some 2), (123, 123, some 5), (123, 123, some 7), (123, 123, some 17), (123, 123, some 19), (123, 123, some 20), (123, 123, some 21), (123, 123, some 22), (123, 123, some 23), (123, 123, some 24), (123, 123, some 25), (123, 123, some 26), (123, 123, some 27)]
def WL_neverNow : List (Nat × Nat × Option Nat) := [(133, 144, none), (147, 147, none), (123, 123, some 17), (123, 123, some 19), (123, 123, some 20), (123, 123, some 21), (123, 123, some 22), (123, 123, some 23), (123, 123, some 24), (123, 123, some 25), (123, 123, some 26), (123, 123, some 27)]
def B_neverNow_6  (i2 : Nat) (a2 : SG × Int32) : SG × Int32 := let v3 := 1 <<< ((Int32.ofNat i2) &&& 31); let z4 := F_isSeen (uset a2.1 123 17 v3) ; let v5 := bif m_cmp .eq z4.1 0 then (0 : Int32) else 1 <<< ((Int32.ofNat i2) &&& 31); let v6 := a2.2 ||| v5; (z4.2, v6)
set_option maxRecDepth 20000 in
set_option maxHeartbeats 200000 in
theorem fr_B_neverNow_6  (i2 : Nat) (a2 : SG × Int32)   : Fr WL_neverNow a2.1 ((B_neverNow_6) i2 a2).1 := by dsimp only [B_neverNow_6]; exact (let v3 : Int32 := 1 <<< ((Int32.ofNat i2) &&& 31); (Fr.tr (s1 := (uset a2.1 123 17 v3)) (Fr.uset (s1 := a2.1) (a := 123) (j := 17) (x := v3) (by rfl) (Fr.rf _ _)) (Fr.wk (W2 := WL_neverNow) (fr_isSeen (uset a2.1 123 17 v3) ) (by rfl))))
def F_neverNow (s : SG)  : Int32 × SG := let z1 := F_asTold s ; let z2 := itr (B_neverNow_6) 0 ((z1 123 11).toNatClampNeg) (z1, 0); (z2.2, z2.1)
set_option maxRecDepth 20000 in
set_option maxHeartbeats 200000 in
theorem fr_neverNow (s : SG)   : Fr W_neverNow s (F_neverNow s).2 := by dsimp only [F_neverNow]; exact (let z1 : SG := F_asTold s ; (Fr.itr (W := W_neverNow) (m := (fun x : SG × Int32 => x.1)) (f := (B_neverNow_6)) (fun ii aa => Fr.wk (W2 := W_neverNow) (fr_B_neverNow_6  ii aa ) (by rfl)) ((z1 123 11).toNatClampNeg) 0 (z1, 0) (Fr.tr (s1 := s) (Fr.rf _ _) (Fr.wk (W2 := W_neverNow) (fr_asTold s ) (by rfl)))))
set_option maxRecDepth 20000 in
set_option maxHeartbeats 200000 in
theorem ux_neverNow (s : SG)   : UP m_X7_neverNow 0 (m_ent 3 [.ref 123]) [] s (Qb (F_neverNow s)) := by
  refine UP.stp 1 (i1 := 1) (L1 := [some (.ref 123), none, none]) (st1 := [.ref 123]) (s1 := s) rfl ?_
  refine UP.cV (M1 := m_X7_asTold) (as := [.ref 123]) (rest := []) (T := F_asTold s ) rfl rfl (ux_asTold s ) (fun z1 e1 => ?_)
  refine UP.stp 4 (i1 := 6) (L1 := [some (.ref 123), some (.int 0), some (.int 0)]) (st1 := []) (s1 := z1) rfl ?_
  refine lp (fun (i2 : Nat) (a2 : SG × Int32) => UP m_X7_neverNow 6 [some (.ref 123), some (.int a2.2), some (.int (Int32.ofNat i2))] [] a2.1 (Qb (F_neverNow s))) (fun (_ : Nat) (a2 : SG × Int32) => Fr WL_neverNow z1 a2.1) (B_neverNow_6) ((z1 123 11).toNatClampNeg) (fun i2 a2 hi2 g2 => g2.tr (fr_B_neverNow_6  i2 a2 )) (fun i2 a2 hi2 g2 kk => ?_) ((z1 123 11).toNatClampNeg) (0) (z1, 0) (by  omega) (Fr.rf _ _) (fun z2 e2 g2 => ?_)
  · skip
    have hbi2 := cl_lt (z1 123 11)
    refine UP.stp 3 (i1 := 9) (L1 := [some (.ref 123), some (.int a2.2), some (.int (Int32.ofNat i2))]) (st1 := [.int (a2.1 123 11), .int (Int32.ofNat i2)]) (s1 := a2.1) rfl ?_
    refine UP.icF rfl (by rw [(g2 123 11 rfl)]; exact ge_F hi2) ?_
    refine UP.stp 4 (i1 := 14) (L1 := [some (.ref 123), some (.int a2.2), some (.int (Int32.ofNat i2))]) (st1 := [.int (1 <<< ((Int32.ofNat i2) &&& 31)), .ref 123]) (s1 := a2.1) rfl ?_
    refine nm (G := fun v3 => UP m_X7_neverNow 14 [some (.ref 123), some (.int a2.2), some (.int (Int32.ofNat i2))] [.int v3, .ref 123] a2.1 (Qb (F_neverNow s))) (1 <<< ((Int32.ofNat i2) &&& 31)) (fun v3 e3 => ?_)
    refine UP.stp 3 (i1 := 17) (L1 := [some (.ref 123), some (.int a2.2), some (.int (Int32.ofNat i2))]) (st1 := [.ref 123, .int a2.2]) (s1 := (uset a2.1 123 17 v3)) rfl ?_
    refine UP.cB (M1 := m_X7_isSeen) (as := [.ref 123]) (rest := [.int a2.2]) (T := F_isSeen (uset a2.1 123 17 v3) ) rfl rfl (ux_isSeen (uset a2.1 123 17 v3) ) (fun z4 e4 => ?_)
    refine mrg (m_cmp .eq z4.1 0) (0 : Int32) (1 <<< ((Int32.ofNat i2) &&& 31)) (fun v5 : Int32 => UP m_X7_neverNow 24 [some (.ref 123), some (.int a2.2), some (.int (Int32.ofNat i2))] [.int v5, .int a2.2] z4.2 (Qb (F_neverNow s))) (fun cc kk => ?_) (fun cc kk => ?_) (fun v5 e5 => ?_)
    · skip
      refine UP.ifT rfl cc ?_
      refine UP.stp 1 (i1 := 24) (L1 := [some (.ref 123), some (.int a2.2), some (.int (Int32.ofNat i2))]) (st1 := [.int 0, .int a2.2]) (s1 := z4.2) rfl ?_
      exact kk
    · skip
      refine UP.ifF rfl cc ?_
      refine UP.stp 4 (i1 := 24) (L1 := [some (.ref 123), some (.int a2.2), some (.int (Int32.ofNat i2))]) (st1 := [.int (1 <<< ((Int32.ofNat i2) &&& 31)), .int a2.2]) (s1 := z4.2) rfl ?_
      exact kk
    refine UP.stp 1 (i1 := 25) (L1 := [some (.ref 123), some (.int a2.2), some (.int (Int32.ofNat i2))]) (st1 := [.int (a2.2 ||| v5)]) (s1 := z4.2) rfl ?_
    refine nm (G := fun v6 => UP m_X7_neverNow 25 [some (.ref 123), some (.int a2.2), some (.int (Int32.ofNat i2))] [.int v6] z4.2 (Qb (F_neverNow s))) (a2.2 ||| v5) (fun v6 e6 => ?_)
    refine UP.stp 3 (i1 := 6) (L1 := [some (.ref 123), some (.int v6), some (.int ((Int32.ofNat i2) + 1))]) (st1 := []) (s1 := z4.2) rfl ?_
    subst e6 e5 e4 e3
    rw [ofn_s]
    try dsimp only [B_neverNow_6] at kk
    exact kk
  refine UP.stp 3 (i1 := 9) (L1 := [some (.ref 123), some (.int z2.2), some (.int (Int32.ofNat ((z1 123 11).toNatClampNeg)))]) (st1 := [.int (z2.1 123 11), .int (Int32.ofNat ((z1 123 11).toNatClampNeg))]) (s1 := z2.1) rfl ?_
  refine UP.icT rfl (by rw [(g2 123 11 rfl)]; exact ge_T _) ?_
  refine UP.stp 1 (i1 := 29) (L1 := [some (.ref 123), some (.int z2.2), some (.int (Int32.ofNat ((z1 123 11).toNatClampNeg)))]) (st1 := [.int z2.2]) (s1 := z2.1) rfl ?_
  exact UP.ret (r := some (.int z2.2)) rfl ⟨by subst e2 e1; first | (dsimp only [F_neverNow]; done) | (dsimp only; done) | rfl, by subst e2 e1; first | (dsimp only [F_neverNow]; done) | (dsimp only; done) | rfl⟩
def W_never : List (Nat × Nat × Option Nat) := [(126, 129, none), (133, 144, none), (147, 147, none), (123, 123, some 2), (123, 123, some 5), (123, 123, some 7), (123, 123, some 17), (123, 123, some 19), (123, 123, some 20), (123, 123, some 21), (123, 123, some 22), (123, 123, some 23), (123, 123, some 24), (123, 123, some 25), (123, 123, some 26), (123, 123, some 27)]
def F_never (s : SG)  : Int32 × SG := let z1 := F_neverNow s ; z1
set_option maxRecDepth 20000 in
set_option maxHeartbeats 200000 in
theorem fr_never (s : SG)   : Fr W_never s (F_never s).2 := by dsimp only [F_never]; exact (Fr.tr (s1 := s) (Fr.rf _ _) (Fr.wk (W2 := W_never) (fr_neverNow s ) (by rfl)))
set_option maxRecDepth 20000 in
set_option maxHeartbeats 200000 in
theorem ux_never (s : SG)   : UP m_X7_never 0 (m_ent 1 [.ref 123]) [] s (Qb (F_never s)) := by
  refine UP.stp 1 (i1 := 1) (L1 := [some (.ref 123)]) (st1 := [.ref 123]) (s1 := s) rfl ?_
  refine UP.cB (M1 := m_X7_neverNow) (as := [.ref 123]) (rest := []) (T := F_neverNow s ) rfl rfl (ux_neverNow s ) (fun z1 e1 => ?_)
  exact UP.ret (r := some (.int z1.1)) rfl ⟨by subst e1; first | (dsimp only [F_never]; done) | (dsimp only; done) | rfl, by subst e1; first | (dsimp only [F_never]; done) | (dsimp only; done) | rfl⟩
