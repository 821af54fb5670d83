/-! the model: its calls, as functions (printed by wip/u/mk_m3.py) -/
def W_asTold : List (Nat × Nat × Option Nat) := [(126, 129, none), (133, 144, none), (147, 147, none), (123, 123, some 2), (123, 123, some 5), (123, 123, some 7), (123, 123, some 17), (123, 123, some 19), (123, 123, some 20), (123, 123, some 21), (123, 123, some 22), (123, 123, some 23), (123, 123, some 24), (123, 123, some 25), (123, 123, some 26), (123, 123, some 27)]
def B_asTold_4  (i2 : Nat) (a2 : SG) : SG := let v3 := a2 128 i2; let v4 := a2 129 i2; (uset (uset a2 133 i2 v3) 134 i2 v4)
set_option maxRecDepth 20000 in
set_option maxHeartbeats 200000 in
theorem fr_B_asTold_4  (i2 : Nat) (a2 : SG)  (hi2 : i2 < 24) : Fr W_asTold a2 ((B_asTold_4) i2 a2) := by dsimp only [B_asTold_4]; exact (let v3 : Int32 := a2 128 i2; (let v4 : Int32 := a2 129 i2; (Fr.uset (s1 := (uset a2 133 i2 v3)) (a := 134) (j := i2) (x := v4) (by rfl) (Fr.uset (s1 := a2) (a := 133) (j := i2) (x := v3) (by rfl) (Fr.rf _ _)))))
def B_asTold_30  (i5 : Nat) (a5 : SG) : SG := (uset a5 135 i5 (Int32.ofNat i5))
set_option maxRecDepth 20000 in
set_option maxHeartbeats 200000 in
theorem fr_B_asTold_30  (i5 : Nat) (a5 : SG)  (hi5 : i5 < 8) : Fr W_asTold a5 ((B_asTold_30) i5 a5) := by dsimp only [B_asTold_30]; exact (Fr.uset (s1 := a5) (a := 135) (j := i5) (x := Int32.ofNat i5) (by rfl) (Fr.rf _ _))
def F_asTold (s : SG)  : SG := let z1 := F_reads s ; let z2 := itr (B_asTold_4) 0 24 z1; let z5 := itr (B_asTold_30) 0 8 (uset z2 123 17 0); z5
set_option maxRecDepth 20000 in
set_option maxHeartbeats 200000 in
theorem fr_asTold (s : SG)   : Fr W_asTold s (F_asTold s) := by dsimp only [F_asTold]; exact (let z1 : SG := F_reads s ; (let z2 : SG := itr (B_asTold_4) 0 24 z1; (frItrB (W := W_asTold) (m := (fun x : SG => x)) (f := (B_asTold_30)) 8 (fun ii aa hh => Fr.wk (W2 := W_asTold) (fr_B_asTold_30  ii aa  hh) (by rfl)) 8 0 (uset z2 123 17 0) (by omega) (Fr.uset (s1 := z2) (a := 123) (j := 17) (x := 0) (by rfl) (frItrB (W := W_asTold) (m := (fun x : SG => x)) (f := (B_asTold_4)) 24 (fun ii aa hh => Fr.wk (W2 := W_asTold) (fr_B_asTold_4  ii aa  hh) (by rfl)) 24 0 z1 (by omega) (Fr.tr (s1 := s) (Fr.rf _ _) (Fr.wk (W2 := W_asTold) (fr_reads s ) (by rfl))))))))
set_option maxRecDepth 20000 in
set_option maxHeartbeats 200000 in
theorem ux_asTold (s : SG)   : UP m_X7_asTold 0 (m_ent 2 [.ref 123]) [] s (Qv (F_asTold s)) := by
  refine UP.stp 1 (i1 := 1) (L1 := [some (.ref 123), none]) (st1 := [.ref 123]) (s1 := s) rfl ?_
  refine UP.cV (M1 := m_X7_reads) (as := [.ref 123]) (rest := []) (T := F_reads s ) rfl rfl (ux_reads s ) (fun z1 e1 => ?_)
  refine UP.stp 2 (i1 := 4) (L1 := [some (.ref 123), some (.int 0)]) (st1 := []) (s1 := z1) rfl ?_
  refine lp (fun (i2 : Nat) (a2 : SG) => UP m_X7_asTold 4 [some (.ref 123), some (.int (Int32.ofNat i2))] [] a2 (Qv (F_asTold s))) (fun (_ : Nat) (a2 : SG) => Fr W_asTold z1 a2) (B_asTold_4) (24) (fun i2 a2 hi2 g2 => g2.tr (fr_B_asTold_4  i2 a2 hi2)) (fun i2 a2 hi2 g2 kk => ?_) 24 (0) z1 (by  omega) (Fr.rf _ _) (fun z2 e2 g2 => ?_)
  · skip
    refine UP.stp 2 (i1 := 6) (L1 := [some (.ref 123), some (.int (Int32.ofNat i2))]) (st1 := [.int 24, .int (Int32.ofNat i2)]) (s1 := a2) rfl ?_
    refine UP.icF rfl (ge_F (show i2 < (24 : Int32).toNatClampNeg from hi2)) ?_
    refine UP.stp 6 (i1 := 13) (L1 := [some (.ref 123), some (.int (Int32.ofNat i2))]) (st1 := [.int (Int32.ofNat i2), .ref 128, .int (Int32.ofNat i2), .ref 133]) (s1 := a2) rfl ?_
    refine UP.ald (e := i2) rfl rfl (by omega) ?_
    show UP m_X7_asTold 14 [some (.ref 123), some (.int (Int32.ofNat i2))] [.int (a2 128 i2), .int (Int32.ofNat i2), .ref 133] a2 (Qv (F_asTold s))
    refine nm (G := fun v3 => UP m_X7_asTold 14 [some (.ref 123), some (.int (Int32.ofNat i2))] [.int v3, .int (Int32.ofNat i2), .ref 133] a2 (Qv (F_asTold s))) (a2 128 i2) (fun v3 e3 => ?_)
    refine UP.ast (e := i2) rfl rfl (by omega) ?_
    show UP m_X7_asTold 15 [some (.ref 123), some (.int (Int32.ofNat i2))] [] (uset a2 133 i2 v3) (Qv (F_asTold s))
    refine UP.stp 6 (i1 := 21) (L1 := [some (.ref 123), some (.int (Int32.ofNat i2))]) (st1 := [.int (Int32.ofNat i2), .ref 129, .int (Int32.ofNat i2), .ref 134]) (s1 := (uset a2 133 i2 v3)) rfl ?_
    refine UP.ald (e := i2) rfl rfl (by omega) ?_
    show UP m_X7_asTold 22 [some (.ref 123), some (.int (Int32.ofNat i2))] [.int (a2 129 i2), .int (Int32.ofNat i2), .ref 134] (uset a2 133 i2 v3) (Qv (F_asTold s))
    refine nm (G := fun v4 => UP m_X7_asTold 22 [some (.ref 123), some (.int (Int32.ofNat i2))] [.int v4, .int (Int32.ofNat i2), .ref 134] (uset a2 133 i2 v3) (Qv (F_asTold s))) (a2 129 i2) (fun v4 e4 => ?_)
    refine UP.ast (e := i2) rfl rfl (by omega) ?_
    show UP m_X7_asTold 23 [some (.ref 123), some (.int (Int32.ofNat i2))] [] (uset (uset a2 133 i2 v3) 134 i2 v4) (Qv (F_asTold s))
    refine UP.stp 2 (i1 := 4) (L1 := [some (.ref 123), some (.int ((Int32.ofNat i2) + 1))]) (st1 := []) (s1 := (uset (uset a2 133 i2 v3) 134 i2 v4)) rfl ?_
    subst e4 e3
    rw [ofn_s]
    try dsimp only [B_asTold_4] at kk
    exact kk
  refine UP.stp 2 (i1 := 6) (L1 := [some (.ref 123), some (.int (Int32.ofNat 24))]) (st1 := [.int 24, .int (Int32.ofNat 24)]) (s1 := z2) rfl ?_
  refine UP.icT rfl (ge_T (24 : Int32)) ?_
  refine UP.stp 5 (i1 := 30) (L1 := [some (.ref 123), some (.int 0)]) (st1 := []) (s1 := (uset z2 123 17 0)) rfl ?_
  refine lp (fun (i5 : Nat) (a5 : SG) => UP m_X7_asTold 30 [some (.ref 123), some (.int (Int32.ofNat i5))] [] a5 (Qv (F_asTold s))) (fun (_ : Nat) (a5 : SG) => Fr W_asTold (uset z2 123 17 0) a5) (B_asTold_30) (8) (fun i5 a5 hi5 g5 => g5.tr (fr_B_asTold_30  i5 a5 hi5)) (fun i5 a5 hi5 g5 kk => ?_) 8 (0) (uset z2 123 17 0) (by  omega) (Fr.rf _ _) (fun z5 e5 g5 => ?_)
  · skip
    refine UP.stp 2 (i1 := 32) (L1 := [some (.ref 123), some (.int (Int32.ofNat i5))]) (st1 := [.int 8, .int (Int32.ofNat i5)]) (s1 := a5) rfl ?_
    refine UP.icF rfl (ge_F (show i5 < (8 : Int32).toNatClampNeg from hi5)) ?_
    refine UP.stp 4 (i1 := 37) (L1 := [some (.ref 123), some (.int (Int32.ofNat i5))]) (st1 := [.int (Int32.ofNat i5), .int (Int32.ofNat i5), .ref 135]) (s1 := a5) rfl ?_
    refine UP.ast (e := i5) rfl rfl (by omega) ?_
    show UP m_X7_asTold 38 [some (.ref 123), some (.int (Int32.ofNat i5))] [] (uset a5 135 i5 (Int32.ofNat i5)) (Qv (F_asTold s))
    refine UP.stp 2 (i1 := 30) (L1 := [some (.ref 123), some (.int ((Int32.ofNat i5) + 1))]) (st1 := []) (s1 := (uset a5 135 i5 (Int32.ofNat i5))) rfl ?_
    rw [ofn_s]
    try dsimp only [B_asTold_30] at kk
    exact kk
  refine UP.stp 2 (i1 := 32) (L1 := [some (.ref 123), some (.int (Int32.ofNat 8))]) (st1 := [.int 8, .int (Int32.ofNat 8)]) (s1 := z5) rfl ?_
  refine UP.icT rfl (ge_T (8 : Int32)) ?_
  exact UP.ret (r := none) rfl ⟨by subst e5 e2 e1; first | (dsimp only [F_asTold]; done) | (dsimp only; done) | rfl, by subst e5 e2 e1; first | (dsimp only [F_asTold]; done) | (dsimp only; done) | rfl⟩
def W_runsTold : List (Nat × Nat × Option Nat) := [(126, 129, none), (133, 144, none), (147, 147, none), (123, 123, some 2), (123, 123, some 5), (123, 123, some 7), (123, 123, some 17), (123, 123, some 19), (123, 123, some 20), (123, 123, some 21), (123, 123, some 22), (123, 123, some 23), (123, 123, some 24), (123, 123, some 25), (123, 123, some 26), (123, 123, some 27)]
def F_runsTold (s : SG)  : SG := let z1 := F_asTold s ; let z2 := F_runs z1 ; z2
set_option maxRecDepth 20000 in
set_option maxHeartbeats 200000 in
theorem fr_runsTold (s : SG)   : Fr W_runsTold s (F_runsTold s) := by dsimp only [F_runsTold]; exact (let z1 : SG := F_asTold s ; (Fr.tr (s1 := z1) (Fr.tr (s1 := s) (Fr.rf _ _) (Fr.wk (W2 := W_runsTold) (fr_asTold s ) (by rfl))) (Fr.wk (W2 := W_runsTold) (fr_runs z1 ) (by rfl))))
set_option maxRecDepth 20000 in
set_option maxHeartbeats 200000 in
theorem ux_runsTold (s : SG)   : UP m_X7_runsTold 0 (m_ent 1 [.ref 123]) [] s (Qv (F_runsTold s)) := by
  refine UP.stp 1 (i1 := 1) (L1 := [some (.ref 123)]) (st1 := [.ref 123]) (s1 := s) rfl ?_
  refine UP.cV (M1 := m_X7_asTold) (as := [.ref 123]) (rest := []) (T := F_asTold s ) rfl rfl (ux_asTold s ) (fun z1 e1 => ?_)
  refine UP.stp 1 (i1 := 3) (L1 := [some (.ref 123)]) (st1 := [.ref 123]) (s1 := z1) rfl ?_
  refine UP.cV (M1 := m_X7_runs) (as := [.ref 123]) (rest := []) (T := F_runs z1 ) rfl rfl (ux_runs z1 ) (fun z2 e2 => ?_)
  exact UP.ret (r := none) rfl ⟨by subst e2 e1; first | (dsimp only [F_runsTold]; done) | (dsimp only; done) | rfl, by subst e2 e1; first | (dsimp only [F_runsTold]; done) | (dsimp only; done) | rfl⟩
