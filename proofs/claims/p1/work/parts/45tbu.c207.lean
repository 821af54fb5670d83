def W_takeRudder : List (Nat × Nat × Option Nat) := [(14, 14, none)]
def B_takeRudder_12 (v2 : Int32) (i3 : Nat) (a3 : SG) : SG := let v4 := bif m_cmp .ge (Int32.ofNat i3) v2 then (45 : Int32) else a3 114 i3; let v6 := bif m_cmp .ne v4 108 then (bif m_cmp .ne v4 114 then (0 : Int32) else (2 : Int32)) else (1 : Int32); (uset a3 14 i3 v6)
set_option maxRecDepth 20000 in
set_option maxHeartbeats 200000 in
theorem fr_B_takeRudder_12 (v2 : Int32) (i3 : Nat) (a3 : SG)  (hi3 : i3 < 24) : Fr W_takeRudder a3 ((B_takeRudder_12 v2) i3 a3) := by dsimp only [B_takeRudder_12]; exact (let v4 : Int32 := bif m_cmp .ge (Int32.ofNat i3) v2 then (45 : Int32) else a3 114 i3; (let v6 : Int32 := bif m_cmp .ne v4 108 then (bif m_cmp .ne v4 114 then (0 : Int32) else (2 : Int32)) else (1 : Int32); (Fr.uset (s1 := a3) (a := 14) (j := i3) (x := v6) (by rfl) (Fr.rf _ _))))
def F_takeRudder (s : SG)  : SG := let v2 := bif m_cmp .ne (F_signFault_2 s) (-1) then (0 : Int32) else s 113 1; let z3 := itr (B_takeRudder_12 v2) 0 24 s; z3
set_option maxRecDepth 20000 in
set_option maxHeartbeats 200000 in
theorem fr_takeRudder (s : SG)   : Fr W_takeRudder s (F_takeRudder s) := by dsimp only [F_takeRudder]; exact (let v2 : Int32 := bif m_cmp .ne (F_signFault_2 s) (-1) then (0 : Int32) else s 113 1; (frItrB (W := W_takeRudder) (m := (fun x : SG => x)) (f := (B_takeRudder_12 v2)) 24 (fun ii aa hh => Fr.wk (W2 := W_takeRudder) (fr_B_takeRudder_12 v2 ii aa  hh) (by rfl)) 24 0 s (by omega) (Fr.rf _ _)))
set_option maxRecDepth 20000 in
set_option maxHeartbeats 200000 in
theorem ux_takeRudder (s : SG)   : UP m_X0_takeRudder 0 (m_ent 5 [.ref 10, .ref 113]) [] s (Qv (F_takeRudder s)) := by
  refine UP.stp 2 (i1 := 2) (L1 := [some (.ref 10), some (.ref 113), none, none, none]) (st1 := [.int 0, .ref 113]) (s1 := s) rfl ?_
  refine UP.cI (M1 := m_X4_signFault) (as := [.ref 113, .int 0]) (rest := []) (T := F_signFault_2 s ) rfl rfl (ux_signFault_2 s) ?_
  refine UP.stp 1 (i1 := 4) (L1 := [some (.ref 10), some (.ref 113), none, none, none]) (st1 := [.int (-1), .int (F_signFault_2 s)]) (s1 := s) rfl ?_
  refine mrg (m_cmp .ne (F_signFault_2 s) (-1)) (0 : Int32) (s 113 1) (fun v2 : Int32 => UP m_X0_takeRudder 9 [some (.ref 10), some (.ref 113), none, none, none] [.int v2] s (Qv (F_takeRudder s))) (fun cc kk => ?_) (fun cc kk => ?_) (fun v2 e2 => ?_)
  · skip
    refine UP.icT rfl cc ?_
    refine UP.stp 1 (i1 := 9) (L1 := [some (.ref 10), some (.ref 113), none, none, none]) (st1 := [.int 0]) (s1 := s) rfl ?_
    exact kk
  · skip
    refine UP.icF rfl cc ?_
    refine UP.stp 3 (i1 := 9) (L1 := [some (.ref 10), some (.ref 113), none, none, none]) (st1 := [.int (s 113 1)]) (s1 := s) rfl ?_
    exact kk
  refine UP.stp 3 (i1 := 12) (L1 := [some (.ref 10), some (.ref 113), some (.int v2), some (.int 0), none]) (st1 := []) (s1 := s) rfl ?_
  refine lp (fun (i3 : Nat) (a3 : SG) => ∀ (u3_4 : Option Value), UP m_X0_takeRudder 12 [some (.ref 10), some (.ref 113), some (.int v2), some (.int (Int32.ofNat i3)), u3_4] [] a3 (Qv (F_takeRudder s))) (fun (_ : Nat) (a3 : SG) => Fr W_takeRudder s a3) (B_takeRudder_12 v2) (24) (fun i3 a3 hi3 g3 => g3.tr (fr_B_takeRudder_12 v2 i3 a3 hi3)) (fun i3 a3 hi3 g3 kk => ?_) 24 (0) s (by  omega) (Fr.rf _ _) (fun z3 e3 g3 => ?_) none
  · skip
    intro u3_4
    refine UP.stp 2 (i1 := 14) (L1 := [some (.ref 10), some (.ref 113), some (.int v2), some (.int (Int32.ofNat i3)), u3_4]) (st1 := [.int 24, .int (Int32.ofNat i3)]) (s1 := a3) rfl ?_
    refine UP.icF rfl (ge_F (show i3 < (24 : Int32).toNatClampNeg from hi3)) ?_
    refine UP.stp 2 (i1 := 17) (L1 := [some (.ref 10), some (.ref 113), some (.int v2), some (.int (Int32.ofNat i3)), u3_4]) (st1 := [.int v2, .int (Int32.ofNat i3)]) (s1 := a3) rfl ?_
    refine mrg (m_cmp .ge (Int32.ofNat i3) v2) (45 : Int32) (a3 114 i3) (fun v4 : Int32 => UP m_X0_takeRudder 24 [some (.ref 10), some (.ref 113), some (.int v2), some (.int (Int32.ofNat i3)), u3_4] [.int v4] a3 (Qv (F_takeRudder s))) (fun cc kk => ?_) (fun cc kk => ?_) (fun v4 e4 => ?_)
    · skip
      refine UP.icT rfl cc ?_
      refine UP.stp 1 (i1 := 24) (L1 := [some (.ref 10), some (.ref 113), some (.int v2), some (.int (Int32.ofNat i3)), u3_4]) (st1 := [.int 45]) (s1 := a3) rfl ?_
      exact kk
    · skip
      refine UP.icF rfl cc ?_
      refine UP.stp 3 (i1 := 21) (L1 := [some (.ref 10), some (.ref 113), some (.int v2), some (.int (Int32.ofNat i3)), u3_4]) (st1 := [.int (Int32.ofNat i3), .ref 114]) (s1 := a3) rfl ?_
      refine UP.ald (e := i3) rfl rfl (by omega) ?_
      show UP m_X0_takeRudder 22 [some (.ref 10), some (.ref 113), some (.int v2), some (.int (Int32.ofNat i3)), u3_4] [.int (a3 114 i3)] a3 (Qv (F_takeRudder s))
      refine UP.stp 1 (i1 := 24) (L1 := [some (.ref 10), some (.ref 113), some (.int v2), some (.int (Int32.ofNat i3)), u3_4]) (st1 := [.int (a3 114 i3)]) (s1 := a3) rfl ?_
      exact kk
    refine UP.stp 6 (i1 := 30) (L1 := [some (.ref 10), some (.ref 113), some (.int v2), some (.int (Int32.ofNat i3)), some (.int v4)]) (st1 := [.int 108, .int v4, .int (Int32.ofNat i3), .ref 14]) (s1 := a3) rfl ?_
    refine mrg (m_cmp .ne v4 108) (bif m_cmp .ne v4 114 then (0 : Int32) else (2 : Int32)) (1 : Int32) (fun v6 : Int32 => UP m_X0_takeRudder 39 [some (.ref 10), some (.ref 113), some (.int v2), some (.int (Int32.ofNat i3)), some (.int v4)] [.int v6, .int (Int32.ofNat i3), .ref 14] a3 (Qv (F_takeRudder s))) (fun cc kk => ?_) (fun cc kk => ?_) (fun v6 e6 => ?_)
    · skip
      refine UP.icT rfl cc ?_
      refine UP.stp 2 (i1 := 35) (L1 := [some (.ref 10), some (.ref 113), some (.int v2), some (.int (Int32.ofNat i3)), some (.int v4)]) (st1 := [.int 114, .int v4, .int (Int32.ofNat i3), .ref 14]) (s1 := a3) rfl ?_
      refine mrg (m_cmp .ne v4 114) (0 : Int32) (2 : Int32) (fun v5 : Int32 => UP m_X0_takeRudder 39 [some (.ref 10), some (.ref 113), some (.int v2), some (.int (Int32.ofNat i3)), some (.int v4)] [.int v5, .int (Int32.ofNat i3), .ref 14] a3 (Qv (F_takeRudder s))) (fun cc kk => ?_) (fun cc kk => ?_) (fun v5 e5 => ?_)
      · skip
        refine UP.icT rfl cc ?_
        refine UP.stp 1 (i1 := 39) (L1 := [some (.ref 10), some (.ref 113), some (.int v2), some (.int (Int32.ofNat i3)), some (.int v4)]) (st1 := [.int 0, .int (Int32.ofNat i3), .ref 14]) (s1 := a3) rfl ?_
        exact kk
      · skip
        refine UP.icF rfl cc ?_
        refine UP.stp 2 (i1 := 39) (L1 := [some (.ref 10), some (.ref 113), some (.int v2), some (.int (Int32.ofNat i3)), some (.int v4)]) (st1 := [.int 2, .int (Int32.ofNat i3), .ref 14]) (s1 := a3) rfl ?_
        exact kk
      subst e5
      exact kk
    · skip
      refine UP.icF rfl cc ?_
      refine UP.stp 2 (i1 := 39) (L1 := [some (.ref 10), some (.ref 113), some (.int v2), some (.int (Int32.ofNat i3)), some (.int v4)]) (st1 := [.int 1, .int (Int32.ofNat i3), .ref 14]) (s1 := a3) rfl ?_
      exact kk
    refine UP.ast (e := i3) rfl rfl (by omega) ?_
    show UP m_X0_takeRudder 40 [some (.ref 10), some (.ref 113), some (.int v2), some (.int (Int32.ofNat i3)), some (.int v4)] [] (uset a3 14 i3 v6) (Qv (F_takeRudder s))
    refine UP.stp 2 (i1 := 12) (L1 := [some (.ref 10), some (.ref 113), some (.int v2), some (.int ((Int32.ofNat i3) + 1)), some (.int v4)]) (st1 := []) (s1 := (uset a3 14 i3 v6)) rfl ?_
    subst e6 e4
    rw [ofn_s]
    try dsimp only [B_takeRudder_12] at kk
    exact kk _
  intro u3_4
  refine UP.stp 2 (i1 := 14) (L1 := [some (.ref 10), some (.ref 113), some (.int v2), some (.int (Int32.ofNat 24)), u3_4]) (st1 := [.int 24, .int (Int32.ofNat 24)]) (s1 := z3) rfl ?_
  refine UP.icT rfl (ge_T (24 : Int32)) ?_
  exact UP.ret (r := none) rfl ⟨by subst e3 e2; first | (dsimp only [F_takeRudder]; done) | (dsimp only; done) | rfl, by subst e3 e2; first | (dsimp only [F_takeRudder]; done) | (dsimp only; done) | rfl⟩
def W_retell_0 : List (Nat × Nat × Option Nat) := [(10, 10, some 0), (11, 14, none), (0, 0, some 12), (0, 0, some 13), (109, 114, none)]
def F_retell_0 (s : SG)  : SG := let z1 := F_takeCrew s ; let z2 := F_mark z1 ; z2
set_option maxRecDepth 20000 in
set_option maxHeartbeats 200000 in
theorem fr_retell_0 (s : SG)   : Fr W_retell_0 s (F_retell_0 s) := by dsimp only [F_retell_0]; exact (let z1 : SG := F_takeCrew s ; (Fr.tr (s1 := z1) (Fr.tr (s1 := s) (Fr.rf _ _) (Fr.wk (W2 := W_retell_0) (fr_takeCrew s ) (by rfl))) (Fr.wk (W2 := W_retell_0) (fr_mark z1 ) (by rfl))))
set_option maxRecDepth 20000 in
set_option maxHeartbeats 200000 in
theorem ux_retell_0 (s : SG)   : UP m_X6_retell 0 (m_ent 2 [.ref 0, .int 0]) [] s (Qv (F_retell_0 s)) := by
  refine UP.stp 7 (i1 := 7) (L1 := [some (.ref 0), some (.int 0)]) (st1 := [.int 0, .ref 1, .ref 10]) (s1 := s) rfl ?_
  refine UP.aald (e := 0) (r := 109) rfl rfl (by omega) rfl ?_
  refine UP.cV (M1 := m_X0_takeCrew) (as := [.ref 10, .ref 109]) (rest := []) (T := F_takeCrew s ) rfl rfl (ux_takeCrew s ) (fun z1 e1 => ?_)
  refine UP.stp 2 (i1 := 29) (L1 := [some (.ref 0), some (.int 0)]) (st1 := [.ref 0]) (s1 := z1) rfl ?_
  refine UP.cV (M1 := m_X6_markChanged) (as := [.ref 0]) (rest := []) (T := F_mark z1 ) rfl rfl (ux_mark z1 ) (fun z2 e2 => ?_)
  exact UP.ret (r := none) rfl ⟨by subst e2 e1; first | (dsimp only [F_retell_0]; done) | (dsimp only; done) | rfl, by subst e2 e1; first | (dsimp only [F_retell_0]; done) | (dsimp only; done) | rfl⟩
