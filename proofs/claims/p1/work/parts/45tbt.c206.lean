def W_takeRates : List (Nat × Nat × Option Nat) := [(13, 13, none)]
def B_takeRates_12 (v2 : Int32) (i3 : Nat) (a3 : SG) : SG := let v4 := bif m_cmp .ge (Int32.ofNat i3) v2 then (2 : Int32) else (a3 112 i3) - 48; (uset a3 13 i3 v4)
set_option maxRecDepth 20000 in
set_option maxHeartbeats 200000 in
theorem fr_B_takeRates_12 (v2 : Int32) (i3 : Nat) (a3 : SG)  (hi3 : i3 < 24) : Fr W_takeRates a3 ((B_takeRates_12 v2) i3 a3) := by dsimp only [B_takeRates_12]; exact (let v4 : Int32 := bif m_cmp .ge (Int32.ofNat i3) v2 then (2 : Int32) else (a3 112 i3) - 48; (Fr.uset (s1 := a3) (a := 13) (j := i3) (x := v4) (by rfl) (Fr.rf _ _)))
def F_takeRates (s : SG)  : SG := let v2 := bif m_cmp .ne (F_signFault_1 s) (-1) then (0 : Int32) else s 111 1; let z3 := itr (B_takeRates_12 v2) 0 24 s; z3
set_option maxRecDepth 20000 in
set_option maxHeartbeats 200000 in
theorem fr_takeRates (s : SG)   : Fr W_takeRates s (F_takeRates s) := by dsimp only [F_takeRates]; exact (let v2 : Int32 := bif m_cmp .ne (F_signFault_1 s) (-1) then (0 : Int32) else s 111 1; (frItrB (W := W_takeRates) (m := (fun x : SG => x)) (f := (B_takeRates_12 v2)) 24 (fun ii aa hh => Fr.wk (W2 := W_takeRates) (fr_B_takeRates_12 v2 ii aa  hh) (by rfl)) 24 0 s (by omega) (Fr.rf _ _)))
set_option maxRecDepth 20000 in
set_option maxHeartbeats 200000 in
theorem ux_takeRates (s : SG)   : UP m_X0_takeRates 0 (m_ent 4 [.ref 10, .ref 111]) [] s (Qv (F_takeRates s)) := by
  refine UP.stp 2 (i1 := 2) (L1 := [some (.ref 10), some (.ref 111), none, none]) (st1 := [.int 1, .ref 111]) (s1 := s) rfl ?_
  refine UP.cI (M1 := m_X4_signFault) (as := [.ref 111, .int 1]) (rest := []) (T := F_signFault_1 s ) rfl rfl (ux_signFault_1 s) ?_
  refine UP.stp 1 (i1 := 4) (L1 := [some (.ref 10), some (.ref 111), none, none]) (st1 := [.int (-1), .int (F_signFault_1 s)]) (s1 := s) rfl ?_
  refine mrg (m_cmp .ne (F_signFault_1 s) (-1)) (0 : Int32) (s 111 1) (fun v2 : Int32 => UP m_X0_takeRates 9 [some (.ref 10), some (.ref 111), none, none] [.int v2] s (Qv (F_takeRates s))) (fun cc kk => ?_) (fun cc kk => ?_) (fun v2 e2 => ?_)
  · skip
    refine UP.icT rfl cc ?_
    refine UP.stp 1 (i1 := 9) (L1 := [some (.ref 10), some (.ref 111), none, none]) (st1 := [.int 0]) (s1 := s) rfl ?_
    exact kk
  · skip
    refine UP.icF rfl cc ?_
    refine UP.stp 3 (i1 := 9) (L1 := [some (.ref 10), some (.ref 111), none, none]) (st1 := [.int (s 111 1)]) (s1 := s) rfl ?_
    exact kk
  refine UP.stp 3 (i1 := 12) (L1 := [some (.ref 10), some (.ref 111), some (.int v2), some (.int 0)]) (st1 := []) (s1 := s) rfl ?_
  refine lp (fun (i3 : Nat) (a3 : SG) => UP m_X0_takeRates 12 [some (.ref 10), some (.ref 111), some (.int v2), some (.int (Int32.ofNat i3))] [] a3 (Qv (F_takeRates s))) (fun (_ : Nat) (a3 : SG) => Fr W_takeRates s a3) (B_takeRates_12 v2) (24) (fun i3 a3 hi3 g3 => g3.tr (fr_B_takeRates_12 v2 i3 a3 hi3)) (fun i3 a3 hi3 g3 kk => ?_) 24 (0) s (by  omega) (Fr.rf _ _) (fun z3 e3 g3 => ?_)
  · skip
    refine UP.stp 2 (i1 := 14) (L1 := [some (.ref 10), some (.ref 111), some (.int v2), some (.int (Int32.ofNat i3))]) (st1 := [.int 24, .int (Int32.ofNat i3)]) (s1 := a3) rfl ?_
    refine UP.icF rfl (ge_F (show i3 < (24 : Int32).toNatClampNeg from hi3)) ?_
    refine UP.stp 5 (i1 := 20) (L1 := [some (.ref 10), some (.ref 111), some (.int v2), some (.int (Int32.ofNat i3))]) (st1 := [.int v2, .int (Int32.ofNat i3), .int (Int32.ofNat i3), .ref 13]) (s1 := a3) rfl ?_
    refine mrg (m_cmp .ge (Int32.ofNat i3) v2) (2 : Int32) ((a3 112 i3) - 48) (fun v4 : Int32 => UP m_X0_takeRates 29 [some (.ref 10), some (.ref 111), some (.int v2), some (.int (Int32.ofNat i3))] [.int v4, .int (Int32.ofNat i3), .ref 13] a3 (Qv (F_takeRates s))) (fun cc kk => ?_) (fun cc kk => ?_) (fun v4 e4 => ?_)
    · skip
      refine UP.icT rfl cc ?_
      refine UP.stp 1 (i1 := 29) (L1 := [some (.ref 10), some (.ref 111), some (.int v2), some (.int (Int32.ofNat i3))]) (st1 := [.int 2, .int (Int32.ofNat i3), .ref 13]) (s1 := a3) rfl ?_
      exact kk
    · skip
      refine UP.icF rfl cc ?_
      refine UP.stp 3 (i1 := 24) (L1 := [some (.ref 10), some (.ref 111), some (.int v2), some (.int (Int32.ofNat i3))]) (st1 := [.int (Int32.ofNat i3), .ref 112, .int (Int32.ofNat i3), .ref 13]) (s1 := a3) rfl ?_
      refine UP.ald (e := i3) rfl rfl (by omega) ?_
      show UP m_X0_takeRates 25 [some (.ref 10), some (.ref 111), some (.int v2), some (.int (Int32.ofNat i3))] [.int (a3 112 i3), .int (Int32.ofNat i3), .ref 13] a3 (Qv (F_takeRates s))
      refine UP.stp 3 (i1 := 29) (L1 := [some (.ref 10), some (.ref 111), some (.int v2), some (.int (Int32.ofNat i3))]) (st1 := [.int ((a3 112 i3) - 48), .int (Int32.ofNat i3), .ref 13]) (s1 := a3) rfl ?_
      exact kk
    refine UP.ast (e := i3) rfl rfl (by omega) ?_
    show UP m_X0_takeRates 30 [some (.ref 10), some (.ref 111), some (.int v2), some (.int (Int32.ofNat i3))] [] (uset a3 13 i3 v4) (Qv (F_takeRates s))
    refine UP.stp 2 (i1 := 12) (L1 := [some (.ref 10), some (.ref 111), some (.int v2), some (.int ((Int32.ofNat i3) + 1))]) (st1 := []) (s1 := (uset a3 13 i3 v4)) rfl ?_
    subst e4
    rw [ofn_s]
    try dsimp only [B_takeRates_12] at kk
    exact kk
  refine UP.stp 2 (i1 := 14) (L1 := [some (.ref 10), some (.ref 111), some (.int v2), some (.int (Int32.ofNat 24))]) (st1 := [.int 24, .int (Int32.ofNat 24)]) (s1 := z3) rfl ?_
  refine UP.icT rfl (ge_T (24 : Int32)) ?_
  exact UP.ret (r := none) rfl ⟨by subst e3 e2; first | (dsimp only [F_takeRates]; done) | (dsimp only; done) | rfl, by subst e3 e2; first | (dsimp only [F_takeRates]; done) | (dsimp only; done) | rfl⟩
