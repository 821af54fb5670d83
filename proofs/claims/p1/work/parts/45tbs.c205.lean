def W_takeCrew : List (Nat × Nat × Option Nat) := [(11, 12, none), (10, 10, some 0)]
def WL_takeCrew : List (Nat × Nat × Option Nat) := [(11, 12, none)]
def B_takeCrew_16  (i3 : Nat) (a3 : SG) : SG := let v4 := a3 110 ((3 * (Int32.ofNat i3)).toNatClampNeg); let v6 := bif m_cmp .ne v4 115 then (bif m_cmp .ne v4 102 then (2 : Int32) else (1 : Int32)) else (0 : Int32); let v7 := (a3 110 (((3 * (Int32.ofNat i3)) + 1).toNatClampNeg)) - 48; (uset (uset a3 11 i3 v6) 12 i3 v7)
set_option maxRecDepth 20000 in
set_option maxHeartbeats 200000 in
theorem fr_B_takeCrew_16  (i3 : Nat) (a3 : SG)   : Fr WL_takeCrew a3 ((B_takeCrew_16) i3 a3) := by dsimp only [B_takeCrew_16]; exact (let v4 : Int32 := a3 110 ((3 * (Int32.ofNat i3)).toNatClampNeg); (let v6 : Int32 := bif m_cmp .ne v4 115 then (bif m_cmp .ne v4 102 then (2 : Int32) else (1 : Int32)) else (0 : Int32); (let v7 : Int32 := (a3 110 (((3 * (Int32.ofNat i3)) + 1).toNatClampNeg)) - 48; (Fr.uset (s1 := (uset a3 11 i3 v6)) (a := 12) (j := i3) (x := v7) (by rfl) (Fr.uset (s1 := a3) (a := 11) (j := i3) (x := v6) (by rfl) (Fr.rf _ _))))))
def F_takeCrew (s : SG)  : SG := let v2 := bif m_cmp .ne (F_crewFault s) (-1) then (0 : Int32) else ((s 109 1) + 1) / 3; let z3 := itr (B_takeCrew_16) 0 (((uset s 10 0 v2) 10 0).toNatClampNeg) (uset s 10 0 v2); z3
set_option maxRecDepth 20000 in
set_option maxHeartbeats 200000 in
theorem fr_takeCrew (s : SG)   : Fr W_takeCrew s (F_takeCrew s) := by dsimp only [F_takeCrew]; exact (let v2 : Int32 := bif m_cmp .ne (F_crewFault s) (-1) then (0 : Int32) else ((s 109 1) + 1) / 3; (Fr.itr (W := W_takeCrew) (m := (fun x : SG => x)) (f := (B_takeCrew_16)) (fun ii aa => Fr.wk (W2 := W_takeCrew) (fr_B_takeCrew_16  ii aa ) (by rfl)) (((uset s 10 0 v2) 10 0).toNatClampNeg) 0 (uset s 10 0 v2) (Fr.uset (s1 := s) (a := 10) (j := 0) (x := v2) (by rfl) (Fr.rf _ _))))
set_option maxRecDepth 20000 in
set_option maxHeartbeats 200000 in
theorem ux_takeCrew (s : SG)   : UP m_X0_takeCrew 0 (m_ent 4 [.ref 10, .ref 109]) [] s (Qv (F_takeCrew s)) := by
  refine UP.stp 2 (i1 := 2) (L1 := [some (.ref 10), some (.ref 109), none, none]) (st1 := [.ref 109, .ref 10]) (s1 := s) rfl ?_
  refine UP.cI (M1 := m_X4_crewFault) (as := [.ref 109]) (rest := [.ref 10]) (T := F_crewFault s ) rfl rfl (ux_crewFault s ) ?_
  refine UP.stp 1 (i1 := 4) (L1 := [some (.ref 10), some (.ref 109), none, none]) (st1 := [.int (-1), .int (F_crewFault s), .ref 10]) (s1 := s) rfl ?_
  refine mrg (m_cmp .ne (F_crewFault s) (-1)) (0 : Int32) (((s 109 1) + 1) / 3) (fun v2 : Int32 => UP m_X0_takeCrew 13 [some (.ref 10), some (.ref 109), none, none] [.int v2, .ref 10] s (Qv (F_takeCrew s))) (fun cc kk => ?_) (fun cc kk => ?_) (fun v2 e2 => ?_)
  · skip
    refine UP.icT rfl cc ?_
    refine UP.stp 1 (i1 := 13) (L1 := [some (.ref 10), some (.ref 109), none, none]) (st1 := [.int 0, .ref 10]) (s1 := s) rfl ?_
    exact kk
  · skip
    refine UP.icF rfl cc ?_
    refine UP.stp 7 (i1 := 13) (L1 := [some (.ref 10), some (.ref 109), none, none]) (st1 := [.int (((s 109 1) + 1) / 3), .ref 10]) (s1 := s) rfl ?_
    exact kk
  refine UP.stp 3 (i1 := 16) (L1 := [some (.ref 10), some (.ref 109), some (.int 0), none]) (st1 := []) (s1 := (uset s 10 0 v2)) rfl ?_
  refine lp (fun (i3 : Nat) (a3 : SG) => ∀ (u3_3 : Option Value), UP m_X0_takeCrew 16 [some (.ref 10), some (.ref 109), some (.int (Int32.ofNat i3)), u3_3] [] a3 (Qv (F_takeCrew s))) (fun (_ : Nat) (a3 : SG) => Fr WL_takeCrew (uset s 10 0 v2) a3) (B_takeCrew_16) (((uset s 10 0 v2) 10 0).toNatClampNeg) (fun i3 a3 hi3 g3 => g3.tr (fr_B_takeCrew_16  i3 a3 )) (fun i3 a3 hi3 g3 kk => ?_) (((uset s 10 0 v2) 10 0).toNatClampNeg) (0) (uset s 10 0 v2) (by  omega) (Fr.rf _ _) (fun z3 e3 g3 => ?_) none
  · skip
    intro u3_3
    have hbi3 := cl_lt ((uset s 10 0 v2) 10 0)
    refine UP.stp 3 (i1 := 19) (L1 := [some (.ref 10), some (.ref 109), some (.int (Int32.ofNat i3)), u3_3]) (st1 := [.int (a3 10 0), .int (Int32.ofNat i3)]) (s1 := a3) rfl ?_
    refine UP.icF rfl (by rw [(g3 10 0 rfl)]; exact ge_F hi3) ?_
    refine UP.stp 6 (i1 := 26) (L1 := [some (.ref 10), some (.ref 109), some (.int (Int32.ofNat i3)), u3_3]) (st1 := [.int (a3 110 ((3 * (Int32.ofNat i3)).toNatClampNeg))]) (s1 := a3) rfl ?_
    refine nm (G := fun v4 => UP m_X0_takeCrew 26 [some (.ref 10), some (.ref 109), some (.int (Int32.ofNat i3)), u3_3] [.int v4] a3 (Qv (F_takeCrew s))) (a3 110 ((3 * (Int32.ofNat i3)).toNatClampNeg)) (fun v4 e4 => ?_)
    refine UP.stp 6 (i1 := 32) (L1 := [some (.ref 10), some (.ref 109), some (.int (Int32.ofNat i3)), some (.int v4)]) (st1 := [.int 115, .int v4, .int (Int32.ofNat i3), .ref 11]) (s1 := a3) rfl ?_
    refine mrg (m_cmp .ne v4 115) (bif m_cmp .ne v4 102 then (2 : Int32) else (1 : Int32)) (0 : Int32) (fun v6 : Int32 => UP m_X0_takeCrew 41 [some (.ref 10), some (.ref 109), some (.int (Int32.ofNat i3)), some (.int v4)] [.int v6, .int (Int32.ofNat i3), .ref 11] a3 (Qv (F_takeCrew s))) (fun cc kk => ?_) (fun cc kk => ?_) (fun v6 e6 => ?_)
    · skip
      refine UP.icT rfl cc ?_
      refine UP.stp 2 (i1 := 37) (L1 := [some (.ref 10), some (.ref 109), some (.int (Int32.ofNat i3)), some (.int v4)]) (st1 := [.int 102, .int v4, .int (Int32.ofNat i3), .ref 11]) (s1 := a3) rfl ?_
      refine mrg (m_cmp .ne v4 102) (2 : Int32) (1 : Int32) (fun v5 : Int32 => UP m_X0_takeCrew 41 [some (.ref 10), some (.ref 109), some (.int (Int32.ofNat i3)), some (.int v4)] [.int v5, .int (Int32.ofNat i3), .ref 11] a3 (Qv (F_takeCrew s))) (fun cc kk => ?_) (fun cc kk => ?_) (fun v5 e5 => ?_)
      · skip
        refine UP.icT rfl cc ?_
        refine UP.stp 1 (i1 := 41) (L1 := [some (.ref 10), some (.ref 109), some (.int (Int32.ofNat i3)), some (.int v4)]) (st1 := [.int 2, .int (Int32.ofNat i3), .ref 11]) (s1 := a3) rfl ?_
        exact kk
      · skip
        refine UP.icF rfl cc ?_
        refine UP.stp 2 (i1 := 41) (L1 := [some (.ref 10), some (.ref 109), some (.int (Int32.ofNat i3)), some (.int v4)]) (st1 := [.int 1, .int (Int32.ofNat i3), .ref 11]) (s1 := a3) rfl ?_
        exact kk
      subst e5
      exact kk
    · skip
      refine UP.icF rfl cc ?_
      refine UP.stp 2 (i1 := 41) (L1 := [some (.ref 10), some (.ref 109), some (.int (Int32.ofNat i3)), some (.int v4)]) (st1 := [.int 0, .int (Int32.ofNat i3), .ref 11]) (s1 := a3) rfl ?_
      exact kk
    refine UP.ast (e := i3) rfl rfl (by omega) ?_
    show UP m_X0_takeCrew 42 [some (.ref 10), some (.ref 109), some (.int (Int32.ofNat i3)), some (.int v4)] [] (uset a3 11 i3 v6) (Qv (F_takeCrew s))
    refine UP.stp 13 (i1 := 55) (L1 := [some (.ref 10), some (.ref 109), some (.int (Int32.ofNat i3)), some (.int v4)]) (st1 := [.int ((a3 110 (((3 * (Int32.ofNat i3)) + 1).toNatClampNeg)) - 48), .int (Int32.ofNat i3), .ref 12]) (s1 := (uset a3 11 i3 v6)) rfl ?_
    refine nm (G := fun v7 => UP m_X0_takeCrew 55 [some (.ref 10), some (.ref 109), some (.int (Int32.ofNat i3)), some (.int v4)] [.int v7, .int (Int32.ofNat i3), .ref 12] (uset a3 11 i3 v6) (Qv (F_takeCrew s))) ((a3 110 (((3 * (Int32.ofNat i3)) + 1).toNatClampNeg)) - 48) (fun v7 e7 => ?_)
    refine UP.ast (e := i3) rfl rfl (by omega) ?_
    show UP m_X0_takeCrew 56 [some (.ref 10), some (.ref 109), some (.int (Int32.ofNat i3)), some (.int v4)] [] (uset (uset a3 11 i3 v6) 12 i3 v7) (Qv (F_takeCrew s))
    refine UP.stp 2 (i1 := 16) (L1 := [some (.ref 10), some (.ref 109), some (.int ((Int32.ofNat i3) + 1)), some (.int v4)]) (st1 := []) (s1 := (uset (uset a3 11 i3 v6) 12 i3 v7)) rfl ?_
    subst e7 e6 e4
    rw [ofn_s]
    try dsimp only [B_takeCrew_16] at kk
    exact kk _
  intro u3_3
  refine UP.stp 3 (i1 := 19) (L1 := [some (.ref 10), some (.ref 109), some (.int (Int32.ofNat (((uset s 10 0 v2) 10 0).toNatClampNeg))), u3_3]) (st1 := [.int (z3 10 0), .int (Int32.ofNat (((uset s 10 0 v2) 10 0).toNatClampNeg))]) (s1 := z3) rfl ?_
  refine UP.icT rfl (by rw [(g3 10 0 rfl)]; exact ge_T _) ?_
  exact UP.ret (r := none) rfl ⟨by subst e3 e2; first | (dsimp only [F_takeCrew]; done) | (dsimp only; done) | rfl, by subst e3 e2; first | (dsimp only [F_takeCrew]; done) | (dsimp only; done) | rfl⟩
