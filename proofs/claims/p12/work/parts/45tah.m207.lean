def W_faultOf : List (Nat × Nat × Option Nat) := [(126, 129, none), (123, 123, some 2), (123, 123, some 5), (123, 123, some 7)]
def F_faultOf (s : SG) (text : Int32) : Int32 × SG := let z1 := F_readsCrew s ; let z2 := F_readsRates z1.2 ; let z3 := F_readsRudder z2.2 ; let v5 := bif m_cmp .ne text 0 then (bif m_cmp .ne text 1 then z3.1 else z2.1) else z1.1; (v5, z3.2)
theorem fr_faultOf (s : SG) (text : Int32)  : Fr W_faultOf s (F_faultOf s text).2 := by dsimp only [F_faultOf]; exact (let z1 : Int32 × SG := F_readsCrew s ; (let z2 : Int32 × SG := F_readsRates z1.2 ; (Fr.tr (s1 := z2.2) (Fr.tr (s1 := z1.2) (Fr.tr (s1 := s) (Fr.rf _ _) (Fr.wk (W2 := W_faultOf) (fr_readsCrew s ) (by rfl))) (Fr.wk (W2 := W_faultOf) (fr_readsRates z1.2 ) (by rfl))) (Fr.wk (W2 := W_faultOf) (fr_readsRudder z2.2 ) (by rfl)))))
theorem ux_faultOf (s : SG) (text : Int32)  : UP m_X7_faultOf 0 (m_ent 5 [.ref 123, .int text]) [] s (Qb (F_faultOf s text)) := by
  refine UP.stp 1 (i1 := 1) (L1 := [some (.ref 123), some (.int text), none, none, none]) (st1 := [.ref 123]) (s1 := s) rfl ?_
  refine UP.cB (M1 := m_X7_readsCrew) (as := [.ref 123]) (rest := []) (T := F_readsCrew s ) rfl rfl (ux_readsCrew s ) (fun z1 e1 => ?_)
  refine UP.stp 2 (i1 := 4) (L1 := [some (.ref 123), some (.int text), some (.int z1.1), none, none]) (st1 := [.ref 123]) (s1 := z1.2) rfl ?_
  refine UP.cB (M1 := m_X7_readsRates) (as := [.ref 123]) (rest := []) (T := F_readsRates z1.2 ) rfl rfl (ux_readsRates z1.2 ) (fun z2 e2 => ?_)
  refine UP.stp 2 (i1 := 7) (L1 := [some (.ref 123), some (.int text), some (.int z1.1), some (.int z2.1), none]) (st1 := [.ref 123]) (s1 := z2.2) rfl ?_
  refine UP.cB (M1 := m_X7_readsRudder) (as := [.ref 123]) (rest := []) (T := F_readsRudder z2.2 ) rfl rfl (ux_readsRudder z2.2 ) (fun z3 e3 => ?_)
  refine UP.stp 2 (i1 := 10) (L1 := [some (.ref 123), some (.int text), some (.int z1.1), some (.int z2.1), some (.int z3.1)]) (st1 := [.int text]) (s1 := z3.2) rfl ?_
  refine mrg (m_cmp .ne text 0) (bif m_cmp .ne text 1 then z3.1 else z2.1) z1.1 (fun v5 : Int32 => UP m_X7_faultOf 19 [some (.ref 123), some (.int text), some (.int z1.1), some (.int z2.1), some (.int z3.1)] [.int v5] z3.2 (Qb (F_faultOf s text))) (fun cc kk => ?_) (fun cc kk => ?_) (fun v5 e5 => ?_)
  · skip
    refine UP.ifT rfl cc ?_
    refine UP.stp 2 (i1 := 15) (L1 := [some (.ref 123), some (.int text), some (.int z1.1), some (.int z2.1), some (.int z3.1)]) (st1 := [.int 1, .int text]) (s1 := z3.2) rfl ?_
    refine mrg (m_cmp .ne text 1) z3.1 z2.1 (fun v4 : Int32 => UP m_X7_faultOf 19 [some (.ref 123), some (.int text), some (.int z1.1), some (.int z2.1), some (.int z3.1)] [.int v4] z3.2 (Qb (F_faultOf s text))) (fun cc kk => ?_) (fun cc kk => ?_) (fun v4 e4 => ?_)
    · skip
      refine UP.icT rfl cc ?_
      refine UP.stp 1 (i1 := 19) (L1 := [some (.ref 123), some (.int text), some (.int z1.1), some (.int z2.1), some (.int z3.1)]) (st1 := [.int z3.1]) (s1 := z3.2) rfl ?_
      exact kk
    · skip
      refine UP.icF rfl cc ?_
      refine UP.stp 2 (i1 := 19) (L1 := [some (.ref 123), some (.int text), some (.int z1.1), some (.int z2.1), some (.int z3.1)]) (st1 := [.int z2.1]) (s1 := z3.2) rfl ?_
      exact kk
    subst e4
    exact kk
  · skip
    refine UP.ifF rfl cc ?_
    refine UP.stp 2 (i1 := 19) (L1 := [some (.ref 123), some (.int text), some (.int z1.1), some (.int z2.1), some (.int z3.1)]) (st1 := [.int z1.1]) (s1 := z3.2) rfl ?_
    exact kk
  exact UP.ret (r := some (.int v5)) rfl ⟨by subst e5 e3 e2 e1; rfl, by subst e5 e3 e2 e1; rfl⟩
