def W_rower : List (Nat × Nat × Option Nat) := [(126, 129, none), (123, 123, some 2), (123, 123, some 5), (123, 123, some 7)]
def F_rower (s : SG) (seat : Int32) (what : Int32) : Int32 × SG := let z1 := F_isRower s seat; let v5 := bif m_cmp .eq z1.1 0 then (-2 : Int32) else (bif m_cmp .eq (F_isTwo z1.2 what) 0 then (-2 : Int32) else F_rowerOf z1.2 seat what); (v5, z1.2)
theorem fr_rower (s : SG) (seat : Int32) (what : Int32)  : Fr W_rower s (F_rower s seat what).2 := by dsimp only [F_rower]; exact (Fr.tr (s1 := s) (Fr.rf _ _) (Fr.wk (W2 := W_rower) (fr_isRower s seat) (by rfl)))
theorem ux_rower (s : SG) (seat : Int32) (what : Int32)  : UP m_X7_rower 0 (m_ent 3 [.ref 123, .int seat, .int what]) [] s (Qb (F_rower s seat what)) := by
  refine UP.stp 2 (i1 := 2) (L1 := [some (.ref 123), some (.int seat), some (.int what)]) (st1 := [.int seat, .ref 123]) (s1 := s) rfl ?_
  refine UP.cB (M1 := m_X7_isRower) (as := [.ref 123, .int seat]) (rest := []) (T := F_isRower s seat) rfl rfl (ux_isRower s seat) (fun z1 e1 => ?_)
  refine mrg (m_cmp .eq z1.1 0) (-2 : Int32) (bif m_cmp .eq (F_isTwo z1.2 what) 0 then (-2 : Int32) else F_rowerOf z1.2 seat what) (fun v5 : Int32 => UP m_X7_rower 13 [some (.ref 123), some (.int seat), some (.int what)] [.int v5] z1.2 (Qb (F_rower s seat what))) (fun cc kk => ?_) (fun cc kk => ?_) (fun v5 e5 => ?_)
  · skip
    refine UP.ifT rfl cc ?_
    refine UP.stp 1 (i1 := 13) (L1 := [some (.ref 123), some (.int seat), some (.int what)]) (st1 := [.int (-2)]) (s1 := z1.2) rfl ?_
    exact kk
  · skip
    refine UP.ifF rfl cc ?_
    refine UP.stp 1 (i1 := 5) (L1 := [some (.ref 123), some (.int seat), some (.int what)]) (st1 := [.int what]) (s1 := z1.2) rfl ?_
    refine UP.cI (M1 := m_X7_isTwo) (as := [.int what]) (rest := []) (T := F_isTwo z1.2 what) rfl rfl (ux_isTwo z1.2 what) ?_
    refine mrg (m_cmp .eq (F_isTwo z1.2 what) 0) (-2 : Int32) (F_rowerOf z1.2 seat what) (fun v4 : Int32 => UP m_X7_rower 13 [some (.ref 123), some (.int seat), some (.int what)] [.int v4] z1.2 (Qb (F_rower s seat what))) (fun cc kk => ?_) (fun cc kk => ?_) (fun v4 e4 => ?_)
    · skip
      refine UP.ifT rfl cc ?_
      refine UP.stp 1 (i1 := 13) (L1 := [some (.ref 123), some (.int seat), some (.int what)]) (st1 := [.int (-2)]) (s1 := z1.2) rfl ?_
      exact kk
    · skip
      refine UP.ifF rfl cc ?_
      refine UP.stp 3 (i1 := 10) (L1 := [some (.ref 123), some (.int seat), some (.int what)]) (st1 := [.int what, .int seat, .ref 123]) (s1 := z1.2) rfl ?_
      refine UP.cI (M1 := m_X7_rowerOf) (as := [.ref 123, .int seat, .int what]) (rest := []) (T := F_rowerOf z1.2 seat what) rfl rfl (ux_rowerOf z1.2 seat what) ?_
      refine UP.stp 1 (i1 := 13) (L1 := [some (.ref 123), some (.int seat), some (.int what)]) (st1 := [.int (F_rowerOf z1.2 seat what)]) (s1 := z1.2) rfl ?_
      exact kk
    subst e4
    exact kk
  exact UP.ret (r := some (.int v5)) rfl ⟨by subst e5 e1; rfl, by subst e5 e1; rfl⟩
