def W_callOf : List (Nat × Nat × Option Nat) := [(126, 129, none), (123, 123, some 2), (123, 123, some 5), (123, 123, some 7)]
def F_callOf (s : SG) (minute : Int32) (what : Int32) : Int32 × SG := let z1 := F_reads s ; let v2 := bif m_cmp .ne what 0 then z1 129 minute.toNatClampNeg else z1 128 minute.toNatClampNeg; (v2, z1)
theorem fr_callOf (s : SG) (minute : Int32) (what : Int32)  : Fr W_callOf s (F_callOf s minute what).2 := by dsimp only [F_callOf]; exact (Fr.tr (s1 := s) (Fr.rf _ _) (Fr.wk (W2 := W_callOf) (fr_reads s ) (by rfl)))
theorem ux_callOf (s : SG) (minute : Int32) (what : Int32)  : UP m_X7_callOf 0 (m_ent 3 [.ref 123, .int minute, .int what]) [] s (Qb (F_callOf s minute what)) := by
  refine UP.stp 1 (i1 := 1) (L1 := [some (.ref 123), some (.int minute), some (.int what)]) (st1 := [.ref 123]) (s1 := s) rfl ?_
  refine UP.cV (M1 := m_X7_reads) (as := [.ref 123]) (rest := []) (T := F_reads s ) rfl rfl (ux_reads s ) (fun z1 e1 => ?_)
  refine UP.stp 1 (i1 := 3) (L1 := [some (.ref 123), some (.int minute), some (.int what)]) (st1 := [.int what]) (s1 := z1) rfl ?_
  refine mrg (m_cmp .ne what 0) (z1 129 minute.toNatClampNeg) (z1 128 minute.toNatClampNeg) (fun v2 : Int32 => UP m_X7_callOf 13 [some (.ref 123), some (.int minute), some (.int what)] [.int v2] z1 (Qb (F_callOf s minute what))) (fun cc kk => ?_) (fun cc kk => ?_) (fun v2 e2 => ?_)
  · skip
    refine UP.ifT rfl cc ?_
    refine UP.stp 4 (i1 := 13) (L1 := [some (.ref 123), some (.int minute), some (.int what)]) (st1 := [.int (z1 129 minute.toNatClampNeg)]) (s1 := z1) rfl ?_
    exact kk
  · skip
    refine UP.ifF rfl cc ?_
    refine UP.stp 5 (i1 := 13) (L1 := [some (.ref 123), some (.int minute), some (.int what)]) (st1 := [.int (z1 128 minute.toNatClampNeg)]) (s1 := z1) rfl ?_
    exact kk
  exact UP.ret (r := some (.int v2)) rfl ⟨by subst e2 e1; rfl, by subst e2 e1; rfl⟩
