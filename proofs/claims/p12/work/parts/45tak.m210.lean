def W_rowerOf : List (Nat × Nat × Option Nat) := []
def F_rowerOf (s : SG) (k : Int32) (what : Int32) : Int32 := let v1 := bif m_cmp .ne what 0 then s 127 k.toNatClampNeg else s 126 k.toNatClampNeg; v1
theorem ux_rowerOf (s : SG) (k : Int32) (what : Int32)  : UP m_X7_rowerOf 0 (m_ent 3 [.ref 123, .int k, .int what]) [] s (Qi s (F_rowerOf s k what)) := by
  refine UP.stp 1 (i1 := 1) (L1 := [some (.ref 123), some (.int k), some (.int what)]) (st1 := [.int what]) (s1 := s) rfl ?_
  refine mrg (m_cmp .ne what 0) (s 127 k.toNatClampNeg) (s 126 k.toNatClampNeg) (fun v1 : Int32 => UP m_X7_rowerOf 11 [some (.ref 123), some (.int k), some (.int what)] [.int v1] s (Qi s (F_rowerOf s k what))) (fun cc kk => ?_) (fun cc kk => ?_) (fun v1 e1 => ?_)
  · skip
    refine UP.ifT rfl cc ?_
    refine UP.stp 4 (i1 := 11) (L1 := [some (.ref 123), some (.int k), some (.int what)]) (st1 := [.int (s 127 k.toNatClampNeg)]) (s1 := s) rfl ?_
    exact kk
  · skip
    refine UP.ifF rfl cc ?_
    refine UP.stp 5 (i1 := 11) (L1 := [some (.ref 123), some (.int k), some (.int what)]) (st1 := [.int (s 126 k.toNatClampNeg)]) (s1 := s) rfl ?_
    exact kk
  exact UP.ret (r := some (.int v1)) rfl ⟨by subst e1; rfl, by subst e1; rfl⟩
