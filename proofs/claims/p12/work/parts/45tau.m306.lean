def W_ofRow : List (Nat × Nat × Option Nat) := []
def F_ofRow (s : SG) (n : Int32) (i : Int32) : Int32 := let v2 := bif m_cmp .ne i (-1) then (bif m_cmp .ge i n then (-1 : Int32) else s 144 i.toNatClampNeg) else n; v2
theorem ux_ofRow (s : SG) (n : Int32) (i : Int32)  : UP m_X7_ofRow 0 (m_ent 3 [.ref 123, .int n, .int i]) [] s (Qi s (F_ofRow s n i)) := by
  refine UP.stp 2 (i1 := 2) (L1 := [some (.ref 123), some (.int n), some (.int i)]) (st1 := [.int (-1), .int i]) (s1 := s) rfl ?_
  refine mrg (m_cmp .ne i (-1)) (bif m_cmp .ge i n then (-1 : Int32) else s 144 i.toNatClampNeg) n (fun v2 : Int32 => UP m_X7_ofRow 14 [some (.ref 123), some (.int n), some (.int i)] [.int v2] s (Qi s (F_ofRow s n i))) (fun cc kk => ?_) (fun cc kk => ?_) (fun v2 e2 => ?_)
  · skip
    refine UP.icT rfl cc ?_
    refine UP.stp 2 (i1 := 7) (L1 := [some (.ref 123), some (.int n), some (.int i)]) (st1 := [.int n, .int i]) (s1 := s) rfl ?_
    refine mrg (m_cmp .ge i n) (-1 : Int32) (s 144 i.toNatClampNeg) (fun v1 : Int32 => UP m_X7_ofRow 14 [some (.ref 123), some (.int n), some (.int i)] [.int v1] s (Qi s (F_ofRow s n i))) (fun cc kk => ?_) (fun cc kk => ?_) (fun v1 e1 => ?_)
    · skip
      refine UP.icT rfl cc ?_
      refine UP.stp 1 (i1 := 14) (L1 := [some (.ref 123), some (.int n), some (.int i)]) (st1 := [.int (-1)]) (s1 := s) rfl ?_
      exact kk
    · skip
      refine UP.icF rfl cc ?_
      refine UP.stp 5 (i1 := 14) (L1 := [some (.ref 123), some (.int n), some (.int i)]) (st1 := [.int (s 144 i.toNatClampNeg)]) (s1 := s) rfl ?_
      exact kk
    subst e1
    exact kk
  · skip
    refine UP.icF rfl cc ?_
    refine UP.stp 2 (i1 := 14) (L1 := [some (.ref 123), some (.int n), some (.int i)]) (st1 := [.int n]) (s1 := s) rfl ?_
    exact kk
  exact UP.ret (r := some (.int v2)) rfl ⟨by subst e2; rfl, by subst e2; rfl⟩
