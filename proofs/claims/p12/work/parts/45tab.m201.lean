def W_byteAt_1 : List (Nat × Nat × Option Nat) := []
def F_byteAt_1 (s : SG) (k : Int32) : Int32 := let v1 := bif m_cmp .ge k (s 124 1) then (-1 : Int32) else s 125 (((24 * 1) + k).toNatClampNeg); v1
theorem ux_byteAt_1 (s : SG) (k : Int32)  : UP m_X7_byteAt 0 (m_ent 3 [.ref 123, .int 1, .int k]) [] s (Qi s (F_byteAt_1 s k)) := by
  refine UP.stp 5 (i1 := 5) (L1 := [some (.ref 123), some (.int 1), some (.int k)]) (st1 := [.int (s 124 1), .int k]) (s1 := s) rfl ?_
  refine mrg (m_cmp .ge k (s 124 1)) (-1 : Int32) (s 125 (((24 * 1) + k).toNatClampNeg)) (fun v1 : Int32 => UP m_X7_byteAt 16 [some (.ref 123), some (.int 1), some (.int k)] [.int v1] s (Qi s (F_byteAt_1 s k))) (fun cc kk => ?_) (fun cc kk => ?_) (fun v1 e1 => ?_)
  · skip
    refine UP.icT rfl cc ?_
    refine UP.stp 1 (i1 := 16) (L1 := [some (.ref 123), some (.int 1), some (.int k)]) (st1 := [.int (-1)]) (s1 := s) rfl ?_
    exact kk
  · skip
    refine UP.icF rfl cc ?_
    refine UP.stp 9 (i1 := 16) (L1 := [some (.ref 123), some (.int 1), some (.int k)]) (st1 := [.int (s 125 (((24 * 1) + k).toNatClampNeg))]) (s1 := s) rfl ?_
    exact kk
  exact UP.ret (r := some (.int v1)) rfl ⟨by subst e1; rfl, by subst e1; rfl⟩
def W_byteAt_2 : List (Nat × Nat × Option Nat) := []
def F_byteAt_2 (s : SG) (k : Int32) : Int32 := let v1 := bif m_cmp .ge k (s 124 2) then (-1 : Int32) else s 125 (((24 * 2) + k).toNatClampNeg); v1
theorem ux_byteAt_2 (s : SG) (k : Int32)  : UP m_X7_byteAt 0 (m_ent 3 [.ref 123, .int 2, .int k]) [] s (Qi s (F_byteAt_2 s k)) := by
  refine UP.stp 5 (i1 := 5) (L1 := [some (.ref 123), some (.int 2), some (.int k)]) (st1 := [.int (s 124 2), .int k]) (s1 := s) rfl ?_
  refine mrg (m_cmp .ge k (s 124 2)) (-1 : Int32) (s 125 (((24 * 2) + k).toNatClampNeg)) (fun v1 : Int32 => UP m_X7_byteAt 16 [some (.ref 123), some (.int 2), some (.int k)] [.int v1] s (Qi s (F_byteAt_2 s k))) (fun cc kk => ?_) (fun cc kk => ?_) (fun v1 e1 => ?_)
  · skip
    refine UP.icT rfl cc ?_
    refine UP.stp 1 (i1 := 16) (L1 := [some (.ref 123), some (.int 2), some (.int k)]) (st1 := [.int (-1)]) (s1 := s) rfl ?_
    exact kk
  · skip
    refine UP.icF rfl cc ?_
    refine UP.stp 9 (i1 := 16) (L1 := [some (.ref 123), some (.int 2), some (.int k)]) (st1 := [.int (s 125 (((24 * 2) + k).toNatClampNeg))]) (s1 := s) rfl ?_
    exact kk
  exact UP.ret (r := some (.int v1)) rfl ⟨by subst e1; rfl, by subst e1; rfl⟩
