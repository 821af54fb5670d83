def W_rudderBy : List (Nat × Nat × Option Nat) := []
def F_rudderBy (s : SG) (b : Int32) : Int32 := let v3 := bif m_cmp .ne b 45 then (bif m_cmp .ne b 108 then (bif m_cmp .ne b 114 then (-1 : Int32) else (2 : Int32)) else (1 : Int32)) else (0 : Int32); v3
set_option maxRecDepth 20000 in
set_option maxHeartbeats 200000 in
theorem ux_rudderBy (s : SG) (b : Int32)  : UP m_X7_rudderBy 0 (m_ent 1 [.int b]) [] s (Qi s (F_rudderBy s b)) := by
  refine UP.stp 2 (i1 := 2) (L1 := [some (.int b)]) (st1 := [.int 45, .int b]) (s1 := s) rfl ?_
  refine mrg (m_cmp .ne b 45) (bif m_cmp .ne b 108 then (bif m_cmp .ne b 114 then (-1 : Int32) else (2 : Int32)) else (1 : Int32)) (0 : Int32) (fun v3 : Int32 => UP m_X7_rudderBy 16 [some (.int b)] [.int v3] s (Qi s (F_rudderBy s b))) (fun cc kk => ?_) (fun cc kk => ?_) (fun v3 e3 => ?_)
  · skip
    refine UP.icT rfl cc ?_
    refine UP.stp 2 (i1 := 7) (L1 := [some (.int b)]) (st1 := [.int 108, .int b]) (s1 := s) rfl ?_
    refine mrg (m_cmp .ne b 108) (bif m_cmp .ne b 114 then (-1 : Int32) else (2 : Int32)) (1 : Int32) (fun v2 : Int32 => UP m_X7_rudderBy 16 [some (.int b)] [.int v2] s (Qi s (F_rudderBy s b))) (fun cc kk => ?_) (fun cc kk => ?_) (fun v2 e2 => ?_)
    · skip
      refine UP.icT rfl cc ?_
      refine UP.stp 2 (i1 := 12) (L1 := [some (.int b)]) (st1 := [.int 114, .int b]) (s1 := s) rfl ?_
      refine mrg (m_cmp .ne b 114) (-1 : Int32) (2 : Int32) (fun v1 : Int32 => UP m_X7_rudderBy 16 [some (.int b)] [.int v1] s (Qi s (F_rudderBy s b))) (fun cc kk => ?_) (fun cc kk => ?_) (fun v1 e1 => ?_)
      · skip
        refine UP.icT rfl cc ?_
        refine UP.stp 1 (i1 := 16) (L1 := [some (.int b)]) (st1 := [.int (-1)]) (s1 := s) rfl ?_
        exact kk
      · skip
        refine UP.icF rfl cc ?_
        refine UP.stp 2 (i1 := 16) (L1 := [some (.int b)]) (st1 := [.int 2]) (s1 := s) rfl ?_
        exact kk
      subst e1
      exact kk
    · skip
      refine UP.icF rfl cc ?_
      refine UP.stp 2 (i1 := 16) (L1 := [some (.int b)]) (st1 := [.int 1]) (s1 := s) rfl ?_
      exact kk
    subst e2
    exact kk
  · skip
    refine UP.icF rfl cc ?_
    refine UP.stp 2 (i1 := 16) (L1 := [some (.int b)]) (st1 := [.int 0]) (s1 := s) rfl ?_
    exact kk
  exact UP.ret (r := some (.int v3)) rfl ⟨by subst e3; first | (dsimp only [F_rudderBy]; done) | (dsimp only; done) | rfl, by subst e3; first | (dsimp only [F_rudderBy]; done) | (dsimp only; done) | rfl⟩
