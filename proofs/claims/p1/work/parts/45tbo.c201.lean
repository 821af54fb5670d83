def W_fitsCrew : List (Nat × Nat × Option Nat) := []
def F_fitsCrew (s : SG) (part : Int32) (b : Int32) : Int32 := bif m_cmp .ne part 0 then (let v6 := bif m_cmp .ne part 1 then (bif m_cmp .ne b 59 then (0 : Int32) else (1 : Int32)) else (bif m_cmp .lt b 49 then (0 : Int32) else (bif m_cmp .gt b 57 then (0 : Int32) else (1 : Int32))); v6) else (let v9 := bif m_cmp .eq b 115 then (1 : Int32) else (bif m_cmp .eq b 102 then (1 : Int32) else (bif m_cmp .ne b 108 then (0 : Int32) else (1 : Int32))); v9)
set_option maxRecDepth 20000 in
set_option maxHeartbeats 200000 in
theorem ux_fitsCrew (s : SG) (part : Int32) (b : Int32)  : UP m_X4_fitsCrew 0 (m_ent 2 [.int part, .int b]) [] s (Qi s (F_fitsCrew s part b)) := by
  refine UP.stp 1 (i1 := 1) (L1 := [some (.int part), some (.int b)]) (st1 := [.int part]) (s1 := s) rfl ?_
  refine UP.spl (m_cmp .ne part 0) (let v6 := bif m_cmp .ne part 1 then (bif m_cmp .ne b 59 then (0 : Int32) else (1 : Int32)) else (bif m_cmp .lt b 49 then (0 : Int32) else (bif m_cmp .gt b 57 then (0 : Int32) else (1 : Int32))); v6) (let v9 := bif m_cmp .eq b 115 then (1 : Int32) else (bif m_cmp .eq b 102 then (1 : Int32) else (bif m_cmp .ne b 108 then (0 : Int32) else (1 : Int32))); v9) (by first | (dsimp only [F_fitsCrew]; done) | (dsimp only; done) | rfl) (fun cc => ?_) (fun cc => ?_)
  · skip
    refine UP.ifT rfl cc ?_
    refine UP.stp 2 (i1 := 17) (L1 := [some (.int part), some (.int b)]) (st1 := [.int 1, .int part]) (s1 := s) rfl ?_
    refine mrg (m_cmp .ne part 1) (bif m_cmp .ne b 59 then (0 : Int32) else (1 : Int32)) (bif m_cmp .lt b 49 then (0 : Int32) else (bif m_cmp .gt b 57 then (0 : Int32) else (1 : Int32))) (fun v6 : Int32 => UP m_X4_fitsCrew 34 [some (.int part), some (.int b)] [.int v6] s (Qi s (let v6 := bif m_cmp .ne part 1 then (bif m_cmp .ne b 59 then (0 : Int32) else (1 : Int32)) else (bif m_cmp .lt b 49 then (0 : Int32) else (bif m_cmp .gt b 57 then (0 : Int32) else (1 : Int32))); v6))) (fun cc kk => ?_) (fun cc kk => ?_) (fun v6 e6 => ?_)
    · skip
      refine UP.icT rfl cc ?_
      refine UP.stp 2 (i1 := 30) (L1 := [some (.int part), some (.int b)]) (st1 := [.int 59, .int b]) (s1 := s) rfl ?_
      refine mrg (m_cmp .ne b 59) (0 : Int32) (1 : Int32) (fun v3 : Int32 => UP m_X4_fitsCrew 34 [some (.int part), some (.int b)] [.int v3] s (Qi s (let v6 := bif m_cmp .ne part 1 then (bif m_cmp .ne b 59 then (0 : Int32) else (1 : Int32)) else (bif m_cmp .lt b 49 then (0 : Int32) else (bif m_cmp .gt b 57 then (0 : Int32) else (1 : Int32))); v6))) (fun cc kk => ?_) (fun cc kk => ?_) (fun v3 e3 => ?_)
      · skip
        refine UP.icT rfl cc ?_
        refine UP.stp 1 (i1 := 34) (L1 := [some (.int part), some (.int b)]) (st1 := [.int 0]) (s1 := s) rfl ?_
        exact kk
      · skip
        refine UP.icF rfl cc ?_
        refine UP.stp 2 (i1 := 34) (L1 := [some (.int part), some (.int b)]) (st1 := [.int 1]) (s1 := s) rfl ?_
        exact kk
      subst e3
      exact kk
    · skip
      refine UP.icF rfl cc ?_
      refine UP.stp 2 (i1 := 20) (L1 := [some (.int part), some (.int b)]) (st1 := [.int 49, .int b]) (s1 := s) rfl ?_
      refine mrg (m_cmp .lt b 49) (0 : Int32) (bif m_cmp .gt b 57 then (0 : Int32) else (1 : Int32)) (fun v5 : Int32 => UP m_X4_fitsCrew 34 [some (.int part), some (.int b)] [.int v5] s (Qi s (let v6 := bif m_cmp .ne part 1 then (bif m_cmp .ne b 59 then (0 : Int32) else (1 : Int32)) else (bif m_cmp .lt b 49 then (0 : Int32) else (bif m_cmp .gt b 57 then (0 : Int32) else (1 : Int32))); v6))) (fun cc kk => ?_) (fun cc kk => ?_) (fun v5 e5 => ?_)
      · skip
        refine UP.icT rfl cc ?_
        refine UP.stp 2 (i1 := 34) (L1 := [some (.int part), some (.int b)]) (st1 := [.int 0]) (s1 := s) rfl ?_
        exact kk
      · skip
        refine UP.icF rfl cc ?_
        refine UP.stp 2 (i1 := 23) (L1 := [some (.int part), some (.int b)]) (st1 := [.int 57, .int b]) (s1 := s) rfl ?_
        refine mrg (m_cmp .gt b 57) (0 : Int32) (1 : Int32) (fun v4 : Int32 => UP m_X4_fitsCrew 34 [some (.int part), some (.int b)] [.int v4] s (Qi s (let v6 := bif m_cmp .ne part 1 then (bif m_cmp .ne b 59 then (0 : Int32) else (1 : Int32)) else (bif m_cmp .lt b 49 then (0 : Int32) else (bif m_cmp .gt b 57 then (0 : Int32) else (1 : Int32))); v6))) (fun cc kk => ?_) (fun cc kk => ?_) (fun v4 e4 => ?_)
        · skip
          refine UP.icT rfl cc ?_
          refine UP.stp 2 (i1 := 34) (L1 := [some (.int part), some (.int b)]) (st1 := [.int 0]) (s1 := s) rfl ?_
          exact kk
        · skip
          refine UP.icF rfl cc ?_
          refine UP.stp 2 (i1 := 34) (L1 := [some (.int part), some (.int b)]) (st1 := [.int 1]) (s1 := s) rfl ?_
          exact kk
        subst e4
        exact kk
      subst e5
      exact kk
    exact UP.ret (r := some (.int v6)) rfl ⟨by subst e6; first | (dsimp only [F_fitsCrew]; done) | (dsimp only; done) | rfl, by subst e6; first | (dsimp only [F_fitsCrew]; done) | (dsimp only; done) | rfl⟩
  · skip
    refine UP.ifF rfl cc ?_
    refine UP.stp 2 (i1 := 4) (L1 := [some (.int part), some (.int b)]) (st1 := [.int 115, .int b]) (s1 := s) rfl ?_
    refine mrg (m_cmp .eq b 115) (1 : Int32) (bif m_cmp .eq b 102 then (1 : Int32) else (bif m_cmp .ne b 108 then (0 : Int32) else (1 : Int32))) (fun v9 : Int32 => UP m_X4_fitsCrew 14 [some (.int part), some (.int b)] [.int v9] s (Qi s (let v9 := bif m_cmp .eq b 115 then (1 : Int32) else (bif m_cmp .eq b 102 then (1 : Int32) else (bif m_cmp .ne b 108 then (0 : Int32) else (1 : Int32))); v9))) (fun cc kk => ?_) (fun cc kk => ?_) (fun v9 e9 => ?_)
    · skip
      refine UP.icT rfl cc ?_
      refine UP.stp 2 (i1 := 14) (L1 := [some (.int part), some (.int b)]) (st1 := [.int 1]) (s1 := s) rfl ?_
      exact kk
    · skip
      refine UP.icF rfl cc ?_
      refine UP.stp 2 (i1 := 7) (L1 := [some (.int part), some (.int b)]) (st1 := [.int 102, .int b]) (s1 := s) rfl ?_
      refine mrg (m_cmp .eq b 102) (1 : Int32) (bif m_cmp .ne b 108 then (0 : Int32) else (1 : Int32)) (fun v8 : Int32 => UP m_X4_fitsCrew 14 [some (.int part), some (.int b)] [.int v8] s (Qi s (let v9 := bif m_cmp .eq b 115 then (1 : Int32) else (bif m_cmp .eq b 102 then (1 : Int32) else (bif m_cmp .ne b 108 then (0 : Int32) else (1 : Int32))); v9))) (fun cc kk => ?_) (fun cc kk => ?_) (fun v8 e8 => ?_)
      · skip
        refine UP.icT rfl cc ?_
        refine UP.stp 2 (i1 := 14) (L1 := [some (.int part), some (.int b)]) (st1 := [.int 1]) (s1 := s) rfl ?_
        exact kk
      · skip
        refine UP.icF rfl cc ?_
        refine UP.stp 2 (i1 := 10) (L1 := [some (.int part), some (.int b)]) (st1 := [.int 108, .int b]) (s1 := s) rfl ?_
        refine mrg (m_cmp .ne b 108) (0 : Int32) (1 : Int32) (fun v7 : Int32 => UP m_X4_fitsCrew 14 [some (.int part), some (.int b)] [.int v7] s (Qi s (let v9 := bif m_cmp .eq b 115 then (1 : Int32) else (bif m_cmp .eq b 102 then (1 : Int32) else (bif m_cmp .ne b 108 then (0 : Int32) else (1 : Int32))); v9))) (fun cc kk => ?_) (fun cc kk => ?_) (fun v7 e7 => ?_)
        · skip
          refine UP.icT rfl cc ?_
          refine UP.stp 1 (i1 := 14) (L1 := [some (.int part), some (.int b)]) (st1 := [.int 0]) (s1 := s) rfl ?_
          exact kk
        · skip
          refine UP.icF rfl cc ?_
          refine UP.stp 2 (i1 := 14) (L1 := [some (.int part), some (.int b)]) (st1 := [.int 1]) (s1 := s) rfl ?_
          exact kk
        subst e7
        exact kk
      subst e8
      exact kk
    exact UP.ret (r := some (.int v9)) rfl ⟨by subst e9; first | (dsimp only [F_fitsCrew]; done) | (dsimp only; done) | rfl, by subst e9; first | (dsimp only [F_fitsCrew]; done) | (dsimp only; done) | rfl⟩
