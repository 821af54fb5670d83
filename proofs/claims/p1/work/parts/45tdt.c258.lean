def W_hasRange_3 : List (Nat × Nat × Option Nat) := []
def F_hasRange_3 (s : SG) (f : Int32) (m : Int32) : Int32 := let v3 := bif m_cmp .lt f 0 then (0 : Int32) else (bif m_cmp .lt m 0 then (0 : Int32) else (bif m_cmp .gt f ((s 121 3) - m) then (0 : Int32) else (1 : Int32))); v3
set_option maxRecDepth 20000 in
set_option maxHeartbeats 200000 in
theorem ux_hasRange_3 (s : SG) (f : Int32) (m : Int32)  : UP m_X3_hasRange 0 (m_ent 3 [.ref 121, .int f, .int m]) [] s (Qi s (F_hasRange_3 s f m)) := by
  refine UP.stp 1 (i1 := 1) (L1 := [some (.ref 121), some (.int f), some (.int m)]) (st1 := [.int f]) (s1 := s) rfl ?_
  refine mrg (m_cmp .lt f 0) (0 : Int32) (bif m_cmp .lt m 0 then (0 : Int32) else (bif m_cmp .gt f ((s 121 3) - m) then (0 : Int32) else (1 : Int32))) (fun v3 : Int32 => UP m_X3_hasRange 13 [some (.ref 121), some (.int f), some (.int m)] [.int v3] s (Qi s (F_hasRange_3 s f m))) (fun cc kk => ?_) (fun cc kk => ?_) (fun v3 e3 => ?_)
  · skip
    refine UP.ifT rfl cc ?_
    refine UP.stp 1 (i1 := 13) (L1 := [some (.ref 121), some (.int f), some (.int m)]) (st1 := [.int 0]) (s1 := s) rfl ?_
    exact kk
  · skip
    refine UP.ifF rfl cc ?_
    refine UP.stp 1 (i1 := 3) (L1 := [some (.ref 121), some (.int f), some (.int m)]) (st1 := [.int m]) (s1 := s) rfl ?_
    refine mrg (m_cmp .lt m 0) (0 : Int32) (bif m_cmp .gt f ((s 121 3) - m) then (0 : Int32) else (1 : Int32)) (fun v2 : Int32 => UP m_X3_hasRange 13 [some (.ref 121), some (.int f), some (.int m)] [.int v2] s (Qi s (F_hasRange_3 s f m))) (fun cc kk => ?_) (fun cc kk => ?_) (fun v2 e2 => ?_)
    · skip
      refine UP.ifT rfl cc ?_
      refine UP.stp 1 (i1 := 13) (L1 := [some (.ref 121), some (.int f), some (.int m)]) (st1 := [.int 0]) (s1 := s) rfl ?_
      exact kk
    · skip
      refine UP.ifF rfl cc ?_
      refine UP.stp 5 (i1 := 9) (L1 := [some (.ref 121), some (.int f), some (.int m)]) (st1 := [.int ((s 121 3) - m), .int f]) (s1 := s) rfl ?_
      refine mrg (m_cmp .gt f ((s 121 3) - m)) (0 : Int32) (1 : Int32) (fun v1 : Int32 => UP m_X3_hasRange 13 [some (.ref 121), some (.int f), some (.int m)] [.int v1] s (Qi s (F_hasRange_3 s f m))) (fun cc kk => ?_) (fun cc kk => ?_) (fun v1 e1 => ?_)
      · skip
        refine UP.icT rfl cc ?_
        refine UP.stp 1 (i1 := 13) (L1 := [some (.ref 121), some (.int f), some (.int m)]) (st1 := [.int 0]) (s1 := s) rfl ?_
        exact kk
      · skip
        refine UP.icF rfl cc ?_
        refine UP.stp 2 (i1 := 13) (L1 := [some (.ref 121), some (.int f), some (.int m)]) (st1 := [.int 1]) (s1 := s) rfl ?_
        exact kk
      subst e1
      exact kk
    subst e2
    exact kk
  exact UP.ret (r := some (.int v3)) rfl ⟨by subst e3; first | (dsimp only [F_hasRange_3]; done) | (dsimp only; done) | rfl, by subst e3; first | (dsimp only [F_hasRange_3]; done) | (dsimp only; done) | rfl⟩
