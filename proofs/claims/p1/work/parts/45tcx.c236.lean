def W_isAgroundBy : List (Nat × Nat × Option Nat) := [(16, 20, none), (22, 45, none), (46, 52, none), (15, 15, some 8), (59, 63, none), (65, 88, none), (89, 95, none), (58, 58, some 8), (53, 57, none), (96, 108, none), (0, 0, some 12), (0, 0, some 13)]
def F_isAgroundBy (s : SG) (minute : Int32) (mask : Int32) : Int32 × SG := let z1 := F_firstAgroundWith s mask; let v3 := bif m_cmp .eq z1.1 (-1) then (0 : Int32) else (bif m_cmp .gt z1.1 minute then (0 : Int32) else (1 : Int32)); (v3, z1.2)
set_option maxRecDepth 20000 in
set_option maxHeartbeats 200000 in
theorem fr_isAgroundBy (s : SG) (minute : Int32) (mask : Int32)  : Fr W_isAgroundBy s (F_isAgroundBy s minute mask).2 := by dsimp only [F_isAgroundBy]; exact (Fr.tr (s1 := s) (Fr.rf _ _) (Fr.wk (W2 := W_isAgroundBy) (fr_firstAgroundWith s mask) (by rfl)))
set_option maxRecDepth 20000 in
set_option maxHeartbeats 200000 in
theorem ux_isAgroundBy (s : SG) (minute : Int32) (mask : Int32)  : UP m_X6_isAgroundBy 0 (m_ent 4 [.ref 0, .int minute, .int mask]) [] s (Qb (F_isAgroundBy s minute mask)) := by
  refine UP.stp 2 (i1 := 2) (L1 := [some (.ref 0), some (.int minute), some (.int mask), none]) (st1 := [.int mask, .ref 0]) (s1 := s) rfl ?_
  refine UP.cB (M1 := m_X6_firstAgroundWith) (as := [.ref 0, .int mask]) (rest := []) (T := F_firstAgroundWith s mask) rfl rfl (ux_firstAgroundWith s mask) (fun z1 e1 => ?_)
  refine UP.stp 3 (i1 := 6) (L1 := [some (.ref 0), some (.int minute), some (.int mask), some (.int z1.1)]) (st1 := [.int (-1), .int z1.1]) (s1 := z1.2) rfl ?_
  refine mrg (m_cmp .eq z1.1 (-1)) (0 : Int32) (bif m_cmp .gt z1.1 minute then (0 : Int32) else (1 : Int32)) (fun v3 : Int32 => UP m_X6_isAgroundBy 13 [some (.ref 0), some (.int minute), some (.int mask), some (.int z1.1)] [.int v3] z1.2 (Qb (F_isAgroundBy s minute mask))) (fun cc kk => ?_) (fun cc kk => ?_) (fun v3 e3 => ?_)
  · skip
    refine UP.icT rfl cc ?_
    refine UP.stp 1 (i1 := 13) (L1 := [some (.ref 0), some (.int minute), some (.int mask), some (.int z1.1)]) (st1 := [.int 0]) (s1 := z1.2) rfl ?_
    exact kk
  · skip
    refine UP.icF rfl cc ?_
    refine UP.stp 2 (i1 := 9) (L1 := [some (.ref 0), some (.int minute), some (.int mask), some (.int z1.1)]) (st1 := [.int minute, .int z1.1]) (s1 := z1.2) rfl ?_
    refine mrg (m_cmp .gt z1.1 minute) (0 : Int32) (1 : Int32) (fun v2 : Int32 => UP m_X6_isAgroundBy 13 [some (.ref 0), some (.int minute), some (.int mask), some (.int z1.1)] [.int v2] z1.2 (Qb (F_isAgroundBy s minute mask))) (fun cc kk => ?_) (fun cc kk => ?_) (fun v2 e2 => ?_)
    · skip
      refine UP.icT rfl cc ?_
      refine UP.stp 1 (i1 := 13) (L1 := [some (.ref 0), some (.int minute), some (.int mask), some (.int z1.1)]) (st1 := [.int 0]) (s1 := z1.2) rfl ?_
      exact kk
    · skip
      refine UP.icF rfl cc ?_
      refine UP.stp 2 (i1 := 13) (L1 := [some (.ref 0), some (.int minute), some (.int mask), some (.int z1.1)]) (st1 := [.int 1]) (s1 := z1.2) rfl ?_
      exact kk
    subst e2
    exact kk
  exact UP.ret (r := some (.int v3)) rfl ⟨by subst e3 e1; first | (dsimp only [F_isAgroundBy]; done) | (dsimp only; done) | rfl, by subst e3 e1; first | (dsimp only [F_isAgroundBy]; done) | (dsimp only; done) | rfl⟩
