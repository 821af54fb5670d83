def W_cgrounded : List (Nat × Nat × Option Nat) := [(16, 20, none), (22, 45, none), (46, 52, none), (15, 15, some 8), (59, 63, none), (65, 88, none), (89, 95, none), (58, 58, some 8), (53, 57, none), (96, 108, none), (0, 0, some 12), (0, 0, some 13)]
def F_cgrounded (s : SG) (what : Int32) : Int32 × SG := bif m_cmp .ne (F_isBelow s what 2) 0 then (let v8 := bif m_cmp .ne what 0 then F_firstAground_a (F_toldTrip s ) else F_minutesAground_a (F_toldTrip s ); (v8, (F_toldTrip s ))) else (((-2), s))
set_option maxRecDepth 20000 in
set_option maxHeartbeats 200000 in
theorem fr_cgrounded (s : SG) (what : Int32)  : Fr W_cgrounded s (F_cgrounded s what).2 := by dsimp only [F_cgrounded]; exact (Fr.bifp (b := m_cmp .ne (F_isBelow s what 2) 0) (x := let v8 := bif m_cmp .ne what 0 then F_firstAground_a (F_toldTrip s ) else F_minutesAground_a (F_toldTrip s ); (v8, (F_toldTrip s ))) (y := ((-2), s)) (fun x : Int32 × SG => x.2) (by (try dsimp only); exact (Fr.tr (s1 := s) (Fr.rf _ _) (Fr.wk (W2 := W_cgrounded) (fr_toldTrip s ) (by rfl)))) (by (try dsimp only); exact (Fr.rf _ _)))
set_option maxRecDepth 20000 in
set_option maxHeartbeats 200000 in
theorem ux_cgrounded (s : SG) (what : Int32)  : UP m_X6_grounded 0 (m_ent 2 [.ref 0, .int what]) [] s (Qb (F_cgrounded s what)) := by
  refine UP.stp 2 (i1 := 2) (L1 := [some (.ref 0), some (.int what)]) (st1 := [.int 2, .int what]) (s1 := s) rfl ?_
  refine UP.cI (M1 := m_X6_isBelow) (as := [.int what, .int 2]) (rest := []) (T := F_isBelow s what 2) rfl rfl (ux_isBelow s what 2) ?_
  refine UP.spl (m_cmp .ne (F_isBelow s what 2) 0) (let v8 := bif m_cmp .ne what 0 then F_firstAground_a (F_toldTrip s ) else F_minutesAground_a (F_toldTrip s ); (v8, (F_toldTrip s ))) (((-2), s)) (by first | (dsimp only [F_cgrounded]; done) | (dsimp only; done) | rfl) (fun cc => ?_) (fun cc => ?_)
  · skip
    refine UP.ifT rfl cc ?_
    refine UP.stp 1 (i1 := 7) (L1 := [some (.ref 0), some (.int what)]) (st1 := [.int what]) (s1 := s) rfl ?_
    refine mrg (m_cmp .ne what 0) (F_firstAground_a (F_toldTrip s )) (F_minutesAground_a (F_toldTrip s )) (fun v8 : Int32 => UP m_X6_grounded 15 [some (.ref 0), some (.int what)] [.int v8] (F_toldTrip s ) (Qb (let v8 := bif m_cmp .ne what 0 then F_firstAground_a (F_toldTrip s ) else F_minutesAground_a (F_toldTrip s ); (v8, (F_toldTrip s ))))) (fun cc kk => ?_) (fun cc kk => ?_) (fun v8 e8 => ?_)
    · skip
      refine UP.ifT rfl cc ?_
      refine UP.stp 1 (i1 := 13) (L1 := [some (.ref 0), some (.int what)]) (st1 := [.ref 0]) (s1 := s) rfl ?_
      refine UP.cR (M1 := m_X6_toldTrip) (as := [.ref 0]) (rest := []) (T := F_toldTrip s ) (a := 15) rfl rfl (ux_toldTrip s ) (fun z4 e4 => ?_)
      refine UP.cI (M1 := m_X5_firstAground) (as := [.ref 15]) (rest := []) (T := F_firstAground_a z4 ) rfl rfl (ux_firstAground_a z4) ?_
      subst e4
      exact kk
    · skip
      refine UP.ifF rfl cc ?_
      refine UP.stp 1 (i1 := 9) (L1 := [some (.ref 0), some (.int what)]) (st1 := [.ref 0]) (s1 := s) rfl ?_
      refine UP.cR (M1 := m_X6_toldTrip) (as := [.ref 0]) (rest := []) (T := F_toldTrip s ) (a := 15) rfl rfl (ux_toldTrip s ) (fun z6 e6 => ?_)
      refine UP.cI (M1 := m_X5_minutesAground) (as := [.ref 15]) (rest := []) (T := F_minutesAground_a z6 ) rfl rfl (ux_minutesAground_a z6) ?_
      refine UP.stp 1 (i1 := 15) (L1 := [some (.ref 0), some (.int what)]) (st1 := [.int (F_minutesAground_a z6)]) (s1 := z6) rfl ?_
      subst e6
      exact kk
    exact UP.ret (r := some (.int v8)) rfl ⟨by subst e8; first | (dsimp only [F_cgrounded]; done) | (dsimp only; done) | rfl, by subst e8; first | (dsimp only [F_cgrounded]; done) | (dsimp only; done) | rfl⟩
  · skip
    refine UP.ifF rfl cc ?_
    refine UP.stp 1 (i1 := 5) (L1 := [some (.ref 0), some (.int what)]) (st1 := [.int (-2)]) (s1 := s) rfl ?_
    exact UP.ret (r := some (.int (-2))) rfl ⟨by first | (dsimp only [F_cgrounded]; done) | (dsimp only; done) | rfl, by first | (dsimp only [F_cgrounded]; done) | (dsimp only; done) | rfl⟩
def W_cstray : List (Nat × Nat × Option Nat) := [(16, 20, none), (22, 45, none), (46, 52, none), (15, 15, some 8), (59, 63, none), (65, 88, none), (89, 95, none), (58, 58, some 8), (53, 57, none), (96, 108, none), (0, 0, some 12), (0, 0, some 13)]
def F_cstray (s : SG) (what : Int32) : Int32 × SG := bif m_cmp .ne (F_isBelow s what 2) 0 then (let v8 := bif m_cmp .ne what 0 then F_farthestStray_a (F_toldTrip s ) else F_lastStray_a (F_toldTrip s ); (v8, (F_toldTrip s ))) else (((-2), s))
set_option maxRecDepth 20000 in
set_option maxHeartbeats 200000 in
theorem fr_cstray (s : SG) (what : Int32)  : Fr W_cstray s (F_cstray s what).2 := by dsimp only [F_cstray]; exact (Fr.bifp (b := m_cmp .ne (F_isBelow s what 2) 0) (x := let v8 := bif m_cmp .ne what 0 then F_farthestStray_a (F_toldTrip s ) else F_lastStray_a (F_toldTrip s ); (v8, (F_toldTrip s ))) (y := ((-2), s)) (fun x : Int32 × SG => x.2) (by (try dsimp only); exact (Fr.tr (s1 := s) (Fr.rf _ _) (Fr.wk (W2 := W_cstray) (fr_toldTrip s ) (by rfl)))) (by (try dsimp only); exact (Fr.rf _ _)))
set_option maxRecDepth 20000 in
set_option maxHeartbeats 200000 in
theorem ux_cstray (s : SG) (what : Int32)  : UP m_X6_stray 0 (m_ent 2 [.ref 0, .int what]) [] s (Qb (F_cstray s what)) := by
  refine UP.stp 2 (i1 := 2) (L1 := [some (.ref 0), some (.int what)]) (st1 := [.int 2, .int what]) (s1 := s) rfl ?_
  refine UP.cI (M1 := m_X6_isBelow) (as := [.int what, .int 2]) (rest := []) (T := F_isBelow s what 2) rfl rfl (ux_isBelow s what 2) ?_
  refine UP.spl (m_cmp .ne (F_isBelow s what 2) 0) (let v8 := bif m_cmp .ne what 0 then F_farthestStray_a (F_toldTrip s ) else F_lastStray_a (F_toldTrip s ); (v8, (F_toldTrip s ))) (((-2), s)) (by first | (dsimp only [F_cstray]; done) | (dsimp only; done) | rfl) (fun cc => ?_) (fun cc => ?_)
  · skip
    refine UP.ifT rfl cc ?_
    refine UP.stp 1 (i1 := 7) (L1 := [some (.ref 0), some (.int what)]) (st1 := [.int what]) (s1 := s) rfl ?_
    refine mrg (m_cmp .ne what 0) (F_farthestStray_a (F_toldTrip s )) (F_lastStray_a (F_toldTrip s )) (fun v8 : Int32 => UP m_X6_stray 15 [some (.ref 0), some (.int what)] [.int v8] (F_toldTrip s ) (Qb (let v8 := bif m_cmp .ne what 0 then F_farthestStray_a (F_toldTrip s ) else F_lastStray_a (F_toldTrip s ); (v8, (F_toldTrip s ))))) (fun cc kk => ?_) (fun cc kk => ?_) (fun v8 e8 => ?_)
    · skip
      refine UP.ifT rfl cc ?_
      refine UP.stp 1 (i1 := 13) (L1 := [some (.ref 0), some (.int what)]) (st1 := [.ref 0]) (s1 := s) rfl ?_
      refine UP.cR (M1 := m_X6_toldTrip) (as := [.ref 0]) (rest := []) (T := F_toldTrip s ) (a := 15) rfl rfl (ux_toldTrip s ) (fun z4 e4 => ?_)
      refine UP.cI (M1 := m_X5_farthestStray) (as := [.ref 15]) (rest := []) (T := F_farthestStray_a z4 ) rfl rfl (ux_farthestStray_a z4) ?_
      subst e4
      exact kk
    · skip
      refine UP.ifF rfl cc ?_
      refine UP.stp 1 (i1 := 9) (L1 := [some (.ref 0), some (.int what)]) (st1 := [.ref 0]) (s1 := s) rfl ?_
      refine UP.cR (M1 := m_X6_toldTrip) (as := [.ref 0]) (rest := []) (T := F_toldTrip s ) (a := 15) rfl rfl (ux_toldTrip s ) (fun z6 e6 => ?_)
      refine UP.cI (M1 := m_X5_lastStray) (as := [.ref 15]) (rest := []) (T := F_lastStray_a z6 ) rfl rfl (ux_lastStray_a z6) ?_
      refine UP.stp 1 (i1 := 15) (L1 := [some (.ref 0), some (.int what)]) (st1 := [.int (F_lastStray_a z6)]) (s1 := z6) rfl ?_
      subst e6
      exact kk
    exact UP.ret (r := some (.int v8)) rfl ⟨by subst e8; first | (dsimp only [F_cstray]; done) | (dsimp only; done) | rfl, by subst e8; first | (dsimp only [F_cstray]; done) | (dsimp only; done) | rfl⟩
  · skip
    refine UP.ifF rfl cc ?_
    refine UP.stp 1 (i1 := 5) (L1 := [some (.ref 0), some (.int what)]) (st1 := [.int (-2)]) (s1 := s) rfl ?_
    exact UP.ret (r := some (.int (-2))) rfl ⟨by first | (dsimp only [F_cstray]; done) | (dsimp only; done) | rfl, by first | (dsimp only [F_cstray]; done) | (dsimp only; done) | rfl⟩
