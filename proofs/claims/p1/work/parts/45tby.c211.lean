def W_cundo_1 : List (Nat × Nat × Option Nat) := [(10, 10, some 0), (11, 14, none), (0, 0, some 12), (0, 0, some 13), (109, 114, none)]
def F_cundo_1 (s : SG)  : Int32 × SG := bif m_cmp .ne (F_isBelow s 1 3) 0 then (bif m_cmp .ne (s 111 1) 0 then (let v6 := (s 111 1) - 1; let z7 := F_retell_1 (uset s 111 1 v6) ; (z7 111 1, z7)) else (((-3), s))) else (((-2), s))
set_option maxRecDepth 20000 in
set_option maxHeartbeats 200000 in
theorem fr_cundo_1 (s : SG)   : Fr W_cundo_1 s (F_cundo_1 s).2 := by dsimp only [F_cundo_1]; exact (Fr.bifp (b := m_cmp .ne (F_isBelow s 1 3) 0) (x := bif m_cmp .ne (s 111 1) 0 then (let v6 := (s 111 1) - 1; let z7 := F_retell_1 (uset s 111 1 v6) ; (z7 111 1, z7)) else (((-3), s))) (y := ((-2), s)) (fun x : Int32 × SG => x.2) (by (try dsimp only); exact (Fr.bifp (b := m_cmp .ne (s 111 1) 0) (x := let v6 := (s 111 1) - 1; let z7 := F_retell_1 (uset s 111 1 v6) ; (z7 111 1, z7)) (y := ((-3), s)) (fun x : Int32 × SG => x.2) (by (try dsimp only); exact (let v6 : Int32 := (s 111 1) - 1; (Fr.tr (s1 := (uset s 111 1 v6)) (Fr.uset (s1 := s) (a := 111) (j := 1) (x := v6) (by rfl) (Fr.rf _ _)) (Fr.wk (W2 := W_cundo_1) (fr_retell_1 (uset s 111 1 v6) ) (by rfl))))) (by (try dsimp only); exact (Fr.rf _ _)))) (by (try dsimp only); exact (Fr.rf _ _)))
set_option maxRecDepth 20000 in
set_option maxHeartbeats 200000 in
theorem ux_cundo_1 (s : SG)   : UP m_X6_undo 0 (m_ent 2 [.ref 0, .int 1]) [] s (Qb (F_cundo_1 s)) := by
  refine UP.stp 2 (i1 := 2) (L1 := [some (.ref 0), some (.int 1)]) (st1 := [.int 3, .int 1]) (s1 := s) rfl ?_
  refine UP.cI (M1 := m_X6_isBelow) (as := [.int 1, .int 3]) (rest := []) (T := F_isBelow s 1 3) rfl rfl (ux_isBelow s 1 3) ?_
  refine UP.spl (m_cmp .ne (F_isBelow s 1 3) 0) (bif m_cmp .ne (s 111 1) 0 then (let v6 := (s 111 1) - 1; let z7 := F_retell_1 (uset s 111 1 v6) ; (z7 111 1, z7)) else (((-3), s))) (((-2), s)) (by first | (dsimp only [F_cundo_1]; done) | (dsimp only; done) | rfl) (fun cc => ?_) (fun cc => ?_)
  · skip
    refine UP.ifT rfl cc ?_
    refine UP.stp 3 (i1 := 9) (L1 := [some (.ref 0), some (.int 1)]) (st1 := [.int 1, .ref 1]) (s1 := s) rfl ?_
    refine UP.aald (e := 1) (r := 111) rfl rfl (by omega) rfl ?_
    refine UP.stp 1 (i1 := 11) (L1 := [some (.ref 0), some (.int 1)]) (st1 := [.int (s 111 1)]) (s1 := s) rfl ?_
    refine UP.spl (m_cmp .ne (s 111 1) 0) (let v6 := (s 111 1) - 1; let z7 := F_retell_1 (uset s 111 1 v6) ; (z7 111 1, z7)) (((-3), s)) (by first | (dsimp only [F_cundo_1]; done) | (dsimp only; done) | rfl) (fun cc => ?_) (fun cc => ?_)
    · skip
      refine UP.ifT rfl cc ?_
      refine UP.stp 3 (i1 := 17) (L1 := [some (.ref 0), some (.int 1)]) (st1 := [.int 1, .ref 1]) (s1 := s) rfl ?_
      refine UP.aald (e := 1) (r := 111) rfl rfl (by omega) rfl ?_
      refine UP.stp 4 (i1 := 22) (L1 := [some (.ref 0), some (.int 1)]) (st1 := [.int ((s 111 1) - 1), .ref 111]) (s1 := s) rfl ?_
      refine nm (G := fun v6 => UP m_X6_undo 22 [some (.ref 0), some (.int 1)] [.int v6, .ref 111] s (Qb (let v6 := (s 111 1) - 1; let z7 := F_retell_1 (uset s 111 1 v6) ; (z7 111 1, z7)))) ((s 111 1) - 1) (fun v6 e6 => ?_)
      refine UP.stp 3 (i1 := 25) (L1 := [some (.ref 0), some (.int 1)]) (st1 := [.int 1, .ref 0]) (s1 := (uset s 111 1 v6)) rfl ?_
      refine UP.cV (M1 := m_X6_retell) (as := [.ref 0, .int 1]) (rest := []) (T := F_retell_1 (uset s 111 1 v6) ) rfl rfl (ux_retell_1 (uset s 111 1 v6)) (fun z7 e7 => ?_)
      refine UP.stp 3 (i1 := 29) (L1 := [some (.ref 0), some (.int 1)]) (st1 := [.int 1, .ref 1]) (s1 := z7) rfl ?_
      refine UP.aald (e := 1) (r := 111) rfl rfl (by omega) rfl ?_
      refine UP.stp 1 (i1 := 31) (L1 := [some (.ref 0), some (.int 1)]) (st1 := [.int (z7 111 1)]) (s1 := z7) rfl ?_
      exact UP.ret (r := some (.int (z7 111 1))) rfl ⟨by subst e7 e6; first | (dsimp only [F_cundo_1]; done) | (dsimp only; done) | rfl, by subst e7 e6; first | (dsimp only [F_cundo_1]; done) | (dsimp only; done) | rfl⟩
    · skip
      refine UP.ifF rfl cc ?_
      refine UP.stp 1 (i1 := 13) (L1 := [some (.ref 0), some (.int 1)]) (st1 := [.int (-3)]) (s1 := s) rfl ?_
      exact UP.ret (r := some (.int (-3))) rfl ⟨by first | (dsimp only [F_cundo_1]; done) | (dsimp only; done) | rfl, by first | (dsimp only [F_cundo_1]; done) | (dsimp only; done) | rfl⟩
  · skip
    refine UP.ifF rfl cc ?_
    refine UP.stp 1 (i1 := 5) (L1 := [some (.ref 0), some (.int 1)]) (st1 := [.int (-2)]) (s1 := s) rfl ?_
    exact UP.ret (r := some (.int (-2))) rfl ⟨by first | (dsimp only [F_cundo_1]; done) | (dsimp only; done) | rfl, by first | (dsimp only [F_cundo_1]; done) | (dsimp only; done) | rfl⟩
def W_retell_2 : List (Nat × Nat × Option Nat) := [(10, 10, some 0), (11, 14, none), (0, 0, some 12), (0, 0, some 13), (109, 114, none)]
def F_retell_2 (s : SG)  : SG := let z1 := F_takeRudder s ; let z2 := F_mark z1 ; z2
set_option maxRecDepth 20000 in
set_option maxHeartbeats 200000 in
theorem fr_retell_2 (s : SG)   : Fr W_retell_2 s (F_retell_2 s) := by dsimp only [F_retell_2]; exact (let z1 : SG := F_takeRudder s ; (Fr.tr (s1 := z1) (Fr.tr (s1 := s) (Fr.rf _ _) (Fr.wk (W2 := W_retell_2) (fr_takeRudder s ) (by rfl))) (Fr.wk (W2 := W_retell_2) (fr_mark z1 ) (by rfl))))
set_option maxRecDepth 20000 in
set_option maxHeartbeats 200000 in
theorem ux_retell_2 (s : SG)   : UP m_X6_retell 0 (m_ent 2 [.ref 0, .int 2]) [] s (Qv (F_retell_2 s)) := by
  refine UP.stp 10 (i1 := 26) (L1 := [some (.ref 0), some (.int 2)]) (st1 := [.int 2, .ref 1, .ref 10]) (s1 := s) rfl ?_
  refine UP.aald (e := 2) (r := 113) rfl rfl (by omega) rfl ?_
  refine UP.cV (M1 := m_X0_takeRudder) (as := [.ref 10, .ref 113]) (rest := []) (T := F_takeRudder s ) rfl rfl (ux_takeRudder s ) (fun z1 e1 => ?_)
  refine UP.stp 1 (i1 := 29) (L1 := [some (.ref 0), some (.int 2)]) (st1 := [.ref 0]) (s1 := z1) rfl ?_
  refine UP.cV (M1 := m_X6_markChanged) (as := [.ref 0]) (rest := []) (T := F_mark z1 ) rfl rfl (ux_mark z1 ) (fun z2 e2 => ?_)
  exact UP.ret (r := none) rfl ⟨by subst e2 e1; first | (dsimp only [F_retell_2]; done) | (dsimp only; done) | rfl, by subst e2 e1; first | (dsimp only [F_retell_2]; done) | (dsimp only; done) | rfl⟩
