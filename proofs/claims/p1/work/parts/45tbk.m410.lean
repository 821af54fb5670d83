def W_undo : List (Nat × Nat × Option Nat) := [(124, 124, none)]
def F_undo (s : SG) (text : Int32) : Int32 × SG := bif m_cmp .ne (F_isText s text) 0 then (bif m_cmp .ne (s 124 text.toNatClampNeg) 0 then (let v6 := (s 124 text.toNatClampNeg) - 1; ((uset s 124 text.toNatClampNeg v6) 124 text.toNatClampNeg, (uset s 124 text.toNatClampNeg v6))) else (((-3), s))) else (((-2), s))
set_option maxRecDepth 20000 in
set_option maxHeartbeats 200000 in
theorem fr_undo (s : SG) (text : Int32)  : Fr W_undo s (F_undo s text).2 := by dsimp only [F_undo]; exact (Fr.bifp (b := m_cmp .ne (F_isText s text) 0) (x := bif m_cmp .ne (s 124 text.toNatClampNeg) 0 then (let v6 := (s 124 text.toNatClampNeg) - 1; ((uset s 124 text.toNatClampNeg v6) 124 text.toNatClampNeg, (uset s 124 text.toNatClampNeg v6))) else (((-3), s))) (y := ((-2), s)) (fun x : Int32 × SG => x.2) (by (try dsimp only); exact (Fr.bifp (b := m_cmp .ne (s 124 text.toNatClampNeg) 0) (x := let v6 := (s 124 text.toNatClampNeg) - 1; ((uset s 124 text.toNatClampNeg v6) 124 text.toNatClampNeg, (uset s 124 text.toNatClampNeg v6))) (y := ((-3), s)) (fun x : Int32 × SG => x.2) (by (try dsimp only); exact (let v6 : Int32 := (s 124 text.toNatClampNeg) - 1; (Fr.uset (s1 := s) (a := 124) (j := text.toNatClampNeg) (x := v6) (by rfl) (Fr.rf _ _)))) (by (try dsimp only); exact (Fr.rf _ _)))) (by (try dsimp only); exact (Fr.rf _ _)))
set_option maxRecDepth 20000 in
set_option maxHeartbeats 200000 in
theorem ux_undo (s : SG) (text : Int32)  : UP m_X7_undo 0 (m_ent 2 [.ref 123, .int text]) [] s (Qb (F_undo s text)) := by
  refine UP.stp 1 (i1 := 1) (L1 := [some (.ref 123), some (.int text)]) (st1 := [.int text]) (s1 := s) rfl ?_
  refine UP.cI (M1 := m_X7_isText) (as := [.int text]) (rest := []) (T := F_isText s text) rfl rfl (ux_isText s text) ?_
  refine UP.spl (m_cmp .ne (F_isText s text) 0) (bif m_cmp .ne (s 124 text.toNatClampNeg) 0 then (let v6 := (s 124 text.toNatClampNeg) - 1; ((uset s 124 text.toNatClampNeg v6) 124 text.toNatClampNeg, (uset s 124 text.toNatClampNeg v6))) else (((-3), s))) (((-2), s)) (by first | (dsimp only [F_undo]; done) | (dsimp only; done) | rfl) (fun cc => ?_) (fun cc => ?_)
  · skip
    refine UP.ifT rfl cc ?_
    refine UP.stp 4 (i1 := 9) (L1 := [some (.ref 123), some (.int text)]) (st1 := [.int (s 124 text.toNatClampNeg)]) (s1 := s) rfl ?_
    refine UP.spl (m_cmp .ne (s 124 text.toNatClampNeg) 0) (let v6 := (s 124 text.toNatClampNeg) - 1; ((uset s 124 text.toNatClampNeg v6) 124 text.toNatClampNeg, (uset s 124 text.toNatClampNeg v6))) (((-3), s)) (by first | (dsimp only [F_undo]; done) | (dsimp only; done) | rfl) (fun cc => ?_) (fun cc => ?_)
    · skip
      refine UP.ifT rfl cc ?_
      refine UP.stp 7 (i1 := 19) (L1 := [some (.ref 123), some (.int text)]) (st1 := [.int ((s 124 text.toNatClampNeg) - 1), .int text, .ref 124]) (s1 := s) rfl ?_
      refine nm (G := fun v6 => UP m_X7_undo 19 [some (.ref 123), some (.int text)] [.int v6, .int text, .ref 124] s (Qb (let v6 := (s 124 text.toNatClampNeg) - 1; ((uset s 124 text.toNatClampNeg v6) 124 text.toNatClampNeg, (uset s 124 text.toNatClampNeg v6))))) ((s 124 text.toNatClampNeg) - 1) (fun v6 e6 => ?_)
      refine UP.stp 5 (i1 := 24) (L1 := [some (.ref 123), some (.int text)]) (st1 := [.int ((uset s 124 text.toNatClampNeg v6) 124 text.toNatClampNeg)]) (s1 := (uset s 124 text.toNatClampNeg v6)) rfl ?_
      exact UP.ret (r := some (.int ((uset s 124 text.toNatClampNeg v6) 124 text.toNatClampNeg))) rfl ⟨by subst e6; first | (dsimp only [F_undo]; done) | (dsimp only; done) | rfl, by subst e6; first | (dsimp only [F_undo]; done) | (dsimp only; done) | rfl⟩
    · skip
      refine UP.ifF rfl cc ?_
      refine UP.stp 1 (i1 := 11) (L1 := [some (.ref 123), some (.int text)]) (st1 := [.int (-3)]) (s1 := s) rfl ?_
      exact UP.ret (r := some (.int (-3))) rfl ⟨by first | (dsimp only [F_undo]; done) | (dsimp only; done) | rfl, by first | (dsimp only [F_undo]; done) | (dsimp only; done) | rfl⟩
  · skip
    refine UP.ifF rfl cc ?_
    refine UP.stp 1 (i1 := 4) (L1 := [some (.ref 123), some (.int text)]) (st1 := [.int (-2)]) (s1 := s) rfl ?_
    exact UP.ret (r := some (.int (-2))) rfl ⟨by first | (dsimp only [F_undo]; done) | (dsimp only; done) | rfl, by first | (dsimp only [F_undo]; done) | (dsimp only; done) | rfl⟩
def W_tellOf : List (Nat × Nat × Option Nat) := [(126, 129, none), (133, 144, none), (147, 147, none), (123, 123, some 2), (123, 123, some 5), (123, 123, some 7), (123, 123, some 17), (123, 123, some 19), (123, 123, some 20), (123, 123, some 21), (123, 123, some 22), (123, 123, some 23), (123, 123, some 24), (123, 123, some 25), (123, 123, some 26), (123, 123, some 27)]
def F_tellOf (s : SG) (what : Int32) : Int32 × SG := let z1 := F_reads s ; let v3 := bif m_cmp .ne what 0 then (bif m_cmp .ne what 1 then z1 123 7 else z1 123 5) else z1 123 2; (v3, z1)
set_option maxRecDepth 20000 in
set_option maxHeartbeats 200000 in
theorem fr_tellOf (s : SG) (what : Int32)  : Fr W_tellOf s (F_tellOf s what).2 := by dsimp only [F_tellOf]; exact (Fr.tr (s1 := s) (Fr.rf _ _) (Fr.wk (W2 := W_tellOf) (fr_reads s ) (by rfl)))
set_option maxRecDepth 20000 in
set_option maxHeartbeats 200000 in
theorem ux_tellOf (s : SG) (what : Int32)  : UP m_X7_tellOf 0 (m_ent 2 [.ref 123, .int what]) [] s (Qb (F_tellOf s what)) := by
  refine UP.stp 1 (i1 := 1) (L1 := [some (.ref 123), some (.int what)]) (st1 := [.ref 123]) (s1 := s) rfl ?_
  refine UP.cV (M1 := m_X7_reads) (as := [.ref 123]) (rest := []) (T := F_reads s ) rfl rfl (ux_reads s ) (fun z1 e1 => ?_)
  refine UP.stp 1 (i1 := 3) (L1 := [some (.ref 123), some (.int what)]) (st1 := [.int what]) (s1 := z1) rfl ?_
  refine mrg (m_cmp .ne what 0) (bif m_cmp .ne what 1 then z1 123 7 else z1 123 5) (z1 123 2) (fun v3 : Int32 => UP m_X7_tellOf 15 [some (.ref 123), some (.int what)] [.int v3] z1 (Qb (F_tellOf s what))) (fun cc kk => ?_) (fun cc kk => ?_) (fun v3 e3 => ?_)
  · skip
    refine UP.ifT rfl cc ?_
    refine UP.stp 2 (i1 := 9) (L1 := [some (.ref 123), some (.int what)]) (st1 := [.int 1, .int what]) (s1 := z1) rfl ?_
    refine mrg (m_cmp .ne what 1) (z1 123 7) (z1 123 5) (fun v2 : Int32 => UP m_X7_tellOf 15 [some (.ref 123), some (.int what)] [.int v2] z1 (Qb (F_tellOf s what))) (fun cc kk => ?_) (fun cc kk => ?_) (fun v2 e2 => ?_)
    · skip
      refine UP.icT rfl cc ?_
      refine UP.stp 2 (i1 := 15) (L1 := [some (.ref 123), some (.int what)]) (st1 := [.int (z1 123 7)]) (s1 := z1) rfl ?_
      exact kk
    · skip
      refine UP.icF rfl cc ?_
      refine UP.stp 3 (i1 := 15) (L1 := [some (.ref 123), some (.int what)]) (st1 := [.int (z1 123 5)]) (s1 := z1) rfl ?_
      exact kk
    subst e2
    exact kk
  · skip
    refine UP.ifF rfl cc ?_
    refine UP.stp 3 (i1 := 15) (L1 := [some (.ref 123), some (.int what)]) (st1 := [.int (z1 123 2)]) (s1 := z1) rfl ?_
    exact kk
  exact UP.ret (r := some (.int v3)) rfl ⟨by subst e3 e1; first | (dsimp only [F_tellOf]; done) | (dsimp only; done) | rfl, by subst e3 e1; first | (dsimp only [F_tellOf]; done) | (dsimp only; done) | rfl⟩
