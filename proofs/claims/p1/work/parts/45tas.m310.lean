def W_years : List (Nat × Nat × Option Nat) := [(126, 129, none), (133, 144, none), (147, 147, none), (123, 123, some 2), (123, 123, some 5), (123, 123, some 7), (123, 123, some 17), (123, 123, some 19), (123, 123, some 20), (123, 123, some 21), (123, 123, some 22), (123, 123, some 23), (123, 123, some 24), (123, 123, some 25), (123, 123, some 26), (123, 123, some 27)]
def F_years (s : SG) (seed : Int32) (n : Int32) (what : Int32) : Int32 × SG := let w5 := bif m_cmp .eq (F_in s n 0 24) 0 then ((-2 : Int32), s) else (bif m_cmp .eq (F_isTwo s what) 0 then ((-2 : Int32), s) else (F_yearsOf s seed n what)); w5
set_option maxRecDepth 20000 in
set_option maxHeartbeats 200000 in
theorem fr_years (s : SG) (seed : Int32) (n : Int32) (what : Int32)  : Fr W_years s (F_years s seed n what).2 := by dsimp only [F_years]; exact (Fr.bifp (b := m_cmp .eq (F_in s n 0 24) 0) (x := ((-2 : Int32), s)) (y := (bif m_cmp .eq (F_isTwo s what) 0 then ((-2 : Int32), s) else (F_yearsOf s seed n what))) (fun x : Int32 × SG => x.2) (by (try dsimp only); exact (Fr.rf _ _)) (by (try dsimp only); exact (Fr.bifp (b := m_cmp .eq (F_isTwo s what) 0) (x := ((-2 : Int32), s)) (y := (F_yearsOf s seed n what)) (fun x : Int32 × SG => x.2) (by (try dsimp only); exact (Fr.rf _ _)) (by (try dsimp only); exact (Fr.tr (s1 := s) (Fr.rf _ _) (Fr.wk (W2 := W_years) (fr_yearsOf s seed n what) (by rfl)))))))
set_option maxRecDepth 20000 in
set_option maxHeartbeats 200000 in
theorem ux_years (s : SG) (seed : Int32) (n : Int32) (what : Int32)  : UP m_X7_years 0 (m_ent 4 [.ref 123, .int seed, .int n, .int what]) [] s (Qb (F_years s seed n what)) := by
  refine UP.stp 3 (i1 := 3) (L1 := [some (.ref 123), some (.int seed), some (.int n), some (.int what)]) (st1 := [.int 24, .int 0, .int n]) (s1 := s) rfl ?_
  refine UP.cI (M1 := m_X7_in) (as := [.int n, .int 0, .int 24]) (rest := []) (T := F_in s n 0 24) rfl rfl (ux_in s n 0 24) ?_
  refine mrg (m_cmp .eq (F_in s n 0 24) 0) ((-2 : Int32), s) (bif m_cmp .eq (F_isTwo s what) 0 then ((-2 : Int32), s) else (F_yearsOf s seed n what)) (fun w5 : Int32 × SG => UP m_X7_years 15 [some (.ref 123), some (.int seed), some (.int n), some (.int what)] [.int w5.1] w5.2 (Qb (F_years s seed n what))) (fun cc kk => ?_) (fun cc kk => ?_) (fun w5 e5 => ?_)
  · skip
    refine UP.ifT rfl cc ?_
    refine UP.stp 1 (i1 := 15) (L1 := [some (.ref 123), some (.int seed), some (.int n), some (.int what)]) (st1 := [.int (-2)]) (s1 := s) rfl ?_
    exact kk
  · skip
    refine UP.ifF rfl cc ?_
    refine UP.stp 1 (i1 := 6) (L1 := [some (.ref 123), some (.int seed), some (.int n), some (.int what)]) (st1 := [.int what]) (s1 := s) rfl ?_
    refine UP.cI (M1 := m_X7_isTwo) (as := [.int what]) (rest := []) (T := F_isTwo s what) rfl rfl (ux_isTwo s what) ?_
    refine mrg (m_cmp .eq (F_isTwo s what) 0) ((-2 : Int32), s) (F_yearsOf s seed n what) (fun w4 : Int32 × SG => UP m_X7_years 15 [some (.ref 123), some (.int seed), some (.int n), some (.int what)] [.int w4.1] w4.2 (Qb (F_years s seed n what))) (fun cc kk => ?_) (fun cc kk => ?_) (fun w4 e4 => ?_)
    · skip
      refine UP.ifT rfl cc ?_
      refine UP.stp 1 (i1 := 15) (L1 := [some (.ref 123), some (.int seed), some (.int n), some (.int what)]) (st1 := [.int (-2)]) (s1 := s) rfl ?_
      exact kk
    · skip
      refine UP.ifF rfl cc ?_
      refine UP.stp 4 (i1 := 12) (L1 := [some (.ref 123), some (.int seed), some (.int n), some (.int what)]) (st1 := [.int what, .int n, .int seed, .ref 123]) (s1 := s) rfl ?_
      refine UP.cB (M1 := m_X7_yearsOf) (as := [.ref 123, .int seed, .int n, .int what]) (rest := []) (T := F_yearsOf s seed n what) rfl rfl (ux_yearsOf s seed n what) (fun z3 e3 => ?_)
      refine UP.stp 1 (i1 := 15) (L1 := [some (.ref 123), some (.int seed), some (.int n), some (.int what)]) (st1 := [.int z3.1]) (s1 := z3.2) rfl ?_
      subst e3
      exact kk
    subst e4
    exact kk
  exact UP.ret (r := some (.int w5.1)) rfl ⟨by subst e5; first | (dsimp only [F_years]; done) | (dsimp only; done) | rfl, by subst e5; first | (dsimp only [F_years]; done) | (dsimp only; done) | rfl⟩
