def W_atOf : List (Nat × Nat × Option Nat) := [(126, 129, none), (133, 144, none), (147, 147, none), (123, 123, some 2), (123, 123, some 5), (123, 123, some 7), (123, 123, some 17), (123, 123, some 19), (123, 123, some 20), (123, 123, some 21), (123, 123, some 22), (123, 123, some 23), (123, 123, some 24), (123, 123, some 25), (123, 123, some 26), (123, 123, some 27)]
def F_atOf (s : SG) (minute : Int32) (what : Int32) : Int32 × SG := let z1 := F_runsTold s ; bif m_cmp .eq what 0 then ((z1 139 minute.toNatClampNeg, z1)) else (bif m_cmp .eq what 1 then ((z1 140 minute.toNatClampNeg, z1)) else (bif m_cmp .eq what 2 then ((z1 141 ((2 * minute).toNatClampNeg), z1)) else (bif m_cmp .eq what 3 then ((z1 141 (((2 * minute) + 1).toNatClampNeg), z1)) else ((z1 142 minute.toNatClampNeg, z1)))))
set_option maxRecDepth 20000 in
set_option maxHeartbeats 200000 in
theorem fr_atOf (s : SG) (minute : Int32) (what : Int32)  : Fr W_atOf s (F_atOf s minute what).2 := by dsimp only [F_atOf]; exact (let z1 : SG := F_runsTold s ; (Fr.bifp (b := m_cmp .eq what 0) (x := (z1 139 minute.toNatClampNeg, z1)) (y := bif m_cmp .eq what 1 then ((z1 140 minute.toNatClampNeg, z1)) else (bif m_cmp .eq what 2 then ((z1 141 ((2 * minute).toNatClampNeg), z1)) else (bif m_cmp .eq what 3 then ((z1 141 (((2 * minute) + 1).toNatClampNeg), z1)) else ((z1 142 minute.toNatClampNeg, z1))))) (fun x : Int32 × SG => x.2) (by (try dsimp only); exact (Fr.tr (s1 := s) (Fr.rf _ _) (Fr.wk (W2 := W_atOf) (fr_runsTold s ) (by rfl)))) (by (try dsimp only); exact (Fr.bifp (b := m_cmp .eq what 1) (x := (z1 140 minute.toNatClampNeg, z1)) (y := bif m_cmp .eq what 2 then ((z1 141 ((2 * minute).toNatClampNeg), z1)) else (bif m_cmp .eq what 3 then ((z1 141 (((2 * minute) + 1).toNatClampNeg), z1)) else ((z1 142 minute.toNatClampNeg, z1)))) (fun x : Int32 × SG => x.2) (by (try dsimp only); exact (Fr.tr (s1 := s) (Fr.rf _ _) (Fr.wk (W2 := W_atOf) (fr_runsTold s ) (by rfl)))) (by (try dsimp only); exact (Fr.bifp (b := m_cmp .eq what 2) (x := (z1 141 ((2 * minute).toNatClampNeg), z1)) (y := bif m_cmp .eq what 3 then ((z1 141 (((2 * minute) + 1).toNatClampNeg), z1)) else ((z1 142 minute.toNatClampNeg, z1))) (fun x : Int32 × SG => x.2) (by (try dsimp only); exact (Fr.tr (s1 := s) (Fr.rf _ _) (Fr.wk (W2 := W_atOf) (fr_runsTold s ) (by rfl)))) (by (try dsimp only); exact (Fr.bifp (b := m_cmp .eq what 3) (x := (z1 141 (((2 * minute) + 1).toNatClampNeg), z1)) (y := (z1 142 minute.toNatClampNeg, z1)) (fun x : Int32 × SG => x.2) (by (try dsimp only); exact (Fr.tr (s1 := s) (Fr.rf _ _) (Fr.wk (W2 := W_atOf) (fr_runsTold s ) (by rfl)))) (by (try dsimp only); exact (Fr.tr (s1 := s) (Fr.rf _ _) (Fr.wk (W2 := W_atOf) (fr_runsTold s ) (by rfl))))))))))))
set_option maxRecDepth 20000 in
set_option maxHeartbeats 200000 in
theorem ux_atOf (s : SG) (minute : Int32) (what : Int32)  : UP m_X7_atOf 0 (m_ent 3 [.ref 123, .int minute, .int what]) [] s (Qb (F_atOf s minute what)) := by
  refine UP.stp 1 (i1 := 1) (L1 := [some (.ref 123), some (.int minute), some (.int what)]) (st1 := [.ref 123]) (s1 := s) rfl ?_
  refine UP.cV (M1 := m_X7_runsTold) (as := [.ref 123]) (rest := []) (T := F_runsTold s ) rfl rfl (ux_runsTold s ) (fun z1 e1 => ?_)
  refine UP.stp 1 (i1 := 3) (L1 := [some (.ref 123), some (.int minute), some (.int what)]) (st1 := [.int what]) (s1 := z1) rfl ?_
  refine UP.spl (m_cmp .eq what 0) ((z1 139 minute.toNatClampNeg, z1)) (bif m_cmp .eq what 1 then ((z1 140 minute.toNatClampNeg, z1)) else (bif m_cmp .eq what 2 then ((z1 141 ((2 * minute).toNatClampNeg), z1)) else (bif m_cmp .eq what 3 then ((z1 141 (((2 * minute) + 1).toNatClampNeg), z1)) else ((z1 142 minute.toNatClampNeg, z1))))) (by subst e1; first | (dsimp only [F_atOf]; done) | (dsimp only; done) | rfl) (fun cs0 => ?_) (fun cs0 => ?_)
  · skip
    refine UP.swT 0 rfl cs0 (by decide) (by decide) ?_
    refine UP.stp 4 (i1 := 8) (L1 := [some (.ref 123), some (.int minute), some (.int what)]) (st1 := [.int (z1 139 minute.toNatClampNeg)]) (s1 := z1) rfl ?_
    exact UP.ret (r := some (.int (z1 139 minute.toNatClampNeg))) rfl ⟨by subst e1; first | (dsimp only [F_atOf]; done) | (dsimp only; done) | rfl, by subst e1; first | (dsimp only [F_atOf]; done) | (dsimp only; done) | rfl⟩
  · skip
    refine UP.spl (m_cmp .eq what 1) ((z1 140 minute.toNatClampNeg, z1)) (bif m_cmp .eq what 2 then ((z1 141 ((2 * minute).toNatClampNeg), z1)) else (bif m_cmp .eq what 3 then ((z1 141 (((2 * minute) + 1).toNatClampNeg), z1)) else ((z1 142 minute.toNatClampNeg, z1)))) (by subst e1; first | (dsimp only [F_atOf]; done) | (dsimp only; done) | rfl) (fun cs1 => ?_) (fun cs1 => ?_)
    · skip
      refine UP.swT 1 rfl cs1 (by decide) (by decide) ?_
      refine UP.stp 4 (i1 := 13) (L1 := [some (.ref 123), some (.int minute), some (.int what)]) (st1 := [.int (z1 140 minute.toNatClampNeg)]) (s1 := z1) rfl ?_
      exact UP.ret (r := some (.int (z1 140 minute.toNatClampNeg))) rfl ⟨by subst e1; first | (dsimp only [F_atOf]; done) | (dsimp only; done) | rfl, by subst e1; first | (dsimp only [F_atOf]; done) | (dsimp only; done) | rfl⟩
    · skip
      refine UP.spl (m_cmp .eq what 2) ((z1 141 ((2 * minute).toNatClampNeg), z1)) (bif m_cmp .eq what 3 then ((z1 141 (((2 * minute) + 1).toNatClampNeg), z1)) else ((z1 142 minute.toNatClampNeg, z1))) (by subst e1; first | (dsimp only [F_atOf]; done) | (dsimp only; done) | rfl) (fun cs2 => ?_) (fun cs2 => ?_)
      · skip
        refine UP.swT 2 rfl cs2 (by decide) (by decide) ?_
        refine UP.stp 6 (i1 := 20) (L1 := [some (.ref 123), some (.int minute), some (.int what)]) (st1 := [.int (z1 141 ((2 * minute).toNatClampNeg))]) (s1 := z1) rfl ?_
        exact UP.ret (r := some (.int (z1 141 ((2 * minute).toNatClampNeg)))) rfl ⟨by subst e1; first | (dsimp only [F_atOf]; done) | (dsimp only; done) | rfl, by subst e1; first | (dsimp only [F_atOf]; done) | (dsimp only; done) | rfl⟩
      · skip
        refine UP.spl (m_cmp .eq what 3) ((z1 141 (((2 * minute) + 1).toNatClampNeg), z1)) ((z1 142 minute.toNatClampNeg, z1)) (by subst e1; first | (dsimp only [F_atOf]; done) | (dsimp only; done) | rfl) (fun cs3 => ?_) (fun cs3 => ?_)
        · skip
          refine UP.swT 3 rfl cs3 (by decide) (by decide) ?_
          refine UP.stp 8 (i1 := 29) (L1 := [some (.ref 123), some (.int minute), some (.int what)]) (st1 := [.int (z1 141 (((2 * minute) + 1).toNatClampNeg))]) (s1 := z1) rfl ?_
          exact UP.ret (r := some (.int (z1 141 (((2 * minute) + 1).toNatClampNeg)))) rfl ⟨by subst e1; first | (dsimp only [F_atOf]; done) | (dsimp only; done) | rfl, by subst e1; first | (dsimp only [F_atOf]; done) | (dsimp only; done) | rfl⟩
        · skip
          refine UP.swD rfl (by have c0_ : what.toInt ≠ 0 := ne_int cs0; have c1_ : what.toInt ≠ 1 := ne_int cs1; have c2_ : what.toInt ≠ 2 := ne_int cs2; have c3_ : what.toInt ≠ 3 := ne_int cs3; omega) ?_
          refine UP.stp 4 (i1 := 34) (L1 := [some (.ref 123), some (.int minute), some (.int what)]) (st1 := [.int (z1 142 minute.toNatClampNeg)]) (s1 := z1) rfl ?_
          exact UP.ret (r := some (.int (z1 142 minute.toNatClampNeg))) rfl ⟨by subst e1; first | (dsimp only [F_atOf]; done) | (dsimp only; done) | rfl, by subst e1; first | (dsimp only [F_atOf]; done) | (dsimp only; done) | rfl⟩
def W_at : List (Nat × Nat × Option Nat) := [(126, 129, none), (133, 144, none), (147, 147, none), (123, 123, some 2), (123, 123, some 5), (123, 123, some 7), (123, 123, some 17), (123, 123, some 19), (123, 123, some 20), (123, 123, some 21), (123, 123, some 22), (123, 123, some 23), (123, 123, some 24), (123, 123, some 25), (123, 123, some 26), (123, 123, some 27)]
def F_at (s : SG) (minute : Int32) (what : Int32) : Int32 × SG := let w5 := bif m_cmp .eq (F_isMinute s minute) 0 then ((-2 : Int32), s) else (bif m_cmp .eq (F_in s what 0 4) 0 then ((-2 : Int32), s) else (F_atOf s minute what)); w5
set_option maxRecDepth 20000 in
set_option maxHeartbeats 200000 in
theorem fr_at (s : SG) (minute : Int32) (what : Int32)  : Fr W_at s (F_at s minute what).2 := by dsimp only [F_at]; exact (Fr.bifp (b := m_cmp .eq (F_isMinute s minute) 0) (x := ((-2 : Int32), s)) (y := (bif m_cmp .eq (F_in s what 0 4) 0 then ((-2 : Int32), s) else (F_atOf s minute what))) (fun x : Int32 × SG => x.2) (by (try dsimp only); exact (Fr.rf _ _)) (by (try dsimp only); exact (Fr.bifp (b := m_cmp .eq (F_in s what 0 4) 0) (x := ((-2 : Int32), s)) (y := (F_atOf s minute what)) (fun x : Int32 × SG => x.2) (by (try dsimp only); exact (Fr.rf _ _)) (by (try dsimp only); exact (Fr.tr (s1 := s) (Fr.rf _ _) (Fr.wk (W2 := W_at) (fr_atOf s minute what) (by rfl)))))))
set_option maxRecDepth 20000 in
set_option maxHeartbeats 200000 in
theorem ux_at (s : SG) (minute : Int32) (what : Int32)  : UP m_X7_at 0 (m_ent 3 [.ref 123, .int minute, .int what]) [] s (Qb (F_at s minute what)) := by
  refine UP.stp 1 (i1 := 1) (L1 := [some (.ref 123), some (.int minute), some (.int what)]) (st1 := [.int minute]) (s1 := s) rfl ?_
  refine UP.cI (M1 := m_X7_isMinute) (as := [.int minute]) (rest := []) (T := F_isMinute s minute) rfl rfl (ux_isMinute s minute) ?_
  refine mrg (m_cmp .eq (F_isMinute s minute) 0) ((-2 : Int32), s) (bif m_cmp .eq (F_in s what 0 4) 0 then ((-2 : Int32), s) else (F_atOf s minute what)) (fun w5 : Int32 × SG => UP m_X7_at 14 [some (.ref 123), some (.int minute), some (.int what)] [.int w5.1] w5.2 (Qb (F_at s minute what))) (fun cc kk => ?_) (fun cc kk => ?_) (fun w5 e5 => ?_)
  · skip
    refine UP.ifT rfl cc ?_
    refine UP.stp 1 (i1 := 14) (L1 := [some (.ref 123), some (.int minute), some (.int what)]) (st1 := [.int (-2)]) (s1 := s) rfl ?_
    exact kk
  · skip
    refine UP.ifF rfl cc ?_
    refine UP.stp 3 (i1 := 6) (L1 := [some (.ref 123), some (.int minute), some (.int what)]) (st1 := [.int 4, .int 0, .int what]) (s1 := s) rfl ?_
    refine UP.cI (M1 := m_X7_in) (as := [.int what, .int 0, .int 4]) (rest := []) (T := F_in s what 0 4) rfl rfl (ux_in s what 0 4) ?_
    refine mrg (m_cmp .eq (F_in s what 0 4) 0) ((-2 : Int32), s) (F_atOf s minute what) (fun w4 : Int32 × SG => UP m_X7_at 14 [some (.ref 123), some (.int minute), some (.int what)] [.int w4.1] w4.2 (Qb (F_at s minute what))) (fun cc kk => ?_) (fun cc kk => ?_) (fun w4 e4 => ?_)
    · skip
      refine UP.ifT rfl cc ?_
      refine UP.stp 1 (i1 := 14) (L1 := [some (.ref 123), some (.int minute), some (.int what)]) (st1 := [.int (-2)]) (s1 := s) rfl ?_
      exact kk
    · skip
      refine UP.ifF rfl cc ?_
      refine UP.stp 3 (i1 := 11) (L1 := [some (.ref 123), some (.int minute), some (.int what)]) (st1 := [.int what, .int minute, .ref 123]) (s1 := s) rfl ?_
      refine UP.cB (M1 := m_X7_atOf) (as := [.ref 123, .int minute, .int what]) (rest := []) (T := F_atOf s minute what) rfl rfl (ux_atOf s minute what) (fun z3 e3 => ?_)
      refine UP.stp 1 (i1 := 14) (L1 := [some (.ref 123), some (.int minute), some (.int what)]) (st1 := [.int z3.1]) (s1 := z3.2) rfl ?_
      subst e3
      exact kk
    subst e4
    exact kk
  exact UP.ret (r := some (.int w5.1)) rfl ⟨by subst e5; first | (dsimp only [F_at]; done) | (dsimp only; done) | rfl, by subst e5; first | (dsimp only [F_at]; done) | (dsimp only; done) | rfl⟩
