def W_ask : List (Nat × Nat × Option Nat) := [(126, 129, none), (133, 144, none), (147, 147, none), (123, 123, some 2), (123, 123, some 5), (123, 123, some 7), (123, 123, some 17), (123, 123, some 19), (123, 123, some 20), (123, 123, some 21), (123, 123, some 22), (123, 123, some 23), (123, 123, some 24), (123, 123, some 25), (123, 123, some 26), (123, 123, some 27)]
def F_ask (s : SG) (seat : Int32) : Int32 × SG := let z1 := F_isRower s seat; let w3 := bif m_cmp .eq z1.1 0 then ((-2 : Int32), z1.2) else (F_askOf z1.2 seat); w3
set_option maxRecDepth 20000 in
set_option maxHeartbeats 200000 in
theorem fr_ask (s : SG) (seat : Int32)  : Fr W_ask s (F_ask s seat).2 := by dsimp only [F_ask]; exact (let z1 : Int32 × SG := F_isRower s seat; (Fr.bifp (b := m_cmp .eq z1.1 0) (x := ((-2 : Int32), z1.2)) (y := (F_askOf z1.2 seat)) (fun x : Int32 × SG => x.2) (by (try dsimp only); exact (Fr.tr (s1 := s) (Fr.rf _ _) (Fr.wk (W2 := W_ask) (fr_isRower s seat) (by rfl)))) (by (try dsimp only); exact (Fr.tr (s1 := z1.2) (Fr.tr (s1 := s) (Fr.rf _ _) (Fr.wk (W2 := W_ask) (fr_isRower s seat) (by rfl))) (Fr.wk (W2 := W_ask) (fr_askOf z1.2 seat) (by rfl))))))
set_option maxRecDepth 20000 in
set_option maxHeartbeats 200000 in
theorem ux_ask (s : SG) (seat : Int32)  : UP m_X7_ask 0 (m_ent 2 [.ref 123, .int seat]) [] s (Qb (F_ask s seat)) := by
  refine UP.stp 2 (i1 := 2) (L1 := [some (.ref 123), some (.int seat)]) (st1 := [.int seat, .ref 123]) (s1 := s) rfl ?_
  refine UP.cB (M1 := m_X7_isRower) (as := [.ref 123, .int seat]) (rest := []) (T := F_isRower s seat) rfl rfl (ux_isRower s seat) (fun z1 e1 => ?_)
  refine mrg (m_cmp .eq z1.1 0) ((-2 : Int32), z1.2) (F_askOf z1.2 seat) (fun w3 : Int32 × SG => UP m_X7_ask 9 [some (.ref 123), some (.int seat)] [.int w3.1] w3.2 (Qb (F_ask s seat))) (fun cc kk => ?_) (fun cc kk => ?_) (fun w3 e3 => ?_)
  · skip
    refine UP.ifT rfl cc ?_
    refine UP.stp 1 (i1 := 9) (L1 := [some (.ref 123), some (.int seat)]) (st1 := [.int (-2)]) (s1 := z1.2) rfl ?_
    exact kk
  · skip
    refine UP.ifF rfl cc ?_
    refine UP.stp 2 (i1 := 6) (L1 := [some (.ref 123), some (.int seat)]) (st1 := [.int seat, .ref 123]) (s1 := z1.2) rfl ?_
    refine UP.cB (M1 := m_X7_askOf) (as := [.ref 123, .int seat]) (rest := []) (T := F_askOf z1.2 seat) rfl rfl (ux_askOf z1.2 seat) (fun z2 e2 => ?_)
    refine UP.stp 1 (i1 := 9) (L1 := [some (.ref 123), some (.int seat)]) (st1 := [.int z2.1]) (s1 := z2.2) rfl ?_
    subst e2
    exact kk
  exact UP.ret (r := some (.int w3.1)) rfl ⟨by subst e3 e1; first | (dsimp only [F_ask]; done) | (dsimp only; done) | rfl, by subst e3 e1; first | (dsimp only [F_ask]; done) | (dsimp only; done) | rfl⟩
def W_isSpared : List (Nat × Nat × Option Nat) := [(126, 129, none), (133, 144, none), (147, 147, none), (123, 123, some 2), (123, 123, some 5), (123, 123, some 7), (123, 123, some 17), (123, 123, some 19), (123, 123, some 20), (123, 123, some 21), (123, 123, some 22), (123, 123, some 23), (123, 123, some 24), (123, 123, some 25), (123, 123, some 26), (123, 123, some 27)]
def F_isSpared (s : SG) (not_ : Int32) : Int32 × SG := let z1 := F_runs (uset s 123 17 not_) ; let v2 := bif m_cmp .ne (z1 123 22) 0 then (0 : Int32) else (1 : Int32); (v2, z1)
set_option maxRecDepth 20000 in
set_option maxHeartbeats 200000 in
theorem fr_isSpared (s : SG) (not_ : Int32)  : Fr W_isSpared s (F_isSpared s not_).2 := by dsimp only [F_isSpared]; exact (Fr.tr (s1 := (uset s 123 17 not_)) (Fr.uset (s1 := s) (a := 123) (j := 17) (x := not_) (by rfl) (Fr.rf _ _)) (Fr.wk (W2 := W_isSpared) (fr_runs (uset s 123 17 not_) ) (by rfl)))
set_option maxRecDepth 20000 in
set_option maxHeartbeats 200000 in
theorem ux_isSpared (s : SG) (not_ : Int32)  : UP m_X7_isSpared 0 (m_ent 2 [.ref 123, .int not_]) [] s (Qb (F_isSpared s not_)) := by
  refine UP.stp 4 (i1 := 4) (L1 := [some (.ref 123), some (.int not_)]) (st1 := [.ref 123]) (s1 := (uset s 123 17 not_)) rfl ?_
  refine UP.cV (M1 := m_X7_runs) (as := [.ref 123]) (rest := []) (T := F_runs (uset s 123 17 not_) ) rfl rfl (ux_runs (uset s 123 17 not_) ) (fun z1 e1 => ?_)
  refine UP.stp 2 (i1 := 7) (L1 := [some (.ref 123), some (.int not_)]) (st1 := [.int (z1 123 22)]) (s1 := z1) rfl ?_
  refine mrg (m_cmp .ne (z1 123 22) 0) (0 : Int32) (1 : Int32) (fun v2 : Int32 => UP m_X7_isSpared 11 [some (.ref 123), some (.int not_)] [.int v2] z1 (Qb (F_isSpared s not_))) (fun cc kk => ?_) (fun cc kk => ?_) (fun v2 e2 => ?_)
  · skip
    refine UP.ifT rfl cc ?_
    refine UP.stp 1 (i1 := 11) (L1 := [some (.ref 123), some (.int not_)]) (st1 := [.int 0]) (s1 := z1) rfl ?_
    exact kk
  · skip
    refine UP.ifF rfl cc ?_
    refine UP.stp 2 (i1 := 11) (L1 := [some (.ref 123), some (.int not_)]) (st1 := [.int 1]) (s1 := z1) rfl ?_
    exact kk
  exact UP.ret (r := some (.int v2)) rfl ⟨by subst e2 e1; first | (dsimp only [F_isSpared]; done) | (dsimp only; done) | rfl, by subst e2 e1; first | (dsimp only [F_isSpared]; done) | (dsimp only; done) | rfl⟩
def W_ofRow : List (Nat × Nat × Option Nat) := []
def F_ofRow (s : SG) (n : Int32) (i : Int32) : Int32 := let v2 := bif m_cmp .ne i (-1) then (bif m_cmp .ge i n then (-1 : Int32) else s 144 i.toNatClampNeg) else n; v2
set_option maxRecDepth 20000 in
set_option maxHeartbeats 200000 in
theorem ux_ofRow (s : SG) (n : Int32) (i : Int32)  : UP m_X7_ofRow 0 (m_ent 3 [.ref 123, .int n, .int i]) [] s (Qi s (F_ofRow s n i)) := by
  refine UP.stp 2 (i1 := 2) (L1 := [some (.ref 123), some (.int n), some (.int i)]) (st1 := [.int (-1), .int i]) (s1 := s) rfl ?_
  refine mrg (m_cmp .ne i (-1)) (bif m_cmp .ge i n then (-1 : Int32) else s 144 i.toNatClampNeg) n (fun v2 : Int32 => UP m_X7_ofRow 14 [some (.ref 123), some (.int n), some (.int i)] [.int v2] s (Qi s (F_ofRow s n i))) (fun cc kk => ?_) (fun cc kk => ?_) (fun v2 e2 => ?_)
  · skip
    refine UP.icT rfl cc ?_
    refine UP.stp 2 (i1 := 7) (L1 := [some (.ref 123), some (.int n), some (.int i)]) (st1 := [.int n, .int i]) (s1 := s) rfl ?_
    refine mrg (m_cmp .ge i n) (-1 : Int32) (s 144 i.toNatClampNeg) (fun v1 : Int32 => UP m_X7_ofRow 14 [some (.ref 123), some (.int n), some (.int i)] [.int v1] s (Qi s (F_ofRow s n i))) (fun cc kk => ?_) (fun cc kk => ?_) (fun v1 e1 => ?_)
    · skip
      refine UP.icT rfl cc ?_
      refine UP.stp 1 (i1 := 14) (L1 := [some (.ref 123), some (.int n), some (.int i)]) (st1 := [.int (-1)]) (s1 := s) rfl ?_
      exact kk
    · skip
      refine UP.icF rfl cc ?_
      refine UP.stp 5 (i1 := 14) (L1 := [some (.ref 123), some (.int n), some (.int i)]) (st1 := [.int (s 144 i.toNatClampNeg)]) (s1 := s) rfl ?_
      exact kk
    subst e1
    exact kk
  · skip
    refine UP.icF rfl cc ?_
    refine UP.stp 2 (i1 := 14) (L1 := [some (.ref 123), some (.int n), some (.int i)]) (st1 := [.int n]) (s1 := s) rfl ?_
    exact kk
  exact UP.ret (r := some (.int v2)) rfl ⟨by subst e2; first | (dsimp only [F_ofRow]; done) | (dsimp only; done) | rfl, by subst e2; first | (dsimp only [F_ofRow]; done) | (dsimp only; done) | rfl⟩
