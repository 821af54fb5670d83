def W_cpulls : List (Nat × Nat × Option Nat) := [(16, 20, none), (22, 45, none), (46, 52, none), (15, 15, some 8), (59, 63, none), (65, 88, none), (89, 95, none), (58, 58, some 8), (53, 57, none), (96, 108, none), (0, 0, some 12), (0, 0, some 13)]
def F_cpulls (s : SG) (minute : Int32) (seat : Int32) : Int32 × SG := bif m_cmp .eq (F_isBelow s minute 24) 0 then (((-2), s)) else (bif m_cmp .ne (F_cisRower s seat) 0 then (let z7 := F_toldTrip s ; (z7 (22 + minute.toNatClampNeg) seat.toNatClampNeg, z7)) else (((-2), s)))
set_option maxRecDepth 20000 in
set_option maxHeartbeats 200000 in
theorem fr_cpulls (s : SG) (minute : Int32) (seat : Int32)  : Fr W_cpulls s (F_cpulls s minute seat).2 := by dsimp only [F_cpulls]; exact (Fr.bifp (b := m_cmp .eq (F_isBelow s minute 24) 0) (x := ((-2), s)) (y := bif m_cmp .ne (F_cisRower s seat) 0 then (let z7 := F_toldTrip s ; (z7 (22 + minute.toNatClampNeg) seat.toNatClampNeg, z7)) else (((-2), s))) (fun x : Int32 × SG => x.2) (by (try dsimp only); exact (Fr.rf _ _)) (by (try dsimp only); exact (Fr.bifp (b := m_cmp .ne (F_cisRower s seat) 0) (x := let z7 := F_toldTrip s ; (z7 (22 + minute.toNatClampNeg) seat.toNatClampNeg, z7)) (y := ((-2), s)) (fun x : Int32 × SG => x.2) (by (try dsimp only); exact (Fr.tr (s1 := s) (Fr.rf _ _) (Fr.wk (W2 := W_cpulls) (fr_toldTrip s ) (by rfl)))) (by (try dsimp only); exact (Fr.rf _ _)))))
set_option maxRecDepth 20000 in
set_option maxHeartbeats 200000 in
theorem ux_cpulls (s : SG) (minute : Int32) (seat : Int32)  : UP m_X6_pulls 0 (m_ent 3 [.ref 0, .int minute, .int seat]) [] s (Qb (F_cpulls s minute seat)) := by
  refine UP.stp 2 (i1 := 2) (L1 := [some (.ref 0), some (.int minute), some (.int seat)]) (st1 := [.int 24, .int minute]) (s1 := s) rfl ?_
  refine UP.cI (M1 := m_X6_isBelow) (as := [.int minute, .int 24]) (rest := []) (T := F_isBelow s minute 24) rfl rfl (ux_isBelow s minute 24) ?_
  refine UP.spl (m_cmp .eq (F_isBelow s minute 24) 0) (((-2), s)) (bif m_cmp .ne (F_cisRower s seat) 0 then (let z7 := F_toldTrip s ; (z7 (22 + minute.toNatClampNeg) seat.toNatClampNeg, z7)) else (((-2), s))) (by first | (dsimp only [F_cpulls]; done) | (dsimp only; done) | rfl) (fun cc => ?_) (fun cc => ?_)
  · skip
    refine UP.ifT rfl cc ?_
    refine UP.stp 1 (i1 := 9) (L1 := [some (.ref 0), some (.int minute), some (.int seat)]) (st1 := [.int (-2)]) (s1 := s) rfl ?_
    exact UP.ret (r := some (.int (-2))) rfl ⟨by first | (dsimp only [F_cpulls]; done) | (dsimp only; done) | rfl, by first | (dsimp only [F_cpulls]; done) | (dsimp only; done) | rfl⟩
  · skip
    refine UP.ifF rfl cc ?_
    refine UP.stp 2 (i1 := 6) (L1 := [some (.ref 0), some (.int minute), some (.int seat)]) (st1 := [.int seat, .ref 0]) (s1 := s) rfl ?_
    refine UP.cI (M1 := m_X6_isRower) (as := [.ref 0, .int seat]) (rest := []) (T := F_cisRower s seat) rfl rfl (ux_cisRower s seat) ?_
    refine UP.spl (m_cmp .ne (F_cisRower s seat) 0) (let z7 := F_toldTrip s ; (z7 (22 + minute.toNatClampNeg) seat.toNatClampNeg, z7)) (((-2), s)) (by first | (dsimp only [F_cpulls]; done) | (dsimp only; done) | rfl) (fun cc => ?_) (fun cc => ?_)
    · skip
      refine UP.ifT rfl cc ?_
      refine UP.stp 1 (i1 := 11) (L1 := [some (.ref 0), some (.int minute), some (.int seat)]) (st1 := [.ref 0]) (s1 := s) rfl ?_
      refine UP.cR (M1 := m_X6_toldTrip) (as := [.ref 0]) (rest := []) (T := F_toldTrip s ) (a := 15) rfl rfl (ux_toldTrip s ) (fun z7 e7 => ?_)
      refine UP.stp 2 (i1 := 14) (L1 := [some (.ref 0), some (.int minute), some (.int seat)]) (st1 := [.int minute, .ref 21]) (s1 := z7) rfl ?_
      refine UP.stp 3 (i1 := 17) (L1 := [some (.ref 0), some (.int minute), some (.int seat)]) (st1 := [.int (z7 (22 + minute.toNatClampNeg) seat.toNatClampNeg)]) (s1 := z7) rfl ?_
      exact UP.ret (r := some (.int (z7 (22 + minute.toNatClampNeg) seat.toNatClampNeg))) rfl ⟨by subst e7; first | (dsimp only [F_cpulls]; done) | (dsimp only; done) | rfl, by subst e7; first | (dsimp only [F_cpulls]; done) | (dsimp only; done) | rfl⟩
    · skip
      refine UP.ifF rfl cc ?_
      refine UP.stp 1 (i1 := 9) (L1 := [some (.ref 0), some (.int minute), some (.int seat)]) (st1 := [.int (-2)]) (s1 := s) rfl ?_
      exact UP.ret (r := some (.int (-2))) rfl ⟨by first | (dsimp only [F_cpulls]; done) | (dsimp only; done) | rfl, by first | (dsimp only [F_cpulls]; done) | (dsimp only; done) | rfl⟩
def W_cdone : List (Nat × Nat × Option Nat) := [(16, 20, none), (22, 45, none), (46, 52, none), (15, 15, some 8), (59, 63, none), (65, 88, none), (89, 95, none), (58, 58, some 8), (53, 57, none), (96, 108, none), (0, 0, some 12), (0, 0, some 13)]
def F_cdone (s : SG) (seat : Int32) (what : Int32) : Int32 × SG := bif m_cmp .eq (F_cisRower s seat) 0 then (((-2), s)) else (bif m_cmp .ne (F_isBelow s what 2) 0 then (let z7 := F_toldTrip s ; let v8 := bif m_cmp .ne what 0 then z7 47 seat.toNatClampNeg else z7 46 seat.toNatClampNeg; (v8, z7)) else (((-2), s)))
set_option maxRecDepth 20000 in
set_option maxHeartbeats 200000 in
theorem fr_cdone (s : SG) (seat : Int32) (what : Int32)  : Fr W_cdone s (F_cdone s seat what).2 := by dsimp only [F_cdone]; exact (Fr.bifp (b := m_cmp .eq (F_cisRower s seat) 0) (x := ((-2), s)) (y := bif m_cmp .ne (F_isBelow s what 2) 0 then (let z7 := F_toldTrip s ; let v8 := bif m_cmp .ne what 0 then z7 47 seat.toNatClampNeg else z7 46 seat.toNatClampNeg; (v8, z7)) else (((-2), s))) (fun x : Int32 × SG => x.2) (by (try dsimp only); exact (Fr.rf _ _)) (by (try dsimp only); exact (Fr.bifp (b := m_cmp .ne (F_isBelow s what 2) 0) (x := let z7 := F_toldTrip s ; let v8 := bif m_cmp .ne what 0 then z7 47 seat.toNatClampNeg else z7 46 seat.toNatClampNeg; (v8, z7)) (y := ((-2), s)) (fun x : Int32 × SG => x.2) (by (try dsimp only); exact (Fr.tr (s1 := s) (Fr.rf _ _) (Fr.wk (W2 := W_cdone) (fr_toldTrip s ) (by rfl)))) (by (try dsimp only); exact (Fr.rf _ _)))))
set_option maxRecDepth 20000 in
set_option maxHeartbeats 200000 in
theorem ux_cdone (s : SG) (seat : Int32) (what : Int32)  : UP m_X6_done 0 (m_ent 4 [.ref 0, .int seat, .int what]) [] s (Qb (F_cdone s seat what)) := by
  refine UP.stp 2 (i1 := 2) (L1 := [some (.ref 0), some (.int seat), some (.int what), none]) (st1 := [.int seat, .ref 0]) (s1 := s) rfl ?_
  refine UP.cI (M1 := m_X6_isRower) (as := [.ref 0, .int seat]) (rest := []) (T := F_cisRower s seat) rfl rfl (ux_cisRower s seat) ?_
  refine UP.spl (m_cmp .eq (F_cisRower s seat) 0) (((-2), s)) (bif m_cmp .ne (F_isBelow s what 2) 0 then (let z7 := F_toldTrip s ; let v8 := bif m_cmp .ne what 0 then z7 47 seat.toNatClampNeg else z7 46 seat.toNatClampNeg; (v8, z7)) else (((-2), s))) (by first | (dsimp only [F_cdone]; done) | (dsimp only; done) | rfl) (fun cc => ?_) (fun cc => ?_)
  · skip
    refine UP.ifT rfl cc ?_
    refine UP.stp 1 (i1 := 9) (L1 := [some (.ref 0), some (.int seat), some (.int what), none]) (st1 := [.int (-2)]) (s1 := s) rfl ?_
    exact UP.ret (r := some (.int (-2))) rfl ⟨by first | (dsimp only [F_cdone]; done) | (dsimp only; done) | rfl, by first | (dsimp only [F_cdone]; done) | (dsimp only; done) | rfl⟩
  · skip
    refine UP.ifF rfl cc ?_
    refine UP.stp 2 (i1 := 6) (L1 := [some (.ref 0), some (.int seat), some (.int what), none]) (st1 := [.int 2, .int what]) (s1 := s) rfl ?_
    refine UP.cI (M1 := m_X6_isBelow) (as := [.int what, .int 2]) (rest := []) (T := F_isBelow s what 2) rfl rfl (ux_isBelow s what 2) ?_
    refine UP.spl (m_cmp .ne (F_isBelow s what 2) 0) (let z7 := F_toldTrip s ; let v8 := bif m_cmp .ne what 0 then z7 47 seat.toNatClampNeg else z7 46 seat.toNatClampNeg; (v8, z7)) (((-2), s)) (by first | (dsimp only [F_cdone]; done) | (dsimp only; done) | rfl) (fun cc => ?_) (fun cc => ?_)
    · skip
      refine UP.ifT rfl cc ?_
      refine UP.stp 1 (i1 := 11) (L1 := [some (.ref 0), some (.int seat), some (.int what), none]) (st1 := [.ref 0]) (s1 := s) rfl ?_
      refine UP.cR (M1 := m_X6_toldTrip) (as := [.ref 0]) (rest := []) (T := F_toldTrip s ) (a := 15) rfl rfl (ux_toldTrip s ) (fun z7 e7 => ?_)
      refine UP.stp 2 (i1 := 14) (L1 := [some (.ref 0), some (.int seat), some (.int what), some (.ref 15)]) (st1 := [.int what]) (s1 := z7) rfl ?_
      refine mrg (m_cmp .ne what 0) (z7 47 seat.toNatClampNeg) (z7 46 seat.toNatClampNeg) (fun v8 : Int32 => UP m_X6_done 24 [some (.ref 0), some (.int seat), some (.int what), some (.ref 15)] [.int v8] z7 (Qb (let z7 := F_toldTrip s ; let v8 := bif m_cmp .ne what 0 then z7 47 seat.toNatClampNeg else z7 46 seat.toNatClampNeg; (v8, z7)))) (fun cc kk => ?_) (fun cc kk => ?_) (fun v8 e8 => ?_)
      · skip
        refine UP.ifT rfl cc ?_
        refine UP.stp 4 (i1 := 24) (L1 := [some (.ref 0), some (.int seat), some (.int what), some (.ref 15)]) (st1 := [.int (z7 47 seat.toNatClampNeg)]) (s1 := z7) rfl ?_
        exact kk
      · skip
        refine UP.ifF rfl cc ?_
        refine UP.stp 5 (i1 := 24) (L1 := [some (.ref 0), some (.int seat), some (.int what), some (.ref 15)]) (st1 := [.int (z7 46 seat.toNatClampNeg)]) (s1 := z7) rfl ?_
        exact kk
      exact UP.ret (r := some (.int v8)) rfl ⟨by subst e8 e7; first | (dsimp only [F_cdone]; done) | (dsimp only; done) | rfl, by subst e8 e7; first | (dsimp only [F_cdone]; done) | (dsimp only; done) | rfl⟩
    · skip
      refine UP.ifF rfl cc ?_
      refine UP.stp 1 (i1 := 9) (L1 := [some (.ref 0), some (.int seat), some (.int what), none]) (st1 := [.int (-2)]) (s1 := s) rfl ?_
      exact UP.ret (r := some (.int (-2))) rfl ⟨by first | (dsimp only [F_cdone]; done) | (dsimp only; done) | rfl, by first | (dsimp only [F_cdone]; done) | (dsimp only; done) | rfl⟩
def W_cthere : List (Nat × Nat × Option Nat) := [(16, 20, none), (22, 45, none), (46, 52, none), (15, 15, some 8), (59, 63, none), (65, 88, none), (89, 95, none), (58, 58, some 8), (53, 57, none), (96, 108, none), (0, 0, some 12), (0, 0, some 13)]
def F_cthere (s : SG)  : Int32 × SG := let z1 := F_toldTrip s ; (z1 15 8, z1)
set_option maxRecDepth 20000 in
set_option maxHeartbeats 200000 in
theorem fr_cthere (s : SG)   : Fr W_cthere s (F_cthere s).2 := by dsimp only [F_cthere]; exact (Fr.tr (s1 := s) (Fr.rf _ _) (Fr.wk (W2 := W_cthere) (fr_toldTrip s ) (by rfl)))
set_option maxRecDepth 20000 in
set_option maxHeartbeats 200000 in
theorem ux_cthere (s : SG)   : UP m_X6_there 0 (m_ent 1 [.ref 0]) [] s (Qb (F_cthere s)) := by
  refine UP.stp 1 (i1 := 1) (L1 := [some (.ref 0)]) (st1 := [.ref 0]) (s1 := s) rfl ?_
  refine UP.cR (M1 := m_X6_toldTrip) (as := [.ref 0]) (rest := []) (T := F_toldTrip s ) (a := 15) rfl rfl (ux_toldTrip s ) (fun z1 e1 => ?_)
  refine UP.stp 1 (i1 := 3) (L1 := [some (.ref 0)]) (st1 := [.int (z1 15 8)]) (s1 := z1) rfl ?_
  exact UP.ret (r := some (.int (z1 15 8))) rfl ⟨by subst e1; first | (dsimp only [F_cthere]; done) | (dsimp only; done) | rfl, by subst e1; first | (dsimp only [F_cthere]; done) | (dsimp only; done) | rfl⟩
