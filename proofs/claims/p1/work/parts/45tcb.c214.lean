def W_crower : List (Nat × Nat × Option Nat) := []
def F_crower (s : SG) (seat : Int32) (what : Int32) : Int32 := bif m_cmp .eq (F_cisRower s seat) 0 then ((-2)) else (bif m_cmp .ne (F_isBelow s what 2) 0 then (let v7 := bif m_cmp .ne what 0 then s 12 seat.toNatClampNeg else s 11 seat.toNatClampNeg; v7) else ((-2)))
set_option maxRecDepth 20000 in
set_option maxHeartbeats 200000 in
theorem ux_crower (s : SG) (seat : Int32) (what : Int32)  : UP m_X6_rower 0 (m_ent 3 [.ref 0, .int seat, .int what]) [] s (Qi s (F_crower s seat what)) := by
  refine UP.stp 2 (i1 := 2) (L1 := [some (.ref 0), some (.int seat), some (.int what)]) (st1 := [.int seat, .ref 0]) (s1 := s) rfl ?_
  refine UP.cI (M1 := m_X6_isRower) (as := [.ref 0, .int seat]) (rest := []) (T := F_cisRower s seat) rfl rfl (ux_cisRower s seat) ?_
  refine UP.spl (m_cmp .eq (F_cisRower s seat) 0) ((-2)) (bif m_cmp .ne (F_isBelow s what 2) 0 then (let v7 := bif m_cmp .ne what 0 then s 12 seat.toNatClampNeg else s 11 seat.toNatClampNeg; v7) else ((-2))) (by first | (dsimp only [F_crower]; done) | (dsimp only; done) | rfl) (fun cc => ?_) (fun cc => ?_)
  · skip
    refine UP.ifT rfl cc ?_
    refine UP.stp 1 (i1 := 9) (L1 := [some (.ref 0), some (.int seat), some (.int what)]) (st1 := [.int (-2)]) (s1 := s) rfl ?_
    exact UP.ret (r := some (.int (-2))) rfl ⟨by first | (dsimp only [F_crower]; done) | (dsimp only; done) | rfl, by first | (dsimp only [F_crower]; done) | (dsimp only; done) | rfl⟩
  · skip
    refine UP.ifF rfl cc ?_
    refine UP.stp 2 (i1 := 6) (L1 := [some (.ref 0), some (.int seat), some (.int what)]) (st1 := [.int 2, .int what]) (s1 := s) rfl ?_
    refine UP.cI (M1 := m_X6_isBelow) (as := [.int what, .int 2]) (rest := []) (T := F_isBelow s what 2) rfl rfl (ux_isBelow s what 2) ?_
    refine UP.spl (m_cmp .ne (F_isBelow s what 2) 0) (let v7 := bif m_cmp .ne what 0 then s 12 seat.toNatClampNeg else s 11 seat.toNatClampNeg; v7) ((-2)) (by first | (dsimp only [F_crower]; done) | (dsimp only; done) | rfl) (fun cc => ?_) (fun cc => ?_)
    · skip
      refine UP.ifT rfl cc ?_
      refine UP.stp 1 (i1 := 11) (L1 := [some (.ref 0), some (.int seat), some (.int what)]) (st1 := [.int what]) (s1 := s) rfl ?_
      refine mrg (m_cmp .ne what 0) (s 12 seat.toNatClampNeg) (s 11 seat.toNatClampNeg) (fun v7 : Int32 => UP m_X6_rower 23 [some (.ref 0), some (.int seat), some (.int what)] [.int v7] s (Qi s (let v7 := bif m_cmp .ne what 0 then s 12 seat.toNatClampNeg else s 11 seat.toNatClampNeg; v7))) (fun cc kk => ?_) (fun cc kk => ?_) (fun v7 e7 => ?_)
      · skip
        refine UP.ifT rfl cc ?_
        refine UP.stp 5 (i1 := 23) (L1 := [some (.ref 0), some (.int seat), some (.int what)]) (st1 := [.int (s 12 seat.toNatClampNeg)]) (s1 := s) rfl ?_
        exact kk
      · skip
        refine UP.ifF rfl cc ?_
        refine UP.stp 6 (i1 := 23) (L1 := [some (.ref 0), some (.int seat), some (.int what)]) (st1 := [.int (s 11 seat.toNatClampNeg)]) (s1 := s) rfl ?_
        exact kk
      exact UP.ret (r := some (.int v7)) rfl ⟨by subst e7; first | (dsimp only [F_crower]; done) | (dsimp only; done) | rfl, by subst e7; first | (dsimp only [F_crower]; done) | (dsimp only; done) | rfl⟩
    · skip
      refine UP.ifF rfl cc ?_
      refine UP.stp 1 (i1 := 9) (L1 := [some (.ref 0), some (.int seat), some (.int what)]) (st1 := [.int (-2)]) (s1 := s) rfl ?_
      exact UP.ret (r := some (.int (-2))) rfl ⟨by first | (dsimp only [F_crower]; done) | (dsimp only; done) | rfl, by first | (dsimp only [F_crower]; done) | (dsimp only; done) | rfl⟩
def W_ccall : List (Nat × Nat × Option Nat) := []
def F_ccall (s : SG) (minute : Int32) (what : Int32) : Int32 := bif m_cmp .eq (F_isBelow s minute 24) 0 then ((-2)) else (bif m_cmp .ne (F_isBelow s what 2) 0 then (let v7 := bif m_cmp .ne what 0 then s 14 minute.toNatClampNeg else s 13 minute.toNatClampNeg; v7) else ((-2)))
set_option maxRecDepth 20000 in
set_option maxHeartbeats 200000 in
theorem ux_ccall (s : SG) (minute : Int32) (what : Int32)  : UP m_X6_call 0 (m_ent 3 [.ref 0, .int minute, .int what]) [] s (Qi s (F_ccall s minute what)) := by
  refine UP.stp 2 (i1 := 2) (L1 := [some (.ref 0), some (.int minute), some (.int what)]) (st1 := [.int 24, .int minute]) (s1 := s) rfl ?_
  refine UP.cI (M1 := m_X6_isBelow) (as := [.int minute, .int 24]) (rest := []) (T := F_isBelow s minute 24) rfl rfl (ux_isBelow s minute 24) ?_
  refine UP.spl (m_cmp .eq (F_isBelow s minute 24) 0) ((-2)) (bif m_cmp .ne (F_isBelow s what 2) 0 then (let v7 := bif m_cmp .ne what 0 then s 14 minute.toNatClampNeg else s 13 minute.toNatClampNeg; v7) else ((-2))) (by first | (dsimp only [F_ccall]; done) | (dsimp only; done) | rfl) (fun cc => ?_) (fun cc => ?_)
  · skip
    refine UP.ifT rfl cc ?_
    refine UP.stp 1 (i1 := 9) (L1 := [some (.ref 0), some (.int minute), some (.int what)]) (st1 := [.int (-2)]) (s1 := s) rfl ?_
    exact UP.ret (r := some (.int (-2))) rfl ⟨by first | (dsimp only [F_ccall]; done) | (dsimp only; done) | rfl, by first | (dsimp only [F_ccall]; done) | (dsimp only; done) | rfl⟩
  · skip
    refine UP.ifF rfl cc ?_
    refine UP.stp 2 (i1 := 6) (L1 := [some (.ref 0), some (.int minute), some (.int what)]) (st1 := [.int 2, .int what]) (s1 := s) rfl ?_
    refine UP.cI (M1 := m_X6_isBelow) (as := [.int what, .int 2]) (rest := []) (T := F_isBelow s what 2) rfl rfl (ux_isBelow s what 2) ?_
    refine UP.spl (m_cmp .ne (F_isBelow s what 2) 0) (let v7 := bif m_cmp .ne what 0 then s 14 minute.toNatClampNeg else s 13 minute.toNatClampNeg; v7) ((-2)) (by first | (dsimp only [F_ccall]; done) | (dsimp only; done) | rfl) (fun cc => ?_) (fun cc => ?_)
    · skip
      refine UP.ifT rfl cc ?_
      refine UP.stp 1 (i1 := 11) (L1 := [some (.ref 0), some (.int minute), some (.int what)]) (st1 := [.int what]) (s1 := s) rfl ?_
      refine mrg (m_cmp .ne what 0) (s 14 minute.toNatClampNeg) (s 13 minute.toNatClampNeg) (fun v7 : Int32 => UP m_X6_call 23 [some (.ref 0), some (.int minute), some (.int what)] [.int v7] s (Qi s (let v7 := bif m_cmp .ne what 0 then s 14 minute.toNatClampNeg else s 13 minute.toNatClampNeg; v7))) (fun cc kk => ?_) (fun cc kk => ?_) (fun v7 e7 => ?_)
      · skip
        refine UP.ifT rfl cc ?_
        refine UP.stp 5 (i1 := 23) (L1 := [some (.ref 0), some (.int minute), some (.int what)]) (st1 := [.int (s 14 minute.toNatClampNeg)]) (s1 := s) rfl ?_
        exact kk
      · skip
        refine UP.ifF rfl cc ?_
        refine UP.stp 6 (i1 := 23) (L1 := [some (.ref 0), some (.int minute), some (.int what)]) (st1 := [.int (s 13 minute.toNatClampNeg)]) (s1 := s) rfl ?_
        exact kk
      exact UP.ret (r := some (.int v7)) rfl ⟨by subst e7; first | (dsimp only [F_ccall]; done) | (dsimp only; done) | rfl, by subst e7; first | (dsimp only [F_ccall]; done) | (dsimp only; done) | rfl⟩
    · skip
      refine UP.ifF rfl cc ?_
      refine UP.stp 1 (i1 := 9) (L1 := [some (.ref 0), some (.int minute), some (.int what)]) (st1 := [.int (-2)]) (s1 := s) rfl ?_
      exact UP.ret (r := some (.int (-2))) rfl ⟨by first | (dsimp only [F_ccall]; done) | (dsimp only; done) | rfl, by first | (dsimp only [F_ccall]; done) | (dsimp only; done) | rfl⟩
def W_tellStream : List (Nat × Nat × Option Nat) := [(0, 0, some 12), (0, 0, some 13), (10, 10, some 5)]
def F_tellStream (s : SG) (v : Int32) : Int32 × SG := bif m_cmp .ne (F_isBelow s v 10) 0 then (let v4 := s 10 5; let z5 := F_mark (uset s 10 5 v) ; (v4, z5)) else (((-2), s))
set_option maxRecDepth 20000 in
set_option maxHeartbeats 200000 in
theorem fr_tellStream (s : SG) (v : Int32)  : Fr W_tellStream s (F_tellStream s v).2 := by dsimp only [F_tellStream]; exact (Fr.bifp (b := m_cmp .ne (F_isBelow s v 10) 0) (x := let v4 := s 10 5; let z5 := F_mark (uset s 10 5 v) ; (v4, z5)) (y := ((-2), s)) (fun x : Int32 × SG => x.2) (by (try dsimp only); exact (Fr.tr (s1 := (uset s 10 5 v)) (Fr.uset (s1 := s) (a := 10) (j := 5) (x := v) (by rfl) (Fr.rf _ _)) (Fr.wk (W2 := W_tellStream) (fr_mark (uset s 10 5 v) ) (by rfl)))) (by (try dsimp only); exact (Fr.rf _ _)))
set_option maxRecDepth 20000 in
set_option maxHeartbeats 200000 in
theorem ux_tellStream (s : SG) (v : Int32)  : UP m_X6_tellStream 0 (m_ent 3 [.ref 0, .int v]) [] s (Qb (F_tellStream s v)) := by
  refine UP.stp 2 (i1 := 2) (L1 := [some (.ref 0), some (.int v), none]) (st1 := [.int 10, .int v]) (s1 := s) rfl ?_
  refine UP.cI (M1 := m_X6_isBelow) (as := [.int v, .int 10]) (rest := []) (T := F_isBelow s v 10) rfl rfl (ux_isBelow s v 10) ?_
  refine UP.spl (m_cmp .ne (F_isBelow s v 10) 0) (let v4 := s 10 5; let z5 := F_mark (uset s 10 5 v) ; (v4, z5)) (((-2), s)) (by first | (dsimp only [F_tellStream]; done) | (dsimp only; done) | rfl) (fun cc => ?_) (fun cc => ?_)
  · skip
    refine UP.ifT rfl cc ?_
    refine UP.stp 3 (i1 := 9) (L1 := [some (.ref 0), some (.int v), none]) (st1 := [.int (s 10 5)]) (s1 := s) rfl ?_
    refine nm (G := fun v4 => UP m_X6_tellStream 9 [some (.ref 0), some (.int v), none] [.int v4] s (Qb (let v4 := s 10 5; let z5 := F_mark (uset s 10 5 v) ; (v4, z5)))) (s 10 5) (fun v4 e4 => ?_)
    refine UP.stp 6 (i1 := 15) (L1 := [some (.ref 0), some (.int v), some (.int v4)]) (st1 := [.ref 0]) (s1 := (uset s 10 5 v)) rfl ?_
    refine UP.cV (M1 := m_X6_markChanged) (as := [.ref 0]) (rest := []) (T := F_mark (uset s 10 5 v) ) rfl rfl (ux_mark (uset s 10 5 v) ) (fun z5 e5 => ?_)
    refine UP.stp 1 (i1 := 17) (L1 := [some (.ref 0), some (.int v), some (.int v4)]) (st1 := [.int v4]) (s1 := z5) rfl ?_
    exact UP.ret (r := some (.int v4)) rfl ⟨by subst e5 e4; first | (dsimp only [F_tellStream]; done) | (dsimp only; done) | rfl, by subst e5 e4; first | (dsimp only [F_tellStream]; done) | (dsimp only; done) | rfl⟩
  · skip
    refine UP.ifF rfl cc ?_
    refine UP.stp 1 (i1 := 5) (L1 := [some (.ref 0), some (.int v), none]) (st1 := [.int (-2)]) (s1 := s) rfl ?_
    exact UP.ret (r := some (.int (-2))) rfl ⟨by first | (dsimp only [F_tellStream]; done) | (dsimp only; done) | rfl, by first | (dsimp only [F_tellStream]; done) | (dsimp only; done) | rfl⟩
