def W_readsRower : List (Nat × Nat × Option Nat) := [(126, 127, none)]
def F_readsRower (s : SG) (n : Int32) (at_ : Int32) : Int32 × SG := let v2 := F_byteAt_0 s at_; let v5 := bif m_cmp .ne v2 115 then (bif m_cmp .ne v2 102 then (bif m_cmp .ne v2 108 then (-1 : Int32) else (2 : Int32)) else (1 : Int32)) else (0 : Int32); let v7 := (F_byteAt_0 s (at_ + 1)) - 48; bif m_cmp .eq n 8 then ((0, s)) else (bif m_cmp .ne v5 (-1) then (bif m_cmp .ne (F_in s v7 1 9) 0 then ((2, (uset (uset s 126 n.toNatClampNeg v5) 127 n.toNatClampNeg v7))) else ((1, s))) else ((0, s)))
set_option maxRecDepth 20000 in
set_option maxHeartbeats 200000 in
theorem fr_readsRower (s : SG) (n : Int32) (at_ : Int32)  : Fr W_readsRower s (F_readsRower s n at_).2 := by dsimp only [F_readsRower]; exact (let v2 : Int32 := F_byteAt_0 s at_; (let v5 : Int32 := bif m_cmp .ne v2 115 then (bif m_cmp .ne v2 102 then (bif m_cmp .ne v2 108 then (-1 : Int32) else (2 : Int32)) else (1 : Int32)) else (0 : Int32); (let v7 : Int32 := (F_byteAt_0 s (at_ + 1)) - 48; (Fr.bifp (b := m_cmp .eq n 8) (x := (0, s)) (y := bif m_cmp .ne v5 (-1) then (bif m_cmp .ne (F_in s v7 1 9) 0 then ((2, (uset (uset s 126 n.toNatClampNeg v5) 127 n.toNatClampNeg v7))) else ((1, s))) else ((0, s))) (fun x : Int32 × SG => x.2) (by (try dsimp only); exact (Fr.rf _ _)) (by (try dsimp only); exact (Fr.bifp (b := m_cmp .ne v5 (-1)) (x := bif m_cmp .ne (F_in s v7 1 9) 0 then ((2, (uset (uset s 126 n.toNatClampNeg v5) 127 n.toNatClampNeg v7))) else ((1, s))) (y := (0, s)) (fun x : Int32 × SG => x.2) (by (try dsimp only); exact (Fr.bifp (b := m_cmp .ne (F_in s v7 1 9) 0) (x := (2, (uset (uset s 126 n.toNatClampNeg v5) 127 n.toNatClampNeg v7))) (y := (1, s)) (fun x : Int32 × SG => x.2) (by (try dsimp only); exact (Fr.uset (s1 := (uset s 126 n.toNatClampNeg v5)) (a := 127) (j := n.toNatClampNeg) (x := v7) (by rfl) (Fr.uset (s1 := s) (a := 126) (j := n.toNatClampNeg) (x := v5) (by rfl) (Fr.rf _ _)))) (by (try dsimp only); exact (Fr.rf _ _)))) (by (try dsimp only); exact (Fr.rf _ _))))))))
set_option maxRecDepth 20000 in
set_option maxHeartbeats 200000 in
theorem ux_readsRower (s : SG) (n : Int32) (at_ : Int32)  : UP m_X7_readsRower 0 (m_ent 6 [.ref 123, .int n, .int at_]) [] s (Qb (F_readsRower s n at_)) := by
  refine UP.stp 3 (i1 := 3) (L1 := [some (.ref 123), some (.int n), some (.int at_), none, none, none]) (st1 := [.int at_, .int 0, .ref 123]) (s1 := s) rfl ?_
  refine UP.cI (M1 := m_X7_byteAt) (as := [.ref 123, .int 0, .int at_]) (rest := []) (T := F_byteAt_0 s at_) rfl rfl (ux_byteAt_0 s at_) ?_
  refine nm (G := fun v2 => UP m_X7_readsRower 4 [some (.ref 123), some (.int n), some (.int at_), none, none, none] [.int v2] s (Qb (F_readsRower s n at_))) (F_byteAt_0 s at_) (fun v2 e2 => ?_)
  refine UP.stp 3 (i1 := 7) (L1 := [some (.ref 123), some (.int n), some (.int at_), some (.int v2), none, none]) (st1 := [.int 115, .int v2]) (s1 := s) rfl ?_
  refine mrg (m_cmp .ne v2 115) (bif m_cmp .ne v2 102 then (bif m_cmp .ne v2 108 then (-1 : Int32) else (2 : Int32)) else (1 : Int32)) (0 : Int32) (fun v5 : Int32 => UP m_X7_readsRower 21 [some (.ref 123), some (.int n), some (.int at_), some (.int v2), none, none] [.int v5] s (Qb (F_readsRower s n at_))) (fun cc kk => ?_) (fun cc kk => ?_) (fun v5 e5 => ?_)
  · skip
    refine UP.icT rfl cc ?_
    refine UP.stp 2 (i1 := 12) (L1 := [some (.ref 123), some (.int n), some (.int at_), some (.int v2), none, none]) (st1 := [.int 102, .int v2]) (s1 := s) rfl ?_
    refine mrg (m_cmp .ne v2 102) (bif m_cmp .ne v2 108 then (-1 : Int32) else (2 : Int32)) (1 : Int32) (fun v4 : Int32 => UP m_X7_readsRower 21 [some (.ref 123), some (.int n), some (.int at_), some (.int v2), none, none] [.int v4] s (Qb (F_readsRower s n at_))) (fun cc kk => ?_) (fun cc kk => ?_) (fun v4 e4 => ?_)
    · skip
      refine UP.icT rfl cc ?_
      refine UP.stp 2 (i1 := 17) (L1 := [some (.ref 123), some (.int n), some (.int at_), some (.int v2), none, none]) (st1 := [.int 108, .int v2]) (s1 := s) rfl ?_
      refine mrg (m_cmp .ne v2 108) (-1 : Int32) (2 : Int32) (fun v3 : Int32 => UP m_X7_readsRower 21 [some (.ref 123), some (.int n), some (.int at_), some (.int v2), none, none] [.int v3] s (Qb (F_readsRower s n at_))) (fun cc kk => ?_) (fun cc kk => ?_) (fun v3 e3 => ?_)
      · skip
        refine UP.icT rfl cc ?_
        refine UP.stp 1 (i1 := 21) (L1 := [some (.ref 123), some (.int n), some (.int at_), some (.int v2), none, none]) (st1 := [.int (-1)]) (s1 := s) rfl ?_
        exact kk
      · skip
        refine UP.icF rfl cc ?_
        refine UP.stp 2 (i1 := 21) (L1 := [some (.ref 123), some (.int n), some (.int at_), some (.int v2), none, none]) (st1 := [.int 2]) (s1 := s) rfl ?_
        exact kk
      subst e3
      exact kk
    · skip
      refine UP.icF rfl cc ?_
      refine UP.stp 2 (i1 := 21) (L1 := [some (.ref 123), some (.int n), some (.int at_), some (.int v2), none, none]) (st1 := [.int 1]) (s1 := s) rfl ?_
      exact kk
    subst e4
    exact kk
  · skip
    refine UP.icF rfl cc ?_
    refine UP.stp 2 (i1 := 21) (L1 := [some (.ref 123), some (.int n), some (.int at_), some (.int v2), none, none]) (st1 := [.int 0]) (s1 := s) rfl ?_
    exact kk
  refine UP.stp 6 (i1 := 27) (L1 := [some (.ref 123), some (.int n), some (.int at_), some (.int v2), some (.int v5), none]) (st1 := [.int (at_ + 1), .int 0, .ref 123]) (s1 := s) rfl ?_
  refine UP.cI (M1 := m_X7_byteAt) (as := [.ref 123, .int 0, .int (at_ + 1)]) (rest := []) (T := F_byteAt_0 s (at_ + 1)) rfl rfl (ux_byteAt_0 s (at_ + 1)) ?_
  refine UP.stp 2 (i1 := 30) (L1 := [some (.ref 123), some (.int n), some (.int at_), some (.int v2), some (.int v5), none]) (st1 := [.int ((F_byteAt_0 s (at_ + 1)) - 48)]) (s1 := s) rfl ?_
  refine nm (G := fun v7 => UP m_X7_readsRower 30 [some (.ref 123), some (.int n), some (.int at_), some (.int v2), some (.int v5), none] [.int v7] s (Qb (F_readsRower s n at_))) ((F_byteAt_0 s (at_ + 1)) - 48) (fun v7 e7 => ?_)
  refine UP.stp 3 (i1 := 33) (L1 := [some (.ref 123), some (.int n), some (.int at_), some (.int v2), some (.int v5), some (.int v7)]) (st1 := [.int 8, .int n]) (s1 := s) rfl ?_
  refine UP.spl (m_cmp .eq n 8) ((0, s)) (bif m_cmp .ne v5 (-1) then (bif m_cmp .ne (F_in s v7 1 9) 0 then ((2, (uset (uset s 126 n.toNatClampNeg v5) 127 n.toNatClampNeg v7))) else ((1, s))) else ((0, s))) (by subst e7 e5 e2; first | (dsimp only [F_readsRower]; done) | (dsimp only; done) | rfl) (fun cc => ?_) (fun cc => ?_)
  · skip
    refine UP.icT rfl cc ?_
    refine UP.stp 1 (i1 := 38) (L1 := [some (.ref 123), some (.int n), some (.int at_), some (.int v2), some (.int v5), some (.int v7)]) (st1 := [.int 0]) (s1 := s) rfl ?_
    exact UP.ret (r := some (.int 0)) rfl ⟨by subst e7 e5 e2; first | (dsimp only [F_readsRower]; done) | (dsimp only; done) | rfl, by subst e7 e5 e2; first | (dsimp only [F_readsRower]; done) | (dsimp only; done) | rfl⟩
  · skip
    refine UP.icF rfl cc ?_
    refine UP.stp 2 (i1 := 36) (L1 := [some (.ref 123), some (.int n), some (.int at_), some (.int v2), some (.int v5), some (.int v7)]) (st1 := [.int (-1), .int v5]) (s1 := s) rfl ?_
    refine UP.spl (m_cmp .ne v5 (-1)) (bif m_cmp .ne (F_in s v7 1 9) 0 then ((2, (uset (uset s 126 n.toNatClampNeg v5) 127 n.toNatClampNeg v7))) else ((1, s))) ((0, s)) (by subst e7 e5 e2; first | (dsimp only [F_readsRower]; done) | (dsimp only; done) | rfl) (fun cc => ?_) (fun cc => ?_)
    · skip
      refine UP.icT rfl cc ?_
      refine UP.stp 3 (i1 := 42) (L1 := [some (.ref 123), some (.int n), some (.int at_), some (.int v2), some (.int v5), some (.int v7)]) (st1 := [.int 9, .int 1, .int v7]) (s1 := s) rfl ?_
      refine UP.cI (M1 := m_X7_in) (as := [.int v7, .int 1, .int 9]) (rest := []) (T := F_in s v7 1 9) rfl rfl (ux_in s v7 1 9) ?_
      refine UP.spl (m_cmp .ne (F_in s v7 1 9) 0) ((2, (uset (uset s 126 n.toNatClampNeg v5) 127 n.toNatClampNeg v7))) ((1, s)) (by subst e7 e5 e2; first | (dsimp only [F_readsRower]; done) | (dsimp only; done) | rfl) (fun cc => ?_) (fun cc => ?_)
      · skip
        refine UP.ifT rfl cc ?_
        refine UP.stp 11 (i1 := 57) (L1 := [some (.ref 123), some (.int n), some (.int at_), some (.int v2), some (.int v5), some (.int v7)]) (st1 := [.int 2]) (s1 := (uset (uset s 126 n.toNatClampNeg v5) 127 n.toNatClampNeg v7)) rfl ?_
        exact UP.ret (r := some (.int 2)) rfl ⟨by subst e7 e5 e2; first | (dsimp only [F_readsRower]; done) | (dsimp only; done) | rfl, by subst e7 e5 e2; first | (dsimp only [F_readsRower]; done) | (dsimp only; done) | rfl⟩
      · skip
        refine UP.ifF rfl cc ?_
        refine UP.stp 1 (i1 := 45) (L1 := [some (.ref 123), some (.int n), some (.int at_), some (.int v2), some (.int v5), some (.int v7)]) (st1 := [.int 1]) (s1 := s) rfl ?_
        exact UP.ret (r := some (.int 1)) rfl ⟨by subst e7 e5 e2; first | (dsimp only [F_readsRower]; done) | (dsimp only; done) | rfl, by subst e7 e5 e2; first | (dsimp only [F_readsRower]; done) | (dsimp only; done) | rfl⟩
    · skip
      refine UP.icF rfl cc ?_
      refine UP.stp 1 (i1 := 38) (L1 := [some (.ref 123), some (.int n), some (.int at_), some (.int v2), some (.int v5), some (.int v7)]) (st1 := [.int 0]) (s1 := s) rfl ?_
      exact UP.ret (r := some (.int 0)) rfl ⟨by subst e7 e5 e2; first | (dsimp only [F_readsRower]; done) | (dsimp only; done) | rfl, by subst e7 e5 e2; first | (dsimp only [F_readsRower]; done) | (dsimp only; done) | rfl⟩
