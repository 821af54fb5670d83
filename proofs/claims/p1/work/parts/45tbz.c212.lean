def W_ctype_2 : List (Nat × Nat × Option Nat) := [(10, 10, some 0), (11, 14, none), (0, 0, some 12), (0, 0, some 13), (109, 114, none)]
def F_ctype_2 (s : SG) (b : Int32) : Int32 × SG := bif m_cmp .eq (F_isBelow s 2 3) 0 then (((-2), s)) else (bif m_cmp .ne (F_isBelow s b 256) 0 then (bif m_cmp .lt (s 113 1) 24 then (let v9 := (s 113 1) + 1; let z10 := F_retell_2 (uset (uset s 114 ((s 113 1).toNatClampNeg) b) 113 1 v9) ; (z10 113 1, z10)) else (((-4), s))) else (((-2), s)))
set_option maxRecDepth 20000 in
set_option maxHeartbeats 200000 in
theorem fr_ctype_2 (s : SG) (b : Int32)  : Fr W_ctype_2 s (F_ctype_2 s b).2 := by dsimp only [F_ctype_2]; exact (Fr.bifp (b := m_cmp .eq (F_isBelow s 2 3) 0) (x := ((-2), s)) (y := bif m_cmp .ne (F_isBelow s b 256) 0 then (bif m_cmp .lt (s 113 1) 24 then (let v9 := (s 113 1) + 1; let z10 := F_retell_2 (uset (uset s 114 ((s 113 1).toNatClampNeg) b) 113 1 v9) ; (z10 113 1, z10)) else (((-4), s))) else (((-2), s))) (fun x : Int32 × SG => x.2) (by (try dsimp only); exact (Fr.rf _ _)) (by (try dsimp only); exact (Fr.bifp (b := m_cmp .ne (F_isBelow s b 256) 0) (x := bif m_cmp .lt (s 113 1) 24 then (let v9 := (s 113 1) + 1; let z10 := F_retell_2 (uset (uset s 114 ((s 113 1).toNatClampNeg) b) 113 1 v9) ; (z10 113 1, z10)) else (((-4), s))) (y := ((-2), s)) (fun x : Int32 × SG => x.2) (by (try dsimp only); exact (Fr.bifp (b := m_cmp .lt (s 113 1) 24) (x := let v9 := (s 113 1) + 1; let z10 := F_retell_2 (uset (uset s 114 ((s 113 1).toNatClampNeg) b) 113 1 v9) ; (z10 113 1, z10)) (y := ((-4), s)) (fun x : Int32 × SG => x.2) (by (try dsimp only); exact (let v9 : Int32 := (s 113 1) + 1; (Fr.tr (s1 := (uset (uset s 114 ((s 113 1).toNatClampNeg) b) 113 1 v9)) (Fr.uset (s1 := (uset s 114 ((s 113 1).toNatClampNeg) b)) (a := 113) (j := 1) (x := v9) (by rfl) (Fr.uset (s1 := s) (a := 114) (j := (s 113 1).toNatClampNeg) (x := b) (by rfl) (Fr.rf _ _))) (Fr.wk (W2 := W_ctype_2) (fr_retell_2 (uset (uset s 114 ((s 113 1).toNatClampNeg) b) 113 1 v9) ) (by rfl))))) (by (try dsimp only); exact (Fr.rf _ _)))) (by (try dsimp only); exact (Fr.rf _ _)))))
set_option maxRecDepth 20000 in
set_option maxHeartbeats 200000 in
theorem ux_ctype_2 (s : SG) (b : Int32)  : UP m_X6_type 0 (m_ent 4 [.ref 0, .int 2, .int b]) [] s (Qb (F_ctype_2 s b)) := by
  refine UP.stp 2 (i1 := 2) (L1 := [some (.ref 0), some (.int 2), some (.int b), none]) (st1 := [.int 3, .int 2]) (s1 := s) rfl ?_
  refine UP.cI (M1 := m_X6_isBelow) (as := [.int 2, .int 3]) (rest := []) (T := F_isBelow s 2 3) rfl rfl (ux_isBelow s 2 3) ?_
  refine UP.spl (m_cmp .eq (F_isBelow s 2 3) 0) (((-2), s)) (bif m_cmp .ne (F_isBelow s b 256) 0 then (bif m_cmp .lt (s 113 1) 24 then (let v9 := (s 113 1) + 1; let z10 := F_retell_2 (uset (uset s 114 ((s 113 1).toNatClampNeg) b) 113 1 v9) ; (z10 113 1, z10)) else (((-4), s))) else (((-2), s))) (by first | (dsimp only [F_ctype_2]; done) | (dsimp only; done) | rfl) (fun cc => ?_) (fun cc => ?_)
  · skip
    refine UP.ifT rfl cc ?_
    refine UP.stp 1 (i1 := 9) (L1 := [some (.ref 0), some (.int 2), some (.int b), none]) (st1 := [.int (-2)]) (s1 := s) rfl ?_
    exact UP.ret (r := some (.int (-2))) rfl ⟨by first | (dsimp only [F_ctype_2]; done) | (dsimp only; done) | rfl, by first | (dsimp only [F_ctype_2]; done) | (dsimp only; done) | rfl⟩
  · skip
    refine UP.ifF rfl cc ?_
    refine UP.stp 2 (i1 := 6) (L1 := [some (.ref 0), some (.int 2), some (.int b), none]) (st1 := [.int 256, .int b]) (s1 := s) rfl ?_
    refine UP.cI (M1 := m_X6_isBelow) (as := [.int b, .int 256]) (rest := []) (T := F_isBelow s b 256) rfl rfl (ux_isBelow s b 256) ?_
    refine UP.spl (m_cmp .ne (F_isBelow s b 256) 0) (bif m_cmp .lt (s 113 1) 24 then (let v9 := (s 113 1) + 1; let z10 := F_retell_2 (uset (uset s 114 ((s 113 1).toNatClampNeg) b) 113 1 v9) ; (z10 113 1, z10)) else (((-4), s))) (((-2), s)) (by first | (dsimp only [F_ctype_2]; done) | (dsimp only; done) | rfl) (fun cc => ?_) (fun cc => ?_)
    · skip
      refine UP.ifT rfl cc ?_
      refine UP.stp 3 (i1 := 13) (L1 := [some (.ref 0), some (.int 2), some (.int b), none]) (st1 := [.int 2, .ref 1]) (s1 := s) rfl ?_
      refine UP.aald (e := 2) (r := 113) rfl rfl (by omega) rfl ?_
      refine UP.stp 6 (i1 := 20) (L1 := [some (.ref 0), some (.int 2), some (.int b), some (.ref 113)]) (st1 := [.int 24, .int (s 113 1)]) (s1 := s) rfl ?_
      refine UP.spl (m_cmp .lt (s 113 1) 24) (let v9 := (s 113 1) + 1; let z10 := F_retell_2 (uset (uset s 114 ((s 113 1).toNatClampNeg) b) 113 1 v9) ; (z10 113 1, z10)) (((-4), s)) (by first | (dsimp only [F_ctype_2]; done) | (dsimp only; done) | rfl) (fun cc => ?_) (fun cc => ?_)
      · skip
        refine UP.icT rfl cc ?_
        refine UP.stp 11 (i1 := 34) (L1 := [some (.ref 0), some (.int 2), some (.int b), some (.ref 113)]) (st1 := [.int ((s 113 1) + 1), .ref 113]) (s1 := (uset s 114 ((s 113 1).toNatClampNeg) b)) rfl ?_
        refine nm (G := fun v9 => UP m_X6_type 34 [some (.ref 0), some (.int 2), some (.int b), some (.ref 113)] [.int v9, .ref 113] (uset s 114 ((s 113 1).toNatClampNeg) b) (Qb (let v9 := (s 113 1) + 1; let z10 := F_retell_2 (uset (uset s 114 ((s 113 1).toNatClampNeg) b) 113 1 v9) ; (z10 113 1, z10)))) ((s 113 1) + 1) (fun v9 e9 => ?_)
        refine UP.stp 3 (i1 := 37) (L1 := [some (.ref 0), some (.int 2), some (.int b), some (.ref 113)]) (st1 := [.int 2, .ref 0]) (s1 := (uset (uset s 114 ((s 113 1).toNatClampNeg) b) 113 1 v9)) rfl ?_
        refine UP.cV (M1 := m_X6_retell) (as := [.ref 0, .int 2]) (rest := []) (T := F_retell_2 (uset (uset s 114 ((s 113 1).toNatClampNeg) b) 113 1 v9) ) rfl rfl (ux_retell_2 (uset (uset s 114 ((s 113 1).toNatClampNeg) b) 113 1 v9)) (fun z10 e10 => ?_)
        refine UP.stp 2 (i1 := 40) (L1 := [some (.ref 0), some (.int 2), some (.int b), some (.ref 113)]) (st1 := [.int (z10 113 1)]) (s1 := z10) rfl ?_
        exact UP.ret (r := some (.int (z10 113 1))) rfl ⟨by subst e10 e9; first | (dsimp only [F_ctype_2]; done) | (dsimp only; done) | rfl, by subst e10 e9; first | (dsimp only [F_ctype_2]; done) | (dsimp only; done) | rfl⟩
      · skip
        refine UP.icF rfl cc ?_
        refine UP.stp 1 (i1 := 22) (L1 := [some (.ref 0), some (.int 2), some (.int b), some (.ref 113)]) (st1 := [.int (-4)]) (s1 := s) rfl ?_
        exact UP.ret (r := some (.int (-4))) rfl ⟨by first | (dsimp only [F_ctype_2]; done) | (dsimp only; done) | rfl, by first | (dsimp only [F_ctype_2]; done) | (dsimp only; done) | rfl⟩
    · skip
      refine UP.ifF rfl cc ?_
      refine UP.stp 1 (i1 := 9) (L1 := [some (.ref 0), some (.int 2), some (.int b), none]) (st1 := [.int (-2)]) (s1 := s) rfl ?_
      exact UP.ret (r := some (.int (-2))) rfl ⟨by first | (dsimp only [F_ctype_2]; done) | (dsimp only; done) | rfl, by first | (dsimp only [F_ctype_2]; done) | (dsimp only; done) | rfl⟩
def W_cwipe_2 : List (Nat × Nat × Option Nat) := [(10, 10, some 0), (11, 14, none), (0, 0, some 12), (0, 0, some 13), (109, 114, none)]
def F_cwipe_2 (s : SG)  : Int32 × SG := bif m_cmp .ne (F_isBelow s 2 3) 0 then (let v4 := s 113 1; let z5 := F_retell_2 (uset s 113 1 0) ; (v4, z5)) else (((-2), s))
set_option maxRecDepth 20000 in
set_option maxHeartbeats 200000 in
theorem fr_cwipe_2 (s : SG)   : Fr W_cwipe_2 s (F_cwipe_2 s).2 := by dsimp only [F_cwipe_2]; exact (Fr.bifp (b := m_cmp .ne (F_isBelow s 2 3) 0) (x := let v4 := s 113 1; let z5 := F_retell_2 (uset s 113 1 0) ; (v4, z5)) (y := ((-2), s)) (fun x : Int32 × SG => x.2) (by (try dsimp only); exact (Fr.tr (s1 := (uset s 113 1 0)) (Fr.uset (s1 := s) (a := 113) (j := 1) (x := 0) (by rfl) (Fr.rf _ _)) (Fr.wk (W2 := W_cwipe_2) (fr_retell_2 (uset s 113 1 0) ) (by rfl)))) (by (try dsimp only); exact (Fr.rf _ _)))
set_option maxRecDepth 20000 in
set_option maxHeartbeats 200000 in
theorem ux_cwipe_2 (s : SG)   : UP m_X6_wipe 0 (m_ent 3 [.ref 0, .int 2]) [] s (Qb (F_cwipe_2 s)) := by
  refine UP.stp 2 (i1 := 2) (L1 := [some (.ref 0), some (.int 2), none]) (st1 := [.int 3, .int 2]) (s1 := s) rfl ?_
  refine UP.cI (M1 := m_X6_isBelow) (as := [.int 2, .int 3]) (rest := []) (T := F_isBelow s 2 3) rfl rfl (ux_isBelow s 2 3) ?_
  refine UP.spl (m_cmp .ne (F_isBelow s 2 3) 0) (let v4 := s 113 1; let z5 := F_retell_2 (uset s 113 1 0) ; (v4, z5)) (((-2), s)) (by first | (dsimp only [F_cwipe_2]; done) | (dsimp only; done) | rfl) (fun cc => ?_) (fun cc => ?_)
  · skip
    refine UP.ifT rfl cc ?_
    refine UP.stp 3 (i1 := 9) (L1 := [some (.ref 0), some (.int 2), none]) (st1 := [.int 2, .ref 1]) (s1 := s) rfl ?_
    refine UP.aald (e := 2) (r := 113) rfl rfl (by omega) rfl ?_
    refine UP.stp 1 (i1 := 11) (L1 := [some (.ref 0), some (.int 2), none]) (st1 := [.int (s 113 1)]) (s1 := s) rfl ?_
    refine nm (G := fun v4 => UP m_X6_wipe 11 [some (.ref 0), some (.int 2), none] [.int v4] s (Qb (let v4 := s 113 1; let z5 := F_retell_2 (uset s 113 1 0) ; (v4, z5)))) (s 113 1) (fun v4 e4 => ?_)
    refine UP.stp 4 (i1 := 15) (L1 := [some (.ref 0), some (.int 2), some (.int v4)]) (st1 := [.int 2, .ref 1]) (s1 := s) rfl ?_
    refine UP.aald (e := 2) (r := 113) rfl rfl (by omega) rfl ?_
    refine UP.stp 4 (i1 := 20) (L1 := [some (.ref 0), some (.int 2), some (.int v4)]) (st1 := [.int 2, .ref 0]) (s1 := (uset s 113 1 0)) rfl ?_
    refine UP.cV (M1 := m_X6_retell) (as := [.ref 0, .int 2]) (rest := []) (T := F_retell_2 (uset s 113 1 0) ) rfl rfl (ux_retell_2 (uset s 113 1 0)) (fun z5 e5 => ?_)
    refine UP.stp 1 (i1 := 22) (L1 := [some (.ref 0), some (.int 2), some (.int v4)]) (st1 := [.int v4]) (s1 := z5) rfl ?_
    exact UP.ret (r := some (.int v4)) rfl ⟨by subst e5 e4; first | (dsimp only [F_cwipe_2]; done) | (dsimp only; done) | rfl, by subst e5 e4; first | (dsimp only [F_cwipe_2]; done) | (dsimp only; done) | rfl⟩
  · skip
    refine UP.ifF rfl cc ?_
    refine UP.stp 1 (i1 := 5) (L1 := [some (.ref 0), some (.int 2), none]) (st1 := [.int (-2)]) (s1 := s) rfl ?_
    exact UP.ret (r := some (.int (-2))) rfl ⟨by first | (dsimp only [F_cwipe_2]; done) | (dsimp only; done) | rfl, by first | (dsimp only [F_cwipe_2]; done) | (dsimp only; done) | rfl⟩
