def W_ctype_2 : List (Nat × Nat × Option Nat) := [(10, 10, some 0), (11, 14, none), (0, 0, some 12), (0, 0, some 13), (109, 114, none)]
def F_ctype_2 (s : SG) (b : Int32) : Int32 × SG := bif m_cmp .eq (F_isBelow s 2 3) 0 then (((-2), s)) else (bif m_cmp .ne (F_isBelow s b 256) 0 then (bif m_cmp .lt (s 113 1) 24 then (let v9 := (s 113 1) + 1; let z10 := F_retell_2 (uset (uset s 114 ((s 113 1).toNatClampNeg) b) 113 1 v9) ; (z10 113 1, z10)) else (((-4), s))) else (((-2), s)))
theorem fr_ctype_2 (s : SG) (b : Int32)  : Fr W_ctype_2 s (F_ctype_2 s b).2 := by dsimp only [F_ctype_2]; exact (Fr.bifp (b := m_cmp .eq (F_isBelow s 2 3) 0) (x := ((-2), s)) (y := bif m_cmp .ne (F_isBelow s b 256) 0 then (bif m_cmp .lt (s 113 1) 24 then (let v9 := (s 113 1) + 1; let z10 := F_retell_2 (uset (uset s 114 ((s 113 1).toNatClampNeg) b) 113 1 v9) ; (z10 113 1, z10)) else (((-4), s))) else (((-2), s))) (fun x : Int32 × SG => x.2) (Fr.rf _ _) (Fr.bifp (b := m_cmp .ne (F_isBelow s b 256) 0) (x := bif m_cmp .lt (s 113 1) 24 then (let v9 := (s 113 1) + 1; let z10 := F_retell_2 (uset (uset s 114 ((s 113 1).toNatClampNeg) b) 113 1 v9) ; (z10 113 1, z10)) else (((-4), s))) (y := ((-2), s)) (fun x : Int32 × SG => x.2) (Fr.bifp (b := m_cmp .lt (s 113 1) 24) (x := let v9 := (s 113 1) + 1; let z10 := F_retell_2 (uset (uset s 114 ((s 113 1).toNatClampNeg) b) 113 1 v9) ; (z10 113 1, z10)) (y := ((-4), s)) (fun x : Int32 × SG => x.2) (let v9 : Int32 := (s 113 1) + 1; (Fr.tr (s1 := (uset (uset s 114 ((s 113 1).toNatClampNeg) b) 113 1 v9)) (Fr.uset (s1 := (uset s 114 ((s 113 1).toNatClampNeg) b)) (a := 113) (j := 1) (x := v9) (by rfl) (Fr.uset (s1 := s) (a := 114) (j := (s 113 1).toNatClampNeg) (x := b) (by rfl) (Fr.rf _ _))) (Fr.wk (W2 := W_ctype_2) (fr_retell_2 (uset (uset s 114 ((s 113 1).toNatClampNeg) b) 113 1 v9) ) (by rfl)))) (Fr.rf _ _)) (Fr.rf _ _)))
theorem ux_ctype_2 (s : SG) (b : Int32)  : UP m_X6_type 0 (m_ent 4 [.ref 0, .int 2, .int b]) [] s (Qb (F_ctype_2 s b)) := by
  refine UP.stp 2 (i1 := 2) (L1 := [some (.ref 0), some (.int 2), some (.int b), none]) (st1 := [.int 3, .int 2]) (s1 := s) rfl ?_
  refine UP.cI (M1 := m_X6_isBelow) (as := [.int 2, .int 3]) (rest := []) (T := F_isBelow s 2 3) rfl rfl (ux_isBelow s 2 3) ?_
  refine UP.spl (m_cmp .eq (F_isBelow s 2 3) 0) (((-2), s)) (bif m_cmp .ne (F_isBelow s b 256) 0 then (bif m_cmp .lt (s 113 1) 24 then (let v9 := (s 113 1) + 1; let z10 := F_retell_2 (uset (uset s 114 ((s 113 1).toNatClampNeg) b) 113 1 v9) ; (z10 113 1, z10)) else (((-4), s))) else (((-2), s))) (by rfl) (fun cc => ?_) (fun cc => ?_)
  · skip
    refine UP.ifT rfl cc ?_
    refine UP.stp 1 (i1 := 9) (L1 := [some (.ref 0), some (.int 2), some (.int b), none]) (st1 := [.int (-2)]) (s1 := s) rfl ?_
    exact UP.ret (r := some (.int (-2))) rfl ⟨by rfl, by rfl⟩
  · skip
    refine UP.ifF rfl cc ?_
    refine UP.stp 2 (i1 := 6) (L1 := [some (.ref 0), some (.int 2), some (.int b), none]) (st1 := [.int 256, .int b]) (s1 := s) rfl ?_
    refine UP.cI (M1 := m_X6_isBelow) (as := [.int b, .int 256]) (rest := []) (T := F_isBelow s b 256) rfl rfl (ux_isBelow s b 256) ?_
    refine UP.spl (m_cmp .ne (F_isBelow s b 256) 0) (bif m_cmp .lt (s 113 1) 24 then (let v9 := (s 113 1) + 1; let z10 := F_retell_2 (uset (uset s 114 ((s 113 1).toNatClampNeg) b) 113 1 v9) ; (z10 113 1, z10)) else (((-4), s))) (((-2), s)) (by rfl) (fun cc => ?_) (fun cc => ?_)
    · skip
      refine UP.ifT rfl cc ?_
      refine UP.stp 3 (i1 := 13) (L1 := [some (.ref 0), some (.int 2), some (.int b), none]) (st1 := [.int 2, .ref 1]) (s1 := s) rfl ?_
      refine UP.aald (e := 2) (r := 113) rfl rfl (by omega) rfl ?_
      refine UP.stp 6 (i1 := 20) (L1 := [some (.ref 0), some (.int 2), some (.int b), some (.ref 113)]) (st1 := [.int 24, .int (s 113 1)]) (s1 := s) rfl ?_
      refine UP.spl (m_cmp .lt (s 113 1) 24) (let v9 := (s 113 1) + 1; let z10 := F_retell_2 (uset (uset s 114 ((s 113 1).toNatClampNeg) b) 113 1 v9) ; (z10 113 1, z10)) (((-4), s)) (by rfl) (fun cc => ?_) (fun cc => ?_)
      · skip
        refine UP.icT rfl cc ?_
        refine UP.stp 11 (i1 := 34) (L1 := [some (.ref 0), some (.int 2), some (.int b), some (.ref 113)]) (st1 := [.int ((s 113 1) + 1), .ref 113]) (s1 := (uset s 114 ((s 113 1).toNatClampNeg) b)) rfl ?_
        refine nm (G := fun v9 => UP m_X6_type 34 [some (.ref 0), some (.int 2), some (.int b), some (.ref 113)] [.int v9, .ref 113] (uset s 114 ((s 113 1).toNatClampNeg) b) (Qb (let v9 := (s 113 1) + 1; let z10 := F_retell_2 (uset (uset s 114 ((s 113 1).toNatClampNeg) b) 113 1 v9) ; (z10 113 1, z10)))) ((s 113 1) + 1) (fun v9 e9 => ?_)
        refine UP.stp 3 (i1 := 37) (L1 := [some (.ref 0), some (.int 2), some (.int b), some (.ref 113)]) (st1 := [.int 2, .ref 0]) (s1 := (uset (uset s 114 ((s 113 1).toNatClampNeg) b) 113 1 v9)) rfl ?_
        refine UP.cV (M1 := m_X6_retell) (as := [.ref 0, .int 2]) (rest := []) (T := F_retell_2 (uset (uset s 114 ((s 113 1).toNatClampNeg) b) 113 1 v9) ) rfl rfl (ux_retell_2 (uset (uset s 114 ((s 113 1).toNatClampNeg) b) 113 1 v9)) (fun z10 e10 => ?_)
        refine UP.stp 2 (i1 := 40) (L1 := [some (.ref 0), some (.int 2), some (.int b), some (.ref 113)]) (st1 := [.int (z10 113 1)]) (s1 := z10) rfl ?_
        exact UP.ret (r := some (.int (z10 113 1))) rfl ⟨by subst e10 e9; rfl, by subst e10 e9; rfl⟩
      · skip
        refine UP.icF rfl cc ?_
        refine UP.stp 1 (i1 := 22) (L1 := [some (.ref 0), some (.int 2), some (.int b), some (.ref 113)]) (st1 := [.int (-4)]) (s1 := s) rfl ?_
        exact UP.ret (r := some (.int (-4))) rfl ⟨by rfl, by rfl⟩
    · skip
      refine UP.ifF rfl cc ?_
      refine UP.stp 1 (i1 := 9) (L1 := [some (.ref 0), some (.int 2), some (.int b), none]) (st1 := [.int (-2)]) (s1 := s) rfl ?_
      exact UP.ret (r := some (.int (-2))) rfl ⟨by rfl, by rfl⟩
def W_cwipe_2 : List (Nat × Nat × Option Nat) := [(10, 10, some 0), (11, 14, none), (0, 0, some 12), (0, 0, some 13), (109, 114, none)]
def F_cwipe_2 (s : SG)  : Int32 × SG := bif m_cmp .ne (F_isBelow s 2 3) 0 then (let v4 := s 113 1; let z5 := F_retell_2 (uset s 113 1 0) ; (v4, z5)) else (((-2), s))
theorem fr_cwipe_2 (s : SG)   : Fr W_cwipe_2 s (F_cwipe_2 s).2 := by dsimp only [F_cwipe_2]; exact (Fr.bifp (b := m_cmp .ne (F_isBelow s 2 3) 0) (x := let v4 := s 113 1; let z5 := F_retell_2 (uset s 113 1 0) ; (v4, z5)) (y := ((-2), s)) (fun x : Int32 × SG => x.2) (Fr.tr (s1 := (uset s 113 1 0)) (Fr.uset (s1 := s) (a := 113) (j := 1) (x := 0) (by rfl) (Fr.rf _ _)) (Fr.wk (W2 := W_cwipe_2) (fr_retell_2 (uset s 113 1 0) ) (by rfl))) (Fr.rf _ _))
theorem ux_cwipe_2 (s : SG)   : UP m_X6_wipe 0 (m_ent 3 [.ref 0, .int 2]) [] s (Qb (F_cwipe_2 s)) := by
  refine UP.stp 2 (i1 := 2) (L1 := [some (.ref 0), some (.int 2), none]) (st1 := [.int 3, .int 2]) (s1 := s) rfl ?_
  refine UP.cI (M1 := m_X6_isBelow) (as := [.int 2, .int 3]) (rest := []) (T := F_isBelow s 2 3) rfl rfl (ux_isBelow s 2 3) ?_
  refine UP.spl (m_cmp .ne (F_isBelow s 2 3) 0) (let v4 := s 113 1; let z5 := F_retell_2 (uset s 113 1 0) ; (v4, z5)) (((-2), s)) (by rfl) (fun cc => ?_) (fun cc => ?_)
  · skip
    refine UP.ifT rfl cc ?_
    refine UP.stp 3 (i1 := 9) (L1 := [some (.ref 0), some (.int 2), none]) (st1 := [.int 2, .ref 1]) (s1 := s) rfl ?_
    refine UP.aald (e := 2) (r := 113) rfl rfl (by omega) rfl ?_
    refine UP.stp 1 (i1 := 11) (L1 := [some (.ref 0), some (.int 2), none]) (st1 := [.int (s 113 1)]) (s1 := s) rfl ?_
    refine nm (G := fun v4 => UP m_X6_wipe 11 [some (.ref 0), some (.int 2), none] [.int v4] s (Qb (let v4 := s 113 1; let z5 := F_retell_2 (uset s 113 1 0) ; (v4, z5)))) (s 113 1) (fun v4 e4 => ?_)
    refine UP.stp 4 (i1 := 15) (L1 := [some (.ref 0), some (.int 2), some (.int v4)]) (st1 := [.int 2, .ref 1]) (s1 := s) rfl ?_
    refine UP.aald (e := 2) (r := 113) rfl rfl (by omega) rfl ?_
    refine UP.stp 4 (i1 := 20) (L1 := [some (.ref 0), some (.int 2), some (.int v4)]) (st1 := [.int 2, .ref 0]) (s1 := (uset s 113 1 0)) rfl ?_
    refine UP.cV (M1 := m_X6_retell) (as := [.ref 0, .int 2]) (rest := []) (T := F_retell_2 (uset s 113 1 0) ) rfl rfl (ux_retell_2 (uset s 113 1 0)) (fun z5 e5 => ?_)
    refine UP.stp 1 (i1 := 22) (L1 := [some (.ref 0), some (.int 2), some (.int v4)]) (st1 := [.int v4]) (s1 := z5) rfl ?_
    exact UP.ret (r := some (.int v4)) rfl ⟨by subst e5 e4; rfl, by subst e5 e4; rfl⟩
  · skip
    refine UP.ifF rfl cc ?_
    refine UP.stp 1 (i1 := 5) (L1 := [some (.ref 0), some (.int 2), none]) (st1 := [.int (-2)]) (s1 := s) rfl ?_
    exact UP.ret (r := some (.int (-2))) rfl ⟨by rfl, by rfl⟩
def W_cundo_2 : List (Nat × Nat × Option Nat) := [(10, 10, some 0), (11, 14, none), (0, 0, some 12), (0, 0, some 13), (109, 114, none)]
def F_cundo_2 (s : SG)  : Int32 × SG := bif m_cmp .ne (F_isBelow s 2 3) 0 then (bif m_cmp .ne (s 113 1) 0 then (let v6 := (s 113 1) - 1; let z7 := F_retell_2 (uset s 113 1 v6) ; (z7 113 1, z7)) else (((-3), s))) else (((-2), s))
theorem fr_cundo_2 (s : SG)   : Fr W_cundo_2 s (F_cundo_2 s).2 := by dsimp only [F_cundo_2]; exact (Fr.bifp (b := m_cmp .ne (F_isBelow s 2 3) 0) (x := bif m_cmp .ne (s 113 1) 0 then (let v6 := (s 113 1) - 1; let z7 := F_retell_2 (uset s 113 1 v6) ; (z7 113 1, z7)) else (((-3), s))) (y := ((-2), s)) (fun x : Int32 × SG => x.2) (Fr.bifp (b := m_cmp .ne (s 113 1) 0) (x := let v6 := (s 113 1) - 1; let z7 := F_retell_2 (uset s 113 1 v6) ; (z7 113 1, z7)) (y := ((-3), s)) (fun x : Int32 × SG => x.2) (let v6 : Int32 := (s 113 1) - 1; (Fr.tr (s1 := (uset s 113 1 v6)) (Fr.uset (s1 := s) (a := 113) (j := 1) (x := v6) (by rfl) (Fr.rf _ _)) (Fr.wk (W2 := W_cundo_2) (fr_retell_2 (uset s 113 1 v6) ) (by rfl)))) (Fr.rf _ _)) (Fr.rf _ _))
theorem ux_cundo_2 (s : SG)   : UP m_X6_undo 0 (m_ent 2 [.ref 0, .int 2]) [] s (Qb (F_cundo_2 s)) := by
  refine UP.stp 2 (i1 := 2) (L1 := [some (.ref 0), some (.int 2)]) (st1 := [.int 3, .int 2]) (s1 := s) rfl ?_
  refine UP.cI (M1 := m_X6_isBelow) (as := [.int 2, .int 3]) (rest := []) (T := F_isBelow s 2 3) rfl rfl (ux_isBelow s 2 3) ?_
  refine UP.spl (m_cmp .ne (F_isBelow s 2 3) 0) (bif m_cmp .ne (s 113 1) 0 then (let v6 := (s 113 1) - 1; let z7 := F_retell_2 (uset s 113 1 v6) ; (z7 113 1, z7)) else (((-3), s))) (((-2), s)) (by rfl) (fun cc => ?_) (fun cc => ?_)
  · skip
    refine UP.ifT rfl cc ?_
    refine UP.stp 3 (i1 := 9) (L1 := [some (.ref 0), some (.int 2)]) (st1 := [.int 2, .ref 1]) (s1 := s) rfl ?_
    refine UP.aald (e := 2) (r := 113) rfl rfl (by omega) rfl ?_
    refine UP.stp 1 (i1 := 11) (L1 := [some (.ref 0), some (.int 2)]) (st1 := [.int (s 113 1)]) (s1 := s) rfl ?_
    refine UP.spl (m_cmp .ne (s 113 1) 0) (let v6 := (s 113 1) - 1; let z7 := F_retell_2 (uset s 113 1 v6) ; (z7 113 1, z7)) (((-3), s)) (by rfl) (fun cc => ?_) (fun cc => ?_)
    · skip
      refine UP.ifT rfl cc ?_
      refine UP.stp 3 (i1 := 17) (L1 := [some (.ref 0), some (.int 2)]) (st1 := [.int 2, .ref 1]) (s1 := s) rfl ?_
      refine UP.aald (e := 2) (r := 113) rfl rfl (by omega) rfl ?_
      refine UP.stp 4 (i1 := 22) (L1 := [some (.ref 0), some (.int 2)]) (st1 := [.int ((s 113 1) - 1), .ref 113]) (s1 := s) rfl ?_
      refine nm (G := fun v6 => UP m_X6_undo 22 [some (.ref 0), some (.int 2)] [.int v6, .ref 113] s (Qb (let v6 := (s 113 1) - 1; let z7 := F_retell_2 (uset s 113 1 v6) ; (z7 113 1, z7)))) ((s 113 1) - 1) (fun v6 e6 => ?_)
      refine UP.stp 3 (i1 := 25) (L1 := [some (.ref 0), some (.int 2)]) (st1 := [.int 2, .ref 0]) (s1 := (uset s 113 1 v6)) rfl ?_
      refine UP.cV (M1 := m_X6_retell) (as := [.ref 0, .int 2]) (rest := []) (T := F_retell_2 (uset s 113 1 v6) ) rfl rfl (ux_retell_2 (uset s 113 1 v6)) (fun z7 e7 => ?_)
      refine UP.stp 3 (i1 := 29) (L1 := [some (.ref 0), some (.int 2)]) (st1 := [.int 2, .ref 1]) (s1 := z7) rfl ?_
      refine UP.aald (e := 2) (r := 113) rfl rfl (by omega) rfl ?_
      refine UP.stp 1 (i1 := 31) (L1 := [some (.ref 0), some (.int 2)]) (st1 := [.int (z7 113 1)]) (s1 := z7) rfl ?_
      exact UP.ret (r := some (.int (z7 113 1))) rfl ⟨by subst e7 e6; rfl, by subst e7 e6; rfl⟩
    · skip
      refine UP.ifF rfl cc ?_
      refine UP.stp 1 (i1 := 13) (L1 := [some (.ref 0), some (.int 2)]) (st1 := [.int (-3)]) (s1 := s) rfl ?_
      exact UP.ret (r := some (.int (-3))) rfl ⟨by rfl, by rfl⟩
  · skip
    refine UP.ifF rfl cc ?_
    refine UP.stp 1 (i1 := 5) (L1 := [some (.ref 0), some (.int 2)]) (st1 := [.int (-2)]) (s1 := s) rfl ?_
    exact UP.ret (r := some (.int (-2))) rfl ⟨by rfl, by rfl⟩
def W_cfault_0 : List (Nat × Nat × Option Nat) := []
def F_cfault_0 (s : SG)  : Int32 := bif m_cmp .ne (F_isBelow s 0 3) 0 then (F_crewFault s) else ((-2))
theorem ux_cfault_0 (s : SG)   : UP m_X6_fault 0 (m_ent 2 [.ref 0, .int 0]) [] s (Qi s (F_cfault_0 s)) := by
  refine UP.stp 2 (i1 := 2) (L1 := [some (.ref 0), some (.int 0)]) (st1 := [.int 3, .int 0]) (s1 := s) rfl ?_
  refine UP.cI (M1 := m_X6_isBelow) (as := [.int 0, .int 3]) (rest := []) (T := F_isBelow s 0 3) rfl rfl (ux_isBelow s 0 3) ?_
  refine UP.spl (m_cmp .ne (F_isBelow s 0 3) 0) (F_crewFault s) ((-2)) (by rfl) (fun cc => ?_) (fun cc => ?_)
  · skip
    refine UP.ifT rfl cc ?_
    refine UP.stp 5 (i1 := 11) (L1 := [some (.ref 0), some (.int 0)]) (st1 := [.int 0, .ref 1]) (s1 := s) rfl ?_
    refine UP.aald (e := 0) (r := 109) rfl rfl (by omega) rfl ?_
    refine UP.cI (M1 := m_X4_crewFault) (as := [.ref 109]) (rest := []) (T := F_crewFault s ) rfl rfl (ux_crewFault s ) ?_
    refine UP.stp 1 (i1 := 25) (L1 := [some (.ref 0), some (.int 0)]) (st1 := [.int (F_crewFault s)]) (s1 := s) rfl ?_
    exact UP.ret (r := some (.int (F_crewFault s))) rfl ⟨by rfl, by rfl⟩
  · skip
    refine UP.ifF rfl cc ?_
    refine UP.stp 1 (i1 := 5) (L1 := [some (.ref 0), some (.int 0)]) (st1 := [.int (-2)]) (s1 := s) rfl ?_
    exact UP.ret (r := some (.int (-2))) rfl ⟨by rfl, by rfl⟩
def W_cfault_1 : List (Nat × Nat × Option Nat) := []
def F_cfault_1 (s : SG)  : Int32 := bif m_cmp .ne (F_isBelow s 1 3) 0 then (F_signFault_1 s) else ((-2))
theorem ux_cfault_1 (s : SG)   : UP m_X6_fault 0 (m_ent 2 [.ref 0, .int 1]) [] s (Qi s (F_cfault_1 s)) := by
  refine UP.stp 2 (i1 := 2) (L1 := [some (.ref 0), some (.int 1)]) (st1 := [.int 3, .int 1]) (s1 := s) rfl ?_
  refine UP.cI (M1 := m_X6_isBelow) (as := [.int 1, .int 3]) (rest := []) (T := F_isBelow s 1 3) rfl rfl (ux_isBelow s 1 3) ?_
  refine UP.spl (m_cmp .ne (F_isBelow s 1 3) 0) (F_signFault_1 s) ((-2)) (by rfl) (fun cc => ?_) (fun cc => ?_)
  · skip
    refine UP.ifT rfl cc ?_
    refine UP.stp 5 (i1 := 17) (L1 := [some (.ref 0), some (.int 1)]) (st1 := [.int 1, .ref 1]) (s1 := s) rfl ?_
    refine UP.aald (e := 1) (r := 111) rfl rfl (by omega) rfl ?_
    refine UP.stp 5 (i1 := 24) (L1 := [some (.ref 0), some (.int 1)]) (st1 := [.int 1, .ref 111]) (s1 := s) rfl ?_
    refine UP.cI (M1 := m_X4_signFault) (as := [.ref 111, .int 1]) (rest := []) (T := F_signFault_1 s ) rfl rfl (ux_signFault_1 s) ?_
    exact UP.ret (r := some (.int (F_signFault_1 s))) rfl ⟨by rfl, by rfl⟩
  · skip
    refine UP.ifF rfl cc ?_
    refine UP.stp 1 (i1 := 5) (L1 := [some (.ref 0), some (.int 1)]) (st1 := [.int (-2)]) (s1 := s) rfl ?_
    exact UP.ret (r := some (.int (-2))) rfl ⟨by rfl, by rfl⟩
def W_cfault_2 : List (Nat × Nat × Option Nat) := []
def F_cfault_2 (s : SG)  : Int32 := bif m_cmp .ne (F_isBelow s 2 3) 0 then (F_signFault_2 s) else ((-2))
theorem ux_cfault_2 (s : SG)   : UP m_X6_fault 0 (m_ent 2 [.ref 0, .int 2]) [] s (Qi s (F_cfault_2 s)) := by
  refine UP.stp 2 (i1 := 2) (L1 := [some (.ref 0), some (.int 2)]) (st1 := [.int 3, .int 2]) (s1 := s) rfl ?_
  refine UP.cI (M1 := m_X6_isBelow) (as := [.int 2, .int 3]) (rest := []) (T := F_isBelow s 2 3) rfl rfl (ux_isBelow s 2 3) ?_
  refine UP.spl (m_cmp .ne (F_isBelow s 2 3) 0) (F_signFault_2 s) ((-2)) (by rfl) (fun cc => ?_) (fun cc => ?_)
  · skip
    refine UP.ifT rfl cc ?_
    refine UP.stp 5 (i1 := 17) (L1 := [some (.ref 0), some (.int 2)]) (st1 := [.int 2, .ref 1]) (s1 := s) rfl ?_
    refine UP.aald (e := 2) (r := 113) rfl rfl (by omega) rfl ?_
    refine UP.stp 4 (i1 := 24) (L1 := [some (.ref 0), some (.int 2)]) (st1 := [.int 0, .ref 113]) (s1 := s) rfl ?_
    refine UP.cI (M1 := m_X4_signFault) (as := [.ref 113, .int 0]) (rest := []) (T := F_signFault_2 s ) rfl rfl (ux_signFault_2 s) ?_
    exact UP.ret (r := some (.int (F_signFault_2 s))) rfl ⟨by rfl, by rfl⟩
  · skip
    refine UP.ifF rfl cc ?_
    refine UP.stp 1 (i1 := 5) (L1 := [some (.ref 0), some (.int 2)]) (st1 := [.int (-2)]) (s1 := s) rfl ?_
    exact UP.ret (r := some (.int (-2))) rfl ⟨by rfl, by rfl⟩
def W_crower : List (Nat × Nat × Option Nat) := []
def F_crower (s : SG) (seat : Int32) (what : Int32) : Int32 := bif m_cmp .eq (F_cisRower s seat) 0 then ((-2)) else (bif m_cmp .ne (F_isBelow s what 2) 0 then (let v7 := bif m_cmp .ne what 0 then s 12 seat.toNatClampNeg else s 11 seat.toNatClampNeg; v7) else ((-2)))
theorem ux_crower (s : SG) (seat : Int32) (what : Int32)  : UP m_X6_rower 0 (m_ent 3 [.ref 0, .int seat, .int what]) [] s (Qi s (F_crower s seat what)) := by
  refine UP.stp 2 (i1 := 2) (L1 := [some (.ref 0), some (.int seat), some (.int what)]) (st1 := [.int seat, .ref 0]) (s1 := s) rfl ?_
  refine UP.cI (M1 := m_X6_isRower) (as := [.ref 0, .int seat]) (rest := []) (T := F_cisRower s seat) rfl rfl (ux_cisRower s seat) ?_
  refine UP.spl (m_cmp .eq (F_cisRower s seat) 0) ((-2)) (bif m_cmp .ne (F_isBelow s what 2) 0 then (let v7 := bif m_cmp .ne what 0 then s 12 seat.toNatClampNeg else s 11 seat.toNatClampNeg; v7) else ((-2))) (by rfl) (fun cc => ?_) (fun cc => ?_)
  · skip
    refine UP.ifT rfl cc ?_
    refine UP.stp 1 (i1 := 9) (L1 := [some (.ref 0), some (.int seat), some (.int what)]) (st1 := [.int (-2)]) (s1 := s) rfl ?_
    exact UP.ret (r := some (.int (-2))) rfl ⟨by rfl, by rfl⟩
  · skip
    refine UP.ifF rfl cc ?_
    refine UP.stp 2 (i1 := 6) (L1 := [some (.ref 0), some (.int seat), some (.int what)]) (st1 := [.int 2, .int what]) (s1 := s) rfl ?_
    refine UP.cI (M1 := m_X6_isBelow) (as := [.int what, .int 2]) (rest := []) (T := F_isBelow s what 2) rfl rfl (ux_isBelow s what 2) ?_
    refine UP.spl (m_cmp .ne (F_isBelow s what 2) 0) (let v7 := bif m_cmp .ne what 0 then s 12 seat.toNatClampNeg else s 11 seat.toNatClampNeg; v7) ((-2)) (by rfl) (fun cc => ?_) (fun cc => ?_)
    · skip
      refine UP.ifT rfl cc ?_
      refine UP.stp 1 (i1 := 11) (L1 := [some (.ref 0), some (.int seat), some (.int what)]) (st1 := [.int what]) (s1 := s) rfl ?_
      refine mrg (m_cmp .ne what 0) (s 12 seat.toNatClampNeg) (s 11 seat.toNatClampNeg) (fun v7 : Int32 => UP m_X6_rower 23 [some (.ref 0), some (.int seat), some (.int what)] [.int v7] s (Qi s (let v7 := bif m_cmp .ne what 0 then s 12 seat.toNatClampNeg else s 11 seat.toNatClampNeg; v7))) (fun cc kk => ?_) (fun cc kk => ?_) (fun v7 e7 => ?_)
      · skip
        refine UP.ifT rfl cc ?_
        refine UP.stp 5 (i1 := 23) (L1 := [some (.ref 0), some (.int seat), some (.int what)]) (st1 := [.int (s 12 seat.toNatClampNeg)]) (s1 := s) rfl ?_
        exact kk
      · skip
        refine UP.ifF rfl cc ?_
        refine UP.stp 6 (i1 := 23) (L1 := [some (.ref 0), some (.int seat), some (.int what)]) (st1 := [.int (s 11 seat.toNatClampNeg)]) (s1 := s) rfl ?_
        exact kk
      exact UP.ret (r := some (.int v7)) rfl ⟨by subst e7; rfl, by subst e7; rfl⟩
    · skip
      refine UP.ifF rfl cc ?_
      refine UP.stp 1 (i1 := 9) (L1 := [some (.ref 0), some (.int seat), some (.int what)]) (st1 := [.int (-2)]) (s1 := s) rfl ?_
      exact UP.ret (r := some (.int (-2))) rfl ⟨by rfl, by rfl⟩
def W_ccall : List (Nat × Nat × Option Nat) := []
def F_ccall (s : SG) (minute : Int32) (what : Int32) : Int32 := bif m_cmp .eq (F_isBelow s minute 24) 0 then ((-2)) else (bif m_cmp .ne (F_isBelow s what 2) 0 then (let v7 := bif m_cmp .ne what 0 then s 14 minute.toNatClampNeg else s 13 minute.toNatClampNeg; v7) else ((-2)))
theorem ux_ccall (s : SG) (minute : Int32) (what : Int32)  : UP m_X6_call 0 (m_ent 3 [.ref 0, .int minute, .int what]) [] s (Qi s (F_ccall s minute what)) := by
  refine UP.stp 2 (i1 := 2) (L1 := [some (.ref 0), some (.int minute), some (.int what)]) (st1 := [.int 24, .int minute]) (s1 := s) rfl ?_
  refine UP.cI (M1 := m_X6_isBelow) (as := [.int minute, .int 24]) (rest := []) (T := F_isBelow s minute 24) rfl rfl (ux_isBelow s minute 24) ?_
  refine UP.spl (m_cmp .eq (F_isBelow s minute 24) 0) ((-2)) (bif m_cmp .ne (F_isBelow s what 2) 0 then (let v7 := bif m_cmp .ne what 0 then s 14 minute.toNatClampNeg else s 13 minute.toNatClampNeg; v7) else ((-2))) (by rfl) (fun cc => ?_) (fun cc => ?_)
  · skip
    refine UP.ifT rfl cc ?_
    refine UP.stp 1 (i1 := 9) (L1 := [some (.ref 0), some (.int minute), some (.int what)]) (st1 := [.int (-2)]) (s1 := s) rfl ?_
    exact UP.ret (r := some (.int (-2))) rfl ⟨by rfl, by rfl⟩
  · skip
    refine UP.ifF rfl cc ?_
    refine UP.stp 2 (i1 := 6) (L1 := [some (.ref 0), some (.int minute), some (.int what)]) (st1 := [.int 2, .int what]) (s1 := s) rfl ?_
    refine UP.cI (M1 := m_X6_isBelow) (as := [.int what, .int 2]) (rest := []) (T := F_isBelow s what 2) rfl rfl (ux_isBelow s what 2) ?_
    refine UP.spl (m_cmp .ne (F_isBelow s what 2) 0) (let v7 := bif m_cmp .ne what 0 then s 14 minute.toNatClampNeg else s 13 minute.toNatClampNeg; v7) ((-2)) (by rfl) (fun cc => ?_) (fun cc => ?_)
    · skip
      refine UP.ifT rfl cc ?_
      refine UP.stp 1 (i1 := 11) (L1 := [some (.ref 0), some (.int minute), some (.int what)]) (st1 := [.int what]) (s1 := s) rfl ?_
      refine mrg (m_cmp .ne what 0) (s 14 minute.toNatClampNeg) (s 13 minute.toNatClampNeg) (fun v7 : Int32 => UP m_X6_call 23 [some (.ref 0), some (.int minute), some (.int what)] [.int v7] s (Qi s (let v7 := bif m_cmp .ne what 0 then s 14 minute.toNatClampNeg else s 13 minute.toNatClampNeg; v7))) (fun cc kk => ?_) (fun cc kk => ?_) (fun v7 e7 => ?_)
      · skip
        refine UP.ifT rfl cc ?_
        refine UP.stp 5 (i1 := 23) (L1 := [some (.ref 0), some (.int minute), some (.int what)]) (st1 := [.int (s 14 minute.toNatClampNeg)]) (s1 := s) rfl ?_
        exact kk
      · skip
        refine UP.ifF rfl cc ?_
        refine UP.stp 6 (i1 := 23) (L1 := [some (.ref 0), some (.int minute), some (.int what)]) (st1 := [.int (s 13 minute.toNatClampNeg)]) (s1 := s) rfl ?_
        exact kk
      exact UP.ret (r := some (.int v7)) rfl ⟨by subst e7; rfl, by subst e7; rfl⟩
    · skip
      refine UP.ifF rfl cc ?_
      refine UP.stp 1 (i1 := 9) (L1 := [some (.ref 0), some (.int minute), some (.int what)]) (st1 := [.int (-2)]) (s1 := s) rfl ?_
      exact UP.ret (r := some (.int (-2))) rfl ⟨by rfl, by rfl⟩
def W_tellStream : List (Nat × Nat × Option Nat) := [(0, 0, some 12), (0, 0, some 13), (10, 10, some 5)]
def F_tellStream (s : SG) (v : Int32) : Int32 × SG := bif m_cmp .ne (F_isBelow s v 10) 0 then (let v4 := s 10 5; let z5 := F_mark (uset s 10 5 v) ; (v4, z5)) else (((-2), s))
theorem fr_tellStream (s : SG) (v : Int32)  : Fr W_tellStream s (F_tellStream s v).2 := by dsimp only [F_tellStream]; exact (Fr.bifp (b := m_cmp .ne (F_isBelow s v 10) 0) (x := let v4 := s 10 5; let z5 := F_mark (uset s 10 5 v) ; (v4, z5)) (y := ((-2), s)) (fun x : Int32 × SG => x.2) (Fr.tr (s1 := (uset s 10 5 v)) (Fr.uset (s1 := s) (a := 10) (j := 5) (x := v) (by rfl) (Fr.rf _ _)) (Fr.wk (W2 := W_tellStream) (fr_mark (uset s 10 5 v) ) (by rfl))) (Fr.rf _ _))
theorem ux_tellStream (s : SG) (v : Int32)  : UP m_X6_tellStream 0 (m_ent 3 [.ref 0, .int v]) [] s (Qb (F_tellStream s v)) := by
  refine UP.stp 2 (i1 := 2) (L1 := [some (.ref 0), some (.int v), none]) (st1 := [.int 10, .int v]) (s1 := s) rfl ?_
  refine UP.cI (M1 := m_X6_isBelow) (as := [.int v, .int 10]) (rest := []) (T := F_isBelow s v 10) rfl rfl (ux_isBelow s v 10) ?_
  refine UP.spl (m_cmp .ne (F_isBelow s v 10) 0) (let v4 := s 10 5; let z5 := F_mark (uset s 10 5 v) ; (v4, z5)) (((-2), s)) (by rfl) (fun cc => ?_) (fun cc => ?_)
  · skip
    refine UP.ifT rfl cc ?_
    refine UP.stp 3 (i1 := 9) (L1 := [some (.ref 0), some (.int v), none]) (st1 := [.int (s 10 5)]) (s1 := s) rfl ?_
    refine nm (G := fun v4 => UP m_X6_tellStream 9 [some (.ref 0), some (.int v), none] [.int v4] s (Qb (let v4 := s 10 5; let z5 := F_mark (uset s 10 5 v) ; (v4, z5)))) (s 10 5) (fun v4 e4 => ?_)
    refine UP.stp 6 (i1 := 15) (L1 := [some (.ref 0), some (.int v), some (.int v4)]) (st1 := [.ref 0]) (s1 := (uset s 10 5 v)) rfl ?_
    refine UP.cV (M1 := m_X6_markChanged) (as := [.ref 0]) (rest := []) (T := F_mark (uset s 10 5 v) ) rfl rfl (ux_mark (uset s 10 5 v) ) (fun z5 e5 => ?_)
    refine UP.stp 1 (i1 := 17) (L1 := [some (.ref 0), some (.int v), some (.int v4)]) (st1 := [.int v4]) (s1 := z5) rfl ?_
    exact UP.ret (r := some (.int v4)) rfl ⟨by subst e5 e4; rfl, by subst e5 e4; rfl⟩
  · skip
    refine UP.ifF rfl cc ?_
    refine UP.stp 1 (i1 := 5) (L1 := [some (.ref 0), some (.int v), none]) (st1 := [.int (-2)]) (s1 := s) rfl ?_
    exact UP.ret (r := some (.int (-2))) rfl ⟨by rfl, by rfl⟩
def W_tellHome : List (Nat × Nat × Option Nat) := [(0, 0, some 12), (0, 0, some 13), (10, 10, some 6)]
def F_tellHome (s : SG) (v : Int32) : Int32 × SG := bif m_cmp .lt v 50 then (((-2), s)) else (bif m_cmp .le v 999 then (let v5 := s 10 6; let z6 := F_mark (uset s 10 6 v) ; (v5, z6)) else (((-2), s)))
theorem fr_tellHome (s : SG) (v : Int32)  : Fr W_tellHome s (F_tellHome s v).2 := by dsimp only [F_tellHome]; exact (Fr.bifp (b := m_cmp .lt v 50) (x := ((-2), s)) (y := bif m_cmp .le v 999 then (let v5 := s 10 6; let z6 := F_mark (uset s 10 6 v) ; (v5, z6)) else (((-2), s))) (fun x : Int32 × SG => x.2) (Fr.rf _ _) (Fr.bifp (b := m_cmp .le v 999) (x := let v5 := s 10 6; let z6 := F_mark (uset s 10 6 v) ; (v5, z6)) (y := ((-2), s)) (fun x : Int32 × SG => x.2) (Fr.tr (s1 := (uset s 10 6 v)) (Fr.uset (s1 := s) (a := 10) (j := 6) (x := v) (by rfl) (Fr.rf _ _)) (Fr.wk (W2 := W_tellHome) (fr_mark (uset s 10 6 v) ) (by rfl))) (Fr.rf _ _)))
theorem ux_tellHome (s : SG) (v : Int32)  : UP m_X6_tellHome 0 (m_ent 3 [.ref 0, .int v]) [] s (Qb (F_tellHome s v)) := by
  refine UP.stp 2 (i1 := 2) (L1 := [some (.ref 0), some (.int v), none]) (st1 := [.int 50, .int v]) (s1 := s) rfl ?_
  refine UP.spl (m_cmp .lt v 50) (((-2), s)) (bif m_cmp .le v 999 then (let v5 := s 10 6; let z6 := F_mark (uset s 10 6 v) ; (v5, z6)) else (((-2), s))) (by rfl) (fun cc => ?_) (fun cc => ?_)
  · skip
    refine UP.icT rfl cc ?_
    refine UP.stp 1 (i1 := 7) (L1 := [some (.ref 0), some (.int v), none]) (st1 := [.int (-2)]) (s1 := s) rfl ?_
    exact UP.ret (r := some (.int (-2))) rfl ⟨by rfl, by rfl⟩
  · skip
    refine UP.icF rfl cc ?_
    refine UP.stp 2 (i1 := 5) (L1 := [some (.ref 0), some (.int v), none]) (st1 := [.int 999, .int v]) (s1 := s) rfl ?_
    refine UP.spl (m_cmp .le v 999) (let v5 := s 10 6; let z6 := F_mark (uset s 10 6 v) ; (v5, z6)) (((-2), s)) (by rfl) (fun cc => ?_) (fun cc => ?_)
    · skip
      refine UP.icT rfl cc ?_
      refine UP.stp 3 (i1 := 11) (L1 := [some (.ref 0), some (.int v), none]) (st1 := [.int (s 10 6)]) (s1 := s) rfl ?_
      refine nm (G := fun v5 => UP m_X6_tellHome 11 [some (.ref 0), some (.int v), none] [.int v5] s (Qb (let v5 := s 10 6; let z6 := F_mark (uset s 10 6 v) ; (v5, z6)))) (s 10 6) (fun v5 e5 => ?_)
      refine UP.stp 6 (i1 := 17) (L1 := [some (.ref 0), some (.int v), some (.int v5)]) (st1 := [.ref 0]) (s1 := (uset s 10 6 v)) rfl ?_
      refine UP.cV (M1 := m_X6_markChanged) (as := [.ref 0]) (rest := []) (T := F_mark (uset s 10 6 v) ) rfl rfl (ux_mark (uset s 10 6 v) ) (fun z6 e6 => ?_)
      refine UP.stp 1 (i1 := 19) (L1 := [some (.ref 0), some (.int v), some (.int v5)]) (st1 := [.int v5]) (s1 := z6) rfl ?_
      exact UP.ret (r := some (.int v5)) rfl ⟨by subst e6 e5; rfl, by subst e6 e5; rfl⟩
    · skip
      refine UP.icF rfl cc ?_
      refine UP.stp 1 (i1 := 7) (L1 := [some (.ref 0), some (.int v), none]) (st1 := [.int (-2)]) (s1 := s) rfl ?_
      exact UP.ret (r := some (.int (-2))) rfl ⟨by rfl, by rfl⟩
