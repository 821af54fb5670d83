def W_ckeep_2 : List (Nat × Nat × Option Nat) := [(119, 119, none), (120, 120, none), (0, 0, some 4)]
def F_ckeep_2 (s : SG) (i : Int32) (v : Int32) : SG := let v2 := bif m_cmp .ne (s 119 2) 0 then (bif m_cmp .ne (s 119 2) 1 then v else v.toInt16.toInt32) else v.toInt8.toInt32; (uset s 120 i.toNatClampNeg v2)
theorem fr_ckeep_2 (s : SG) (i : Int32) (v : Int32)  : Fr W_ckeep_2 s (F_ckeep_2 s i v) := by dsimp only [F_ckeep_2]; exact (let v2 : Int32 := bif m_cmp .ne (s 119 2) 0 then (bif m_cmp .ne (s 119 2) 1 then v else v.toInt16.toInt32) else v.toInt8.toInt32; (Fr.uset (s1 := s) (a := 120) (j := i.toNatClampNeg) (x := v2) (by rfl) (Fr.rf _ _)))
theorem ux_ckeep_2 (s : SG) (i : Int32) (v : Int32)  : UP m_X3_keep 0 (m_ent 3 [.ref 119, .int i, .int v]) [] s (Qv (F_ckeep_2 s i v)) := by
  refine UP.stp 5 (i1 := 5) (L1 := [some (.ref 119), some (.int i), some (.int v)]) (st1 := [.int (s 119 2), .int i, .ref 120]) (s1 := s) rfl ?_
  refine mrg (m_cmp .ne (s 119 2) 0) (bif m_cmp .ne (s 119 2) 1 then v else v.toInt16.toInt32) v.toInt8.toInt32 (fun v2 : Int32 => UP m_X3_keep 17 [some (.ref 119), some (.int i), some (.int v)] [.int v2, .int i, .ref 120] s (Qv (F_ckeep_2 s i v))) (fun cc kk => ?_) (fun cc kk => ?_) (fun v2 e2 => ?_)
  · skip
    refine UP.ifT rfl cc ?_
    refine UP.stp 3 (i1 := 12) (L1 := [some (.ref 119), some (.int i), some (.int v)]) (st1 := [.int 1, .int (s 119 2), .int i, .ref 120]) (s1 := s) rfl ?_
    refine mrg (m_cmp .ne (s 119 2) 1) v v.toInt16.toInt32 (fun v1 : Int32 => UP m_X3_keep 17 [some (.ref 119), some (.int i), some (.int v)] [.int v1, .int i, .ref 120] s (Qv (F_ckeep_2 s i v))) (fun cc kk => ?_) (fun cc kk => ?_) (fun v1 e1 => ?_)
    · skip
      refine UP.icT rfl cc ?_
      refine UP.stp 1 (i1 := 17) (L1 := [some (.ref 119), some (.int i), some (.int v)]) (st1 := [.int v, .int i, .ref 120]) (s1 := s) rfl ?_
      exact kk
    · skip
      refine UP.icF rfl cc ?_
      refine UP.stp 3 (i1 := 17) (L1 := [some (.ref 119), some (.int i), some (.int v)]) (st1 := [.int v.toInt16.toInt32, .int i, .ref 120]) (s1 := s) rfl ?_
      exact kk
    subst e1
    exact kk
  · skip
    refine UP.ifF rfl cc ?_
    refine UP.stp 3 (i1 := 17) (L1 := [some (.ref 119), some (.int i), some (.int v)]) (st1 := [.int v.toInt8.toInt32, .int i, .ref 120]) (s1 := s) rfl ?_
    exact kk
  refine UP.stp 1 (i1 := 18) (L1 := [some (.ref 119), some (.int i), some (.int v)]) (st1 := []) (s1 := (uset s 120 i.toNatClampNeg v2)) rfl ?_
  exact UP.ret (r := none) rfl ⟨by subst e2; rfl, by subst e2; rfl⟩
def W_csheet_2 : List (Nat × Nat × Option Nat) := [(119, 119, none), (120, 120, none), (0, 0, some 4)]
def F_csheet_2 (s : SG) (form : Int32) (n : Int32) : Int32 × SG := bif m_cmp .eq (F_isBelow s 2 4) 0 then (((-2), s)) else (bif m_cmp .eq (F_isBelow s form 3) 0 then (((-2), s)) else (bif m_cmp .le n 60 then (bif m_cmp .ge n 0 then (let z11 := F_begin_2 s form n; (n, z11)) else (let z12 := F_find s 5; z12)) else (((-2), s))))
theorem fr_csheet_2 (s : SG) (form : Int32) (n : Int32)  : Fr W_csheet_2 s (F_csheet_2 s form n).2 := by dsimp only [F_csheet_2]; exact (Fr.bifp (b := m_cmp .eq (F_isBelow s 2 4) 0) (x := ((-2), s)) (y := bif m_cmp .eq (F_isBelow s form 3) 0 then (((-2), s)) else (bif m_cmp .le n 60 then (bif m_cmp .ge n 0 then (let z11 := F_begin_2 s form n; (n, z11)) else (let z12 := F_find s 5; z12)) else (((-2), s)))) (fun x : Int32 × SG => x.2) (Fr.rf _ _) (Fr.bifp (b := m_cmp .eq (F_isBelow s form 3) 0) (x := ((-2), s)) (y := bif m_cmp .le n 60 then (bif m_cmp .ge n 0 then (let z11 := F_begin_2 s form n; (n, z11)) else (let z12 := F_find s 5; z12)) else (((-2), s))) (fun x : Int32 × SG => x.2) (Fr.rf _ _) (Fr.bifp (b := m_cmp .le n 60) (x := bif m_cmp .ge n 0 then (let z11 := F_begin_2 s form n; (n, z11)) else (let z12 := F_find s 5; z12)) (y := ((-2), s)) (fun x : Int32 × SG => x.2) (Fr.bifp (b := m_cmp .ge n 0) (x := let z11 := F_begin_2 s form n; (n, z11)) (y := let z12 := F_find s 5; z12) (fun x : Int32 × SG => x.2) (Fr.tr (s1 := s) (Fr.rf _ _) (Fr.wk (W2 := W_csheet_2) (fr_begin_2 s form n) (by rfl))) (Fr.tr (s1 := s) (Fr.rf _ _) (Fr.wk (W2 := W_csheet_2) (fr_find s 5) (by rfl)))) (Fr.rf _ _))))
theorem ux_csheet_2 (s : SG) (form : Int32) (n : Int32)  : UP m_X6_sheet 0 (m_ent 4 [.ref 0, .int 2, .int form, .int n]) [] s (Qb (F_csheet_2 s form n)) := by
  refine UP.stp 2 (i1 := 2) (L1 := [some (.ref 0), some (.int 2), some (.int form), some (.int n)]) (st1 := [.int 4, .int 2]) (s1 := s) rfl ?_
  refine UP.cI (M1 := m_X6_isBelow) (as := [.int 2, .int 4]) (rest := []) (T := F_isBelow s 2 4) rfl rfl (ux_isBelow s 2 4) ?_
  refine UP.spl (m_cmp .eq (F_isBelow s 2 4) 0) (((-2), s)) (bif m_cmp .eq (F_isBelow s form 3) 0 then (((-2), s)) else (bif m_cmp .le n 60 then (bif m_cmp .ge n 0 then (let z11 := F_begin_2 s form n; (n, z11)) else (let z12 := F_find s 5; z12)) else (((-2), s)))) (by rfl) (fun cc => ?_) (fun cc => ?_)
  · skip
    refine UP.ifT rfl cc ?_
    refine UP.stp 1 (i1 := 12) (L1 := [some (.ref 0), some (.int 2), some (.int form), some (.int n)]) (st1 := [.int (-2)]) (s1 := s) rfl ?_
    exact UP.ret (r := some (.int (-2))) rfl ⟨by rfl, by rfl⟩
  · skip
    refine UP.ifF rfl cc ?_
    refine UP.stp 2 (i1 := 6) (L1 := [some (.ref 0), some (.int 2), some (.int form), some (.int n)]) (st1 := [.int 3, .int form]) (s1 := s) rfl ?_
    refine UP.cI (M1 := m_X6_isBelow) (as := [.int form, .int 3]) (rest := []) (T := F_isBelow s form 3) rfl rfl (ux_isBelow s form 3) ?_
    refine UP.spl (m_cmp .eq (F_isBelow s form 3) 0) (((-2), s)) (bif m_cmp .le n 60 then (bif m_cmp .ge n 0 then (let z11 := F_begin_2 s form n; (n, z11)) else (let z12 := F_find s 5; z12)) else (((-2), s))) (by rfl) (fun cc => ?_) (fun cc => ?_)
    · skip
      refine UP.ifT rfl cc ?_
      refine UP.stp 1 (i1 := 12) (L1 := [some (.ref 0), some (.int 2), some (.int form), some (.int n)]) (st1 := [.int (-2)]) (s1 := s) rfl ?_
      exact UP.ret (r := some (.int (-2))) rfl ⟨by rfl, by rfl⟩
    · skip
      refine UP.ifF rfl cc ?_
      refine UP.stp 2 (i1 := 10) (L1 := [some (.ref 0), some (.int 2), some (.int form), some (.int n)]) (st1 := [.int 60, .int n]) (s1 := s) rfl ?_
      refine UP.spl (m_cmp .le n 60) (bif m_cmp .ge n 0 then (let z11 := F_begin_2 s form n; (n, z11)) else (let z12 := F_find s 5; z12)) (((-2), s)) (by rfl) (fun cc => ?_) (fun cc => ?_)
      · skip
        refine UP.icT rfl cc ?_
        refine UP.stp 1 (i1 := 14) (L1 := [some (.ref 0), some (.int 2), some (.int form), some (.int n)]) (st1 := [.int n]) (s1 := s) rfl ?_
        refine UP.spl (m_cmp .ge n 0) (let z11 := F_begin_2 s form n; (n, z11)) (let z12 := F_find s 5; z12) (by rfl) (fun cc => ?_) (fun cc => ?_)
        · skip
          refine UP.ifT rfl cc ?_
          refine UP.stp 3 (i1 := 22) (L1 := [some (.ref 0), some (.int 2), some (.int form), some (.int n)]) (st1 := [.int 2, .ref 9]) (s1 := s) rfl ?_
          refine UP.aald (e := 2) (r := 119) rfl rfl (by omega) rfl ?_
          refine UP.stp 2 (i1 := 25) (L1 := [some (.ref 0), some (.int 2), some (.int form), some (.int n)]) (st1 := [.int n, .int form, .ref 119]) (s1 := s) rfl ?_
          refine UP.cV (M1 := m_X3_begin) (as := [.ref 119, .int form, .int n]) (rest := []) (T := F_begin_2 s form n) rfl rfl (ux_begin_2 s form n) (fun z11 e11 => ?_)
          refine UP.stp 1 (i1 := 27) (L1 := [some (.ref 0), some (.int 2), some (.int form), some (.int n)]) (st1 := [.int n]) (s1 := z11) rfl ?_
          exact UP.ret (r := some (.int n)) rfl ⟨by subst e11; rfl, by subst e11; rfl⟩
        · skip
          refine UP.ifF rfl cc ?_
          refine UP.stp 2 (i1 := 17) (L1 := [some (.ref 0), some (.int 2), some (.int form), some (.int n)]) (st1 := [.int 5, .ref 0]) (s1 := s) rfl ?_
          refine UP.cB (M1 := m_X6_find) (as := [.ref 0, .int 5]) (rest := []) (T := F_find s 5) rfl rfl (ux_find s 5) (fun z12 e12 => ?_)
          exact UP.ret (r := some (.int z12.1)) rfl ⟨by subst e12; rfl, by subst e12; rfl⟩
      · skip
        refine UP.icF rfl cc ?_
        refine UP.stp 1 (i1 := 12) (L1 := [some (.ref 0), some (.int 2), some (.int form), some (.int n)]) (st1 := [.int (-2)]) (s1 := s) rfl ?_
        exact UP.ret (r := some (.int (-2))) rfl ⟨by rfl, by rfl⟩
def W_close_2 : List (Nat × Nat × Option Nat) := [(119, 119, none), (120, 120, none), (0, 0, some 4)]
def F_close_2 (s : SG)  : Int32 × SG := bif m_cmp .ne (F_isBelow s 2 4) 0 then (bif m_cmp .eq (s 119 1) 0 then ((s 119 3, (uset s 119 1 1))) else (let z6 := F_find s 1; z6)) else (((-2), s))
theorem fr_close_2 (s : SG)   : Fr W_close_2 s (F_close_2 s).2 := by dsimp only [F_close_2]; exact (Fr.bifp (b := m_cmp .ne (F_isBelow s 2 4) 0) (x := bif m_cmp .eq (s 119 1) 0 then ((s 119 3, (uset s 119 1 1))) else (let z6 := F_find s 1; z6)) (y := ((-2), s)) (fun x : Int32 × SG => x.2) (Fr.bifp (b := m_cmp .eq (s 119 1) 0) (x := (s 119 3, (uset s 119 1 1))) (y := let z6 := F_find s 1; z6) (fun x : Int32 × SG => x.2) (Fr.uset (s1 := s) (a := 119) (j := 1) (x := 1) (by rfl) (Fr.rf _ _)) (Fr.tr (s1 := s) (Fr.rf _ _) (Fr.wk (W2 := W_close_2) (fr_find s 1) (by rfl)))) (Fr.rf _ _))
theorem ux_close_2 (s : SG)   : UP m_X6_lose 0 (m_ent 2 [.ref 0, .int 2]) [] s (Qb (F_close_2 s)) := by
  refine UP.stp 2 (i1 := 2) (L1 := [some (.ref 0), some (.int 2)]) (st1 := [.int 4, .int 2]) (s1 := s) rfl ?_
  refine UP.cI (M1 := m_X6_isBelow) (as := [.int 2, .int 4]) (rest := []) (T := F_isBelow s 2 4) rfl rfl (ux_isBelow s 2 4) ?_
  refine UP.spl (m_cmp .ne (F_isBelow s 2 4) 0) (bif m_cmp .eq (s 119 1) 0 then ((s 119 3, (uset s 119 1 1))) else (let z6 := F_find s 1; z6)) (((-2), s)) (by rfl) (fun cc => ?_) (fun cc => ?_)
  · skip
    refine UP.ifT rfl cc ?_
    refine UP.stp 3 (i1 := 9) (L1 := [some (.ref 0), some (.int 2)]) (st1 := [.int 2, .ref 9]) (s1 := s) rfl ?_
    refine UP.aald (e := 2) (r := 119) rfl rfl (by omega) rfl ?_
    refine UP.stp 1 (i1 := 11) (L1 := [some (.ref 0), some (.int 2)]) (st1 := [.int (s 119 1)]) (s1 := s) rfl ?_
    refine UP.spl (m_cmp .eq (s 119 1) 0) ((s 119 3, (uset s 119 1 1))) (let z6 := F_find s 1; z6) (by rfl) (fun cc => ?_) (fun cc => ?_)
    · skip
      refine UP.ifT rfl cc ?_
      refine UP.stp 3 (i1 := 19) (L1 := [some (.ref 0), some (.int 2)]) (st1 := [.int 2, .ref 9]) (s1 := s) rfl ?_
      refine UP.aald (e := 2) (r := 119) rfl rfl (by omega) rfl ?_
      refine UP.stp 5 (i1 := 25) (L1 := [some (.ref 0), some (.int 2)]) (st1 := [.int 2, .ref 9]) (s1 := (uset s 119 1 1)) rfl ?_
      refine UP.aald (e := 2) (r := 119) rfl rfl (by omega) rfl ?_
      refine UP.stp 1 (i1 := 27) (L1 := [some (.ref 0), some (.int 2)]) (st1 := [.int (s 119 3)]) (s1 := (uset s 119 1 1)) rfl ?_
      exact UP.ret (r := some (.int (s 119 3))) rfl ⟨by rfl, by rfl⟩
    · skip
      refine UP.ifF rfl cc ?_
      refine UP.stp 2 (i1 := 14) (L1 := [some (.ref 0), some (.int 2)]) (st1 := [.int 1, .ref 0]) (s1 := s) rfl ?_
      refine UP.cB (M1 := m_X6_find) (as := [.ref 0, .int 1]) (rest := []) (T := F_find s 1) rfl rfl (ux_find s 1) (fun z6 e6 => ?_)
      exact UP.ret (r := some (.int z6.1)) rfl ⟨by subst e6; rfl, by subst e6; rfl⟩
  · skip
    refine UP.ifF rfl cc ?_
    refine UP.stp 1 (i1 := 5) (L1 := [some (.ref 0), some (.int 2)]) (st1 := [.int (-2)]) (s1 := s) rfl ?_
    exact UP.ret (r := some (.int (-2))) rfl ⟨by rfl, by rfl⟩
def W_cput_2 : List (Nat × Nat × Option Nat) := [(119, 119, none), (120, 120, none), (0, 0, some 4)]
def F_cput_2 (s : SG) (form : Int32) (i : Int32) (v : Int32) : Int32 × SG := bif m_cmp .eq (F_isBelow s 2 4) 0 then (((-2), s)) else (bif m_cmp .ne (F_isBelow s form 3) 0 then (let v8 := F_findingOf_2 s form i; bif m_cmp .eq v8 0 then (let z11 := F_ckeep_2 s i v; (1, z11)) else (let z12 := F_find s v8; z12)) else (((-2), s)))
theorem fr_cput_2 (s : SG) (form : Int32) (i : Int32) (v : Int32)  : Fr W_cput_2 s (F_cput_2 s form i v).2 := by dsimp only [F_cput_2]; exact (Fr.bifp (b := m_cmp .eq (F_isBelow s 2 4) 0) (x := ((-2), s)) (y := bif m_cmp .ne (F_isBelow s form 3) 0 then (let v8 := F_findingOf_2 s form i; bif m_cmp .eq v8 0 then (let z11 := F_ckeep_2 s i v; (1, z11)) else (let z12 := F_find s v8; z12)) else (((-2), s))) (fun x : Int32 × SG => x.2) (Fr.rf _ _) (Fr.bifp (b := m_cmp .ne (F_isBelow s form 3) 0) (x := let v8 := F_findingOf_2 s form i; bif m_cmp .eq v8 0 then (let z11 := F_ckeep_2 s i v; (1, z11)) else (let z12 := F_find s v8; z12)) (y := ((-2), s)) (fun x : Int32 × SG => x.2) (let v8 : Int32 := F_findingOf_2 s form i; (Fr.bifp (b := m_cmp .eq v8 0) (x := let z11 := F_ckeep_2 s i v; (1, z11)) (y := let z12 := F_find s v8; z12) (fun x : Int32 × SG => x.2) (Fr.tr (s1 := s) (Fr.rf _ _) (Fr.wk (W2 := W_cput_2) (fr_ckeep_2 s i v) (by rfl))) (Fr.tr (s1 := s) (Fr.rf _ _) (Fr.wk (W2 := W_cput_2) (fr_find s v8) (by rfl))))) (Fr.rf _ _)))
theorem ux_cput_2 (s : SG) (form : Int32) (i : Int32) (v : Int32)  : UP m_X6_put 0 (m_ent 6 [.ref 0, .int 2, .int form, .int i, .int v]) [] s (Qb (F_cput_2 s form i v)) := by
  refine UP.stp 2 (i1 := 2) (L1 := [some (.ref 0), some (.int 2), some (.int form), some (.int i), some (.int v), none]) (st1 := [.int 4, .int 2]) (s1 := s) rfl ?_
  refine UP.cI (M1 := m_X6_isBelow) (as := [.int 2, .int 4]) (rest := []) (T := F_isBelow s 2 4) rfl rfl (ux_isBelow s 2 4) ?_
  refine UP.spl (m_cmp .eq (F_isBelow s 2 4) 0) (((-2), s)) (bif m_cmp .ne (F_isBelow s form 3) 0 then (let v8 := F_findingOf_2 s form i; bif m_cmp .eq v8 0 then (let z11 := F_ckeep_2 s i v; (1, z11)) else (let z12 := F_find s v8; z12)) else (((-2), s))) (by rfl) (fun cc => ?_) (fun cc => ?_)
  · skip
    refine UP.ifT rfl cc ?_
    refine UP.stp 1 (i1 := 9) (L1 := [some (.ref 0), some (.int 2), some (.int form), some (.int i), some (.int v), none]) (st1 := [.int (-2)]) (s1 := s) rfl ?_
    exact UP.ret (r := some (.int (-2))) rfl ⟨by rfl, by rfl⟩
  · skip
    refine UP.ifF rfl cc ?_
    refine UP.stp 2 (i1 := 6) (L1 := [some (.ref 0), some (.int 2), some (.int form), some (.int i), some (.int v), none]) (st1 := [.int 3, .int form]) (s1 := s) rfl ?_
    refine UP.cI (M1 := m_X6_isBelow) (as := [.int form, .int 3]) (rest := []) (T := F_isBelow s form 3) rfl rfl (ux_isBelow s form 3) ?_
    refine UP.spl (m_cmp .ne (F_isBelow s form 3) 0) (let v8 := F_findingOf_2 s form i; bif m_cmp .eq v8 0 then (let z11 := F_ckeep_2 s i v; (1, z11)) else (let z12 := F_find s v8; z12)) (((-2), s)) (by rfl) (fun cc => ?_) (fun cc => ?_)
    · skip
      refine UP.ifT rfl cc ?_
      refine UP.stp 3 (i1 := 13) (L1 := [some (.ref 0), some (.int 2), some (.int form), some (.int i), some (.int v), none]) (st1 := [.int 2, .ref 9]) (s1 := s) rfl ?_
      refine UP.aald (e := 2) (r := 119) rfl rfl (by omega) rfl ?_
      refine UP.stp 2 (i1 := 16) (L1 := [some (.ref 0), some (.int 2), some (.int form), some (.int i), some (.int v), none]) (st1 := [.int i, .int form, .ref 119]) (s1 := s) rfl ?_
      refine UP.cI (M1 := m_X3_findingOf) (as := [.ref 119, .int form, .int i]) (rest := []) (T := F_findingOf_2 s form i) rfl rfl (ux_findingOf_2 s form i) ?_
      refine nm (G := fun v8 => UP m_X6_put 17 [some (.ref 0), some (.int 2), some (.int form), some (.int i), some (.int v), none] [.int v8] s (Qb (let v8 := F_findingOf_2 s form i; bif m_cmp .eq v8 0 then (let z11 := F_ckeep_2 s i v; (1, z11)) else (let z12 := F_find s v8; z12)))) (F_findingOf_2 s form i) (fun v8 e8 => ?_)
      refine UP.stp 2 (i1 := 19) (L1 := [some (.ref 0), some (.int 2), some (.int form), some (.int i), some (.int v), some (.int v8)]) (st1 := [.int v8]) (s1 := s) rfl ?_
      refine UP.spl (m_cmp .eq v8 0) (let z11 := F_ckeep_2 s i v; (1, z11)) (let z12 := F_find s v8; z12) (by subst e8; rfl) (fun cc => ?_) (fun cc => ?_)
      · skip
        refine UP.ifT rfl cc ?_
        refine UP.stp 3 (i1 := 27) (L1 := [some (.ref 0), some (.int 2), some (.int form), some (.int i), some (.int v), some (.int v8)]) (st1 := [.int 2, .ref 9]) (s1 := s) rfl ?_
        refine UP.aald (e := 2) (r := 119) rfl rfl (by omega) rfl ?_
        refine UP.stp 2 (i1 := 30) (L1 := [some (.ref 0), some (.int 2), some (.int form), some (.int i), some (.int v), some (.int v8)]) (st1 := [.int v, .int i, .ref 119]) (s1 := s) rfl ?_
        refine UP.cV (M1 := m_X3_keep) (as := [.ref 119, .int i, .int v]) (rest := []) (T := F_ckeep_2 s i v) rfl rfl (ux_ckeep_2 s i v) (fun z11 e11 => ?_)
        refine UP.stp 1 (i1 := 32) (L1 := [some (.ref 0), some (.int 2), some (.int form), some (.int i), some (.int v), some (.int v8)]) (st1 := [.int 1]) (s1 := z11) rfl ?_
        exact UP.ret (r := some (.int 1)) rfl ⟨by subst e11 e8; rfl, by subst e11 e8; rfl⟩
      · skip
        refine UP.ifF rfl cc ?_
        refine UP.stp 2 (i1 := 22) (L1 := [some (.ref 0), some (.int 2), some (.int form), some (.int i), some (.int v), some (.int v8)]) (st1 := [.int v8, .ref 0]) (s1 := s) rfl ?_
        refine UP.cB (M1 := m_X6_find) (as := [.ref 0, .int v8]) (rest := []) (T := F_find s v8) rfl rfl (ux_find s v8) (fun z12 e12 => ?_)
        exact UP.ret (r := some (.int z12.1)) rfl ⟨by subst e12 e8; rfl, by subst e12 e8; rfl⟩
    · skip
      refine UP.ifF rfl cc ?_
      refine UP.stp 1 (i1 := 9) (L1 := [some (.ref 0), some (.int 2), some (.int form), some (.int i), some (.int v), none]) (st1 := [.int (-2)]) (s1 := s) rfl ?_
      exact UP.ret (r := some (.int (-2))) rfl ⟨by rfl, by rfl⟩
def W_cget_2 : List (Nat × Nat × Option Nat) := [(119, 119, none), (120, 120, none), (0, 0, some 4)]
def F_cget_2 (s : SG) (form : Int32) (i : Int32) : Int32 × SG := bif m_cmp .eq (F_isBelow s 2 4) 0 then (((-2147483648), s)) else (bif m_cmp .ne (F_isBelow s form 3) 0 then (let v8 := F_findingOf_2 s form i; bif m_cmp .eq v8 0 then ((s 120 i.toNatClampNeg, s)) else (((-2147483648), (uset s 0 4 v8)))) else (((-2147483648), s)))
theorem fr_cget_2 (s : SG) (form : Int32) (i : Int32)  : Fr W_cget_2 s (F_cget_2 s form i).2 := by dsimp only [F_cget_2]; exact (Fr.bifp (b := m_cmp .eq (F_isBelow s 2 4) 0) (x := ((-2147483648), s)) (y := bif m_cmp .ne (F_isBelow s form 3) 0 then (let v8 := F_findingOf_2 s form i; bif m_cmp .eq v8 0 then ((s 120 i.toNatClampNeg, s)) else (((-2147483648), (uset s 0 4 v8)))) else (((-2147483648), s))) (fun x : Int32 × SG => x.2) (Fr.rf _ _) (Fr.bifp (b := m_cmp .ne (F_isBelow s form 3) 0) (x := let v8 := F_findingOf_2 s form i; bif m_cmp .eq v8 0 then ((s 120 i.toNatClampNeg, s)) else (((-2147483648), (uset s 0 4 v8)))) (y := ((-2147483648), s)) (fun x : Int32 × SG => x.2) (let v8 : Int32 := F_findingOf_2 s form i; (Fr.bifp (b := m_cmp .eq v8 0) (x := (s 120 i.toNatClampNeg, s)) (y := ((-2147483648), (uset s 0 4 v8))) (fun x : Int32 × SG => x.2) (Fr.rf _ _) (Fr.uset (s1 := s) (a := 0) (j := 4) (x := v8) (by rfl) (Fr.rf _ _)))) (Fr.rf _ _)))
theorem ux_cget_2 (s : SG) (form : Int32) (i : Int32)  : UP m_X6_get 0 (m_ent 5 [.ref 0, .int 2, .int form, .int i]) [] s (Qb (F_cget_2 s form i)) := by
  refine UP.stp 2 (i1 := 2) (L1 := [some (.ref 0), some (.int 2), some (.int form), some (.int i), none]) (st1 := [.int 4, .int 2]) (s1 := s) rfl ?_
  refine UP.cI (M1 := m_X6_isBelow) (as := [.int 2, .int 4]) (rest := []) (T := F_isBelow s 2 4) rfl rfl (ux_isBelow s 2 4) ?_
  refine UP.spl (m_cmp .eq (F_isBelow s 2 4) 0) (((-2147483648), s)) (bif m_cmp .ne (F_isBelow s form 3) 0 then (let v8 := F_findingOf_2 s form i; bif m_cmp .eq v8 0 then ((s 120 i.toNatClampNeg, s)) else (((-2147483648), (uset s 0 4 v8)))) else (((-2147483648), s))) (by rfl) (fun cc => ?_) (fun cc => ?_)
  · skip
    refine UP.ifT rfl cc ?_
    refine UP.stp 1 (i1 := 9) (L1 := [some (.ref 0), some (.int 2), some (.int form), some (.int i), none]) (st1 := [.int (-2147483648)]) (s1 := s) rfl ?_
    exact UP.ret (r := some (.int (-2147483648))) rfl ⟨by rfl, by rfl⟩
  · skip
    refine UP.ifF rfl cc ?_
    refine UP.stp 2 (i1 := 6) (L1 := [some (.ref 0), some (.int 2), some (.int form), some (.int i), none]) (st1 := [.int 3, .int form]) (s1 := s) rfl ?_
    refine UP.cI (M1 := m_X6_isBelow) (as := [.int form, .int 3]) (rest := []) (T := F_isBelow s form 3) rfl rfl (ux_isBelow s form 3) ?_
    refine UP.spl (m_cmp .ne (F_isBelow s form 3) 0) (let v8 := F_findingOf_2 s form i; bif m_cmp .eq v8 0 then ((s 120 i.toNatClampNeg, s)) else (((-2147483648), (uset s 0 4 v8)))) (((-2147483648), s)) (by rfl) (fun cc => ?_) (fun cc => ?_)
    · skip
      refine UP.ifT rfl cc ?_
      refine UP.stp 3 (i1 := 13) (L1 := [some (.ref 0), some (.int 2), some (.int form), some (.int i), none]) (st1 := [.int 2, .ref 9]) (s1 := s) rfl ?_
      refine UP.aald (e := 2) (r := 119) rfl rfl (by omega) rfl ?_
      refine UP.stp 2 (i1 := 16) (L1 := [some (.ref 0), some (.int 2), some (.int form), some (.int i), none]) (st1 := [.int i, .int form, .ref 119]) (s1 := s) rfl ?_
      refine UP.cI (M1 := m_X3_findingOf) (as := [.ref 119, .int form, .int i]) (rest := []) (T := F_findingOf_2 s form i) rfl rfl (ux_findingOf_2 s form i) ?_
      refine nm (G := fun v8 => UP m_X6_get 17 [some (.ref 0), some (.int 2), some (.int form), some (.int i), none] [.int v8] s (Qb (let v8 := F_findingOf_2 s form i; bif m_cmp .eq v8 0 then ((s 120 i.toNatClampNeg, s)) else (((-2147483648), (uset s 0 4 v8)))))) (F_findingOf_2 s form i) (fun v8 e8 => ?_)
      refine UP.stp 2 (i1 := 19) (L1 := [some (.ref 0), some (.int 2), some (.int form), some (.int i), some (.int v8)]) (st1 := [.int v8]) (s1 := s) rfl ?_
      refine UP.spl (m_cmp .eq v8 0) ((s 120 i.toNatClampNeg, s)) (((-2147483648), (uset s 0 4 v8))) (by subst e8; rfl) (fun cc => ?_) (fun cc => ?_)
      · skip
        refine UP.ifT rfl cc ?_
        refine UP.stp 3 (i1 := 28) (L1 := [some (.ref 0), some (.int 2), some (.int form), some (.int i), some (.int v8)]) (st1 := [.int 2, .ref 9]) (s1 := s) rfl ?_
        refine UP.aald (e := 2) (r := 119) rfl rfl (by omega) rfl ?_
        refine UP.stp 3 (i1 := 32) (L1 := [some (.ref 0), some (.int 2), some (.int form), some (.int i), some (.int v8)]) (st1 := [.int (s 120 i.toNatClampNeg)]) (s1 := s) rfl ?_
        exact UP.ret (r := some (.int (s 120 i.toNatClampNeg))) rfl ⟨by subst e8; rfl, by subst e8; rfl⟩
      · skip
        refine UP.ifF rfl cc ?_
        refine UP.stp 4 (i1 := 24) (L1 := [some (.ref 0), some (.int 2), some (.int form), some (.int i), some (.int v8)]) (st1 := [.int (-2147483648)]) (s1 := (uset s 0 4 v8)) rfl ?_
        exact UP.ret (r := some (.int (-2147483648))) rfl ⟨by subst e8; rfl, by subst e8; rfl⟩
    · skip
      refine UP.ifF rfl cc ?_
      refine UP.stp 1 (i1 := 9) (L1 := [some (.ref 0), some (.int 2), some (.int form), some (.int i), none]) (st1 := [.int (-2147483648)]) (s1 := s) rfl ?_
      exact UP.ret (r := some (.int (-2147483648))) rfl ⟨by rfl, by rfl⟩
