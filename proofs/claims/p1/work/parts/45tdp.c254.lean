def W_csheet_3 : List (Nat × Nat × Option Nat) := [(121, 121, none), (122, 122, none), (0, 0, some 4)]
def F_csheet_3 (s : SG) (form : Int32) (n : Int32) : Int32 × SG := bif m_cmp .eq (F_isBelow s 3 4) 0 then (((-2), s)) else (bif m_cmp .eq (F_isBelow s form 3) 0 then (((-2), s)) else (bif m_cmp .le n 60 then (bif m_cmp .ge n 0 then (let z11 := F_begin_3 s form n; (n, z11)) else (let z12 := F_find s 5; z12)) else (((-2), s))))
set_option maxRecDepth 20000 in
set_option maxHeartbeats 200000 in
theorem fr_csheet_3 (s : SG) (form : Int32) (n : Int32)  : Fr W_csheet_3 s (F_csheet_3 s form n).2 := by dsimp only [F_csheet_3]; exact (Fr.bifp (b := m_cmp .eq (F_isBelow s 3 4) 0) (x := ((-2), s)) (y := bif m_cmp .eq (F_isBelow s form 3) 0 then (((-2), s)) else (bif m_cmp .le n 60 then (bif m_cmp .ge n 0 then (let z11 := F_begin_3 s form n; (n, z11)) else (let z12 := F_find s 5; z12)) else (((-2), s)))) (fun x : Int32 × SG => x.2) (by (try dsimp only); exact (Fr.rf _ _)) (by (try dsimp only); exact (Fr.bifp (b := m_cmp .eq (F_isBelow s form 3) 0) (x := ((-2), s)) (y := bif m_cmp .le n 60 then (bif m_cmp .ge n 0 then (let z11 := F_begin_3 s form n; (n, z11)) else (let z12 := F_find s 5; z12)) else (((-2), s))) (fun x : Int32 × SG => x.2) (by (try dsimp only); exact (Fr.rf _ _)) (by (try dsimp only); exact (Fr.bifp (b := m_cmp .le n 60) (x := bif m_cmp .ge n 0 then (let z11 := F_begin_3 s form n; (n, z11)) else (let z12 := F_find s 5; z12)) (y := ((-2), s)) (fun x : Int32 × SG => x.2) (by (try dsimp only); exact (Fr.bifp (b := m_cmp .ge n 0) (x := let z11 := F_begin_3 s form n; (n, z11)) (y := let z12 := F_find s 5; z12) (fun x : Int32 × SG => x.2) (by (try dsimp only); exact (Fr.tr (s1 := s) (Fr.rf _ _) (Fr.wk (W2 := W_csheet_3) (fr_begin_3 s form n) (by rfl)))) (by (try dsimp only); exact (Fr.tr (s1 := s) (Fr.rf _ _) (Fr.wk (W2 := W_csheet_3) (fr_find s 5) (by rfl)))))) (by (try dsimp only); exact (Fr.rf _ _)))))))
set_option maxRecDepth 20000 in
set_option maxHeartbeats 200000 in
theorem ux_csheet_3 (s : SG) (form : Int32) (n : Int32)  : UP m_X6_sheet 0 (m_ent 4 [.ref 0, .int 3, .int form, .int n]) [] s (Qb (F_csheet_3 s form n)) := by
  refine UP.stp 2 (i1 := 2) (L1 := [some (.ref 0), some (.int 3), some (.int form), some (.int n)]) (st1 := [.int 4, .int 3]) (s1 := s) rfl ?_
  refine UP.cI (M1 := m_X6_isBelow) (as := [.int 3, .int 4]) (rest := []) (T := F_isBelow s 3 4) rfl rfl (ux_isBelow s 3 4) ?_
  refine UP.spl (m_cmp .eq (F_isBelow s 3 4) 0) (((-2), s)) (bif m_cmp .eq (F_isBelow s form 3) 0 then (((-2), s)) else (bif m_cmp .le n 60 then (bif m_cmp .ge n 0 then (let z11 := F_begin_3 s form n; (n, z11)) else (let z12 := F_find s 5; z12)) else (((-2), s)))) (by first | (dsimp only [F_csheet_3]; done) | (dsimp only; done) | rfl) (fun cc => ?_) (fun cc => ?_)
  · skip
    refine UP.ifT rfl cc ?_
    refine UP.stp 1 (i1 := 12) (L1 := [some (.ref 0), some (.int 3), some (.int form), some (.int n)]) (st1 := [.int (-2)]) (s1 := s) rfl ?_
    exact UP.ret (r := some (.int (-2))) rfl ⟨by first | (dsimp only [F_csheet_3]; done) | (dsimp only; done) | rfl, by first | (dsimp only [F_csheet_3]; done) | (dsimp only; done) | rfl⟩
  · skip
    refine UP.ifF rfl cc ?_
    refine UP.stp 2 (i1 := 6) (L1 := [some (.ref 0), some (.int 3), some (.int form), some (.int n)]) (st1 := [.int 3, .int form]) (s1 := s) rfl ?_
    refine UP.cI (M1 := m_X6_isBelow) (as := [.int form, .int 3]) (rest := []) (T := F_isBelow s form 3) rfl rfl (ux_isBelow s form 3) ?_
    refine UP.spl (m_cmp .eq (F_isBelow s form 3) 0) (((-2), s)) (bif m_cmp .le n 60 then (bif m_cmp .ge n 0 then (let z11 := F_begin_3 s form n; (n, z11)) else (let z12 := F_find s 5; z12)) else (((-2), s))) (by first | (dsimp only [F_csheet_3]; done) | (dsimp only; done) | rfl) (fun cc => ?_) (fun cc => ?_)
    · skip
      refine UP.ifT rfl cc ?_
      refine UP.stp 1 (i1 := 12) (L1 := [some (.ref 0), some (.int 3), some (.int form), some (.int n)]) (st1 := [.int (-2)]) (s1 := s) rfl ?_
      exact UP.ret (r := some (.int (-2))) rfl ⟨by first | (dsimp only [F_csheet_3]; done) | (dsimp only; done) | rfl, by first | (dsimp only [F_csheet_3]; done) | (dsimp only; done) | rfl⟩
    · skip
      refine UP.ifF rfl cc ?_
      refine UP.stp 2 (i1 := 10) (L1 := [some (.ref 0), some (.int 3), some (.int form), some (.int n)]) (st1 := [.int 60, .int n]) (s1 := s) rfl ?_
      refine UP.spl (m_cmp .le n 60) (bif m_cmp .ge n 0 then (let z11 := F_begin_3 s form n; (n, z11)) else (let z12 := F_find s 5; z12)) (((-2), s)) (by first | (dsimp only [F_csheet_3]; done) | (dsimp only; done) | rfl) (fun cc => ?_) (fun cc => ?_)
      · skip
        refine UP.icT rfl cc ?_
        refine UP.stp 1 (i1 := 14) (L1 := [some (.ref 0), some (.int 3), some (.int form), some (.int n)]) (st1 := [.int n]) (s1 := s) rfl ?_
        refine UP.spl (m_cmp .ge n 0) (let z11 := F_begin_3 s form n; (n, z11)) (let z12 := F_find s 5; z12) (by first | (dsimp only [F_csheet_3]; done) | (dsimp only; done) | rfl) (fun cc => ?_) (fun cc => ?_)
        · skip
          refine UP.ifT rfl cc ?_
          refine UP.stp 3 (i1 := 22) (L1 := [some (.ref 0), some (.int 3), some (.int form), some (.int n)]) (st1 := [.int 3, .ref 9]) (s1 := s) rfl ?_
          refine UP.aald (e := 3) (r := 121) rfl rfl (by omega) rfl ?_
          refine UP.stp 2 (i1 := 25) (L1 := [some (.ref 0), some (.int 3), some (.int form), some (.int n)]) (st1 := [.int n, .int form, .ref 121]) (s1 := s) rfl ?_
          refine UP.cV (M1 := m_X3_begin) (as := [.ref 121, .int form, .int n]) (rest := []) (T := F_begin_3 s form n) rfl rfl (ux_begin_3 s form n) (fun z11 e11 => ?_)
          refine UP.stp 1 (i1 := 27) (L1 := [some (.ref 0), some (.int 3), some (.int form), some (.int n)]) (st1 := [.int n]) (s1 := z11) rfl ?_
          exact UP.ret (r := some (.int n)) rfl ⟨by subst e11; first | (dsimp only [F_csheet_3]; done) | (dsimp only; done) | rfl, by subst e11; first | (dsimp only [F_csheet_3]; done) | (dsimp only; done) | rfl⟩
        · skip
          refine UP.ifF rfl cc ?_
          refine UP.stp 2 (i1 := 17) (L1 := [some (.ref 0), some (.int 3), some (.int form), some (.int n)]) (st1 := [.int 5, .ref 0]) (s1 := s) rfl ?_
          refine UP.cB (M1 := m_X6_find) (as := [.ref 0, .int 5]) (rest := []) (T := F_find s 5) rfl rfl (ux_find s 5) (fun z12 e12 => ?_)
          exact UP.ret (r := some (.int z12.1)) rfl ⟨by subst e12; first | (dsimp only [F_csheet_3]; done) | (dsimp only; done) | rfl, by subst e12; first | (dsimp only [F_csheet_3]; done) | (dsimp only; done) | rfl⟩
      · skip
        refine UP.icF rfl cc ?_
        refine UP.stp 1 (i1 := 12) (L1 := [some (.ref 0), some (.int 3), some (.int form), some (.int n)]) (st1 := [.int (-2)]) (s1 := s) rfl ?_
        exact UP.ret (r := some (.int (-2))) rfl ⟨by first | (dsimp only [F_csheet_3]; done) | (dsimp only; done) | rfl, by first | (dsimp only [F_csheet_3]; done) | (dsimp only; done) | rfl⟩
def W_close_3 : List (Nat × Nat × Option Nat) := [(121, 121, none), (122, 122, none), (0, 0, some 4)]
def F_close_3 (s : SG)  : Int32 × SG := bif m_cmp .ne (F_isBelow s 3 4) 0 then (bif m_cmp .eq (s 121 1) 0 then ((s 121 3, (uset s 121 1 1))) else (let z6 := F_find s 1; z6)) else (((-2), s))
set_option maxRecDepth 20000 in
set_option maxHeartbeats 200000 in
theorem fr_close_3 (s : SG)   : Fr W_close_3 s (F_close_3 s).2 := by dsimp only [F_close_3]; exact (Fr.bifp (b := m_cmp .ne (F_isBelow s 3 4) 0) (x := bif m_cmp .eq (s 121 1) 0 then ((s 121 3, (uset s 121 1 1))) else (let z6 := F_find s 1; z6)) (y := ((-2), s)) (fun x : Int32 × SG => x.2) (by (try dsimp only); exact (Fr.bifp (b := m_cmp .eq (s 121 1) 0) (x := (s 121 3, (uset s 121 1 1))) (y := let z6 := F_find s 1; z6) (fun x : Int32 × SG => x.2) (by (try dsimp only); exact (Fr.uset (s1 := s) (a := 121) (j := 1) (x := 1) (by rfl) (Fr.rf _ _))) (by (try dsimp only); exact (Fr.tr (s1 := s) (Fr.rf _ _) (Fr.wk (W2 := W_close_3) (fr_find s 1) (by rfl)))))) (by (try dsimp only); exact (Fr.rf _ _)))
set_option maxRecDepth 20000 in
set_option maxHeartbeats 200000 in
theorem ux_close_3 (s : SG)   : UP m_X6_lose 0 (m_ent 2 [.ref 0, .int 3]) [] s (Qb (F_close_3 s)) := by
  refine UP.stp 2 (i1 := 2) (L1 := [some (.ref 0), some (.int 3)]) (st1 := [.int 4, .int 3]) (s1 := s) rfl ?_
  refine UP.cI (M1 := m_X6_isBelow) (as := [.int 3, .int 4]) (rest := []) (T := F_isBelow s 3 4) rfl rfl (ux_isBelow s 3 4) ?_
  refine UP.spl (m_cmp .ne (F_isBelow s 3 4) 0) (bif m_cmp .eq (s 121 1) 0 then ((s 121 3, (uset s 121 1 1))) else (let z6 := F_find s 1; z6)) (((-2), s)) (by first | (dsimp only [F_close_3]; done) | (dsimp only; done) | rfl) (fun cc => ?_) (fun cc => ?_)
  · skip
    refine UP.ifT rfl cc ?_
    refine UP.stp 3 (i1 := 9) (L1 := [some (.ref 0), some (.int 3)]) (st1 := [.int 3, .ref 9]) (s1 := s) rfl ?_
    refine UP.aald (e := 3) (r := 121) rfl rfl (by omega) rfl ?_
    refine UP.stp 1 (i1 := 11) (L1 := [some (.ref 0), some (.int 3)]) (st1 := [.int (s 121 1)]) (s1 := s) rfl ?_
    refine UP.spl (m_cmp .eq (s 121 1) 0) ((s 121 3, (uset s 121 1 1))) (let z6 := F_find s 1; z6) (by first | (dsimp only [F_close_3]; done) | (dsimp only; done) | rfl) (fun cc => ?_) (fun cc => ?_)
    · skip
      refine UP.ifT rfl cc ?_
      refine UP.stp 3 (i1 := 19) (L1 := [some (.ref 0), some (.int 3)]) (st1 := [.int 3, .ref 9]) (s1 := s) rfl ?_
      refine UP.aald (e := 3) (r := 121) rfl rfl (by omega) rfl ?_
      refine UP.stp 5 (i1 := 25) (L1 := [some (.ref 0), some (.int 3)]) (st1 := [.int 3, .ref 9]) (s1 := (uset s 121 1 1)) rfl ?_
      refine UP.aald (e := 3) (r := 121) rfl rfl (by omega) rfl ?_
      refine UP.stp 1 (i1 := 27) (L1 := [some (.ref 0), some (.int 3)]) (st1 := [.int (s 121 3)]) (s1 := (uset s 121 1 1)) rfl ?_
      exact UP.ret (r := some (.int (s 121 3))) rfl ⟨by first | (dsimp only [F_close_3]; done) | (dsimp only; done) | rfl, by first | (dsimp only [F_close_3]; done) | (dsimp only; done) | rfl⟩
    · skip
      refine UP.ifF rfl cc ?_
      refine UP.stp 2 (i1 := 14) (L1 := [some (.ref 0), some (.int 3)]) (st1 := [.int 1, .ref 0]) (s1 := s) rfl ?_
      refine UP.cB (M1 := m_X6_find) (as := [.ref 0, .int 1]) (rest := []) (T := F_find s 1) rfl rfl (ux_find s 1) (fun z6 e6 => ?_)
      exact UP.ret (r := some (.int z6.1)) rfl ⟨by subst e6; first | (dsimp only [F_close_3]; done) | (dsimp only; done) | rfl, by subst e6; first | (dsimp only [F_close_3]; done) | (dsimp only; done) | rfl⟩
  · skip
    refine UP.ifF rfl cc ?_
    refine UP.stp 1 (i1 := 5) (L1 := [some (.ref 0), some (.int 3)]) (st1 := [.int (-2)]) (s1 := s) rfl ?_
    exact UP.ret (r := some (.int (-2))) rfl ⟨by first | (dsimp only [F_close_3]; done) | (dsimp only; done) | rfl, by first | (dsimp only [F_close_3]; done) | (dsimp only; done) | rfl⟩
