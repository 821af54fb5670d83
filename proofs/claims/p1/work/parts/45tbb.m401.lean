def W_river : List (Nat × Nat × Option Nat) := [(123, 123, some 9), (123, 123, some 10)]
def F_river (s : SG) (what : Int32) (v : Int32) : Int32 × SG := bif m_cmp .eq (F_isTwo s what) 0 then (((-2), s)) else (bif m_cmp .ne what 0 then (bif m_cmp .ne what 1 then (let v8 := bif m_cmp .ne what 0 then s 123 10 else s 123 9; let v9 := bif m_cmp .ne what 0 then s 123 9 else v; let v10 := bif m_cmp .ne what 1 then s 123 10 else v; (v8, (uset (uset s 123 9 v9) 123 10 v10))) else (bif m_cmp .ne (F_in s v 50 999) 0 then (let v14 := bif m_cmp .ne what 0 then s 123 10 else s 123 9; let v15 := bif m_cmp .ne what 0 then s 123 9 else v; let v16 := bif m_cmp .ne what 1 then s 123 10 else v; (v14, (uset (uset s 123 9 v15) 123 10 v16))) else (((-2), s)))) else (bif m_cmp .eq (F_in s v 0 9) 0 then (((-2), s)) else (bif m_cmp .ne what 1 then (let v22 := bif m_cmp .ne what 0 then s 123 10 else s 123 9; let v23 := bif m_cmp .ne what 0 then s 123 9 else v; let v24 := bif m_cmp .ne what 1 then s 123 10 else v; (v22, (uset (uset s 123 9 v23) 123 10 v24))) else (bif m_cmp .ne (F_in s v 50 999) 0 then (let v28 := bif m_cmp .ne what 0 then s 123 10 else s 123 9; let v29 := bif m_cmp .ne what 0 then s 123 9 else v; let v30 := bif m_cmp .ne what 1 then s 123 10 else v; (v28, (uset (uset s 123 9 v29) 123 10 v30))) else (((-2), s))))))
set_option maxRecDepth 20000 in
set_option maxHeartbeats 200000 in
theorem fr_river (s : SG) (what : Int32) (v : Int32)  : Fr W_river s (F_river s what v).2 := by dsimp only [F_river]; exact (Fr.bifp (b := m_cmp .eq (F_isTwo s what) 0) (x := ((-2), s)) (y := bif m_cmp .ne what 0 then (bif m_cmp .ne what 1 then (let v8 := bif m_cmp .ne what 0 then s 123 10 else s 123 9; let v9 := bif m_cmp .ne what 0 then s 123 9 else v; let v10 := bif m_cmp .ne what 1 then s 123 10 else v; (v8, (uset (uset s 123 9 v9) 123 10 v10))) else (bif m_cmp .ne (F_in s v 50 999) 0 then (let v14 := bif m_cmp .ne what 0 then s 123 10 else s 123 9; let v15 := bif m_cmp .ne what 0 then s 123 9 else v; let v16 := bif m_cmp .ne what 1 then s 123 10 else v; (v14, (uset (uset s 123 9 v15) 123 10 v16))) else (((-2), s)))) else (bif m_cmp .eq (F_in s v 0 9) 0 then (((-2), s)) else (bif m_cmp .ne what 1 then (let v22 := bif m_cmp .ne what 0 then s 123 10 else s 123 9; let v23 := bif m_cmp .ne what 0 then s 123 9 else v; let v24 := bif m_cmp .ne what 1 then s 123 10 else v; (v22, (uset (uset s 123 9 v23) 123 10 v24))) else (bif m_cmp .ne (F_in s v 50 999) 0 then (let v28 := bif m_cmp .ne what 0 then s 123 10 else s 123 9; let v29 := bif m_cmp .ne what 0 then s 123 9 else v; let v30 := bif m_cmp .ne what 1 then s 123 10 else v; (v28, (uset (uset s 123 9 v29) 123 10 v30))) else (((-2), s)))))) (fun x : Int32 × SG => x.2) (by (try dsimp only); exact (Fr.rf _ _)) (by (try dsimp only); exact (Fr.bifp (b := m_cmp .ne what 0) (x := bif m_cmp .ne what 1 then (let v8 := bif m_cmp .ne what 0 then s 123 10 else s 123 9; let v9 := bif m_cmp .ne what 0 then s 123 9 else v; let v10 := bif m_cmp .ne what 1 then s 123 10 else v; (v8, (uset (uset s 123 9 v9) 123 10 v10))) else (bif m_cmp .ne (F_in s v 50 999) 0 then (let v14 := bif m_cmp .ne what 0 then s 123 10 else s 123 9; let v15 := bif m_cmp .ne what 0 then s 123 9 else v; let v16 := bif m_cmp .ne what 1 then s 123 10 else v; (v14, (uset (uset s 123 9 v15) 123 10 v16))) else (((-2), s)))) (y := bif m_cmp .eq (F_in s v 0 9) 0 then (((-2), s)) else (bif m_cmp .ne what 1 then (let v22 := bif m_cmp .ne what 0 then s 123 10 else s 123 9; let v23 := bif m_cmp .ne what 0 then s 123 9 else v; let v24 := bif m_cmp .ne what 1 then s 123 10 else v; (v22, (uset (uset s 123 9 v23) 123 10 v24))) else (bif m_cmp .ne (F_in s v 50 999) 0 then (let v28 := bif m_cmp .ne what 0 then s 123 10 else s 123 9; let v29 := bif m_cmp .ne what 0 then s 123 9 else v; let v30 := bif m_cmp .ne what 1 then s 123 10 else v; (v28, (uset (uset s 123 9 v29) 123 10 v30))) else (((-2), s))))) (fun x : Int32 × SG => x.2) (by (try dsimp only); exact (Fr.bifp (b := m_cmp .ne what 1) (x := let v8 := bif m_cmp .ne what 0 then s 123 10 else s 123 9; let v9 := bif m_cmp .ne what 0 then s 123 9 else v; let v10 := bif m_cmp .ne what 1 then s 123 10 else v; (v8, (uset (uset s 123 9 v9) 123 10 v10))) (y := bif m_cmp .ne (F_in s v 50 999) 0 then (let v14 := bif m_cmp .ne what 0 then s 123 10 else s 123 9; let v15 := bif m_cmp .ne what 0 then s 123 9 else v; let v16 := bif m_cmp .ne what 1 then s 123 10 else v; (v14, (uset (uset s 123 9 v15) 123 10 v16))) else (((-2), s))) (fun x : Int32 × SG => x.2) (by (try dsimp only); exact (let v9 : Int32 := bif m_cmp .ne what 0 then s 123 9 else v; (let v10 : Int32 := bif m_cmp .ne what 1 then s 123 10 else v; (Fr.uset (s1 := (uset s 123 9 v9)) (a := 123) (j := 10) (x := v10) (by rfl) (Fr.uset (s1 := s) (a := 123) (j := 9) (x := v9) (by rfl) (Fr.rf _ _)))))) (by (try dsimp only); exact (Fr.bifp (b := m_cmp .ne (F_in s v 50 999) 0) (x := let v14 := bif m_cmp .ne what 0 then s 123 10 else s 123 9; let v15 := bif m_cmp .ne what 0 then s 123 9 else v; let v16 := bif m_cmp .ne what 1 then s 123 10 else v; (v14, (uset (uset s 123 9 v15) 123 10 v16))) (y := ((-2), s)) (fun x : Int32 × SG => x.2) (by (try dsimp only); exact (let v15 : Int32 := bif m_cmp .ne what 0 then s 123 9 else v; (let v16 : Int32 := bif m_cmp .ne what 1 then s 123 10 else v; (Fr.uset (s1 := (uset s 123 9 v15)) (a := 123) (j := 10) (x := v16) (by rfl) (Fr.uset (s1 := s) (a := 123) (j := 9) (x := v15) (by rfl) (Fr.rf _ _)))))) (by (try dsimp only); exact (Fr.rf _ _)))))) (by (try dsimp only); exact (Fr.bifp (b := m_cmp .eq (F_in s v 0 9) 0) (x := ((-2), s)) (y := bif m_cmp .ne what 1 then (let v22 := bif m_cmp .ne what 0 then s 123 10 else s 123 9; let v23 := bif m_cmp .ne what 0 then s 123 9 else v; let v24 := bif m_cmp .ne what 1 then s 123 10 else v; (v22, (uset (uset s 123 9 v23) 123 10 v24))) else (bif m_cmp .ne (F_in s v 50 999) 0 then (let v28 := bif m_cmp .ne what 0 then s 123 10 else s 123 9; let v29 := bif m_cmp .ne what 0 then s 123 9 else v; let v30 := bif m_cmp .ne what 1 then s 123 10 else v; (v28, (uset (uset s 123 9 v29) 123 10 v30))) else (((-2), s)))) (fun x : Int32 × SG => x.2) (by (try dsimp only); exact (Fr.rf _ _)) (by (try dsimp only); exact (Fr.bifp (b := m_cmp .ne what 1) (x := let v22 := bif m_cmp .ne what 0 then s 123 10 else s 123 9; let v23 := bif m_cmp .ne what 0 then s 123 9 else v; let v24 := bif m_cmp .ne what 1 then s 123 10 else v; (v22, (uset (uset s 123 9 v23) 123 10 v24))) (y := bif m_cmp .ne (F_in s v 50 999) 0 then (let v28 := bif m_cmp .ne what 0 then s 123 10 else s 123 9; let v29 := bif m_cmp .ne what 0 then s 123 9 else v; let v30 := bif m_cmp .ne what 1 then s 123 10 else v; (v28, (uset (uset s 123 9 v29) 123 10 v30))) else (((-2), s))) (fun x : Int32 × SG => x.2) (by (try dsimp only); exact (let v23 : Int32 := bif m_cmp .ne what 0 then s 123 9 else v; (let v24 : Int32 := bif m_cmp .ne what 1 then s 123 10 else v; (Fr.uset (s1 := (uset s 123 9 v23)) (a := 123) (j := 10) (x := v24) (by rfl) (Fr.uset (s1 := s) (a := 123) (j := 9) (x := v23) (by rfl) (Fr.rf _ _)))))) (by (try dsimp only); exact (Fr.bifp (b := m_cmp .ne (F_in s v 50 999) 0) (x := let v28 := bif m_cmp .ne what 0 then s 123 10 else s 123 9; let v29 := bif m_cmp .ne what 0 then s 123 9 else v; let v30 := bif m_cmp .ne what 1 then s 123 10 else v; (v28, (uset (uset s 123 9 v29) 123 10 v30))) (y := ((-2), s)) (fun x : Int32 × SG => x.2) (by (try dsimp only); exact (let v29 : Int32 := bif m_cmp .ne what 0 then s 123 9 else v; (let v30 : Int32 := bif m_cmp .ne what 1 then s 123 10 else v; (Fr.uset (s1 := (uset s 123 9 v29)) (a := 123) (j := 10) (x := v30) (by rfl) (Fr.uset (s1 := s) (a := 123) (j := 9) (x := v29) (by rfl) (Fr.rf _ _)))))) (by (try dsimp only); exact (Fr.rf _ _)))))))))))
set_option maxRecDepth 20000 in
set_option maxHeartbeats 200000 in
theorem ux_river (s : SG) (what : Int32) (v : Int32)  : UP m_X7_river 0 (m_ent 4 [.ref 123, .int what, .int v]) [] s (Qb (F_river s what v)) := by
  refine UP.stp 1 (i1 := 1) (L1 := [some (.ref 123), some (.int what), some (.int v), none]) (st1 := [.int what]) (s1 := s) rfl ?_
  refine UP.cI (M1 := m_X7_isTwo) (as := [.int what]) (rest := []) (T := F_isTwo s what) rfl rfl (ux_isTwo s what) ?_
  refine UP.spl (m_cmp .eq (F_isTwo s what) 0) (((-2), s)) (bif m_cmp .ne what 0 then (bif m_cmp .ne what 1 then (let v8 := bif m_cmp .ne what 0 then s 123 10 else s 123 9; let v9 := bif m_cmp .ne what 0 then s 123 9 else v; let v10 := bif m_cmp .ne what 1 then s 123 10 else v; (v8, (uset (uset s 123 9 v9) 123 10 v10))) else (bif m_cmp .ne (F_in s v 50 999) 0 then (let v14 := bif m_cmp .ne what 0 then s 123 10 else s 123 9; let v15 := bif m_cmp .ne what 0 then s 123 9 else v; let v16 := bif m_cmp .ne what 1 then s 123 10 else v; (v14, (uset (uset s 123 9 v15) 123 10 v16))) else (((-2), s)))) else (bif m_cmp .eq (F_in s v 0 9) 0 then (((-2), s)) else (bif m_cmp .ne what 1 then (let v22 := bif m_cmp .ne what 0 then s 123 10 else s 123 9; let v23 := bif m_cmp .ne what 0 then s 123 9 else v; let v24 := bif m_cmp .ne what 1 then s 123 10 else v; (v22, (uset (uset s 123 9 v23) 123 10 v24))) else (bif m_cmp .ne (F_in s v 50 999) 0 then (let v28 := bif m_cmp .ne what 0 then s 123 10 else s 123 9; let v29 := bif m_cmp .ne what 0 then s 123 9 else v; let v30 := bif m_cmp .ne what 1 then s 123 10 else v; (v28, (uset (uset s 123 9 v29) 123 10 v30))) else (((-2), s)))))) (by first | (dsimp only [F_river]; done) | (dsimp only; done) | rfl) (fun cc => ?_) (fun cc => ?_)
  · skip
    refine UP.ifT rfl cc ?_
    refine UP.stp 1 (i1 := 19) (L1 := [some (.ref 123), some (.int what), some (.int v), none]) (st1 := [.int (-2)]) (s1 := s) rfl ?_
    exact UP.ret (r := some (.int (-2))) rfl ⟨by first | (dsimp only [F_river]; done) | (dsimp only; done) | rfl, by first | (dsimp only [F_river]; done) | (dsimp only; done) | rfl⟩
  · skip
    refine UP.ifF rfl cc ?_
    refine UP.stp 1 (i1 := 4) (L1 := [some (.ref 123), some (.int what), some (.int v), none]) (st1 := [.int what]) (s1 := s) rfl ?_
    refine UP.spl (m_cmp .ne what 0) (bif m_cmp .ne what 1 then (let v8 := bif m_cmp .ne what 0 then s 123 10 else s 123 9; let v9 := bif m_cmp .ne what 0 then s 123 9 else v; let v10 := bif m_cmp .ne what 1 then s 123 10 else v; (v8, (uset (uset s 123 9 v9) 123 10 v10))) else (bif m_cmp .ne (F_in s v 50 999) 0 then (let v14 := bif m_cmp .ne what 0 then s 123 10 else s 123 9; let v15 := bif m_cmp .ne what 0 then s 123 9 else v; let v16 := bif m_cmp .ne what 1 then s 123 10 else v; (v14, (uset (uset s 123 9 v15) 123 10 v16))) else (((-2), s)))) (bif m_cmp .eq (F_in s v 0 9) 0 then (((-2), s)) else (bif m_cmp .ne what 1 then (let v22 := bif m_cmp .ne what 0 then s 123 10 else s 123 9; let v23 := bif m_cmp .ne what 0 then s 123 9 else v; let v24 := bif m_cmp .ne what 1 then s 123 10 else v; (v22, (uset (uset s 123 9 v23) 123 10 v24))) else (bif m_cmp .ne (F_in s v 50 999) 0 then (let v28 := bif m_cmp .ne what 0 then s 123 10 else s 123 9; let v29 := bif m_cmp .ne what 0 then s 123 9 else v; let v30 := bif m_cmp .ne what 1 then s 123 10 else v; (v28, (uset (uset s 123 9 v29) 123 10 v30))) else (((-2), s))))) (by first | (dsimp only [F_river]; done) | (dsimp only; done) | rfl) (fun cc => ?_) (fun cc => ?_)
    · skip
      refine UP.ifT rfl cc ?_
      refine UP.stp 2 (i1 := 12) (L1 := [some (.ref 123), some (.int what), some (.int v), none]) (st1 := [.int 1, .int what]) (s1 := s) rfl ?_
      refine UP.spl (m_cmp .ne what 1) (let v8 := bif m_cmp .ne what 0 then s 123 10 else s 123 9; let v9 := bif m_cmp .ne what 0 then s 123 9 else v; let v10 := bif m_cmp .ne what 1 then s 123 10 else v; (v8, (uset (uset s 123 9 v9) 123 10 v10))) (bif m_cmp .ne (F_in s v 50 999) 0 then (let v14 := bif m_cmp .ne what 0 then s 123 10 else s 123 9; let v15 := bif m_cmp .ne what 0 then s 123 9 else v; let v16 := bif m_cmp .ne what 1 then s 123 10 else v; (v14, (uset (uset s 123 9 v15) 123 10 v16))) else (((-2), s))) (by first | (dsimp only [F_river]; done) | (dsimp only; done) | rfl) (fun cc => ?_) (fun cc => ?_)
      · skip
        refine UP.icT rfl cc ?_
        refine UP.stp 1 (i1 := 21) (L1 := [some (.ref 123), some (.int what), some (.int v), none]) (st1 := [.int what]) (s1 := s) rfl ?_
        refine mrg (m_cmp .ne what 0) (s 123 10) (s 123 9) (fun v8 : Int32 => UP m_X7_river 27 [some (.ref 123), some (.int what), some (.int v), none] [.int v8] s (Qb (let v8 := bif m_cmp .ne what 0 then s 123 10 else s 123 9; let v9 := bif m_cmp .ne what 0 then s 123 9 else v; let v10 := bif m_cmp .ne what 1 then s 123 10 else v; (v8, (uset (uset s 123 9 v9) 123 10 v10))))) (fun cc kk => ?_) (fun cc kk => ?_) (fun v8 e8 => ?_)
        · skip
          refine UP.ifT rfl cc ?_
          refine UP.stp 2 (i1 := 27) (L1 := [some (.ref 123), some (.int what), some (.int v), none]) (st1 := [.int (s 123 10)]) (s1 := s) rfl ?_
          exact kk
        · skip
          refine UP.ifF rfl cc ?_
          refine UP.stp 3 (i1 := 27) (L1 := [some (.ref 123), some (.int what), some (.int v), none]) (st1 := [.int (s 123 9)]) (s1 := s) rfl ?_
          exact kk
        refine UP.stp 3 (i1 := 30) (L1 := [some (.ref 123), some (.int what), some (.int v), some (.int v8)]) (st1 := [.int what, .ref 123]) (s1 := s) rfl ?_
        refine mrg (m_cmp .ne what 0) (s 123 9) v (fun v9 : Int32 => UP m_X7_river 35 [some (.ref 123), some (.int what), some (.int v), some (.int v8)] [.int v9, .ref 123] s (Qb (let v8 := bif m_cmp .ne what 0 then s 123 10 else s 123 9; let v9 := bif m_cmp .ne what 0 then s 123 9 else v; let v10 := bif m_cmp .ne what 1 then s 123 10 else v; (v8, (uset (uset s 123 9 v9) 123 10 v10))))) (fun cc kk => ?_) (fun cc kk => ?_) (fun v9 e9 => ?_)
        · skip
          refine UP.ifT rfl cc ?_
          refine UP.stp 2 (i1 := 35) (L1 := [some (.ref 123), some (.int what), some (.int v), some (.int v8)]) (st1 := [.int (s 123 9), .ref 123]) (s1 := s) rfl ?_
          exact kk
        · skip
          refine UP.ifF rfl cc ?_
          refine UP.stp 2 (i1 := 35) (L1 := [some (.ref 123), some (.int what), some (.int v), some (.int v8)]) (st1 := [.int v, .ref 123]) (s1 := s) rfl ?_
          exact kk
        refine UP.stp 4 (i1 := 39) (L1 := [some (.ref 123), some (.int what), some (.int v), some (.int v8)]) (st1 := [.int 1, .int what, .ref 123]) (s1 := (uset s 123 9 v9)) rfl ?_
        refine mrg (m_cmp .ne what 1) (s 123 10) v (fun v10 : Int32 => UP m_X7_river 44 [some (.ref 123), some (.int what), some (.int v), some (.int v8)] [.int v10, .ref 123] (uset s 123 9 v9) (Qb (let v8 := bif m_cmp .ne what 0 then s 123 10 else s 123 9; let v9 := bif m_cmp .ne what 0 then s 123 9 else v; let v10 := bif m_cmp .ne what 1 then s 123 10 else v; (v8, (uset (uset s 123 9 v9) 123 10 v10))))) (fun cc kk => ?_) (fun cc kk => ?_) (fun v10 e10 => ?_)
        · skip
          refine UP.icT rfl cc ?_
          refine UP.stp 2 (i1 := 44) (L1 := [some (.ref 123), some (.int what), some (.int v), some (.int v8)]) (st1 := [.int (s 123 10), .ref 123]) (s1 := (uset s 123 9 v9)) rfl ?_
          exact kk
        · skip
          refine UP.icF rfl cc ?_
          refine UP.stp 2 (i1 := 44) (L1 := [some (.ref 123), some (.int what), some (.int v), some (.int v8)]) (st1 := [.int v, .ref 123]) (s1 := (uset s 123 9 v9)) rfl ?_
          exact kk
        refine UP.stp 2 (i1 := 46) (L1 := [some (.ref 123), some (.int what), some (.int v), some (.int v8)]) (st1 := [.int v8]) (s1 := (uset (uset s 123 9 v9) 123 10 v10)) rfl ?_
        exact UP.ret (r := some (.int v8)) rfl ⟨by subst e10 e9 e8; first | (dsimp only [F_river]; done) | (dsimp only; done) | rfl, by subst e10 e9 e8; first | (dsimp only [F_river]; done) | (dsimp only; done) | rfl⟩
      · skip
        refine UP.icF rfl cc ?_
        refine UP.stp 3 (i1 := 16) (L1 := [some (.ref 123), some (.int what), some (.int v), none]) (st1 := [.int 999, .int 50, .int v]) (s1 := s) rfl ?_
        refine UP.cI (M1 := m_X7_in) (as := [.int v, .int 50, .int 999]) (rest := []) (T := F_in s v 50 999) rfl rfl (ux_in s v 50 999) ?_
        refine UP.spl (m_cmp .ne (F_in s v 50 999) 0) (let v14 := bif m_cmp .ne what 0 then s 123 10 else s 123 9; let v15 := bif m_cmp .ne what 0 then s 123 9 else v; let v16 := bif m_cmp .ne what 1 then s 123 10 else v; (v14, (uset (uset s 123 9 v15) 123 10 v16))) (((-2), s)) (by first | (dsimp only [F_river]; done) | (dsimp only; done) | rfl) (fun cc => ?_) (fun cc => ?_)
        · skip
          refine UP.ifT rfl cc ?_
          refine UP.stp 1 (i1 := 21) (L1 := [some (.ref 123), some (.int what), some (.int v), none]) (st1 := [.int what]) (s1 := s) rfl ?_
          refine mrg (m_cmp .ne what 0) (s 123 10) (s 123 9) (fun v14 : Int32 => UP m_X7_river 27 [some (.ref 123), some (.int what), some (.int v), none] [.int v14] s (Qb (let v14 := bif m_cmp .ne what 0 then s 123 10 else s 123 9; let v15 := bif m_cmp .ne what 0 then s 123 9 else v; let v16 := bif m_cmp .ne what 1 then s 123 10 else v; (v14, (uset (uset s 123 9 v15) 123 10 v16))))) (fun cc kk => ?_) (fun cc kk => ?_) (fun v14 e14 => ?_)
          · skip
            refine UP.ifT rfl cc ?_
            refine UP.stp 2 (i1 := 27) (L1 := [some (.ref 123), some (.int what), some (.int v), none]) (st1 := [.int (s 123 10)]) (s1 := s) rfl ?_
            exact kk
          · skip
            refine UP.ifF rfl cc ?_
            refine UP.stp 3 (i1 := 27) (L1 := [some (.ref 123), some (.int what), some (.int v), none]) (st1 := [.int (s 123 9)]) (s1 := s) rfl ?_
            exact kk
          refine UP.stp 3 (i1 := 30) (L1 := [some (.ref 123), some (.int what), some (.int v), some (.int v14)]) (st1 := [.int what, .ref 123]) (s1 := s) rfl ?_
          refine mrg (m_cmp .ne what 0) (s 123 9) v (fun v15 : Int32 => UP m_X7_river 35 [some (.ref 123), some (.int what), some (.int v), some (.int v14)] [.int v15, .ref 123] s (Qb (let v14 := bif m_cmp .ne what 0 then s 123 10 else s 123 9; let v15 := bif m_cmp .ne what 0 then s 123 9 else v; let v16 := bif m_cmp .ne what 1 then s 123 10 else v; (v14, (uset (uset s 123 9 v15) 123 10 v16))))) (fun cc kk => ?_) (fun cc kk => ?_) (fun v15 e15 => ?_)
          · skip
            refine UP.ifT rfl cc ?_
            refine UP.stp 2 (i1 := 35) (L1 := [some (.ref 123), some (.int what), some (.int v), some (.int v14)]) (st1 := [.int (s 123 9), .ref 123]) (s1 := s) rfl ?_
            exact kk
          · skip
            refine UP.ifF rfl cc ?_
            refine UP.stp 2 (i1 := 35) (L1 := [some (.ref 123), some (.int what), some (.int v), some (.int v14)]) (st1 := [.int v, .ref 123]) (s1 := s) rfl ?_
            exact kk
          refine UP.stp 4 (i1 := 39) (L1 := [some (.ref 123), some (.int what), some (.int v), some (.int v14)]) (st1 := [.int 1, .int what, .ref 123]) (s1 := (uset s 123 9 v15)) rfl ?_
          refine mrg (m_cmp .ne what 1) (s 123 10) v (fun v16 : Int32 => UP m_X7_river 44 [some (.ref 123), some (.int what), some (.int v), some (.int v14)] [.int v16, .ref 123] (uset s 123 9 v15) (Qb (let v14 := bif m_cmp .ne what 0 then s 123 10 else s 123 9; let v15 := bif m_cmp .ne what 0 then s 123 9 else v; let v16 := bif m_cmp .ne what 1 then s 123 10 else v; (v14, (uset (uset s 123 9 v15) 123 10 v16))))) (fun cc kk => ?_) (fun cc kk => ?_) (fun v16 e16 => ?_)
          · skip
            refine UP.icT rfl cc ?_
            refine UP.stp 2 (i1 := 44) (L1 := [some (.ref 123), some (.int what), some (.int v), some (.int v14)]) (st1 := [.int (s 123 10), .ref 123]) (s1 := (uset s 123 9 v15)) rfl ?_
            exact kk
          · skip
            refine UP.icF rfl cc ?_
            refine UP.stp 2 (i1 := 44) (L1 := [some (.ref 123), some (.int what), some (.int v), some (.int v14)]) (st1 := [.int v, .ref 123]) (s1 := (uset s 123 9 v15)) rfl ?_
            exact kk
          refine UP.stp 2 (i1 := 46) (L1 := [some (.ref 123), some (.int what), some (.int v), some (.int v14)]) (st1 := [.int v14]) (s1 := (uset (uset s 123 9 v15) 123 10 v16)) rfl ?_
          exact UP.ret (r := some (.int v14)) rfl ⟨by subst e16 e15 e14; first | (dsimp only [F_river]; done) | (dsimp only; done) | rfl, by subst e16 e15 e14; first | (dsimp only [F_river]; done) | (dsimp only; done) | rfl⟩
        · skip
          refine UP.ifF rfl cc ?_
          refine UP.stp 1 (i1 := 19) (L1 := [some (.ref 123), some (.int what), some (.int v), none]) (st1 := [.int (-2)]) (s1 := s) rfl ?_
          exact UP.ret (r := some (.int (-2))) rfl ⟨by first | (dsimp only [F_river]; done) | (dsimp only; done) | rfl, by first | (dsimp only [F_river]; done) | (dsimp only; done) | rfl⟩
    · skip
      refine UP.ifF rfl cc ?_
      refine UP.stp 3 (i1 := 8) (L1 := [some (.ref 123), some (.int what), some (.int v), none]) (st1 := [.int 9, .int 0, .int v]) (s1 := s) rfl ?_
      refine UP.cI (M1 := m_X7_in) (as := [.int v, .int 0, .int 9]) (rest := []) (T := F_in s v 0 9) rfl rfl (ux_in s v 0 9) ?_
      refine UP.spl (m_cmp .eq (F_in s v 0 9) 0) (((-2), s)) (bif m_cmp .ne what 1 then (let v22 := bif m_cmp .ne what 0 then s 123 10 else s 123 9; let v23 := bif m_cmp .ne what 0 then s 123 9 else v; let v24 := bif m_cmp .ne what 1 then s 123 10 else v; (v22, (uset (uset s 123 9 v23) 123 10 v24))) else (bif m_cmp .ne (F_in s v 50 999) 0 then (let v28 := bif m_cmp .ne what 0 then s 123 10 else s 123 9; let v29 := bif m_cmp .ne what 0 then s 123 9 else v; let v30 := bif m_cmp .ne what 1 then s 123 10 else v; (v28, (uset (uset s 123 9 v29) 123 10 v30))) else (((-2), s)))) (by first | (dsimp only [F_river]; done) | (dsimp only; done) | rfl) (fun cc => ?_) (fun cc => ?_)
      · skip
        refine UP.ifT rfl cc ?_
        refine UP.stp 1 (i1 := 19) (L1 := [some (.ref 123), some (.int what), some (.int v), none]) (st1 := [.int (-2)]) (s1 := s) rfl ?_
        exact UP.ret (r := some (.int (-2))) rfl ⟨by first | (dsimp only [F_river]; done) | (dsimp only; done) | rfl, by first | (dsimp only [F_river]; done) | (dsimp only; done) | rfl⟩
      · skip
        refine UP.ifF rfl cc ?_
        refine UP.stp 2 (i1 := 12) (L1 := [some (.ref 123), some (.int what), some (.int v), none]) (st1 := [.int 1, .int what]) (s1 := s) rfl ?_
        refine UP.spl (m_cmp .ne what 1) (let v22 := bif m_cmp .ne what 0 then s 123 10 else s 123 9; let v23 := bif m_cmp .ne what 0 then s 123 9 else v; let v24 := bif m_cmp .ne what 1 then s 123 10 else v; (v22, (uset (uset s 123 9 v23) 123 10 v24))) (bif m_cmp .ne (F_in s v 50 999) 0 then (let v28 := bif m_cmp .ne what 0 then s 123 10 else s 123 9; let v29 := bif m_cmp .ne what 0 then s 123 9 else v; let v30 := bif m_cmp .ne what 1 then s 123 10 else v; (v28, (uset (uset s 123 9 v29) 123 10 v30))) else (((-2), s))) (by first | (dsimp only [F_river]; done) | (dsimp only; done) | rfl) (fun cc => ?_) (fun cc => ?_)
        · skip
          refine UP.icT rfl cc ?_
          refine UP.stp 1 (i1 := 21) (L1 := [some (.ref 123), some (.int what), some (.int v), none]) (st1 := [.int what]) (s1 := s) rfl ?_
          refine mrg (m_cmp .ne what 0) (s 123 10) (s 123 9) (fun v22 : Int32 => UP m_X7_river 27 [some (.ref 123), some (.int what), some (.int v), none] [.int v22] s (Qb (let v22 := bif m_cmp .ne what 0 then s 123 10 else s 123 9; let v23 := bif m_cmp .ne what 0 then s 123 9 else v; let v24 := bif m_cmp .ne what 1 then s 123 10 else v; (v22, (uset (uset s 123 9 v23) 123 10 v24))))) (fun cc kk => ?_) (fun cc kk => ?_) (fun v22 e22 => ?_)
          · skip
            refine UP.ifT rfl cc ?_
            refine UP.stp 2 (i1 := 27) (L1 := [some (.ref 123), some (.int what), some (.int v), none]) (st1 := [.int (s 123 10)]) (s1 := s) rfl ?_
            exact kk
          · skip
            refine UP.ifF rfl cc ?_
            refine UP.stp 3 (i1 := 27) (L1 := [some (.ref 123), some (.int what), some (.int v), none]) (st1 := [.int (s 123 9)]) (s1 := s) rfl ?_
            exact kk
          refine UP.stp 3 (i1 := 30) (L1 := [some (.ref 123), some (.int what), some (.int v), some (.int v22)]) (st1 := [.int what, .ref 123]) (s1 := s) rfl ?_
          refine mrg (m_cmp .ne what 0) (s 123 9) v (fun v23 : Int32 => UP m_X7_river 35 [some (.ref 123), some (.int what), some (.int v), some (.int v22)] [.int v23, .ref 123] s (Qb (let v22 := bif m_cmp .ne what 0 then s 123 10 else s 123 9; let v23 := bif m_cmp .ne what 0 then s 123 9 else v; let v24 := bif m_cmp .ne what 1 then s 123 10 else v; (v22, (uset (uset s 123 9 v23) 123 10 v24))))) (fun cc kk => ?_) (fun cc kk => ?_) (fun v23 e23 => ?_)
          · skip
            refine UP.ifT rfl cc ?_
            refine UP.stp 2 (i1 := 35) (L1 := [some (.ref 123), some (.int what), some (.int v), some (.int v22)]) (st1 := [.int (s 123 9), .ref 123]) (s1 := s) rfl ?_
            exact kk
          · skip
            refine UP.ifF rfl cc ?_
            refine UP.stp 2 (i1 := 35) (L1 := [some (.ref 123), some (.int what), some (.int v), some (.int v22)]) (st1 := [.int v, .ref 123]) (s1 := s) rfl ?_
            exact kk
          refine UP.stp 4 (i1 := 39) (L1 := [some (.ref 123), some (.int what), some (.int v), some (.int v22)]) (st1 := [.int 1, .int what, .ref 123]) (s1 := (uset s 123 9 v23)) rfl ?_
          refine mrg (m_cmp .ne what 1) (s 123 10) v (fun v24 : Int32 => UP m_X7_river 44 [some (.ref 123), some (.int what), some (.int v), some (.int v22)] [.int v24, .ref 123] (uset s 123 9 v23) (Qb (let v22 := bif m_cmp .ne what 0 then s 123 10 else s 123 9; let v23 := bif m_cmp .ne what 0 then s 123 9 else v; let v24 := bif m_cmp .ne what 1 then s 123 10 else v; (v22, (uset (uset s 123 9 v23) 123 10 v24))))) (fun cc kk => ?_) (fun cc kk => ?_) (fun v24 e24 => ?_)
          · skip
            refine UP.icT rfl cc ?_
            refine UP.stp 2 (i1 := 44) (L1 := [some (.ref 123), some (.int what), some (.int v), some (.int v22)]) (st1 := [.int (s 123 10), .ref 123]) (s1 := (uset s 123 9 v23)) rfl ?_
            exact kk
          · skip
            refine UP.icF rfl cc ?_
            refine UP.stp 2 (i1 := 44) (L1 := [some (.ref 123), some (.int what), some (.int v), some (.int v22)]) (st1 := [.int v, .ref 123]) (s1 := (uset s 123 9 v23)) rfl ?_
            exact kk
          refine UP.stp 2 (i1 := 46) (L1 := [some (.ref 123), some (.int what), some (.int v), some (.int v22)]) (st1 := [.int v22]) (s1 := (uset (uset s 123 9 v23) 123 10 v24)) rfl ?_
          exact UP.ret (r := some (.int v22)) rfl ⟨by subst e24 e23 e22; first | (dsimp only [F_river]; done) | (dsimp only; done) | rfl, by subst e24 e23 e22; first | (dsimp only [F_river]; done) | (dsimp only; done) | rfl⟩
        · skip
          refine UP.icF rfl cc ?_
          refine UP.stp 3 (i1 := 16) (L1 := [some (.ref 123), some (.int what), some (.int v), none]) (st1 := [.int 999, .int 50, .int v]) (s1 := s) rfl ?_
          refine UP.cI (M1 := m_X7_in) (as := [.int v, .int 50, .int 999]) (rest := []) (T := F_in s v 50 999) rfl rfl (ux_in s v 50 999) ?_
          refine UP.spl (m_cmp .ne (F_in s v 50 999) 0) (let v28 := bif m_cmp .ne what 0 then s 123 10 else s 123 9; let v29 := bif m_cmp .ne what 0 then s 123 9 else v; let v30 := bif m_cmp .ne what 1 then s 123 10 else v; (v28, (uset (uset s 123 9 v29) 123 10 v30))) (((-2), s)) (by first | (dsimp only [F_river]; done) | (dsimp only; done) | rfl) (fun cc => ?_) (fun cc => ?_)
          · skip
            refine UP.ifT rfl cc ?_
            refine UP.stp 1 (i1 := 21) (L1 := [some (.ref 123), some (.int what), some (.int v), none]) (st1 := [.int what]) (s1 := s) rfl ?_
            refine mrg (m_cmp .ne what 0) (s 123 10) (s 123 9) (fun v28 : Int32 => UP m_X7_river 27 [some (.ref 123), some (.int what), some (.int v), none] [.int v28] s (Qb (let v28 := bif m_cmp .ne what 0 then s 123 10 else s 123 9; let v29 := bif m_cmp .ne what 0 then s 123 9 else v; let v30 := bif m_cmp .ne what 1 then s 123 10 else v; (v28, (uset (uset s 123 9 v29) 123 10 v30))))) (fun cc kk => ?_) (fun cc kk => ?_) (fun v28 e28 => ?_)
            · skip
              refine UP.ifT rfl cc ?_
              refine UP.stp 2 (i1 := 27) (L1 := [some (.ref 123), some (.int what), some (.int v), none]) (st1 := [.int (s 123 10)]) (s1 := s) rfl ?_
              exact kk
            · skip
              refine UP.ifF rfl cc ?_
              refine UP.stp 3 (i1 := 27) (L1 := [some (.ref 123), some (.int what), some (.int v), none]) (st1 := [.int (s 123 9)]) (s1 := s) rfl ?_
              exact kk
            refine UP.stp 3 (i1 := 30) (L1 := [some (.ref 123), some (.int what), some (.int v), some (.int v28)]) (st1 := [.int what, .ref 123]) (s1 := s) rfl ?_
            refine mrg (m_cmp .ne what 0) (s 123 9) v (fun v29 : Int32 => UP m_X7_river 35 [some (.ref 123), some (.int what), some (.int v), some (.int v28)] [.int v29, .ref 123] s (Qb (let v28 := bif m_cmp .ne what 0 then s 123 10 else s 123 9; let v29 := bif m_cmp .ne what 0 then s 123 9 else v; let v30 := bif m_cmp .ne what 1 then s 123 10 else v; (v28, (uset (uset s 123 9 v29) 123 10 v30))))) (fun cc kk => ?_) (fun cc kk => ?_) (fun v29 e29 => ?_)
            · skip
              refine UP.ifT rfl cc ?_
              refine UP.stp 2 (i1 := 35) (L1 := [some (.ref 123), some (.int what), some (.int v), some (.int v28)]) (st1 := [.int (s 123 9), .ref 123]) (s1 := s) rfl ?_
              exact kk
            · skip
              refine UP.ifF rfl cc ?_
              refine UP.stp 2 (i1 := 35) (L1 := [some (.ref 123), some (.int what), some (.int v), some (.int v28)]) (st1 := [.int v, .ref 123]) (s1 := s) rfl ?_
              exact kk
            refine UP.stp 4 (i1 := 39) (L1 := [some (.ref 123), some (.int what), some (.int v), some (.int v28)]) (st1 := [.int 1, .int what, .ref 123]) (s1 := (uset s 123 9 v29)) rfl ?_
            refine mrg (m_cmp .ne what 1) (s 123 10) v (fun v30 : Int32 => UP m_X7_river 44 [some (.ref 123), some (.int what), some (.int v), some (.int v28)] [.int v30, .ref 123] (uset s 123 9 v29) (Qb (let v28 := bif m_cmp .ne what 0 then s 123 10 else s 123 9; let v29 := bif m_cmp .ne what 0 then s 123 9 else v; let v30 := bif m_cmp .ne what 1 then s 123 10 else v; (v28, (uset (uset s 123 9 v29) 123 10 v30))))) (fun cc kk => ?_) (fun cc kk => ?_) (fun v30 e30 => ?_)
            · skip
              refine UP.icT rfl cc ?_
              refine UP.stp 2 (i1 := 44) (L1 := [some (.ref 123), some (.int what), some (.int v), some (.int v28)]) (st1 := [.int (s 123 10), .ref 123]) (s1 := (uset s 123 9 v29)) rfl ?_
              exact kk
            · skip
              refine UP.icF rfl cc ?_
              refine UP.stp 2 (i1 := 44) (L1 := [some (.ref 123), some (.int what), some (.int v), some (.int v28)]) (st1 := [.int v, .ref 123]) (s1 := (uset s 123 9 v29)) rfl ?_
              exact kk
            refine UP.stp 2 (i1 := 46) (L1 := [some (.ref 123), some (.int what), some (.int v), some (.int v28)]) (st1 := [.int v28]) (s1 := (uset (uset s 123 9 v29) 123 10 v30)) rfl ?_
            exact UP.ret (r := some (.int v28)) rfl ⟨by subst e30 e29 e28; first | (dsimp only [F_river]; done) | (dsimp only; done) | rfl, by subst e30 e29 e28; first | (dsimp only [F_river]; done) | (dsimp only; done) | rfl⟩
          · skip
            refine UP.ifF rfl cc ?_
            refine UP.stp 1 (i1 := 19) (L1 := [some (.ref 123), some (.int what), some (.int v), none]) (st1 := [.int (-2)]) (s1 := s) rfl ?_
            exact UP.ret (r := some (.int (-2))) rfl ⟨by first | (dsimp only [F_river]; done) | (dsimp only; done) | rfl, by first | (dsimp only [F_river]; done) | (dsimp only; done) | rfl⟩
