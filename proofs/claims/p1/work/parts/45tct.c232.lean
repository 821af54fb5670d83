def W_cwas : List (Nat × Nat × Option Nat) := [(16, 20, none), (22, 45, none), (46, 52, none), (15, 15, some 8), (59, 63, none), (65, 88, none), (89, 95, none), (58, 58, some 8), (53, 57, none), (96, 108, none), (0, 0, some 12), (0, 0, some 13)]
def F_cwas (s : SG) (seat : Int32) (what : Int32) : Int32 × SG := bif m_cmp .eq (F_cisRower s seat) 0 then (((-2), s)) else (bif m_cmp .ne (F_isBelow s what 2) 0 then (let w9 := bif m_cmp .ne what 0 then (F_possibleSorts s seat) else (F_possiblePowers s seat); w9) else (((-2), s)))
set_option maxRecDepth 20000 in
set_option maxHeartbeats 200000 in
theorem fr_cwas (s : SG) (seat : Int32) (what : Int32)  : Fr W_cwas s (F_cwas s seat what).2 := by dsimp only [F_cwas]; exact (Fr.bifp (b := m_cmp .eq (F_cisRower s seat) 0) (x := ((-2), s)) (y := bif m_cmp .ne (F_isBelow s what 2) 0 then (let w9 := bif m_cmp .ne what 0 then (F_possibleSorts s seat) else (F_possiblePowers s seat); w9) else (((-2), s))) (fun x : Int32 × SG => x.2) (by (try dsimp only); exact (Fr.rf _ _)) (by (try dsimp only); exact (Fr.bifp (b := m_cmp .ne (F_isBelow s what 2) 0) (x := let w9 := bif m_cmp .ne what 0 then (F_possibleSorts s seat) else (F_possiblePowers s seat); w9) (y := ((-2), s)) (fun x : Int32 × SG => x.2) (by (try dsimp only); exact (Fr.bifp (b := m_cmp .ne what 0) (x := (F_possibleSorts s seat)) (y := (F_possiblePowers s seat)) (fun x : Int32 × SG => x.2) (by (try dsimp only); exact (Fr.tr (s1 := s) (Fr.rf _ _) (Fr.wk (W2 := W_cwas) (fr_possibleSorts s seat) (by rfl)))) (by (try dsimp only); exact (Fr.tr (s1 := s) (Fr.rf _ _) (Fr.wk (W2 := W_cwas) (fr_possiblePowers s seat) (by rfl)))))) (by (try dsimp only); exact (Fr.rf _ _)))))
set_option maxRecDepth 20000 in
set_option maxHeartbeats 200000 in
theorem ux_cwas (s : SG) (seat : Int32) (what : Int32)  : UP m_X6_was 0 (m_ent 3 [.ref 0, .int seat, .int what]) [] s (Qb (F_cwas s seat what)) := by
  refine UP.stp 2 (i1 := 2) (L1 := [some (.ref 0), some (.int seat), some (.int what)]) (st1 := [.int seat, .ref 0]) (s1 := s) rfl ?_
  refine UP.cI (M1 := m_X6_isRower) (as := [.ref 0, .int seat]) (rest := []) (T := F_cisRower s seat) rfl rfl (ux_cisRower s seat) ?_
  refine UP.spl (m_cmp .eq (F_cisRower s seat) 0) (((-2), s)) (bif m_cmp .ne (F_isBelow s what 2) 0 then (let w9 := bif m_cmp .ne what 0 then (F_possibleSorts s seat) else (F_possiblePowers s seat); w9) else (((-2), s))) (by first | (dsimp only [F_cwas]; done) | (dsimp only; done) | rfl) (fun cc => ?_) (fun cc => ?_)
  · skip
    refine UP.ifT rfl cc ?_
    refine UP.stp 1 (i1 := 9) (L1 := [some (.ref 0), some (.int seat), some (.int what)]) (st1 := [.int (-2)]) (s1 := s) rfl ?_
    exact UP.ret (r := some (.int (-2))) rfl ⟨by first | (dsimp only [F_cwas]; done) | (dsimp only; done) | rfl, by first | (dsimp only [F_cwas]; done) | (dsimp only; done) | rfl⟩
  · skip
    refine UP.ifF rfl cc ?_
    refine UP.stp 2 (i1 := 6) (L1 := [some (.ref 0), some (.int seat), some (.int what)]) (st1 := [.int 2, .int what]) (s1 := s) rfl ?_
    refine UP.cI (M1 := m_X6_isBelow) (as := [.int what, .int 2]) (rest := []) (T := F_isBelow s what 2) rfl rfl (ux_isBelow s what 2) ?_
    refine UP.spl (m_cmp .ne (F_isBelow s what 2) 0) (let w9 := bif m_cmp .ne what 0 then (F_possibleSorts s seat) else (F_possiblePowers s seat); w9) (((-2), s)) (by first | (dsimp only [F_cwas]; done) | (dsimp only; done) | rfl) (fun cc => ?_) (fun cc => ?_)
    · skip
      refine UP.ifT rfl cc ?_
      refine UP.stp 1 (i1 := 11) (L1 := [some (.ref 0), some (.int seat), some (.int what)]) (st1 := [.int what]) (s1 := s) rfl ?_
      refine mrg (m_cmp .ne what 0) (F_possibleSorts s seat) (F_possiblePowers s seat) (fun w9 : Int32 × SG => UP m_X6_was 19 [some (.ref 0), some (.int seat), some (.int what)] [.int w9.1] w9.2 (Qb (let w9 := bif m_cmp .ne what 0 then (F_possibleSorts s seat) else (F_possiblePowers s seat); w9))) (fun cc kk => ?_) (fun cc kk => ?_) (fun w9 e9 => ?_)
      · skip
        refine UP.ifT rfl cc ?_
        refine UP.stp 2 (i1 := 18) (L1 := [some (.ref 0), some (.int seat), some (.int what)]) (st1 := [.int seat, .ref 0]) (s1 := s) rfl ?_
        refine UP.cB (M1 := m_X6_possibleSorts) (as := [.ref 0, .int seat]) (rest := []) (T := F_possibleSorts s seat) rfl rfl (ux_possibleSorts s seat) (fun z7 e7 => ?_)
        subst e7
        exact kk
      · skip
        refine UP.ifF rfl cc ?_
        refine UP.stp 2 (i1 := 14) (L1 := [some (.ref 0), some (.int seat), some (.int what)]) (st1 := [.int seat, .ref 0]) (s1 := s) rfl ?_
        refine UP.cB (M1 := m_X6_possiblePowers) (as := [.ref 0, .int seat]) (rest := []) (T := F_possiblePowers s seat) rfl rfl (ux_possiblePowers s seat) (fun z8 e8 => ?_)
        refine UP.stp 1 (i1 := 19) (L1 := [some (.ref 0), some (.int seat), some (.int what)]) (st1 := [.int z8.1]) (s1 := z8.2) rfl ?_
        subst e8
        exact kk
      exact UP.ret (r := some (.int w9.1)) rfl ⟨by subst e9; first | (dsimp only [F_cwas]; done) | (dsimp only; done) | rfl, by subst e9; first | (dsimp only [F_cwas]; done) | (dsimp only; done) | rfl⟩
    · skip
      refine UP.ifF rfl cc ?_
      refine UP.stp 1 (i1 := 9) (L1 := [some (.ref 0), some (.int seat), some (.int what)]) (st1 := [.int (-2)]) (s1 := s) rfl ?_
      exact UP.ret (r := some (.int (-2))) rfl ⟨by first | (dsimp only [F_cwas]; done) | (dsimp only; done) | rfl, by first | (dsimp only [F_cwas]; done) | (dsimp only; done) | rfl⟩
