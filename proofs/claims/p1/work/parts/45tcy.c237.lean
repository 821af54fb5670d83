def W_ccount : List (Nat × Nat × Option Nat) := []
def F_ccount (s : SG) (what : Int32) : Int32 := bif m_cmp .eq what 0 then (s 10 0) else (bif m_cmp .eq what 1 then (let v5 := bif m_cmp .ne (F_cfault_1 s) (-1) then (0 : Int32) else s 111 1; v5) else (bif m_cmp .eq what 2 then (let v9 := bif m_cmp .ne (F_cfault_2 s) (-1) then (0 : Int32) else s 113 1; v9) else (bif m_cmp .eq what 3 then (((s 109 1) + (s 111 1)) + (s 113 1)) else (bif m_cmp .eq what 4 then (s 2 3) else (bif m_cmp .eq what 5 then (s 10 5) else (bif m_cmp .eq what 6 then (s 10 6) else (bif m_cmp .eq what 7 then (s 6 2) else (bif m_cmp .eq what 8 then (s 0 4) else ((-2))))))))))
set_option maxRecDepth 20000 in
set_option maxHeartbeats 200000 in
theorem ux_ccount (s : SG) (what : Int32)  : UP m_X6_count 0 (m_ent 2 [.ref 0, .int what]) [] s (Qi s (F_ccount s what)) := by
  refine UP.stp 1 (i1 := 1) (L1 := [some (.ref 0), some (.int what)]) (st1 := [.int what]) (s1 := s) rfl ?_
  refine UP.spl (m_cmp .eq what 0) (s 10 0) (bif m_cmp .eq what 1 then (let v5 := bif m_cmp .ne (F_cfault_1 s) (-1) then (0 : Int32) else s 111 1; v5) else (bif m_cmp .eq what 2 then (let v9 := bif m_cmp .ne (F_cfault_2 s) (-1) then (0 : Int32) else s 113 1; v9) else (bif m_cmp .eq what 3 then (((s 109 1) + (s 111 1)) + (s 113 1)) else (bif m_cmp .eq what 4 then (s 2 3) else (bif m_cmp .eq what 5 then (s 10 5) else (bif m_cmp .eq what 6 then (s 10 6) else (bif m_cmp .eq what 7 then (s 6 2) else (bif m_cmp .eq what 8 then (s 0 4) else ((-2)))))))))) (by first | (dsimp only [F_ccount]; done) | (dsimp only; done) | rfl) (fun cs0 => ?_) (fun cs0 => ?_)
  · skip
    refine UP.swT 0 rfl cs0 (by decide) (by decide) ?_
    refine UP.stp 3 (i1 := 5) (L1 := [some (.ref 0), some (.int what)]) (st1 := [.int (s 10 0)]) (s1 := s) rfl ?_
    exact UP.ret (r := some (.int (s 10 0))) rfl ⟨by first | (dsimp only [F_ccount]; done) | (dsimp only; done) | rfl, by first | (dsimp only [F_ccount]; done) | (dsimp only; done) | rfl⟩
  · skip
    refine UP.spl (m_cmp .eq what 1) (let v5 := bif m_cmp .ne (F_cfault_1 s) (-1) then (0 : Int32) else s 111 1; v5) (bif m_cmp .eq what 2 then (let v9 := bif m_cmp .ne (F_cfault_2 s) (-1) then (0 : Int32) else s 113 1; v9) else (bif m_cmp .eq what 3 then (((s 109 1) + (s 111 1)) + (s 113 1)) else (bif m_cmp .eq what 4 then (s 2 3) else (bif m_cmp .eq what 5 then (s 10 5) else (bif m_cmp .eq what 6 then (s 10 6) else (bif m_cmp .eq what 7 then (s 6 2) else (bif m_cmp .eq what 8 then (s 0 4) else ((-2))))))))) (by first | (dsimp only [F_ccount]; done) | (dsimp only; done) | rfl) (fun cs1 => ?_) (fun cs1 => ?_)
    · skip
      refine UP.swT 1 rfl cs1 (by decide) (by decide) ?_
      refine UP.stp 2 (i1 := 8) (L1 := [some (.ref 0), some (.int what)]) (st1 := [.int 1, .ref 0]) (s1 := s) rfl ?_
      refine UP.cI (M1 := m_X6_fault) (as := [.ref 0, .int 1]) (rest := []) (T := F_cfault_1 s ) rfl rfl (ux_cfault_1 s) ?_
      refine UP.stp 1 (i1 := 10) (L1 := [some (.ref 0), some (.int what)]) (st1 := [.int (-1), .int (F_cfault_1 s)]) (s1 := s) rfl ?_
      refine mrg (m_cmp .ne (F_cfault_1 s) (-1)) (0 : Int32) (s 111 1) (fun v5 : Int32 => UP m_X6_count 18 [some (.ref 0), some (.int what)] [.int v5] s (Qi s (let v5 := bif m_cmp .ne (F_cfault_1 s) (-1) then (0 : Int32) else s 111 1; v5))) (fun cc kk => ?_) (fun cc kk => ?_) (fun v5 e5 => ?_)
      · skip
        refine UP.icT rfl cc ?_
        refine UP.stp 1 (i1 := 18) (L1 := [some (.ref 0), some (.int what)]) (st1 := [.int 0]) (s1 := s) rfl ?_
        exact kk
      · skip
        refine UP.icF rfl cc ?_
        refine UP.stp 3 (i1 := 14) (L1 := [some (.ref 0), some (.int what)]) (st1 := [.int 1, .ref 1]) (s1 := s) rfl ?_
        refine UP.aald (e := 1) (r := 111) rfl rfl (by omega) rfl ?_
        refine UP.stp 2 (i1 := 18) (L1 := [some (.ref 0), some (.int what)]) (st1 := [.int (s 111 1)]) (s1 := s) rfl ?_
        exact kk
      exact UP.ret (r := some (.int v5)) rfl ⟨by subst e5; first | (dsimp only [F_ccount]; done) | (dsimp only; done) | rfl, by subst e5; first | (dsimp only [F_ccount]; done) | (dsimp only; done) | rfl⟩
    · skip
      refine UP.spl (m_cmp .eq what 2) (let v9 := bif m_cmp .ne (F_cfault_2 s) (-1) then (0 : Int32) else s 113 1; v9) (bif m_cmp .eq what 3 then (((s 109 1) + (s 111 1)) + (s 113 1)) else (bif m_cmp .eq what 4 then (s 2 3) else (bif m_cmp .eq what 5 then (s 10 5) else (bif m_cmp .eq what 6 then (s 10 6) else (bif m_cmp .eq what 7 then (s 6 2) else (bif m_cmp .eq what 8 then (s 0 4) else ((-2)))))))) (by first | (dsimp only [F_ccount]; done) | (dsimp only; done) | rfl) (fun cs2 => ?_) (fun cs2 => ?_)
      · skip
        refine UP.swT 2 rfl cs2 (by decide) (by decide) ?_
        refine UP.stp 2 (i1 := 21) (L1 := [some (.ref 0), some (.int what)]) (st1 := [.int 2, .ref 0]) (s1 := s) rfl ?_
        refine UP.cI (M1 := m_X6_fault) (as := [.ref 0, .int 2]) (rest := []) (T := F_cfault_2 s ) rfl rfl (ux_cfault_2 s) ?_
        refine UP.stp 1 (i1 := 23) (L1 := [some (.ref 0), some (.int what)]) (st1 := [.int (-1), .int (F_cfault_2 s)]) (s1 := s) rfl ?_
        refine mrg (m_cmp .ne (F_cfault_2 s) (-1)) (0 : Int32) (s 113 1) (fun v9 : Int32 => UP m_X6_count 31 [some (.ref 0), some (.int what)] [.int v9] s (Qi s (let v9 := bif m_cmp .ne (F_cfault_2 s) (-1) then (0 : Int32) else s 113 1; v9))) (fun cc kk => ?_) (fun cc kk => ?_) (fun v9 e9 => ?_)
        · skip
          refine UP.icT rfl cc ?_
          refine UP.stp 1 (i1 := 31) (L1 := [some (.ref 0), some (.int what)]) (st1 := [.int 0]) (s1 := s) rfl ?_
          exact kk
        · skip
          refine UP.icF rfl cc ?_
          refine UP.stp 3 (i1 := 27) (L1 := [some (.ref 0), some (.int what)]) (st1 := [.int 2, .ref 1]) (s1 := s) rfl ?_
          refine UP.aald (e := 2) (r := 113) rfl rfl (by omega) rfl ?_
          refine UP.stp 2 (i1 := 31) (L1 := [some (.ref 0), some (.int what)]) (st1 := [.int (s 113 1)]) (s1 := s) rfl ?_
          exact kk
        exact UP.ret (r := some (.int v9)) rfl ⟨by subst e9; first | (dsimp only [F_ccount]; done) | (dsimp only; done) | rfl, by subst e9; first | (dsimp only [F_ccount]; done) | (dsimp only; done) | rfl⟩
      · skip
        refine UP.spl (m_cmp .eq what 3) (((s 109 1) + (s 111 1)) + (s 113 1)) (bif m_cmp .eq what 4 then (s 2 3) else (bif m_cmp .eq what 5 then (s 10 5) else (bif m_cmp .eq what 6 then (s 10 6) else (bif m_cmp .eq what 7 then (s 6 2) else (bif m_cmp .eq what 8 then (s 0 4) else ((-2))))))) (by first | (dsimp only [F_ccount]; done) | (dsimp only; done) | rfl) (fun cs3 => ?_) (fun cs3 => ?_)
        · skip
          refine UP.swT 3 rfl cs3 (by decide) (by decide) ?_
          refine UP.stp 3 (i1 := 35) (L1 := [some (.ref 0), some (.int what)]) (st1 := [.int 0, .ref 1]) (s1 := s) rfl ?_
          refine UP.aald (e := 0) (r := 109) rfl rfl (by omega) rfl ?_
          refine UP.stp 4 (i1 := 40) (L1 := [some (.ref 0), some (.int what)]) (st1 := [.int 1, .ref 1, .int (s 109 1)]) (s1 := s) rfl ?_
          refine UP.aald (e := 1) (r := 111) rfl rfl (by omega) rfl ?_
          refine UP.stp 5 (i1 := 46) (L1 := [some (.ref 0), some (.int what)]) (st1 := [.int 2, .ref 1, .int ((s 109 1) + (s 111 1))]) (s1 := s) rfl ?_
          refine UP.aald (e := 2) (r := 113) rfl rfl (by omega) rfl ?_
          refine UP.stp 2 (i1 := 49) (L1 := [some (.ref 0), some (.int what)]) (st1 := [.int (((s 109 1) + (s 111 1)) + (s 113 1))]) (s1 := s) rfl ?_
          exact UP.ret (r := some (.int (((s 109 1) + (s 111 1)) + (s 113 1)))) rfl ⟨by first | (dsimp only [F_ccount]; done) | (dsimp only; done) | rfl, by first | (dsimp only [F_ccount]; done) | (dsimp only; done) | rfl⟩
        · skip
          refine UP.spl (m_cmp .eq what 4) (s 2 3) (bif m_cmp .eq what 5 then (s 10 5) else (bif m_cmp .eq what 6 then (s 10 6) else (bif m_cmp .eq what 7 then (s 6 2) else (bif m_cmp .eq what 8 then (s 0 4) else ((-2)))))) (by first | (dsimp only [F_ccount]; done) | (dsimp only; done) | rfl) (fun cs4 => ?_) (fun cs4 => ?_)
          · skip
            refine UP.swT 4 rfl cs4 (by decide) (by decide) ?_
            refine UP.stp 3 (i1 := 53) (L1 := [some (.ref 0), some (.int what)]) (st1 := [.int (s 2 3)]) (s1 := s) rfl ?_
            exact UP.ret (r := some (.int (s 2 3))) rfl ⟨by first | (dsimp only [F_ccount]; done) | (dsimp only; done) | rfl, by first | (dsimp only [F_ccount]; done) | (dsimp only; done) | rfl⟩
          · skip
            refine UP.spl (m_cmp .eq what 5) (s 10 5) (bif m_cmp .eq what 6 then (s 10 6) else (bif m_cmp .eq what 7 then (s 6 2) else (bif m_cmp .eq what 8 then (s 0 4) else ((-2))))) (by first | (dsimp only [F_ccount]; done) | (dsimp only; done) | rfl) (fun cs5 => ?_) (fun cs5 => ?_)
            · skip
              refine UP.swT 5 rfl cs5 (by decide) (by decide) ?_
              refine UP.stp 3 (i1 := 57) (L1 := [some (.ref 0), some (.int what)]) (st1 := [.int (s 10 5)]) (s1 := s) rfl ?_
              exact UP.ret (r := some (.int (s 10 5))) rfl ⟨by first | (dsimp only [F_ccount]; done) | (dsimp only; done) | rfl, by first | (dsimp only [F_ccount]; done) | (dsimp only; done) | rfl⟩
            · skip
              refine UP.spl (m_cmp .eq what 6) (s 10 6) (bif m_cmp .eq what 7 then (s 6 2) else (bif m_cmp .eq what 8 then (s 0 4) else ((-2)))) (by first | (dsimp only [F_ccount]; done) | (dsimp only; done) | rfl) (fun cs6 => ?_) (fun cs6 => ?_)
              · skip
                refine UP.swT 6 rfl cs6 (by decide) (by decide) ?_
                refine UP.stp 3 (i1 := 61) (L1 := [some (.ref 0), some (.int what)]) (st1 := [.int (s 10 6)]) (s1 := s) rfl ?_
                exact UP.ret (r := some (.int (s 10 6))) rfl ⟨by first | (dsimp only [F_ccount]; done) | (dsimp only; done) | rfl, by first | (dsimp only [F_ccount]; done) | (dsimp only; done) | rfl⟩
              · skip
                refine UP.spl (m_cmp .eq what 7) (s 6 2) (bif m_cmp .eq what 8 then (s 0 4) else ((-2))) (by first | (dsimp only [F_ccount]; done) | (dsimp only; done) | rfl) (fun cs7 => ?_) (fun cs7 => ?_)
                · skip
                  refine UP.swT 7 rfl cs7 (by decide) (by decide) ?_
                  refine UP.stp 3 (i1 := 65) (L1 := [some (.ref 0), some (.int what)]) (st1 := [.int (s 6 2)]) (s1 := s) rfl ?_
                  exact UP.ret (r := some (.int (s 6 2))) rfl ⟨by first | (dsimp only [F_ccount]; done) | (dsimp only; done) | rfl, by first | (dsimp only [F_ccount]; done) | (dsimp only; done) | rfl⟩
                · skip
                  refine UP.spl (m_cmp .eq what 8) (s 0 4) ((-2)) (by first | (dsimp only [F_ccount]; done) | (dsimp only; done) | rfl) (fun cs8 => ?_) (fun cs8 => ?_)
                  · skip
                    refine UP.swT 8 rfl cs8 (by decide) (by decide) ?_
                    refine UP.stp 2 (i1 := 68) (L1 := [some (.ref 0), some (.int what)]) (st1 := [.int (s 0 4)]) (s1 := s) rfl ?_
                    exact UP.ret (r := some (.int (s 0 4))) rfl ⟨by first | (dsimp only [F_ccount]; done) | (dsimp only; done) | rfl, by first | (dsimp only [F_ccount]; done) | (dsimp only; done) | rfl⟩
                  · skip
                    refine UP.swD rfl (by have c0_ : what.toInt ≠ 0 := ne_int cs0; have c1_ : what.toInt ≠ 1 := ne_int cs1; have c2_ : what.toInt ≠ 2 := ne_int cs2; have c3_ : what.toInt ≠ 3 := ne_int cs3; have c4_ : what.toInt ≠ 4 := ne_int cs4; have c5_ : what.toInt ≠ 5 := ne_int cs5; have c6_ : what.toInt ≠ 6 := ne_int cs6; have c7_ : what.toInt ≠ 7 := ne_int cs7; have c8_ : what.toInt ≠ 8 := ne_int cs8; omega) ?_
                    refine UP.stp 1 (i1 := 70) (L1 := [some (.ref 0), some (.int what)]) (st1 := [.int (-2)]) (s1 := s) rfl ?_
                    exact UP.ret (r := some (.int (-2))) rfl ⟨by first | (dsimp only [F_ccount]; done) | (dsimp only; done) | rfl, by first | (dsimp only [F_ccount]; done) | (dsimp only; done) | rfl⟩
