def W_count : List (Nat × Nat × Option Nat) := [(126, 129, none), (133, 144, none), (147, 147, none), (123, 123, some 2), (123, 123, some 5), (123, 123, some 7), (123, 123, some 17), (123, 123, some 19), (123, 123, some 20), (123, 123, some 21), (123, 123, some 22), (123, 123, some 23), (123, 123, some 24), (123, 123, some 25), (123, 123, some 26), (123, 123, some 27)]
def F_count (s : SG) (what : Int32) : Int32 × SG := bif m_cmp .eq what 0 then (let z2 := F_tellOf s what; z2) else (bif m_cmp .eq what 1 then (let z5 := F_tellOf s what; z5) else (bif m_cmp .eq what 2 then (let z8 := F_tellOf s what; z8) else (bif m_cmp .eq what 3 then ((((s 124 0) + (s 124 1)) + (s 124 2), s)) else (bif m_cmp .eq what 4 then ((s 123 11, s)) else (bif m_cmp .eq what 5 then ((s 123 9, s)) else (bif m_cmp .eq what 6 then ((s 123 10, s)) else (bif m_cmp .eq what 7 then ((s 123 37, s)) else (bif m_cmp .eq what 8 then ((s 123 46, s)) else (((-2), s))))))))))
set_option maxRecDepth 20000 in
set_option maxHeartbeats 200000 in
theorem fr_count (s : SG) (what : Int32)  : Fr W_count s (F_count s what).2 := by dsimp only [F_count]; exact (Fr.bifp (b := m_cmp .eq what 0) (x := let z2 := F_tellOf s what; z2) (y := bif m_cmp .eq what 1 then (let z5 := F_tellOf s what; z5) else (bif m_cmp .eq what 2 then (let z8 := F_tellOf s what; z8) else (bif m_cmp .eq what 3 then ((((s 124 0) + (s 124 1)) + (s 124 2), s)) else (bif m_cmp .eq what 4 then ((s 123 11, s)) else (bif m_cmp .eq what 5 then ((s 123 9, s)) else (bif m_cmp .eq what 6 then ((s 123 10, s)) else (bif m_cmp .eq what 7 then ((s 123 37, s)) else (bif m_cmp .eq what 8 then ((s 123 46, s)) else (((-2), s)))))))))) (fun x : Int32 × SG => x.2) (by (try dsimp only); exact (Fr.tr (s1 := s) (Fr.rf _ _) (Fr.wk (W2 := W_count) (fr_tellOf s what) (by rfl)))) (by (try dsimp only); exact (Fr.bifp (b := m_cmp .eq what 1) (x := let z5 := F_tellOf s what; z5) (y := bif m_cmp .eq what 2 then (let z8 := F_tellOf s what; z8) else (bif m_cmp .eq what 3 then ((((s 124 0) + (s 124 1)) + (s 124 2), s)) else (bif m_cmp .eq what 4 then ((s 123 11, s)) else (bif m_cmp .eq what 5 then ((s 123 9, s)) else (bif m_cmp .eq what 6 then ((s 123 10, s)) else (bif m_cmp .eq what 7 then ((s 123 37, s)) else (bif m_cmp .eq what 8 then ((s 123 46, s)) else (((-2), s))))))))) (fun x : Int32 × SG => x.2) (by (try dsimp only); exact (Fr.tr (s1 := s) (Fr.rf _ _) (Fr.wk (W2 := W_count) (fr_tellOf s what) (by rfl)))) (by (try dsimp only); exact (Fr.bifp (b := m_cmp .eq what 2) (x := let z8 := F_tellOf s what; z8) (y := bif m_cmp .eq what 3 then ((((s 124 0) + (s 124 1)) + (s 124 2), s)) else (bif m_cmp .eq what 4 then ((s 123 11, s)) else (bif m_cmp .eq what 5 then ((s 123 9, s)) else (bif m_cmp .eq what 6 then ((s 123 10, s)) else (bif m_cmp .eq what 7 then ((s 123 37, s)) else (bif m_cmp .eq what 8 then ((s 123 46, s)) else (((-2), s)))))))) (fun x : Int32 × SG => x.2) (by (try dsimp only); exact (Fr.tr (s1 := s) (Fr.rf _ _) (Fr.wk (W2 := W_count) (fr_tellOf s what) (by rfl)))) (by (try dsimp only); exact (Fr.bifp (b := m_cmp .eq what 3) (x := (((s 124 0) + (s 124 1)) + (s 124 2), s)) (y := bif m_cmp .eq what 4 then ((s 123 11, s)) else (bif m_cmp .eq what 5 then ((s 123 9, s)) else (bif m_cmp .eq what 6 then ((s 123 10, s)) else (bif m_cmp .eq what 7 then ((s 123 37, s)) else (bif m_cmp .eq what 8 then ((s 123 46, s)) else (((-2), s))))))) (fun x : Int32 × SG => x.2) (by (try dsimp only); exact (Fr.rf _ _)) (by (try dsimp only); exact (Fr.bifp (b := m_cmp .eq what 4) (x := (s 123 11, s)) (y := bif m_cmp .eq what 5 then ((s 123 9, s)) else (bif m_cmp .eq what 6 then ((s 123 10, s)) else (bif m_cmp .eq what 7 then ((s 123 37, s)) else (bif m_cmp .eq what 8 then ((s 123 46, s)) else (((-2), s)))))) (fun x : Int32 × SG => x.2) (by (try dsimp only); exact (Fr.rf _ _)) (by (try dsimp only); exact (Fr.bifp (b := m_cmp .eq what 5) (x := (s 123 9, s)) (y := bif m_cmp .eq what 6 then ((s 123 10, s)) else (bif m_cmp .eq what 7 then ((s 123 37, s)) else (bif m_cmp .eq what 8 then ((s 123 46, s)) else (((-2), s))))) (fun x : Int32 × SG => x.2) (by (try dsimp only); exact (Fr.rf _ _)) (by (try dsimp only); exact (Fr.bifp (b := m_cmp .eq what 6) (x := (s 123 10, s)) (y := bif m_cmp .eq what 7 then ((s 123 37, s)) else (bif m_cmp .eq what 8 then ((s 123 46, s)) else (((-2), s)))) (fun x : Int32 × SG => x.2) (by (try dsimp only); exact (Fr.rf _ _)) (by (try dsimp only); exact (Fr.bifp (b := m_cmp .eq what 7) (x := (s 123 37, s)) (y := bif m_cmp .eq what 8 then ((s 123 46, s)) else (((-2), s))) (fun x : Int32 × SG => x.2) (by (try dsimp only); exact (Fr.rf _ _)) (by (try dsimp only); exact (Fr.bifp (b := m_cmp .eq what 8) (x := (s 123 46, s)) (y := ((-2), s)) (fun x : Int32 × SG => x.2) (by (try dsimp only); exact (Fr.rf _ _)) (by (try dsimp only); exact (Fr.rf _ _)))))))))))))))))))
set_option maxRecDepth 20000 in
set_option maxHeartbeats 200000 in
theorem ux_count (s : SG) (what : Int32)  : UP m_X7_count 0 (m_ent 2 [.ref 123, .int what]) [] s (Qb (F_count s what)) := by
  refine UP.stp 1 (i1 := 1) (L1 := [some (.ref 123), some (.int what)]) (st1 := [.int what]) (s1 := s) rfl ?_
  refine UP.spl (m_cmp .eq what 0) (let z2 := F_tellOf s what; z2) (bif m_cmp .eq what 1 then (let z5 := F_tellOf s what; z5) else (bif m_cmp .eq what 2 then (let z8 := F_tellOf s what; z8) else (bif m_cmp .eq what 3 then ((((s 124 0) + (s 124 1)) + (s 124 2), s)) else (bif m_cmp .eq what 4 then ((s 123 11, s)) else (bif m_cmp .eq what 5 then ((s 123 9, s)) else (bif m_cmp .eq what 6 then ((s 123 10, s)) else (bif m_cmp .eq what 7 then ((s 123 37, s)) else (bif m_cmp .eq what 8 then ((s 123 46, s)) else (((-2), s)))))))))) (by first | (dsimp only [F_count]; done) | (dsimp only; done) | rfl) (fun cs0 => ?_) (fun cs0 => ?_)
  · skip
    refine UP.swT 0 rfl cs0 (by decide) (by decide) ?_
    refine UP.stp 2 (i1 := 4) (L1 := [some (.ref 123), some (.int what)]) (st1 := [.int what, .ref 123]) (s1 := s) rfl ?_
    refine UP.cB (M1 := m_X7_tellOf) (as := [.ref 123, .int what]) (rest := []) (T := F_tellOf s what) rfl rfl (ux_tellOf s what) (fun z2 e2 => ?_)
    exact UP.ret (r := some (.int z2.1)) rfl ⟨by subst e2; first | (dsimp only [F_count]; done) | (dsimp only; done) | rfl, by subst e2; first | (dsimp only [F_count]; done) | (dsimp only; done) | rfl⟩
  · skip
    refine UP.spl (m_cmp .eq what 1) (let z5 := F_tellOf s what; z5) (bif m_cmp .eq what 2 then (let z8 := F_tellOf s what; z8) else (bif m_cmp .eq what 3 then ((((s 124 0) + (s 124 1)) + (s 124 2), s)) else (bif m_cmp .eq what 4 then ((s 123 11, s)) else (bif m_cmp .eq what 5 then ((s 123 9, s)) else (bif m_cmp .eq what 6 then ((s 123 10, s)) else (bif m_cmp .eq what 7 then ((s 123 37, s)) else (bif m_cmp .eq what 8 then ((s 123 46, s)) else (((-2), s))))))))) (by first | (dsimp only [F_count]; done) | (dsimp only; done) | rfl) (fun cs1 => ?_) (fun cs1 => ?_)
    · skip
      refine UP.swT 1 rfl cs1 (by decide) (by decide) ?_
      refine UP.stp 2 (i1 := 4) (L1 := [some (.ref 123), some (.int what)]) (st1 := [.int what, .ref 123]) (s1 := s) rfl ?_
      refine UP.cB (M1 := m_X7_tellOf) (as := [.ref 123, .int what]) (rest := []) (T := F_tellOf s what) rfl rfl (ux_tellOf s what) (fun z5 e5 => ?_)
      exact UP.ret (r := some (.int z5.1)) rfl ⟨by subst e5; first | (dsimp only [F_count]; done) | (dsimp only; done) | rfl, by subst e5; first | (dsimp only [F_count]; done) | (dsimp only; done) | rfl⟩
    · skip
      refine UP.spl (m_cmp .eq what 2) (let z8 := F_tellOf s what; z8) (bif m_cmp .eq what 3 then ((((s 124 0) + (s 124 1)) + (s 124 2), s)) else (bif m_cmp .eq what 4 then ((s 123 11, s)) else (bif m_cmp .eq what 5 then ((s 123 9, s)) else (bif m_cmp .eq what 6 then ((s 123 10, s)) else (bif m_cmp .eq what 7 then ((s 123 37, s)) else (bif m_cmp .eq what 8 then ((s 123 46, s)) else (((-2), s)))))))) (by first | (dsimp only [F_count]; done) | (dsimp only; done) | rfl) (fun cs2 => ?_) (fun cs2 => ?_)
      · skip
        refine UP.swT 2 rfl cs2 (by decide) (by decide) ?_
        refine UP.stp 2 (i1 := 4) (L1 := [some (.ref 123), some (.int what)]) (st1 := [.int what, .ref 123]) (s1 := s) rfl ?_
        refine UP.cB (M1 := m_X7_tellOf) (as := [.ref 123, .int what]) (rest := []) (T := F_tellOf s what) rfl rfl (ux_tellOf s what) (fun z8 e8 => ?_)
        exact UP.ret (r := some (.int z8.1)) rfl ⟨by subst e8; first | (dsimp only [F_count]; done) | (dsimp only; done) | rfl, by subst e8; first | (dsimp only [F_count]; done) | (dsimp only; done) | rfl⟩
      · skip
        refine UP.spl (m_cmp .eq what 3) ((((s 124 0) + (s 124 1)) + (s 124 2), s)) (bif m_cmp .eq what 4 then ((s 123 11, s)) else (bif m_cmp .eq what 5 then ((s 123 9, s)) else (bif m_cmp .eq what 6 then ((s 123 10, s)) else (bif m_cmp .eq what 7 then ((s 123 37, s)) else (bif m_cmp .eq what 8 then ((s 123 46, s)) else (((-2), s))))))) (by first | (dsimp only [F_count]; done) | (dsimp only; done) | rfl) (fun cs3 => ?_) (fun cs3 => ?_)
        · skip
          refine UP.swT 3 rfl cs3 (by decide) (by decide) ?_
          refine UP.stp 14 (i1 := 20) (L1 := [some (.ref 123), some (.int what)]) (st1 := [.int (((s 124 0) + (s 124 1)) + (s 124 2))]) (s1 := s) rfl ?_
          exact UP.ret (r := some (.int (((s 124 0) + (s 124 1)) + (s 124 2)))) rfl ⟨by first | (dsimp only [F_count]; done) | (dsimp only; done) | rfl, by first | (dsimp only [F_count]; done) | (dsimp only; done) | rfl⟩
        · skip
          refine UP.spl (m_cmp .eq what 4) ((s 123 11, s)) (bif m_cmp .eq what 5 then ((s 123 9, s)) else (bif m_cmp .eq what 6 then ((s 123 10, s)) else (bif m_cmp .eq what 7 then ((s 123 37, s)) else (bif m_cmp .eq what 8 then ((s 123 46, s)) else (((-2), s)))))) (by first | (dsimp only [F_count]; done) | (dsimp only; done) | rfl) (fun cs4 => ?_) (fun cs4 => ?_)
          · skip
            refine UP.swT 4 rfl cs4 (by decide) (by decide) ?_
            refine UP.stp 2 (i1 := 23) (L1 := [some (.ref 123), some (.int what)]) (st1 := [.int (s 123 11)]) (s1 := s) rfl ?_
            exact UP.ret (r := some (.int (s 123 11))) rfl ⟨by first | (dsimp only [F_count]; done) | (dsimp only; done) | rfl, by first | (dsimp only [F_count]; done) | (dsimp only; done) | rfl⟩
          · skip
            refine UP.spl (m_cmp .eq what 5) ((s 123 9, s)) (bif m_cmp .eq what 6 then ((s 123 10, s)) else (bif m_cmp .eq what 7 then ((s 123 37, s)) else (bif m_cmp .eq what 8 then ((s 123 46, s)) else (((-2), s))))) (by first | (dsimp only [F_count]; done) | (dsimp only; done) | rfl) (fun cs5 => ?_) (fun cs5 => ?_)
            · skip
              refine UP.swT 5 rfl cs5 (by decide) (by decide) ?_
              refine UP.stp 2 (i1 := 26) (L1 := [some (.ref 123), some (.int what)]) (st1 := [.int (s 123 9)]) (s1 := s) rfl ?_
              exact UP.ret (r := some (.int (s 123 9))) rfl ⟨by first | (dsimp only [F_count]; done) | (dsimp only; done) | rfl, by first | (dsimp only [F_count]; done) | (dsimp only; done) | rfl⟩
            · skip
              refine UP.spl (m_cmp .eq what 6) ((s 123 10, s)) (bif m_cmp .eq what 7 then ((s 123 37, s)) else (bif m_cmp .eq what 8 then ((s 123 46, s)) else (((-2), s)))) (by first | (dsimp only [F_count]; done) | (dsimp only; done) | rfl) (fun cs6 => ?_) (fun cs6 => ?_)
              · skip
                refine UP.swT 6 rfl cs6 (by decide) (by decide) ?_
                refine UP.stp 2 (i1 := 29) (L1 := [some (.ref 123), some (.int what)]) (st1 := [.int (s 123 10)]) (s1 := s) rfl ?_
                exact UP.ret (r := some (.int (s 123 10))) rfl ⟨by first | (dsimp only [F_count]; done) | (dsimp only; done) | rfl, by first | (dsimp only [F_count]; done) | (dsimp only; done) | rfl⟩
              · skip
                refine UP.spl (m_cmp .eq what 7) ((s 123 37, s)) (bif m_cmp .eq what 8 then ((s 123 46, s)) else (((-2), s))) (by first | (dsimp only [F_count]; done) | (dsimp only; done) | rfl) (fun cs7 => ?_) (fun cs7 => ?_)
                · skip
                  refine UP.swT 7 rfl cs7 (by decide) (by decide) ?_
                  refine UP.stp 2 (i1 := 32) (L1 := [some (.ref 123), some (.int what)]) (st1 := [.int (s 123 37)]) (s1 := s) rfl ?_
                  exact UP.ret (r := some (.int (s 123 37))) rfl ⟨by first | (dsimp only [F_count]; done) | (dsimp only; done) | rfl, by first | (dsimp only [F_count]; done) | (dsimp only; done) | rfl⟩
                · skip
                  refine UP.spl (m_cmp .eq what 8) ((s 123 46, s)) (((-2), s)) (by first | (dsimp only [F_count]; done) | (dsimp only; done) | rfl) (fun cs8 => ?_) (fun cs8 => ?_)
                  · skip
                    refine UP.swT 8 rfl cs8 (by decide) (by decide) ?_
                    refine UP.stp 2 (i1 := 35) (L1 := [some (.ref 123), some (.int what)]) (st1 := [.int (s 123 46)]) (s1 := s) rfl ?_
                    exact UP.ret (r := some (.int (s 123 46))) rfl ⟨by first | (dsimp only [F_count]; done) | (dsimp only; done) | rfl, by first | (dsimp only [F_count]; done) | (dsimp only; done) | rfl⟩
                  · skip
                    refine UP.swD rfl (by have c0_ : what.toInt ≠ 0 := ne_int cs0; have c1_ : what.toInt ≠ 1 := ne_int cs1; have c2_ : what.toInt ≠ 2 := ne_int cs2; have c3_ : what.toInt ≠ 3 := ne_int cs3; have c4_ : what.toInt ≠ 4 := ne_int cs4; have c5_ : what.toInt ≠ 5 := ne_int cs5; have c6_ : what.toInt ≠ 6 := ne_int cs6; have c7_ : what.toInt ≠ 7 := ne_int cs7; have c8_ : what.toInt ≠ 8 := ne_int cs8; omega) ?_
                    refine UP.stp 1 (i1 := 37) (L1 := [some (.ref 123), some (.int what)]) (st1 := [.int (-2)]) (s1 := s) rfl ?_
                    exact UP.ret (r := some (.int (-2))) rfl ⟨by first | (dsimp only [F_count]; done) | (dsimp only; done) | rfl, by first | (dsimp only [F_count]; done) | (dsimp only; done) | rfl⟩
