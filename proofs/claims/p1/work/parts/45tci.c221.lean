def W_cat : List (Nat × Nat × Option Nat) := [(16, 20, none), (22, 45, none), (46, 52, none), (15, 15, some 8), (59, 63, none), (65, 88, none), (89, 95, none), (58, 58, some 8), (53, 57, none), (96, 108, none), (0, 0, some 12), (0, 0, some 13)]
def F_cat (s : SG) (minute : Int32) (what : Int32) : Int32 × SG := bif m_cmp .ne (F_isBelow s minute 24) 0 then (let z4 := F_toldTrip s ; bif m_cmp .eq what 0 then ((z4 16 minute.toNatClampNeg, z4)) else (bif m_cmp .eq what 1 then ((z4 17 minute.toNatClampNeg, z4)) else (bif m_cmp .eq what 2 then ((z4 18 minute.toNatClampNeg, z4)) else (bif m_cmp .eq what 3 then ((z4 19 minute.toNatClampNeg, z4)) else (bif m_cmp .eq what 4 then ((z4 20 minute.toNatClampNeg, z4)) else (((-2), z4))))))) else (((-2), s))
set_option maxRecDepth 20000 in
set_option maxHeartbeats 200000 in
theorem fr_cat (s : SG) (minute : Int32) (what : Int32)  : Fr W_cat s (F_cat s minute what).2 := by dsimp only [F_cat]; exact (Fr.bifp (b := m_cmp .ne (F_isBelow s minute 24) 0) (x := let z4 := F_toldTrip s ; bif m_cmp .eq what 0 then ((z4 16 minute.toNatClampNeg, z4)) else (bif m_cmp .eq what 1 then ((z4 17 minute.toNatClampNeg, z4)) else (bif m_cmp .eq what 2 then ((z4 18 minute.toNatClampNeg, z4)) else (bif m_cmp .eq what 3 then ((z4 19 minute.toNatClampNeg, z4)) else (bif m_cmp .eq what 4 then ((z4 20 minute.toNatClampNeg, z4)) else (((-2), z4))))))) (y := ((-2), s)) (fun x : Int32 × SG => x.2) (by (try dsimp only); exact (let z4 : SG := F_toldTrip s ; (Fr.bifp (b := m_cmp .eq what 0) (x := (z4 16 minute.toNatClampNeg, z4)) (y := bif m_cmp .eq what 1 then ((z4 17 minute.toNatClampNeg, z4)) else (bif m_cmp .eq what 2 then ((z4 18 minute.toNatClampNeg, z4)) else (bif m_cmp .eq what 3 then ((z4 19 minute.toNatClampNeg, z4)) else (bif m_cmp .eq what 4 then ((z4 20 minute.toNatClampNeg, z4)) else (((-2), z4)))))) (fun x : Int32 × SG => x.2) (by (try dsimp only); exact (Fr.tr (s1 := s) (Fr.rf _ _) (Fr.wk (W2 := W_cat) (fr_toldTrip s ) (by rfl)))) (by (try dsimp only); exact (Fr.bifp (b := m_cmp .eq what 1) (x := (z4 17 minute.toNatClampNeg, z4)) (y := bif m_cmp .eq what 2 then ((z4 18 minute.toNatClampNeg, z4)) else (bif m_cmp .eq what 3 then ((z4 19 minute.toNatClampNeg, z4)) else (bif m_cmp .eq what 4 then ((z4 20 minute.toNatClampNeg, z4)) else (((-2), z4))))) (fun x : Int32 × SG => x.2) (by (try dsimp only); exact (Fr.tr (s1 := s) (Fr.rf _ _) (Fr.wk (W2 := W_cat) (fr_toldTrip s ) (by rfl)))) (by (try dsimp only); exact (Fr.bifp (b := m_cmp .eq what 2) (x := (z4 18 minute.toNatClampNeg, z4)) (y := bif m_cmp .eq what 3 then ((z4 19 minute.toNatClampNeg, z4)) else (bif m_cmp .eq what 4 then ((z4 20 minute.toNatClampNeg, z4)) else (((-2), z4)))) (fun x : Int32 × SG => x.2) (by (try dsimp only); exact (Fr.tr (s1 := s) (Fr.rf _ _) (Fr.wk (W2 := W_cat) (fr_toldTrip s ) (by rfl)))) (by (try dsimp only); exact (Fr.bifp (b := m_cmp .eq what 3) (x := (z4 19 minute.toNatClampNeg, z4)) (y := bif m_cmp .eq what 4 then ((z4 20 minute.toNatClampNeg, z4)) else (((-2), z4))) (fun x : Int32 × SG => x.2) (by (try dsimp only); exact (Fr.tr (s1 := s) (Fr.rf _ _) (Fr.wk (W2 := W_cat) (fr_toldTrip s ) (by rfl)))) (by (try dsimp only); exact (Fr.bifp (b := m_cmp .eq what 4) (x := (z4 20 minute.toNatClampNeg, z4)) (y := ((-2), z4)) (fun x : Int32 × SG => x.2) (by (try dsimp only); exact (Fr.tr (s1 := s) (Fr.rf _ _) (Fr.wk (W2 := W_cat) (fr_toldTrip s ) (by rfl)))) (by (try dsimp only); exact (Fr.tr (s1 := s) (Fr.rf _ _) (Fr.wk (W2 := W_cat) (fr_toldTrip s ) (by rfl))))))))))))))) (by (try dsimp only); exact (Fr.rf _ _)))
set_option maxRecDepth 20000 in
set_option maxHeartbeats 200000 in
theorem ux_cat (s : SG) (minute : Int32) (what : Int32)  : UP m_X6_at 0 (m_ent 4 [.ref 0, .int minute, .int what]) [] s (Qb (F_cat s minute what)) := by
  refine UP.stp 2 (i1 := 2) (L1 := [some (.ref 0), some (.int minute), some (.int what), none]) (st1 := [.int 24, .int minute]) (s1 := s) rfl ?_
  refine UP.cI (M1 := m_X6_isBelow) (as := [.int minute, .int 24]) (rest := []) (T := F_isBelow s minute 24) rfl rfl (ux_isBelow s minute 24) ?_
  refine UP.spl (m_cmp .ne (F_isBelow s minute 24) 0) (let z4 := F_toldTrip s ; bif m_cmp .eq what 0 then ((z4 16 minute.toNatClampNeg, z4)) else (bif m_cmp .eq what 1 then ((z4 17 minute.toNatClampNeg, z4)) else (bif m_cmp .eq what 2 then ((z4 18 minute.toNatClampNeg, z4)) else (bif m_cmp .eq what 3 then ((z4 19 minute.toNatClampNeg, z4)) else (bif m_cmp .eq what 4 then ((z4 20 minute.toNatClampNeg, z4)) else (((-2), z4))))))) (((-2), s)) (by first | (dsimp only [F_cat]; done) | (dsimp only; done) | rfl) (fun cc => ?_) (fun cc => ?_)
  · skip
    refine UP.ifT rfl cc ?_
    refine UP.stp 1 (i1 := 7) (L1 := [some (.ref 0), some (.int minute), some (.int what), none]) (st1 := [.ref 0]) (s1 := s) rfl ?_
    refine UP.cR (M1 := m_X6_toldTrip) (as := [.ref 0]) (rest := []) (T := F_toldTrip s ) (a := 15) rfl rfl (ux_toldTrip s ) (fun z4 e4 => ?_)
    refine UP.stp 2 (i1 := 10) (L1 := [some (.ref 0), some (.int minute), some (.int what), some (.ref 15)]) (st1 := [.int what]) (s1 := z4) rfl ?_
    refine UP.spl (m_cmp .eq what 0) ((z4 16 minute.toNatClampNeg, z4)) (bif m_cmp .eq what 1 then ((z4 17 minute.toNatClampNeg, z4)) else (bif m_cmp .eq what 2 then ((z4 18 minute.toNatClampNeg, z4)) else (bif m_cmp .eq what 3 then ((z4 19 minute.toNatClampNeg, z4)) else (bif m_cmp .eq what 4 then ((z4 20 minute.toNatClampNeg, z4)) else (((-2), z4)))))) (by subst e4; first | (dsimp only [F_cat]; done) | (dsimp only; done) | rfl) (fun cs0 => ?_) (fun cs0 => ?_)
    · skip
      refine UP.swT 0 rfl cs0 (by decide) (by decide) ?_
      refine UP.stp 4 (i1 := 15) (L1 := [some (.ref 0), some (.int minute), some (.int what), some (.ref 15)]) (st1 := [.int (z4 16 minute.toNatClampNeg)]) (s1 := z4) rfl ?_
      exact UP.ret (r := some (.int (z4 16 minute.toNatClampNeg))) rfl ⟨by subst e4; first | (dsimp only [F_cat]; done) | (dsimp only; done) | rfl, by subst e4; first | (dsimp only [F_cat]; done) | (dsimp only; done) | rfl⟩
    · skip
      refine UP.spl (m_cmp .eq what 1) ((z4 17 minute.toNatClampNeg, z4)) (bif m_cmp .eq what 2 then ((z4 18 minute.toNatClampNeg, z4)) else (bif m_cmp .eq what 3 then ((z4 19 minute.toNatClampNeg, z4)) else (bif m_cmp .eq what 4 then ((z4 20 minute.toNatClampNeg, z4)) else (((-2), z4))))) (by subst e4; first | (dsimp only [F_cat]; done) | (dsimp only; done) | rfl) (fun cs1 => ?_) (fun cs1 => ?_)
      · skip
        refine UP.swT 1 rfl cs1 (by decide) (by decide) ?_
        refine UP.stp 4 (i1 := 20) (L1 := [some (.ref 0), some (.int minute), some (.int what), some (.ref 15)]) (st1 := [.int (z4 17 minute.toNatClampNeg)]) (s1 := z4) rfl ?_
        exact UP.ret (r := some (.int (z4 17 minute.toNatClampNeg))) rfl ⟨by subst e4; first | (dsimp only [F_cat]; done) | (dsimp only; done) | rfl, by subst e4; first | (dsimp only [F_cat]; done) | (dsimp only; done) | rfl⟩
      · skip
        refine UP.spl (m_cmp .eq what 2) ((z4 18 minute.toNatClampNeg, z4)) (bif m_cmp .eq what 3 then ((z4 19 minute.toNatClampNeg, z4)) else (bif m_cmp .eq what 4 then ((z4 20 minute.toNatClampNeg, z4)) else (((-2), z4)))) (by subst e4; first | (dsimp only [F_cat]; done) | (dsimp only; done) | rfl) (fun cs2 => ?_) (fun cs2 => ?_)
        · skip
          refine UP.swT 2 rfl cs2 (by decide) (by decide) ?_
          refine UP.stp 4 (i1 := 25) (L1 := [some (.ref 0), some (.int minute), some (.int what), some (.ref 15)]) (st1 := [.int (z4 18 minute.toNatClampNeg)]) (s1 := z4) rfl ?_
          exact UP.ret (r := some (.int (z4 18 minute.toNatClampNeg))) rfl ⟨by subst e4; first | (dsimp only [F_cat]; done) | (dsimp only; done) | rfl, by subst e4; first | (dsimp only [F_cat]; done) | (dsimp only; done) | rfl⟩
        · skip
          refine UP.spl (m_cmp .eq what 3) ((z4 19 minute.toNatClampNeg, z4)) (bif m_cmp .eq what 4 then ((z4 20 minute.toNatClampNeg, z4)) else (((-2), z4))) (by subst e4; first | (dsimp only [F_cat]; done) | (dsimp only; done) | rfl) (fun cs3 => ?_) (fun cs3 => ?_)
          · skip
            refine UP.swT 3 rfl cs3 (by decide) (by decide) ?_
            refine UP.stp 4 (i1 := 30) (L1 := [some (.ref 0), some (.int minute), some (.int what), some (.ref 15)]) (st1 := [.int (z4 19 minute.toNatClampNeg)]) (s1 := z4) rfl ?_
            exact UP.ret (r := some (.int (z4 19 minute.toNatClampNeg))) rfl ⟨by subst e4; first | (dsimp only [F_cat]; done) | (dsimp only; done) | rfl, by subst e4; first | (dsimp only [F_cat]; done) | (dsimp only; done) | rfl⟩
          · skip
            refine UP.spl (m_cmp .eq what 4) ((z4 20 minute.toNatClampNeg, z4)) (((-2), z4)) (by subst e4; first | (dsimp only [F_cat]; done) | (dsimp only; done) | rfl) (fun cs4 => ?_) (fun cs4 => ?_)
            · skip
              refine UP.swT 4 rfl cs4 (by decide) (by decide) ?_
              refine UP.stp 4 (i1 := 35) (L1 := [some (.ref 0), some (.int minute), some (.int what), some (.ref 15)]) (st1 := [.int (z4 20 minute.toNatClampNeg)]) (s1 := z4) rfl ?_
              exact UP.ret (r := some (.int (z4 20 minute.toNatClampNeg))) rfl ⟨by subst e4; first | (dsimp only [F_cat]; done) | (dsimp only; done) | rfl, by subst e4; first | (dsimp only [F_cat]; done) | (dsimp only; done) | rfl⟩
            · skip
              refine UP.swD rfl (by have c0_ : what.toInt ≠ 0 := ne_int cs0; have c1_ : what.toInt ≠ 1 := ne_int cs1; have c2_ : what.toInt ≠ 2 := ne_int cs2; have c3_ : what.toInt ≠ 3 := ne_int cs3; have c4_ : what.toInt ≠ 4 := ne_int cs4; omega) ?_
              refine UP.stp 1 (i1 := 37) (L1 := [some (.ref 0), some (.int minute), some (.int what), some (.ref 15)]) (st1 := [.int (-2)]) (s1 := z4) rfl ?_
              exact UP.ret (r := some (.int (-2))) rfl ⟨by subst e4; first | (dsimp only [F_cat]; done) | (dsimp only; done) | rfl, by subst e4; first | (dsimp only [F_cat]; done) | (dsimp only; done) | rfl⟩
  · skip
    refine UP.ifF rfl cc ?_
    refine UP.stp 1 (i1 := 5) (L1 := [some (.ref 0), some (.int minute), some (.int what), none]) (st1 := [.int (-2)]) (s1 := s) rfl ?_
    exact UP.ret (r := some (.int (-2))) rfl ⟨by first | (dsimp only [F_cat]; done) | (dsimp only; done) | rfl, by first | (dsimp only [F_cat]; done) | (dsimp only; done) | rfl⟩
