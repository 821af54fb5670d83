def W_cput_1 : List (Nat × Nat × Option Nat) := [(117, 117, none), (118, 118, none), (0, 0, some 4)]
def F_cput_1 (s : SG) (form : Int32) (i : Int32) (v : Int32) : Int32 × SG := bif m_cmp .eq (F_isBelow s 1 4) 0 then (((-2), s)) else (bif m_cmp .ne (F_isBelow s form 3) 0 then (let v8 := F_findingOf_1 s form i; bif m_cmp .eq v8 0 then (let z11 := F_ckeep_1 s i v; (1, z11)) else (let z12 := F_find s v8; z12)) else (((-2), s)))
set_option maxRecDepth 20000 in
set_option maxHeartbeats 200000 in
theorem fr_cput_1 (s : SG) (form : Int32) (i : Int32) (v : Int32)  : Fr W_cput_1 s (F_cput_1 s form i v).2 := by dsimp only [F_cput_1]; exact (Fr.bifp (b := m_cmp .eq (F_isBelow s 1 4) 0) (x := ((-2), s)) (y := bif m_cmp .ne (F_isBelow s form 3) 0 then (let v8 := F_findingOf_1 s form i; bif m_cmp .eq v8 0 then (let z11 := F_ckeep_1 s i v; (1, z11)) else (let z12 := F_find s v8; z12)) else (((-2), s))) (fun x : Int32 × SG => x.2) (by (try dsimp only); exact (Fr.rf _ _)) (by (try dsimp only); exact (Fr.bifp (b := m_cmp .ne (F_isBelow s form 3) 0) (x := let v8 := F_findingOf_1 s form i; bif m_cmp .eq v8 0 then (let z11 := F_ckeep_1 s i v; (1, z11)) else (let z12 := F_find s v8; z12)) (y := ((-2), s)) (fun x : Int32 × SG => x.2) (by (try dsimp only); exact (let v8 : Int32 := F_findingOf_1 s form i; (Fr.bifp (b := m_cmp .eq v8 0) (x := let z11 := F_ckeep_1 s i v; (1, z11)) (y := let z12 := F_find s v8; z12) (fun x : Int32 × SG => x.2) (by (try dsimp only); exact (Fr.tr (s1 := s) (Fr.rf _ _) (Fr.wk (W2 := W_cput_1) (fr_ckeep_1 s i v) (by rfl)))) (by (try dsimp only); exact (Fr.tr (s1 := s) (Fr.rf _ _) (Fr.wk (W2 := W_cput_1) (fr_find s v8) (by rfl))))))) (by (try dsimp only); exact (Fr.rf _ _)))))
set_option maxRecDepth 20000 in
set_option maxHeartbeats 200000 in
theorem ux_cput_1 (s : SG) (form : Int32) (i : Int32) (v : Int32)  : UP m_X6_put 0 (m_ent 6 [.ref 0, .int 1, .int form, .int i, .int v]) [] s (Qb (F_cput_1 s form i v)) := by
  refine UP.stp 2 (i1 := 2) (L1 := [some (.ref 0), some (.int 1), some (.int form), some (.int i), some (.int v), none]) (st1 := [.int 4, .int 1]) (s1 := s) rfl ?_
  refine UP.cI (M1 := m_X6_isBelow) (as := [.int 1, .int 4]) (rest := []) (T := F_isBelow s 1 4) rfl rfl (ux_isBelow s 1 4) ?_
  refine UP.spl (m_cmp .eq (F_isBelow s 1 4) 0) (((-2), s)) (bif m_cmp .ne (F_isBelow s form 3) 0 then (let v8 := F_findingOf_1 s form i; bif m_cmp .eq v8 0 then (let z11 := F_ckeep_1 s i v; (1, z11)) else (let z12 := F_find s v8; z12)) else (((-2), s))) (by first | (dsimp only [F_cput_1]; done) | (dsimp only; done) | rfl) (fun cc => ?_) (fun cc => ?_)
  · skip
    refine UP.ifT rfl cc ?_
    refine UP.stp 1 (i1 := 9) (L1 := [some (.ref 0), some (.int 1), some (.int form), some (.int i), some (.int v), none]) (st1 := [.int (-2)]) (s1 := s) rfl ?_
    exact UP.ret (r := some (.int (-2))) rfl ⟨by first | (dsimp only [F_cput_1]; done) | (dsimp only; done) | rfl, by first | (dsimp only [F_cput_1]; done) | (dsimp only; done) | rfl⟩
  · skip
    refine UP.ifF rfl cc ?_
    refine UP.stp 2 (i1 := 6) (L1 := [some (.ref 0), some (.int 1), some (.int form), some (.int i), some (.int v), none]) (st1 := [.int 3, .int form]) (s1 := s) rfl ?_
    refine UP.cI (M1 := m_X6_isBelow) (as := [.int form, .int 3]) (rest := []) (T := F_isBelow s form 3) rfl rfl (ux_isBelow s form 3) ?_
    refine UP.spl (m_cmp .ne (F_isBelow s form 3) 0) (let v8 := F_findingOf_1 s form i; bif m_cmp .eq v8 0 then (let z11 := F_ckeep_1 s i v; (1, z11)) else (let z12 := F_find s v8; z12)) (((-2), s)) (by first | (dsimp only [F_cput_1]; done) | (dsimp only; done) | rfl) (fun cc => ?_) (fun cc => ?_)
    · skip
      refine UP.ifT rfl cc ?_
      refine UP.stp 3 (i1 := 13) (L1 := [some (.ref 0), some (.int 1), some (.int form), some (.int i), some (.int v), none]) (st1 := [.int 1, .ref 9]) (s1 := s) rfl ?_
      refine UP.aald (e := 1) (r := 117) rfl rfl (by omega) rfl ?_
      refine UP.stp 2 (i1 := 16) (L1 := [some (.ref 0), some (.int 1), some (.int form), some (.int i), some (.int v), none]) (st1 := [.int i, .int form, .ref 117]) (s1 := s) rfl ?_
      refine UP.cI (M1 := m_X3_findingOf) (as := [.ref 117, .int form, .int i]) (rest := []) (T := F_findingOf_1 s form i) rfl rfl (ux_findingOf_1 s form i) ?_
      refine nm (G := fun v8 => UP m_X6_put 17 [some (.ref 0), some (.int 1), some (.int form), some (.int i), some (.int v), none] [.int v8] s (Qb (let v8 := F_findingOf_1 s form i; bif m_cmp .eq v8 0 then (let z11 := F_ckeep_1 s i v; (1, z11)) else (let z12 := F_find s v8; z12)))) (F_findingOf_1 s form i) (fun v8 e8 => ?_)
      refine UP.stp 2 (i1 := 19) (L1 := [some (.ref 0), some (.int 1), some (.int form), some (.int i), some (.int v), some (.int v8)]) (st1 := [.int v8]) (s1 := s) rfl ?_
      refine UP.spl (m_cmp .eq v8 0) (let z11 := F_ckeep_1 s i v; (1, z11)) (let z12 := F_find s v8; z12) (by subst e8; first | (dsimp only [F_cput_1]; done) | (dsimp only; done) | rfl) (fun cc => ?_) (fun cc => ?_)
      · skip
        refine UP.ifT rfl cc ?_
        refine UP.stp 3 (i1 := 27) (L1 := [some (.ref 0), some (.int 1), some (.int form), some (.int i), some (.int v), some (.int v8)]) (st1 := [.int 1, .ref 9]) (s1 := s) rfl ?_
        refine UP.aald (e := 1) (r := 117) rfl rfl (by omega) rfl ?_
        refine UP.stp 2 (i1 := 30) (L1 := [some (.ref 0), some (.int 1), some (.int form), some (.int i), some (.int v), some (.int v8)]) (st1 := [.int v, .int i, .ref 117]) (s1 := s) rfl ?_
        refine UP.cV (M1 := m_X3_keep) (as := [.ref 117, .int i, .int v]) (rest := []) (T := F_ckeep_1 s i v) rfl rfl (ux_ckeep_1 s i v) (fun z11 e11 => ?_)
        refine UP.stp 1 (i1 := 32) (L1 := [some (.ref 0), some (.int 1), some (.int form), some (.int i), some (.int v), some (.int v8)]) (st1 := [.int 1]) (s1 := z11) rfl ?_
        exact UP.ret (r := some (.int 1)) rfl ⟨by subst e11 e8; first | (dsimp only [F_cput_1]; done) | (dsimp only; done) | rfl, by subst e11 e8; first | (dsimp only [F_cput_1]; done) | (dsimp only; done) | rfl⟩
      · skip
        refine UP.ifF rfl cc ?_
        refine UP.stp 2 (i1 := 22) (L1 := [some (.ref 0), some (.int 1), some (.int form), some (.int i), some (.int v), some (.int v8)]) (st1 := [.int v8, .ref 0]) (s1 := s) rfl ?_
        refine UP.cB (M1 := m_X6_find) (as := [.ref 0, .int v8]) (rest := []) (T := F_find s v8) rfl rfl (ux_find s v8) (fun z12 e12 => ?_)
        exact UP.ret (r := some (.int z12.1)) rfl ⟨by subst e12 e8; first | (dsimp only [F_cput_1]; done) | (dsimp only; done) | rfl, by subst e12 e8; first | (dsimp only [F_cput_1]; done) | (dsimp only; done) | rfl⟩
    · skip
      refine UP.ifF rfl cc ?_
      refine UP.stp 1 (i1 := 9) (L1 := [some (.ref 0), some (.int 1), some (.int form), some (.int i), some (.int v), none]) (st1 := [.int (-2)]) (s1 := s) rfl ?_
      exact UP.ret (r := some (.int (-2))) rfl ⟨by first | (dsimp only [F_cput_1]; done) | (dsimp only; done) | rfl, by first | (dsimp only [F_cput_1]; done) | (dsimp only; done) | rfl⟩
