def W_put : List (Nat × Nat × Option Nat) := [(151, 151, none), (123, 123, some 46)]
def F_put (s : SG) (s_ : Int32) (form : Int32) (i : Int32) (v : Int32) : Int32 × SG := bif m_cmp .eq (F_isSheet s s_) 0 then (((-2), s)) else (bif m_cmp .ne (F_in s form 0 2) 0 then (let v8 := F_lacks s s_ form i; bif m_cmp .le v8 0 then (let z11 := F_keep s s_ i v; (1, z11)) else (let z12 := F_meets s v8; z12)) else (((-2), s)))
set_option maxRecDepth 20000 in
set_option maxHeartbeats 200000 in
theorem fr_put (s : SG) (s_ : Int32) (form : Int32) (i : Int32) (v : Int32)  : Fr W_put s (F_put s s_ form i v).2 := by dsimp only [F_put]; exact (Fr.bifp (b := m_cmp .eq (F_isSheet s s_) 0) (x := ((-2), s)) (y := bif m_cmp .ne (F_in s form 0 2) 0 then (let v8 := F_lacks s s_ form i; bif m_cmp .le v8 0 then (let z11 := F_keep s s_ i v; (1, z11)) else (let z12 := F_meets s v8; z12)) else (((-2), s))) (fun x : Int32 × SG => x.2) (by (try dsimp only); exact (Fr.rf _ _)) (by (try dsimp only); exact (Fr.bifp (b := m_cmp .ne (F_in s form 0 2) 0) (x := let v8 := F_lacks s s_ form i; bif m_cmp .le v8 0 then (let z11 := F_keep s s_ i v; (1, z11)) else (let z12 := F_meets s v8; z12)) (y := ((-2), s)) (fun x : Int32 × SG => x.2) (by (try dsimp only); exact (let v8 : Int32 := F_lacks s s_ form i; (Fr.bifp (b := m_cmp .le v8 0) (x := let z11 := F_keep s s_ i v; (1, z11)) (y := let z12 := F_meets s v8; z12) (fun x : Int32 × SG => x.2) (by (try dsimp only); exact (Fr.tr (s1 := s) (Fr.rf _ _) (Fr.wk (W2 := W_put) (fr_keep s s_ i v) (by rfl)))) (by (try dsimp only); exact (Fr.tr (s1 := s) (Fr.rf _ _) (Fr.wk (W2 := W_put) (fr_meets s v8) (by rfl))))))) (by (try dsimp only); exact (Fr.rf _ _)))))
set_option maxRecDepth 20000 in
set_option maxHeartbeats 200000 in
theorem ux_put (s : SG) (s_ : Int32) (form : Int32) (i : Int32) (v : Int32)  : UP m_X7_put 0 (m_ent 6 [.ref 123, .int s_, .int form, .int i, .int v]) [] s (Qb (F_put s s_ form i v)) := by
  refine UP.stp 1 (i1 := 1) (L1 := [some (.ref 123), some (.int s_), some (.int form), some (.int i), some (.int v), none]) (st1 := [.int s_]) (s1 := s) rfl ?_
  refine UP.cI (M1 := m_X7_isSheet) (as := [.int s_]) (rest := []) (T := F_isSheet s s_) rfl rfl (ux_isSheet s s_) ?_
  refine UP.spl (m_cmp .eq (F_isSheet s s_) 0) (((-2), s)) (bif m_cmp .ne (F_in s form 0 2) 0 then (let v8 := F_lacks s s_ form i; bif m_cmp .le v8 0 then (let z11 := F_keep s s_ i v; (1, z11)) else (let z12 := F_meets s v8; z12)) else (((-2), s))) (by first | (dsimp only [F_put]; done) | (dsimp only; done) | rfl) (fun cc => ?_) (fun cc => ?_)
  · skip
    refine UP.ifT rfl cc ?_
    refine UP.stp 1 (i1 := 9) (L1 := [some (.ref 123), some (.int s_), some (.int form), some (.int i), some (.int v), none]) (st1 := [.int (-2)]) (s1 := s) rfl ?_
    exact UP.ret (r := some (.int (-2))) rfl ⟨by first | (dsimp only [F_put]; done) | (dsimp only; done) | rfl, by first | (dsimp only [F_put]; done) | (dsimp only; done) | rfl⟩
  · skip
    refine UP.ifF rfl cc ?_
    refine UP.stp 3 (i1 := 6) (L1 := [some (.ref 123), some (.int s_), some (.int form), some (.int i), some (.int v), none]) (st1 := [.int 2, .int 0, .int form]) (s1 := s) rfl ?_
    refine UP.cI (M1 := m_X7_in) (as := [.int form, .int 0, .int 2]) (rest := []) (T := F_in s form 0 2) rfl rfl (ux_in s form 0 2) ?_
    refine UP.spl (m_cmp .ne (F_in s form 0 2) 0) (let v8 := F_lacks s s_ form i; bif m_cmp .le v8 0 then (let z11 := F_keep s s_ i v; (1, z11)) else (let z12 := F_meets s v8; z12)) (((-2), s)) (by first | (dsimp only [F_put]; done) | (dsimp only; done) | rfl) (fun cc => ?_) (fun cc => ?_)
    · skip
      refine UP.ifT rfl cc ?_
      refine UP.stp 4 (i1 := 14) (L1 := [some (.ref 123), some (.int s_), some (.int form), some (.int i), some (.int v), none]) (st1 := [.int i, .int form, .int s_, .ref 123]) (s1 := s) rfl ?_
      refine UP.cI (M1 := m_X7_lacks) (as := [.ref 123, .int s_, .int form, .int i]) (rest := []) (T := F_lacks s s_ form i) rfl rfl (ux_lacks s s_ form i) ?_
      refine nm (G := fun v8 => UP m_X7_put 15 [some (.ref 123), some (.int s_), some (.int form), some (.int i), some (.int v), none] [.int v8] s (Qb (let v8 := F_lacks s s_ form i; bif m_cmp .le v8 0 then (let z11 := F_keep s s_ i v; (1, z11)) else (let z12 := F_meets s v8; z12)))) (F_lacks s s_ form i) (fun v8 e8 => ?_)
      refine UP.stp 2 (i1 := 17) (L1 := [some (.ref 123), some (.int s_), some (.int form), some (.int i), some (.int v), some (.int v8)]) (st1 := [.int v8]) (s1 := s) rfl ?_
      refine UP.spl (m_cmp .le v8 0) (let z11 := F_keep s s_ i v; (1, z11)) (let z12 := F_meets s v8; z12) (by subst e8; first | (dsimp only [F_put]; done) | (dsimp only; done) | rfl) (fun cc => ?_) (fun cc => ?_)
      · skip
        refine UP.ifT rfl cc ?_
        refine UP.stp 4 (i1 := 26) (L1 := [some (.ref 123), some (.int s_), some (.int form), some (.int i), some (.int v), some (.int v8)]) (st1 := [.int v, .int i, .int s_, .ref 123]) (s1 := s) rfl ?_
        refine UP.cV (M1 := m_X7_keep) (as := [.ref 123, .int s_, .int i, .int v]) (rest := []) (T := F_keep s s_ i v) rfl rfl (ux_keep s s_ i v) (fun z11 e11 => ?_)
        refine UP.stp 1 (i1 := 28) (L1 := [some (.ref 123), some (.int s_), some (.int form), some (.int i), some (.int v), some (.int v8)]) (st1 := [.int 1]) (s1 := z11) rfl ?_
        exact UP.ret (r := some (.int 1)) rfl ⟨by subst e11 e8; first | (dsimp only [F_put]; done) | (dsimp only; done) | rfl, by subst e11 e8; first | (dsimp only [F_put]; done) | (dsimp only; done) | rfl⟩
      · skip
        refine UP.ifF rfl cc ?_
        refine UP.stp 2 (i1 := 20) (L1 := [some (.ref 123), some (.int s_), some (.int form), some (.int i), some (.int v), some (.int v8)]) (st1 := [.int v8, .ref 123]) (s1 := s) rfl ?_
        refine UP.cB (M1 := m_X7_meets) (as := [.ref 123, .int v8]) (rest := []) (T := F_meets s v8) rfl rfl (ux_meets s v8) (fun z12 e12 => ?_)
        exact UP.ret (r := some (.int z12.1)) rfl ⟨by subst e12 e8; first | (dsimp only [F_put]; done) | (dsimp only; done) | rfl, by subst e12 e8; first | (dsimp only [F_put]; done) | (dsimp only; done) | rfl⟩
    · skip
      refine UP.ifF rfl cc ?_
      refine UP.stp 1 (i1 := 9) (L1 := [some (.ref 123), some (.int s_), some (.int form), some (.int i), some (.int v), none]) (st1 := [.int (-2)]) (s1 := s) rfl ?_
      exact UP.ret (r := some (.int (-2))) rfl ⟨by first | (dsimp only [F_put]; done) | (dsimp only; done) | rfl, by first | (dsimp only [F_put]; done) | (dsimp only; done) | rfl⟩
