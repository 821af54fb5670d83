def W_get : List (Nat × Nat × Option Nat) := [(123, 123, some 46)]
def F_get (s : SG) (s_ : Int32) (form : Int32) (i : Int32) : Int32 × SG := bif m_cmp .eq (F_isSheet s s_) 0 then (((-2147483648), s)) else (bif m_cmp .ne (F_in s form 0 2) 0 then (let v8 := F_lacks s s_ form i; bif m_cmp .le v8 0 then ((s 151 (((60 * s_) + i).toNatClampNeg), s)) else (((-2147483648), (uset s 123 46 v8)))) else (((-2147483648), s)))
set_option maxRecDepth 20000 in
set_option maxHeartbeats 200000 in
theorem fr_get (s : SG) (s_ : Int32) (form : Int32) (i : Int32)  : Fr W_get s (F_get s s_ form i).2 := by dsimp only [F_get]; exact (Fr.bifp (b := m_cmp .eq (F_isSheet s s_) 0) (x := ((-2147483648), s)) (y := bif m_cmp .ne (F_in s form 0 2) 0 then (let v8 := F_lacks s s_ form i; bif m_cmp .le v8 0 then ((s 151 (((60 * s_) + i).toNatClampNeg), s)) else (((-2147483648), (uset s 123 46 v8)))) else (((-2147483648), s))) (fun x : Int32 × SG => x.2) (by (try dsimp only); exact (Fr.rf _ _)) (by (try dsimp only); exact (Fr.bifp (b := m_cmp .ne (F_in s form 0 2) 0) (x := let v8 := F_lacks s s_ form i; bif m_cmp .le v8 0 then ((s 151 (((60 * s_) + i).toNatClampNeg), s)) else (((-2147483648), (uset s 123 46 v8)))) (y := ((-2147483648), s)) (fun x : Int32 × SG => x.2) (by (try dsimp only); exact (let v8 : Int32 := F_lacks s s_ form i; (Fr.bifp (b := m_cmp .le v8 0) (x := (s 151 (((60 * s_) + i).toNatClampNeg), s)) (y := ((-2147483648), (uset s 123 46 v8))) (fun x : Int32 × SG => x.2) (by (try dsimp only); exact (Fr.rf _ _)) (by (try dsimp only); exact (Fr.uset (s1 := s) (a := 123) (j := 46) (x := v8) (by rfl) (Fr.rf _ _)))))) (by (try dsimp only); exact (Fr.rf _ _)))))
set_option maxRecDepth 20000 in
set_option maxHeartbeats 200000 in
theorem ux_get (s : SG) (s_ : Int32) (form : Int32) (i : Int32)  : UP m_X7_get 0 (m_ent 5 [.ref 123, .int s_, .int form, .int i]) [] s (Qb (F_get s s_ form i)) := by
  refine UP.stp 1 (i1 := 1) (L1 := [some (.ref 123), some (.int s_), some (.int form), some (.int i), none]) (st1 := [.int s_]) (s1 := s) rfl ?_
  refine UP.cI (M1 := m_X7_isSheet) (as := [.int s_]) (rest := []) (T := F_isSheet s s_) rfl rfl (ux_isSheet s s_) ?_
  refine UP.spl (m_cmp .eq (F_isSheet s s_) 0) (((-2147483648), s)) (bif m_cmp .ne (F_in s form 0 2) 0 then (let v8 := F_lacks s s_ form i; bif m_cmp .le v8 0 then ((s 151 (((60 * s_) + i).toNatClampNeg), s)) else (((-2147483648), (uset s 123 46 v8)))) else (((-2147483648), s))) (by first | (dsimp only [F_get]; done) | (dsimp only; done) | rfl) (fun cc => ?_) (fun cc => ?_)
  · skip
    refine UP.ifT rfl cc ?_
    refine UP.stp 1 (i1 := 9) (L1 := [some (.ref 123), some (.int s_), some (.int form), some (.int i), none]) (st1 := [.int (-2147483648)]) (s1 := s) rfl ?_
    exact UP.ret (r := some (.int (-2147483648))) rfl ⟨by first | (dsimp only [F_get]; done) | (dsimp only; done) | rfl, by first | (dsimp only [F_get]; done) | (dsimp only; done) | rfl⟩
  · skip
    refine UP.ifF rfl cc ?_
    refine UP.stp 3 (i1 := 6) (L1 := [some (.ref 123), some (.int s_), some (.int form), some (.int i), none]) (st1 := [.int 2, .int 0, .int form]) (s1 := s) rfl ?_
    refine UP.cI (M1 := m_X7_in) (as := [.int form, .int 0, .int 2]) (rest := []) (T := F_in s form 0 2) rfl rfl (ux_in s form 0 2) ?_
    refine UP.spl (m_cmp .ne (F_in s form 0 2) 0) (let v8 := F_lacks s s_ form i; bif m_cmp .le v8 0 then ((s 151 (((60 * s_) + i).toNatClampNeg), s)) else (((-2147483648), (uset s 123 46 v8)))) (((-2147483648), s)) (by first | (dsimp only [F_get]; done) | (dsimp only; done) | rfl) (fun cc => ?_) (fun cc => ?_)
    · skip
      refine UP.ifT rfl cc ?_
      refine UP.stp 4 (i1 := 14) (L1 := [some (.ref 123), some (.int s_), some (.int form), some (.int i), none]) (st1 := [.int i, .int form, .int s_, .ref 123]) (s1 := s) rfl ?_
      refine UP.cI (M1 := m_X7_lacks) (as := [.ref 123, .int s_, .int form, .int i]) (rest := []) (T := F_lacks s s_ form i) rfl rfl (ux_lacks s s_ form i) ?_
      refine nm (G := fun v8 => UP m_X7_get 15 [some (.ref 123), some (.int s_), some (.int form), some (.int i), none] [.int v8] s (Qb (let v8 := F_lacks s s_ form i; bif m_cmp .le v8 0 then ((s 151 (((60 * s_) + i).toNatClampNeg), s)) else (((-2147483648), (uset s 123 46 v8)))))) (F_lacks s s_ form i) (fun v8 e8 => ?_)
      refine UP.stp 2 (i1 := 17) (L1 := [some (.ref 123), some (.int s_), some (.int form), some (.int i), some (.int v8)]) (st1 := [.int v8]) (s1 := s) rfl ?_
      refine UP.spl (m_cmp .le v8 0) ((s 151 (((60 * s_) + i).toNatClampNeg), s)) (((-2147483648), (uset s 123 46 v8))) (by subst e8; first | (dsimp only [F_get]; done) | (dsimp only; done) | rfl) (fun cc => ?_) (fun cc => ?_)
      · skip
        refine UP.ifT rfl cc ?_
        refine UP.stp 8 (i1 := 31) (L1 := [some (.ref 123), some (.int s_), some (.int form), some (.int i), some (.int v8)]) (st1 := [.int (s 151 (((60 * s_) + i).toNatClampNeg))]) (s1 := s) rfl ?_
        exact UP.ret (r := some (.int (s 151 (((60 * s_) + i).toNatClampNeg)))) rfl ⟨by subst e8; first | (dsimp only [F_get]; done) | (dsimp only; done) | rfl, by subst e8; first | (dsimp only [F_get]; done) | (dsimp only; done) | rfl⟩
      · skip
        refine UP.ifF rfl cc ?_
        refine UP.stp 4 (i1 := 22) (L1 := [some (.ref 123), some (.int s_), some (.int form), some (.int i), some (.int v8)]) (st1 := [.int (-2147483648)]) (s1 := (uset s 123 46 v8)) rfl ?_
        exact UP.ret (r := some (.int (-2147483648))) rfl ⟨by subst e8; first | (dsimp only [F_get]; done) | (dsimp only; done) | rfl, by subst e8; first | (dsimp only [F_get]; done) | (dsimp only; done) | rfl⟩
    · skip
      refine UP.ifF rfl cc ?_
      refine UP.stp 1 (i1 := 9) (L1 := [some (.ref 123), some (.int s_), some (.int form), some (.int i), none]) (st1 := [.int (-2147483648)]) (s1 := s) rfl ?_
      exact UP.ret (r := some (.int (-2147483648))) rfl ⟨by first | (dsimp only [F_get]; done) | (dsimp only; done) | rfl, by first | (dsimp only [F_get]; done) | (dsimp only; done) | rfl⟩
