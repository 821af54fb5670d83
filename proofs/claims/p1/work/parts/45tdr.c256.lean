def W_cget_3 : List (Nat × Nat × Option Nat) := [(121, 121, none), (122, 122, none), (0, 0, some 4)]
def F_cget_3 (s : SG) (form : Int32) (i : Int32) : Int32 × SG := bif m_cmp .eq (F_isBelow s 3 4) 0 then (((-2147483648), s)) else (bif m_cmp .ne (F_isBelow s form 3) 0 then (let v8 := F_findingOf_3 s form i; bif m_cmp .eq v8 0 then ((s 122 i.toNatClampNeg, s)) else (((-2147483648), (uset s 0 4 v8)))) else (((-2147483648), s)))
set_option maxRecDepth 20000 in
set_option maxHeartbeats 200000 in
theorem fr_cget_3 (s : SG) (form : Int32) (i : Int32)  : Fr W_cget_3 s (F_cget_3 s form i).2 := by dsimp only [F_cget_3]; exact (Fr.bifp (b := m_cmp .eq (F_isBelow s 3 4) 0) (x := ((-2147483648), s)) (y := bif m_cmp .ne (F_isBelow s form 3) 0 then (let v8 := F_findingOf_3 s form i; bif m_cmp .eq v8 0 then ((s 122 i.toNatClampNeg, s)) else (((-2147483648), (uset s 0 4 v8)))) else (((-2147483648), s))) (fun x : Int32 × SG => x.2) (by (try dsimp only); exact (Fr.rf _ _)) (by (try dsimp only); exact (Fr.bifp (b := m_cmp .ne (F_isBelow s form 3) 0) (x := let v8 := F_findingOf_3 s form i; bif m_cmp .eq v8 0 then ((s 122 i.toNatClampNeg, s)) else (((-2147483648), (uset s 0 4 v8)))) (y := ((-2147483648), s)) (fun x : Int32 × SG => x.2) (by (try dsimp only); exact (let v8 : Int32 := F_findingOf_3 s form i; (Fr.bifp (b := m_cmp .eq v8 0) (x := (s 122 i.toNatClampNeg, s)) (y := ((-2147483648), (uset s 0 4 v8))) (fun x : Int32 × SG => x.2) (by (try dsimp only); exact (Fr.rf _ _)) (by (try dsimp only); exact (Fr.uset (s1 := s) (a := 0) (j := 4) (x := v8) (by rfl) (Fr.rf _ _)))))) (by (try dsimp only); exact (Fr.rf _ _)))))
set_option maxRecDepth 20000 in
set_option maxHeartbeats 200000 in
theorem ux_cget_3 (s : SG) (form : Int32) (i : Int32)  : UP m_X6_get 0 (m_ent 5 [.ref 0, .int 3, .int form, .int i]) [] s (Qb (F_cget_3 s form i)) := by
  refine UP.stp 2 (i1 := 2) (L1 := [some (.ref 0), some (.int 3), some (.int form), some (.int i), none]) (st1 := [.int 4, .int 3]) (s1 := s) rfl ?_
  refine UP.cI (M1 := m_X6_isBelow) (as := [.int 3, .int 4]) (rest := []) (T := F_isBelow s 3 4) rfl rfl (ux_isBelow s 3 4) ?_
  refine UP.spl (m_cmp .eq (F_isBelow s 3 4) 0) (((-2147483648), s)) (bif m_cmp .ne (F_isBelow s form 3) 0 then (let v8 := F_findingOf_3 s form i; bif m_cmp .eq v8 0 then ((s 122 i.toNatClampNeg, s)) else (((-2147483648), (uset s 0 4 v8)))) else (((-2147483648), s))) (by first | (dsimp only [F_cget_3]; done) | (dsimp only; done) | rfl) (fun cc => ?_) (fun cc => ?_)
  · skip
    refine UP.ifT rfl cc ?_
    refine UP.stp 1 (i1 := 9) (L1 := [some (.ref 0), some (.int 3), some (.int form), some (.int i), none]) (st1 := [.int (-2147483648)]) (s1 := s) rfl ?_
    exact UP.ret (r := some (.int (-2147483648))) rfl ⟨by first | (dsimp only [F_cget_3]; done) | (dsimp only; done) | rfl, by first | (dsimp only [F_cget_3]; done) | (dsimp only; done) | rfl⟩
  · skip
    refine UP.ifF rfl cc ?_
    refine UP.stp 2 (i1 := 6) (L1 := [some (.ref 0), some (.int 3), some (.int form), some (.int i), none]) (st1 := [.int 3, .int form]) (s1 := s) rfl ?_
    refine UP.cI (M1 := m_X6_isBelow) (as := [.int form, .int 3]) (rest := []) (T := F_isBelow s form 3) rfl rfl (ux_isBelow s form 3) ?_
    refine UP.spl (m_cmp .ne (F_isBelow s form 3) 0) (let v8 := F_findingOf_3 s form i; bif m_cmp .eq v8 0 then ((s 122 i.toNatClampNeg, s)) else (((-2147483648), (uset s 0 4 v8)))) (((-2147483648), s)) (by first | (dsimp only [F_cget_3]; done) | (dsimp only; done) | rfl) (fun cc => ?_) (fun cc => ?_)
    · skip
      refine UP.ifT rfl cc ?_
      refine UP.stp 3 (i1 := 13) (L1 := [some (.ref 0), some (.int 3), some (.int form), some (.int i), none]) (st1 := [.int 3, .ref 9]) (s1 := s) rfl ?_
      refine UP.aald (e := 3) (r := 121) rfl rfl (by omega) rfl ?_
      refine UP.stp 2 (i1 := 16) (L1 := [some (.ref 0), some (.int 3), some (.int form), some (.int i), none]) (st1 := [.int i, .int form, .ref 121]) (s1 := s) rfl ?_
      refine UP.cI (M1 := m_X3_findingOf) (as := [.ref 121, .int form, .int i]) (rest := []) (T := F_findingOf_3 s form i) rfl rfl (ux_findingOf_3 s form i) ?_
      refine nm (G := fun v8 => UP m_X6_get 17 [some (.ref 0), some (.int 3), some (.int form), some (.int i), none] [.int v8] s (Qb (let v8 := F_findingOf_3 s form i; bif m_cmp .eq v8 0 then ((s 122 i.toNatClampNeg, s)) else (((-2147483648), (uset s 0 4 v8)))))) (F_findingOf_3 s form i) (fun v8 e8 => ?_)
      refine UP.stp 2 (i1 := 19) (L1 := [some (.ref 0), some (.int 3), some (.int form), some (.int i), some (.int v8)]) (st1 := [.int v8]) (s1 := s) rfl ?_
      refine UP.spl (m_cmp .eq v8 0) ((s 122 i.toNatClampNeg, s)) (((-2147483648), (uset s 0 4 v8))) (by subst e8; first | (dsimp only [F_cget_3]; done) | (dsimp only; done) | rfl) (fun cc => ?_) (fun cc => ?_)
      · skip
        refine UP.ifT rfl cc ?_
        refine UP.stp 3 (i1 := 28) (L1 := [some (.ref 0), some (.int 3), some (.int form), some (.int i), some (.int v8)]) (st1 := [.int 3, .ref 9]) (s1 := s) rfl ?_
        refine UP.aald (e := 3) (r := 121) rfl rfl (by omega) rfl ?_
        refine UP.stp 3 (i1 := 32) (L1 := [some (.ref 0), some (.int 3), some (.int form), some (.int i), some (.int v8)]) (st1 := [.int (s 122 i.toNatClampNeg)]) (s1 := s) rfl ?_
        exact UP.ret (r := some (.int (s 122 i.toNatClampNeg))) rfl ⟨by subst e8; first | (dsimp only [F_cget_3]; done) | (dsimp only; done) | rfl, by subst e8; first | (dsimp only [F_cget_3]; done) | (dsimp only; done) | rfl⟩
      · skip
        refine UP.ifF rfl cc ?_
        refine UP.stp 4 (i1 := 24) (L1 := [some (.ref 0), some (.int 3), some (.int form), some (.int i), some (.int v8)]) (st1 := [.int (-2147483648)]) (s1 := (uset s 0 4 v8)) rfl ?_
        exact UP.ret (r := some (.int (-2147483648))) rfl ⟨by subst e8; first | (dsimp only [F_cget_3]; done) | (dsimp only; done) | rfl, by subst e8; first | (dsimp only [F_cget_3]; done) | (dsimp only; done) | rfl⟩
    · skip
      refine UP.ifF rfl cc ?_
      refine UP.stp 1 (i1 := 9) (L1 := [some (.ref 0), some (.int 3), some (.int form), some (.int i), none]) (st1 := [.int (-2147483648)]) (s1 := s) rfl ?_
      exact UP.ret (r := some (.int (-2147483648))) rfl ⟨by first | (dsimp only [F_cget_3]; done) | (dsimp only; done) | rfl, by first | (dsimp only [F_cget_3]; done) | (dsimp only; done) | rfl⟩
