def W_lacks : List (Nat × Nat × Option Nat) := []
def F_lacks (s : SG) (s_ : Int32) (form : Int32) (i : Int32) : Int32 := let v4 := bif m_cmp .ne (s 148 s_.toNatClampNeg) 0 then (bif m_cmp .eq (s 149 s_.toNatClampNeg) form then (bif m_cmp .eq (F_in s i 0 ((s 150 s_.toNatClampNeg) - 1)) 0 then (2 : Int32) else (0 : Int32)) else (3 : Int32)) else (1 : Int32); v4
theorem ux_lacks (s : SG) (s_ : Int32) (form : Int32) (i : Int32)  : UP m_X7_lacks 0 (m_ent 4 [.ref 123, .int s_, .int form, .int i]) [] s (Qi s (F_lacks s s_ form i)) := by
  refine UP.stp 4 (i1 := 4) (L1 := [some (.ref 123), some (.int s_), some (.int form), some (.int i)]) (st1 := [.int (s 148 s_.toNatClampNeg)]) (s1 := s) rfl ?_
  refine mrg (m_cmp .ne (s 148 s_.toNatClampNeg) 0) (bif m_cmp .eq (s 149 s_.toNatClampNeg) form then (bif m_cmp .eq (F_in s i 0 ((s 150 s_.toNatClampNeg) - 1)) 0 then (2 : Int32) else (0 : Int32)) else (3 : Int32)) (1 : Int32) (fun v4 : Int32 => UP m_X7_lacks 28 [some (.ref 123), some (.int s_), some (.int form), some (.int i)] [.int v4] s (Qi s (F_lacks s s_ form i))) (fun cc kk => ?_) (fun cc kk => ?_) (fun v4 e4 => ?_)
  · skip
    refine UP.ifT rfl cc ?_
    refine UP.stp 5 (i1 := 12) (L1 := [some (.ref 123), some (.int s_), some (.int form), some (.int i)]) (st1 := [.int form, .int (s 149 s_.toNatClampNeg)]) (s1 := s) rfl ?_
    refine mrg (m_cmp .eq (s 149 s_.toNatClampNeg) form) (bif m_cmp .eq (F_in s i 0 ((s 150 s_.toNatClampNeg) - 1)) 0 then (2 : Int32) else (0 : Int32)) (3 : Int32) (fun v3 : Int32 => UP m_X7_lacks 28 [some (.ref 123), some (.int s_), some (.int form), some (.int i)] [.int v3] s (Qi s (F_lacks s s_ form i))) (fun cc kk => ?_) (fun cc kk => ?_) (fun v3 e3 => ?_)
    · skip
      refine UP.icT rfl cc ?_
      refine UP.stp 8 (i1 := 23) (L1 := [some (.ref 123), some (.int s_), some (.int form), some (.int i)]) (st1 := [.int ((s 150 s_.toNatClampNeg) - 1), .int 0, .int i]) (s1 := s) rfl ?_
      refine UP.cI (M1 := m_X7_in) (as := [.int i, .int 0, .int ((s 150 s_.toNatClampNeg) - 1)]) (rest := []) (T := F_in s i 0 ((s 150 s_.toNatClampNeg) - 1)) rfl rfl (ux_in s i 0 ((s 150 s_.toNatClampNeg) - 1)) ?_
      refine mrg (m_cmp .eq (F_in s i 0 ((s 150 s_.toNatClampNeg) - 1)) 0) (2 : Int32) (0 : Int32) (fun v2 : Int32 => UP m_X7_lacks 28 [some (.ref 123), some (.int s_), some (.int form), some (.int i)] [.int v2] s (Qi s (F_lacks s s_ form i))) (fun cc kk => ?_) (fun cc kk => ?_) (fun v2 e2 => ?_)
      · skip
        refine UP.ifT rfl cc ?_
        refine UP.stp 1 (i1 := 28) (L1 := [some (.ref 123), some (.int s_), some (.int form), some (.int i)]) (st1 := [.int 2]) (s1 := s) rfl ?_
        exact kk
      · skip
        refine UP.ifF rfl cc ?_
        refine UP.stp 2 (i1 := 28) (L1 := [some (.ref 123), some (.int s_), some (.int form), some (.int i)]) (st1 := [.int 0]) (s1 := s) rfl ?_
        exact kk
      subst e2
      exact kk
    · skip
      refine UP.icF rfl cc ?_
      refine UP.stp 2 (i1 := 28) (L1 := [some (.ref 123), some (.int s_), some (.int form), some (.int i)]) (st1 := [.int 3]) (s1 := s) rfl ?_
      exact kk
    subst e3
    exact kk
  · skip
    refine UP.ifF rfl cc ?_
    refine UP.stp 2 (i1 := 28) (L1 := [some (.ref 123), some (.int s_), some (.int form), some (.int i)]) (st1 := [.int 1]) (s1 := s) rfl ?_
    exact kk
  exact UP.ret (r := some (.int v4)) rfl ⟨by subst e4; rfl, by subst e4; rfl⟩
def W_keep : List (Nat × Nat × Option Nat) := [(151, 151, none)]
def F_keep (s : SG) (s_ : Int32) (i : Int32) (v : Int32) : SG := let v2 := bif m_cmp .ne (s 149 s_.toNatClampNeg) 0 then (bif m_cmp .ne (s 149 s_.toNatClampNeg) 1 then v else v.toInt16.toInt32) else v.toInt8.toInt32; (uset s 151 (((60 * s_) + i).toNatClampNeg) v2)
theorem fr_keep (s : SG) (s_ : Int32) (i : Int32) (v : Int32)  : Fr W_keep s (F_keep s s_ i v) := by dsimp only [F_keep]; exact (let v2 : Int32 := bif m_cmp .ne (s 149 s_.toNatClampNeg) 0 then (bif m_cmp .ne (s 149 s_.toNatClampNeg) 1 then v else v.toInt16.toInt32) else v.toInt8.toInt32; (Fr.uset (s1 := s) (a := 151) (j := ((60 * s_) + i).toNatClampNeg) (x := v2) (by rfl) (Fr.rf _ _)))
theorem ux_keep (s : SG) (s_ : Int32) (i : Int32) (v : Int32)  : UP m_X7_keep 0 (m_ent 4 [.ref 123, .int s_, .int i, .int v]) [] s (Qv (F_keep s s_ i v)) := by
  refine UP.stp 11 (i1 := 11) (L1 := [some (.ref 123), some (.int s_), some (.int i), some (.int v)]) (st1 := [.int (s 149 s_.toNatClampNeg), .int ((60 * s_) + i), .ref 151]) (s1 := s) rfl ?_
  refine mrg (m_cmp .ne (s 149 s_.toNatClampNeg) 0) (bif m_cmp .ne (s 149 s_.toNatClampNeg) 1 then v else v.toInt16.toInt32) v.toInt8.toInt32 (fun v2 : Int32 => UP m_X7_keep 25 [some (.ref 123), some (.int s_), some (.int i), some (.int v)] [.int v2, .int ((60 * s_) + i), .ref 151] s (Qv (F_keep s s_ i v))) (fun cc kk => ?_) (fun cc kk => ?_) (fun v2 e2 => ?_)
  · skip
    refine UP.ifT rfl cc ?_
    refine UP.stp 5 (i1 := 20) (L1 := [some (.ref 123), some (.int s_), some (.int i), some (.int v)]) (st1 := [.int 1, .int (s 149 s_.toNatClampNeg), .int ((60 * s_) + i), .ref 151]) (s1 := s) rfl ?_
    refine mrg (m_cmp .ne (s 149 s_.toNatClampNeg) 1) v v.toInt16.toInt32 (fun v1 : Int32 => UP m_X7_keep 25 [some (.ref 123), some (.int s_), some (.int i), some (.int v)] [.int v1, .int ((60 * s_) + i), .ref 151] s (Qv (F_keep s s_ i v))) (fun cc kk => ?_) (fun cc kk => ?_) (fun v1 e1 => ?_)
    · skip
      refine UP.icT rfl cc ?_
      refine UP.stp 1 (i1 := 25) (L1 := [some (.ref 123), some (.int s_), some (.int i), some (.int v)]) (st1 := [.int v, .int ((60 * s_) + i), .ref 151]) (s1 := s) rfl ?_
      exact kk
    · skip
      refine UP.icF rfl cc ?_
      refine UP.stp 3 (i1 := 25) (L1 := [some (.ref 123), some (.int s_), some (.int i), some (.int v)]) (st1 := [.int v.toInt16.toInt32, .int ((60 * s_) + i), .ref 151]) (s1 := s) rfl ?_
      exact kk
    subst e1
    exact kk
  · skip
    refine UP.ifF rfl cc ?_
    refine UP.stp 3 (i1 := 25) (L1 := [some (.ref 123), some (.int s_), some (.int i), some (.int v)]) (st1 := [.int v.toInt8.toInt32, .int ((60 * s_) + i), .ref 151]) (s1 := s) rfl ?_
    exact kk
  refine UP.stp 1 (i1 := 26) (L1 := [some (.ref 123), some (.int s_), some (.int i), some (.int v)]) (st1 := []) (s1 := (uset s 151 (((60 * s_) + i).toNatClampNeg) v2)) rfl ?_
  exact UP.ret (r := none) rfl ⟨by subst e2; rfl, by subst e2; rfl⟩
def W_put : List (Nat × Nat × Option Nat) := [(151, 151, none), (123, 123, some 46)]
def F_put (s : SG) (s_ : Int32) (form : Int32) (i : Int32) (v : Int32) : Int32 × SG := bif m_cmp .eq (F_isSheet s s_) 0 then (((-2), s)) else (bif m_cmp .ne (F_in s form 0 2) 0 then (let v8 := F_lacks s s_ form i; bif m_cmp .le v8 0 then (let z11 := F_keep s s_ i v; (1, z11)) else (let z12 := F_meets s v8; z12)) else (((-2), s)))
theorem fr_put (s : SG) (s_ : Int32) (form : Int32) (i : Int32) (v : Int32)  : Fr W_put s (F_put s s_ form i v).2 := by dsimp only [F_put]; exact (Fr.bifp (b := m_cmp .eq (F_isSheet s s_) 0) (x := ((-2), s)) (y := bif m_cmp .ne (F_in s form 0 2) 0 then (let v8 := F_lacks s s_ form i; bif m_cmp .le v8 0 then (let z11 := F_keep s s_ i v; (1, z11)) else (let z12 := F_meets s v8; z12)) else (((-2), s))) (fun x : Int32 × SG => x.2) (Fr.rf _ _) (Fr.bifp (b := m_cmp .ne (F_in s form 0 2) 0) (x := let v8 := F_lacks s s_ form i; bif m_cmp .le v8 0 then (let z11 := F_keep s s_ i v; (1, z11)) else (let z12 := F_meets s v8; z12)) (y := ((-2), s)) (fun x : Int32 × SG => x.2) (let v8 : Int32 := F_lacks s s_ form i; (Fr.bifp (b := m_cmp .le v8 0) (x := let z11 := F_keep s s_ i v; (1, z11)) (y := let z12 := F_meets s v8; z12) (fun x : Int32 × SG => x.2) (Fr.tr (s1 := s) (Fr.rf _ _) (Fr.wk (W2 := W_put) (fr_keep s s_ i v) (by rfl))) (Fr.tr (s1 := s) (Fr.rf _ _) (Fr.wk (W2 := W_put) (fr_meets s v8) (by rfl))))) (Fr.rf _ _)))
theorem ux_put (s : SG) (s_ : Int32) (form : Int32) (i : Int32) (v : Int32)  : UP m_X7_put 0 (m_ent 6 [.ref 123, .int s_, .int form, .int i, .int v]) [] s (Qb (F_put s s_ form i v)) := by
  refine UP.stp 1 (i1 := 1) (L1 := [some (.ref 123), some (.int s_), some (.int form), some (.int i), some (.int v), none]) (st1 := [.int s_]) (s1 := s) rfl ?_
  refine UP.cI (M1 := m_X7_isSheet) (as := [.int s_]) (rest := []) (T := F_isSheet s s_) rfl rfl (ux_isSheet s s_) ?_
  refine UP.spl (m_cmp .eq (F_isSheet s s_) 0) (((-2), s)) (bif m_cmp .ne (F_in s form 0 2) 0 then (let v8 := F_lacks s s_ form i; bif m_cmp .le v8 0 then (let z11 := F_keep s s_ i v; (1, z11)) else (let z12 := F_meets s v8; z12)) else (((-2), s))) (by rfl) (fun cc => ?_) (fun cc => ?_)
  · skip
    refine UP.ifT rfl cc ?_
    refine UP.stp 1 (i1 := 9) (L1 := [some (.ref 123), some (.int s_), some (.int form), some (.int i), some (.int v), none]) (st1 := [.int (-2)]) (s1 := s) rfl ?_
    exact UP.ret (r := some (.int (-2))) rfl ⟨by rfl, by rfl⟩
  · skip
    refine UP.ifF rfl cc ?_
    refine UP.stp 3 (i1 := 6) (L1 := [some (.ref 123), some (.int s_), some (.int form), some (.int i), some (.int v), none]) (st1 := [.int 2, .int 0, .int form]) (s1 := s) rfl ?_
    refine UP.cI (M1 := m_X7_in) (as := [.int form, .int 0, .int 2]) (rest := []) (T := F_in s form 0 2) rfl rfl (ux_in s form 0 2) ?_
    refine UP.spl (m_cmp .ne (F_in s form 0 2) 0) (let v8 := F_lacks s s_ form i; bif m_cmp .le v8 0 then (let z11 := F_keep s s_ i v; (1, z11)) else (let z12 := F_meets s v8; z12)) (((-2), s)) (by rfl) (fun cc => ?_) (fun cc => ?_)
    · skip
      refine UP.ifT rfl cc ?_
      refine UP.stp 4 (i1 := 14) (L1 := [some (.ref 123), some (.int s_), some (.int form), some (.int i), some (.int v), none]) (st1 := [.int i, .int form, .int s_, .ref 123]) (s1 := s) rfl ?_
      refine UP.cI (M1 := m_X7_lacks) (as := [.ref 123, .int s_, .int form, .int i]) (rest := []) (T := F_lacks s s_ form i) rfl rfl (ux_lacks s s_ form i) ?_
      refine nm (G := fun v8 => UP m_X7_put 15 [some (.ref 123), some (.int s_), some (.int form), some (.int i), some (.int v), none] [.int v8] s (Qb (let v8 := F_lacks s s_ form i; bif m_cmp .le v8 0 then (let z11 := F_keep s s_ i v; (1, z11)) else (let z12 := F_meets s v8; z12)))) (F_lacks s s_ form i) (fun v8 e8 => ?_)
      refine UP.stp 2 (i1 := 17) (L1 := [some (.ref 123), some (.int s_), some (.int form), some (.int i), some (.int v), some (.int v8)]) (st1 := [.int v8]) (s1 := s) rfl ?_
      refine UP.spl (m_cmp .le v8 0) (let z11 := F_keep s s_ i v; (1, z11)) (let z12 := F_meets s v8; z12) (by subst e8; rfl) (fun cc => ?_) (fun cc => ?_)
      · skip
        refine UP.ifT rfl cc ?_
        refine UP.stp 4 (i1 := 26) (L1 := [some (.ref 123), some (.int s_), some (.int form), some (.int i), some (.int v), some (.int v8)]) (st1 := [.int v, .int i, .int s_, .ref 123]) (s1 := s) rfl ?_
        refine UP.cV (M1 := m_X7_keep) (as := [.ref 123, .int s_, .int i, .int v]) (rest := []) (T := F_keep s s_ i v) rfl rfl (ux_keep s s_ i v) (fun z11 e11 => ?_)
        refine UP.stp 1 (i1 := 28) (L1 := [some (.ref 123), some (.int s_), some (.int form), some (.int i), some (.int v), some (.int v8)]) (st1 := [.int 1]) (s1 := z11) rfl ?_
        exact UP.ret (r := some (.int 1)) rfl ⟨by subst e11 e8; rfl, by subst e11 e8; rfl⟩
      · skip
        refine UP.ifF rfl cc ?_
        refine UP.stp 2 (i1 := 20) (L1 := [some (.ref 123), some (.int s_), some (.int form), some (.int i), some (.int v), some (.int v8)]) (st1 := [.int v8, .ref 123]) (s1 := s) rfl ?_
        refine UP.cB (M1 := m_X7_meets) (as := [.ref 123, .int v8]) (rest := []) (T := F_meets s v8) rfl rfl (ux_meets s v8) (fun z12 e12 => ?_)
        exact UP.ret (r := some (.int z12.1)) rfl ⟨by subst e12 e8; rfl, by subst e12 e8; rfl⟩
    · skip
      refine UP.ifF rfl cc ?_
      refine UP.stp 1 (i1 := 9) (L1 := [some (.ref 123), some (.int s_), some (.int form), some (.int i), some (.int v), none]) (st1 := [.int (-2)]) (s1 := s) rfl ?_
      exact UP.ret (r := some (.int (-2))) rfl ⟨by rfl, by rfl⟩
def W_get : List (Nat × Nat × Option Nat) := [(123, 123, some 46)]
def F_get (s : SG) (s_ : Int32) (form : Int32) (i : Int32) : Int32 × SG := bif m_cmp .eq (F_isSheet s s_) 0 then (((-2147483648), s)) else (bif m_cmp .ne (F_in s form 0 2) 0 then (let v8 := F_lacks s s_ form i; bif m_cmp .le v8 0 then ((s 151 (((60 * s_) + i).toNatClampNeg), s)) else (((-2147483648), (uset s 123 46 v8)))) else (((-2147483648), s)))
theorem fr_get (s : SG) (s_ : Int32) (form : Int32) (i : Int32)  : Fr W_get s (F_get s s_ form i).2 := by dsimp only [F_get]; exact (Fr.bifp (b := m_cmp .eq (F_isSheet s s_) 0) (x := ((-2147483648), s)) (y := bif m_cmp .ne (F_in s form 0 2) 0 then (let v8 := F_lacks s s_ form i; bif m_cmp .le v8 0 then ((s 151 (((60 * s_) + i).toNatClampNeg), s)) else (((-2147483648), (uset s 123 46 v8)))) else (((-2147483648), s))) (fun x : Int32 × SG => x.2) (Fr.rf _ _) (Fr.bifp (b := m_cmp .ne (F_in s form 0 2) 0) (x := let v8 := F_lacks s s_ form i; bif m_cmp .le v8 0 then ((s 151 (((60 * s_) + i).toNatClampNeg), s)) else (((-2147483648), (uset s 123 46 v8)))) (y := ((-2147483648), s)) (fun x : Int32 × SG => x.2) (let v8 : Int32 := F_lacks s s_ form i; (Fr.bifp (b := m_cmp .le v8 0) (x := (s 151 (((60 * s_) + i).toNatClampNeg), s)) (y := ((-2147483648), (uset s 123 46 v8))) (fun x : Int32 × SG => x.2) (Fr.rf _ _) (Fr.uset (s1 := s) (a := 123) (j := 46) (x := v8) (by rfl) (Fr.rf _ _)))) (Fr.rf _ _)))
theorem ux_get (s : SG) (s_ : Int32) (form : Int32) (i : Int32)  : UP m_X7_get 0 (m_ent 5 [.ref 123, .int s_, .int form, .int i]) [] s (Qb (F_get s s_ form i)) := by
  refine UP.stp 1 (i1 := 1) (L1 := [some (.ref 123), some (.int s_), some (.int form), some (.int i), none]) (st1 := [.int s_]) (s1 := s) rfl ?_
  refine UP.cI (M1 := m_X7_isSheet) (as := [.int s_]) (rest := []) (T := F_isSheet s s_) rfl rfl (ux_isSheet s s_) ?_
  refine UP.spl (m_cmp .eq (F_isSheet s s_) 0) (((-2147483648), s)) (bif m_cmp .ne (F_in s form 0 2) 0 then (let v8 := F_lacks s s_ form i; bif m_cmp .le v8 0 then ((s 151 (((60 * s_) + i).toNatClampNeg), s)) else (((-2147483648), (uset s 123 46 v8)))) else (((-2147483648), s))) (by rfl) (fun cc => ?_) (fun cc => ?_)
  · skip
    refine UP.ifT rfl cc ?_
    refine UP.stp 1 (i1 := 9) (L1 := [some (.ref 123), some (.int s_), some (.int form), some (.int i), none]) (st1 := [.int (-2147483648)]) (s1 := s) rfl ?_
    exact UP.ret (r := some (.int (-2147483648))) rfl ⟨by rfl, by rfl⟩
  · skip
    refine UP.ifF rfl cc ?_
    refine UP.stp 3 (i1 := 6) (L1 := [some (.ref 123), some (.int s_), some (.int form), some (.int i), none]) (st1 := [.int 2, .int 0, .int form]) (s1 := s) rfl ?_
    refine UP.cI (M1 := m_X7_in) (as := [.int form, .int 0, .int 2]) (rest := []) (T := F_in s form 0 2) rfl rfl (ux_in s form 0 2) ?_
    refine UP.spl (m_cmp .ne (F_in s form 0 2) 0) (let v8 := F_lacks s s_ form i; bif m_cmp .le v8 0 then ((s 151 (((60 * s_) + i).toNatClampNeg), s)) else (((-2147483648), (uset s 123 46 v8)))) (((-2147483648), s)) (by rfl) (fun cc => ?_) (fun cc => ?_)
    · skip
      refine UP.ifT rfl cc ?_
      refine UP.stp 4 (i1 := 14) (L1 := [some (.ref 123), some (.int s_), some (.int form), some (.int i), none]) (st1 := [.int i, .int form, .int s_, .ref 123]) (s1 := s) rfl ?_
      refine UP.cI (M1 := m_X7_lacks) (as := [.ref 123, .int s_, .int form, .int i]) (rest := []) (T := F_lacks s s_ form i) rfl rfl (ux_lacks s s_ form i) ?_
      refine nm (G := fun v8 => UP m_X7_get 15 [some (.ref 123), some (.int s_), some (.int form), some (.int i), none] [.int v8] s (Qb (let v8 := F_lacks s s_ form i; bif m_cmp .le v8 0 then ((s 151 (((60 * s_) + i).toNatClampNeg), s)) else (((-2147483648), (uset s 123 46 v8)))))) (F_lacks s s_ form i) (fun v8 e8 => ?_)
      refine UP.stp 2 (i1 := 17) (L1 := [some (.ref 123), some (.int s_), some (.int form), some (.int i), some (.int v8)]) (st1 := [.int v8]) (s1 := s) rfl ?_
      refine UP.spl (m_cmp .le v8 0) ((s 151 (((60 * s_) + i).toNatClampNeg), s)) (((-2147483648), (uset s 123 46 v8))) (by subst e8; rfl) (fun cc => ?_) (fun cc => ?_)
      · skip
        refine UP.ifT rfl cc ?_
        refine UP.stp 8 (i1 := 31) (L1 := [some (.ref 123), some (.int s_), some (.int form), some (.int i), some (.int v8)]) (st1 := [.int (s 151 (((60 * s_) + i).toNatClampNeg))]) (s1 := s) rfl ?_
        exact UP.ret (r := some (.int (s 151 (((60 * s_) + i).toNatClampNeg)))) rfl ⟨by subst e8; rfl, by subst e8; rfl⟩
      · skip
        refine UP.ifF rfl cc ?_
        refine UP.stp 4 (i1 := 22) (L1 := [some (.ref 123), some (.int s_), some (.int form), some (.int i), some (.int v8)]) (st1 := [.int (-2147483648)]) (s1 := (uset s 123 46 v8)) rfl ?_
        exact UP.ret (r := some (.int (-2147483648))) rfl ⟨by subst e8; rfl, by subst e8; rfl⟩
    · skip
      refine UP.ifF rfl cc ?_
      refine UP.stp 1 (i1 := 9) (L1 := [some (.ref 123), some (.int s_), some (.int form), some (.int i), none]) (st1 := [.int (-2147483648)]) (s1 := s) rfl ?_
      exact UP.ret (r := some (.int (-2147483648))) rfl ⟨by rfl, by rfl⟩
