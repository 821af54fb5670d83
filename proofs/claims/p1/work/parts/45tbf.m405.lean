def W_lose : List (Nat × Nat × Option Nat) := [(148, 148, none), (123, 123, some 46)]
def F_lose (s : SG) (s_ : Int32) : Int32 × SG := bif m_cmp .ne (F_isSheet s s_) 0 then (bif m_cmp .ne (s 148 s_.toNatClampNeg) 0 then ((s 150 s_.toNatClampNeg, (uset s 148 s_.toNatClampNeg 0))) else (let z6 := F_meets s 1; z6)) else (((-2), s))
set_option maxRecDepth 20000 in
set_option maxHeartbeats 200000 in
theorem fr_lose (s : SG) (s_ : Int32)  : Fr W_lose s (F_lose s s_).2 := by dsimp only [F_lose]; exact (Fr.bifp (b := m_cmp .ne (F_isSheet s s_) 0) (x := bif m_cmp .ne (s 148 s_.toNatClampNeg) 0 then ((s 150 s_.toNatClampNeg, (uset s 148 s_.toNatClampNeg 0))) else (let z6 := F_meets s 1; z6)) (y := ((-2), s)) (fun x : Int32 × SG => x.2) (by (try dsimp only); exact (Fr.bifp (b := m_cmp .ne (s 148 s_.toNatClampNeg) 0) (x := (s 150 s_.toNatClampNeg, (uset s 148 s_.toNatClampNeg 0))) (y := let z6 := F_meets s 1; z6) (fun x : Int32 × SG => x.2) (by (try dsimp only); exact (Fr.uset (s1 := s) (a := 148) (j := s_.toNatClampNeg) (x := 0) (by rfl) (Fr.rf _ _))) (by (try dsimp only); exact (Fr.tr (s1 := s) (Fr.rf _ _) (Fr.wk (W2 := W_lose) (fr_meets s 1) (by rfl)))))) (by (try dsimp only); exact (Fr.rf _ _)))
set_option maxRecDepth 20000 in
set_option maxHeartbeats 200000 in
theorem ux_lose (s : SG) (s_ : Int32)  : UP m_X7_lose 0 (m_ent 2 [.ref 123, .int s_]) [] s (Qb (F_lose s s_)) := by
  refine UP.stp 1 (i1 := 1) (L1 := [some (.ref 123), some (.int s_)]) (st1 := [.int s_]) (s1 := s) rfl ?_
  refine UP.cI (M1 := m_X7_isSheet) (as := [.int s_]) (rest := []) (T := F_isSheet s s_) rfl rfl (ux_isSheet s s_) ?_
  refine UP.spl (m_cmp .ne (F_isSheet s s_) 0) (bif m_cmp .ne (s 148 s_.toNatClampNeg) 0 then ((s 150 s_.toNatClampNeg, (uset s 148 s_.toNatClampNeg 0))) else (let z6 := F_meets s 1; z6)) (((-2), s)) (by first | (dsimp only [F_lose]; done) | (dsimp only; done) | rfl) (fun cc => ?_) (fun cc => ?_)
  · skip
    refine UP.ifT rfl cc ?_
    refine UP.stp 4 (i1 := 9) (L1 := [some (.ref 123), some (.int s_)]) (st1 := [.int (s 148 s_.toNatClampNeg)]) (s1 := s) rfl ?_
    refine UP.spl (m_cmp .ne (s 148 s_.toNatClampNeg) 0) ((s 150 s_.toNatClampNeg, (uset s 148 s_.toNatClampNeg 0))) (let z6 := F_meets s 1; z6) (by first | (dsimp only [F_lose]; done) | (dsimp only; done) | rfl) (fun cc => ?_) (fun cc => ?_)
    · skip
      refine UP.ifT rfl cc ?_
      refine UP.stp 9 (i1 := 23) (L1 := [some (.ref 123), some (.int s_)]) (st1 := [.int (s 150 s_.toNatClampNeg)]) (s1 := (uset s 148 s_.toNatClampNeg 0)) rfl ?_
      exact UP.ret (r := some (.int (s 150 s_.toNatClampNeg))) rfl ⟨by first | (dsimp only [F_lose]; done) | (dsimp only; done) | rfl, by first | (dsimp only [F_lose]; done) | (dsimp only; done) | rfl⟩
    · skip
      refine UP.ifF rfl cc ?_
      refine UP.stp 2 (i1 := 12) (L1 := [some (.ref 123), some (.int s_)]) (st1 := [.int 1, .ref 123]) (s1 := s) rfl ?_
      refine UP.cB (M1 := m_X7_meets) (as := [.ref 123, .int 1]) (rest := []) (T := F_meets s 1) rfl rfl (ux_meets s 1) (fun z6 e6 => ?_)
      exact UP.ret (r := some (.int z6.1)) rfl ⟨by subst e6; first | (dsimp only [F_lose]; done) | (dsimp only; done) | rfl, by subst e6; first | (dsimp only [F_lose]; done) | (dsimp only; done) | rfl⟩
  · skip
    refine UP.ifF rfl cc ?_
    refine UP.stp 1 (i1 := 4) (L1 := [some (.ref 123), some (.int s_)]) (st1 := [.int (-2)]) (s1 := s) rfl ?_
    exact UP.ret (r := some (.int (-2))) rfl ⟨by first | (dsimp only [F_lose]; done) | (dsimp only; done) | rfl, by first | (dsimp only [F_lose]; done) | (dsimp only; done) | rfl⟩
def W_lacks : List (Nat × Nat × Option Nat) := []
def F_lacks (s : SG) (s_ : Int32) (form : Int32) (i : Int32) : Int32 := let v4 := bif m_cmp .ne (s 148 s_.toNatClampNeg) 0 then (bif m_cmp .eq (s 149 s_.toNatClampNeg) form then (bif m_cmp .eq (F_in s i 0 ((s 150 s_.toNatClampNeg) - 1)) 0 then (2 : Int32) else (0 : Int32)) else (3 : Int32)) else (1 : Int32); v4
set_option maxRecDepth 20000 in
set_option maxHeartbeats 200000 in
theorem ux_lacks (s : SG) (s_ : Int32) (form : Int32) (i : Int32)  : UP m_X7_lacks 0 (m_ent 4 [.ref 123, .int s_, .int form, .int i]) [] s (Qi s (F_lacks s s_ form i)) := by
  refine UP.stp 4 (i1 := 4) (L1 := [some (.ref 123), some (.int s_), some (.int form), some (.int i)]) (st1 := [.int (s 148 s_.toNatClampNeg)]) (s1 := s) rfl ?_
  refine mrg (m_cmp .ne (s 148 s_.toNatClampNeg) 0) (bif m_cmp .eq (s 149 s_.toNatClampNeg) form then (bif m_cmp .eq (F_in s i 0 ((s 150 s_.toNatClampNeg) - 1)) 0 then (2 : Int32) else (0 : Int32)) else (3 : Int32)) (1 : Int32) (fun v4 : Int32 => UP m_X7_lacks 28 [some (.ref 123), some (.int s_), some (.int form), some (.int i)] [.int v4] s (Qi s (F_lacks s s_ form i))) (fun cc kk => ?_) (fun cc kk => ?_) (fun v4 e4 => ?_)
  · skip
    refine UP.ifT rfl cc ?_
    refine UP.stp 5 (i1 := 12) (L1 := [some (.ref 123), some (.int s_), some (.int form), some (.int i)]) (st1 := [.int form, .int (s 149 s_.toNatClampNeg)]) (s1 := s) rfl ?_
    refine mrg (m_cmp .eq (s 149 s_.toNatClampNeg) form) (bif m_cmp .eq (F_in s i 0 ((s 150 s_.toNatClampNeg) - 1)) 0 then (2 : Int32) else (0 : Int32)) (3 : Int32) (fun v3 : Int32 => UP m_X7_lacks 28 [some (.ref 123), some (.int s_), some (.int form), some (.int i)] [.int v3] s (Qi s (F_lacks s s_ form i))) (fun cc kk => ?_) (fun cc kk => ?_) (fun v3 e3 => ?_)
    · skip
      refine UP.icT rfl cc ?_
      refine UP.stp 8 (i1 := 23) (L1 := [some (.ref 123), some (.int s_), some (.int form), some (.int i)]) (st1 := [.int ((s 150 s_.toNatClampNeg) - 1), .int 0, .int i]) (s1 := s) rfl ?_
      refine UP.cI (M1 := m_X7_in) (as := [.int i, .int 0, .int ((s 150 s_.toNatClampNeg) - 1)]) (rest := []) (T := F_in s i 0 ((s 150 s_.toNatClampNeg) - 1)) rfl rfl (ux_in s i 0 ((s 150 s_.toNatClampNeg) - 1)) ?_
      refine mrg (m_cmp .eq (F_in s i 0 ((s 150 s_.toNatClampNeg) - 1)) 0) (2 : Int32) (0 : Int32) (fun v2 : Int32 => UP m_X7_lacks 28 [some (.ref 123), some (.int s_), some (.int form), some (.int i)] [.int v2] s (Qi s (F_lacks s s_ form i))) (fun cc kk => ?_) (fun cc kk => ?_) (fun v2 e2 => ?_)
      · skip
        refine UP.ifT rfl cc ?_
        refine UP.stp 1 (i1 := 28) (L1 := [some (.ref 123), some (.int s_), some (.int form), some (.int i)]) (st1 := [.int 2]) (s1 := s) rfl ?_
        exact kk
      · skip
        refine UP.ifF rfl cc ?_
        refine UP.stp 2 (i1 := 28) (L1 := [some (.ref 123), some (.int s_), some (.int form), some (.int i)]) (st1 := [.int 0]) (s1 := s) rfl ?_
        exact kk
      subst e2
      exact kk
    · skip
      refine UP.icF rfl cc ?_
      refine UP.stp 2 (i1 := 28) (L1 := [some (.ref 123), some (.int s_), some (.int form), some (.int i)]) (st1 := [.int 3]) (s1 := s) rfl ?_
      exact kk
    subst e3
    exact kk
  · skip
    refine UP.ifF rfl cc ?_
    refine UP.stp 2 (i1 := 28) (L1 := [some (.ref 123), some (.int s_), some (.int form), some (.int i)]) (st1 := [.int 1]) (s1 := s) rfl ?_
    exact kk
  exact UP.ret (r := some (.int v4)) rfl ⟨by subst e4; first | (dsimp only [F_lacks]; done) | (dsimp only; done) | rfl, by subst e4; first | (dsimp only [F_lacks]; done) | (dsimp only; done) | rfl⟩
def W_keep : List (Nat × Nat × Option Nat) := [(151, 151, none)]
def F_keep (s : SG) (s_ : Int32) (i : Int32) (v : Int32) : SG := let v2 := bif m_cmp .ne (s 149 s_.toNatClampNeg) 0 then (bif m_cmp .ne (s 149 s_.toNatClampNeg) 1 then v else v.toInt16.toInt32) else v.toInt8.toInt32; (uset s 151 (((60 * s_) + i).toNatClampNeg) v2)
set_option maxRecDepth 20000 in
set_option maxHeartbeats 200000 in
theorem fr_keep (s : SG) (s_ : Int32) (i : Int32) (v : Int32)  : Fr W_keep s (F_keep s s_ i v) := by dsimp only [F_keep]; exact (let v2 : Int32 := bif m_cmp .ne (s 149 s_.toNatClampNeg) 0 then (bif m_cmp .ne (s 149 s_.toNatClampNeg) 1 then v else v.toInt16.toInt32) else v.toInt8.toInt32; (Fr.uset (s1 := s) (a := 151) (j := ((60 * s_) + i).toNatClampNeg) (x := v2) (by rfl) (Fr.rf _ _)))
set_option maxRecDepth 20000 in
set_option maxHeartbeats 200000 in
theorem ux_keep (s : SG) (s_ : Int32) (i : Int32) (v : Int32)  : UP m_X7_keep 0 (m_ent 4 [.ref 123, .int s_, .int i, .int v]) [] s (Qv (F_keep s s_ i v)) := by
  refine UP.stp 11 (i1 := 11) (L1 := [some (.ref 123), some (.int s_), some (.int i), some (.int v)]) (st1 := [.int (s 149 s_.toNatClampNeg), .int ((60 * s_) + i), .ref 151]) (s1 := s) rfl ?_
  refine mrg (m_cmp .ne (s 149 s_.toNatClampNeg) 0) (bif m_cmp .ne (s 149 s_.toNatClampNeg) 1 then v else v.toInt16.toInt32) v.toInt8.toInt32 (fun v2 : Int32 => UP m_X7_keep 25 [some (.ref 123), some (.int s_), some (.int i), some (.int v)] [.int v2, .int ((60 * s_) + i), .ref 151] s (Qv (F_keep s s_ i v))) (fun cc kk => ?_) (fun cc kk => ?_) (fun v2 e2 => ?_)
  · skip
    refine UP.ifT rfl cc ?_
    refine UP.stp 5 (i1 := 20) (L1 := [some (.ref 123), some (.int s_), some (.int i), some (.int v)]) (st1 := [.int 1, .int (s 149 s_.toNatClampNeg), .int ((60 * s_) + i), .ref 151]) (s1 := s) rfl ?_
    refine mrg (m_cmp .ne (s 149 s_.toNatClampNeg) 1) v v.toInt16.toInt32 (fun v1 : Int32 => UP m_X7_keep 25 [some (.ref 123), some (.int s_), some (.int i), some (.int v)] [.int v1, .int ((60 * s_) + i), .ref 151] s (Qv (F_keep s s_ i v))) (fun cc kk => ?_) (fun cc kk => ?_) (fun v1 e1 => ?_)
    · skip
      refine UP.icT rfl cc ?_
      refine UP.stp 1 (i1 := 25) (L1 := [some (.ref 123), some (.int s_), some (.int i), some (.int v)]) (st1 := [.int v, .int ((60 * s_) + i), .ref 151]) (s1 := s) rfl ?_
      exact kk
    · skip
      refine UP.icF rfl cc ?_
      refine UP.stp 3 (i1 := 25) (L1 := [some (.ref 123), some (.int s_), some (.int i), some (.int v)]) (st1 := [.int v.toInt16.toInt32, .int ((60 * s_) + i), .ref 151]) (s1 := s) rfl ?_
      exact kk
    subst e1
    exact kk
  · skip
    refine UP.ifF rfl cc ?_
    refine UP.stp 3 (i1 := 25) (L1 := [some (.ref 123), some (.int s_), some (.int i), some (.int v)]) (st1 := [.int v.toInt8.toInt32, .int ((60 * s_) + i), .ref 151]) (s1 := s) rfl ?_
    exact kk
  refine UP.stp 1 (i1 := 26) (L1 := [some (.ref 123), some (.int s_), some (.int i), some (.int v)]) (st1 := []) (s1 := (uset s 151 (((60 * s_) + i).toNatClampNeg) v2)) rfl ?_
  exact UP.ret (r := none) rfl ⟨by subst e2; first | (dsimp only [F_keep]; done) | (dsimp only; done) | rfl, by subst e2; first | (dsimp only [F_keep]; done) | (dsimp only; done) | rfl⟩
