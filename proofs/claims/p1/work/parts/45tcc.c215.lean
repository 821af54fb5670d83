def W_tellHome : List (Nat × Nat × Option Nat) := [(0, 0, some 12), (0, 0, some 13), (10, 10, some 6)]
def F_tellHome (s : SG) (v : Int32) : Int32 × SG := bif m_cmp .lt v 50 then (((-2), s)) else (bif m_cmp .le v 999 then (let v5 := s 10 6; let z6 := F_mark (uset s 10 6 v) ; (v5, z6)) else (((-2), s)))
set_option maxRecDepth 20000 in
set_option maxHeartbeats 200000 in
theorem fr_tellHome (s : SG) (v : Int32)  : Fr W_tellHome s (F_tellHome s v).2 := by dsimp only [F_tellHome]; exact (Fr.bifp (b := m_cmp .lt v 50) (x := ((-2), s)) (y := bif m_cmp .le v 999 then (let v5 := s 10 6; let z6 := F_mark (uset s 10 6 v) ; (v5, z6)) else (((-2), s))) (fun x : Int32 × SG => x.2) (by (try dsimp only); exact (Fr.rf _ _)) (by (try dsimp only); exact (Fr.bifp (b := m_cmp .le v 999) (x := let v5 := s 10 6; let z6 := F_mark (uset s 10 6 v) ; (v5, z6)) (y := ((-2), s)) (fun x : Int32 × SG => x.2) (by (try dsimp only); exact (Fr.tr (s1 := (uset s 10 6 v)) (Fr.uset (s1 := s) (a := 10) (j := 6) (x := v) (by rfl) (Fr.rf _ _)) (Fr.wk (W2 := W_tellHome) (fr_mark (uset s 10 6 v) ) (by rfl)))) (by (try dsimp only); exact (Fr.rf _ _)))))
set_option maxRecDepth 20000 in
set_option maxHeartbeats 200000 in
theorem ux_tellHome (s : SG) (v : Int32)  : UP m_X6_tellHome 0 (m_ent 3 [.ref 0, .int v]) [] s (Qb (F_tellHome s v)) := by
  refine UP.stp 2 (i1 := 2) (L1 := [some (.ref 0), some (.int v), none]) (st1 := [.int 50, .int v]) (s1 := s) rfl ?_
  refine UP.spl (m_cmp .lt v 50) (((-2), s)) (bif m_cmp .le v 999 then (let v5 := s 10 6; let z6 := F_mark (uset s 10 6 v) ; (v5, z6)) else (((-2), s))) (by first | (dsimp only [F_tellHome]; done) | (dsimp only; done) | rfl) (fun cc => ?_) (fun cc => ?_)
  · skip
    refine UP.icT rfl cc ?_
    refine UP.stp 1 (i1 := 7) (L1 := [some (.ref 0), some (.int v), none]) (st1 := [.int (-2)]) (s1 := s) rfl ?_
    exact UP.ret (r := some (.int (-2))) rfl ⟨by first | (dsimp only [F_tellHome]; done) | (dsimp only; done) | rfl, by first | (dsimp only [F_tellHome]; done) | (dsimp only; done) | rfl⟩
  · skip
    refine UP.icF rfl cc ?_
    refine UP.stp 2 (i1 := 5) (L1 := [some (.ref 0), some (.int v), none]) (st1 := [.int 999, .int v]) (s1 := s) rfl ?_
    refine UP.spl (m_cmp .le v 999) (let v5 := s 10 6; let z6 := F_mark (uset s 10 6 v) ; (v5, z6)) (((-2), s)) (by first | (dsimp only [F_tellHome]; done) | (dsimp only; done) | rfl) (fun cc => ?_) (fun cc => ?_)
    · skip
      refine UP.icT rfl cc ?_
      refine UP.stp 3 (i1 := 11) (L1 := [some (.ref 0), some (.int v), none]) (st1 := [.int (s 10 6)]) (s1 := s) rfl ?_
      refine nm (G := fun v5 => UP m_X6_tellHome 11 [some (.ref 0), some (.int v), none] [.int v5] s (Qb (let v5 := s 10 6; let z6 := F_mark (uset s 10 6 v) ; (v5, z6)))) (s 10 6) (fun v5 e5 => ?_)
      refine UP.stp 6 (i1 := 17) (L1 := [some (.ref 0), some (.int v), some (.int v5)]) (st1 := [.ref 0]) (s1 := (uset s 10 6 v)) rfl ?_
      refine UP.cV (M1 := m_X6_markChanged) (as := [.ref 0]) (rest := []) (T := F_mark (uset s 10 6 v) ) rfl rfl (ux_mark (uset s 10 6 v) ) (fun z6 e6 => ?_)
      refine UP.stp 1 (i1 := 19) (L1 := [some (.ref 0), some (.int v), some (.int v5)]) (st1 := [.int v5]) (s1 := z6) rfl ?_
      exact UP.ret (r := some (.int v5)) rfl ⟨by subst e6 e5; first | (dsimp only [F_tellHome]; done) | (dsimp only; done) | rfl, by subst e6 e5; first | (dsimp only [F_tellHome]; done) | (dsimp only; done) | rfl⟩
    · skip
      refine UP.icF rfl cc ?_
      refine UP.stp 1 (i1 := 7) (L1 := [some (.ref 0), some (.int v), none]) (st1 := [.int (-2)]) (s1 := s) rfl ?_
      exact UP.ret (r := some (.int (-2))) rfl ⟨by first | (dsimp only [F_tellHome]; done) | (dsimp only; done) | rfl, by first | (dsimp only [F_tellHome]; done) | (dsimp only; done) | rfl⟩
def W_criver : List (Nat × Nat × Option Nat) := [(0, 0, some 12), (0, 0, some 13), (10, 10, some 5), (10, 10, some 6)]
def F_criver (s : SG) (what : Int32) (v : Int32) : Int32 × SG := bif m_cmp .ne what 0 then (let w4 := bif m_cmp .ne what 1 then ((-2 : Int32), s) else (F_tellHome s v); w4) else (let z5 := F_tellStream s v; z5)
set_option maxRecDepth 20000 in
set_option maxHeartbeats 200000 in
theorem fr_criver (s : SG) (what : Int32) (v : Int32)  : Fr W_criver s (F_criver s what v).2 := by dsimp only [F_criver]; exact (Fr.bifp (b := m_cmp .ne what 0) (x := let w4 := bif m_cmp .ne what 1 then ((-2 : Int32), s) else (F_tellHome s v); w4) (y := let z5 := F_tellStream s v; z5) (fun x : Int32 × SG => x.2) (by (try dsimp only); exact (Fr.bifp (b := m_cmp .ne what 1) (x := ((-2 : Int32), s)) (y := (F_tellHome s v)) (fun x : Int32 × SG => x.2) (by (try dsimp only); exact (Fr.rf _ _)) (by (try dsimp only); exact (Fr.tr (s1 := s) (Fr.rf _ _) (Fr.wk (W2 := W_criver) (fr_tellHome s v) (by rfl)))))) (by (try dsimp only); exact (Fr.tr (s1 := s) (Fr.rf _ _) (Fr.wk (W2 := W_criver) (fr_tellStream s v) (by rfl)))))
set_option maxRecDepth 20000 in
set_option maxHeartbeats 200000 in
theorem ux_criver (s : SG) (what : Int32) (v : Int32)  : UP m_X6_river 0 (m_ent 3 [.ref 0, .int what, .int v]) [] s (Qb (F_criver s what v)) := by
  refine UP.stp 1 (i1 := 1) (L1 := [some (.ref 0), some (.int what), some (.int v)]) (st1 := [.int what]) (s1 := s) rfl ?_
  refine UP.spl (m_cmp .ne what 0) (let w4 := bif m_cmp .ne what 1 then ((-2 : Int32), s) else (F_tellHome s v); w4) (let z5 := F_tellStream s v; z5) (by first | (dsimp only [F_criver]; done) | (dsimp only; done) | rfl) (fun cc => ?_) (fun cc => ?_)
  · skip
    refine UP.ifT rfl cc ?_
    refine UP.stp 2 (i1 := 8) (L1 := [some (.ref 0), some (.int what), some (.int v)]) (st1 := [.int 1, .int what]) (s1 := s) rfl ?_
    refine mrg (m_cmp .ne what 1) ((-2 : Int32), s) (F_tellHome s v) (fun w4 : Int32 × SG => UP m_X6_river 14 [some (.ref 0), some (.int what), some (.int v)] [.int w4.1] w4.2 (Qb (let w4 := bif m_cmp .ne what 1 then ((-2 : Int32), s) else (F_tellHome s v); w4))) (fun cc kk => ?_) (fun cc kk => ?_) (fun w4 e4 => ?_)
    · skip
      refine UP.icT rfl cc ?_
      refine UP.stp 1 (i1 := 14) (L1 := [some (.ref 0), some (.int what), some (.int v)]) (st1 := [.int (-2)]) (s1 := s) rfl ?_
      exact kk
    · skip
      refine UP.icF rfl cc ?_
      refine UP.stp 2 (i1 := 11) (L1 := [some (.ref 0), some (.int what), some (.int v)]) (st1 := [.int v, .ref 0]) (s1 := s) rfl ?_
      refine UP.cB (M1 := m_X6_tellHome) (as := [.ref 0, .int v]) (rest := []) (T := F_tellHome s v) rfl rfl (ux_tellHome s v) (fun z3 e3 => ?_)
      refine UP.stp 1 (i1 := 14) (L1 := [some (.ref 0), some (.int what), some (.int v)]) (st1 := [.int z3.1]) (s1 := z3.2) rfl ?_
      subst e3
      exact kk
    exact UP.ret (r := some (.int w4.1)) rfl ⟨by subst e4; first | (dsimp only [F_criver]; done) | (dsimp only; done) | rfl, by subst e4; first | (dsimp only [F_criver]; done) | (dsimp only; done) | rfl⟩
  · skip
    refine UP.ifF rfl cc ?_
    refine UP.stp 2 (i1 := 4) (L1 := [some (.ref 0), some (.int what), some (.int v)]) (st1 := [.int v, .ref 0]) (s1 := s) rfl ?_
    refine UP.cB (M1 := m_X6_tellStream) (as := [.ref 0, .int v]) (rest := []) (T := F_tellStream s v) rfl rfl (ux_tellStream s v) (fun z5 e5 => ?_)
    exact UP.ret (r := some (.int z5.1)) rfl ⟨by subst e5; first | (dsimp only [F_criver]; done) | (dsimp only; done) | rfl, by subst e5; first | (dsimp only [F_criver]; done) | (dsimp only; done) | rfl⟩
def W_append : List (Nat × Nat × Option Nat) := [(3, 5, none), (2, 2, some 3)]
def F_append (s : SG) (k : Int32) (mi : Int32) (nu : Int32) : SG := let v1 := (s 2 3) + 1; (uset (uset (uset (uset s 3 ((s 2 3).toNatClampNeg) k) 4 ((s 2 3).toNatClampNeg) mi) 5 ((s 2 3).toNatClampNeg) nu) 2 3 v1)
set_option maxRecDepth 20000 in
set_option maxHeartbeats 200000 in
theorem fr_append (s : SG) (k : Int32) (mi : Int32) (nu : Int32)  : Fr W_append s (F_append s k mi nu) := by dsimp only [F_append]; exact (let v1 : Int32 := (s 2 3) + 1; (Fr.uset (s1 := (uset (uset (uset s 3 ((s 2 3).toNatClampNeg) k) 4 ((s 2 3).toNatClampNeg) mi) 5 ((s 2 3).toNatClampNeg) nu)) (a := 2) (j := 3) (x := v1) (by rfl) (Fr.uset (s1 := (uset (uset s 3 ((s 2 3).toNatClampNeg) k) 4 ((s 2 3).toNatClampNeg) mi)) (a := 5) (j := (s 2 3).toNatClampNeg) (x := nu) (by rfl) (Fr.uset (s1 := (uset s 3 ((s 2 3).toNatClampNeg) k)) (a := 4) (j := (s 2 3).toNatClampNeg) (x := mi) (by rfl) (Fr.uset (s1 := s) (a := 3) (j := (s 2 3).toNatClampNeg) (x := k) (by rfl) (Fr.rf _ _))))))
set_option maxRecDepth 20000 in
set_option maxHeartbeats 200000 in
theorem ux_append (s : SG) (k : Int32) (mi : Int32) (nu : Int32)  : UP m_X1_append 0 (m_ent 4 [.ref 2, .int k, .int mi, .int nu]) [] s (Qv (F_append s k mi nu)) := by
  refine UP.stp 23 (i1 := 23) (L1 := [some (.ref 2), some (.int k), some (.int mi), some (.int nu)]) (st1 := [.int ((s 2 3) + 1), .ref 2]) (s1 := (uset (uset (uset s 3 ((s 2 3).toNatClampNeg) k) 4 ((s 2 3).toNatClampNeg) mi) 5 ((s 2 3).toNatClampNeg) nu)) rfl ?_
  refine nm (G := fun v1 => UP m_X1_append 23 [some (.ref 2), some (.int k), some (.int mi), some (.int nu)] [.int v1, .ref 2] (uset (uset (uset s 3 ((s 2 3).toNatClampNeg) k) 4 ((s 2 3).toNatClampNeg) mi) 5 ((s 2 3).toNatClampNeg) nu) (Qv (F_append s k mi nu))) ((s 2 3) + 1) (fun v1 e1 => ?_)
  refine UP.stp 1 (i1 := 24) (L1 := [some (.ref 2), some (.int k), some (.int mi), some (.int nu)]) (st1 := []) (s1 := (uset (uset (uset (uset s 3 ((s 2 3).toNatClampNeg) k) 4 ((s 2 3).toNatClampNeg) mi) 5 ((s 2 3).toNatClampNeg) nu) 2 3 v1)) rfl ?_
  exact UP.ret (r := none) rfl ⟨by subst e1; first | (dsimp only [F_append]; done) | (dsimp only; done) | rfl, by subst e1; first | (dsimp only [F_append]; done) | (dsimp only; done) | rfl⟩
