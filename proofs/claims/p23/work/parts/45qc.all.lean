section
/-! the model: reading, as functions (printed by wip/u/mk_m2.py) -/
def W_in : List (Nat × Nat × Option Nat) := []
def F_in (s : SG) (v : Int32) (lo : Int32) (hi : Int32) : Int32 := let v2 := bif m_cmp .lt v lo then (0 : Int32) else (bif m_cmp .gt v hi then (0 : Int32) else (1 : Int32)); v2
set_option maxRecDepth 20000 in
set_option maxHeartbeats 200000 in
theorem ux_in (s : SG) (v : Int32) (lo : Int32) (hi : Int32)  : UP m_X7_in 0 (m_ent 3 [.int v, .int lo, .int hi]) [] s (Qi s (F_in s v lo hi)) := by
  refine UP.stp 2 (i1 := 2) (L1 := [some (.int v), some (.int lo), some (.int hi)]) (st1 := [.int lo, .int v]) (s1 := s) rfl ?_
  refine mrg (m_cmp .lt v lo) (0 : Int32) (bif m_cmp .gt v hi then (0 : Int32) else (1 : Int32)) (fun v2 : Int32 => UP m_X7_in 9 [some (.int v), some (.int lo), some (.int hi)] [.int v2] s (Qi s (F_in s v lo hi))) (fun cc kk => ?_) (fun cc kk => ?_) (fun v2 e2 => ?_)
  · skip
    refine UP.icT rfl cc ?_
    refine UP.stp 1 (i1 := 9) (L1 := [some (.int v), some (.int lo), some (.int hi)]) (st1 := [.int 0]) (s1 := s) rfl ?_
    exact kk
  · skip
    refine UP.icF rfl cc ?_
    refine UP.stp 2 (i1 := 5) (L1 := [some (.int v), some (.int lo), some (.int hi)]) (st1 := [.int hi, .int v]) (s1 := s) rfl ?_
    refine mrg (m_cmp .gt v hi) (0 : Int32) (1 : Int32) (fun v1 : Int32 => UP m_X7_in 9 [some (.int v), some (.int lo), some (.int hi)] [.int v1] s (Qi s (F_in s v lo hi))) (fun cc kk => ?_) (fun cc kk => ?_) (fun v1 e1 => ?_)
    · skip
      refine UP.icT rfl cc ?_
      refine UP.stp 1 (i1 := 9) (L1 := [some (.int v), some (.int lo), some (.int hi)]) (st1 := [.int 0]) (s1 := s) rfl ?_
      exact kk
    · skip
      refine UP.icF rfl cc ?_
      refine UP.stp 2 (i1 := 9) (L1 := [some (.int v), some (.int lo), some (.int hi)]) (st1 := [.int 1]) (s1 := s) rfl ?_
      exact kk
    subst e1
    exact kk
  exact UP.ret (r := some (.int v2)) rfl ⟨by subst e2; first | (dsimp only [F_in]; done) | (dsimp only; done) | rfl, by subst e2; first | (dsimp only [F_in]; done) | (dsimp only; done) | rfl⟩
def W_byteAt_0 : List (Nat × Nat × Option Nat) := []
def F_byteAt_0 (s : SG) (k : Int32) : Int32 := let v1 := bif m_cmp .ge k (s 124 0) then (-1 : Int32) else s 125 (((24 * 0) + k).toNatClampNeg); v1
set_option maxRecDepth 20000 in
set_option maxHeartbeats 200000 in
theorem ux_byteAt_0 (s : SG) (k : Int32)  : UP m_X7_byteAt 0 (m_ent 3 [.ref 123, .int 0, .int k]) [] s (Qi s (F_byteAt_0 s k)) := by
  refine UP.stp 5 (i1 := 5) (L1 := [some (.ref 123), some (.int 0), some (.int k)]) (st1 := [.int (s 124 0), .int k]) (s1 := s) rfl ?_
  refine mrg (m_cmp .ge k (s 124 0)) (-1 : Int32) (s 125 (((24 * 0) + k).toNatClampNeg)) (fun v1 : Int32 => UP m_X7_byteAt 16 [some (.ref 123), some (.int 0), some (.int k)] [.int v1] s (Qi s (F_byteAt_0 s k))) (fun cc kk => ?_) (fun cc kk => ?_) (fun v1 e1 => ?_)
  · skip
    refine UP.icT rfl cc ?_
    refine UP.stp 1 (i1 := 16) (L1 := [some (.ref 123), some (.int 0), some (.int k)]) (st1 := [.int (-1)]) (s1 := s) rfl ?_
    exact kk
  · skip
    refine UP.icF rfl cc ?_
    refine UP.stp 9 (i1 := 16) (L1 := [some (.ref 123), some (.int 0), some (.int k)]) (st1 := [.int (s 125 (((24 * 0) + k).toNatClampNeg))]) (s1 := s) rfl ?_
    exact kk
  exact UP.ret (r := some (.int v1)) rfl ⟨by subst e1; first | (dsimp only [F_byteAt_0]; done) | (dsimp only; done) | rfl, by subst e1; first | (dsimp only [F_byteAt_0]; done) | (dsimp only; done) | rfl⟩
def W_byteAt_1 : List (Nat × Nat × Option Nat) := []
def F_byteAt_1 (s : SG) (k : Int32) : Int32 := let v1 := bif m_cmp .ge k (s 124 1) then (-1 : Int32) else s 125 (((24 * 1) + k).toNatClampNeg); v1
set_option maxRecDepth 20000 in
set_option maxHeartbeats 200000 in
theorem ux_byteAt_1 (s : SG) (k : Int32)  : UP m_X7_byteAt 0 (m_ent 3 [.ref 123, .int 1, .int k]) [] s (Qi s (F_byteAt_1 s k)) := by
  refine UP.stp 5 (i1 := 5) (L1 := [some (.ref 123), some (.int 1), some (.int k)]) (st1 := [.int (s 124 1), .int k]) (s1 := s) rfl ?_
  refine mrg (m_cmp .ge k (s 124 1)) (-1 : Int32) (s 125 (((24 * 1) + k).toNatClampNeg)) (fun v1 : Int32 => UP m_X7_byteAt 16 [some (.ref 123), some (.int 1), some (.int k)] [.int v1] s (Qi s (F_byteAt_1 s k))) (fun cc kk => ?_) (fun cc kk => ?_) (fun v1 e1 => ?_)
  · skip
    refine UP.icT rfl cc ?_
    refine UP.stp 1 (i1 := 16) (L1 := [some (.ref 123), some (.int 1), some (.int k)]) (st1 := [.int (-1)]) (s1 := s) rfl ?_
    exact kk
  · skip
    refine UP.icF rfl cc ?_
    refine UP.stp 9 (i1 := 16) (L1 := [some (.ref 123), some (.int 1), some (.int k)]) (st1 := [.int (s 125 (((24 * 1) + k).toNatClampNeg))]) (s1 := s) rfl ?_
    exact kk
  exact UP.ret (r := some (.int v1)) rfl ⟨by subst e1; first | (dsimp only [F_byteAt_1]; done) | (dsimp only; done) | rfl, by subst e1; first | (dsimp only [F_byteAt_1]; done) | (dsimp only; done) | rfl⟩
def W_byteAt_2 : List (Nat × Nat × Option Nat) := []
def F_byteAt_2 (s : SG) (k : Int32) : Int32 := let v1 := bif m_cmp .ge k (s 124 2) then (-1 : Int32) else s 125 (((24 * 2) + k).toNatClampNeg); v1
set_option maxRecDepth 20000 in
set_option maxHeartbeats 200000 in
theorem ux_byteAt_2 (s : SG) (k : Int32)  : UP m_X7_byteAt 0 (m_ent 3 [.ref 123, .int 2, .int k]) [] s (Qi s (F_byteAt_2 s k)) := by
  refine UP.stp 5 (i1 := 5) (L1 := [some (.ref 123), some (.int 2), some (.int k)]) (st1 := [.int (s 124 2), .int k]) (s1 := s) rfl ?_
  refine mrg (m_cmp .ge k (s 124 2)) (-1 : Int32) (s 125 (((24 * 2) + k).toNatClampNeg)) (fun v1 : Int32 => UP m_X7_byteAt 16 [some (.ref 123), some (.int 2), some (.int k)] [.int v1] s (Qi s (F_byteAt_2 s k))) (fun cc kk => ?_) (fun cc kk => ?_) (fun v1 e1 => ?_)
  · skip
    refine UP.icT rfl cc ?_
    refine UP.stp 1 (i1 := 16) (L1 := [some (.ref 123), some (.int 2), some (.int k)]) (st1 := [.int (-1)]) (s1 := s) rfl ?_
    exact kk
  · skip
    refine UP.icF rfl cc ?_
    refine UP.stp 9 (i1 := 16) (L1 := [some (.ref 123), some (.int 2), some (.int k)]) (st1 := [.int (s 125 (((24 * 2) + k).toNatClampNeg))]) (s1 := s) rfl ?_
    exact kk
  exact UP.ret (r := some (.int v1)) rfl ⟨by subst e1; first | (dsimp only [F_byteAt_2]; done) | (dsimp only; done) | rfl, by subst e1; first | (dsimp only [F_byteAt_2]; done) | (dsimp only; done) | rfl⟩
end
section
def W_readsRower : List (Nat × Nat × Option Nat) := [(126, 127, none)]
def F_readsRower (s : SG) (n : Int32) (at_ : Int32) : Int32 × SG := let v2 := F_byteAt_0 s at_; let v5 := bif m_cmp .ne v2 115 then (bif m_cmp .ne v2 102 then (bif m_cmp .ne v2 108 then (-1 : Int32) else (2 : Int32)) else (1 : Int32)) else (0 : Int32); let v7 := (F_byteAt_0 s (at_ + 1)) - 48; bif m_cmp .eq n 8 then ((0, s)) else (bif m_cmp .ne v5 (-1) then (bif m_cmp .ne (F_in s v7 1 9) 0 then ((2, (uset (uset s 126 n.toNatClampNeg v5) 127 n.toNatClampNeg v7))) else ((1, s))) else ((0, s)))
set_option maxRecDepth 20000 in
set_option maxHeartbeats 200000 in
theorem fr_readsRower (s : SG) (n : Int32) (at_ : Int32)  : Fr W_readsRower s (F_readsRower s n at_).2 := by dsimp only [F_readsRower]; exact (let v2 : Int32 := F_byteAt_0 s at_; (let v5 : Int32 := bif m_cmp .ne v2 115 then (bif m_cmp .ne v2 102 then (bif m_cmp .ne v2 108 then (-1 : Int32) else (2 : Int32)) else (1 : Int32)) else (0 : Int32); (let v7 : Int32 := (F_byteAt_0 s (at_ + 1)) - 48; (Fr.bifp (b := m_cmp .eq n 8) (x := (0, s)) (y := bif m_cmp .ne v5 (-1) then (bif m_cmp .ne (F_in s v7 1 9) 0 then ((2, (uset (uset s 126 n.toNatClampNeg v5) 127 n.toNatClampNeg v7))) else ((1, s))) else ((0, s))) (fun x : Int32 × SG => x.2) (by (try dsimp only); exact (Fr.rf _ _)) (by (try dsimp only); exact (Fr.bifp (b := m_cmp .ne v5 (-1)) (x := bif m_cmp .ne (F_in s v7 1 9) 0 then ((2, (uset (uset s 126 n.toNatClampNeg v5) 127 n.toNatClampNeg v7))) else ((1, s))) (y := (0, s)) (fun x : Int32 × SG => x.2) (by (try dsimp only); exact (Fr.bifp (b := m_cmp .ne (F_in s v7 1 9) 0) (x := (2, (uset (uset s 126 n.toNatClampNeg v5) 127 n.toNatClampNeg v7))) (y := (1, s)) (fun x : Int32 × SG => x.2) (by (try dsimp only); exact (Fr.uset (s1 := (uset s 126 n.toNatClampNeg v5)) (a := 127) (j := n.toNatClampNeg) (x := v7) (by rfl) (Fr.uset (s1 := s) (a := 126) (j := n.toNatClampNeg) (x := v5) (by rfl) (Fr.rf _ _)))) (by (try dsimp only); exact (Fr.rf _ _)))) (by (try dsimp only); exact (Fr.rf _ _))))))))
set_option maxRecDepth 20000 in
set_option maxHeartbeats 200000 in
theorem ux_readsRower (s : SG) (n : Int32) (at_ : Int32)  : UP m_X7_readsRower 0 (m_ent 6 [.ref 123, .int n, .int at_]) [] s (Qb (F_readsRower s n at_)) := by
  refine UP.stp 3 (i1 := 3) (L1 := [some (.ref 123), some (.int n), some (.int at_), none, none, none]) (st1 := [.int at_, .int 0, .ref 123]) (s1 := s) rfl ?_
  refine UP.cI (M1 := m_X7_byteAt) (as := [.ref 123, .int 0, .int at_]) (rest := []) (T := F_byteAt_0 s at_) rfl rfl (ux_byteAt_0 s at_) ?_
  refine nm (G := fun v2 => UP m_X7_readsRower 4 [some (.ref 123), some (.int n), some (.int at_), none, none, none] [.int v2] s (Qb (F_readsRower s n at_))) (F_byteAt_0 s at_) (fun v2 e2 => ?_)
  refine UP.stp 3 (i1 := 7) (L1 := [some (.ref 123), some (.int n), some (.int at_), some (.int v2), none, none]) (st1 := [.int 115, .int v2]) (s1 := s) rfl ?_
  refine mrg (m_cmp .ne v2 115) (bif m_cmp .ne v2 102 then (bif m_cmp .ne v2 108 then (-1 : Int32) else (2 : Int32)) else (1 : Int32)) (0 : Int32) (fun v5 : Int32 => UP m_X7_readsRower 21 [some (.ref 123), some (.int n), some (.int at_), some (.int v2), none, none] [.int v5] s (Qb (F_readsRower s n at_))) (fun cc kk => ?_) (fun cc kk => ?_) (fun v5 e5 => ?_)
  · skip
    refine UP.icT rfl cc ?_
    refine UP.stp 2 (i1 := 12) (L1 := [some (.ref 123), some (.int n), some (.int at_), some (.int v2), none, none]) (st1 := [.int 102, .int v2]) (s1 := s) rfl ?_
    refine mrg (m_cmp .ne v2 102) (bif m_cmp .ne v2 108 then (-1 : Int32) else (2 : Int32)) (1 : Int32) (fun v4 : Int32 => UP m_X7_readsRower 21 [some (.ref 123), some (.int n), some (.int at_), some (.int v2), none, none] [.int v4] s (Qb (F_readsRower s n at_))) (fun cc kk => ?_) (fun cc kk => ?_) (fun v4 e4 => ?_)
    · skip
      refine UP.icT rfl cc ?_
      refine UP.stp 2 (i1 := 17) (L1 := [some (.ref 123), some (.int n), some (.int at_), some (.int v2), none, none]) (st1 := [.int 108, .int v2]) (s1 := s) rfl ?_
      refine mrg (m_cmp .ne v2 108) (-1 : Int32) (2 : Int32) (fun v3 : Int32 => UP m_X7_readsRower 21 [some (.ref 123), some (.int n), some (.int at_), some (.int v2), none, none] [.int v3] s (Qb (F_readsRower s n at_))) (fun cc kk => ?_) (fun cc kk => ?_) (fun v3 e3 => ?_)
      · skip
        refine UP.icT rfl cc ?_
        refine UP.stp 1 (i1 := 21) (L1 := [some (.ref 123), some (.int n), some (.int at_), some (.int v2), none, none]) (st1 := [.int (-1)]) (s1 := s) rfl ?_
        exact kk
      · skip
        refine UP.icF rfl cc ?_
        refine UP.stp 2 (i1 := 21) (L1 := [some (.ref 123), some (.int n), some (.int at_), some (.int v2), none, none]) (st1 := [.int 2]) (s1 := s) rfl ?_
        exact kk
      subst e3
      exact kk
    · skip
      refine UP.icF rfl cc ?_
      refine UP.stp 2 (i1 := 21) (L1 := [some (.ref 123), some (.int n), some (.int at_), some (.int v2), none, none]) (st1 := [.int 1]) (s1 := s) rfl ?_
      exact kk
    subst e4
    exact kk
  · skip
    refine UP.icF rfl cc ?_
    refine UP.stp 2 (i1 := 21) (L1 := [some (.ref 123), some (.int n), some (.int at_), some (.int v2), none, none]) (st1 := [.int 0]) (s1 := s) rfl ?_
    exact kk
  refine UP.stp 6 (i1 := 27) (L1 := [some (.ref 123), some (.int n), some (.int at_), some (.int v2), some (.int v5), none]) (st1 := [.int (at_ + 1), .int 0, .ref 123]) (s1 := s) rfl ?_
  refine UP.cI (M1 := m_X7_byteAt) (as := [.ref 123, .int 0, .int (at_ + 1)]) (rest := []) (T := F_byteAt_0 s (at_ + 1)) rfl rfl (ux_byteAt_0 s (at_ + 1)) ?_
  refine UP.stp 2 (i1 := 30) (L1 := [some (.ref 123), some (.int n), some (.int at_), some (.int v2), some (.int v5), none]) (st1 := [.int ((F_byteAt_0 s (at_ + 1)) - 48)]) (s1 := s) rfl ?_
  refine nm (G := fun v7 => UP m_X7_readsRower 30 [some (.ref 123), some (.int n), some (.int at_), some (.int v2), some (.int v5), none] [.int v7] s (Qb (F_readsRower s n at_))) ((F_byteAt_0 s (at_ + 1)) - 48) (fun v7 e7 => ?_)
  refine UP.stp 3 (i1 := 33) (L1 := [some (.ref 123), some (.int n), some (.int at_), some (.int v2), some (.int v5), some (.int v7)]) (st1 := [.int 8, .int n]) (s1 := s) rfl ?_
  refine UP.spl (m_cmp .eq n 8) ((0, s)) (bif m_cmp .ne v5 (-1) then (bif m_cmp .ne (F_in s v7 1 9) 0 then ((2, (uset (uset s 126 n.toNatClampNeg v5) 127 n.toNatClampNeg v7))) else ((1, s))) else ((0, s))) (by subst e7 e5 e2; first | (dsimp only [F_readsRower]; done) | (dsimp only; done) | rfl) (fun cc => ?_) (fun cc => ?_)
  · skip
    refine UP.icT rfl cc ?_
    refine UP.stp 1 (i1 := 38) (L1 := [some (.ref 123), some (.int n), some (.int at_), some (.int v2), some (.int v5), some (.int v7)]) (st1 := [.int 0]) (s1 := s) rfl ?_
    exact UP.ret (r := some (.int 0)) rfl ⟨by subst e7 e5 e2; first | (dsimp only [F_readsRower]; done) | (dsimp only; done) | rfl, by subst e7 e5 e2; first | (dsimp only [F_readsRower]; done) | (dsimp only; done) | rfl⟩
  · skip
    refine UP.icF rfl cc ?_
    refine UP.stp 2 (i1 := 36) (L1 := [some (.ref 123), some (.int n), some (.int at_), some (.int v2), some (.int v5), some (.int v7)]) (st1 := [.int (-1), .int v5]) (s1 := s) rfl ?_
    refine UP.spl (m_cmp .ne v5 (-1)) (bif m_cmp .ne (F_in s v7 1 9) 0 then ((2, (uset (uset s 126 n.toNatClampNeg v5) 127 n.toNatClampNeg v7))) else ((1, s))) ((0, s)) (by subst e7 e5 e2; first | (dsimp only [F_readsRower]; done) | (dsimp only; done) | rfl) (fun cc => ?_) (fun cc => ?_)
    · skip
      refine UP.icT rfl cc ?_
      refine UP.stp 3 (i1 := 42) (L1 := [some (.ref 123), some (.int n), some (.int at_), some (.int v2), some (.int v5), some (.int v7)]) (st1 := [.int 9, .int 1, .int v7]) (s1 := s) rfl ?_
      refine UP.cI (M1 := m_X7_in) (as := [.int v7, .int 1, .int 9]) (rest := []) (T := F_in s v7 1 9) rfl rfl (ux_in s v7 1 9) ?_
      refine UP.spl (m_cmp .ne (F_in s v7 1 9) 0) ((2, (uset (uset s 126 n.toNatClampNeg v5) 127 n.toNatClampNeg v7))) ((1, s)) (by subst e7 e5 e2; first | (dsimp only [F_readsRower]; done) | (dsimp only; done) | rfl) (fun cc => ?_) (fun cc => ?_)
      · skip
        refine UP.ifT rfl cc ?_
        refine UP.stp 11 (i1 := 57) (L1 := [some (.ref 123), some (.int n), some (.int at_), some (.int v2), some (.int v5), some (.int v7)]) (st1 := [.int 2]) (s1 := (uset (uset s 126 n.toNatClampNeg v5) 127 n.toNatClampNeg v7)) rfl ?_
        exact UP.ret (r := some (.int 2)) rfl ⟨by subst e7 e5 e2; first | (dsimp only [F_readsRower]; done) | (dsimp only; done) | rfl, by subst e7 e5 e2; first | (dsimp only [F_readsRower]; done) | (dsimp only; done) | rfl⟩
      · skip
        refine UP.ifF rfl cc ?_
        refine UP.stp 1 (i1 := 45) (L1 := [some (.ref 123), some (.int n), some (.int at_), some (.int v2), some (.int v5), some (.int v7)]) (st1 := [.int 1]) (s1 := s) rfl ?_
        exact UP.ret (r := some (.int 1)) rfl ⟨by subst e7 e5 e2; first | (dsimp only [F_readsRower]; done) | (dsimp only; done) | rfl, by subst e7 e5 e2; first | (dsimp only [F_readsRower]; done) | (dsimp only; done) | rfl⟩
    · skip
      refine UP.icF rfl cc ?_
      refine UP.stp 1 (i1 := 38) (L1 := [some (.ref 123), some (.int n), some (.int at_), some (.int v2), some (.int v5), some (.int v7)]) (st1 := [.int 0]) (s1 := s) rfl ?_
      exact UP.ret (r := some (.int 0)) rfl ⟨by subst e7 e5 e2; first | (dsimp only [F_readsRower]; done) | (dsimp only; done) | rfl, by subst e7 e5 e2; first | (dsimp only [F_readsRower]; done) | (dsimp only; done) | rfl⟩
end
section
def W_readsCrew : List (Nat × Nat × Option Nat) := [(126, 127, none), (123, 123, some 2)]
def B_readsCrew_7  (i1 : Nat) (a1 : SG × Int32) : (SG × Int32) ⊕ (Int32 × SG) := bif m_cmp .lt a1.2 (a1.1 124 0) then (let z2 := F_readsRower a1.1 (Int32.ofNat i1) a1.2; bif m_cmp .ge z2.1 2 then (bif m_cmp .ne (a1.2 + 2) (z2.2 124 0) then (bif m_cmp .eq (F_byteAt_0 z2.2 (a1.2 + 2)) 59 then (.inl (z2.2, (a1.2 + 2) + 1)) else (.inr (a1.2 + 2, z2.2))) else (.inr ((-1), (uset z2.2 123 2 ((Int32.ofNat i1) + 1))))) else (.inr (a1.2 + z2.1, z2.2))) else (bif m_cmp .le a1.2 0 then (.inr ((-1), a1.1)) else (let z4 := F_readsRower a1.1 (Int32.ofNat i1) a1.2; bif m_cmp .ge z4.1 2 then (bif m_cmp .ne (a1.2 + 2) (z4.2 124 0) then (bif m_cmp .eq (F_byteAt_0 z4.2 (a1.2 + 2)) 59 then (.inl (z4.2, (a1.2 + 2) + 1)) else (.inr (a1.2 + 2, z4.2))) else (.inr ((-1), (uset z4.2 123 2 ((Int32.ofNat i1) + 1))))) else (.inr (a1.2 + z4.1, z4.2))))
set_option maxRecDepth 20000 in
set_option maxHeartbeats 200000 in
theorem fr_B_readsCrew_7  (i1 : Nat) (a1 : SG × Int32)  : Fr W_readsCrew a1.1 ((Sum.elim (fun x : SG × Int32 => x.1) (fun x : Int32 × SG => x.2)) ((B_readsCrew_7) i1 a1)) := by dsimp only [B_readsCrew_7]; exact (Fr.bifp (Sum.elim (fun x : SG × Int32 => x.1) (fun x : Int32 × SG => x.2)) (by (try dsimp only [Sum.elim_inl, Sum.elim_inr]); exact (Fr.bifp (Sum.elim (fun x : SG × Int32 => x.1) (fun x : Int32 × SG => x.2)) (by (try dsimp only [Sum.elim_inl, Sum.elim_inr]); exact (Fr.bifp (Sum.elim (fun x : SG × Int32 => x.1) (fun x : Int32 × SG => x.2)) (by (try dsimp only [Sum.elim_inl, Sum.elim_inr]); exact (Fr.bifp (Sum.elim (fun x : SG × Int32 => x.1) (fun x : Int32 × SG => x.2)) (by (try dsimp only [Sum.elim_inl, Sum.elim_inr]); exact (Fr.tr (s1 := a1.1) (Fr.rf _ _) (Fr.wk (W2 := W_readsCrew) (fr_readsRower a1.1 (Int32.ofNat i1) a1.2) (by rfl)))) (by (try dsimp only [Sum.elim_inl, Sum.elim_inr]); exact (Fr.tr (s1 := a1.1) (Fr.rf _ _) (Fr.wk (W2 := W_readsCrew) (fr_readsRower a1.1 (Int32.ofNat i1) a1.2) (by rfl)))))) (by (try dsimp only [Sum.elim_inl, Sum.elim_inr]); exact (let z2 : Int32 × SG := F_readsRower a1.1 (Int32.ofNat i1) a1.2; (Fr.uset (s1 := z2.2) (a := 123) (j := 2) (x := (Int32.ofNat i1) + 1) (by rfl) (Fr.tr (s1 := a1.1) (Fr.rf _ _) (Fr.wk (W2 := W_readsCrew) (fr_readsRower a1.1 (Int32.ofNat i1) a1.2) (by rfl)))))))) (by (try dsimp only [Sum.elim_inl, Sum.elim_inr]); exact (Fr.tr (s1 := a1.1) (Fr.rf _ _) (Fr.wk (W2 := W_readsCrew) (fr_readsRower a1.1 (Int32.ofNat i1) a1.2) (by rfl)))))) (by (try dsimp only [Sum.elim_inl, Sum.elim_inr]); exact (Fr.bifp (Sum.elim (fun x : SG × Int32 => x.1) (fun x : Int32 × SG => x.2)) (by (try dsimp only [Sum.elim_inl, Sum.elim_inr]); exact (Fr.rf _ _)) (by (try dsimp only [Sum.elim_inl, Sum.elim_inr]); exact (Fr.bifp (Sum.elim (fun x : SG × Int32 => x.1) (fun x : Int32 × SG => x.2)) (by (try dsimp only [Sum.elim_inl, Sum.elim_inr]); exact (Fr.bifp (Sum.elim (fun x : SG × Int32 => x.1) (fun x : Int32 × SG => x.2)) (by (try dsimp only [Sum.elim_inl, Sum.elim_inr]); exact (Fr.bifp (Sum.elim (fun x : SG × Int32 => x.1) (fun x : Int32 × SG => x.2)) (by (try dsimp only [Sum.elim_inl, Sum.elim_inr]); exact (Fr.tr (s1 := a1.1) (Fr.rf _ _) (Fr.wk (W2 := W_readsCrew) (fr_readsRower a1.1 (Int32.ofNat i1) a1.2) (by rfl)))) (by (try dsimp only [Sum.elim_inl, Sum.elim_inr]); exact (Fr.tr (s1 := a1.1) (Fr.rf _ _) (Fr.wk (W2 := W_readsCrew) (fr_readsRower a1.1 (Int32.ofNat i1) a1.2) (by rfl)))))) (by (try dsimp only [Sum.elim_inl, Sum.elim_inr]); exact (let z4 : Int32 × SG := F_readsRower a1.1 (Int32.ofNat i1) a1.2; (Fr.uset (s1 := z4.2) (a := 123) (j := 2) (x := (Int32.ofNat i1) + 1) (by rfl) (Fr.tr (s1 := a1.1) (Fr.rf _ _) (Fr.wk (W2 := W_readsCrew) (fr_readsRower a1.1 (Int32.ofNat i1) a1.2) (by rfl)))))))) (by (try dsimp only [Sum.elim_inl, Sum.elim_inr]); exact (Fr.tr (s1 := a1.1) (Fr.rf _ _) (Fr.wk (W2 := W_readsCrew) (fr_readsRower a1.1 (Int32.ofNat i1) a1.2) (by rfl)))))))))
def F_readsCrew (s : SG)  : Int32 × SG := Sum.elim (fun _ : SG × Int32 => (0, s)) (fun x : Nat × (Int32 × SG) => x.2) (itx (B_readsCrew_7) 0 9 ((uset s 123 2 0), (0 : Int32)))
set_option maxRecDepth 20000 in
set_option maxHeartbeats 200000 in
theorem fr_readsCrew (s : SG)   : Fr W_readsCrew s (F_readsCrew s).2 := by dsimp only [F_readsCrew]; exact (frElim (m := (fun x : Int32 × SG => x.2)) (fun z1 h => (Fr.rf _ _)) (fun x h => (by have k := frItx (W := W_readsCrew) (m1 := (fun x : SG × Int32 => x.1)) (m2 := (fun x : Int32 × SG => x.2)) (f := (B_readsCrew_7)) (9) (fun ii aa hh => Fr.wk (W2 := W_readsCrew) (fr_B_readsCrew_7  ii aa ) (by rfl)) 9 0 ((uset s 123 2 0), (0 : Int32)) (by omega) (Fr.uset (s1 := s) (a := 123) (j := 2) (x := 0) (by rfl) (Fr.rf _ _)); rw [h] at k; exact k)))
set_option maxRecDepth 20000 in
set_option maxHeartbeats 200000 in
theorem rc_8 (x z : SG × Int32) : ¬ B_readsCrew_7 (0 + 8) x = .inl z := by
  have e : B_readsCrew_7 (0 + 8) x = (bif m_cmp .lt x.2 (x.1 124 0) then .inr (x.2 + 0, x.1) else (bif m_cmp .le x.2 0 then .inr (-1, x.1) else .inr (x.2 + 0, x.1))) := rfl
  rw [e]
  cases m_cmp .lt x.2 (x.1 124 0)
  · cases m_cmp .le x.2 0
    · exact fun h => by cases h
    · exact fun h => by cases h
  · exact fun h => by cases h
set_option maxRecDepth 20000 in
set_option maxHeartbeats 200000 in
theorem ux_readsCrew (s : SG)   : UP m_X7_readsCrew 0 (m_ent 4 [.ref 123]) [] s (Qb (F_readsCrew s)) := by
  refine UP.stp 7 (i1 := 7) (L1 := [some (.ref 123), some (.int 0), some (.int 0), none]) (st1 := []) (s1 := (uset s 123 2 0)) rfl ?_
  refine lpx (fun (i1 : Nat) (a1 : SG × Int32) => ∀ (u1_3 : Option Value), UP m_X7_readsCrew 7 [some (.ref 123), some (.int (Int32.ofNat i1)), some (.int a1.2), u1_3] [] a1.1 (Qb (F_readsCrew s))) (fun (_ : Nat) (b1 : Int32 × SG) => (F_readsCrew s) = b1) (fun (_ : Nat) (a1 : SG × Int32) => Fr W_readsCrew (uset s 123 2 0) a1.1) (B_readsCrew_7) (9) (fun i1 a1 x1 hi1 g1 e => by have q := g1.tr (fr_B_readsCrew_7  i1 a1 ); rw [e] at q; exact q) (fun i1 a1 hi1 g1 kk => ?_) 9 (0) ((uset s 123 2 0), (0 : Int32)) (by omega) (Fr.rf _ _) (fun z1 e1 g1 => ?_) (fun i1 a1 b1 e1 hi1 g1 f1 => by have q : (F_readsCrew s) = Sum.elim (fun _ : SG × Int32 => (0, s)) (fun x : Nat × (Int32 × SG) => x.2) (itx (B_readsCrew_7) 0 9 ((uset s 123 2 0), (0 : Int32))) := (by first | (dsimp only [F_readsCrew]; done) | (dsimp only; done) | rfl); rw [q, e1]; first | (dsimp only [Sum.elim_inr]; done) | rfl) none
  · skip
    intro u1_3
    refine UP.stp 5 (i1 := 12) (L1 := [some (.ref 123), some (.int (Int32.ofNat i1)), some (.int a1.2), u1_3]) (st1 := [.int (a1.1 124 0), .int a1.2]) (s1 := a1.1) rfl ?_
    refine brk (K := (Kx (fun (i1 : Nat) (a1 : SG × Int32) => ∀ (u1_3 : Option Value), UP m_X7_readsCrew 7 [some (.ref 123), some (.int (Int32.ofNat i1)), some (.int a1.2), u1_3] [] a1.1 (Qb (F_readsCrew s))) (fun (_ : Nat) (b1 : Int32 × SG) => (F_readsCrew s) = b1) i1)) (m_cmp .lt a1.2 (a1.1 124 0)) (let z2 := F_readsRower a1.1 (Int32.ofNat i1) a1.2; bif m_cmp .ge z2.1 2 then (bif m_cmp .ne (a1.2 + 2) (z2.2 124 0) then (bif m_cmp .eq (F_byteAt_0 z2.2 (a1.2 + 2)) 59 then (.inl (z2.2, (a1.2 + 2) + 1)) else (.inr (a1.2 + 2, z2.2))) else (.inr ((-1), (uset z2.2 123 2 ((Int32.ofNat i1) + 1))))) else (.inr (a1.2 + z2.1, z2.2))) (bif m_cmp .le a1.2 0 then (.inr ((-1), a1.1)) else (let z4 := F_readsRower a1.1 (Int32.ofNat i1) a1.2; bif m_cmp .ge z4.1 2 then (bif m_cmp .ne (a1.2 + 2) (z4.2 124 0) then (bif m_cmp .eq (F_byteAt_0 z4.2 (a1.2 + 2)) 59 then (.inl (z4.2, (a1.2 + 2) + 1)) else (.inr (a1.2 + 2, z4.2))) else (.inr ((-1), (uset z4.2 123 2 ((Int32.ofNat i1) + 1))))) else (.inr (a1.2 + z4.1, z4.2)))) (by (try dsimp only [B_readsCrew_7] at kk ⊢); exact kk) (fun cc kk => ?_) (fun cc kk => ?_)
    · skip
      refine UP.icT rfl cc ?_
      refine UP.stp 3 (i1 := 18) (L1 := [some (.ref 123), some (.int (Int32.ofNat i1)), some (.int a1.2), u1_3]) (st1 := [.int a1.2, .int (Int32.ofNat i1), .ref 123]) (s1 := a1.1) rfl ?_
      refine UP.cB (M1 := m_X7_readsRower) (as := [.ref 123, .int (Int32.ofNat i1), .int a1.2]) (rest := []) (T := F_readsRower a1.1 (Int32.ofNat i1) a1.2) rfl rfl (ux_readsRower a1.1 (Int32.ofNat i1) a1.2) (fun z2 e2 => ?_)
      refine UP.stp 3 (i1 := 22) (L1 := [some (.ref 123), some (.int (Int32.ofNat i1)), some (.int a1.2), some (.int z2.1)]) (st1 := [.int 2, .int z2.1]) (s1 := z2.2) rfl ?_
      refine brk (K := (Kx (fun (i1 : Nat) (a1 : SG × Int32) => ∀ (u1_3 : Option Value), UP m_X7_readsCrew 7 [some (.ref 123), some (.int (Int32.ofNat i1)), some (.int a1.2), u1_3] [] a1.1 (Qb (F_readsCrew s))) (fun (_ : Nat) (b1 : Int32 × SG) => (F_readsCrew s) = b1) i1)) (m_cmp .ge z2.1 2) (bif m_cmp .ne (a1.2 + 2) (z2.2 124 0) then (bif m_cmp .eq (F_byteAt_0 z2.2 (a1.2 + 2)) 59 then (.inl (z2.2, (a1.2 + 2) + 1)) else (.inr (a1.2 + 2, z2.2))) else (.inr ((-1), (uset z2.2 123 2 ((Int32.ofNat i1) + 1))))) (.inr (a1.2 + z2.1, z2.2)) (by subst e2; (try dsimp only [B_readsCrew_7] at kk ⊢); exact kk) (fun cc kk => ?_) (fun cc kk => ?_)
      · skip
        refine UP.icT rfl cc ?_
        refine UP.stp 7 (i1 := 34) (L1 := [some (.ref 123), some (.int ((Int32.ofNat i1) + 1)), some (.int (a1.2 + 2)), some (.int z2.1)]) (st1 := [.int (z2.2 124 0), .int (a1.2 + 2)]) (s1 := z2.2) rfl ?_
        refine brk (K := (Kx (fun (i1 : Nat) (a1 : SG × Int32) => ∀ (u1_3 : Option Value), UP m_X7_readsCrew 7 [some (.ref 123), some (.int (Int32.ofNat i1)), some (.int a1.2), u1_3] [] a1.1 (Qb (F_readsCrew s))) (fun (_ : Nat) (b1 : Int32 × SG) => (F_readsCrew s) = b1) i1)) (m_cmp .ne (a1.2 + 2) (z2.2 124 0)) (bif m_cmp .eq (F_byteAt_0 z2.2 (a1.2 + 2)) 59 then (.inl (z2.2, (a1.2 + 2) + 1)) else (.inr (a1.2 + 2, z2.2))) (.inr ((-1), (uset z2.2 123 2 ((Int32.ofNat i1) + 1)))) (by subst e2; (try dsimp only [B_readsCrew_7] at kk ⊢); exact kk) (fun cc kk => ?_) (fun cc kk => ?_)
        · skip
          refine UP.icT rfl cc ?_
          refine UP.stp 3 (i1 := 43) (L1 := [some (.ref 123), some (.int ((Int32.ofNat i1) + 1)), some (.int (a1.2 + 2)), some (.int z2.1)]) (st1 := [.int (a1.2 + 2), .int 0, .ref 123]) (s1 := z2.2) rfl ?_
          refine UP.cI (M1 := m_X7_byteAt) (as := [.ref 123, .int 0, .int (a1.2 + 2)]) (rest := []) (T := F_byteAt_0 z2.2 (a1.2 + 2)) rfl rfl (ux_byteAt_0 z2.2 (a1.2 + 2)) ?_
          refine UP.stp 1 (i1 := 45) (L1 := [some (.ref 123), some (.int ((Int32.ofNat i1) + 1)), some (.int (a1.2 + 2)), some (.int z2.1)]) (st1 := [.int 59, .int (F_byteAt_0 z2.2 (a1.2 + 2))]) (s1 := z2.2) rfl ?_
          refine brk (K := (Kx (fun (i1 : Nat) (a1 : SG × Int32) => ∀ (u1_3 : Option Value), UP m_X7_readsCrew 7 [some (.ref 123), some (.int (Int32.ofNat i1)), some (.int a1.2), u1_3] [] a1.1 (Qb (F_readsCrew s))) (fun (_ : Nat) (b1 : Int32 × SG) => (F_readsCrew s) = b1) i1)) (m_cmp .eq (F_byteAt_0 z2.2 (a1.2 + 2)) 59) (.inl (z2.2, (a1.2 + 2) + 1)) (.inr (a1.2 + 2, z2.2)) (by subst e2; (try dsimp only [B_readsCrew_7] at kk ⊢); exact kk) (fun cc kk => ?_) (fun cc kk => ?_)
          · skip
            refine UP.icT rfl cc ?_
            refine UP.stp 2 (i1 := 7) (L1 := [some (.ref 123), some (.int ((Int32.ofNat i1) + 1)), some (.int ((a1.2 + 2) + 1)), some (.int z2.1)]) (st1 := []) (s1 := z2.2) rfl ?_
            subst e2
            rw [ofn_s]
            exact kk _
          · skip
            refine UP.icF rfl cc ?_
            refine UP.stp 1 (i1 := 47) (L1 := [some (.ref 123), some (.int ((Int32.ofNat i1) + 1)), some (.int (a1.2 + 2)), some (.int z2.1)]) (st1 := [.int (a1.2 + 2)]) (s1 := z2.2) rfl ?_
            have kk : (F_readsCrew s) = (a1.2 + 2, z2.2) := by subst e2; exact kk
            exact UP.ret (r := some (.int (a1.2 + 2))) rfl ⟨by rw [kk], by rw [kk]⟩
        · skip
          refine UP.icF rfl cc ?_
          refine UP.stp 4 (i1 := 39) (L1 := [some (.ref 123), some (.int ((Int32.ofNat i1) + 1)), some (.int (a1.2 + 2)), some (.int z2.1)]) (st1 := [.int (-1)]) (s1 := (uset z2.2 123 2 ((Int32.ofNat i1) + 1))) rfl ?_
          have kk : (F_readsCrew s) = ((-1), (uset z2.2 123 2 ((Int32.ofNat i1) + 1))) := by subst e2; exact kk
          exact UP.ret (r := some (.int (-1))) rfl ⟨by rw [kk], by rw [kk]⟩
      · skip
        refine UP.icF rfl cc ?_
        refine UP.stp 3 (i1 := 26) (L1 := [some (.ref 123), some (.int (Int32.ofNat i1)), some (.int a1.2), some (.int z2.1)]) (st1 := [.int (a1.2 + z2.1)]) (s1 := z2.2) rfl ?_
        have kk : (F_readsCrew s) = (a1.2 + z2.1, z2.2) := by subst e2; exact kk
        exact UP.ret (r := some (.int (a1.2 + z2.1))) rfl ⟨by rw [kk], by rw [kk]⟩
    · skip
      refine UP.icF rfl cc ?_
      refine UP.stp 1 (i1 := 14) (L1 := [some (.ref 123), some (.int (Int32.ofNat i1)), some (.int a1.2), u1_3]) (st1 := [.int a1.2]) (s1 := a1.1) rfl ?_
      refine brk (K := (Kx (fun (i1 : Nat) (a1 : SG × Int32) => ∀ (u1_3 : Option Value), UP m_X7_readsCrew 7 [some (.ref 123), some (.int (Int32.ofNat i1)), some (.int a1.2), u1_3] [] a1.1 (Qb (F_readsCrew s))) (fun (_ : Nat) (b1 : Int32 × SG) => (F_readsCrew s) = b1) i1)) (m_cmp .le a1.2 0) (.inr ((-1), a1.1)) (let z4 := F_readsRower a1.1 (Int32.ofNat i1) a1.2; bif m_cmp .ge z4.1 2 then (bif m_cmp .ne (a1.2 + 2) (z4.2 124 0) then (bif m_cmp .eq (F_byteAt_0 z4.2 (a1.2 + 2)) 59 then (.inl (z4.2, (a1.2 + 2) + 1)) else (.inr (a1.2 + 2, z4.2))) else (.inr ((-1), (uset z4.2 123 2 ((Int32.ofNat i1) + 1))))) else (.inr (a1.2 + z4.1, z4.2))) (by (try dsimp only [B_readsCrew_7] at kk ⊢); exact kk) (fun cc kk => ?_) (fun cc kk => ?_)
      · skip
        refine UP.ifT rfl cc ?_
        refine UP.stp 1 (i1 := 51) (L1 := [some (.ref 123), some (.int (Int32.ofNat i1)), some (.int a1.2), u1_3]) (st1 := [.int (-1)]) (s1 := a1.1) rfl ?_
        have kk : (F_readsCrew s) = ((-1), a1.1) := by exact kk
        exact UP.ret (r := some (.int (-1))) rfl ⟨by rw [kk], by rw [kk]⟩
      · skip
        refine UP.ifF rfl cc ?_
        refine UP.stp 3 (i1 := 18) (L1 := [some (.ref 123), some (.int (Int32.ofNat i1)), some (.int a1.2), u1_3]) (st1 := [.int a1.2, .int (Int32.ofNat i1), .ref 123]) (s1 := a1.1) rfl ?_
        refine UP.cB (M1 := m_X7_readsRower) (as := [.ref 123, .int (Int32.ofNat i1), .int a1.2]) (rest := []) (T := F_readsRower a1.1 (Int32.ofNat i1) a1.2) rfl rfl (ux_readsRower a1.1 (Int32.ofNat i1) a1.2) (fun z4 e4 => ?_)
        refine UP.stp 3 (i1 := 22) (L1 := [some (.ref 123), some (.int (Int32.ofNat i1)), some (.int a1.2), some (.int z4.1)]) (st1 := [.int 2, .int z4.1]) (s1 := z4.2) rfl ?_
        refine brk (K := (Kx (fun (i1 : Nat) (a1 : SG × Int32) => ∀ (u1_3 : Option Value), UP m_X7_readsCrew 7 [some (.ref 123), some (.int (Int32.ofNat i1)), some (.int a1.2), u1_3] [] a1.1 (Qb (F_readsCrew s))) (fun (_ : Nat) (b1 : Int32 × SG) => (F_readsCrew s) = b1) i1)) (m_cmp .ge z4.1 2) (bif m_cmp .ne (a1.2 + 2) (z4.2 124 0) then (bif m_cmp .eq (F_byteAt_0 z4.2 (a1.2 + 2)) 59 then (.inl (z4.2, (a1.2 + 2) + 1)) else (.inr (a1.2 + 2, z4.2))) else (.inr ((-1), (uset z4.2 123 2 ((Int32.ofNat i1) + 1))))) (.inr (a1.2 + z4.1, z4.2)) (by subst e4; (try dsimp only [B_readsCrew_7] at kk ⊢); exact kk) (fun cc kk => ?_) (fun cc kk => ?_)
        · skip
          refine UP.icT rfl cc ?_
          refine UP.stp 7 (i1 := 34) (L1 := [some (.ref 123), some (.int ((Int32.ofNat i1) + 1)), some (.int (a1.2 + 2)), some (.int z4.1)]) (st1 := [.int (z4.2 124 0), .int (a1.2 + 2)]) (s1 := z4.2) rfl ?_
          refine brk (K := (Kx (fun (i1 : Nat) (a1 : SG × Int32) => ∀ (u1_3 : Option Value), UP m_X7_readsCrew 7 [some (.ref 123), some (.int (Int32.ofNat i1)), some (.int a1.2), u1_3] [] a1.1 (Qb (F_readsCrew s))) (fun (_ : Nat) (b1 : Int32 × SG) => (F_readsCrew s) = b1) i1)) (m_cmp .ne (a1.2 + 2) (z4.2 124 0)) (bif m_cmp .eq (F_byteAt_0 z4.2 (a1.2 + 2)) 59 then (.inl (z4.2, (a1.2 + 2) + 1)) else (.inr (a1.2 + 2, z4.2))) (.inr ((-1), (uset z4.2 123 2 ((Int32.ofNat i1) + 1)))) (by subst e4; (try dsimp only [B_readsCrew_7] at kk ⊢); exact kk) (fun cc kk => ?_) (fun cc kk => ?_)
          · skip
            refine UP.icT rfl cc ?_
            refine UP.stp 3 (i1 := 43) (L1 := [some (.ref 123), some (.int ((Int32.ofNat i1) + 1)), some (.int (a1.2 + 2)), some (.int z4.1)]) (st1 := [.int (a1.2 + 2), .int 0, .ref 123]) (s1 := z4.2) rfl ?_
            refine UP.cI (M1 := m_X7_byteAt) (as := [.ref 123, .int 0, .int (a1.2 + 2)]) (rest := []) (T := F_byteAt_0 z4.2 (a1.2 + 2)) rfl rfl (ux_byteAt_0 z4.2 (a1.2 + 2)) ?_
            refine UP.stp 1 (i1 := 45) (L1 := [some (.ref 123), some (.int ((Int32.ofNat i1) + 1)), some (.int (a1.2 + 2)), some (.int z4.1)]) (st1 := [.int 59, .int (F_byteAt_0 z4.2 (a1.2 + 2))]) (s1 := z4.2) rfl ?_
            refine brk (K := (Kx (fun (i1 : Nat) (a1 : SG × Int32) => ∀ (u1_3 : Option Value), UP m_X7_readsCrew 7 [some (.ref 123), some (.int (Int32.ofNat i1)), some (.int a1.2), u1_3] [] a1.1 (Qb (F_readsCrew s))) (fun (_ : Nat) (b1 : Int32 × SG) => (F_readsCrew s) = b1) i1)) (m_cmp .eq (F_byteAt_0 z4.2 (a1.2 + 2)) 59) (.inl (z4.2, (a1.2 + 2) + 1)) (.inr (a1.2 + 2, z4.2)) (by subst e4; (try dsimp only [B_readsCrew_7] at kk ⊢); exact kk) (fun cc kk => ?_) (fun cc kk => ?_)
            · skip
              refine UP.icT rfl cc ?_
              refine UP.stp 2 (i1 := 7) (L1 := [some (.ref 123), some (.int ((Int32.ofNat i1) + 1)), some (.int ((a1.2 + 2) + 1)), some (.int z4.1)]) (st1 := []) (s1 := z4.2) rfl ?_
              subst e4
              rw [ofn_s]
              exact kk _
            · skip
              refine UP.icF rfl cc ?_
              refine UP.stp 1 (i1 := 47) (L1 := [some (.ref 123), some (.int ((Int32.ofNat i1) + 1)), some (.int (a1.2 + 2)), some (.int z4.1)]) (st1 := [.int (a1.2 + 2)]) (s1 := z4.2) rfl ?_
              have kk : (F_readsCrew s) = (a1.2 + 2, z4.2) := by subst e4; exact kk
              exact UP.ret (r := some (.int (a1.2 + 2))) rfl ⟨by rw [kk], by rw [kk]⟩
          · skip
            refine UP.icF rfl cc ?_
            refine UP.stp 4 (i1 := 39) (L1 := [some (.ref 123), some (.int ((Int32.ofNat i1) + 1)), some (.int (a1.2 + 2)), some (.int z4.1)]) (st1 := [.int (-1)]) (s1 := (uset z4.2 123 2 ((Int32.ofNat i1) + 1))) rfl ?_
            have kk : (F_readsCrew s) = ((-1), (uset z4.2 123 2 ((Int32.ofNat i1) + 1))) := by subst e4; exact kk
            exact UP.ret (r := some (.int (-1))) rfl ⟨by rw [kk], by rw [kk]⟩
        · skip
          refine UP.icF rfl cc ?_
          refine UP.stp 3 (i1 := 26) (L1 := [some (.ref 123), some (.int (Int32.ofNat i1)), some (.int a1.2), some (.int z4.1)]) (st1 := [.int (a1.2 + z4.1)]) (s1 := z4.2) rfl ?_
          have kk : (F_readsCrew s) = (a1.2 + z4.1, z4.2) := by subst e4; exact kk
          exact UP.ret (r := some (.int (a1.2 + z4.1))) rfl ⟨by rw [kk], by rw [kk]⟩
  · skip
    intro u1_3
    obtain ⟨x, hx⟩ := itx_last _ 8 0 _ _ e1; exact absurd hx (rc_8 x _)
end
section
def W_readsRates : List (Nat × Nat × Option Nat) := [(128, 128, none), (123, 123, some 5)]
def B_readsRates_5  (i1 : Nat) (a1 : SG) : SG := (uset a1 128 i1 2)
set_option maxRecDepth 20000 in
set_option maxHeartbeats 200000 in
theorem fr_B_readsRates_5  (i1 : Nat) (a1 : SG)  (hi1 : i1 < 24) : Fr W_readsRates a1 ((B_readsRates_5) i1 a1) := by dsimp only [B_readsRates_5]; exact (Fr.uset (s1 := a1) (a := 128) (j := i1) (x := 2) (by rfl) (Fr.rf _ _))
def B_readsRates_17 (z1 : SG) (i2 : Nat) (a2 : Unit) : (Unit) ⊕ (Int32 × SG) := bif m_cmp .ne (F_in z1 (F_byteAt_1 z1 (Int32.ofNat i2)) 48 51) 0 then (.inl ()) else (.inr (Int32.ofNat i2, z1))
set_option maxRecDepth 20000 in
set_option maxHeartbeats 200000 in
theorem fr_B_readsRates_17 (z1 : SG) (i2 : Nat) (a2 : Unit)  : Fr W_readsRates z1 ((Sum.elim (fun _ : Unit => z1) (fun x : Int32 × SG => x.2)) ((B_readsRates_17 z1) i2 a2)) := by dsimp only [B_readsRates_17]; exact (Fr.bifp (Sum.elim (fun _ : Unit => z1) (fun x : Int32 × SG => x.2)) (by (try dsimp only [Sum.elim_inl, Sum.elim_inr]); exact (Fr.rf _ _)) (by (try dsimp only [Sum.elim_inl, Sum.elim_inr]); exact (Fr.rf _ _)))
def B_readsRates_37  (i6 : Nat) (a6 : SG) : SG := let v8 := (F_byteAt_1 a6 (Int32.ofNat i6)) - 48; (uset a6 128 i6 v8)
set_option maxRecDepth 20000 in
set_option maxHeartbeats 200000 in
theorem fr_B_readsRates_37  (i6 : Nat) (a6 : SG)   : Fr W_readsRates a6 ((B_readsRates_37) i6 a6) := by dsimp only [B_readsRates_37]; exact (let v8 : Int32 := (F_byteAt_1 a6 (Int32.ofNat i6)) - 48; (Fr.uset (s1 := a6) (a := 128) (j := i6) (x := v8) (by rfl) (Fr.rf _ _)))
def F_readsRates (s : SG)  : Int32 × SG := let z1 := itr (B_readsRates_5) 0 24 (uset s 123 5 0); Sum.elim (fun z2 : Unit => let z6 := itr (B_readsRates_37) 0 ((z1 124 1).toNatClampNeg) z1; let v9 := z6 124 1; ((-1), (uset z6 123 5 v9))) (fun x : Nat × (Int32 × SG) => x.2) (itx (B_readsRates_17 z1) 0 ((z1 124 1).toNatClampNeg) ())
set_option maxRecDepth 20000 in
set_option maxHeartbeats 200000 in
theorem fr_readsRates (s : SG)   : Fr W_readsRates s (F_readsRates s).2 := by dsimp only [F_readsRates]; exact (let z1 : SG := itr (B_readsRates_5) 0 24 (uset s 123 5 0); (frElim (m := (fun x : Int32 × SG => x.2)) (fun z2 h => (let z6 : SG := itr (B_readsRates_37) 0 ((z1 124 1).toNatClampNeg) z1; (let v9 : Int32 := z6 124 1; (Fr.uset (s1 := z6) (a := 123) (j := 5) (x := v9) (by rfl) (Fr.itr (W := W_readsRates) (m := (fun x : SG => x)) (f := (B_readsRates_37)) (fun ii aa => Fr.wk (W2 := W_readsRates) (fr_B_readsRates_37  ii aa ) (by rfl)) ((z1 124 1).toNatClampNeg) 0 z1 (frItrB (W := W_readsRates) (m := (fun x : SG => x)) (f := (B_readsRates_5)) 24 (fun ii aa hh => Fr.wk (W2 := W_readsRates) (fr_B_readsRates_5  ii aa  hh) (by rfl)) 24 0 (uset s 123 5 0) (by omega) (Fr.uset (s1 := s) (a := 123) (j := 5) (x := 0) (by rfl) (Fr.rf _ _)))))))) (fun x h => (by have k := frItx (W := W_readsRates) (m1 := (fun _ : Unit => z1)) (m2 := (fun x : Int32 × SG => x.2)) (f := (B_readsRates_17 z1)) ((z1 124 1).toNatClampNeg) (fun ii aa hh => Fr.wk (W2 := W_readsRates) (fr_B_readsRates_17 z1 ii aa ) (by rfl)) ((z1 124 1).toNatClampNeg) 0 () (by omega) (frItrB (W := W_readsRates) (m := (fun x : SG => x)) (f := (B_readsRates_5)) 24 (fun ii aa hh => Fr.wk (W2 := W_readsRates) (fr_B_readsRates_5  ii aa  hh) (by rfl)) 24 0 (uset s 123 5 0) (by omega) (Fr.uset (s1 := s) (a := 123) (j := 5) (x := 0) (by rfl) (Fr.rf _ _))); rw [h] at k; exact k))))
set_option maxRecDepth 20000 in
set_option maxHeartbeats 200000 in
theorem ux_readsRates (s : SG)   : UP m_X7_readsRates 0 (m_ent 2 [.ref 123]) [] s (Qb (F_readsRates s)) := by
  refine UP.stp 5 (i1 := 5) (L1 := [some (.ref 123), some (.int 0)]) (st1 := []) (s1 := (uset s 123 5 0)) rfl ?_
  refine lp (fun (i1 : Nat) (a1 : SG) => UP m_X7_readsRates 5 [some (.ref 123), some (.int (Int32.ofNat i1))] [] a1 (Qb (F_readsRates s))) (fun (_ : Nat) (a1 : SG) => Fr W_readsRates (uset s 123 5 0) a1) (B_readsRates_5) (24) (fun i1 a1 hi1 g1 => g1.tr (fr_B_readsRates_5  i1 a1 hi1)) (fun i1 a1 hi1 g1 kk => ?_) 24 (0) (uset s 123 5 0) (by  omega) (Fr.rf _ _) (fun z1 e1 g1 => ?_)
  · skip
    refine UP.stp 2 (i1 := 7) (L1 := [some (.ref 123), some (.int (Int32.ofNat i1))]) (st1 := [.int 24, .int (Int32.ofNat i1)]) (s1 := a1) rfl ?_
    refine UP.icF rfl (ge_F (show i1 < (24 : Int32).toNatClampNeg from hi1)) ?_
    refine UP.stp 4 (i1 := 12) (L1 := [some (.ref 123), some (.int (Int32.ofNat i1))]) (st1 := [.int 2, .int (Int32.ofNat i1), .ref 128]) (s1 := a1) rfl ?_
    refine UP.ast (e := i1) rfl rfl (by omega) ?_
    show UP m_X7_readsRates 13 [some (.ref 123), some (.int (Int32.ofNat i1))] [] (uset a1 128 i1 2) (Qb (F_readsRates s))
    refine UP.stp 2 (i1 := 5) (L1 := [some (.ref 123), some (.int ((Int32.ofNat i1) + 1))]) (st1 := []) (s1 := (uset a1 128 i1 2)) rfl ?_
    rw [ofn_s]
    try dsimp only [B_readsRates_5] at kk
    exact kk
  refine UP.stp 2 (i1 := 7) (L1 := [some (.ref 123), some (.int (Int32.ofNat 24))]) (st1 := [.int 24, .int (Int32.ofNat 24)]) (s1 := z1) rfl ?_
  refine UP.icT rfl (ge_T (24 : Int32)) ?_
  refine UP.stp 2 (i1 := 17) (L1 := [some (.ref 123), some (.int 0)]) (st1 := []) (s1 := z1) rfl ?_
  refine lpx (fun (i2 : Nat) (a2 : Unit) => UP m_X7_readsRates 17 [some (.ref 123), some (.int (Int32.ofNat i2))] [] z1 (Qb (F_readsRates s))) (fun (_ : Nat) (b2 : Int32 × SG) => (F_readsRates s) = b2) (fun (_ : Nat) (a2 : Unit) => Fr W_readsRates z1 z1) (B_readsRates_17 z1) ((z1 124 1).toNatClampNeg) (fun i2 a2 x2 hi2 g2 e => g2) (fun i2 a2 hi2 g2 kk => ?_) ((z1 124 1).toNatClampNeg) (0) () (by omega) (Fr.rf _ _) (fun z2 e2 g2 => ?_) (fun i2 a2 b2 e2 hi2 g2 f2 => by have q : (F_readsRates s) = Sum.elim (fun z2 : Unit => let z6 := itr (B_readsRates_37) 0 ((z1 124 1).toNatClampNeg) z1; let v9 := z6 124 1; ((-1), (uset z6 123 5 v9))) (fun x : Nat × (Int32 × SG) => x.2) (itx (B_readsRates_17 z1) 0 ((z1 124 1).toNatClampNeg) ()) := (by subst e1; first | (dsimp only [F_readsRates]; done) | (dsimp only; done) | rfl); rw [q, e2]; first | (dsimp only [Sum.elim_inr]; done) | rfl)
  · skip
    have hbi2 := cl_lt (z1 124 1)
    refine UP.stp 5 (i1 := 22) (L1 := [some (.ref 123), some (.int (Int32.ofNat i2))]) (st1 := [.int (z1 124 1), .int (Int32.ofNat i2)]) (s1 := z1) rfl ?_
    refine UP.icF rfl (ge_F hi2) ?_
    refine UP.stp 3 (i1 := 26) (L1 := [some (.ref 123), some (.int (Int32.ofNat i2))]) (st1 := [.int (Int32.ofNat i2), .int 1, .ref 123]) (s1 := z1) rfl ?_
    refine UP.cI (M1 := m_X7_byteAt) (as := [.ref 123, .int 1, .int (Int32.ofNat i2)]) (rest := []) (T := F_byteAt_1 z1 (Int32.ofNat i2)) rfl rfl (ux_byteAt_1 z1 (Int32.ofNat i2)) ?_
    refine UP.stp 2 (i1 := 29) (L1 := [some (.ref 123), some (.int (Int32.ofNat i2))]) (st1 := [.int 51, .int 48, .int (F_byteAt_1 z1 (Int32.ofNat i2))]) (s1 := z1) rfl ?_
    refine UP.cI (M1 := m_X7_in) (as := [.int (F_byteAt_1 z1 (Int32.ofNat i2)), .int 48, .int 51]) (rest := []) (T := F_in z1 (F_byteAt_1 z1 (Int32.ofNat i2)) 48 51) rfl rfl (ux_in z1 (F_byteAt_1 z1 (Int32.ofNat i2)) 48 51) ?_
    refine brk (K := (Kx (fun (i2 : Nat) (a2 : Unit) => UP m_X7_readsRates 17 [some (.ref 123), some (.int (Int32.ofNat i2))] [] z1 (Qb (F_readsRates s))) (fun (_ : Nat) (b2 : Int32 × SG) => (F_readsRates s) = b2) i2)) (m_cmp .ne (F_in z1 (F_byteAt_1 z1 (Int32.ofNat i2)) 48 51) 0) (.inl ()) (.inr (Int32.ofNat i2, z1)) (by (try dsimp only [B_readsRates_17] at kk ⊢); exact kk) (fun cc kk => ?_) (fun cc kk => ?_)
    · skip
      refine UP.ifT rfl cc ?_
      refine UP.stp 2 (i1 := 17) (L1 := [some (.ref 123), some (.int ((Int32.ofNat i2) + 1))]) (st1 := []) (s1 := z1) rfl ?_
      rw [ofn_s]
      exact kk
    · skip
      refine UP.ifF rfl cc ?_
      refine UP.stp 1 (i1 := 32) (L1 := [some (.ref 123), some (.int (Int32.ofNat i2))]) (st1 := [.int (Int32.ofNat i2)]) (s1 := z1) rfl ?_
      have kk : (F_readsRates s) = (Int32.ofNat i2, z1) := by exact kk
      exact UP.ret (r := some (.int (Int32.ofNat i2))) rfl ⟨by rw [kk], by rw [kk]⟩
  · skip
    refine UP.eqT (let z6 := itr (B_readsRates_37) 0 ((z1 124 1).toNatClampNeg) z1; let v9 := z6 124 1; ((-1), (uset z6 123 5 v9))) (by have q : (F_readsRates s) = Sum.elim (fun z2 : Unit => let z6 := itr (B_readsRates_37) 0 ((z1 124 1).toNatClampNeg) z1; let v9 := z6 124 1; ((-1), (uset z6 123 5 v9))) (fun x : Nat × (Int32 × SG) => x.2) (itx (B_readsRates_17 z1) 0 ((z1 124 1).toNatClampNeg) ()) := (by subst e1; first | (dsimp only [F_readsRates]; done) | (dsimp only; done) | rfl); rw [q, e2]; first | (dsimp only [Sum.elim_inl]; done) | rfl) ?_
    refine UP.stp 5 (i1 := 22) (L1 := [some (.ref 123), some (.int (Int32.ofNat ((z1 124 1).toNatClampNeg)))]) (st1 := [.int (z1 124 1), .int (Int32.ofNat ((z1 124 1).toNatClampNeg))]) (s1 := z1) rfl ?_
    refine UP.icT rfl (ge_T _) ?_
    refine UP.stp 2 (i1 := 37) (L1 := [some (.ref 123), some (.int 0)]) (st1 := []) (s1 := z1) rfl ?_
    refine lp (fun (i6 : Nat) (a6 : SG) => UP m_X7_readsRates 37 [some (.ref 123), some (.int (Int32.ofNat i6))] [] a6 (Qb (let z6 := itr (B_readsRates_37) 0 ((z1 124 1).toNatClampNeg) z1; let v9 := z6 124 1; ((-1), (uset z6 123 5 v9))))) (fun (_ : Nat) (a6 : SG) => Fr W_readsRates z1 a6) (B_readsRates_37) ((z1 124 1).toNatClampNeg) (fun i6 a6 hi6 g6 => g6.tr (fr_B_readsRates_37  i6 a6 )) (fun i6 a6 hi6 g6 kk => ?_) ((z1 124 1).toNatClampNeg) (0) z1 (by  omega) (Fr.rf _ _) (fun z6 e6 g6 => ?_)
    · skip
      have hbi6 := cl_lt (z1 124 1)
      refine UP.stp 5 (i1 := 42) (L1 := [some (.ref 123), some (.int (Int32.ofNat i6))]) (st1 := [.int (a6 124 1), .int (Int32.ofNat i6)]) (s1 := a6) rfl ?_
      refine UP.icF rfl (by rw [(g6 124 1 rfl)]; exact ge_F hi6) ?_
      refine UP.stp 6 (i1 := 49) (L1 := [some (.ref 123), some (.int (Int32.ofNat i6))]) (st1 := [.int (Int32.ofNat i6), .int 1, .ref 123, .int (Int32.ofNat i6), .ref 128]) (s1 := a6) rfl ?_
      refine UP.cI (M1 := m_X7_byteAt) (as := [.ref 123, .int 1, .int (Int32.ofNat i6)]) (rest := [.int (Int32.ofNat i6), .ref 128]) (T := F_byteAt_1 a6 (Int32.ofNat i6)) rfl rfl (ux_byteAt_1 a6 (Int32.ofNat i6)) ?_
      refine UP.stp 2 (i1 := 52) (L1 := [some (.ref 123), some (.int (Int32.ofNat i6))]) (st1 := [.int ((F_byteAt_1 a6 (Int32.ofNat i6)) - 48), .int (Int32.ofNat i6), .ref 128]) (s1 := a6) rfl ?_
      refine nm (G := fun v8 => UP m_X7_readsRates 52 [some (.ref 123), some (.int (Int32.ofNat i6))] [.int v8, .int (Int32.ofNat i6), .ref 128] a6 (Qb (let z6 := itr (B_readsRates_37) 0 ((z1 124 1).toNatClampNeg) z1; let v9 := z6 124 1; ((-1), (uset z6 123 5 v9))))) ((F_byteAt_1 a6 (Int32.ofNat i6)) - 48) (fun v8 e8 => ?_)
      refine UP.ast (e := i6) rfl rfl (by omega) ?_
      show UP m_X7_readsRates 53 [some (.ref 123), some (.int (Int32.ofNat i6))] [] (uset a6 128 i6 v8) (Qb (let z6 := itr (B_readsRates_37) 0 ((z1 124 1).toNatClampNeg) z1; let v9 := z6 124 1; ((-1), (uset z6 123 5 v9))))
      refine UP.stp 2 (i1 := 37) (L1 := [some (.ref 123), some (.int ((Int32.ofNat i6) + 1))]) (st1 := []) (s1 := (uset a6 128 i6 v8)) rfl ?_
      subst e8
      rw [ofn_s]
      try dsimp only [B_readsRates_37] at kk
      exact kk
    refine UP.stp 5 (i1 := 42) (L1 := [some (.ref 123), some (.int (Int32.ofNat ((z1 124 1).toNatClampNeg)))]) (st1 := [.int (z6 124 1), .int (Int32.ofNat ((z1 124 1).toNatClampNeg))]) (s1 := z6) rfl ?_
    refine UP.icT rfl (by rw [(g6 124 1 rfl)]; exact ge_T _) ?_
    refine UP.stp 5 (i1 := 60) (L1 := [some (.ref 123), some (.int (Int32.ofNat ((z1 124 1).toNatClampNeg)))]) (st1 := [.int (z6 124 1), .ref 123]) (s1 := z6) rfl ?_
    refine nm (G := fun v9 => UP m_X7_readsRates 60 [some (.ref 123), some (.int (Int32.ofNat ((z1 124 1).toNatClampNeg)))] [.int v9, .ref 123] z6 (Qb (let z6 := itr (B_readsRates_37) 0 ((z1 124 1).toNatClampNeg) z1; let v9 := z6 124 1; ((-1), (uset z6 123 5 v9))))) (z6 124 1) (fun v9 e9 => ?_)
    refine UP.stp 2 (i1 := 62) (L1 := [some (.ref 123), some (.int (Int32.ofNat ((z1 124 1).toNatClampNeg)))]) (st1 := [.int (-1)]) (s1 := (uset z6 123 5 v9)) rfl ?_
    exact UP.ret (r := some (.int (-1))) rfl ⟨by subst e9 e6 e1; first | (dsimp only [F_readsRates]; done) | (dsimp only; done) | rfl, by subst e9 e6 e1; first | (dsimp only [F_readsRates]; done) | (dsimp only; done) | rfl⟩
end
section
def W_rudderBy : List (Nat × Nat × Option Nat) := []
def F_rudderBy (s : SG) (b : Int32) : Int32 := let v3 := bif m_cmp .ne b 45 then (bif m_cmp .ne b 108 then (bif m_cmp .ne b 114 then (-1 : Int32) else (2 : Int32)) else (1 : Int32)) else (0 : Int32); v3
set_option maxRecDepth 20000 in
set_option maxHeartbeats 200000 in
theorem ux_rudderBy (s : SG) (b : Int32)  : UP m_X7_rudderBy 0 (m_ent 1 [.int b]) [] s (Qi s (F_rudderBy s b)) := by
  refine UP.stp 2 (i1 := 2) (L1 := [some (.int b)]) (st1 := [.int 45, .int b]) (s1 := s) rfl ?_
  refine mrg (m_cmp .ne b 45) (bif m_cmp .ne b 108 then (bif m_cmp .ne b 114 then (-1 : Int32) else (2 : Int32)) else (1 : Int32)) (0 : Int32) (fun v3 : Int32 => UP m_X7_rudderBy 16 [some (.int b)] [.int v3] s (Qi s (F_rudderBy s b))) (fun cc kk => ?_) (fun cc kk => ?_) (fun v3 e3 => ?_)
  · skip
    refine UP.icT rfl cc ?_
    refine UP.stp 2 (i1 := 7) (L1 := [some (.int b)]) (st1 := [.int 108, .int b]) (s1 := s) rfl ?_
    refine mrg (m_cmp .ne b 108) (bif m_cmp .ne b 114 then (-1 : Int32) else (2 : Int32)) (1 : Int32) (fun v2 : Int32 => UP m_X7_rudderBy 16 [some (.int b)] [.int v2] s (Qi s (F_rudderBy s b))) (fun cc kk => ?_) (fun cc kk => ?_) (fun v2 e2 => ?_)
    · skip
      refine UP.icT rfl cc ?_
      refine UP.stp 2 (i1 := 12) (L1 := [some (.int b)]) (st1 := [.int 114, .int b]) (s1 := s) rfl ?_
      refine mrg (m_cmp .ne b 114) (-1 : Int32) (2 : Int32) (fun v1 : Int32 => UP m_X7_rudderBy 16 [some (.int b)] [.int v1] s (Qi s (F_rudderBy s b))) (fun cc kk => ?_) (fun cc kk => ?_) (fun v1 e1 => ?_)
      · skip
        refine UP.icT rfl cc ?_
        refine UP.stp 1 (i1 := 16) (L1 := [some (.int b)]) (st1 := [.int (-1)]) (s1 := s) rfl ?_
        exact kk
      · skip
        refine UP.icF rfl cc ?_
        refine UP.stp 2 (i1 := 16) (L1 := [some (.int b)]) (st1 := [.int 2]) (s1 := s) rfl ?_
        exact kk
      subst e1
      exact kk
    · skip
      refine UP.icF rfl cc ?_
      refine UP.stp 2 (i1 := 16) (L1 := [some (.int b)]) (st1 := [.int 1]) (s1 := s) rfl ?_
      exact kk
    subst e2
    exact kk
  · skip
    refine UP.icF rfl cc ?_
    refine UP.stp 2 (i1 := 16) (L1 := [some (.int b)]) (st1 := [.int 0]) (s1 := s) rfl ?_
    exact kk
  exact UP.ret (r := some (.int v3)) rfl ⟨by subst e3; first | (dsimp only [F_rudderBy]; done) | (dsimp only; done) | rfl, by subst e3; first | (dsimp only [F_rudderBy]; done) | (dsimp only; done) | rfl⟩
end
section
def W_readsRudder : List (Nat × Nat × Option Nat) := [(129, 129, none), (123, 123, some 7)]
def B_readsRudder_5  (i1 : Nat) (a1 : SG) : SG := (uset a1 129 i1 0)
set_option maxRecDepth 20000 in
set_option maxHeartbeats 200000 in
theorem fr_B_readsRudder_5  (i1 : Nat) (a1 : SG)  (hi1 : i1 < 24) : Fr W_readsRudder a1 ((B_readsRudder_5) i1 a1) := by dsimp only [B_readsRudder_5]; exact (Fr.uset (s1 := a1) (a := 129) (j := i1) (x := 0) (by rfl) (Fr.rf _ _))
def B_readsRudder_17 (z1 : SG) (i2 : Nat) (a2 : Unit) : (Unit) ⊕ (Int32 × SG) := bif m_cmp .ne (F_rudderBy z1 (F_byteAt_2 z1 (Int32.ofNat i2))) (-1) then (.inl ()) else (.inr (Int32.ofNat i2, z1))
set_option maxRecDepth 20000 in
set_option maxHeartbeats 200000 in
theorem fr_B_readsRudder_17 (z1 : SG) (i2 : Nat) (a2 : Unit)  : Fr W_readsRudder z1 ((Sum.elim (fun _ : Unit => z1) (fun x : Int32 × SG => x.2)) ((B_readsRudder_17 z1) i2 a2)) := by dsimp only [B_readsRudder_17]; exact (Fr.bifp (Sum.elim (fun _ : Unit => z1) (fun x : Int32 × SG => x.2)) (by (try dsimp only [Sum.elim_inl, Sum.elim_inr]); exact (Fr.rf _ _)) (by (try dsimp only [Sum.elim_inl, Sum.elim_inr]); exact (Fr.rf _ _)))
def B_readsRudder_36  (i6 : Nat) (a6 : SG) : SG := let v9 := F_rudderBy a6 (F_byteAt_2 a6 (Int32.ofNat i6)); (uset a6 129 i6 v9)
set_option maxRecDepth 20000 in
set_option maxHeartbeats 200000 in
theorem fr_B_readsRudder_36  (i6 : Nat) (a6 : SG)   : Fr W_readsRudder a6 ((B_readsRudder_36) i6 a6) := by dsimp only [B_readsRudder_36]; exact (let v9 : Int32 := F_rudderBy a6 (F_byteAt_2 a6 (Int32.ofNat i6)); (Fr.uset (s1 := a6) (a := 129) (j := i6) (x := v9) (by rfl) (Fr.rf _ _)))
def F_readsRudder (s : SG)  : Int32 × SG := let z1 := itr (B_readsRudder_5) 0 24 (uset s 123 7 0); Sum.elim (fun z2 : Unit => let z6 := itr (B_readsRudder_36) 0 ((z1 124 2).toNatClampNeg) z1; let v10 := z6 124 2; ((-1), (uset z6 123 7 v10))) (fun x : Nat × (Int32 × SG) => x.2) (itx (B_readsRudder_17 z1) 0 ((z1 124 2).toNatClampNeg) ())
set_option maxRecDepth 20000 in
set_option maxHeartbeats 200000 in
theorem fr_readsRudder (s : SG)   : Fr W_readsRudder s (F_readsRudder s).2 := by dsimp only [F_readsRudder]; exact (let z1 : SG := itr (B_readsRudder_5) 0 24 (uset s 123 7 0); (frElim (m := (fun x : Int32 × SG => x.2)) (fun z2 h => (let z6 : SG := itr (B_readsRudder_36) 0 ((z1 124 2).toNatClampNeg) z1; (let v10 : Int32 := z6 124 2; (Fr.uset (s1 := z6) (a := 123) (j := 7) (x := v10) (by rfl) (Fr.itr (W := W_readsRudder) (m := (fun x : SG => x)) (f := (B_readsRudder_36)) (fun ii aa => Fr.wk (W2 := W_readsRudder) (fr_B_readsRudder_36  ii aa ) (by rfl)) ((z1 124 2).toNatClampNeg) 0 z1 (frItrB (W := W_readsRudder) (m := (fun x : SG => x)) (f := (B_readsRudder_5)) 24 (fun ii aa hh => Fr.wk (W2 := W_readsRudder) (fr_B_readsRudder_5  ii aa  hh) (by rfl)) 24 0 (uset s 123 7 0) (by omega) (Fr.uset (s1 := s) (a := 123) (j := 7) (x := 0) (by rfl) (Fr.rf _ _)))))))) (fun x h => (by have k := frItx (W := W_readsRudder) (m1 := (fun _ : Unit => z1)) (m2 := (fun x : Int32 × SG => x.2)) (f := (B_readsRudder_17 z1)) ((z1 124 2).toNatClampNeg) (fun ii aa hh => Fr.wk (W2 := W_readsRudder) (fr_B_readsRudder_17 z1 ii aa ) (by rfl)) ((z1 124 2).toNatClampNeg) 0 () (by omega) (frItrB (W := W_readsRudder) (m := (fun x : SG => x)) (f := (B_readsRudder_5)) 24 (fun ii aa hh => Fr.wk (W2 := W_readsRudder) (fr_B_readsRudder_5  ii aa  hh) (by rfl)) 24 0 (uset s 123 7 0) (by omega) (Fr.uset (s1 := s) (a := 123) (j := 7) (x := 0) (by rfl) (Fr.rf _ _))); rw [h] at k; exact k))))
set_option maxRecDepth 20000 in
set_option maxHeartbeats 200000 in
theorem ux_readsRudder (s : SG)   : UP m_X7_readsRudder 0 (m_ent 2 [.ref 123]) [] s (Qb (F_readsRudder s)) := by
  refine UP.stp 5 (i1 := 5) (L1 := [some (.ref 123), some (.int 0)]) (st1 := []) (s1 := (uset s 123 7 0)) rfl ?_
  refine lp (fun (i1 : Nat) (a1 : SG) => UP m_X7_readsRudder 5 [some (.ref 123), some (.int (Int32.ofNat i1))] [] a1 (Qb (F_readsRudder s))) (fun (_ : Nat) (a1 : SG) => Fr W_readsRudder (uset s 123 7 0) a1) (B_readsRudder_5) (24) (fun i1 a1 hi1 g1 => g1.tr (fr_B_readsRudder_5  i1 a1 hi1)) (fun i1 a1 hi1 g1 kk => ?_) 24 (0) (uset s 123 7 0) (by  omega) (Fr.rf _ _) (fun z1 e1 g1 => ?_)
  · skip
    refine UP.stp 2 (i1 := 7) (L1 := [some (.ref 123), some (.int (Int32.ofNat i1))]) (st1 := [.int 24, .int (Int32.ofNat i1)]) (s1 := a1) rfl ?_
    refine UP.icF rfl (ge_F (show i1 < (24 : Int32).toNatClampNeg from hi1)) ?_
    refine UP.stp 4 (i1 := 12) (L1 := [some (.ref 123), some (.int (Int32.ofNat i1))]) (st1 := [.int 0, .int (Int32.ofNat i1), .ref 129]) (s1 := a1) rfl ?_
    refine UP.ast (e := i1) rfl rfl (by omega) ?_
    show UP m_X7_readsRudder 13 [some (.ref 123), some (.int (Int32.ofNat i1))] [] (uset a1 129 i1 0) (Qb (F_readsRudder s))
    refine UP.stp 2 (i1 := 5) (L1 := [some (.ref 123), some (.int ((Int32.ofNat i1) + 1))]) (st1 := []) (s1 := (uset a1 129 i1 0)) rfl ?_
    rw [ofn_s]
    try dsimp only [B_readsRudder_5] at kk
    exact kk
  refine UP.stp 2 (i1 := 7) (L1 := [some (.ref 123), some (.int (Int32.ofNat 24))]) (st1 := [.int 24, .int (Int32.ofNat 24)]) (s1 := z1) rfl ?_
  refine UP.icT rfl (ge_T (24 : Int32)) ?_
  refine UP.stp 2 (i1 := 17) (L1 := [some (.ref 123), some (.int 0)]) (st1 := []) (s1 := z1) rfl ?_
  refine lpx (fun (i2 : Nat) (a2 : Unit) => UP m_X7_readsRudder 17 [some (.ref 123), some (.int (Int32.ofNat i2))] [] z1 (Qb (F_readsRudder s))) (fun (_ : Nat) (b2 : Int32 × SG) => (F_readsRudder s) = b2) (fun (_ : Nat) (a2 : Unit) => Fr W_readsRudder z1 z1) (B_readsRudder_17 z1) ((z1 124 2).toNatClampNeg) (fun i2 a2 x2 hi2 g2 e => g2) (fun i2 a2 hi2 g2 kk => ?_) ((z1 124 2).toNatClampNeg) (0) () (by omega) (Fr.rf _ _) (fun z2 e2 g2 => ?_) (fun i2 a2 b2 e2 hi2 g2 f2 => by have q : (F_readsRudder s) = Sum.elim (fun z2 : Unit => let z6 := itr (B_readsRudder_36) 0 ((z1 124 2).toNatClampNeg) z1; let v10 := z6 124 2; ((-1), (uset z6 123 7 v10))) (fun x : Nat × (Int32 × SG) => x.2) (itx (B_readsRudder_17 z1) 0 ((z1 124 2).toNatClampNeg) ()) := (by subst e1; first | (dsimp only [F_readsRudder]; done) | (dsimp only; done) | rfl); rw [q, e2]; first | (dsimp only [Sum.elim_inr]; done) | rfl)
  · skip
    have hbi2 := cl_lt (z1 124 2)
    refine UP.stp 5 (i1 := 22) (L1 := [some (.ref 123), some (.int (Int32.ofNat i2))]) (st1 := [.int (z1 124 2), .int (Int32.ofNat i2)]) (s1 := z1) rfl ?_
    refine UP.icF rfl (ge_F hi2) ?_
    refine UP.stp 3 (i1 := 26) (L1 := [some (.ref 123), some (.int (Int32.ofNat i2))]) (st1 := [.int (Int32.ofNat i2), .int 2, .ref 123]) (s1 := z1) rfl ?_
    refine UP.cI (M1 := m_X7_byteAt) (as := [.ref 123, .int 2, .int (Int32.ofNat i2)]) (rest := []) (T := F_byteAt_2 z1 (Int32.ofNat i2)) rfl rfl (ux_byteAt_2 z1 (Int32.ofNat i2)) ?_
    refine UP.cI (M1 := m_X7_rudderBy) (as := [.int (F_byteAt_2 z1 (Int32.ofNat i2))]) (rest := []) (T := F_rudderBy z1 (F_byteAt_2 z1 (Int32.ofNat i2))) rfl rfl (ux_rudderBy z1 (F_byteAt_2 z1 (Int32.ofNat i2))) ?_
    refine UP.stp 1 (i1 := 29) (L1 := [some (.ref 123), some (.int (Int32.ofNat i2))]) (st1 := [.int (-1), .int (F_rudderBy z1 (F_byteAt_2 z1 (Int32.ofNat i2)))]) (s1 := z1) rfl ?_
    refine brk (K := (Kx (fun (i2 : Nat) (a2 : Unit) => UP m_X7_readsRudder 17 [some (.ref 123), some (.int (Int32.ofNat i2))] [] z1 (Qb (F_readsRudder s))) (fun (_ : Nat) (b2 : Int32 × SG) => (F_readsRudder s) = b2) i2)) (m_cmp .ne (F_rudderBy z1 (F_byteAt_2 z1 (Int32.ofNat i2))) (-1)) (.inl ()) (.inr (Int32.ofNat i2, z1)) (by (try dsimp only [B_readsRudder_17] at kk ⊢); exact kk) (fun cc kk => ?_) (fun cc kk => ?_)
    · skip
      refine UP.icT rfl cc ?_
      refine UP.stp 2 (i1 := 17) (L1 := [some (.ref 123), some (.int ((Int32.ofNat i2) + 1))]) (st1 := []) (s1 := z1) rfl ?_
      rw [ofn_s]
      exact kk
    · skip
      refine UP.icF rfl cc ?_
      refine UP.stp 1 (i1 := 31) (L1 := [some (.ref 123), some (.int (Int32.ofNat i2))]) (st1 := [.int (Int32.ofNat i2)]) (s1 := z1) rfl ?_
      have kk : (F_readsRudder s) = (Int32.ofNat i2, z1) := by exact kk
      exact UP.ret (r := some (.int (Int32.ofNat i2))) rfl ⟨by rw [kk], by rw [kk]⟩
  · skip
    refine UP.eqT (let z6 := itr (B_readsRudder_36) 0 ((z1 124 2).toNatClampNeg) z1; let v10 := z6 124 2; ((-1), (uset z6 123 7 v10))) (by have q : (F_readsRudder s) = Sum.elim (fun z2 : Unit => let z6 := itr (B_readsRudder_36) 0 ((z1 124 2).toNatClampNeg) z1; let v10 := z6 124 2; ((-1), (uset z6 123 7 v10))) (fun x : Nat × (Int32 × SG) => x.2) (itx (B_readsRudder_17 z1) 0 ((z1 124 2).toNatClampNeg) ()) := (by subst e1; first | (dsimp only [F_readsRudder]; done) | (dsimp only; done) | rfl); rw [q, e2]; first | (dsimp only [Sum.elim_inl]; done) | rfl) ?_
    refine UP.stp 5 (i1 := 22) (L1 := [some (.ref 123), some (.int (Int32.ofNat ((z1 124 2).toNatClampNeg)))]) (st1 := [.int (z1 124 2), .int (Int32.ofNat ((z1 124 2).toNatClampNeg))]) (s1 := z1) rfl ?_
    refine UP.icT rfl (ge_T _) ?_
    refine UP.stp 2 (i1 := 36) (L1 := [some (.ref 123), some (.int 0)]) (st1 := []) (s1 := z1) rfl ?_
    refine lp (fun (i6 : Nat) (a6 : SG) => UP m_X7_readsRudder 36 [some (.ref 123), some (.int (Int32.ofNat i6))] [] a6 (Qb (let z6 := itr (B_readsRudder_36) 0 ((z1 124 2).toNatClampNeg) z1; let v10 := z6 124 2; ((-1), (uset z6 123 7 v10))))) (fun (_ : Nat) (a6 : SG) => Fr W_readsRudder z1 a6) (B_readsRudder_36) ((z1 124 2).toNatClampNeg) (fun i6 a6 hi6 g6 => g6.tr (fr_B_readsRudder_36  i6 a6 )) (fun i6 a6 hi6 g6 kk => ?_) ((z1 124 2).toNatClampNeg) (0) z1 (by  omega) (Fr.rf _ _) (fun z6 e6 g6 => ?_)
    · skip
      have hbi6 := cl_lt (z1 124 2)
      refine UP.stp 5 (i1 := 41) (L1 := [some (.ref 123), some (.int (Int32.ofNat i6))]) (st1 := [.int (a6 124 2), .int (Int32.ofNat i6)]) (s1 := a6) rfl ?_
      refine UP.icF rfl (by rw [(g6 124 2 rfl)]; exact ge_F hi6) ?_
      refine UP.stp 6 (i1 := 48) (L1 := [some (.ref 123), some (.int (Int32.ofNat i6))]) (st1 := [.int (Int32.ofNat i6), .int 2, .ref 123, .int (Int32.ofNat i6), .ref 129]) (s1 := a6) rfl ?_
      refine UP.cI (M1 := m_X7_byteAt) (as := [.ref 123, .int 2, .int (Int32.ofNat i6)]) (rest := [.int (Int32.ofNat i6), .ref 129]) (T := F_byteAt_2 a6 (Int32.ofNat i6)) rfl rfl (ux_byteAt_2 a6 (Int32.ofNat i6)) ?_
      refine UP.cI (M1 := m_X7_rudderBy) (as := [.int (F_byteAt_2 a6 (Int32.ofNat i6))]) (rest := [.int (Int32.ofNat i6), .ref 129]) (T := F_rudderBy a6 (F_byteAt_2 a6 (Int32.ofNat i6))) rfl rfl (ux_rudderBy a6 (F_byteAt_2 a6 (Int32.ofNat i6))) ?_
      refine nm (G := fun v9 => UP m_X7_readsRudder 50 [some (.ref 123), some (.int (Int32.ofNat i6))] [.int v9, .int (Int32.ofNat i6), .ref 129] a6 (Qb (let z6 := itr (B_readsRudder_36) 0 ((z1 124 2).toNatClampNeg) z1; let v10 := z6 124 2; ((-1), (uset z6 123 7 v10))))) (F_rudderBy a6 (F_byteAt_2 a6 (Int32.ofNat i6))) (fun v9 e9 => ?_)
      refine UP.ast (e := i6) rfl rfl (by omega) ?_
      show UP m_X7_readsRudder 51 [some (.ref 123), some (.int (Int32.ofNat i6))] [] (uset a6 129 i6 v9) (Qb (let z6 := itr (B_readsRudder_36) 0 ((z1 124 2).toNatClampNeg) z1; let v10 := z6 124 2; ((-1), (uset z6 123 7 v10))))
      refine UP.stp 2 (i1 := 36) (L1 := [some (.ref 123), some (.int ((Int32.ofNat i6) + 1))]) (st1 := []) (s1 := (uset a6 129 i6 v9)) rfl ?_
      subst e9
      rw [ofn_s]
      try dsimp only [B_readsRudder_36] at kk
      exact kk
    refine UP.stp 5 (i1 := 41) (L1 := [some (.ref 123), some (.int (Int32.ofNat ((z1 124 2).toNatClampNeg)))]) (st1 := [.int (z6 124 2), .int (Int32.ofNat ((z1 124 2).toNatClampNeg))]) (s1 := z6) rfl ?_
    refine UP.icT rfl (by rw [(g6 124 2 rfl)]; exact ge_T _) ?_
    refine UP.stp 5 (i1 := 58) (L1 := [some (.ref 123), some (.int (Int32.ofNat ((z1 124 2).toNatClampNeg)))]) (st1 := [.int (z6 124 2), .ref 123]) (s1 := z6) rfl ?_
    refine nm (G := fun v10 => UP m_X7_readsRudder 58 [some (.ref 123), some (.int (Int32.ofNat ((z1 124 2).toNatClampNeg)))] [.int v10, .ref 123] z6 (Qb (let z6 := itr (B_readsRudder_36) 0 ((z1 124 2).toNatClampNeg) z1; let v10 := z6 124 2; ((-1), (uset z6 123 7 v10))))) (z6 124 2) (fun v10 e10 => ?_)
    refine UP.stp 2 (i1 := 60) (L1 := [some (.ref 123), some (.int (Int32.ofNat ((z1 124 2).toNatClampNeg)))]) (st1 := [.int (-1)]) (s1 := (uset z6 123 7 v10)) rfl ?_
    exact UP.ret (r := some (.int (-1))) rfl ⟨by subst e10 e6 e1; first | (dsimp only [F_readsRudder]; done) | (dsimp only; done) | rfl, by subst e10 e6 e1; first | (dsimp only [F_readsRudder]; done) | (dsimp only; done) | rfl⟩
end
section
def W_faultOf : List (Nat × Nat × Option Nat) := [(126, 129, none), (123, 123, some 2), (123, 123, some 5), (123, 123, some 7)]
def F_faultOf (s : SG) (text : Int32) : Int32 × SG := let z1 := F_readsCrew s ; let z2 := F_readsRates z1.2 ; let z3 := F_readsRudder z2.2 ; let v5 := bif m_cmp .ne text 0 then (bif m_cmp .ne text 1 then z3.1 else z2.1) else z1.1; (v5, z3.2)
set_option maxRecDepth 20000 in
set_option maxHeartbeats 200000 in
theorem fr_faultOf (s : SG) (text : Int32)  : Fr W_faultOf s (F_faultOf s text).2 := by dsimp only [F_faultOf]; exact (let z1 : Int32 × SG := F_readsCrew s ; (let z2 : Int32 × SG := F_readsRates z1.2 ; (Fr.tr (s1 := z2.2) (Fr.tr (s1 := z1.2) (Fr.tr (s1 := s) (Fr.rf _ _) (Fr.wk (W2 := W_faultOf) (fr_readsCrew s ) (by rfl))) (Fr.wk (W2 := W_faultOf) (fr_readsRates z1.2 ) (by rfl))) (Fr.wk (W2 := W_faultOf) (fr_readsRudder z2.2 ) (by rfl)))))
set_option maxRecDepth 20000 in
set_option maxHeartbeats 200000 in
theorem ux_faultOf (s : SG) (text : Int32)  : UP m_X7_faultOf 0 (m_ent 5 [.ref 123, .int text]) [] s (Qb (F_faultOf s text)) := by
  refine UP.stp 1 (i1 := 1) (L1 := [some (.ref 123), some (.int text), none, none, none]) (st1 := [.ref 123]) (s1 := s) rfl ?_
  refine UP.cB (M1 := m_X7_readsCrew) (as := [.ref 123]) (rest := []) (T := F_readsCrew s ) rfl rfl (ux_readsCrew s ) (fun z1 e1 => ?_)
  refine UP.stp 2 (i1 := 4) (L1 := [some (.ref 123), some (.int text), some (.int z1.1), none, none]) (st1 := [.ref 123]) (s1 := z1.2) rfl ?_
  refine UP.cB (M1 := m_X7_readsRates) (as := [.ref 123]) (rest := []) (T := F_readsRates z1.2 ) rfl rfl (ux_readsRates z1.2 ) (fun z2 e2 => ?_)
  refine UP.stp 2 (i1 := 7) (L1 := [some (.ref 123), some (.int text), some (.int z1.1), some (.int z2.1), none]) (st1 := [.ref 123]) (s1 := z2.2) rfl ?_
  refine UP.cB (M1 := m_X7_readsRudder) (as := [.ref 123]) (rest := []) (T := F_readsRudder z2.2 ) rfl rfl (ux_readsRudder z2.2 ) (fun z3 e3 => ?_)
  refine UP.stp 2 (i1 := 10) (L1 := [some (.ref 123), some (.int text), some (.int z1.1), some (.int z2.1), some (.int z3.1)]) (st1 := [.int text]) (s1 := z3.2) rfl ?_
  refine mrg (m_cmp .ne text 0) (bif m_cmp .ne text 1 then z3.1 else z2.1) z1.1 (fun v5 : Int32 => UP m_X7_faultOf 19 [some (.ref 123), some (.int text), some (.int z1.1), some (.int z2.1), some (.int z3.1)] [.int v5] z3.2 (Qb (F_faultOf s text))) (fun cc kk => ?_) (fun cc kk => ?_) (fun v5 e5 => ?_)
  · skip
    refine UP.ifT rfl cc ?_
    refine UP.stp 2 (i1 := 15) (L1 := [some (.ref 123), some (.int text), some (.int z1.1), some (.int z2.1), some (.int z3.1)]) (st1 := [.int 1, .int text]) (s1 := z3.2) rfl ?_
    refine mrg (m_cmp .ne text 1) z3.1 z2.1 (fun v4 : Int32 => UP m_X7_faultOf 19 [some (.ref 123), some (.int text), some (.int z1.1), some (.int z2.1), some (.int z3.1)] [.int v4] z3.2 (Qb (F_faultOf s text))) (fun cc kk => ?_) (fun cc kk => ?_) (fun v4 e4 => ?_)
    · skip
      refine UP.icT rfl cc ?_
      refine UP.stp 1 (i1 := 19) (L1 := [some (.ref 123), some (.int text), some (.int z1.1), some (.int z2.1), some (.int z3.1)]) (st1 := [.int z3.1]) (s1 := z3.2) rfl ?_
      exact kk
    · skip
      refine UP.icF rfl cc ?_
      refine UP.stp 2 (i1 := 19) (L1 := [some (.ref 123), some (.int text), some (.int z1.1), some (.int z2.1), some (.int z3.1)]) (st1 := [.int z2.1]) (s1 := z3.2) rfl ?_
      exact kk
    subst e4
    exact kk
  · skip
    refine UP.ifF rfl cc ?_
    refine UP.stp 2 (i1 := 19) (L1 := [some (.ref 123), some (.int text), some (.int z1.1), some (.int z2.1), some (.int z3.1)]) (st1 := [.int z1.1]) (s1 := z3.2) rfl ?_
    exact kk
  exact UP.ret (r := some (.int v5)) rfl ⟨by subst e5 e3 e2 e1; first | (dsimp only [F_faultOf]; done) | (dsimp only; done) | rfl, by subst e5 e3 e2 e1; first | (dsimp only [F_faultOf]; done) | (dsimp only; done) | rfl⟩
def W_reads : List (Nat × Nat × Option Nat) := [(126, 129, none), (123, 123, some 2), (123, 123, some 5), (123, 123, some 7)]
def F_reads (s : SG)  : SG := let z1 := F_faultOf s 0; z1.2
set_option maxRecDepth 20000 in
set_option maxHeartbeats 200000 in
theorem fr_reads (s : SG)   : Fr W_reads s (F_reads s) := by dsimp only [F_reads]; exact (Fr.tr (s1 := s) (Fr.rf _ _) (Fr.wk (W2 := W_reads) (fr_faultOf s 0) (by rfl)))
set_option maxRecDepth 20000 in
set_option maxHeartbeats 200000 in
theorem ux_reads (s : SG)   : UP m_X7_reads 0 (m_ent 2 [.ref 123]) [] s (Qv (F_reads s)) := by
  refine UP.stp 2 (i1 := 2) (L1 := [some (.ref 123), none]) (st1 := [.int 0, .ref 123]) (s1 := s) rfl ?_
  refine UP.cB (M1 := m_X7_faultOf) (as := [.ref 123, .int 0]) (rest := []) (T := F_faultOf s 0) rfl rfl (ux_faultOf s 0) (fun z1 e1 => ?_)
  refine UP.stp 1 (i1 := 4) (L1 := [some (.ref 123), some (.int z1.1)]) (st1 := []) (s1 := z1.2) rfl ?_
  exact UP.ret (r := none) rfl ⟨by subst e1; first | (dsimp only [F_reads]; done) | (dsimp only; done) | rfl, by subst e1; first | (dsimp only [F_reads]; done) | (dsimp only; done) | rfl⟩
def W_isText : List (Nat × Nat × Option Nat) := []
def F_isText (s : SG) (v : Int32) : Int32 := F_in s v 0 2
set_option maxRecDepth 20000 in
set_option maxHeartbeats 200000 in
theorem ux_isText (s : SG) (v : Int32)  : UP m_X7_isText 0 (m_ent 1 [.int v]) [] s (Qi s (F_isText s v)) := by
  refine UP.stp 3 (i1 := 3) (L1 := [some (.int v)]) (st1 := [.int 2, .int 0, .int v]) (s1 := s) rfl ?_
  refine UP.cI (M1 := m_X7_in) (as := [.int v, .int 0, .int 2]) (rest := []) (T := F_in s v 0 2) rfl rfl (ux_in s v 0 2) ?_
  exact UP.ret (r := some (.int (F_in s v 0 2))) rfl ⟨by first | (dsimp only [F_isText]; done) | (dsimp only; done) | rfl, by first | (dsimp only [F_isText]; done) | (dsimp only; done) | rfl⟩
def W_isMinute : List (Nat × Nat × Option Nat) := []
def F_isMinute (s : SG) (v : Int32) : Int32 := F_in s v 0 23
set_option maxRecDepth 20000 in
set_option maxHeartbeats 200000 in
theorem ux_isMinute (s : SG) (v : Int32)  : UP m_X7_isMinute 0 (m_ent 1 [.int v]) [] s (Qi s (F_isMinute s v)) := by
  refine UP.stp 3 (i1 := 3) (L1 := [some (.int v)]) (st1 := [.int 23, .int 0, .int v]) (s1 := s) rfl ?_
  refine UP.cI (M1 := m_X7_in) (as := [.int v, .int 0, .int 23]) (rest := []) (T := F_in s v 0 23) rfl rfl (ux_in s v 0 23) ?_
  exact UP.ret (r := some (.int (F_in s v 0 23))) rfl ⟨by first | (dsimp only [F_isMinute]; done) | (dsimp only; done) | rfl, by first | (dsimp only [F_isMinute]; done) | (dsimp only; done) | rfl⟩
def W_isTwo : List (Nat × Nat × Option Nat) := []
def F_isTwo (s : SG) (v : Int32) : Int32 := F_in s v 0 1
set_option maxRecDepth 20000 in
set_option maxHeartbeats 200000 in
theorem ux_isTwo (s : SG) (v : Int32)  : UP m_X7_isTwo 0 (m_ent 1 [.int v]) [] s (Qi s (F_isTwo s v)) := by
  refine UP.stp 3 (i1 := 3) (L1 := [some (.int v)]) (st1 := [.int 1, .int 0, .int v]) (s1 := s) rfl ?_
  refine UP.cI (M1 := m_X7_in) (as := [.int v, .int 0, .int 1]) (rest := []) (T := F_in s v 0 1) rfl rfl (ux_in s v 0 1) ?_
  exact UP.ret (r := some (.int (F_in s v 0 1))) rfl ⟨by first | (dsimp only [F_isTwo]; done) | (dsimp only; done) | rfl, by first | (dsimp only [F_isTwo]; done) | (dsimp only; done) | rfl⟩
def W_isThree : List (Nat × Nat × Option Nat) := []
def F_isThree (s : SG) (v : Int32) : Int32 := F_in s v 0 2
set_option maxRecDepth 20000 in
set_option maxHeartbeats 200000 in
theorem ux_isThree (s : SG) (v : Int32)  : UP m_X7_isThree 0 (m_ent 1 [.int v]) [] s (Qi s (F_isThree s v)) := by
  refine UP.stp 3 (i1 := 3) (L1 := [some (.int v)]) (st1 := [.int 2, .int 0, .int v]) (s1 := s) rfl ?_
  refine UP.cI (M1 := m_X7_in) (as := [.int v, .int 0, .int 2]) (rest := []) (T := F_in s v 0 2) rfl rfl (ux_in s v 0 2) ?_
  exact UP.ret (r := some (.int (F_in s v 0 2))) rfl ⟨by first | (dsimp only [F_isThree]; done) | (dsimp only; done) | rfl, by first | (dsimp only [F_isThree]; done) | (dsimp only; done) | rfl⟩
def W_isEight : List (Nat × Nat × Option Nat) := []
def F_isEight (s : SG) (v : Int32) : Int32 := F_in s v 0 7
set_option maxRecDepth 20000 in
set_option maxHeartbeats 200000 in
theorem ux_isEight (s : SG) (v : Int32)  : UP m_X7_isEight 0 (m_ent 1 [.int v]) [] s (Qi s (F_isEight s v)) := by
  refine UP.stp 3 (i1 := 3) (L1 := [some (.int v)]) (st1 := [.int 7, .int 0, .int v]) (s1 := s) rfl ?_
  refine UP.cI (M1 := m_X7_in) (as := [.int v, .int 0, .int 7]) (rest := []) (T := F_in s v 0 7) rfl rfl (ux_in s v 0 7) ?_
  exact UP.ret (r := some (.int (F_in s v 0 7))) rfl ⟨by first | (dsimp only [F_isEight]; done) | (dsimp only; done) | rfl, by first | (dsimp only [F_isEight]; done) | (dsimp only; done) | rfl⟩
def W_isSheet : List (Nat × Nat × Option Nat) := []
def F_isSheet (s : SG) (v : Int32) : Int32 := F_in s v 0 3
set_option maxRecDepth 20000 in
set_option maxHeartbeats 200000 in
theorem ux_isSheet (s : SG) (v : Int32)  : UP m_X7_isSheet 0 (m_ent 1 [.int v]) [] s (Qi s (F_isSheet s v)) := by
  refine UP.stp 3 (i1 := 3) (L1 := [some (.int v)]) (st1 := [.int 3, .int 0, .int v]) (s1 := s) rfl ?_
  refine UP.cI (M1 := m_X7_in) (as := [.int v, .int 0, .int 3]) (rest := []) (T := F_in s v 0 3) rfl rfl (ux_in s v 0 3) ?_
  exact UP.ret (r := some (.int (F_in s v 0 3))) rfl ⟨by first | (dsimp only [F_isSheet]; done) | (dsimp only; done) | rfl, by first | (dsimp only [F_isSheet]; done) | (dsimp only; done) | rfl⟩
def W_fault : List (Nat × Nat × Option Nat) := [(126, 129, none), (123, 123, some 2), (123, 123, some 5), (123, 123, some 7)]
def F_fault (s : SG) (text : Int32) : Int32 × SG := let w3 := bif m_cmp .eq (F_isText s text) 0 then ((-2 : Int32), s) else (F_faultOf s text); w3
set_option maxRecDepth 20000 in
set_option maxHeartbeats 200000 in
theorem fr_fault (s : SG) (text : Int32)  : Fr W_fault s (F_fault s text).2 := by dsimp only [F_fault]; exact (Fr.bifp (b := m_cmp .eq (F_isText s text) 0) (x := ((-2 : Int32), s)) (y := (F_faultOf s text)) (fun x : Int32 × SG => x.2) (by (try dsimp only); exact (Fr.rf _ _)) (by (try dsimp only); exact (Fr.tr (s1 := s) (Fr.rf _ _) (Fr.wk (W2 := W_fault) (fr_faultOf s text) (by rfl)))))
set_option maxRecDepth 20000 in
set_option maxHeartbeats 200000 in
theorem ux_fault (s : SG) (text : Int32)  : UP m_X7_fault 0 (m_ent 2 [.ref 123, .int text]) [] s (Qb (F_fault s text)) := by
  refine UP.stp 1 (i1 := 1) (L1 := [some (.ref 123), some (.int text)]) (st1 := [.int text]) (s1 := s) rfl ?_
  refine UP.cI (M1 := m_X7_isText) (as := [.int text]) (rest := []) (T := F_isText s text) rfl rfl (ux_isText s text) ?_
  refine mrg (m_cmp .eq (F_isText s text) 0) ((-2 : Int32), s) (F_faultOf s text) (fun w3 : Int32 × SG => UP m_X7_fault 8 [some (.ref 123), some (.int text)] [.int w3.1] w3.2 (Qb (F_fault s text))) (fun cc kk => ?_) (fun cc kk => ?_) (fun w3 e3 => ?_)
  · skip
    refine UP.ifT rfl cc ?_
    refine UP.stp 1 (i1 := 8) (L1 := [some (.ref 123), some (.int text)]) (st1 := [.int (-2)]) (s1 := s) rfl ?_
    exact kk
  · skip
    refine UP.ifF rfl cc ?_
    refine UP.stp 2 (i1 := 5) (L1 := [some (.ref 123), some (.int text)]) (st1 := [.int text, .ref 123]) (s1 := s) rfl ?_
    refine UP.cB (M1 := m_X7_faultOf) (as := [.ref 123, .int text]) (rest := []) (T := F_faultOf s text) rfl rfl (ux_faultOf s text) (fun z2 e2 => ?_)
    refine UP.stp 1 (i1 := 8) (L1 := [some (.ref 123), some (.int text)]) (st1 := [.int z2.1]) (s1 := z2.2) rfl ?_
    subst e2
    exact kk
  exact UP.ret (r := some (.int w3.1)) rfl ⟨by subst e3; first | (dsimp only [F_fault]; done) | (dsimp only; done) | rfl, by subst e3; first | (dsimp only [F_fault]; done) | (dsimp only; done) | rfl⟩
def W_isRower : List (Nat × Nat × Option Nat) := [(126, 129, none), (123, 123, some 2), (123, 123, some 5), (123, 123, some 7)]
def F_isRower (s : SG) (k : Int32) : Int32 × SG := let z1 := F_reads s ; (F_in z1 k 0 ((z1 123 2) - 1), z1)
set_option maxRecDepth 20000 in
set_option maxHeartbeats 200000 in
theorem fr_isRower (s : SG) (k : Int32)  : Fr W_isRower s (F_isRower s k).2 := by dsimp only [F_isRower]; exact (Fr.tr (s1 := s) (Fr.rf _ _) (Fr.wk (W2 := W_isRower) (fr_reads s ) (by rfl)))
set_option maxRecDepth 20000 in
set_option maxHeartbeats 200000 in
theorem ux_isRower (s : SG) (k : Int32)  : UP m_X7_isRower 0 (m_ent 2 [.ref 123, .int k]) [] s (Qb (F_isRower s k)) := by
  refine UP.stp 1 (i1 := 1) (L1 := [some (.ref 123), some (.int k)]) (st1 := [.ref 123]) (s1 := s) rfl ?_
  refine UP.cV (M1 := m_X7_reads) (as := [.ref 123]) (rest := []) (T := F_reads s ) rfl rfl (ux_reads s ) (fun z1 e1 => ?_)
  refine UP.stp 6 (i1 := 8) (L1 := [some (.ref 123), some (.int k)]) (st1 := [.int ((z1 123 2) - 1), .int 0, .int k]) (s1 := z1) rfl ?_
  refine UP.cI (M1 := m_X7_in) (as := [.int k, .int 0, .int ((z1 123 2) - 1)]) (rest := []) (T := F_in z1 k 0 ((z1 123 2) - 1)) rfl rfl (ux_in z1 k 0 ((z1 123 2) - 1)) ?_
  exact UP.ret (r := some (.int (F_in z1 k 0 ((z1 123 2) - 1)))) rfl ⟨by subst e1; first | (dsimp only [F_isRower]; done) | (dsimp only; done) | rfl, by subst e1; first | (dsimp only [F_isRower]; done) | (dsimp only; done) | rfl⟩
end
section
def W_rowerOf : List (Nat × Nat × Option Nat) := []
def F_rowerOf (s : SG) (k : Int32) (what : Int32) : Int32 := let v1 := bif m_cmp .ne what 0 then s 127 k.toNatClampNeg else s 126 k.toNatClampNeg; v1
set_option maxRecDepth 20000 in
set_option maxHeartbeats 200000 in
theorem ux_rowerOf (s : SG) (k : Int32) (what : Int32)  : UP m_X7_rowerOf 0 (m_ent 3 [.ref 123, .int k, .int what]) [] s (Qi s (F_rowerOf s k what)) := by
  refine UP.stp 1 (i1 := 1) (L1 := [some (.ref 123), some (.int k), some (.int what)]) (st1 := [.int what]) (s1 := s) rfl ?_
  refine mrg (m_cmp .ne what 0) (s 127 k.toNatClampNeg) (s 126 k.toNatClampNeg) (fun v1 : Int32 => UP m_X7_rowerOf 11 [some (.ref 123), some (.int k), some (.int what)] [.int v1] s (Qi s (F_rowerOf s k what))) (fun cc kk => ?_) (fun cc kk => ?_) (fun v1 e1 => ?_)
  · skip
    refine UP.ifT rfl cc ?_
    refine UP.stp 4 (i1 := 11) (L1 := [some (.ref 123), some (.int k), some (.int what)]) (st1 := [.int (s 127 k.toNatClampNeg)]) (s1 := s) rfl ?_
    exact kk
  · skip
    refine UP.ifF rfl cc ?_
    refine UP.stp 5 (i1 := 11) (L1 := [some (.ref 123), some (.int k), some (.int what)]) (st1 := [.int (s 126 k.toNatClampNeg)]) (s1 := s) rfl ?_
    exact kk
  exact UP.ret (r := some (.int v1)) rfl ⟨by subst e1; first | (dsimp only [F_rowerOf]; done) | (dsimp only; done) | rfl, by subst e1; first | (dsimp only [F_rowerOf]; done) | (dsimp only; done) | rfl⟩
def W_rower : List (Nat × Nat × Option Nat) := [(126, 129, none), (123, 123, some 2), (123, 123, some 5), (123, 123, some 7)]
def F_rower (s : SG) (seat : Int32) (what : Int32) : Int32 × SG := let z1 := F_isRower s seat; let v5 := bif m_cmp .eq z1.1 0 then (-2 : Int32) else (bif m_cmp .eq (F_isTwo z1.2 what) 0 then (-2 : Int32) else F_rowerOf z1.2 seat what); (v5, z1.2)
set_option maxRecDepth 20000 in
set_option maxHeartbeats 200000 in
theorem fr_rower (s : SG) (seat : Int32) (what : Int32)  : Fr W_rower s (F_rower s seat what).2 := by dsimp only [F_rower]; exact (Fr.tr (s1 := s) (Fr.rf _ _) (Fr.wk (W2 := W_rower) (fr_isRower s seat) (by rfl)))
set_option maxRecDepth 20000 in
set_option maxHeartbeats 200000 in
theorem ux_rower (s : SG) (seat : Int32) (what : Int32)  : UP m_X7_rower 0 (m_ent 3 [.ref 123, .int seat, .int what]) [] s (Qb (F_rower s seat what)) := by
  refine UP.stp 2 (i1 := 2) (L1 := [some (.ref 123), some (.int seat), some (.int what)]) (st1 := [.int seat, .ref 123]) (s1 := s) rfl ?_
  refine UP.cB (M1 := m_X7_isRower) (as := [.ref 123, .int seat]) (rest := []) (T := F_isRower s seat) rfl rfl (ux_isRower s seat) (fun z1 e1 => ?_)
  refine mrg (m_cmp .eq z1.1 0) (-2 : Int32) (bif m_cmp .eq (F_isTwo z1.2 what) 0 then (-2 : Int32) else F_rowerOf z1.2 seat what) (fun v5 : Int32 => UP m_X7_rower 13 [some (.ref 123), some (.int seat), some (.int what)] [.int v5] z1.2 (Qb (F_rower s seat what))) (fun cc kk => ?_) (fun cc kk => ?_) (fun v5 e5 => ?_)
  · skip
    refine UP.ifT rfl cc ?_
    refine UP.stp 1 (i1 := 13) (L1 := [some (.ref 123), some (.int seat), some (.int what)]) (st1 := [.int (-2)]) (s1 := z1.2) rfl ?_
    exact kk
  · skip
    refine UP.ifF rfl cc ?_
    refine UP.stp 1 (i1 := 5) (L1 := [some (.ref 123), some (.int seat), some (.int what)]) (st1 := [.int what]) (s1 := z1.2) rfl ?_
    refine UP.cI (M1 := m_X7_isTwo) (as := [.int what]) (rest := []) (T := F_isTwo z1.2 what) rfl rfl (ux_isTwo z1.2 what) ?_
    refine mrg (m_cmp .eq (F_isTwo z1.2 what) 0) (-2 : Int32) (F_rowerOf z1.2 seat what) (fun v4 : Int32 => UP m_X7_rower 13 [some (.ref 123), some (.int seat), some (.int what)] [.int v4] z1.2 (Qb (F_rower s seat what))) (fun cc kk => ?_) (fun cc kk => ?_) (fun v4 e4 => ?_)
    · skip
      refine UP.ifT rfl cc ?_
      refine UP.stp 1 (i1 := 13) (L1 := [some (.ref 123), some (.int seat), some (.int what)]) (st1 := [.int (-2)]) (s1 := z1.2) rfl ?_
      exact kk
    · skip
      refine UP.ifF rfl cc ?_
      refine UP.stp 3 (i1 := 10) (L1 := [some (.ref 123), some (.int seat), some (.int what)]) (st1 := [.int what, .int seat, .ref 123]) (s1 := z1.2) rfl ?_
      refine UP.cI (M1 := m_X7_rowerOf) (as := [.ref 123, .int seat, .int what]) (rest := []) (T := F_rowerOf z1.2 seat what) rfl rfl (ux_rowerOf z1.2 seat what) ?_
      refine UP.stp 1 (i1 := 13) (L1 := [some (.ref 123), some (.int seat), some (.int what)]) (st1 := [.int (F_rowerOf z1.2 seat what)]) (s1 := z1.2) rfl ?_
      exact kk
    subst e4
    exact kk
  exact UP.ret (r := some (.int v5)) rfl ⟨by subst e5 e1; first | (dsimp only [F_rower]; done) | (dsimp only; done) | rfl, by subst e5 e1; first | (dsimp only [F_rower]; done) | (dsimp only; done) | rfl⟩
def W_callOf : List (Nat × Nat × Option Nat) := [(126, 129, none), (123, 123, some 2), (123, 123, some 5), (123, 123, some 7)]
def F_callOf (s : SG) (minute : Int32) (what : Int32) : Int32 × SG := let z1 := F_reads s ; let v2 := bif m_cmp .ne what 0 then z1 129 minute.toNatClampNeg else z1 128 minute.toNatClampNeg; (v2, z1)
set_option maxRecDepth 20000 in
set_option maxHeartbeats 200000 in
theorem fr_callOf (s : SG) (minute : Int32) (what : Int32)  : Fr W_callOf s (F_callOf s minute what).2 := by dsimp only [F_callOf]; exact (Fr.tr (s1 := s) (Fr.rf _ _) (Fr.wk (W2 := W_callOf) (fr_reads s ) (by rfl)))
set_option maxRecDepth 20000 in
set_option maxHeartbeats 200000 in
theorem ux_callOf (s : SG) (minute : Int32) (what : Int32)  : UP m_X7_callOf 0 (m_ent 3 [.ref 123, .int minute, .int what]) [] s (Qb (F_callOf s minute what)) := by
  refine UP.stp 1 (i1 := 1) (L1 := [some (.ref 123), some (.int minute), some (.int what)]) (st1 := [.ref 123]) (s1 := s) rfl ?_
  refine UP.cV (M1 := m_X7_reads) (as := [.ref 123]) (rest := []) (T := F_reads s ) rfl rfl (ux_reads s ) (fun z1 e1 => ?_)
  refine UP.stp 1 (i1 := 3) (L1 := [some (.ref 123), some (.int minute), some (.int what)]) (st1 := [.int what]) (s1 := z1) rfl ?_
  refine mrg (m_cmp .ne what 0) (z1 129 minute.toNatClampNeg) (z1 128 minute.toNatClampNeg) (fun v2 : Int32 => UP m_X7_callOf 13 [some (.ref 123), some (.int minute), some (.int what)] [.int v2] z1 (Qb (F_callOf s minute what))) (fun cc kk => ?_) (fun cc kk => ?_) (fun v2 e2 => ?_)
  · skip
    refine UP.ifT rfl cc ?_
    refine UP.stp 4 (i1 := 13) (L1 := [some (.ref 123), some (.int minute), some (.int what)]) (st1 := [.int (z1 129 minute.toNatClampNeg)]) (s1 := z1) rfl ?_
    exact kk
  · skip
    refine UP.ifF rfl cc ?_
    refine UP.stp 5 (i1 := 13) (L1 := [some (.ref 123), some (.int minute), some (.int what)]) (st1 := [.int (z1 128 minute.toNatClampNeg)]) (s1 := z1) rfl ?_
    exact kk
  exact UP.ret (r := some (.int v2)) rfl ⟨by subst e2 e1; first | (dsimp only [F_callOf]; done) | (dsimp only; done) | rfl, by subst e2 e1; first | (dsimp only [F_callOf]; done) | (dsimp only; done) | rfl⟩
def W_call : List (Nat × Nat × Option Nat) := [(126, 129, none), (123, 123, some 2), (123, 123, some 5), (123, 123, some 7)]
def F_call (s : SG) (minute : Int32) (what : Int32) : Int32 × SG := let w5 := bif m_cmp .eq (F_isMinute s minute) 0 then ((-2 : Int32), s) else (bif m_cmp .eq (F_isTwo s what) 0 then ((-2 : Int32), s) else (F_callOf s minute what)); w5
set_option maxRecDepth 20000 in
set_option maxHeartbeats 200000 in
theorem fr_call (s : SG) (minute : Int32) (what : Int32)  : Fr W_call s (F_call s minute what).2 := by dsimp only [F_call]; exact (Fr.bifp (b := m_cmp .eq (F_isMinute s minute) 0) (x := ((-2 : Int32), s)) (y := (bif m_cmp .eq (F_isTwo s what) 0 then ((-2 : Int32), s) else (F_callOf s minute what))) (fun x : Int32 × SG => x.2) (by (try dsimp only); exact (Fr.rf _ _)) (by (try dsimp only); exact (Fr.bifp (b := m_cmp .eq (F_isTwo s what) 0) (x := ((-2 : Int32), s)) (y := (F_callOf s minute what)) (fun x : Int32 × SG => x.2) (by (try dsimp only); exact (Fr.rf _ _)) (by (try dsimp only); exact (Fr.tr (s1 := s) (Fr.rf _ _) (Fr.wk (W2 := W_call) (fr_callOf s minute what) (by rfl)))))))
set_option maxRecDepth 20000 in
set_option maxHeartbeats 200000 in
theorem ux_call (s : SG) (minute : Int32) (what : Int32)  : UP m_X7_call 0 (m_ent 3 [.ref 123, .int minute, .int what]) [] s (Qb (F_call s minute what)) := by
  refine UP.stp 1 (i1 := 1) (L1 := [some (.ref 123), some (.int minute), some (.int what)]) (st1 := [.int minute]) (s1 := s) rfl ?_
  refine UP.cI (M1 := m_X7_isMinute) (as := [.int minute]) (rest := []) (T := F_isMinute s minute) rfl rfl (ux_isMinute s minute) ?_
  refine mrg (m_cmp .eq (F_isMinute s minute) 0) ((-2 : Int32), s) (bif m_cmp .eq (F_isTwo s what) 0 then ((-2 : Int32), s) else (F_callOf s minute what)) (fun w5 : Int32 × SG => UP m_X7_call 12 [some (.ref 123), some (.int minute), some (.int what)] [.int w5.1] w5.2 (Qb (F_call s minute what))) (fun cc kk => ?_) (fun cc kk => ?_) (fun w5 e5 => ?_)
  · skip
    refine UP.ifT rfl cc ?_
    refine UP.stp 1 (i1 := 12) (L1 := [some (.ref 123), some (.int minute), some (.int what)]) (st1 := [.int (-2)]) (s1 := s) rfl ?_
    exact kk
  · skip
    refine UP.ifF rfl cc ?_
    refine UP.stp 1 (i1 := 4) (L1 := [some (.ref 123), some (.int minute), some (.int what)]) (st1 := [.int what]) (s1 := s) rfl ?_
    refine UP.cI (M1 := m_X7_isTwo) (as := [.int what]) (rest := []) (T := F_isTwo s what) rfl rfl (ux_isTwo s what) ?_
    refine mrg (m_cmp .eq (F_isTwo s what) 0) ((-2 : Int32), s) (F_callOf s minute what) (fun w4 : Int32 × SG => UP m_X7_call 12 [some (.ref 123), some (.int minute), some (.int what)] [.int w4.1] w4.2 (Qb (F_call s minute what))) (fun cc kk => ?_) (fun cc kk => ?_) (fun w4 e4 => ?_)
    · skip
      refine UP.ifT rfl cc ?_
      refine UP.stp 1 (i1 := 12) (L1 := [some (.ref 123), some (.int minute), some (.int what)]) (st1 := [.int (-2)]) (s1 := s) rfl ?_
      exact kk
    · skip
      refine UP.ifF rfl cc ?_
      refine UP.stp 3 (i1 := 9) (L1 := [some (.ref 123), some (.int minute), some (.int what)]) (st1 := [.int what, .int minute, .ref 123]) (s1 := s) rfl ?_
      refine UP.cB (M1 := m_X7_callOf) (as := [.ref 123, .int minute, .int what]) (rest := []) (T := F_callOf s minute what) rfl rfl (ux_callOf s minute what) (fun z3 e3 => ?_)
      refine UP.stp 1 (i1 := 12) (L1 := [some (.ref 123), some (.int minute), some (.int what)]) (st1 := [.int z3.1]) (s1 := z3.2) rfl ?_
      subst e3
      exact kk
    subst e4
    exact kk
  exact UP.ret (r := some (.int w5.1)) rfl ⟨by subst e5; first | (dsimp only [F_call]; done) | (dsimp only; done) | rfl, by subst e5; first | (dsimp only [F_call]; done) | (dsimp only; done) | rfl⟩
end
section
/-! the model: its calls, as functions (printed by wip/u/mk_m3.py) -/
def W_asTold : List (Nat × Nat × Option Nat) := [(126, 129, none), (133, 144, none), (147, 147, none), (123, 123, some 2), (123, 123, some 5), (123, 123, some 7), (123, 123, some 17), (123, 123, some 19), (123, 123, some 20), (123, 123, some 21), (123, 123, some 22), (123, 123, some 23), (123, 123, some 24), (123, 123, some 25), (123, 123, some 26), (123, 123, some 27)]
def B_asTold_4  (i2 : Nat) (a2 : SG) : SG := let v3 := a2 128 i2; let v4 := a2 129 i2; (uset (uset a2 133 i2 v3) 134 i2 v4)
set_option maxRecDepth 20000 in
set_option maxHeartbeats 200000 in
theorem fr_B_asTold_4  (i2 : Nat) (a2 : SG)  (hi2 : i2 < 24) : Fr W_asTold a2 ((B_asTold_4) i2 a2) := by dsimp only [B_asTold_4]; exact (let v3 : Int32 := a2 128 i2; (let v4 : Int32 := a2 129 i2; (Fr.uset (s1 := (uset a2 133 i2 v3)) (a := 134) (j := i2) (x := v4) (by rfl) (Fr.uset (s1 := a2) (a := 133) (j := i2) (x := v3) (by rfl) (Fr.rf _ _)))))
def B_asTold_30  (i5 : Nat) (a5 : SG) : SG := (uset a5 135 i5 (Int32.ofNat i5))
set_option maxRecDepth 20000 in
set_option maxHeartbeats 200000 in
theorem fr_B_asTold_30  (i5 : Nat) (a5 : SG)  (hi5 : i5 < 8) : Fr W_asTold a5 ((B_asTold_30) i5 a5) := by dsimp only [B_asTold_30]; exact (Fr.uset (s1 := a5) (a := 135) (j := i5) (x := Int32.ofNat i5) (by rfl) (Fr.rf _ _))
def F_asTold (s : SG)  : SG := let z1 := F_reads s ; let z2 := itr (B_asTold_4) 0 24 z1; let z5 := itr (B_asTold_30) 0 8 (uset z2 123 17 0); z5
set_option maxRecDepth 20000 in
set_option maxHeartbeats 200000 in
theorem fr_asTold (s : SG)   : Fr W_asTold s (F_asTold s) := by dsimp only [F_asTold]; exact (let z1 : SG := F_reads s ; (let z2 : SG := itr (B_asTold_4) 0 24 z1; (frItrB (W := W_asTold) (m := (fun x : SG => x)) (f := (B_asTold_30)) 8 (fun ii aa hh => Fr.wk (W2 := W_asTold) (fr_B_asTold_30  ii aa  hh) (by rfl)) 8 0 (uset z2 123 17 0) (by omega) (Fr.uset (s1 := z2) (a := 123) (j := 17) (x := 0) (by rfl) (frItrB (W := W_asTold) (m := (fun x : SG => x)) (f := (B_asTold_4)) 24 (fun ii aa hh => Fr.wk (W2 := W_asTold) (fr_B_asTold_4  ii aa  hh) (by rfl)) 24 0 z1 (by omega) (Fr.tr (s1 := s) (Fr.rf _ _) (Fr.wk (W2 := W_asTold) (fr_reads s ) (by rfl))))))))
set_option maxRecDepth 20000 in
set_option maxHeartbeats 200000 in
theorem ux_asTold (s : SG)   : UP m_X7_asTold 0 (m_ent 2 [.ref 123]) [] s (Qv (F_asTold s)) := by
  refine UP.stp 1 (i1 := 1) (L1 := [some (.ref 123), none]) (st1 := [.ref 123]) (s1 := s) rfl ?_
  refine UP.cV (M1 := m_X7_reads) (as := [.ref 123]) (rest := []) (T := F_reads s ) rfl rfl (ux_reads s ) (fun z1 e1 => ?_)
  refine UP.stp 2 (i1 := 4) (L1 := [some (.ref 123), some (.int 0)]) (st1 := []) (s1 := z1) rfl ?_
  refine lp (fun (i2 : Nat) (a2 : SG) => UP m_X7_asTold 4 [some (.ref 123), some (.int (Int32.ofNat i2))] [] a2 (Qv (F_asTold s))) (fun (_ : Nat) (a2 : SG) => Fr W_asTold z1 a2) (B_asTold_4) (24) (fun i2 a2 hi2 g2 => g2.tr (fr_B_asTold_4  i2 a2 hi2)) (fun i2 a2 hi2 g2 kk => ?_) 24 (0) z1 (by  omega) (Fr.rf _ _) (fun z2 e2 g2 => ?_)
  · skip
    refine UP.stp 2 (i1 := 6) (L1 := [some (.ref 123), some (.int (Int32.ofNat i2))]) (st1 := [.int 24, .int (Int32.ofNat i2)]) (s1 := a2) rfl ?_
    refine UP.icF rfl (ge_F (show i2 < (24 : Int32).toNatClampNeg from hi2)) ?_
    refine UP.stp 6 (i1 := 13) (L1 := [some (.ref 123), some (.int (Int32.ofNat i2))]) (st1 := [.int (Int32.ofNat i2), .ref 128, .int (Int32.ofNat i2), .ref 133]) (s1 := a2) rfl ?_
    refine UP.ald (e := i2) rfl rfl (by omega) ?_
    show UP m_X7_asTold 14 [some (.ref 123), some (.int (Int32.ofNat i2))] [.int (a2 128 i2), .int (Int32.ofNat i2), .ref 133] a2 (Qv (F_asTold s))
    refine nm (G := fun v3 => UP m_X7_asTold 14 [some (.ref 123), some (.int (Int32.ofNat i2))] [.int v3, .int (Int32.ofNat i2), .ref 133] a2 (Qv (F_asTold s))) (a2 128 i2) (fun v3 e3 => ?_)
    refine UP.ast (e := i2) rfl rfl (by omega) ?_
    show UP m_X7_asTold 15 [some (.ref 123), some (.int (Int32.ofNat i2))] [] (uset a2 133 i2 v3) (Qv (F_asTold s))
    refine UP.stp 6 (i1 := 21) (L1 := [some (.ref 123), some (.int (Int32.ofNat i2))]) (st1 := [.int (Int32.ofNat i2), .ref 129, .int (Int32.ofNat i2), .ref 134]) (s1 := (uset a2 133 i2 v3)) rfl ?_
    refine UP.ald (e := i2) rfl rfl (by omega) ?_
    show UP m_X7_asTold 22 [some (.ref 123), some (.int (Int32.ofNat i2))] [.int (a2 129 i2), .int (Int32.ofNat i2), .ref 134] (uset a2 133 i2 v3) (Qv (F_asTold s))
    refine nm (G := fun v4 => UP m_X7_asTold 22 [some (.ref 123), some (.int (Int32.ofNat i2))] [.int v4, .int (Int32.ofNat i2), .ref 134] (uset a2 133 i2 v3) (Qv (F_asTold s))) (a2 129 i2) (fun v4 e4 => ?_)
    refine UP.ast (e := i2) rfl rfl (by omega) ?_
    show UP m_X7_asTold 23 [some (.ref 123), some (.int (Int32.ofNat i2))] [] (uset (uset a2 133 i2 v3) 134 i2 v4) (Qv (F_asTold s))
    refine UP.stp 2 (i1 := 4) (L1 := [some (.ref 123), some (.int ((Int32.ofNat i2) + 1))]) (st1 := []) (s1 := (uset (uset a2 133 i2 v3) 134 i2 v4)) rfl ?_
    subst e4 e3
    rw [ofn_s]
    try dsimp only [B_asTold_4] at kk
    exact kk
  refine UP.stp 2 (i1 := 6) (L1 := [some (.ref 123), some (.int (Int32.ofNat 24))]) (st1 := [.int 24, .int (Int32.ofNat 24)]) (s1 := z2) rfl ?_
  refine UP.icT rfl (ge_T (24 : Int32)) ?_
  refine UP.stp 5 (i1 := 30) (L1 := [some (.ref 123), some (.int 0)]) (st1 := []) (s1 := (uset z2 123 17 0)) rfl ?_
  refine lp (fun (i5 : Nat) (a5 : SG) => UP m_X7_asTold 30 [some (.ref 123), some (.int (Int32.ofNat i5))] [] a5 (Qv (F_asTold s))) (fun (_ : Nat) (a5 : SG) => Fr W_asTold (uset z2 123 17 0) a5) (B_asTold_30) (8) (fun i5 a5 hi5 g5 => g5.tr (fr_B_asTold_30  i5 a5 hi5)) (fun i5 a5 hi5 g5 kk => ?_) 8 (0) (uset z2 123 17 0) (by  omega) (Fr.rf _ _) (fun z5 e5 g5 => ?_)
  · skip
    refine UP.stp 2 (i1 := 32) (L1 := [some (.ref 123), some (.int (Int32.ofNat i5))]) (st1 := [.int 8, .int (Int32.ofNat i5)]) (s1 := a5) rfl ?_
    refine UP.icF rfl (ge_F (show i5 < (8 : Int32).toNatClampNeg from hi5)) ?_
    refine UP.stp 4 (i1 := 37) (L1 := [some (.ref 123), some (.int (Int32.ofNat i5))]) (st1 := [.int (Int32.ofNat i5), .int (Int32.ofNat i5), .ref 135]) (s1 := a5) rfl ?_
    refine UP.ast (e := i5) rfl rfl (by omega) ?_
    show UP m_X7_asTold 38 [some (.ref 123), some (.int (Int32.ofNat i5))] [] (uset a5 135 i5 (Int32.ofNat i5)) (Qv (F_asTold s))
    refine UP.stp 2 (i1 := 30) (L1 := [some (.ref 123), some (.int ((Int32.ofNat i5) + 1))]) (st1 := []) (s1 := (uset a5 135 i5 (Int32.ofNat i5))) rfl ?_
    rw [ofn_s]
    try dsimp only [B_asTold_30] at kk
    exact kk
  refine UP.stp 2 (i1 := 32) (L1 := [some (.ref 123), some (.int (Int32.ofNat 8))]) (st1 := [.int 8, .int (Int32.ofNat 8)]) (s1 := z5) rfl ?_
  refine UP.icT rfl (ge_T (8 : Int32)) ?_
  exact UP.ret (r := none) rfl ⟨by subst e5 e2 e1; first | (dsimp only [F_asTold]; done) | (dsimp only; done) | rfl, by subst e5 e2 e1; first | (dsimp only [F_asTold]; done) | (dsimp only; done) | rfl⟩
def W_runsTold : List (Nat × Nat × Option Nat) := [(126, 129, none), (133, 144, none), (147, 147, none), (123, 123, some 2), (123, 123, some 5), (123, 123, some 7), (123, 123, some 17), (123, 123, some 19), (123, 123, some 20), (123, 123, some 21), (123, 123, some 22), (123, 123, some 23), (123, 123, some 24), (123, 123, some 25), (123, 123, some 26), (123, 123, some 27)]
def F_runsTold (s : SG)  : SG := let z1 := F_asTold s ; let z2 := F_runs z1 ; z2
set_option maxRecDepth 20000 in
set_option maxHeartbeats 200000 in
theorem fr_runsTold (s : SG)   : Fr W_runsTold s (F_runsTold s) := by dsimp only [F_runsTold]; exact (let z1 : SG := F_asTold s ; (Fr.tr (s1 := z1) (Fr.tr (s1 := s) (Fr.rf _ _) (Fr.wk (W2 := W_runsTold) (fr_asTold s ) (by rfl))) (Fr.wk (W2 := W_runsTold) (fr_runs z1 ) (by rfl))))
set_option maxRecDepth 20000 in
set_option maxHeartbeats 200000 in
theorem ux_runsTold (s : SG)   : UP m_X7_runsTold 0 (m_ent 1 [.ref 123]) [] s (Qv (F_runsTold s)) := by
  refine UP.stp 1 (i1 := 1) (L1 := [some (.ref 123)]) (st1 := [.ref 123]) (s1 := s) rfl ?_
  refine UP.cV (M1 := m_X7_asTold) (as := [.ref 123]) (rest := []) (T := F_asTold s ) rfl rfl (ux_asTold s ) (fun z1 e1 => ?_)
  refine UP.stp 1 (i1 := 3) (L1 := [some (.ref 123)]) (st1 := [.ref 123]) (s1 := z1) rfl ?_
  refine UP.cV (M1 := m_X7_runs) (as := [.ref 123]) (rest := []) (T := F_runs z1 ) rfl rfl (ux_runs z1 ) (fun z2 e2 => ?_)
  exact UP.ret (r := none) rfl ⟨by subst e2 e1; first | (dsimp only [F_runsTold]; done) | (dsimp only; done) | rfl, by subst e2 e1; first | (dsimp only [F_runsTold]; done) | (dsimp only; done) | rfl⟩
end
section
def W_atOf : List (Nat × Nat × Option Nat) := [(126, 129, none), (133, 144, none), (147, 147, none), (123, 123, some 2), (123, 123, some 5), (123, 123, some 7), (123, 123, some 17), (123, 123, some 19), (123, 123, some 20), (123, 123, some 21), (123, 123, some 22), (123, 123, some 23), (123, 123, some 24), (123, 123, some 25), (123, 123, some 26), (123, 123, some 27)]
def F_atOf (s : SG) (minute : Int32) (what : Int32) : Int32 × SG := let z1 := F_runsTold s ; bif m_cmp .eq what 0 then ((z1 139 minute.toNatClampNeg, z1)) else (bif m_cmp .eq what 1 then ((z1 140 minute.toNatClampNeg, z1)) else (bif m_cmp .eq what 2 then ((z1 141 ((2 * minute).toNatClampNeg), z1)) else (bif m_cmp .eq what 3 then ((z1 141 (((2 * minute) + 1).toNatClampNeg), z1)) else ((z1 142 minute.toNatClampNeg, z1)))))
set_option maxRecDepth 20000 in
set_option maxHeartbeats 200000 in
theorem fr_atOf (s : SG) (minute : Int32) (what : Int32)  : Fr W_atOf s (F_atOf s minute what).2 := by dsimp only [F_atOf]; exact (let z1 : SG := F_runsTold s ; (Fr.bifp (b := m_cmp .eq what 0) (x := (z1 139 minute.toNatClampNeg, z1)) (y := bif m_cmp .eq what 1 then ((z1 140 minute.toNatClampNeg, z1)) else (bif m_cmp .eq what 2 then ((z1 141 ((2 * minute).toNatClampNeg), z1)) else (bif m_cmp .eq what 3 then ((z1 141 (((2 * minute) + 1).toNatClampNeg), z1)) else ((z1 142 minute.toNatClampNeg, z1))))) (fun x : Int32 × SG => x.2) (by (try dsimp only); exact (Fr.tr (s1 := s) (Fr.rf _ _) (Fr.wk (W2 := W_atOf) (fr_runsTold s ) (by rfl)))) (by (try dsimp only); exact (Fr.bifp (b := m_cmp .eq what 1) (x := (z1 140 minute.toNatClampNeg, z1)) (y := bif m_cmp .eq what 2 then ((z1 141 ((2 * minute).toNatClampNeg), z1)) else (bif m_cmp .eq what 3 then ((z1 141 (((2 * minute) + 1).toNatClampNeg), z1)) else ((z1 142 minute.toNatClampNeg, z1)))) (fun x : Int32 × SG => x.2) (by (try dsimp only); exact (Fr.tr (s1 := s) (Fr.rf _ _) (Fr.wk (W2 := W_atOf) (fr_runsTold s ) (by rfl)))) (by (try dsimp only); exact (Fr.bifp (b := m_cmp .eq what 2) (x := (z1 141 ((2 * minute).toNatClampNeg), z1)) (y := bif m_cmp .eq what 3 then ((z1 141 (((2 * minute) + 1).toNatClampNeg), z1)) else ((z1 142 minute.toNatClampNeg, z1))) (fun x : Int32 × SG => x.2) (by (try dsimp only); exact (Fr.tr (s1 := s) (Fr.rf _ _) (Fr.wk (W2 := W_atOf) (fr_runsTold s ) (by rfl)))) (by (try dsimp only); exact (Fr.bifp (b := m_cmp .eq what 3) (x := (z1 141 (((2 * minute) + 1).toNatClampNeg), z1)) (y := (z1 142 minute.toNatClampNeg, z1)) (fun x : Int32 × SG => x.2) (by (try dsimp only); exact (Fr.tr (s1 := s) (Fr.rf _ _) (Fr.wk (W2 := W_atOf) (fr_runsTold s ) (by rfl)))) (by (try dsimp only); exact (Fr.tr (s1 := s) (Fr.rf _ _) (Fr.wk (W2 := W_atOf) (fr_runsTold s ) (by rfl))))))))))))
set_option maxRecDepth 20000 in
set_option maxHeartbeats 200000 in
theorem ux_atOf (s : SG) (minute : Int32) (what : Int32)  : UP m_X7_atOf 0 (m_ent 3 [.ref 123, .int minute, .int what]) [] s (Qb (F_atOf s minute what)) := by
  refine UP.stp 1 (i1 := 1) (L1 := [some (.ref 123), some (.int minute), some (.int what)]) (st1 := [.ref 123]) (s1 := s) rfl ?_
  refine UP.cV (M1 := m_X7_runsTold) (as := [.ref 123]) (rest := []) (T := F_runsTold s ) rfl rfl (ux_runsTold s ) (fun z1 e1 => ?_)
  refine UP.stp 1 (i1 := 3) (L1 := [some (.ref 123), some (.int minute), some (.int what)]) (st1 := [.int what]) (s1 := z1) rfl ?_
  refine UP.spl (m_cmp .eq what 0) ((z1 139 minute.toNatClampNeg, z1)) (bif m_cmp .eq what 1 then ((z1 140 minute.toNatClampNeg, z1)) else (bif m_cmp .eq what 2 then ((z1 141 ((2 * minute).toNatClampNeg), z1)) else (bif m_cmp .eq what 3 then ((z1 141 (((2 * minute) + 1).toNatClampNeg), z1)) else ((z1 142 minute.toNatClampNeg, z1))))) (by subst e1; first | (dsimp only [F_atOf]; done) | (dsimp only; done) | rfl) (fun cs0 => ?_) (fun cs0 => ?_)
  · skip
    refine UP.swT 0 rfl cs0 (by decide) (by decide) ?_
    refine UP.stp 4 (i1 := 8) (L1 := [some (.ref 123), some (.int minute), some (.int what)]) (st1 := [.int (z1 139 minute.toNatClampNeg)]) (s1 := z1) rfl ?_
    exact UP.ret (r := some (.int (z1 139 minute.toNatClampNeg))) rfl ⟨by subst e1; first | (dsimp only [F_atOf]; done) | (dsimp only; done) | rfl, by subst e1; first | (dsimp only [F_atOf]; done) | (dsimp only; done) | rfl⟩
  · skip
    refine UP.spl (m_cmp .eq what 1) ((z1 140 minute.toNatClampNeg, z1)) (bif m_cmp .eq what 2 then ((z1 141 ((2 * minute).toNatClampNeg), z1)) else (bif m_cmp .eq what 3 then ((z1 141 (((2 * minute) + 1).toNatClampNeg), z1)) else ((z1 142 minute.toNatClampNeg, z1)))) (by subst e1; first | (dsimp only [F_atOf]; done) | (dsimp only; done) | rfl) (fun cs1 => ?_) (fun cs1 => ?_)
    · skip
      refine UP.swT 1 rfl cs1 (by decide) (by decide) ?_
      refine UP.stp 4 (i1 := 13) (L1 := [some (.ref 123), some (.int minute), some (.int what)]) (st1 := [.int (z1 140 minute.toNatClampNeg)]) (s1 := z1) rfl ?_
      exact UP.ret (r := some (.int (z1 140 minute.toNatClampNeg))) rfl ⟨by subst e1; first | (dsimp only [F_atOf]; done) | (dsimp only; done) | rfl, by subst e1; first | (dsimp only [F_atOf]; done) | (dsimp only; done) | rfl⟩
    · skip
      refine UP.spl (m_cmp .eq what 2) ((z1 141 ((2 * minute).toNatClampNeg), z1)) (bif m_cmp .eq what 3 then ((z1 141 (((2 * minute) + 1).toNatClampNeg), z1)) else ((z1 142 minute.toNatClampNeg, z1))) (by subst e1; first | (dsimp only [F_atOf]; done) | (dsimp only; done) | rfl) (fun cs2 => ?_) (fun cs2 => ?_)
      · skip
        refine UP.swT 2 rfl cs2 (by decide) (by decide) ?_
        refine UP.stp 6 (i1 := 20) (L1 := [some (.ref 123), some (.int minute), some (.int what)]) (st1 := [.int (z1 141 ((2 * minute).toNatClampNeg))]) (s1 := z1) rfl ?_
        exact UP.ret (r := some (.int (z1 141 ((2 * minute).toNatClampNeg)))) rfl ⟨by subst e1; first | (dsimp only [F_atOf]; done) | (dsimp only; done) | rfl, by subst e1; first | (dsimp only [F_atOf]; done) | (dsimp only; done) | rfl⟩
      · skip
        refine UP.spl (m_cmp .eq what 3) ((z1 141 (((2 * minute) + 1).toNatClampNeg), z1)) ((z1 142 minute.toNatClampNeg, z1)) (by subst e1; first | (dsimp only [F_atOf]; done) | (dsimp only; done) | rfl) (fun cs3 => ?_) (fun cs3 => ?_)
        · skip
          refine UP.swT 3 rfl cs3 (by decide) (by decide) ?_
          refine UP.stp 8 (i1 := 29) (L1 := [some (.ref 123), some (.int minute), some (.int what)]) (st1 := [.int (z1 141 (((2 * minute) + 1).toNatClampNeg))]) (s1 := z1) rfl ?_
          exact UP.ret (r := some (.int (z1 141 (((2 * minute) + 1).toNatClampNeg)))) rfl ⟨by subst e1; first | (dsimp only [F_atOf]; done) | (dsimp only; done) | rfl, by subst e1; first | (dsimp only [F_atOf]; done) | (dsimp only; done) | rfl⟩
        · skip
          refine UP.swD rfl (by have c0_ : what.toInt ≠ 0 := ne_int cs0; have c1_ : what.toInt ≠ 1 := ne_int cs1; have c2_ : what.toInt ≠ 2 := ne_int cs2; have c3_ : what.toInt ≠ 3 := ne_int cs3; omega) ?_
          refine UP.stp 4 (i1 := 34) (L1 := [some (.ref 123), some (.int minute), some (.int what)]) (st1 := [.int (z1 142 minute.toNatClampNeg)]) (s1 := z1) rfl ?_
          exact UP.ret (r := some (.int (z1 142 minute.toNatClampNeg))) rfl ⟨by subst e1; first | (dsimp only [F_atOf]; done) | (dsimp only; done) | rfl, by subst e1; first | (dsimp only [F_atOf]; done) | (dsimp only; done) | rfl⟩
def W_at : List (Nat × Nat × Option Nat) := [(126, 129, none), (133, 144, none), (147, 147, none), (123, 123, some 2), (123, 123, some 5), (123, 123, some 7), (123, 123, some 17), (123, 123, some 19), (123, 123, some 20), (123, 123, some 21), (123, 123, some 22), (123, 123, some 23), (123, 123, some 24), (123, 123, some 25), (123, 123, some 26), (123, 123, some 27)]
def F_at (s : SG) (minute : Int32) (what : Int32) : Int32 × SG := let w5 := bif m_cmp .eq (F_isMinute s minute) 0 then ((-2 : Int32), s) else (bif m_cmp .eq (F_in s what 0 4) 0 then ((-2 : Int32), s) else (F_atOf s minute what)); w5
set_option maxRecDepth 20000 in
set_option maxHeartbeats 200000 in
theorem fr_at (s : SG) (minute : Int32) (what : Int32)  : Fr W_at s (F_at s minute what).2 := by dsimp only [F_at]; exact (Fr.bifp (b := m_cmp .eq (F_isMinute s minute) 0) (x := ((-2 : Int32), s)) (y := (bif m_cmp .eq (F_in s what 0 4) 0 then ((-2 : Int32), s) else (F_atOf s minute what))) (fun x : Int32 × SG => x.2) (by (try dsimp only); exact (Fr.rf _ _)) (by (try dsimp only); exact (Fr.bifp (b := m_cmp .eq (F_in s what 0 4) 0) (x := ((-2 : Int32), s)) (y := (F_atOf s minute what)) (fun x : Int32 × SG => x.2) (by (try dsimp only); exact (Fr.rf _ _)) (by (try dsimp only); exact (Fr.tr (s1 := s) (Fr.rf _ _) (Fr.wk (W2 := W_at) (fr_atOf s minute what) (by rfl)))))))
set_option maxRecDepth 20000 in
set_option maxHeartbeats 200000 in
theorem ux_at (s : SG) (minute : Int32) (what : Int32)  : UP m_X7_at 0 (m_ent 3 [.ref 123, .int minute, .int what]) [] s (Qb (F_at s minute what)) := by
  refine UP.stp 1 (i1 := 1) (L1 := [some (.ref 123), some (.int minute), some (.int what)]) (st1 := [.int minute]) (s1 := s) rfl ?_
  refine UP.cI (M1 := m_X7_isMinute) (as := [.int minute]) (rest := []) (T := F_isMinute s minute) rfl rfl (ux_isMinute s minute) ?_
  refine mrg (m_cmp .eq (F_isMinute s minute) 0) ((-2 : Int32), s) (bif m_cmp .eq (F_in s what 0 4) 0 then ((-2 : Int32), s) else (F_atOf s minute what)) (fun w5 : Int32 × SG => UP m_X7_at 14 [some (.ref 123), some (.int minute), some (.int what)] [.int w5.1] w5.2 (Qb (F_at s minute what))) (fun cc kk => ?_) (fun cc kk => ?_) (fun w5 e5 => ?_)
  · skip
    refine UP.ifT rfl cc ?_
    refine UP.stp 1 (i1 := 14) (L1 := [some (.ref 123), some (.int minute), some (.int what)]) (st1 := [.int (-2)]) (s1 := s) rfl ?_
    exact kk
  · skip
    refine UP.ifF rfl cc ?_
    refine UP.stp 3 (i1 := 6) (L1 := [some (.ref 123), some (.int minute), some (.int what)]) (st1 := [.int 4, .int 0, .int what]) (s1 := s) rfl ?_
    refine UP.cI (M1 := m_X7_in) (as := [.int what, .int 0, .int 4]) (rest := []) (T := F_in s what 0 4) rfl rfl (ux_in s what 0 4) ?_
    refine mrg (m_cmp .eq (F_in s what 0 4) 0) ((-2 : Int32), s) (F_atOf s minute what) (fun w4 : Int32 × SG => UP m_X7_at 14 [some (.ref 123), some (.int minute), some (.int what)] [.int w4.1] w4.2 (Qb (F_at s minute what))) (fun cc kk => ?_) (fun cc kk => ?_) (fun w4 e4 => ?_)
    · skip
      refine UP.ifT rfl cc ?_
      refine UP.stp 1 (i1 := 14) (L1 := [some (.ref 123), some (.int minute), some (.int what)]) (st1 := [.int (-2)]) (s1 := s) rfl ?_
      exact kk
    · skip
      refine UP.ifF rfl cc ?_
      refine UP.stp 3 (i1 := 11) (L1 := [some (.ref 123), some (.int minute), some (.int what)]) (st1 := [.int what, .int minute, .ref 123]) (s1 := s) rfl ?_
      refine UP.cB (M1 := m_X7_atOf) (as := [.ref 123, .int minute, .int what]) (rest := []) (T := F_atOf s minute what) rfl rfl (ux_atOf s minute what) (fun z3 e3 => ?_)
      refine UP.stp 1 (i1 := 14) (L1 := [some (.ref 123), some (.int minute), some (.int what)]) (st1 := [.int z3.1]) (s1 := z3.2) rfl ?_
      subst e3
      exact kk
    subst e4
    exact kk
  exact UP.ret (r := some (.int w5.1)) rfl ⟨by subst e5; first | (dsimp only [F_at]; done) | (dsimp only; done) | rfl, by subst e5; first | (dsimp only [F_at]; done) | (dsimp only; done) | rfl⟩
end
section
def W_pullsOf : List (Nat × Nat × Option Nat) := [(126, 129, none), (133, 144, none), (147, 147, none), (123, 123, some 2), (123, 123, some 5), (123, 123, some 7), (123, 123, some 17), (123, 123, some 19), (123, 123, some 20), (123, 123, some 21), (123, 123, some 22), (123, 123, some 23), (123, 123, some 24), (123, 123, some 25), (123, 123, some 26), (123, 123, some 27)]
def F_pullsOf (s : SG) (minute : Int32) (k : Int32) : Int32 × SG := let z1 := F_runsTold s ; (z1 143 (((8 * minute) + k).toNatClampNeg), z1)
set_option maxRecDepth 20000 in
set_option maxHeartbeats 200000 in
theorem fr_pullsOf (s : SG) (minute : Int32) (k : Int32)  : Fr W_pullsOf s (F_pullsOf s minute k).2 := by dsimp only [F_pullsOf]; exact (Fr.tr (s1 := s) (Fr.rf _ _) (Fr.wk (W2 := W_pullsOf) (fr_runsTold s ) (by rfl)))
set_option maxRecDepth 20000 in
set_option maxHeartbeats 200000 in
theorem ux_pullsOf (s : SG) (minute : Int32) (k : Int32)  : UP m_X7_pullsOf 0 (m_ent 3 [.ref 123, .int minute, .int k]) [] s (Qb (F_pullsOf s minute k)) := by
  refine UP.stp 1 (i1 := 1) (L1 := [some (.ref 123), some (.int minute), some (.int k)]) (st1 := [.ref 123]) (s1 := s) rfl ?_
  refine UP.cV (M1 := m_X7_runsTold) (as := [.ref 123]) (rest := []) (T := F_runsTold s ) rfl rfl (ux_runsTold s ) (fun z1 e1 => ?_)
  refine UP.stp 8 (i1 := 10) (L1 := [some (.ref 123), some (.int minute), some (.int k)]) (st1 := [.int (z1 143 (((8 * minute) + k).toNatClampNeg))]) (s1 := z1) rfl ?_
  exact UP.ret (r := some (.int (z1 143 (((8 * minute) + k).toNatClampNeg)))) rfl ⟨by subst e1; first | (dsimp only [F_pullsOf]; done) | (dsimp only; done) | rfl, by subst e1; first | (dsimp only [F_pullsOf]; done) | (dsimp only; done) | rfl⟩
def W_pulls : List (Nat × Nat × Option Nat) := [(126, 129, none), (133, 144, none), (147, 147, none), (123, 123, some 2), (123, 123, some 5), (123, 123, some 7), (123, 123, some 17), (123, 123, some 19), (123, 123, some 20), (123, 123, some 21), (123, 123, some 22), (123, 123, some 23), (123, 123, some 24), (123, 123, some 25), (123, 123, some 26), (123, 123, some 27)]
def F_pulls (s : SG) (minute : Int32) (seat : Int32) : Int32 × SG := let w5 := bif m_cmp .eq (F_isMinute s minute) 0 then ((-2 : Int32), s) else (bif m_cmp .eq (F_isRower s seat).1 0 then ((-2 : Int32), (F_isRower s seat).2) else (F_pullsOf (F_isRower s seat).2 minute seat)); w5
set_option maxRecDepth 20000 in
set_option maxHeartbeats 200000 in
theorem fr_pulls (s : SG) (minute : Int32) (seat : Int32)  : Fr W_pulls s (F_pulls s minute seat).2 := by dsimp only [F_pulls]; exact (Fr.bifp (b := m_cmp .eq (F_isMinute s minute) 0) (x := ((-2 : Int32), s)) (y := (bif m_cmp .eq (F_isRower s seat).1 0 then ((-2 : Int32), (F_isRower s seat).2) else (F_pullsOf (F_isRower s seat).2 minute seat))) (fun x : Int32 × SG => x.2) (by (try dsimp only); exact (Fr.rf _ _)) (by (try dsimp only); exact (Fr.bifp (b := m_cmp .eq (F_isRower s seat).1 0) (x := ((-2 : Int32), (F_isRower s seat).2)) (y := (F_pullsOf (F_isRower s seat).2 minute seat)) (fun x : Int32 × SG => x.2) (by (try dsimp only); exact (Fr.tr (s1 := s) (Fr.rf _ _) (Fr.wk (W2 := W_pulls) (fr_isRower s seat) (by rfl)))) (by (try dsimp only); exact (Fr.tr (s1 := (F_isRower s seat).2) (Fr.tr (s1 := s) (Fr.rf _ _) (Fr.wk (W2 := W_pulls) (fr_isRower s seat) (by rfl))) (Fr.wk (W2 := W_pulls) (fr_pullsOf (F_isRower s seat).2 minute seat) (by rfl)))))))
set_option maxRecDepth 20000 in
set_option maxHeartbeats 200000 in
theorem ux_pulls (s : SG) (minute : Int32) (seat : Int32)  : UP m_X7_pulls 0 (m_ent 3 [.ref 123, .int minute, .int seat]) [] s (Qb (F_pulls s minute seat)) := by
  refine UP.stp 1 (i1 := 1) (L1 := [some (.ref 123), some (.int minute), some (.int seat)]) (st1 := [.int minute]) (s1 := s) rfl ?_
  refine UP.cI (M1 := m_X7_isMinute) (as := [.int minute]) (rest := []) (T := F_isMinute s minute) rfl rfl (ux_isMinute s minute) ?_
  refine mrg (m_cmp .eq (F_isMinute s minute) 0) ((-2 : Int32), s) (bif m_cmp .eq (F_isRower s seat).1 0 then ((-2 : Int32), (F_isRower s seat).2) else (F_pullsOf (F_isRower s seat).2 minute seat)) (fun w5 : Int32 × SG => UP m_X7_pulls 13 [some (.ref 123), some (.int minute), some (.int seat)] [.int w5.1] w5.2 (Qb (F_pulls s minute seat))) (fun cc kk => ?_) (fun cc kk => ?_) (fun w5 e5 => ?_)
  · skip
    refine UP.ifT rfl cc ?_
    refine UP.stp 1 (i1 := 13) (L1 := [some (.ref 123), some (.int minute), some (.int seat)]) (st1 := [.int (-2)]) (s1 := s) rfl ?_
    exact kk
  · skip
    refine UP.ifF rfl cc ?_
    refine UP.stp 2 (i1 := 5) (L1 := [some (.ref 123), some (.int minute), some (.int seat)]) (st1 := [.int seat, .ref 123]) (s1 := s) rfl ?_
    refine UP.cB (M1 := m_X7_isRower) (as := [.ref 123, .int seat]) (rest := []) (T := F_isRower s seat) rfl rfl (ux_isRower s seat) (fun z2 e2 => ?_)
    refine mrg (m_cmp .eq z2.1 0) ((-2 : Int32), z2.2) (F_pullsOf z2.2 minute seat) (fun w4 : Int32 × SG => UP m_X7_pulls 13 [some (.ref 123), some (.int minute), some (.int seat)] [.int w4.1] w4.2 (Qb (F_pulls s minute seat))) (fun cc kk => ?_) (fun cc kk => ?_) (fun w4 e4 => ?_)
    · skip
      refine UP.ifT rfl cc ?_
      refine UP.stp 1 (i1 := 13) (L1 := [some (.ref 123), some (.int minute), some (.int seat)]) (st1 := [.int (-2)]) (s1 := z2.2) rfl ?_
      exact kk
    · skip
      refine UP.ifF rfl cc ?_
      refine UP.stp 3 (i1 := 10) (L1 := [some (.ref 123), some (.int minute), some (.int seat)]) (st1 := [.int seat, .int minute, .ref 123]) (s1 := z2.2) rfl ?_
      refine UP.cB (M1 := m_X7_pullsOf) (as := [.ref 123, .int minute, .int seat]) (rest := []) (T := F_pullsOf z2.2 minute seat) rfl rfl (ux_pullsOf z2.2 minute seat) (fun z3 e3 => ?_)
      refine UP.stp 1 (i1 := 13) (L1 := [some (.ref 123), some (.int minute), some (.int seat)]) (st1 := [.int z3.1]) (s1 := z3.2) rfl ?_
      subst e3
      exact kk
    subst e4 e2
    exact kk
  exact UP.ret (r := some (.int w5.1)) rfl ⟨by subst e5; first | (dsimp only [F_pulls]; done) | (dsimp only; done) | rfl, by subst e5; first | (dsimp only [F_pulls]; done) | (dsimp only; done) | rfl⟩
def W_doneOf : List (Nat × Nat × Option Nat) := [(126, 129, none), (133, 144, none), (147, 147, none), (123, 123, some 2), (123, 123, some 5), (123, 123, some 7), (123, 123, some 17), (123, 123, some 19), (123, 123, some 20), (123, 123, some 21), (123, 123, some 22), (123, 123, some 23), (123, 123, some 24), (123, 123, some 25), (123, 123, some 26), (123, 123, some 27)]
def F_doneOf (s : SG) (k : Int32) (what : Int32) : Int32 × SG := let z1 := F_runsTold s ; let v2 := bif m_cmp .ne what 0 then z1 138 k.toNatClampNeg else z1 137 k.toNatClampNeg; (v2, z1)
set_option maxRecDepth 20000 in
set_option maxHeartbeats 200000 in
theorem fr_doneOf (s : SG) (k : Int32) (what : Int32)  : Fr W_doneOf s (F_doneOf s k what).2 := by dsimp only [F_doneOf]; exact (Fr.tr (s1 := s) (Fr.rf _ _) (Fr.wk (W2 := W_doneOf) (fr_runsTold s ) (by rfl)))
set_option maxRecDepth 20000 in
set_option maxHeartbeats 200000 in
theorem ux_doneOf (s : SG) (k : Int32) (what : Int32)  : UP m_X7_doneOf 0 (m_ent 3 [.ref 123, .int k, .int what]) [] s (Qb (F_doneOf s k what)) := by
  refine UP.stp 1 (i1 := 1) (L1 := [some (.ref 123), some (.int k), some (.int what)]) (st1 := [.ref 123]) (s1 := s) rfl ?_
  refine UP.cV (M1 := m_X7_runsTold) (as := [.ref 123]) (rest := []) (T := F_runsTold s ) rfl rfl (ux_runsTold s ) (fun z1 e1 => ?_)
  refine UP.stp 1 (i1 := 3) (L1 := [some (.ref 123), some (.int k), some (.int what)]) (st1 := [.int what]) (s1 := z1) rfl ?_
  refine mrg (m_cmp .ne what 0) (z1 138 k.toNatClampNeg) (z1 137 k.toNatClampNeg) (fun v2 : Int32 => UP m_X7_doneOf 13 [some (.ref 123), some (.int k), some (.int what)] [.int v2] z1 (Qb (F_doneOf s k what))) (fun cc kk => ?_) (fun cc kk => ?_) (fun v2 e2 => ?_)
  · skip
    refine UP.ifT rfl cc ?_
    refine UP.stp 4 (i1 := 13) (L1 := [some (.ref 123), some (.int k), some (.int what)]) (st1 := [.int (z1 138 k.toNatClampNeg)]) (s1 := z1) rfl ?_
    exact kk
  · skip
    refine UP.ifF rfl cc ?_
    refine UP.stp 5 (i1 := 13) (L1 := [some (.ref 123), some (.int k), some (.int what)]) (st1 := [.int (z1 137 k.toNatClampNeg)]) (s1 := z1) rfl ?_
    exact kk
  exact UP.ret (r := some (.int v2)) rfl ⟨by subst e2 e1; first | (dsimp only [F_doneOf]; done) | (dsimp only; done) | rfl, by subst e2 e1; first | (dsimp only [F_doneOf]; done) | (dsimp only; done) | rfl⟩
end
section
def W_done : List (Nat × Nat × Option Nat) := [(126, 129, none), (133, 144, none), (147, 147, none), (123, 123, some 2), (123, 123, some 5), (123, 123, some 7), (123, 123, some 17), (123, 123, some 19), (123, 123, some 20), (123, 123, some 21), (123, 123, some 22), (123, 123, some 23), (123, 123, some 24), (123, 123, some 25), (123, 123, some 26), (123, 123, some 27)]
def F_done (s : SG) (seat : Int32) (what : Int32) : Int32 × SG := let z1 := F_isRower s seat; let w5 := bif m_cmp .eq z1.1 0 then ((-2 : Int32), z1.2) else (bif m_cmp .eq (F_isTwo z1.2 what) 0 then ((-2 : Int32), z1.2) else (F_doneOf z1.2 seat what)); w5
set_option maxRecDepth 20000 in
set_option maxHeartbeats 200000 in
theorem fr_done (s : SG) (seat : Int32) (what : Int32)  : Fr W_done s (F_done s seat what).2 := by dsimp only [F_done]; exact (let z1 : Int32 × SG := F_isRower s seat; (Fr.bifp (b := m_cmp .eq z1.1 0) (x := ((-2 : Int32), z1.2)) (y := (bif m_cmp .eq (F_isTwo z1.2 what) 0 then ((-2 : Int32), z1.2) else (F_doneOf z1.2 seat what))) (fun x : Int32 × SG => x.2) (by (try dsimp only); exact (Fr.tr (s1 := s) (Fr.rf _ _) (Fr.wk (W2 := W_done) (fr_isRower s seat) (by rfl)))) (by (try dsimp only); exact (Fr.bifp (b := m_cmp .eq (F_isTwo z1.2 what) 0) (x := ((-2 : Int32), z1.2)) (y := (F_doneOf z1.2 seat what)) (fun x : Int32 × SG => x.2) (by (try dsimp only); exact (Fr.tr (s1 := s) (Fr.rf _ _) (Fr.wk (W2 := W_done) (fr_isRower s seat) (by rfl)))) (by (try dsimp only); exact (Fr.tr (s1 := z1.2) (Fr.tr (s1 := s) (Fr.rf _ _) (Fr.wk (W2 := W_done) (fr_isRower s seat) (by rfl))) (Fr.wk (W2 := W_done) (fr_doneOf z1.2 seat what) (by rfl))))))))
set_option maxRecDepth 20000 in
set_option maxHeartbeats 200000 in
theorem ux_done (s : SG) (seat : Int32) (what : Int32)  : UP m_X7_done 0 (m_ent 3 [.ref 123, .int seat, .int what]) [] s (Qb (F_done s seat what)) := by
  refine UP.stp 2 (i1 := 2) (L1 := [some (.ref 123), some (.int seat), some (.int what)]) (st1 := [.int seat, .ref 123]) (s1 := s) rfl ?_
  refine UP.cB (M1 := m_X7_isRower) (as := [.ref 123, .int seat]) (rest := []) (T := F_isRower s seat) rfl rfl (ux_isRower s seat) (fun z1 e1 => ?_)
  refine mrg (m_cmp .eq z1.1 0) ((-2 : Int32), z1.2) (bif m_cmp .eq (F_isTwo z1.2 what) 0 then ((-2 : Int32), z1.2) else (F_doneOf z1.2 seat what)) (fun w5 : Int32 × SG => UP m_X7_done 13 [some (.ref 123), some (.int seat), some (.int what)] [.int w5.1] w5.2 (Qb (F_done s seat what))) (fun cc kk => ?_) (fun cc kk => ?_) (fun w5 e5 => ?_)
  · skip
    refine UP.ifT rfl cc ?_
    refine UP.stp 1 (i1 := 13) (L1 := [some (.ref 123), some (.int seat), some (.int what)]) (st1 := [.int (-2)]) (s1 := z1.2) rfl ?_
    exact kk
  · skip
    refine UP.ifF rfl cc ?_
    refine UP.stp 1 (i1 := 5) (L1 := [some (.ref 123), some (.int seat), some (.int what)]) (st1 := [.int what]) (s1 := z1.2) rfl ?_
    refine UP.cI (M1 := m_X7_isTwo) (as := [.int what]) (rest := []) (T := F_isTwo z1.2 what) rfl rfl (ux_isTwo z1.2 what) ?_
    refine mrg (m_cmp .eq (F_isTwo z1.2 what) 0) ((-2 : Int32), z1.2) (F_doneOf z1.2 seat what) (fun w4 : Int32 × SG => UP m_X7_done 13 [some (.ref 123), some (.int seat), some (.int what)] [.int w4.1] w4.2 (Qb (F_done s seat what))) (fun cc kk => ?_) (fun cc kk => ?_) (fun w4 e4 => ?_)
    · skip
      refine UP.ifT rfl cc ?_
      refine UP.stp 1 (i1 := 13) (L1 := [some (.ref 123), some (.int seat), some (.int what)]) (st1 := [.int (-2)]) (s1 := z1.2) rfl ?_
      exact kk
    · skip
      refine UP.ifF rfl cc ?_
      refine UP.stp 3 (i1 := 10) (L1 := [some (.ref 123), some (.int seat), some (.int what)]) (st1 := [.int what, .int seat, .ref 123]) (s1 := z1.2) rfl ?_
      refine UP.cB (M1 := m_X7_doneOf) (as := [.ref 123, .int seat, .int what]) (rest := []) (T := F_doneOf z1.2 seat what) rfl rfl (ux_doneOf z1.2 seat what) (fun z3 e3 => ?_)
      refine UP.stp 1 (i1 := 13) (L1 := [some (.ref 123), some (.int seat), some (.int what)]) (st1 := [.int z3.1]) (s1 := z3.2) rfl ?_
      subst e3
      exact kk
    subst e4
    exact kk
  exact UP.ret (r := some (.int w5.1)) rfl ⟨by subst e5 e1; first | (dsimp only [F_done]; done) | (dsimp only; done) | rfl, by subst e5 e1; first | (dsimp only [F_done]; done) | (dsimp only; done) | rfl⟩
def W_thereOf : List (Nat × Nat × Option Nat) := [(126, 129, none), (133, 144, none), (147, 147, none), (123, 123, some 2), (123, 123, some 5), (123, 123, some 7), (123, 123, some 17), (123, 123, some 19), (123, 123, some 20), (123, 123, some 21), (123, 123, some 22), (123, 123, some 23), (123, 123, some 24), (123, 123, some 25), (123, 123, some 26), (123, 123, some 27)]
def F_thereOf (s : SG)  : Int32 × SG := let z1 := F_runsTold s ; (z1 123 21, z1)
set_option maxRecDepth 20000 in
set_option maxHeartbeats 200000 in
theorem fr_thereOf (s : SG)   : Fr W_thereOf s (F_thereOf s).2 := by dsimp only [F_thereOf]; exact (Fr.tr (s1 := s) (Fr.rf _ _) (Fr.wk (W2 := W_thereOf) (fr_runsTold s ) (by rfl)))
set_option maxRecDepth 20000 in
set_option maxHeartbeats 200000 in
theorem ux_thereOf (s : SG)   : UP m_X7_thereOf 0 (m_ent 1 [.ref 123]) [] s (Qb (F_thereOf s)) := by
  refine UP.stp 1 (i1 := 1) (L1 := [some (.ref 123)]) (st1 := [.ref 123]) (s1 := s) rfl ?_
  refine UP.cV (M1 := m_X7_runsTold) (as := [.ref 123]) (rest := []) (T := F_runsTold s ) rfl rfl (ux_runsTold s ) (fun z1 e1 => ?_)
  refine UP.stp 2 (i1 := 4) (L1 := [some (.ref 123)]) (st1 := [.int (z1 123 21)]) (s1 := z1) rfl ?_
  exact UP.ret (r := some (.int (z1 123 21))) rfl ⟨by subst e1; first | (dsimp only [F_thereOf]; done) | (dsimp only; done) | rfl, by subst e1; first | (dsimp only [F_thereOf]; done) | (dsimp only; done) | rfl⟩
def W_there : List (Nat × Nat × Option Nat) := [(126, 129, none), (133, 144, none), (147, 147, none), (123, 123, some 2), (123, 123, some 5), (123, 123, some 7), (123, 123, some 17), (123, 123, some 19), (123, 123, some 20), (123, 123, some 21), (123, 123, some 22), (123, 123, some 23), (123, 123, some 24), (123, 123, some 25), (123, 123, some 26), (123, 123, some 27)]
def F_there (s : SG)  : Int32 × SG := let z1 := F_thereOf s ; z1
set_option maxRecDepth 20000 in
set_option maxHeartbeats 200000 in
theorem fr_there (s : SG)   : Fr W_there s (F_there s).2 := by dsimp only [F_there]; exact (Fr.tr (s1 := s) (Fr.rf _ _) (Fr.wk (W2 := W_there) (fr_thereOf s ) (by rfl)))
set_option maxRecDepth 20000 in
set_option maxHeartbeats 200000 in
theorem ux_there (s : SG)   : UP m_X7_there 0 (m_ent 1 [.ref 123]) [] s (Qb (F_there s)) := by
  refine UP.stp 1 (i1 := 1) (L1 := [some (.ref 123)]) (st1 := [.ref 123]) (s1 := s) rfl ?_
  refine UP.cB (M1 := m_X7_thereOf) (as := [.ref 123]) (rest := []) (T := F_thereOf s ) rfl rfl (ux_thereOf s ) (fun z1 e1 => ?_)
  exact UP.ret (r := some (.int z1.1)) rfl ⟨by subst e1; first | (dsimp only [F_there]; done) | (dsimp only; done) | rfl, by subst e1; first | (dsimp only [F_there]; done) | (dsimp only; done) | rfl⟩
def W_groundedOf : List (Nat × Nat × Option Nat) := [(126, 129, none), (133, 144, none), (147, 147, none), (123, 123, some 2), (123, 123, some 5), (123, 123, some 7), (123, 123, some 17), (123, 123, some 19), (123, 123, some 20), (123, 123, some 21), (123, 123, some 22), (123, 123, some 23), (123, 123, some 24), (123, 123, some 25), (123, 123, some 26), (123, 123, some 27)]
def F_groundedOf (s : SG) (what : Int32) : Int32 × SG := let z1 := F_runsTold s ; let v2 := bif m_cmp .ne what 0 then z1 123 23 else z1 123 22; (v2, z1)
set_option maxRecDepth 20000 in
set_option maxHeartbeats 200000 in
theorem fr_groundedOf (s : SG) (what : Int32)  : Fr W_groundedOf s (F_groundedOf s what).2 := by dsimp only [F_groundedOf]; exact (Fr.tr (s1 := s) (Fr.rf _ _) (Fr.wk (W2 := W_groundedOf) (fr_runsTold s ) (by rfl)))
set_option maxRecDepth 20000 in
set_option maxHeartbeats 200000 in
theorem ux_groundedOf (s : SG) (what : Int32)  : UP m_X7_groundedOf 0 (m_ent 2 [.ref 123, .int what]) [] s (Qb (F_groundedOf s what)) := by
  refine UP.stp 1 (i1 := 1) (L1 := [some (.ref 123), some (.int what)]) (st1 := [.ref 123]) (s1 := s) rfl ?_
  refine UP.cV (M1 := m_X7_runsTold) (as := [.ref 123]) (rest := []) (T := F_runsTold s ) rfl rfl (ux_runsTold s ) (fun z1 e1 => ?_)
  refine UP.stp 1 (i1 := 3) (L1 := [some (.ref 123), some (.int what)]) (st1 := [.int what]) (s1 := z1) rfl ?_
  refine mrg (m_cmp .ne what 0) (z1 123 23) (z1 123 22) (fun v2 : Int32 => UP m_X7_groundedOf 9 [some (.ref 123), some (.int what)] [.int v2] z1 (Qb (F_groundedOf s what))) (fun cc kk => ?_) (fun cc kk => ?_) (fun v2 e2 => ?_)
  · skip
    refine UP.ifT rfl cc ?_
    refine UP.stp 2 (i1 := 9) (L1 := [some (.ref 123), some (.int what)]) (st1 := [.int (z1 123 23)]) (s1 := z1) rfl ?_
    exact kk
  · skip
    refine UP.ifF rfl cc ?_
    refine UP.stp 3 (i1 := 9) (L1 := [some (.ref 123), some (.int what)]) (st1 := [.int (z1 123 22)]) (s1 := z1) rfl ?_
    exact kk
  exact UP.ret (r := some (.int v2)) rfl ⟨by subst e2 e1; first | (dsimp only [F_groundedOf]; done) | (dsimp only; done) | rfl, by subst e2 e1; first | (dsimp only [F_groundedOf]; done) | (dsimp only; done) | rfl⟩
def W_grounded : List (Nat × Nat × Option Nat) := [(126, 129, none), (133, 144, none), (147, 147, none), (123, 123, some 2), (123, 123, some 5), (123, 123, some 7), (123, 123, some 17), (123, 123, some 19), (123, 123, some 20), (123, 123, some 21), (123, 123, some 22), (123, 123, some 23), (123, 123, some 24), (123, 123, some 25), (123, 123, some 26), (123, 123, some 27)]
def F_grounded (s : SG) (what : Int32) : Int32 × SG := let w3 := bif m_cmp .eq (F_isTwo s what) 0 then ((-2 : Int32), s) else (F_groundedOf s what); w3
set_option maxRecDepth 20000 in
set_option maxHeartbeats 200000 in
theorem fr_grounded (s : SG) (what : Int32)  : Fr W_grounded s (F_grounded s what).2 := by dsimp only [F_grounded]; exact (Fr.bifp (b := m_cmp .eq (F_isTwo s what) 0) (x := ((-2 : Int32), s)) (y := (F_groundedOf s what)) (fun x : Int32 × SG => x.2) (by (try dsimp only); exact (Fr.rf _ _)) (by (try dsimp only); exact (Fr.tr (s1 := s) (Fr.rf _ _) (Fr.wk (W2 := W_grounded) (fr_groundedOf s what) (by rfl)))))
set_option maxRecDepth 20000 in
set_option maxHeartbeats 200000 in
theorem ux_grounded (s : SG) (what : Int32)  : UP m_X7_grounded 0 (m_ent 2 [.ref 123, .int what]) [] s (Qb (F_grounded s what)) := by
  refine UP.stp 1 (i1 := 1) (L1 := [some (.ref 123), some (.int what)]) (st1 := [.int what]) (s1 := s) rfl ?_
  refine UP.cI (M1 := m_X7_isTwo) (as := [.int what]) (rest := []) (T := F_isTwo s what) rfl rfl (ux_isTwo s what) ?_
  refine mrg (m_cmp .eq (F_isTwo s what) 0) ((-2 : Int32), s) (F_groundedOf s what) (fun w3 : Int32 × SG => UP m_X7_grounded 8 [some (.ref 123), some (.int what)] [.int w3.1] w3.2 (Qb (F_grounded s what))) (fun cc kk => ?_) (fun cc kk => ?_) (fun w3 e3 => ?_)
  · skip
    refine UP.ifT rfl cc ?_
    refine UP.stp 1 (i1 := 8) (L1 := [some (.ref 123), some (.int what)]) (st1 := [.int (-2)]) (s1 := s) rfl ?_
    exact kk
  · skip
    refine UP.ifF rfl cc ?_
    refine UP.stp 2 (i1 := 5) (L1 := [some (.ref 123), some (.int what)]) (st1 := [.int what, .ref 123]) (s1 := s) rfl ?_
    refine UP.cB (M1 := m_X7_groundedOf) (as := [.ref 123, .int what]) (rest := []) (T := F_groundedOf s what) rfl rfl (ux_groundedOf s what) (fun z2 e2 => ?_)
    refine UP.stp 1 (i1 := 8) (L1 := [some (.ref 123), some (.int what)]) (st1 := [.int z2.1]) (s1 := z2.2) rfl ?_
    subst e2
    exact kk
  exact UP.ret (r := some (.int w3.1)) rfl ⟨by subst e3; first | (dsimp only [F_grounded]; done) | (dsimp only; done) | rfl, by subst e3; first | (dsimp only [F_grounded]; done) | (dsimp only; done) | rfl⟩
end
section
def W_strayNow : List (Nat × Nat × Option Nat) := []
def F_strayNow (s : SG)  : Int32 := let v1 := bif m_cmp .ge (s 123 20) 10 then (s 123 20) - 10 else 10 - (s 123 20); v1
set_option maxRecDepth 20000 in
set_option maxHeartbeats 200000 in
theorem ux_strayNow (s : SG)   : UP m_X7_strayNow 0 (m_ent 1 [.ref 123]) [] s (Qi s (F_strayNow s)) := by
  refine UP.stp 3 (i1 := 3) (L1 := [some (.ref 123)]) (st1 := [.int 10, .int (s 123 20)]) (s1 := s) rfl ?_
  refine mrg (m_cmp .ge (s 123 20) 10) ((s 123 20) - 10) (10 - (s 123 20)) (fun v1 : Int32 => UP m_X7_strayNow 13 [some (.ref 123)] [.int v1] s (Qi s (F_strayNow s))) (fun cc kk => ?_) (fun cc kk => ?_) (fun v1 e1 => ?_)
  · skip
    refine UP.icT rfl cc ?_
    refine UP.stp 4 (i1 := 13) (L1 := [some (.ref 123)]) (st1 := [.int ((s 123 20) - 10)]) (s1 := s) rfl ?_
    exact kk
  · skip
    refine UP.icF rfl cc ?_
    refine UP.stp 5 (i1 := 13) (L1 := [some (.ref 123)]) (st1 := [.int (10 - (s 123 20))]) (s1 := s) rfl ?_
    exact kk
  exact UP.ret (r := some (.int v1)) rfl ⟨by subst e1; first | (dsimp only [F_strayNow]; done) | (dsimp only; done) | rfl, by subst e1; first | (dsimp only [F_strayNow]; done) | (dsimp only; done) | rfl⟩
def W_strayOf : List (Nat × Nat × Option Nat) := [(126, 129, none), (133, 144, none), (147, 147, none), (123, 123, some 2), (123, 123, some 5), (123, 123, some 7), (123, 123, some 17), (123, 123, some 19), (123, 123, some 20), (123, 123, some 21), (123, 123, some 22), (123, 123, some 23), (123, 123, some 24), (123, 123, some 25), (123, 123, some 26), (123, 123, some 27)]
def F_strayOf (s : SG) (what : Int32) : Int32 × SG := let z1 := F_runsTold s ; let v3 := bif m_cmp .ne what 0 then z1 123 24 else F_strayNow z1; (v3, z1)
set_option maxRecDepth 20000 in
set_option maxHeartbeats 200000 in
theorem fr_strayOf (s : SG) (what : Int32)  : Fr W_strayOf s (F_strayOf s what).2 := by dsimp only [F_strayOf]; exact (Fr.tr (s1 := s) (Fr.rf _ _) (Fr.wk (W2 := W_strayOf) (fr_runsTold s ) (by rfl)))
set_option maxRecDepth 20000 in
set_option maxHeartbeats 200000 in
theorem ux_strayOf (s : SG) (what : Int32)  : UP m_X7_strayOf 0 (m_ent 2 [.ref 123, .int what]) [] s (Qb (F_strayOf s what)) := by
  refine UP.stp 1 (i1 := 1) (L1 := [some (.ref 123), some (.int what)]) (st1 := [.ref 123]) (s1 := s) rfl ?_
  refine UP.cV (M1 := m_X7_runsTold) (as := [.ref 123]) (rest := []) (T := F_runsTold s ) rfl rfl (ux_runsTold s ) (fun z1 e1 => ?_)
  refine UP.stp 1 (i1 := 3) (L1 := [some (.ref 123), some (.int what)]) (st1 := [.int what]) (s1 := z1) rfl ?_
  refine mrg (m_cmp .ne what 0) (z1 123 24) (F_strayNow z1) (fun v3 : Int32 => UP m_X7_strayOf 9 [some (.ref 123), some (.int what)] [.int v3] z1 (Qb (F_strayOf s what))) (fun cc kk => ?_) (fun cc kk => ?_) (fun v3 e3 => ?_)
  · skip
    refine UP.ifT rfl cc ?_
    refine UP.stp 2 (i1 := 9) (L1 := [some (.ref 123), some (.int what)]) (st1 := [.int (z1 123 24)]) (s1 := z1) rfl ?_
    exact kk
  · skip
    refine UP.ifF rfl cc ?_
    refine UP.stp 1 (i1 := 5) (L1 := [some (.ref 123), some (.int what)]) (st1 := [.ref 123]) (s1 := z1) rfl ?_
    refine UP.cI (M1 := m_X7_strayNow) (as := [.ref 123]) (rest := []) (T := F_strayNow z1 ) rfl rfl (ux_strayNow z1 ) ?_
    refine UP.stp 1 (i1 := 9) (L1 := [some (.ref 123), some (.int what)]) (st1 := [.int (F_strayNow z1)]) (s1 := z1) rfl ?_
    exact kk
  exact UP.ret (r := some (.int v3)) rfl ⟨by subst e3 e1; first | (dsimp only [F_strayOf]; done) | (dsimp only; done) | rfl, by subst e3 e1; first | (dsimp only [F_strayOf]; done) | (dsimp only; done) | rfl⟩
def W_stray : List (Nat × Nat × Option Nat) := [(126, 129, none), (133, 144, none), (147, 147, none), (123, 123, some 2), (123, 123, some 5), (123, 123, some 7), (123, 123, some 17), (123, 123, some 19), (123, 123, some 20), (123, 123, some 21), (123, 123, some 22), (123, 123, some 23), (123, 123, some 24), (123, 123, some 25), (123, 123, some 26), (123, 123, some 27)]
def F_stray (s : SG) (what : Int32) : Int32 × SG := let w3 := bif m_cmp .eq (F_isTwo s what) 0 then ((-2 : Int32), s) else (F_strayOf s what); w3
set_option maxRecDepth 20000 in
set_option maxHeartbeats 200000 in
theorem fr_stray (s : SG) (what : Int32)  : Fr W_stray s (F_stray s what).2 := by dsimp only [F_stray]; exact (Fr.bifp (b := m_cmp .eq (F_isTwo s what) 0) (x := ((-2 : Int32), s)) (y := (F_strayOf s what)) (fun x : Int32 × SG => x.2) (by (try dsimp only); exact (Fr.rf _ _)) (by (try dsimp only); exact (Fr.tr (s1 := s) (Fr.rf _ _) (Fr.wk (W2 := W_stray) (fr_strayOf s what) (by rfl)))))
set_option maxRecDepth 20000 in
set_option maxHeartbeats 200000 in
theorem ux_stray (s : SG) (what : Int32)  : UP m_X7_stray 0 (m_ent 2 [.ref 123, .int what]) [] s (Qb (F_stray s what)) := by
  refine UP.stp 1 (i1 := 1) (L1 := [some (.ref 123), some (.int what)]) (st1 := [.int what]) (s1 := s) rfl ?_
  refine UP.cI (M1 := m_X7_isTwo) (as := [.int what]) (rest := []) (T := F_isTwo s what) rfl rfl (ux_isTwo s what) ?_
  refine mrg (m_cmp .eq (F_isTwo s what) 0) ((-2 : Int32), s) (F_strayOf s what) (fun w3 : Int32 × SG => UP m_X7_stray 8 [some (.ref 123), some (.int what)] [.int w3.1] w3.2 (Qb (F_stray s what))) (fun cc kk => ?_) (fun cc kk => ?_) (fun w3 e3 => ?_)
  · skip
    refine UP.ifT rfl cc ?_
    refine UP.stp 1 (i1 := 8) (L1 := [some (.ref 123), some (.int what)]) (st1 := [.int (-2)]) (s1 := s) rfl ?_
    exact kk
  · skip
    refine UP.ifF rfl cc ?_
    refine UP.stp 2 (i1 := 5) (L1 := [some (.ref 123), some (.int what)]) (st1 := [.int what, .ref 123]) (s1 := s) rfl ?_
    refine UP.cB (M1 := m_X7_strayOf) (as := [.ref 123, .int what]) (rest := []) (T := F_strayOf s what) rfl rfl (ux_strayOf s what) (fun z2 e2 => ?_)
    refine UP.stp 1 (i1 := 8) (L1 := [some (.ref 123), some (.int what)]) (st1 := [.int z2.1]) (s1 := z2.2) rfl ?_
    subst e2
    exact kk
  exact UP.ret (r := some (.int w3.1)) rfl ⟨by subst e3; first | (dsimp only [F_stray]; done) | (dsimp only; done) | rfl, by subst e3; first | (dsimp only [F_stray]; done) | (dsimp only; done) | rfl⟩
def W_bestOf : List (Nat × Nat × Option Nat) := [(126, 129, none), (133, 144, none), (147, 147, none), (123, 123, some 2), (123, 123, some 5), (123, 123, some 7), (123, 123, some 17), (123, 123, some 19), (123, 123, some 20), (123, 123, some 21), (123, 123, some 22), (123, 123, some 23), (123, 123, some 24), (123, 123, some 25), (123, 123, some 26), (123, 123, some 27)]
def B_bestOf_8 (z1 : SG) (i2 : Nat) (a2 : Int32 × Int32) : Int32 × Int32 := let v3 := bif m_cmp .le (z1 138 i2) a2.2 then a2.1 else Int32.ofNat i2; let v4 := bif m_cmp .le (z1 138 i2) a2.2 then a2.2 else z1 138 i2; (v3, v4)
def F_bestOf (s : SG)  : Int32 × SG := let z1 := F_runsTold s ; let z2 := itr (B_bestOf_8 z1) 0 ((z1 123 2).toNatClampNeg) ((-1), 0); (z2.1, z1)
set_option maxRecDepth 20000 in
set_option maxHeartbeats 200000 in
theorem fr_bestOf (s : SG)   : Fr W_bestOf s (F_bestOf s).2 := by dsimp only [F_bestOf]; exact (Fr.tr (s1 := s) (Fr.rf _ _) (Fr.wk (W2 := W_bestOf) (fr_runsTold s ) (by rfl)))
set_option maxRecDepth 20000 in
set_option maxHeartbeats 200000 in
theorem ux_bestOf (s : SG)   : UP m_X7_bestOf 0 (m_ent 4 [.ref 123]) [] s (Qb (F_bestOf s)) := by
  refine UP.stp 1 (i1 := 1) (L1 := [some (.ref 123), none, none, none]) (st1 := [.ref 123]) (s1 := s) rfl ?_
  refine UP.cV (M1 := m_X7_runsTold) (as := [.ref 123]) (rest := []) (T := F_runsTold s ) rfl rfl (ux_runsTold s ) (fun z1 e1 => ?_)
  refine UP.stp 6 (i1 := 8) (L1 := [some (.ref 123), some (.int (-1)), some (.int 0), some (.int 0)]) (st1 := []) (s1 := z1) rfl ?_
  refine lp (fun (i2 : Nat) (a2 : Int32 × Int32) => UP m_X7_bestOf 8 [some (.ref 123), some (.int a2.1), some (.int a2.2), some (.int (Int32.ofNat i2))] [] z1 (Qb (F_bestOf s))) (fun (_ : Nat) (a2 : Int32 × Int32) => Fr W_bestOf z1 z1) (B_bestOf_8 z1) ((z1 123 2).toNatClampNeg) (fun i2 a2 hi2 g2 => g2) (fun i2 a2 hi2 g2 kk => ?_) ((z1 123 2).toNatClampNeg) (0) ((-1), 0) (by  omega) (Fr.rf _ _) (fun z2 e2 g2 => ?_)
  · skip
    have hbi2 := cl_lt (z1 123 2)
    refine UP.stp 3 (i1 := 11) (L1 := [some (.ref 123), some (.int a2.1), some (.int a2.2), some (.int (Int32.ofNat i2))]) (st1 := [.int (z1 123 2), .int (Int32.ofNat i2)]) (s1 := z1) rfl ?_
    refine UP.icF rfl (ge_F hi2) ?_
    refine UP.stp 3 (i1 := 15) (L1 := [some (.ref 123), some (.int a2.1), some (.int a2.2), some (.int (Int32.ofNat i2))]) (st1 := [.int (Int32.ofNat i2), .ref 138]) (s1 := z1) rfl ?_
    refine UP.ald (e := i2) rfl rfl (by omega) ?_
    show UP m_X7_bestOf 16 [some (.ref 123), some (.int a2.1), some (.int a2.2), some (.int (Int32.ofNat i2))] [.int (z1 138 i2)] z1 (Qb (F_bestOf s))
    refine UP.stp 1 (i1 := 17) (L1 := [some (.ref 123), some (.int a2.1), some (.int a2.2), some (.int (Int32.ofNat i2))]) (st1 := [.int a2.2, .int (z1 138 i2)]) (s1 := z1) rfl ?_
    refine mrg (m_cmp .le (z1 138 i2) a2.2) a2.1 (Int32.ofNat i2) (fun v3 : Int32 => UP m_X7_bestOf 21 [some (.ref 123), some (.int a2.1), some (.int a2.2), some (.int (Int32.ofNat i2))] [.int v3] z1 (Qb (F_bestOf s))) (fun cc kk => ?_) (fun cc kk => ?_) (fun v3 e3 => ?_)
    · skip
      refine UP.icT rfl cc ?_
      refine UP.stp 1 (i1 := 21) (L1 := [some (.ref 123), some (.int a2.1), some (.int a2.2), some (.int (Int32.ofNat i2))]) (st1 := [.int a2.1]) (s1 := z1) rfl ?_
      exact kk
    · skip
      refine UP.icF rfl cc ?_
      refine UP.stp 2 (i1 := 21) (L1 := [some (.ref 123), some (.int a2.1), some (.int a2.2), some (.int (Int32.ofNat i2))]) (st1 := [.int (Int32.ofNat i2)]) (s1 := z1) rfl ?_
      exact kk
    refine UP.stp 4 (i1 := 25) (L1 := [some (.ref 123), some (.int v3), some (.int a2.2), some (.int (Int32.ofNat i2))]) (st1 := [.int (Int32.ofNat i2), .ref 138]) (s1 := z1) rfl ?_
    refine UP.ald (e := i2) rfl rfl (by omega) ?_
    show UP m_X7_bestOf 26 [some (.ref 123), some (.int v3), some (.int a2.2), some (.int (Int32.ofNat i2))] [.int (z1 138 i2)] z1 (Qb (F_bestOf s))
    refine UP.stp 1 (i1 := 27) (L1 := [some (.ref 123), some (.int v3), some (.int a2.2), some (.int (Int32.ofNat i2))]) (st1 := [.int a2.2, .int (z1 138 i2)]) (s1 := z1) rfl ?_
    refine mrg (m_cmp .le (z1 138 i2) a2.2) a2.2 (z1 138 i2) (fun v4 : Int32 => UP m_X7_bestOf 34 [some (.ref 123), some (.int v3), some (.int a2.2), some (.int (Int32.ofNat i2))] [.int v4] z1 (Qb (F_bestOf s))) (fun cc kk => ?_) (fun cc kk => ?_) (fun v4 e4 => ?_)
    · skip
      refine UP.icT rfl cc ?_
      refine UP.stp 1 (i1 := 34) (L1 := [some (.ref 123), some (.int v3), some (.int a2.2), some (.int (Int32.ofNat i2))]) (st1 := [.int a2.2]) (s1 := z1) rfl ?_
      exact kk
    · skip
      refine UP.icF rfl cc ?_
      refine UP.stp 3 (i1 := 31) (L1 := [some (.ref 123), some (.int v3), some (.int a2.2), some (.int (Int32.ofNat i2))]) (st1 := [.int (Int32.ofNat i2), .ref 138]) (s1 := z1) rfl ?_
      refine UP.ald (e := i2) rfl rfl (by omega) ?_
      show UP m_X7_bestOf 32 [some (.ref 123), some (.int v3), some (.int a2.2), some (.int (Int32.ofNat i2))] [.int (z1 138 i2)] z1 (Qb (F_bestOf s))
      refine UP.stp 1 (i1 := 34) (L1 := [some (.ref 123), some (.int v3), some (.int a2.2), some (.int (Int32.ofNat i2))]) (st1 := [.int (z1 138 i2)]) (s1 := z1) rfl ?_
      exact kk
    refine UP.stp 3 (i1 := 8) (L1 := [some (.ref 123), some (.int v3), some (.int v4), some (.int ((Int32.ofNat i2) + 1))]) (st1 := []) (s1 := z1) rfl ?_
    subst e4 e3
    rw [ofn_s]
    try dsimp only [B_bestOf_8] at kk
    exact kk
  refine UP.stp 3 (i1 := 11) (L1 := [some (.ref 123), some (.int z2.1), some (.int z2.2), some (.int (Int32.ofNat ((z1 123 2).toNatClampNeg)))]) (st1 := [.int (z1 123 2), .int (Int32.ofNat ((z1 123 2).toNatClampNeg))]) (s1 := z1) rfl ?_
  refine UP.icT rfl (ge_T _) ?_
  refine UP.stp 1 (i1 := 38) (L1 := [some (.ref 123), some (.int z2.1), some (.int z2.2), some (.int (Int32.ofNat ((z1 123 2).toNatClampNeg)))]) (st1 := [.int z2.1]) (s1 := z1) rfl ?_
  exact UP.ret (r := some (.int z2.1)) rfl ⟨by subst e2 e1; first | (dsimp only [F_bestOf]; done) | (dsimp only; done) | rfl, by subst e2 e1; first | (dsimp only [F_bestOf]; done) | (dsimp only; done) | rfl⟩
end
section
def W_best : List (Nat × Nat × Option Nat) := [(126, 129, none), (133, 144, none), (147, 147, none), (123, 123, some 2), (123, 123, some 5), (123, 123, some 7), (123, 123, some 17), (123, 123, some 19), (123, 123, some 20), (123, 123, some 21), (123, 123, some 22), (123, 123, some 23), (123, 123, some 24), (123, 123, some 25), (123, 123, some 26), (123, 123, some 27)]
def F_best (s : SG)  : Int32 × SG := let z1 := F_bestOf s ; z1
set_option maxRecDepth 20000 in
set_option maxHeartbeats 200000 in
theorem fr_best (s : SG)   : Fr W_best s (F_best s).2 := by dsimp only [F_best]; exact (Fr.tr (s1 := s) (Fr.rf _ _) (Fr.wk (W2 := W_best) (fr_bestOf s ) (by rfl)))
set_option maxRecDepth 20000 in
set_option maxHeartbeats 200000 in
theorem ux_best (s : SG)   : UP m_X7_best 0 (m_ent 1 [.ref 123]) [] s (Qb (F_best s)) := by
  refine UP.stp 1 (i1 := 1) (L1 := [some (.ref 123)]) (st1 := [.ref 123]) (s1 := s) rfl ?_
  refine UP.cB (M1 := m_X7_bestOf) (as := [.ref 123]) (rest := []) (T := F_bestOf s ) rfl rfl (ux_bestOf s ) (fun z1 e1 => ?_)
  exact UP.ret (r := some (.int z1.1)) rfl ⟨by subst e1; first | (dsimp only [F_best]; done) | (dsimp only; done) | rfl, by subst e1; first | (dsimp only [F_best]; done) | (dsimp only; done) | rfl⟩
def W_idleOf : List (Nat × Nat × Option Nat) := [(126, 129, none), (133, 144, none), (147, 147, none), (123, 123, some 2), (123, 123, some 5), (123, 123, some 7), (123, 123, some 17), (123, 123, some 19), (123, 123, some 20), (123, 123, some 21), (123, 123, some 22), (123, 123, some 23), (123, 123, some 24), (123, 123, some 25), (123, 123, some 26), (123, 123, some 27)]
def B_idleOf_6 (z1 : SG) (i2 : Nat) (a2 : Int32) : Int32 := let v3 := bif m_cmp .ne (z1 137 i2) 0 then (0 : Int32) else 1 <<< ((Int32.ofNat i2) &&& 31); let v4 := a2 ||| v3; v4
def F_idleOf (s : SG)  : Int32 × SG := let z1 := F_runsTold s ; let z2 := itr (B_idleOf_6 z1) 0 ((z1 123 2).toNatClampNeg) (0 : Int32); (z2, z1)
set_option maxRecDepth 20000 in
set_option maxHeartbeats 200000 in
theorem fr_idleOf (s : SG)   : Fr W_idleOf s (F_idleOf s).2 := by dsimp only [F_idleOf]; exact (Fr.tr (s1 := s) (Fr.rf _ _) (Fr.wk (W2 := W_idleOf) (fr_runsTold s ) (by rfl)))
set_option maxRecDepth 20000 in
set_option maxHeartbeats 200000 in
theorem ux_idleOf (s : SG)   : UP m_X7_idleOf 0 (m_ent 3 [.ref 123]) [] s (Qb (F_idleOf s)) := by
  refine UP.stp 1 (i1 := 1) (L1 := [some (.ref 123), none, none]) (st1 := [.ref 123]) (s1 := s) rfl ?_
  refine UP.cV (M1 := m_X7_runsTold) (as := [.ref 123]) (rest := []) (T := F_runsTold s ) rfl rfl (ux_runsTold s ) (fun z1 e1 => ?_)
  refine UP.stp 4 (i1 := 6) (L1 := [some (.ref 123), some (.int 0), some (.int 0)]) (st1 := []) (s1 := z1) rfl ?_
  refine lp (fun (i2 : Nat) (a2 : Int32) => UP m_X7_idleOf 6 [some (.ref 123), some (.int a2), some (.int (Int32.ofNat i2))] [] z1 (Qb (F_idleOf s))) (fun (_ : Nat) (a2 : Int32) => Fr W_idleOf z1 z1) (B_idleOf_6 z1) ((z1 123 2).toNatClampNeg) (fun i2 a2 hi2 g2 => g2) (fun i2 a2 hi2 g2 kk => ?_) ((z1 123 2).toNatClampNeg) (0) (0 : Int32) (by  omega) (Fr.rf _ _) (fun z2 e2 g2 => ?_)
  · skip
    have hbi2 := cl_lt (z1 123 2)
    refine UP.stp 3 (i1 := 9) (L1 := [some (.ref 123), some (.int a2), some (.int (Int32.ofNat i2))]) (st1 := [.int (z1 123 2), .int (Int32.ofNat i2)]) (s1 := z1) rfl ?_
    refine UP.icF rfl (ge_F hi2) ?_
    refine UP.stp 4 (i1 := 14) (L1 := [some (.ref 123), some (.int a2), some (.int (Int32.ofNat i2))]) (st1 := [.int (Int32.ofNat i2), .ref 137, .int a2]) (s1 := z1) rfl ?_
    refine UP.ald (e := i2) rfl rfl (by omega) ?_
    show UP m_X7_idleOf 15 [some (.ref 123), some (.int a2), some (.int (Int32.ofNat i2))] [.int (z1 137 i2), .int a2] z1 (Qb (F_idleOf s))
    refine mrg (m_cmp .ne (z1 137 i2) 0) (0 : Int32) (1 <<< ((Int32.ofNat i2) &&& 31)) (fun v3 : Int32 => UP m_X7_idleOf 21 [some (.ref 123), some (.int a2), some (.int (Int32.ofNat i2))] [.int v3, .int a2] z1 (Qb (F_idleOf s))) (fun cc kk => ?_) (fun cc kk => ?_) (fun v3 e3 => ?_)
    · skip
      refine UP.ifT rfl cc ?_
      refine UP.stp 1 (i1 := 21) (L1 := [some (.ref 123), some (.int a2), some (.int (Int32.ofNat i2))]) (st1 := [.int 0, .int a2]) (s1 := z1) rfl ?_
      exact kk
    · skip
      refine UP.ifF rfl cc ?_
      refine UP.stp 4 (i1 := 21) (L1 := [some (.ref 123), some (.int a2), some (.int (Int32.ofNat i2))]) (st1 := [.int (1 <<< ((Int32.ofNat i2) &&& 31)), .int a2]) (s1 := z1) rfl ?_
      exact kk
    refine UP.stp 1 (i1 := 22) (L1 := [some (.ref 123), some (.int a2), some (.int (Int32.ofNat i2))]) (st1 := [.int (a2 ||| v3)]) (s1 := z1) rfl ?_
    refine nm (G := fun v4 => UP m_X7_idleOf 22 [some (.ref 123), some (.int a2), some (.int (Int32.ofNat i2))] [.int v4] z1 (Qb (F_idleOf s))) (a2 ||| v3) (fun v4 e4 => ?_)
    refine UP.stp 3 (i1 := 6) (L1 := [some (.ref 123), some (.int v4), some (.int ((Int32.ofNat i2) + 1))]) (st1 := []) (s1 := z1) rfl ?_
    subst e4 e3
    rw [ofn_s]
    try dsimp only [B_idleOf_6] at kk
    exact kk
  refine UP.stp 3 (i1 := 9) (L1 := [some (.ref 123), some (.int z2), some (.int (Int32.ofNat ((z1 123 2).toNatClampNeg)))]) (st1 := [.int (z1 123 2), .int (Int32.ofNat ((z1 123 2).toNatClampNeg))]) (s1 := z1) rfl ?_
  refine UP.icT rfl (ge_T _) ?_
  refine UP.stp 1 (i1 := 26) (L1 := [some (.ref 123), some (.int z2), some (.int (Int32.ofNat ((z1 123 2).toNatClampNeg)))]) (st1 := [.int z2]) (s1 := z1) rfl ?_
  exact UP.ret (r := some (.int z2)) rfl ⟨by subst e2 e1; first | (dsimp only [F_idleOf]; done) | (dsimp only; done) | rfl, by subst e2 e1; first | (dsimp only [F_idleOf]; done) | (dsimp only; done) | rfl⟩
def W_idle : List (Nat × Nat × Option Nat) := [(126, 129, none), (133, 144, none), (147, 147, none), (123, 123, some 2), (123, 123, some 5), (123, 123, some 7), (123, 123, some 17), (123, 123, some 19), (123, 123, some 20), (123, 123, some 21), (123, 123, some 22), (123, 123, some 23), (123, 123, some 24), (123, 123, some 25), (123, 123, some 26), (123, 123, some 27)]
def F_idle (s : SG)  : Int32 × SG := let z1 := F_idleOf s ; z1
set_option maxRecDepth 20000 in
set_option maxHeartbeats 200000 in
theorem fr_idle (s : SG)   : Fr W_idle s (F_idle s).2 := by dsimp only [F_idle]; exact (Fr.tr (s1 := s) (Fr.rf _ _) (Fr.wk (W2 := W_idle) (fr_idleOf s ) (by rfl)))
set_option maxRecDepth 20000 in
set_option maxHeartbeats 200000 in
theorem ux_idle (s : SG)   : UP m_X7_idle 0 (m_ent 1 [.ref 123]) [] s (Qb (F_idle s)) := by
  refine UP.stp 1 (i1 := 1) (L1 := [some (.ref 123)]) (st1 := [.ref 123]) (s1 := s) rfl ?_
  refine UP.cB (M1 := m_X7_idleOf) (as := [.ref 123]) (rest := []) (T := F_idleOf s ) rfl rfl (ux_idleOf s ) (fun z1 e1 => ?_)
  exact UP.ret (r := some (.int z1.1)) rfl ⟨by subst e1; first | (dsimp only [F_idle]; done) | (dsimp only; done) | rfl, by subst e1; first | (dsimp only [F_idle]; done) | (dsimp only; done) | rfl⟩
end
